theorem dX7_least_0 : decode cX7_least 0 = .ok (.iconst 0, 1) := by decide +kernel
theorem dX7_least_1 : decode cX7_least 1 = .ok (.istore_n 1, 1) := by decide +kernel
theorem dX7_least_2 : decode cX7_least 2 = .ok (.iload_n 1, 1) := by decide +kernel
theorem dX7_least_3 : decode cX7_least 3 = .ok (.bipush 20, 2) := by decide +kernel
theorem dX7_least_5 : decode cX7_least 5 = .ok (.if_icmp .ge 19, 3) := by decide +kernel
theorem dX7_least_8 : decode cX7_least 8 = .ok (.iload_n 0, 1) := by decide +kernel
theorem dX7_least_9 : decode cX7_least 9 = .ok (.iload_n 1, 1) := by decide +kernel
theorem dX7_least_10 : decode cX7_least 10 = .ok (.invokestatic 74, 3) := by decide +kernel
theorem dX7_least_13 : decode cX7_least 13 = .ok (.ifCond .eq 5, 3) := by decide +kernel
theorem dX7_least_16 : decode cX7_least 16 = .ok (.iload_n 1, 1) := by decide +kernel
theorem dX7_least_17 : decode cX7_least 17 = .ok (.ireturn, 1) := by decide +kernel
theorem dX7_least_18 : decode cX7_least 18 = .ok (.iinc 1 1, 3) := by decide +kernel
theorem dX7_least_21 : decode cX7_least 21 = .ok (.goto (-19), 3) := by decide +kernel
theorem dX7_least_24 : decode cX7_least 24 = .ok (.bipush (-9), 2) := by decide +kernel
theorem dX7_least_26 : decode cX7_least 26 = .ok (.ireturn, 1) := by decide +kernel
theorem dX7_takes_0 : decode cX7_takes 0 = .ok (.iload_n 2, 1) := by decide +kernel
theorem dX7_takes_1 : decode cX7_takes 1 = .ok (.iconst 3, 1) := by decide +kernel
theorem dX7_takes_2 : decode cX7_takes 2 = .ok (.if_icmp .ne 16, 3) := by decide +kernel
theorem dX7_takes_5 : decode cX7_takes 5 = .ok (.iload_n 1, 1) := by decide +kernel
theorem dX7_takes_6 : decode cX7_takes 6 = .ok (.iconst 5, 1) := by decide +kernel
theorem dX7_takes_7 : decode cX7_takes 7 = .ok (.ishl, 1) := by decide +kernel
theorem dX7_takes_8 : decode cX7_takes 8 = .ok (.iload_n 1, 1) := by decide +kernel
theorem dX7_takes_9 : decode cX7_takes 9 = .ok (.iconst 5, 1) := by decide +kernel
theorem dX7_takes_10 : decode cX7_takes 10 = .ok (.ishr, 1) := by decide +kernel
theorem dX7_takes_11 : decode cX7_takes 11 = .ok (.ior, 1) := by decide +kernel
theorem dX7_takes_12 : decode cX7_takes 12 = .ok (.ldc 98, 2) := by decide +kernel
theorem dX7_takes_14 : decode cX7_takes 14 = .ok (.iand, 1) := by decide +kernel
theorem dX7_takes_15 : decode cX7_takes 15 = .ok (.goto 7, 3) := by decide +kernel
theorem dX7_takes_18 : decode cX7_takes 18 = .ok (.iload_n 1, 1) := by decide +kernel
theorem dX7_takes_19 : decode cX7_takes 19 = .ok (.invokestatic 112, 3) := by decide +kernel
theorem dX7_takes_22 : decode cX7_takes 22 = .ok (.istore 4, 2) := by decide +kernel
theorem dX7_takes_24 : decode cX7_takes 24 = .ok (.iload_n 2, 1) := by decide +kernel
theorem dX7_takes_25 : decode cX7_takes 25 = .ok (.iconst 2, 1) := by decide +kernel
theorem dX7_takes_26 : decode cX7_takes 26 = .ok (.if_icmp .ne 8, 3) := by decide +kernel
theorem dX7_takes_29 : decode cX7_takes 29 = .ok (.bipush (-9), 2) := by decide +kernel
theorem dX7_takes_31 : decode cX7_takes 31 = .ok (.goto 10, 3) := by decide +kernel
theorem dX7_takes_34 : decode cX7_takes 34 = .ok (.iload 4, 2) := by decide +kernel
theorem dX7_takes_36 : decode cX7_takes 36 = .ok (.iload_n 3, 1) := by decide +kernel
theorem dX7_takes_37 : decode cX7_takes 37 = .ok (.iand, 1) := by decide +kernel
theorem dX7_takes_38 : decode cX7_takes 38 = .ok (.invokestatic 116, 3) := by decide +kernel
theorem dX7_takes_41 : decode cX7_takes 41 = .ok (.ireturn, 1) := by decide +kernel
theorem dX7_freePaste_0 : decode cX7_freePaste 0 = .ok (.aload_n 0, 1) := by decide +kernel
theorem dX7_freePaste_1 : decode cX7_freePaste 1 = .ok (.iload_n 1, 1) := by decide +kernel
theorem dX7_freePaste_2 : decode cX7_freePaste 2 = .ok (.bipush 7, 2) := by decide +kernel
theorem dX7_freePaste_4 : decode cX7_freePaste 4 = .ok (.invokevirtual 119, 3) := by decide +kernel
theorem dX7_freePaste_7 : decode cX7_freePaste 7 = .ok (.istore_n 2, 1) := by decide +kernel
theorem dX7_freePaste_8 : decode cX7_freePaste 8 = .ok (.iconst 0, 1) := by decide +kernel
theorem dX7_freePaste_9 : decode cX7_freePaste 9 = .ok (.istore_n 3, 1) := by decide +kernel
theorem dX7_freePaste_10 : decode cX7_freePaste 10 = .ok (.iload_n 3, 1) := by decide +kernel
theorem dX7_freePaste_11 : decode cX7_freePaste 11 = .ok (.bipush 20, 2) := by decide +kernel
theorem dX7_freePaste_13 : decode cX7_freePaste 13 = .ok (.if_icmp .ge 29, 3) := by decide +kernel
theorem dX7_freePaste_16 : decode cX7_freePaste 16 = .ok (.iload_n 2, 1) := by decide +kernel
theorem dX7_freePaste_17 : decode cX7_freePaste 17 = .ok (.aload_n 0, 1) := by decide +kernel
theorem dX7_freePaste_18 : decode cX7_freePaste 18 = .ok (.iload_n 3, 1) := by decide +kernel
theorem dX7_freePaste_19 : decode cX7_freePaste 19 = .ok (.invokevirtual 122, 3) := by decide +kernel
theorem dX7_freePaste_22 : decode cX7_freePaste 22 = .ok (.ifCond .eq 11, 3) := by decide +kernel
theorem dX7_freePaste_25 : decode cX7_freePaste 25 = .ok (.iconst 1, 1) := by decide +kernel
theorem dX7_freePaste_26 : decode cX7_freePaste 26 = .ok (.iload_n 3, 1) := by decide +kernel
theorem dX7_freePaste_27 : decode cX7_freePaste 27 = .ok (.ishl, 1) := by decide +kernel
theorem dX7_freePaste_28 : decode cX7_freePaste 28 = .ok (.iconst (-1), 1) := by decide +kernel
theorem dX7_freePaste_29 : decode cX7_freePaste 29 = .ok (.ixor, 1) := by decide +kernel
theorem dX7_freePaste_30 : decode cX7_freePaste 30 = .ok (.goto 4, 3) := by decide +kernel
theorem dX7_freePaste_33 : decode cX7_freePaste 33 = .ok (.iconst (-1), 1) := by decide +kernel
theorem dX7_freePaste_34 : decode cX7_freePaste 34 = .ok (.iand, 1) := by decide +kernel
theorem dX7_freePaste_35 : decode cX7_freePaste 35 = .ok (.istore_n 2, 1) := by decide +kernel
theorem dX7_freePaste_36 : decode cX7_freePaste 36 = .ok (.iinc 3 1, 3) := by decide +kernel
theorem dX7_freePaste_39 : decode cX7_freePaste 39 = .ok (.goto (-29), 3) := by decide +kernel
theorem dX7_freePaste_42 : decode cX7_freePaste 42 = .ok (.iload_n 2, 1) := by decide +kernel
theorem dX7_freePaste_43 : decode cX7_freePaste 43 = .ok (.ireturn, 1) := by decide +kernel
theorem dX7_grow_0 : decode cX7_grow 0 = .ok (.aload_n 0, 1) := by decide +kernel
theorem dX7_grow_1 : decode cX7_grow 1 = .ok (.aload_n 0, 1) := by decide +kernel
theorem dX7_grow_2 : decode cX7_grow 2 = .ok (.iload_n 1, 1) := by decide +kernel
theorem dX7_grow_3 : decode cX7_grow 3 = .ok (.iload_n 2, 1) := by decide +kernel
theorem dX7_grow_4 : decode cX7_grow 4 = .ok (.invokevirtual 119, 3) := by decide +kernel
theorem dX7_grow_7 : decode cX7_grow 7 = .ok (.aload_n 0, 1) := by decide +kernel
theorem dX7_grow_8 : decode cX7_grow 8 = .ok (.getfield 16, 3) := by decide +kernel
theorem dX7_grow_11 : decode cX7_grow 11 = .ok (.iload_n 2, 1) := by decide +kernel
theorem dX7_grow_12 : decode cX7_grow 12 = .ok (.iaload, 1) := by decide +kernel
theorem dX7_grow_13 : decode cX7_grow 13 = .ok (.aload_n 0, 1) := by decide +kernel
theorem dX7_grow_14 : decode cX7_grow 14 = .ok (.iload_n 1, 1) := by decide +kernel
theorem dX7_grow_15 : decode cX7_grow 15 = .ok (.invokevirtual 126, 3) := by decide +kernel
theorem dX7_grow_18 : decode cX7_grow 18 = .ok (.invokevirtual 129, 3) := by decide +kernel
theorem dX7_grow_21 : decode cX7_grow 21 = .ok (.istore_n 3, 1) := by decide +kernel
theorem dX7_grow_22 : decode cX7_grow 22 = .ok (.iload_n 3, 1) := by decide +kernel
theorem dX7_grow_23 : decode cX7_grow 23 = .ok (.bipush (-9), 2) := by decide +kernel
theorem dX7_grow_25 : decode cX7_grow 25 = .ok (.if_icmp .eq 58, 3) := by decide +kernel
theorem dX7_grow_28 : decode cX7_grow 28 = .ok (.aload_n 0, 1) := by decide +kernel
theorem dX7_grow_29 : decode cX7_grow 29 = .ok (.getfield 13, 3) := by decide +kernel
theorem dX7_grow_32 : decode cX7_grow 32 = .ok (.iload_n 3, 1) := by decide +kernel
theorem dX7_grow_33 : decode cX7_grow 33 = .ok (.iconst 5, 1) := by decide +kernel
theorem dX7_grow_34 : decode cX7_grow 34 = .ok (.idiv, 1) := by decide +kernel
theorem dX7_grow_35 : decode cX7_grow 35 = .ok (.iaload, 1) := by decide +kernel
theorem dX7_grow_36 : decode cX7_grow 36 = .ok (.istore 4, 2) := by decide +kernel
theorem dX7_grow_38 : decode cX7_grow 38 = .ok (.aload_n 0, 1) := by decide +kernel
theorem dX7_grow_39 : decode cX7_grow 39 = .ok (.getfield 19, 3) := by decide +kernel
theorem dX7_grow_42 : decode cX7_grow 42 = .ok (.bipush 35, 2) := by decide +kernel
theorem dX7_grow_44 : decode cX7_grow 44 = .ok (.iload_n 1, 1) := by decide +kernel
theorem dX7_grow_45 : decode cX7_grow 45 = .ok (.imul, 1) := by decide +kernel
theorem dX7_grow_46 : decode cX7_grow 46 = .ok (.bipush 20, 2) := by decide +kernel
theorem dX7_grow_48 : decode cX7_grow 48 = .ok (.iadd, 1) := by decide +kernel
theorem dX7_grow_49 : decode cX7_grow 49 = .ok (.iload_n 2, 1) := by decide +kernel
theorem dX7_grow_50 : decode cX7_grow 50 = .ok (.iadd, 1) := by decide +kernel
theorem dX7_grow_51 : decode cX7_grow 51 = .ok (.iaload, 1) := by decide +kernel
theorem dX7_grow_52 : decode cX7_grow 52 = .ok (.istore 5, 2) := by decide +kernel
theorem dX7_grow_54 : decode cX7_grow 54 = .ok (.iload 4, 2) := by decide +kernel
theorem dX7_grow_56 : decode cX7_grow 56 = .ok (.iload 5, 2) := by decide +kernel
theorem dX7_grow_58 : decode cX7_grow 58 = .ok (.if_icmp .eq 13, 3) := by decide +kernel
theorem dX7_grow_61 : decode cX7_grow 61 = .ok (.aload_n 0, 1) := by decide +kernel
theorem dX7_grow_62 : decode cX7_grow 62 = .ok (.iload_n 1, 1) := by decide +kernel
theorem dX7_grow_63 : decode cX7_grow 63 = .ok (.iload 5, 2) := by decide +kernel
theorem dX7_grow_65 : decode cX7_grow 65 = .ok (.iload 4, 2) := by decide +kernel
theorem dX7_grow_67 : decode cX7_grow 67 = .ok (.iconst 1, 1) := by decide +kernel
theorem dX7_grow_68 : decode cX7_grow 68 = .ok (.invokevirtual 133, 3) := by decide +kernel
theorem dX7_grow_71 : decode cX7_grow 71 = .ok (.aload_n 0, 1) := by decide +kernel
theorem dX7_grow_72 : decode cX7_grow 72 = .ok (.getfield 19, 3) := by decide +kernel
theorem dX7_grow_75 : decode cX7_grow 75 = .ok (.bipush 35, 2) := by decide +kernel
theorem dX7_grow_77 : decode cX7_grow 77 = .ok (.iload_n 1, 1) := by decide +kernel
theorem dX7_grow_78 : decode cX7_grow 78 = .ok (.imul, 1) := by decide +kernel
theorem dX7_grow_79 : decode cX7_grow 79 = .ok (.iload_n 3, 1) := by decide +kernel
theorem dX7_grow_80 : decode cX7_grow 80 = .ok (.iadd, 1) := by decide +kernel
theorem dX7_grow_81 : decode cX7_grow 81 = .ok (.iload_n 2, 1) := by decide +kernel
theorem dX7_grow_82 : decode cX7_grow 82 = .ok (.iastore, 1) := by decide +kernel
theorem dX7_grow_83 : decode cX7_grow 83 = .ok (.return_, 1) := by decide +kernel
theorem dX7_endHole_0 : decode cX7_endHole 0 = .ok (.aload_n 0, 1) := by decide +kernel
theorem dX7_endHole_1 : decode cX7_endHole 1 = .ok (.getfield 19, 3) := by decide +kernel
theorem dX7_endHole_4 : decode cX7_endHole 4 = .ok (.bipush 35, 2) := by decide +kernel
theorem dX7_endHole_6 : decode cX7_endHole 6 = .ok (.iload_n 1, 1) := by decide +kernel
theorem dX7_endHole_7 : decode cX7_endHole 7 = .ok (.imul, 1) := by decide +kernel
theorem dX7_endHole_8 : decode cX7_endHole 8 = .ok (.bipush 20, 2) := by decide +kernel
theorem dX7_endHole_10 : decode cX7_endHole 10 = .ok (.iadd, 1) := by decide +kernel
theorem dX7_endHole_11 : decode cX7_endHole 11 = .ok (.iload_n 2, 1) := by decide +kernel
theorem dX7_endHole_12 : decode cX7_endHole 12 = .ok (.iadd, 1) := by decide +kernel
theorem dX7_endHole_13 : decode cX7_endHole 13 = .ok (.bipush (-9), 2) := by decide +kernel
theorem dX7_endHole_15 : decode cX7_endHole 15 = .ok (.iastore, 1) := by decide +kernel
theorem dX7_endHole_16 : decode cX7_endHole 16 = .ok (.aload_n 0, 1) := by decide +kernel
theorem dX7_endHole_17 : decode cX7_endHole 17 = .ok (.getfield 19, 3) := by decide +kernel
theorem dX7_endHole_20 : decode cX7_endHole 20 = .ok (.bipush 35, 2) := by decide +kernel
theorem dX7_endHole_22 : decode cX7_endHole 22 = .ok (.iload_n 1, 1) := by decide +kernel
theorem dX7_endHole_23 : decode cX7_endHole 23 = .ok (.imul, 1) := by decide +kernel
theorem dX7_endHole_24 : decode cX7_endHole 24 = .ok (.bipush 25, 2) := by decide +kernel
theorem dX7_endHole_26 : decode cX7_endHole 26 = .ok (.iadd, 1) := by decide +kernel
theorem dX7_endHole_27 : decode cX7_endHole 27 = .ok (.iload_n 2, 1) := by decide +kernel
theorem dX7_endHole_28 : decode cX7_endHole 28 = .ok (.iadd, 1) := by decide +kernel
theorem dX7_endHole_29 : decode cX7_endHole 29 = .ok (.bipush (-9), 2) := by decide +kernel
theorem dX7_endHole_31 : decode cX7_endHole 31 = .ok (.iastore, 1) := by decide +kernel
theorem dX7_endHole_32 : decode cX7_endHole 32 = .ok (.return_, 1) := by decide +kernel
theorem dX7_join_0 : decode cX7_join 0 = .ok (.aload_n 0, 1) := by decide +kernel
theorem dX7_join_1 : decode cX7_join 1 = .ok (.iload_n 1, 1) := by decide +kernel
theorem dX7_join_2 : decode cX7_join 2 = .ok (.iload_n 2, 1) := by decide +kernel
theorem dX7_join_3 : decode cX7_join 3 = .ok (.invokevirtual 119, 3) := by decide +kernel
theorem dX7_join_6 : decode cX7_join 6 = .ok (.istore 4, 2) := by decide +kernel
theorem dX7_join_8 : decode cX7_join 8 = .ok (.aload_n 0, 1) := by decide +kernel
theorem dX7_join_9 : decode cX7_join 9 = .ok (.iload_n 1, 1) := by decide +kernel
theorem dX7_join_10 : decode cX7_join 10 = .ok (.iload_n 3, 1) := by decide +kernel
theorem dX7_join_11 : decode cX7_join 11 = .ok (.invokevirtual 119, 3) := by decide +kernel
theorem dX7_join_14 : decode cX7_join 14 = .ok (.istore 5, 2) := by decide +kernel
theorem dX7_join_16 : decode cX7_join 16 = .ok (.iload 5, 2) := by decide +kernel
theorem dX7_join_18 : decode cX7_join 18 = .ok (.invokestatic 137, 3) := by decide +kernel
theorem dX7_join_21 : decode cX7_join 21 = .ok (.iload 4, 2) := by decide +kernel
theorem dX7_join_23 : decode cX7_join 23 = .ok (.invokestatic 137, 3) := by decide +kernel
theorem dX7_join_26 : decode cX7_join 26 = .ok (.if_icmp .le 7, 3) := by decide +kernel
theorem dX7_join_29 : decode cX7_join 29 = .ok (.iload_n 2, 1) := by decide +kernel
theorem dX7_join_30 : decode cX7_join 30 = .ok (.goto 4, 3) := by decide +kernel
theorem dX7_join_33 : decode cX7_join 33 = .ok (.iload_n 3, 1) := by decide +kernel
theorem dX7_join_34 : decode cX7_join 34 = .ok (.istore 6, 2) := by decide +kernel
theorem dX7_join_36 : decode cX7_join 36 = .ok (.iload 6, 2) := by decide +kernel
theorem dX7_join_38 : decode cX7_join 38 = .ok (.iload_n 2, 1) := by decide +kernel
theorem dX7_join_39 : decode cX7_join 39 = .ok (.if_icmp .ne 7, 3) := by decide +kernel
theorem dX7_join_42 : decode cX7_join 42 = .ok (.iload_n 3, 1) := by decide +kernel
theorem dX7_join_43 : decode cX7_join 43 = .ok (.goto 4, 3) := by decide +kernel
theorem dX7_join_46 : decode cX7_join 46 = .ok (.iload_n 2, 1) := by decide +kernel
theorem dX7_join_47 : decode cX7_join 47 = .ok (.istore 7, 2) := by decide +kernel
theorem dX7_join_49 : decode cX7_join 49 = .ok (.iconst 0, 1) := by decide +kernel
theorem dX7_join_50 : decode cX7_join 50 = .ok (.istore 8, 2) := by decide +kernel
theorem dX7_join_52 : decode cX7_join 52 = .ok (.iload 8, 2) := by decide +kernel
theorem dX7_join_54 : decode cX7_join 54 = .ok (.bipush 20, 2) := by decide +kernel
theorem dX7_join_56 : decode cX7_join 56 = .ok (.if_icmp .ge 55, 3) := by decide +kernel
theorem dX7_join_59 : decode cX7_join 59 = .ok (.aload_n 0, 1) := by decide +kernel
theorem dX7_join_60 : decode cX7_join 60 = .ok (.getfield 19, 3) := by decide +kernel
theorem dX7_join_63 : decode cX7_join 63 = .ok (.bipush 35, 2) := by decide +kernel
theorem dX7_join_65 : decode cX7_join 65 = .ok (.iload_n 1, 1) := by decide +kernel
theorem dX7_join_66 : decode cX7_join 66 = .ok (.imul, 1) := by decide +kernel
theorem dX7_join_67 : decode cX7_join 67 = .ok (.iload 8, 2) := by decide +kernel
theorem dX7_join_69 : decode cX7_join 69 = .ok (.iadd, 1) := by decide +kernel
theorem dX7_join_70 : decode cX7_join 70 = .ok (.aload_n 0, 1) := by decide +kernel
theorem dX7_join_71 : decode cX7_join 71 = .ok (.getfield 19, 3) := by decide +kernel
theorem dX7_join_74 : decode cX7_join 74 = .ok (.bipush 35, 2) := by decide +kernel
theorem dX7_join_76 : decode cX7_join 76 = .ok (.iload_n 1, 1) := by decide +kernel
theorem dX7_join_77 : decode cX7_join 77 = .ok (.imul, 1) := by decide +kernel
theorem dX7_join_78 : decode cX7_join 78 = .ok (.iload 8, 2) := by decide +kernel
theorem dX7_join_80 : decode cX7_join 80 = .ok (.iadd, 1) := by decide +kernel
theorem dX7_join_81 : decode cX7_join 81 = .ok (.iaload, 1) := by decide +kernel
theorem dX7_join_82 : decode cX7_join 82 = .ok (.iload 6, 2) := by decide +kernel
theorem dX7_join_84 : decode cX7_join 84 = .ok (.if_icmp .ne 8, 3) := by decide +kernel
theorem dX7_join_87 : decode cX7_join 87 = .ok (.iload 7, 2) := by decide +kernel
theorem dX7_join_89 : decode cX7_join 89 = .ok (.goto 15, 3) := by decide +kernel
theorem dX7_join_92 : decode cX7_join 92 = .ok (.aload_n 0, 1) := by decide +kernel
theorem dX7_join_93 : decode cX7_join 93 = .ok (.getfield 19, 3) := by decide +kernel
theorem dX7_join_96 : decode cX7_join 96 = .ok (.bipush 35, 2) := by decide +kernel
theorem dX7_join_98 : decode cX7_join 98 = .ok (.iload_n 1, 1) := by decide +kernel
theorem dX7_join_99 : decode cX7_join 99 = .ok (.imul, 1) := by decide +kernel
theorem dX7_join_100 : decode cX7_join 100 = .ok (.iload 8, 2) := by decide +kernel
theorem dX7_join_102 : decode cX7_join 102 = .ok (.iadd, 1) := by decide +kernel
theorem dX7_join_103 : decode cX7_join 103 = .ok (.iaload, 1) := by decide +kernel
theorem dX7_join_104 : decode cX7_join 104 = .ok (.iastore, 1) := by decide +kernel
theorem dX7_join_105 : decode cX7_join 105 = .ok (.iinc 8 1, 3) := by decide +kernel
theorem dX7_join_108 : decode cX7_join 108 = .ok (.goto (-56), 3) := by decide +kernel
theorem dX7_join_111 : decode cX7_join 111 = .ok (.aload_n 0, 1) := by decide +kernel
theorem dX7_join_112 : decode cX7_join 112 = .ok (.iload_n 1, 1) := by decide +kernel
theorem dX7_join_113 : decode cX7_join 113 = .ok (.iload 6, 2) := by decide +kernel
theorem dX7_join_115 : decode cX7_join 115 = .ok (.invokevirtual 140, 3) := by decide +kernel
theorem dX7_join_118 : decode cX7_join 118 = .ok (.return_, 1) := by decide +kernel
theorem dX7_wed_0 : decode cX7_wed 0 = .ok (.iconst 0, 1) := by decide +kernel
theorem dX7_wed_1 : decode cX7_wed 1 = .ok (.istore_n 2, 1) := by decide +kernel
theorem dX7_wed_2 : decode cX7_wed 2 = .ok (.iload_n 2, 1) := by decide +kernel
theorem dX7_wed_3 : decode cX7_wed 3 = .ok (.aload_n 0, 1) := by decide +kernel
theorem dX7_wed_4 : decode cX7_wed 4 = .ok (.getfield 106, 3) := by decide +kernel
theorem dX7_wed_7 : decode cX7_wed 7 = .ok (.if_icmp .ge 61, 3) := by decide +kernel
theorem dX7_wed_10 : decode cX7_wed 10 = .ok (.aload_n 0, 1) := by decide +kernel
theorem dX7_wed_11 : decode cX7_wed 11 = .ok (.iload_n 1, 1) := by decide +kernel
theorem dX7_wed_12 : decode cX7_wed 12 = .ok (.iload_n 2, 1) := by decide +kernel
theorem dX7_wed_13 : decode cX7_wed 13 = .ok (.invokevirtual 119, 3) := by decide +kernel
theorem dX7_wed_16 : decode cX7_wed 16 = .ok (.invokestatic 112, 3) := by decide +kernel
theorem dX7_wed_19 : decode cX7_wed 19 = .ok (.istore_n 3, 1) := by decide +kernel
theorem dX7_wed_20 : decode cX7_wed 20 = .ok (.iload_n 2, 1) := by decide +kernel
theorem dX7_wed_21 : decode cX7_wed 21 = .ok (.iconst 1, 1) := by decide +kernel
theorem dX7_wed_22 : decode cX7_wed 22 = .ok (.iadd, 1) := by decide +kernel
theorem dX7_wed_23 : decode cX7_wed 23 = .ok (.istore 4, 2) := by decide +kernel
theorem dX7_wed_25 : decode cX7_wed 25 = .ok (.iload 4, 2) := by decide +kernel
theorem dX7_wed_27 : decode cX7_wed 27 = .ok (.aload_n 0, 1) := by decide +kernel
theorem dX7_wed_28 : decode cX7_wed 28 = .ok (.getfield 106, 3) := by decide +kernel
theorem dX7_wed_31 : decode cX7_wed 31 = .ok (.if_icmp .ge 31, 3) := by decide +kernel
theorem dX7_wed_34 : decode cX7_wed 34 = .ok (.iload_n 3, 1) := by decide +kernel
theorem dX7_wed_35 : decode cX7_wed 35 = .ok (.aload_n 0, 1) := by decide +kernel
theorem dX7_wed_36 : decode cX7_wed 36 = .ok (.iload_n 1, 1) := by decide +kernel
theorem dX7_wed_37 : decode cX7_wed 37 = .ok (.iload 4, 2) := by decide +kernel
theorem dX7_wed_39 : decode cX7_wed 39 = .ok (.invokevirtual 119, 3) := by decide +kernel
theorem dX7_wed_42 : decode cX7_wed 42 = .ok (.iand, 1) := by decide +kernel
theorem dX7_wed_43 : decode cX7_wed 43 = .ok (.ifCond .eq 13, 3) := by decide +kernel
theorem dX7_wed_46 : decode cX7_wed 46 = .ok (.aload_n 0, 1) := by decide +kernel
theorem dX7_wed_47 : decode cX7_wed 47 = .ok (.iload_n 1, 1) := by decide +kernel
theorem dX7_wed_48 : decode cX7_wed 48 = .ok (.iload_n 2, 1) := by decide +kernel
theorem dX7_wed_49 : decode cX7_wed 49 = .ok (.iload 4, 2) := by decide +kernel
theorem dX7_wed_51 : decode cX7_wed 51 = .ok (.invokevirtual 144, 3) := by decide +kernel
theorem dX7_wed_54 : decode cX7_wed 54 = .ok (.iconst 1, 1) := by decide +kernel
theorem dX7_wed_55 : decode cX7_wed 55 = .ok (.ireturn, 1) := by decide +kernel
theorem dX7_wed_56 : decode cX7_wed 56 = .ok (.iinc 4 1, 3) := by decide +kernel
theorem dX7_wed_59 : decode cX7_wed 59 = .ok (.goto (-34), 3) := by decide +kernel
theorem dX7_wed_62 : decode cX7_wed 62 = .ok (.iinc 2 1, 3) := by decide +kernel
theorem dX7_wed_65 : decode cX7_wed 65 = .ok (.goto (-63), 3) := by decide +kernel
theorem dX7_wed_68 : decode cX7_wed 68 = .ok (.iconst 0, 1) := by decide +kernel
theorem dX7_wed_69 : decode cX7_wed 69 = .ok (.ireturn, 1) := by decide +kernel
theorem dX7_passOn_0 : decode cX7_passOn 0 = .ok (.bipush 35, 2) := by decide +kernel
theorem dX7_passOn_2 : decode cX7_passOn 2 = .ok (.iload_n 1, 1) := by decide +kernel
theorem dX7_passOn_3 : decode cX7_passOn 3 = .ok (.imul, 1) := by decide +kernel
theorem dX7_passOn_4 : decode cX7_passOn 4 = .ok (.istore_n 2, 1) := by decide +kernel
theorem dX7_passOn_5 : decode cX7_passOn 5 = .ok (.iconst 0, 1) := by decide +kernel
theorem dX7_passOn_6 : decode cX7_passOn 6 = .ok (.istore_n 3, 1) := by decide +kernel
theorem dX7_passOn_7 : decode cX7_passOn 7 = .ok (.iload_n 3, 1) := by decide +kernel
theorem dX7_passOn_8 : decode cX7_passOn 8 = .ok (.aload_n 0, 1) := by decide +kernel
theorem dX7_passOn_9 : decode cX7_passOn 9 = .ok (.getfield 106, 3) := by decide +kernel
theorem dX7_passOn_12 : decode cX7_passOn 12 = .ok (.if_icmp .ge 44, 3) := by decide +kernel
theorem dX7_passOn_15 : decode cX7_passOn 15 = .ok (.iconst 0, 1) := by decide +kernel
theorem dX7_passOn_16 : decode cX7_passOn 16 = .ok (.istore 4, 2) := by decide +kernel
theorem dX7_passOn_18 : decode cX7_passOn 18 = .ok (.iload 4, 2) := by decide +kernel
theorem dX7_passOn_20 : decode cX7_passOn 20 = .ok (.aload_n 0, 1) := by decide +kernel
theorem dX7_passOn_21 : decode cX7_passOn 21 = .ok (.getfield 16, 3) := by decide +kernel
theorem dX7_passOn_24 : decode cX7_passOn 24 = .ok (.iload_n 3, 1) := by decide +kernel
theorem dX7_passOn_25 : decode cX7_passOn 25 = .ok (.iaload, 1) := by decide +kernel
theorem dX7_passOn_26 : decode cX7_passOn 26 = .ok (.iconst 1, 1) := by decide +kernel
theorem dX7_passOn_27 : decode cX7_passOn 27 = .ok (.if_icmp .ne 7, 3) := by decide +kernel
theorem dX7_passOn_30 : decode cX7_passOn 30 = .ok (.iconst 2, 1) := by decide +kernel
theorem dX7_passOn_31 : decode cX7_passOn 31 = .ok (.goto 4, 3) := by decide +kernel
theorem dX7_passOn_34 : decode cX7_passOn 34 = .ok (.iconst 1, 1) := by decide +kernel
theorem dX7_passOn_35 : decode cX7_passOn 35 = .ok (.if_icmp .ge 15, 3) := by decide +kernel
theorem dX7_passOn_38 : decode cX7_passOn 38 = .ok (.aload_n 0, 1) := by decide +kernel
theorem dX7_passOn_39 : decode cX7_passOn 39 = .ok (.iload_n 1, 1) := by decide +kernel
theorem dX7_passOn_40 : decode cX7_passOn 40 = .ok (.iload_n 3, 1) := by decide +kernel
theorem dX7_passOn_41 : decode cX7_passOn 41 = .ok (.invokevirtual 148, 3) := by decide +kernel
theorem dX7_passOn_44 : decode cX7_passOn 44 = .ok (.iinc 4 1, 3) := by decide +kernel
theorem dX7_passOn_47 : decode cX7_passOn 47 = .ok (.goto (-29), 3) := by decide +kernel
theorem dX7_passOn_50 : decode cX7_passOn 50 = .ok (.iinc 3 1, 3) := by decide +kernel
theorem dX7_passOn_53 : decode cX7_passOn 53 = .ok (.goto (-46), 3) := by decide +kernel
theorem dX7_passOn_56 : decode cX7_passOn 56 = .ok (.iconst 0, 1) := by decide +kernel
theorem dX7_passOn_57 : decode cX7_passOn 57 = .ok (.istore_n 3, 1) := by decide +kernel
theorem dX7_passOn_58 : decode cX7_passOn 58 = .ok (.iload_n 3, 1) := by decide +kernel
theorem dX7_passOn_59 : decode cX7_passOn 59 = .ok (.iconst 5, 1) := by decide +kernel
theorem dX7_passOn_60 : decode cX7_passOn 60 = .ok (.if_icmp .ge 17, 3) := by decide +kernel
theorem dX7_passOn_63 : decode cX7_passOn 63 = .ok (.aload_n 0, 1) := by decide +kernel
theorem dX7_passOn_64 : decode cX7_passOn 64 = .ok (.iload_n 1, 1) := by decide +kernel
theorem dX7_passOn_65 : decode cX7_passOn 65 = .ok (.invokevirtual 151, 3) := by decide +kernel
theorem dX7_passOn_68 : decode cX7_passOn 68 = .ok (.ifCond .eq 9, 3) := by decide +kernel
theorem dX7_passOn_71 : decode cX7_passOn 71 = .ok (.iinc 3 1, 3) := by decide +kernel
theorem dX7_passOn_74 : decode cX7_passOn 74 = .ok (.goto (-16), 3) := by decide +kernel
theorem dX7_passOn_77 : decode cX7_passOn 77 = .ok (.iconst 0, 1) := by decide +kernel
theorem dX7_passOn_78 : decode cX7_passOn 78 = .ok (.istore 4, 2) := by decide +kernel
theorem dX7_passOn_80 : decode cX7_passOn 80 = .ok (.iload 4, 2) := by decide +kernel
theorem dX7_passOn_82 : decode cX7_passOn 82 = .ok (.aload_n 0, 1) := by decide +kernel
theorem dX7_passOn_83 : decode cX7_passOn 83 = .ok (.getfield 106, 3) := by decide +kernel
theorem dX7_passOn_86 : decode cX7_passOn 86 = .ok (.if_icmp .ge 81, 3) := by decide +kernel
theorem dX7_passOn_89 : decode cX7_passOn 89 = .ok (.aload_n 0, 1) := by decide +kernel
theorem dX7_passOn_90 : decode cX7_passOn 90 = .ok (.getfield 19, 3) := by decide +kernel
theorem dX7_passOn_93 : decode cX7_passOn 93 = .ok (.iload_n 2, 1) := by decide +kernel
theorem dX7_passOn_94 : decode cX7_passOn 94 = .ok (.bipush 25, 2) := by decide +kernel
theorem dX7_passOn_96 : decode cX7_passOn 96 = .ok (.iadd, 1) := by decide +kernel
theorem dX7_passOn_97 : decode cX7_passOn 97 = .ok (.iload 4, 2) := by decide +kernel
theorem dX7_passOn_99 : decode cX7_passOn 99 = .ok (.iadd, 1) := by decide +kernel
theorem dX7_passOn_100 : decode cX7_passOn 100 = .ok (.iaload, 1) := by decide +kernel
theorem dX7_passOn_101 : decode cX7_passOn 101 = .ok (.istore 5, 2) := by decide +kernel
theorem dX7_passOn_103 : decode cX7_passOn 103 = .ok (.iload 5, 2) := by decide +kernel
theorem dX7_passOn_105 : decode cX7_passOn 105 = .ok (.bipush (-9), 2) := by decide +kernel
theorem dX7_passOn_107 : decode cX7_passOn 107 = .ok (.if_icmp .eq 54, 3) := by decide +kernel
theorem dX7_passOn_110 : decode cX7_passOn 110 = .ok (.aload_n 0, 1) := by decide +kernel
theorem dX7_passOn_111 : decode cX7_passOn 111 = .ok (.iload_n 1, 1) := by decide +kernel
theorem dX7_passOn_112 : decode cX7_passOn 112 = .ok (.iload 4, 2) := by decide +kernel
theorem dX7_passOn_114 : decode cX7_passOn 114 = .ok (.invokevirtual 119, 3) := by decide +kernel
theorem dX7_passOn_117 : decode cX7_passOn 117 = .ok (.invokestatic 137, 3) := by decide +kernel
theorem dX7_passOn_120 : decode cX7_passOn 120 = .ok (.istore 6, 2) := by decide +kernel
theorem dX7_passOn_122 : decode cX7_passOn 122 = .ok (.aload_n 0, 1) := by decide +kernel
theorem dX7_passOn_123 : decode cX7_passOn 123 = .ok (.iload_n 1, 1) := by decide +kernel
theorem dX7_passOn_124 : decode cX7_passOn 124 = .ok (.iload 5, 2) := by decide +kernel
theorem dX7_passOn_126 : decode cX7_passOn 126 = .ok (.aload_n 0, 1) := by decide +kernel
theorem dX7_passOn_127 : decode cX7_passOn 127 = .ok (.getfield 19, 3) := by decide +kernel
theorem dX7_passOn_130 : decode cX7_passOn 130 = .ok (.iload_n 2, 1) := by decide +kernel
theorem dX7_passOn_131 : decode cX7_passOn 131 = .ok (.bipush 20, 2) := by decide +kernel
theorem dX7_passOn_133 : decode cX7_passOn 133 = .ok (.iadd, 1) := by decide +kernel
theorem dX7_passOn_134 : decode cX7_passOn 134 = .ok (.iload 4, 2) := by decide +kernel
theorem dX7_passOn_136 : decode cX7_passOn 136 = .ok (.iadd, 1) := by decide +kernel
theorem dX7_passOn_137 : decode cX7_passOn 137 = .ok (.iaload, 1) := by decide +kernel
theorem dX7_passOn_138 : decode cX7_passOn 138 = .ok (.aload_n 0, 1) := by decide +kernel
theorem dX7_passOn_139 : decode cX7_passOn 139 = .ok (.getfield 7, 3) := by decide +kernel
theorem dX7_passOn_142 : decode cX7_passOn 142 = .ok (.iload 5, 2) := by decide +kernel
theorem dX7_passOn_144 : decode cX7_passOn 144 = .ok (.iaload, 1) := by decide +kernel
theorem dX7_passOn_145 : decode cX7_passOn 145 = .ok (.iconst 3, 1) := by decide +kernel
theorem dX7_passOn_146 : decode cX7_passOn 146 = .ok (.if_icmp .ne 10, 3) := by decide +kernel
theorem dX7_passOn_149 : decode cX7_passOn 149 = .ok (.iload 6, 2) := by decide +kernel
theorem dX7_passOn_151 : decode cX7_passOn 151 = .ok (.iconst 2, 1) := by decide +kernel
theorem dX7_passOn_152 : decode cX7_passOn 152 = .ok (.idiv, 1) := by decide +kernel
theorem dX7_passOn_153 : decode cX7_passOn 153 = .ok (.goto 5, 3) := by decide +kernel
theorem dX7_passOn_156 : decode cX7_passOn 156 = .ok (.iload 6, 2) := by decide +kernel
theorem dX7_passOn_158 : decode cX7_passOn 158 = .ok (.invokevirtual 133, 3) := by decide +kernel
theorem dX7_passOn_161 : decode cX7_passOn 161 = .ok (.iinc 4 1, 3) := by decide +kernel
theorem dX7_passOn_164 : decode cX7_passOn 164 = .ok (.goto (-84), 3) := by decide +kernel
theorem dX7_passOn_167 : decode cX7_passOn 167 = .ok (.aload_n 0, 1) := by decide +kernel
theorem dX7_passOn_168 : decode cX7_passOn 168 = .ok (.getfield 19, 3) := by decide +kernel
theorem dX7_passOn_171 : decode cX7_passOn 171 = .ok (.iload_n 2, 1) := by decide +kernel
theorem dX7_passOn_172 : decode cX7_passOn 172 = .ok (.bipush 34, 2) := by decide +kernel
theorem dX7_passOn_174 : decode cX7_passOn 174 = .ok (.iadd, 1) := by decide +kernel
theorem dX7_passOn_175 : decode cX7_passOn 175 = .ok (.dup2, 1) := by decide +kernel
theorem dX7_passOn_176 : decode cX7_passOn 176 = .ok (.iaload, 1) := by decide +kernel
theorem dX7_passOn_177 : decode cX7_passOn 177 = .ok (.iconst 1, 1) := by decide +kernel
theorem dX7_passOn_178 : decode cX7_passOn 178 = .ok (.iadd, 1) := by decide +kernel
theorem dX7_passOn_179 : decode cX7_passOn 179 = .ok (.iastore, 1) := by decide +kernel
theorem dX7_passOn_180 : decode cX7_passOn 180 = .ok (.iload_n 3, 1) := by decide +kernel
theorem dX7_passOn_181 : decode cX7_passOn 181 = .ok (.ireturn, 1) := by decide +kernel
theorem dX7_alive_0 : decode cX7_alive 0 = .ok (.iconst 0, 1) := by decide +kernel
theorem dX7_alive_1 : decode cX7_alive 1 = .ok (.istore_n 2, 1) := by decide +kernel
theorem dX7_alive_2 : decode cX7_alive 2 = .ok (.iconst 0, 1) := by decide +kernel
theorem dX7_alive_3 : decode cX7_alive 3 = .ok (.istore_n 3, 1) := by decide +kernel
theorem dX7_alive_4 : decode cX7_alive 4 = .ok (.iload_n 3, 1) := by decide +kernel
theorem dX7_alive_5 : decode cX7_alive 5 = .ok (.aload_n 0, 1) := by decide +kernel
theorem dX7_alive_6 : decode cX7_alive 6 = .ok (.getfield 106, 3) := by decide +kernel
theorem dX7_alive_9 : decode cX7_alive 9 = .ok (.if_icmp .ge 38, 3) := by decide +kernel
theorem dX7_alive_12 : decode cX7_alive 12 = .ok (.iload_n 2, 1) := by decide +kernel
theorem dX7_alive_13 : decode cX7_alive 13 = .ok (.aload_n 0, 1) := by decide +kernel
theorem dX7_alive_14 : decode cX7_alive 14 = .ok (.getfield 19, 3) := by decide +kernel
theorem dX7_alive_17 : decode cX7_alive 17 = .ok (.bipush 35, 2) := by decide +kernel
theorem dX7_alive_19 : decode cX7_alive 19 = .ok (.iload_n 1, 1) := by decide +kernel
theorem dX7_alive_20 : decode cX7_alive 20 = .ok (.imul, 1) := by decide +kernel
theorem dX7_alive_21 : decode cX7_alive 21 = .ok (.bipush 20, 2) := by decide +kernel
theorem dX7_alive_23 : decode cX7_alive 23 = .ok (.iadd, 1) := by decide +kernel
theorem dX7_alive_24 : decode cX7_alive 24 = .ok (.iload_n 3, 1) := by decide +kernel
theorem dX7_alive_25 : decode cX7_alive 25 = .ok (.iadd, 1) := by decide +kernel
theorem dX7_alive_26 : decode cX7_alive 26 = .ok (.iaload, 1) := by decide +kernel
theorem dX7_alive_27 : decode cX7_alive 27 = .ok (.bipush (-9), 2) := by decide +kernel
theorem dX7_alive_29 : decode cX7_alive 29 = .ok (.if_icmp .eq 9, 3) := by decide +kernel
theorem dX7_alive_32 : decode cX7_alive 32 = .ok (.iconst 1, 1) := by decide +kernel
theorem dX7_alive_33 : decode cX7_alive 33 = .ok (.iload_n 3, 1) := by decide +kernel
theorem dX7_alive_34 : decode cX7_alive 34 = .ok (.ishl, 1) := by decide +kernel
theorem dX7_alive_35 : decode cX7_alive 35 = .ok (.goto 4, 3) := by decide +kernel
theorem dX7_alive_38 : decode cX7_alive 38 = .ok (.iconst 0, 1) := by decide +kernel
theorem dX7_alive_39 : decode cX7_alive 39 = .ok (.ior, 1) := by decide +kernel
theorem dX7_alive_40 : decode cX7_alive 40 = .ok (.istore_n 2, 1) := by decide +kernel
theorem dX7_alive_41 : decode cX7_alive 41 = .ok (.iinc 3 1, 3) := by decide +kernel
theorem dX7_alive_44 : decode cX7_alive 44 = .ok (.goto (-40), 3) := by decide +kernel
theorem dX7_alive_47 : decode cX7_alive 47 = .ok (.iload_n 2, 1) := by decide +kernel
theorem dX7_alive_48 : decode cX7_alive 48 = .ok (.ireturn, 1) := by decide +kernel
def LB_X7_least_2 (G2 : (Int32 × Int32) → Prop)  (x0 : Int32) (x1 : Int32) (Q : Int32 → Prop) : Prop := (((20 : Int32) ≤ x1 → Q (-9 : Int32)) ∧ (¬ (20 : Int32) ≤ x1 → wp_X7_has x0 x1 (fun r_2 => ((r_2 = 0 → ∀ x1_4 : Int32, x1_4 = x1 + (1 : Int32) → G2 (x0, x1_4)) ∧ (¬ r_2 = 0 → Q x1)))))
def B_X7_least_2  (x0 : Int32) (x1 : Int32) (Q : Int32 → Prop) : Prop := LOOP (fun (G2 : (Int32 × Int32) → Prop) z => LB_X7_least_2 G2  z.1 z.2 Q) (x0, x1)
def wp_X7_least (p0 : Int32) (Q : Int32 → Prop) : Prop := B_X7_least_2  p0 (0 : Int32) Q
set_option maxHeartbeats 4000000 in
set_option maxRecDepth 100000 in
theorem c_X7_least (l : Launch) (D : va_G) (cI cZ cW : ClassId)  (p0 : Int32) (Q : Int32 → Prop) (hf : wp_X7_least p0 Q) : Met l yX7_least (wsA yX7_least cX7_least 2 (some .int)) ({ frames := 1, cells := 0, slots := 0, locals := 21 }) (PR D cI cZ cW [.int p0] ([] : va_W)) (vp_Si Q) 0 0 (fun _ => False) := by
  refine Met.ofW (cc := cX7_least) (maxL := 2) (ret := (some .int)) (by decide) rfl ?_
  intro p e s m args below meth c s₁ B hml hv
  obtain ⟨rfl, hP, hK⟩ := hv
  have hx := B.exec
  have hb := B.bytes
  have hr := B.returns
  have hts := atoms_spec (ws := (wsA yX7_least cX7_least 2 (some .int))) B.pre
  have ht : ∀ w ∈ lw_g, w.before _ s = true := fun w h => hts w (List.mem_cons_of_mem _ h)
  have hown : s.vm.findClass RX7 = some m.cls := findClass_of_methodNamed B.named
  have hlocks := B.notSynchronized
  have hl := lv_entry ([.int p0]) (n := 2) (Nat.le_of_ble_eq_true rfl)
  rw [lg_entry_eq]
  generalize (lg_sl ([.int p0]) ++ List.replicate (2 - (lg_sl ([.int p0])).length) Slot.unset).toArray = ls at hl ⊢
  have hl : lv_has ls 2 [(0, .int p0)] := hl
  unfold wp_X7_least at hf
  have k_2 : ∀ (x0 : Int32) (x1 : Int32) (ls : Array Slot), B_X7_least_2  x0 x1 Q → lv_has ls 2 [(0, .int x0), (1, .int x1)] → W p l e (headSpec (wsA yX7_least cX7_least 2 (some .int)) ({ frames := 1, cells := 0, slots := 0, locals := 21 })).room s m (#[.int p0] : Array Value) below meth c s.heap [] 0 0 (MQ below (vp_Si Q) (#[.int p0] : Array Value) s 0 0 (fun _ => False)) (F0 m 2 ls []) := by
    intro x0 x1 ls hf hl
    unfold B_X7_least_2 at hf
    obtain ⟨I_2, ⟨n0_2, hI0_2⟩, hst_2⟩ := hf
    have main_2 : ∀ (n : Nat) (x0 : Int32) (x1 : Int32) (ls : Array Slot), I_2 n (x0, x1) → lv_has ls 2 [(0, .int x0), (1, .int x1)] → W p l e (headSpec (wsA yX7_least cX7_least 2 (some .int)) ({ frames := 1, cells := 0, slots := 0, locals := 21 })).room s m (#[.int p0] : Array Value) below meth c s.heap [] 0 0 (MQ below (vp_Si Q) (#[.int p0] : Array Value) s 0 0 (fun _ => False)) (F0 m 2 ls []) := by
      intro n
      induction n using Nat.strongRecOn with
      | _ n_2 ih_2 =>
      intro x0 x1 ls hI hl
      have hf : LB_X7_least_2 (fun z => ∃ k, k < n_2 ∧ I_2 k z)  x0 x1 Q := hst_2 n_2 (x0, x1) hI
      have hG_2 : ∀ (x0 : Int32) (x1 : Int32) (ls : Array Slot), (∃ k, k < n_2 ∧ I_2 k (x0, x1)) → lv_has ls 2 [(0, .int x0), (1, .int x1)] → W p l e (headSpec (wsA yX7_least cX7_least 2 (some .int)) ({ frames := 1, cells := 0, slots := 0, locals := 21 })).room s m (#[.int p0] : Array Value) below meth c s.heap [] 0 0 (MQ below (vp_Si Q) (#[.int p0] : Array Value) s 0 0 (fun _ => False)) (F0 m 2 ls []) := by
        rintro x0 x1 ls ⟨k, hk, hI⟩ hl
        exact ih_2 k hk x0 x1 ls hI hl
      unfold LB_X7_least_2 at hf
      refine lv_iload_n hx hb dX7_least_2 rfl (lv_at hl 1 rfl) ?_
      refine lv_bipush (v := (20 : Int32)) hx hb dX7_least_3 (by decide) ?_
      refine lv_icmp_ge (tgt := 24) hx hb dX7_least_5 (by decide) (fun c_1 => ?_) (fun c_1 => ?_)
      · have hf := hf.1 c_1
        refine lv_bipush (v := (-9 : Int32)) hx hb dX7_least_24 (by decide) ?_
        exact W.iret (v := (-9 : Int32)) hx hb hr (fun t ht hW => ⟨(-9 : Int32), rfl, hf, ht⟩) (fun q h => absurd h List.not_mem_nil) dX7_least_26
      · have hf := hf.2 c_1
        refine lv_iload_n hx hb dX7_least_8 rfl (lv_at hl 0 rfl) ?_
        refine lv_iload_n hx hb dX7_least_9 rfl (lv_at hl 1 rfl) ?_
        have hPc : va_P D classes ([] : va_W) s.heap := hP
        refine vp_callSi (W.runS (As := [.int x0, .int x1]) (rest := []) ⟨hx, hb, hml, hown, hts⟩ (c_X7_has l D cI cZ cW  x0 x1 _ hf) ⟨callB_of 2 hts (gA tw_771) rfl rfl rfl (ht _ tw_7) (ht _ tw_769) hd_X7_has ⟨Nat.le_of_ble_eq_true rfl, Nat.le_of_ble_eq_true rfl⟩, ht _ tw_770⟩ ⟨PR_blind, fun U hU hW => PR_mk hPc hK hU hW⟩ rfl rfl hl.1 rfl (lv_room (Nat.le_of_ble_eq_true rfl)) dX7_least_10 ⟨Nat.zero_le _, Nat.zero_le _⟩) (fun r_2 hf => ?_)
        refine lv_if_eq (tgt := 18) hx hb dX7_least_13 (by decide) (fun c_3 => ?_) (fun c_3 => ?_)
        · have hf := hf.1 c_3
          obtain ⟨x1_4, ex1_4⟩ : ∃ y : Int32, y = x1 + (1 : Int32) := ⟨_, rfl⟩
          have hf := hf x1_4 ex1_4
          refine lv_iinc (v := x1_4) (lv' := [(1, .int x1_4), (0, .int x0)]) hx hb dX7_least_18 hl (k := 1) rfl (by rw [ex1_4]; rfl) (by decide) rfl (fun ls hl => ?_)
          refine lv_goto (tgt := 2) hx hb dX7_least_21 (by decide) ?_
          exact hG_2 x0 x1_4 ls hf (lv_sub hl [1, 0] rfl)
        · have hf := hf.2 c_3
          refine lv_iload_n hx hb dX7_least_16 rfl (lv_at hl 1 rfl) ?_
          exact W.iret (v := x1) hx hb hr (fun t ht hW => ⟨x1, rfl, hf, ht⟩) (fun q h => absurd h List.not_mem_nil) dX7_least_17
    exact main_2 n0_2 x0 x1 ls hI0_2 hl
  refine lv_iconst (v := (0 : Int32)) hx hb dX7_least_0 (by decide) ?_
  refine lv_istore_n (lv' := [(1, .int (0 : Int32)), (0, .int p0)]) hx hb dX7_least_1 rfl hl (by decide) rfl (fun ls hl => ?_)
  exact k_2 p0 (0 : Int32) ls hf (lv_sub hl [1, 0] rfl)
def B_X7_takes_22 (s0 : CS) (x2 : Int32) (x3 : Int32) (t0 : Int32) (Q : Int32 → Prop) : Prop := ((¬ x2 = (2 : Int32) → wp_X7_least (t0 &&& x3) (fun r_2 => Q r_2)) ∧ (x2 = (2 : Int32) → Q (-9 : Int32)))
def wp_X7_takes (p0 : Int32) (p1 : Int32) (p2 : Int32) (s0 : CS) (Q : Int32 → Prop) : Prop := ((¬ p1 = (3 : Int32) → wp_X7_beside p0 (fun r_4 => B_X7_takes_22 s0 p1 p2 r_4 Q)) ∧ (p1 = (3 : Int32) → B_X7_takes_22 s0 p1 p2 (((p0 <<< ((5 : Int32) &&& 31)) ||| (p0 >>> ((5 : Int32) &&& 31))) &&& (1048575 : Int32)) Q))
set_option maxHeartbeats 4000000 in
set_option maxRecDepth 100000 in
theorem c_X7_takes (l : Launch) (D : va_G) (cI cZ cW : ClassId) (q0 : Nat → Nat) (p0 : Int32) (p1 : Int32) (p2 : Int32) (s0 : CS) (Q : Int32 → Prop) (hf : wp_X7_takes p0 p1 p2 s0 Q) : Met l yX7_takes (wsA yX7_takes cX7_takes 5 (some .int)) ({ frames := 2, cells := 0, slots := 0, locals := 42 }) (PR D cI cZ cW [.ref (q0 0), .int p0, .int p1, .int p2] (wM cI cZ q0 s0)) (vp_Si Q) 0 0 (fun _ => False) := by
  refine Met.ofW (cc := cX7_takes) (maxL := 5) (ret := (some .int)) (by decide) rfl ?_
  intro p e s m args below meth c s₁ B hml hv
  obtain ⟨rfl, hP, hK⟩ := hv
  have hx := B.exec
  have hb := B.bytes
  have hr := B.returns
  have hts := atoms_spec (ws := (wsA yX7_takes cX7_takes 5 (some .int))) B.pre
  have ht : ∀ w ∈ lw_g, w.before _ s = true := fun w h => hts w (List.mem_cons_of_mem _ h)
  have hown : s.vm.findClass RX7 = some m.cls := findClass_of_methodNamed B.named
  have hlocks := B.notSynchronized
  have hl := lv_entry ([.ref (q0 0), .int p0, .int p1, .int p2]) (n := 5) (Nat.le_of_ble_eq_true rfl)
  rw [lg_entry_eq]
  generalize (lg_sl ([.ref (q0 0), .int p0, .int p1, .int p2]) ++ List.replicate (5 - (lg_sl ([.ref (q0 0), .int p0, .int p1, .int p2])).length) Slot.unset).toArray = ls at hl ⊢
  have hl : lv_has ls 5 [(0, .ref (q0 0)), (1, .int p0), (2, .int p1), (3, .int p2)] := hl
  unfold wp_X7_takes at hf
  have k_22 : ∀ (x2 : Int32) (x3 : Int32) (t0 : Int32) (ls : Array Slot), B_X7_takes_22 s0 x2 x3 t0 Q → lv_has ls 5 [(2, .int x2), (3, .int x3)] → W p l e (headSpec (wsA yX7_takes cX7_takes 5 (some .int)) ({ frames := 2, cells := 0, slots := 0, locals := 42 })).room s m (#[.ref (q0 0), .int p0, .int p1, .int p2] : Array Value) below meth c s.heap [] 0 0 (MQ below (vp_Si Q) (#[.ref (q0 0), .int p0, .int p1, .int p2] : Array Value) s 0 0 (fun _ => False)) (F0 m 22 ls [.int t0]) := by
    intro x2 x3 t0 ls hf hl
    unfold B_X7_takes_22 at hf
    refine lv_istore (lv' := [(4, .int t0), (2, .int x2), (3, .int x3)]) hx hb dX7_takes_22 hl (by decide) rfl (fun ls hl => ?_)
    refine lv_iload_n hx hb dX7_takes_24 rfl (lv_at hl 1 rfl) ?_
    refine lv_iconst (v := (2 : Int32)) hx hb dX7_takes_25 (by decide) ?_
    refine lv_icmp_ne (tgt := 34) hx hb dX7_takes_26 (by decide) (fun c_1 => ?_) (fun c_1 => ?_)
    · have hf := hf.1 c_1
      refine lv_iload hx hb dX7_takes_34 (lv_at hl 0 rfl) ?_
      refine lv_iload_n hx hb dX7_takes_36 rfl (lv_at hl 2 rfl) ?_
      refine lv_iand hx hb dX7_takes_37 ?_
      have hPc : va_P D classes ([] : va_W) s.heap := hP.sub [] rfl
      refine vp_callSi (W.runS (As := [.int (t0 &&& x3)]) (rest := []) ⟨hx, hb, hml, hown, hts⟩ (c_X7_least l D cI cZ cW  (t0 &&& x3) _ hf) ⟨callB_of 1 hts (gA tw_848) rfl rfl rfl (ht _ tw_7) (ht _ tw_846) hd_X7_least ⟨Nat.le_of_ble_eq_true rfl, Nat.le_of_ble_eq_true rfl⟩, ht _ tw_847⟩ ⟨PR_blind, fun U hU hW => PR_mk hPc hK hU hW⟩ rfl rfl hl.1 rfl (lv_room (Nat.le_of_ble_eq_true rfl)) dX7_takes_38 ⟨Nat.zero_le _, Nat.zero_le _⟩) (fun r_2 hf => ?_)
      exact W.iret (v := r_2) hx hb hr (fun t ht hW => ⟨r_2, rfl, hf, ht⟩) (fun q h => absurd h List.not_mem_nil) dX7_takes_41
    · have hf := hf.2 c_1
      refine lv_bipush (v := (-9 : Int32)) hx hb dX7_takes_29 (by decide) ?_
      refine lv_goto (tgt := 41) hx hb dX7_takes_31 (by decide) ?_
      exact W.iret (v := (-9 : Int32)) hx hb hr (fun t ht hW => ⟨(-9 : Int32), rfl, hf, ht⟩) (fun q h => absurd h List.not_mem_nil) dX7_takes_41
  refine lv_iload_n hx hb dX7_takes_0 rfl (lv_at hl 2 rfl) ?_
  refine lv_iconst (v := (3 : Int32)) hx hb dX7_takes_1 (by decide) ?_
  refine lv_icmp_ne (tgt := 18) hx hb dX7_takes_2 (by decide) (fun c_3 => ?_) (fun c_3 => ?_)
  · have hf := hf.1 c_3
    refine lv_iload_n hx hb dX7_takes_18 rfl (lv_at hl 1 rfl) ?_
    have hPc : va_P D classes ([] : va_W) s.heap := hP.sub [] rfl
    refine vp_callSi (W.runS (As := [.int p0]) (rest := []) ⟨hx, hb, hml, hown, hts⟩ (c_X7_beside l D cI cZ cW  p0 _ hf) ⟨callB_of 1 hts (gA tw_845) rfl rfl rfl (ht _ tw_7) (ht _ tw_843) hd_X7_beside ⟨Nat.le_of_ble_eq_true rfl, Nat.le_of_ble_eq_true rfl⟩, ht _ tw_844⟩ ⟨PR_blind, fun U hU hW => PR_mk hPc hK hU hW⟩ rfl rfl hl.1 rfl (lv_room (Nat.le_of_ble_eq_true rfl)) dX7_takes_19 ⟨Nat.zero_le _, Nat.zero_le _⟩) (fun r_4 hf => ?_)
    exact k_22 p1 p2 r_4 ls hf (lv_sub hl [2, 3] rfl)
  · have hf := hf.2 c_3
    refine lv_iload_n hx hb dX7_takes_5 rfl (lv_at hl 1 rfl) ?_
    refine lv_iconst (v := (5 : Int32)) hx hb dX7_takes_6 (by decide) ?_
    refine lv_ishl hx hb dX7_takes_7 ?_
    refine lv_iload_n hx hb dX7_takes_8 rfl (lv_at hl 1 rfl) ?_
    refine lv_iconst (v := (5 : Int32)) hx hb dX7_takes_9 (by decide) ?_
    refine lv_ishr hx hb dX7_takes_10 ?_
    refine lv_ior hx hb dX7_takes_11 ?_
    refine lv_ldc (v := (1048575 : Int32)) hx hb hown (ht _ tw_772) dX7_takes_12 ?_
    refine lv_iand hx hb dX7_takes_14 ?_
    refine lv_goto (tgt := 22) hx hb dX7_takes_15 (by decide) ?_
    exact k_22 p1 p2 (((p0 <<< ((5 : Int32) &&& 31)) ||| (p0 >>> ((5 : Int32) &&& 31))) &&& (1048575 : Int32)) ls hf (lv_sub hl [2, 3] rfl)
def B_X7_freePaste_34 (G10 : (Int32 × Int32) → Prop) (s0 : CS) (x3 : Int32) (t0 : Int32) (t1 : Int32) (Q : Int32 → Prop) : Prop := ∀ x2_1 : Int32, x2_1 = (t1 &&& t0) → ∀ x3_2 : Int32, x3_2 = x3 + (1 : Int32) → G10 (x2_1, x3_2)
def LB_X7_freePaste_10 (G10 : (Int32 × Int32) → Prop) (s0 : CS) (x2 : Int32) (x3 : Int32) (Q : Int32 → Prop) : Prop := (((20 : Int32) ≤ x3 → Q x2) ∧ (¬ (20 : Int32) ≤ x3 → wp_X7_isMonks x3 s0 (fun r_4 => ((r_4 = 0 → B_X7_freePaste_34 G10 s0 x3 (-1 : Int32) x2 Q) ∧ (¬ r_4 = 0 → B_X7_freePaste_34 G10 s0 x3 (((1 : Int32) <<< (x3 &&& 31)) ^^^ (-1 : Int32)) x2 Q)))))
def B_X7_freePaste_10 (s0 : CS) (x2 : Int32) (x3 : Int32) (Q : Int32 → Prop) : Prop := LOOP (fun (G10 : (Int32 × Int32) → Prop) z => LB_X7_freePaste_10 G10 s0 z.1 z.2 Q) (x2, x3)
def wp_X7_freePaste (p0 : Int32) (s0 : CS) (Q : Int32 → Prop) : Prop := wp_X7_of p0 (7 : Int32) s0 (fun r_6 => B_X7_freePaste_10 s0 r_6 (0 : Int32) Q)
set_option maxHeartbeats 4000000 in
set_option maxRecDepth 100000 in
theorem c_X7_freePaste (l : Launch) (D : va_G) (cI cZ cW : ClassId) (q0 : Nat → Nat) (p0 : Int32) (s0 : CS) (Q : Int32 → Prop) (hf : wp_X7_freePaste p0 s0 Q) : Met l yX7_freePaste (wsA yX7_freePaste cX7_freePaste 4 (some .int)) ({ frames := 1, cells := 0, slots := 0, locals := 24 }) (PR D cI cZ cW [.ref (q0 0), .int p0] (wM cI cZ q0 s0)) (vp_Si Q) 0 0 (fun _ => False) := by
  refine Met.ofW (cc := cX7_freePaste) (maxL := 4) (ret := (some .int)) (by decide) rfl ?_
  intro p e s m args below meth c s₁ B hml hv
  obtain ⟨rfl, hP, hK⟩ := hv
  have hx := B.exec
  have hb := B.bytes
  have hr := B.returns
  have hts := atoms_spec (ws := (wsA yX7_freePaste cX7_freePaste 4 (some .int))) B.pre
  have ht : ∀ w ∈ lw_g, w.before _ s = true := fun w h => hts w (List.mem_cons_of_mem _ h)
  have hown : s.vm.findClass RX7 = some m.cls := findClass_of_methodNamed B.named
  have hlocks := B.notSynchronized
  have hl := lv_entry ([.ref (q0 0), .int p0]) (n := 4) (Nat.le_of_ble_eq_true rfl)
  rw [lg_entry_eq]
  generalize (lg_sl ([.ref (q0 0), .int p0]) ++ List.replicate (4 - (lg_sl ([.ref (q0 0), .int p0])).length) Slot.unset).toArray = ls at hl ⊢
  have hl : lv_has ls 4 [(0, .ref (q0 0)), (1, .int p0)] := hl
  unfold wp_X7_freePaste at hf
  have k_10 : ∀ (x2 : Int32) (x3 : Int32) (ls : Array Slot), B_X7_freePaste_10 s0 x2 x3 Q → lv_has ls 4 [(0, .ref (q0 0)), (2, .int x2), (3, .int x3)] → W p l e (headSpec (wsA yX7_freePaste cX7_freePaste 4 (some .int)) ({ frames := 1, cells := 0, slots := 0, locals := 24 })).room s m (#[.ref (q0 0), .int p0] : Array Value) below meth c s.heap [] 0 0 (MQ below (vp_Si Q) (#[.ref (q0 0), .int p0] : Array Value) s 0 0 (fun _ => False)) (F0 m 10 ls []) := by
    intro x2 x3 ls hf hl
    unfold B_X7_freePaste_10 at hf
    obtain ⟨I_10, ⟨n0_10, hI0_10⟩, hst_10⟩ := hf
    have main_10 : ∀ (n : Nat) (x2 : Int32) (x3 : Int32) (ls : Array Slot), I_10 n (x2, x3) → lv_has ls 4 [(0, .ref (q0 0)), (2, .int x2), (3, .int x3)] → W p l e (headSpec (wsA yX7_freePaste cX7_freePaste 4 (some .int)) ({ frames := 1, cells := 0, slots := 0, locals := 24 })).room s m (#[.ref (q0 0), .int p0] : Array Value) below meth c s.heap [] 0 0 (MQ below (vp_Si Q) (#[.ref (q0 0), .int p0] : Array Value) s 0 0 (fun _ => False)) (F0 m 10 ls []) := by
      intro n
      induction n using Nat.strongRecOn with
      | _ n_10 ih_10 =>
      intro x2 x3 ls hI hl
      have hf : LB_X7_freePaste_10 (fun z => ∃ k, k < n_10 ∧ I_10 k z) s0 x2 x3 Q := hst_10 n_10 (x2, x3) hI
      have hG_10 : ∀ (x2 : Int32) (x3 : Int32) (ls : Array Slot), (∃ k, k < n_10 ∧ I_10 k (x2, x3)) → lv_has ls 4 [(0, .ref (q0 0)), (2, .int x2), (3, .int x3)] → W p l e (headSpec (wsA yX7_freePaste cX7_freePaste 4 (some .int)) ({ frames := 1, cells := 0, slots := 0, locals := 24 })).room s m (#[.ref (q0 0), .int p0] : Array Value) below meth c s.heap [] 0 0 (MQ below (vp_Si Q) (#[.ref (q0 0), .int p0] : Array Value) s 0 0 (fun _ => False)) (F0 m 10 ls []) := by
        rintro x2 x3 ls ⟨k, hk, hI⟩ hl
        exact ih_10 k hk x2 x3 ls hI hl
      unfold LB_X7_freePaste_10 at hf
      have k_34 : ∀ (x3 : Int32) (t0 : Int32) (t1 : Int32) (ls : Array Slot), B_X7_freePaste_34 (fun z => ∃ k, k < n_10 ∧ I_10 k z) s0 x3 t0 t1 Q → lv_has ls 4 [(0, .ref (q0 0)), (3, .int x3)] → W p l e (headSpec (wsA yX7_freePaste cX7_freePaste 4 (some .int)) ({ frames := 1, cells := 0, slots := 0, locals := 24 })).room s m (#[.ref (q0 0), .int p0] : Array Value) below meth c s.heap [] 0 0 (MQ below (vp_Si Q) (#[.ref (q0 0), .int p0] : Array Value) s 0 0 (fun _ => False)) (F0 m 34 ls [.int t0, .int t1]) := by
        intro x3 t0 t1 ls hf hl
        unfold B_X7_freePaste_34 at hf
        refine lv_iand hx hb dX7_freePaste_34 ?_
        refine lv_topi (fun x2_1 ex2_1 => ?_)
        have hf := hf x2_1 ex2_1
        refine lv_istore_n (lv' := [(2, .int x2_1), (0, .ref (q0 0)), (3, .int x3)]) hx hb dX7_freePaste_35 rfl hl (by decide) rfl (fun ls hl => ?_)
        obtain ⟨x3_2, ex3_2⟩ : ∃ y : Int32, y = x3 + (1 : Int32) := ⟨_, rfl⟩
        have hf := hf x3_2 ex3_2
        refine lv_iinc (v := x3_2) (lv' := [(3, .int x3_2), (2, .int x2_1), (0, .ref (q0 0))]) hx hb dX7_freePaste_36 hl (k := 2) rfl (by rw [ex3_2]; rfl) (by decide) rfl (fun ls hl => ?_)
        refine lv_goto (tgt := 10) hx hb dX7_freePaste_39 (by decide) ?_
        exact hG_10 x2_1 x3_2 ls hf (lv_sub hl [2, 1, 0] rfl)
      refine lv_iload_n hx hb dX7_freePaste_10 rfl (lv_at hl 2 rfl) ?_
      refine lv_bipush (v := (20 : Int32)) hx hb dX7_freePaste_11 (by decide) ?_
      refine lv_icmp_ge (tgt := 42) hx hb dX7_freePaste_13 (by decide) (fun c_3 => ?_) (fun c_3 => ?_)
      · have hf := hf.1 c_3
        refine lv_iload_n hx hb dX7_freePaste_42 rfl (lv_at hl 1 rfl) ?_
        exact W.iret (v := x2) hx hb hr (fun t ht hW => ⟨x2, rfl, hf, ht⟩) (fun q h => absurd h List.not_mem_nil) dX7_freePaste_43
      · have hf := hf.2 c_3
        refine lv_iload_n hx hb dX7_freePaste_16 rfl (lv_at hl 1 rfl) ?_
        refine lv_aload_n hx hb dX7_freePaste_17 rfl (lv_at hl 0 rfl) ?_
        refine lv_iload_n hx hb dX7_freePaste_18 rfl (lv_at hl 2 rfl) ?_
        have hPc : va_P D classes (wM cI cZ q0 s0) s.heap := hP
        refine vp_callSi (W.runV (As := [.int x3]) (rest := [.int x2]) ⟨hx, hb, hml, hown, hts⟩ (c_X7_isMonks l D cI cZ cW q0 x3 s0 _ hf) ⟨callB_of 1 hts (gA tw_838) rfl rfl rfl (ht _ tw_7) (ht _ tw_835) hd_X7_isMonks ⟨Nat.le_of_ble_eq_true rfl, Nat.le_of_ble_eq_true rfl⟩, ht _ tw_837, ht _ twp_30⟩ ⟨PR_blind, va_recv hK hP (ci := 5) (q0 := 0) rfl eM_0, fun U hU hW => PR_mk hPc hK hU hW⟩ rfl rfl hl.1 rfl (lv_room (Nat.le_of_ble_eq_true rfl)) dX7_freePaste_19 ⟨Nat.zero_le _, Nat.zero_le _⟩) (fun r_4 hf => ?_)
        refine lv_if_eq (tgt := 33) hx hb dX7_freePaste_22 (by decide) (fun c_5 => ?_) (fun c_5 => ?_)
        · have hf := hf.1 c_5
          refine lv_iconst (v := (-1 : Int32)) hx hb dX7_freePaste_33 (by decide) ?_
          exact k_34 x3 (-1 : Int32) x2 ls hf (lv_sub hl [0, 2] rfl)
        · have hf := hf.2 c_5
          refine lv_iconst (v := (1 : Int32)) hx hb dX7_freePaste_25 (by decide) ?_
          refine lv_iload_n hx hb dX7_freePaste_26 rfl (lv_at hl 2 rfl) ?_
          refine lv_ishl hx hb dX7_freePaste_27 ?_
          refine lv_iconst (v := (-1 : Int32)) hx hb dX7_freePaste_28 (by decide) ?_
          refine lv_ixor hx hb dX7_freePaste_29 ?_
          refine lv_goto (tgt := 34) hx hb dX7_freePaste_30 (by decide) ?_
          exact k_34 x3 (((1 : Int32) <<< (x3 &&& 31)) ^^^ (-1 : Int32)) x2 ls hf (lv_sub hl [0, 2] rfl)
    exact main_10 n0_10 x2 x3 ls hI0_10 hl
  refine lv_aload_n hx hb dX7_freePaste_0 rfl (lv_at hl 0 rfl) ?_
  refine lv_iload_n hx hb dX7_freePaste_1 rfl (lv_at hl 1 rfl) ?_
  refine lv_bipush (v := (7 : Int32)) hx hb dX7_freePaste_2 (by decide) ?_
  have hPc : va_P D classes (wM cI cZ q0 s0) s.heap := hP
  refine vp_callSi (W.runV (As := [.int p0, .int (7 : Int32)]) (rest := []) ⟨hx, hb, hml, hown, hts⟩ (c_X7_of l D cI cZ cW q0 p0 (7 : Int32) s0 _ hf) ⟨callB_of 2 hts (gA tw_807) rfl rfl rfl (ht _ tw_7) (ht _ tw_804) hd_X7_of ⟨Nat.le_of_ble_eq_true rfl, Nat.le_of_ble_eq_true rfl⟩, ht _ tw_806, ht _ twp_25⟩ ⟨PR_blind, va_recv hK hP (ci := 5) (q0 := 0) rfl eM_0, fun U hU hW => PR_mk hPc hK hU hW⟩ rfl rfl hl.1 rfl (lv_room (Nat.le_of_ble_eq_true rfl)) dX7_freePaste_4 ⟨Nat.zero_le _, Nat.zero_le _⟩) (fun r_6 hf => ?_)
  refine lv_istore_n (lv' := [(2, .int r_6), (0, .ref (q0 0)), (1, .int p0)]) hx hb dX7_freePaste_7 rfl hl (by decide) rfl (fun ls hl => ?_)
  refine lv_iconst (v := (0 : Int32)) hx hb dX7_freePaste_8 (by decide) ?_
  refine lv_istore_n (lv' := [(3, .int (0 : Int32)), (2, .int r_6), (0, .ref (q0 0)), (1, .int p0)]) hx hb dX7_freePaste_9 rfl hl (by decide) rfl (fun ls hl => ?_)
  exact k_10 r_6 (0 : Int32) ls hf (lv_sub hl [2, 1, 0] rfl)
def B_X7_grow_71  (x1 : Int32) (x2 : Int32) (x3 : Int32) (s0 : CS) (Q : CS → Prop) : Prop := vp_in (((35 : Int32) * x1) + x3) 70 ∧ ∀ s0_2 : CS, s0_2 = sA s0 5 (((35 : Int32) * x1) + x3).toNatClampNeg x2 → Q s0_2
def wp_X7_grow (p0 : Int32) (p1 : Int32) (s0 : CS) (Q : CS → Prop) : Prop := wp_X7_of p0 p1 s0 (fun r_3 => vp_in p1 5 ∧ wp_X7_freePaste p0 s0 (fun r_5 => wp_X7_takes r_3 ((s0.2.1 4) p1.toNatClampNeg) r_5 s0 (fun r_6 => ((r_6 = (-9 : Int32) → Q s0) ∧ (¬ r_6 = (-9 : Int32) → vp_in (r_6 / (5 : Int32)) 4 ∧ ∀ x4_9 : Int32, x4_9 = ((s0.2.1 3) (r_6 / (5 : Int32)).toNatClampNeg) → vp_in ((((35 : Int32) * p0) + (20 : Int32)) + p1) 70 ∧ ∀ x5_11 : Int32, x5_11 = ((s0.2.1 5) ((((35 : Int32) * p0) + (20 : Int32)) + p1).toNatClampNeg) → ((x4_9 = x5_11 → B_X7_grow_71  p0 p1 r_6 s0 Q) ∧ (¬ x4_9 = x5_11 → wp_X7_pay p0 x5_11 x4_9 (1 : Int32) s0 (fun s0_13 => B_X7_grow_71  p0 p1 r_6 s0_13 Q))))))))
set_option maxHeartbeats 4000000 in
set_option maxRecDepth 100000 in
theorem c_X7_grow (l : Launch) (D : va_G) (cI cZ cW : ClassId) (q0 : Nat → Nat) (sz : Nat) (p0 : Int32) (p1 : Int32) (s0 : CS) (Q : CS → Prop) (hf : wp_X7_grow p0 p1 s0 Q) : Met l yX7_grow (wsA yX7_grow cX7_grow 6 none) ({ frames := 3, cells := 0, slots := 0, locals := 66 }) (PW D cI cZ cW [.ref (q0 0), .int p0, .int p1] (wM cI cZ q0 s0) sz) (va_Qv (fun (u : CS) => Q u) (fun u t => va_P D classes (wM cI cZ q0 u) t.heap) (va_A (wM cI cZ q0 s0) sz)) 0 0 (va_A (wM cI cZ q0 s0) sz) := by
  refine Met.ofW (cc := cX7_grow) (maxL := 6) (ret := none) (by decide) rfl ?_
  intro p e s m args below meth c s₁ B hml hv
  obtain ⟨rfl, hsz, hP, hK, hD0⟩ := hv
  have hx := B.exec
  have hb := B.bytes
  have hr := B.returns
  have hts := atoms_spec (ws := (wsA yX7_grow cX7_grow 6 none)) B.pre
  have ht : ∀ w ∈ lw_g, w.before _ s = true := fun w h => hts w (List.mem_cons_of_mem _ h)
  have hown : s.vm.findClass RX7 = some m.cls := findClass_of_methodNamed B.named
  have hlocks := B.notSynchronized
  subst hsz
  have hD := hD0.self (sz := s.heap.size)
  generalize hAe : va_A (wM cI cZ q0 s0) s.heap.size = A at hD ⊢
  have hA : ∀ q : Nat, s.heap.size ≤ q → A q := fun q h => by rw [← hAe]; exact Or.inr h
  have hS : va_S A s.heap s.heap [] := va_S.rf
  have hDk : ∀ w : CS, va_D A (wM cI cZ q0 w) := fun w => D_M hD
  have hl := lv_entry ([.ref (q0 0), .int p0, .int p1]) (n := 6) (Nat.le_of_ble_eq_true rfl)
  rw [lg_entry_eq]
  generalize (lg_sl ([.ref (q0 0), .int p0, .int p1]) ++ List.replicate (6 - (lg_sl ([.ref (q0 0), .int p0, .int p1])).length) Slot.unset).toArray = ls at hl ⊢
  have hl : lv_has ls 6 [(0, .ref (q0 0)), (1, .int p0), (2, .int p1)] := hl
  unfold wp_X7_grow at hf
  have k_71 : ∀ (x1 : Int32) (x2 : Int32) (x3 : Int32) (s0 : CS) (H : Heap) (locs : List Loc) (ls : Array Slot), B_X7_grow_71  x1 x2 x3 s0 Q → va_P D classes (wM cI cZ q0 s0) H → va_D A (wM cI cZ q0 s0) → va_S A s.heap H locs → lv_has ls 6 [(0, .ref (q0 0)), (1, .int x1), (2, .int x2), (3, .int x3)] → W p l e (headSpec (wsA yX7_grow cX7_grow 6 none) ({ frames := 3, cells := 0, slots := 0, locals := 66 })).room s m (#[.ref (q0 0), .int p0, .int p1] : Array Value) below meth c H locs 0 0 (MQ below (va_Qv (fun (u : CS) => Q u) (fun u t => va_P D classes (wM cI cZ q0 u) t.heap) A) (#[.ref (q0 0), .int p0, .int p1] : Array Value) s 0 0 A) (F0 m 71 ls []) := by
    intro x1 x2 x3 s0 H locs ls hf hP hD hS hl
    unfold B_X7_grow_71 at hf
    refine lv_aload_n hx hb dX7_grow_71 rfl (lv_at hl 0 rfl) ?_
    refine va_get (D := D) (ci := 5) (v := .ref (q0 4)) (C := RX7) (T := TX7) (N := 28) hx hb ht inX7 hown hK hP 0 eM_0 rfl 5 (by decide) (ht _ tw_660) (fun _ h9 => h9) rfl dX7_grow_72 ?_
    refine lv_bipush (v := (35 : Int32)) hx hb dX7_grow_75 (by decide) ?_
    refine lv_iload_n hx hb dX7_grow_77 rfl (lv_at hl 1 rfl) ?_
    refine lv_imul hx hb dX7_grow_78 ?_
    refine lv_iload_n hx hb dX7_grow_79 rfl (lv_at hl 3 rfl) ?_
    refine lv_iadd hx hb dX7_grow_80 ?_
    refine lv_iload_n hx hb dX7_grow_81 rfl (lv_at hl 2 rfl) ?_
    obtain ⟨hi_1, hf⟩ := hf
    refine va_iast hx hb hK hP hD hS 4 0 eM_4 rfl hi_1 dX7_grow_82 (fun H locs hP hD hS => ?_)
    obtain ⟨s0_2, es0_2⟩ : ∃ y : CS, y = sA s0 5 (((35 : Int32) * x1) + x3).toNatClampNeg x2 := ⟨_, rfl⟩
    have hf := hf s0_2 es0_2
    have hD := hDk s0_2
    have hP : va_P D classes (wM cI cZ q0 s0_2) H := by rw [es0_2]; exact PM_F5 hP
    exact W.vret hx hb hr (fun t ht hW => ⟨⟨s0_2, rfl, hf, P_heap ht hP⟩, hS.F ht⟩) hS.2.2 dX7_grow_83
  have start : ∀ (H : Heap) (locs : List Loc), va_P D classes (wM cI cZ q0 s0) H → va_D A (wM cI cZ q0 s0) → va_S A s.heap H locs → W p l e (headSpec (wsA yX7_grow cX7_grow 6 none) ({ frames := 3, cells := 0, slots := 0, locals := 66 })).room s m (#[.ref (q0 0), .int p0, .int p1] : Array Value) below meth c H locs 0 0 (MQ below (va_Qv (fun (u : CS) => Q u) (fun u t => va_P D classes (wM cI cZ q0 u) t.heap) A) (#[.ref (q0 0), .int p0, .int p1] : Array Value) s 0 0 A) (F0 m 0 ls []) := by
    intro H locs hP hD hS
    refine lv_aload_n hx hb dX7_grow_0 rfl (lv_at hl 0 rfl) ?_
    refine lv_aload_n hx hb dX7_grow_1 rfl (lv_at hl 0 rfl) ?_
    refine lv_iload_n hx hb dX7_grow_2 rfl (lv_at hl 1 rfl) ?_
    refine lv_iload_n hx hb dX7_grow_3 rfl (lv_at hl 2 rfl) ?_
    have hPc : va_P D classes (wM cI cZ q0 s0) H := hP
    refine vp_callSi (W.runV (As := [.int p0, .int p1]) (rest := [.ref (q0 0)]) ⟨hx, hb, hml, hown, hts⟩ (c_X7_of l D cI cZ cW q0 p0 p1 s0 _ hf) ⟨callB_of 2 hts (gA tw_807) rfl rfl rfl (ht _ tw_7) (ht _ tw_804) hd_X7_of ⟨Nat.le_of_ble_eq_true rfl, Nat.le_of_ble_eq_true rfl⟩, ht _ tw_806, ht _ twp_25⟩ ⟨PR_blind, va_recv hK hP (ci := 5) (q0 := 0) rfl eM_0, fun U hU hW => PR_mk hPc hK hU hW⟩ rfl rfl hl.1 rfl (lv_room (Nat.le_of_ble_eq_true rfl)) dX7_grow_4 ⟨Nat.zero_le _, Nat.zero_le _⟩) (fun r_3 hf => ?_)
    refine lv_aload_n hx hb dX7_grow_7 rfl (lv_at hl 0 rfl) ?_
    refine va_get (D := D) (ci := 5) (v := .ref (q0 3)) (C := RX7) (T := TX7) (N := 28) hx hb ht inX7 hown hK hP 0 eM_0 rfl 4 (by decide) (ht _ tw_659) (fun _ h9 => h9) rfl dX7_grow_8 ?_
    refine lv_iload_n hx hb dX7_grow_11 rfl (lv_at hl 2 rfl) ?_
    obtain ⟨hi_4, hf⟩ := hf
    refine va_iald hx hb hK hP 3 0 eM_3 rfl hi_4 dX7_grow_12 ?_
    refine lv_aload_n hx hb dX7_grow_13 rfl (lv_at hl 0 rfl) ?_
    refine lv_iload_n hx hb dX7_grow_14 rfl (lv_at hl 1 rfl) ?_
    have hPc : va_P D classes (wM cI cZ q0 s0) H := hP
    refine vp_callSi (W.runV (As := [.int p0]) (rest := [.int ((s0.2.1 4) p1.toNatClampNeg), .int r_3, .ref (q0 0)]) ⟨hx, hb, hml, hown, hts⟩ (c_X7_freePaste l D cI cZ cW q0 p0 s0 _ hf) ⟨callB_of 1 hts (gA tw_834) rfl rfl rfl (ht _ tw_7) (ht _ tw_831) hd_X7_freePaste ⟨Nat.le_of_ble_eq_true rfl, Nat.le_of_ble_eq_true rfl⟩, ht _ tw_833, ht _ twp_29⟩ ⟨PR_blind, va_recv hK hP (ci := 5) (q0 := 0) rfl eM_0, fun U hU hW => PR_mk hPc hK hU hW⟩ rfl rfl hl.1 rfl (lv_room (Nat.le_of_ble_eq_true rfl)) dX7_grow_15 ⟨Nat.zero_le _, Nat.zero_le _⟩) (fun r_5 hf => ?_)
    have hPc : va_P D classes (wM cI cZ q0 s0) H := hP
    refine vp_callSi (W.runV (As := [.int r_3, .int ((s0.2.1 4) p1.toNatClampNeg), .int r_5]) (rest := []) ⟨hx, hb, hml, hown, hts⟩ (c_X7_takes l D cI cZ cW q0 r_3 ((s0.2.1 4) p1.toNatClampNeg) r_5 s0 _ hf) ⟨callB_of 3 hts (gA tw_842) rfl rfl rfl (ht _ tw_7) (ht _ tw_839) hd_X7_takes ⟨Nat.le_of_ble_eq_true rfl, Nat.le_of_ble_eq_true rfl⟩, ht _ tw_841, ht _ twp_31⟩ ⟨PR_blind, va_recv hK hP (ci := 5) (q0 := 0) rfl eM_0, fun U hU hW => PR_mk hPc hK hU hW⟩ rfl rfl hl.1 rfl (lv_room (Nat.le_of_ble_eq_true rfl)) dX7_grow_18 ⟨Nat.zero_le _, Nat.zero_le _⟩) (fun r_6 hf => ?_)
    refine lv_istore_n (lv' := [(3, .int r_6), (0, .ref (q0 0)), (1, .int p0), (2, .int p1)]) hx hb dX7_grow_21 rfl hl (by decide) rfl (fun ls hl => ?_)
    refine lv_iload_n hx hb dX7_grow_22 rfl (lv_at hl 0 rfl) ?_
    refine lv_bipush (v := (-9 : Int32)) hx hb dX7_grow_23 (by decide) ?_
    refine lv_icmp_eq (tgt := 83) hx hb dX7_grow_25 (by decide) (fun c_7 => ?_) (fun c_7 => ?_)
    · have hf := hf.1 c_7
      exact W.vret hx hb hr (fun t ht hW => ⟨⟨s0, rfl, hf, P_heap ht hP⟩, hS.F ht⟩) hS.2.2 dX7_grow_83
    · have hf := hf.2 c_7
      refine lv_aload_n hx hb dX7_grow_28 rfl (lv_at hl 1 rfl) ?_
      refine va_get (D := D) (ci := 5) (v := .ref (q0 2)) (C := RX7) (T := TX7) (N := 28) hx hb ht inX7 hown hK hP 0 eM_0 rfl 3 (by decide) (ht _ tw_658) (fun _ h9 => h9) rfl dX7_grow_29 ?_
      refine lv_iload_n hx hb dX7_grow_32 rfl (lv_at hl 0 rfl) ?_
      refine lv_iconst (v := (5 : Int32)) hx hb dX7_grow_33 (by decide) ?_
      refine lv_idiv hx hb dX7_grow_34 (by decide) ?_
      obtain ⟨hi_8, hf⟩ := hf
      refine va_iald hx hb hK hP 2 0 eM_2 rfl hi_8 dX7_grow_35 ?_
      refine lv_topi (fun x4_9 ex4_9 => ?_)
      have hf := hf x4_9 ex4_9
      refine lv_istore (lv' := [(4, .int x4_9), (3, .int r_6), (0, .ref (q0 0)), (1, .int p0), (2, .int p1)]) hx hb dX7_grow_36 hl (by decide) rfl (fun ls hl => ?_)
      refine lv_aload_n hx hb dX7_grow_38 rfl (lv_at hl 2 rfl) ?_
      refine va_get (D := D) (ci := 5) (v := .ref (q0 4)) (C := RX7) (T := TX7) (N := 28) hx hb ht inX7 hown hK hP 0 eM_0 rfl 5 (by decide) (ht _ tw_660) (fun _ h9 => h9) rfl dX7_grow_39 ?_
      refine lv_bipush (v := (35 : Int32)) hx hb dX7_grow_42 (by decide) ?_
      refine lv_iload_n hx hb dX7_grow_44 rfl (lv_at hl 3 rfl) ?_
      refine lv_imul hx hb dX7_grow_45 ?_
      refine lv_bipush (v := (20 : Int32)) hx hb dX7_grow_46 (by decide) ?_
      refine lv_iadd hx hb dX7_grow_48 ?_
      refine lv_iload_n hx hb dX7_grow_49 rfl (lv_at hl 4 rfl) ?_
      refine lv_iadd hx hb dX7_grow_50 ?_
      obtain ⟨hi_10, hf⟩ := hf
      refine va_iald hx hb hK hP 4 0 eM_4 rfl hi_10 dX7_grow_51 ?_
      refine lv_topi (fun x5_11 ex5_11 => ?_)
      have hf := hf x5_11 ex5_11
      refine lv_istore (lv' := [(5, .int x5_11), (4, .int x4_9), (3, .int r_6), (0, .ref (q0 0)), (1, .int p0), (2, .int p1)]) hx hb dX7_grow_52 hl (by decide) rfl (fun ls hl => ?_)
      refine lv_iload hx hb dX7_grow_54 (lv_at hl 1 rfl) ?_
      refine lv_iload hx hb dX7_grow_56 (lv_at hl 0 rfl) ?_
      refine lv_icmp_eq (tgt := 71) hx hb dX7_grow_58 (by decide) (fun c_12 => ?_) (fun c_12 => ?_)
      · have hf := hf.1 c_12
        exact k_71 p0 p1 r_6 s0 H locs ls hf hP hD hS (lv_sub hl [3, 4, 5, 2] rfl)
      · have hf := hf.2 c_12
        refine lv_aload_n hx hb dX7_grow_61 rfl (lv_at hl 3 rfl) ?_
        refine lv_iload_n hx hb dX7_grow_62 rfl (lv_at hl 4 rfl) ?_
        refine lv_iload hx hb dX7_grow_63 (lv_at hl 0 rfl) ?_
        refine lv_iload hx hb dX7_grow_65 (lv_at hl 1 rfl) ?_
        refine lv_iconst (v := (1 : Int32)) hx hb dX7_grow_67 (by decide) ?_
        have hPc : va_P D classes (wM cI cZ q0 s0) H := hP
        have hDc : va_D A (wM cI cZ q0 s0) := hD
        have hFc := va_free (wc := (wM cI cZ q0 s0)) hD hS hA [0, 1, 2, 3, 4, 5, 6, 7, 8, 9, 10, 11, 12, 13, 14, 15] rfl
        refine va_callv (va_runV (As := [.int p0, .int x5_11, .int x4_9, .int (1 : Int32)]) (rest := []) ⟨hx, hb, hml, hown, hts⟩ (c_X7_pay l D cI cZ cW q0 H.size p0 x5_11 x4_9 (1 : Int32) s0 _ hf) ⟨callB_of 4 hts (gA tw_852) rfl rfl rfl (ht _ tw_7) (ht _ tw_849) hd_X7_pay ⟨Nat.le_of_ble_eq_true rfl, Nat.le_of_ble_eq_true rfl⟩, ht _ tw_851, ht _ twp_32⟩ ⟨PW_blind, va_recv hK hP (ci := 5) (q0 := 0) rfl eM_0, fun U hU hW => PW_mk hPc hDc hK hU hW⟩ rfl rfl hl.1 rfl (lv_room (Nat.le_of_ble_eq_true rfl)) dX7_grow_68 ⟨Nat.zero_le _, Nat.zero_le _⟩) hS (fun q _ h => hFc q h) hFc (fun u t H1 locs ht1 hvm hf hB hz1 hk1 hS => ?_)
        obtain ⟨s0_13, rfl⟩ : ∃ z, z = u := ⟨_, rfl⟩
        rw [ht1] at hB
        have hP := hB
        have hD := hDk s0_13
        generalize H1 = H at hP hS ⊢
        have hP : va_P D classes (wM cI cZ q0 s0_13) H := hP
        have hD : va_D A (wM cI cZ q0 s0_13) := hD
        exact k_71 p0 p1 r_6 s0_13 H locs ls hf hP hD hS (lv_sub hl [3, 4, 5, 2] rfl)
  exact start s.heap [] hP hD hS
def wp_X7_endHole (p0 : Int32) (p1 : Int32) (s0 : CS) (Q : CS → Prop) : Prop := vp_in ((((35 : Int32) * p0) + (20 : Int32)) + p1) 70 ∧ ∀ s0_2 : CS, s0_2 = sA s0 5 ((((35 : Int32) * p0) + (20 : Int32)) + p1).toNatClampNeg (-9 : Int32) → vp_in ((((35 : Int32) * p0) + (25 : Int32)) + p1) 70 ∧ ∀ s0_4 : CS, s0_4 = sA s0_2 5 ((((35 : Int32) * p0) + (25 : Int32)) + p1).toNatClampNeg (-9 : Int32) → Q s0_4
set_option maxHeartbeats 4000000 in
set_option maxRecDepth 100000 in
theorem c_X7_endHole (l : Launch) (D : va_G) (cI cZ cW : ClassId) (q0 : Nat → Nat) (sz : Nat) (p0 : Int32) (p1 : Int32) (s0 : CS) (Q : CS → Prop) (hf : wp_X7_endHole p0 p1 s0 Q) : Met l yX7_endHole (wsA yX7_endHole cX7_endHole 3 none) ({ frames := 0, cells := 0, slots := 0, locals := 0 }) (PW D cI cZ cW [.ref (q0 0), .int p0, .int p1] (wM cI cZ q0 s0) sz) (va_Qv (fun (u : CS) => Q u) (fun u t => va_P D classes (wM cI cZ q0 u) t.heap) (va_A (wM cI cZ q0 s0) sz)) 0 0 (va_A (wM cI cZ q0 s0) sz) := by
  refine Met.ofW (cc := cX7_endHole) (maxL := 3) (ret := none) (by decide) rfl ?_
  intro p e s m args below meth c s₁ B hml hv
  obtain ⟨rfl, hsz, hP, hK, hD0⟩ := hv
  have hx := B.exec
  have hb := B.bytes
  have hr := B.returns
  have hts := atoms_spec (ws := (wsA yX7_endHole cX7_endHole 3 none)) B.pre
  have ht : ∀ w ∈ lw_g, w.before _ s = true := fun w h => hts w (List.mem_cons_of_mem _ h)
  have hown : s.vm.findClass RX7 = some m.cls := findClass_of_methodNamed B.named
  have hlocks := B.notSynchronized
  subst hsz
  have hD := hD0.self (sz := s.heap.size)
  generalize hAe : va_A (wM cI cZ q0 s0) s.heap.size = A at hD ⊢
  have hA : ∀ q : Nat, s.heap.size ≤ q → A q := fun q h => by rw [← hAe]; exact Or.inr h
  have hS : va_S A s.heap s.heap [] := va_S.rf
  have hDk : ∀ w : CS, va_D A (wM cI cZ q0 w) := fun w => D_M hD
  have hl := lv_entry ([.ref (q0 0), .int p0, .int p1]) (n := 3) (Nat.le_of_ble_eq_true rfl)
  rw [lg_entry_eq]
  generalize (lg_sl ([.ref (q0 0), .int p0, .int p1]) ++ List.replicate (3 - (lg_sl ([.ref (q0 0), .int p0, .int p1])).length) Slot.unset).toArray = ls at hl ⊢
  have hl : lv_has ls 3 [(0, .ref (q0 0)), (1, .int p0), (2, .int p1)] := hl
  unfold wp_X7_endHole at hf
  have start : ∀ (H : Heap) (locs : List Loc), va_P D classes (wM cI cZ q0 s0) H → va_D A (wM cI cZ q0 s0) → va_S A s.heap H locs → W p l e (headSpec (wsA yX7_endHole cX7_endHole 3 none) ({ frames := 0, cells := 0, slots := 0, locals := 0 })).room s m (#[.ref (q0 0), .int p0, .int p1] : Array Value) below meth c H locs 0 0 (MQ below (va_Qv (fun (u : CS) => Q u) (fun u t => va_P D classes (wM cI cZ q0 u) t.heap) A) (#[.ref (q0 0), .int p0, .int p1] : Array Value) s 0 0 A) (F0 m 0 ls []) := by
    intro H locs hP hD hS
    refine lv_aload_n hx hb dX7_endHole_0 rfl (lv_at hl 0 rfl) ?_
    refine va_get (D := D) (ci := 5) (v := .ref (q0 4)) (C := RX7) (T := TX7) (N := 28) hx hb ht inX7 hown hK hP 0 eM_0 rfl 5 (by decide) (ht _ tw_660) (fun _ h9 => h9) rfl dX7_endHole_1 ?_
    refine lv_bipush (v := (35 : Int32)) hx hb dX7_endHole_4 (by decide) ?_
    refine lv_iload_n hx hb dX7_endHole_6 rfl (lv_at hl 1 rfl) ?_
    refine lv_imul hx hb dX7_endHole_7 ?_
    refine lv_bipush (v := (20 : Int32)) hx hb dX7_endHole_8 (by decide) ?_
    refine lv_iadd hx hb dX7_endHole_10 ?_
    refine lv_iload_n hx hb dX7_endHole_11 rfl (lv_at hl 2 rfl) ?_
    refine lv_iadd hx hb dX7_endHole_12 ?_
    refine lv_bipush (v := (-9 : Int32)) hx hb dX7_endHole_13 (by decide) ?_
    obtain ⟨hi_1, hf⟩ := hf
    refine va_iast hx hb hK hP hD hS 4 0 eM_4 rfl hi_1 dX7_endHole_15 (fun H locs hP hD hS => ?_)
    obtain ⟨s0_2, es0_2⟩ : ∃ y : CS, y = sA s0 5 ((((35 : Int32) * p0) + (20 : Int32)) + p1).toNatClampNeg (-9 : Int32) := ⟨_, rfl⟩
    have hf := hf s0_2 es0_2
    have hD := hDk s0_2
    have hP : va_P D classes (wM cI cZ q0 s0_2) H := by rw [es0_2]; exact PM_F5 hP
    refine lv_aload_n hx hb dX7_endHole_16 rfl (lv_at hl 0 rfl) ?_
    refine va_get (D := D) (ci := 5) (v := .ref (q0 4)) (C := RX7) (T := TX7) (N := 28) hx hb ht inX7 hown hK hP 0 eM_0 rfl 5 (by decide) (ht _ tw_660) (fun _ h9 => h9) rfl dX7_endHole_17 ?_
    refine lv_bipush (v := (35 : Int32)) hx hb dX7_endHole_20 (by decide) ?_
    refine lv_iload_n hx hb dX7_endHole_22 rfl (lv_at hl 1 rfl) ?_
    refine lv_imul hx hb dX7_endHole_23 ?_
    refine lv_bipush (v := (25 : Int32)) hx hb dX7_endHole_24 (by decide) ?_
    refine lv_iadd hx hb dX7_endHole_26 ?_
    refine lv_iload_n hx hb dX7_endHole_27 rfl (lv_at hl 2 rfl) ?_
    refine lv_iadd hx hb dX7_endHole_28 ?_
    refine lv_bipush (v := (-9 : Int32)) hx hb dX7_endHole_29 (by decide) ?_
    obtain ⟨hi_3, hf⟩ := hf
    refine va_iast hx hb hK hP hD hS 4 0 eM_4 rfl hi_3 dX7_endHole_31 (fun H locs hP hD hS => ?_)
    obtain ⟨s0_4, es0_4⟩ : ∃ y : CS, y = sA s0_2 5 ((((35 : Int32) * p0) + (25 : Int32)) + p1).toNatClampNeg (-9 : Int32) := ⟨_, rfl⟩
    have hf := hf s0_4 es0_4
    have hD := hDk s0_4
    have hP : va_P D classes (wM cI cZ q0 s0_4) H := by rw [es0_4]; exact PM_F5 hP
    exact W.vret hx hb hr (fun t ht hW => ⟨⟨s0_4, rfl, hf, P_heap ht hP⟩, hS.F ht⟩) hS.2.2 dX7_endHole_32
  exact start s.heap [] hP hD hS
def B_X7_join_104 (G52 : (Int32 × Int32 × Int32 × Int32 × CS) → Prop)  (x1 : Int32) (x6 : Int32) (x7 : Int32) (x8 : Int32) (t0 : Int32) (t1 : Int32) (s0 : CS) (Q : CS → Prop) : Prop := vp_in t1 70 ∧ ∀ s0_2 : CS, s0_2 = sA s0 5 t1.toNatClampNeg t0 → ∀ x8_3 : Int32, x8_3 = x8 + (1 : Int32) → G52 (x1, x6, x7, x8_3, s0_2)
def LB_X7_join_52 (G52 : (Int32 × Int32 × Int32 × Int32 × CS) → Prop)  (x1 : Int32) (x6 : Int32) (x7 : Int32) (x8 : Int32) (s0 : CS) (Q : CS → Prop) : Prop := (((20 : Int32) ≤ x8 → wp_X7_endHole x1 x6 s0 (fun s0_5 => Q s0_5)) ∧ (¬ (20 : Int32) ≤ x8 → vp_in (((35 : Int32) * x1) + x8) 70 ∧ ((¬ ((s0.2.1 5) (((35 : Int32) * x1) + x8).toNatClampNeg) = x6 → vp_in (((35 : Int32) * x1) + x8) 70 ∧ B_X7_join_104 G52  x1 x6 x7 x8 ((s0.2.1 5) (((35 : Int32) * x1) + x8).toNatClampNeg) (((35 : Int32) * x1) + x8) s0 Q) ∧ (((s0.2.1 5) (((35 : Int32) * x1) + x8).toNatClampNeg) = x6 → B_X7_join_104 G52  x1 x6 x7 x8 x7 (((35 : Int32) * x1) + x8) s0 Q))))
def B_X7_join_52  (x1 : Int32) (x6 : Int32) (x7 : Int32) (x8 : Int32) (s0 : CS) (Q : CS → Prop) : Prop := LOOP (fun (G52 : (Int32 × Int32 × Int32 × Int32 × CS) → Prop) z => LB_X7_join_52 G52  z.1 z.2.1 z.2.2.1 z.2.2.2.1 z.2.2.2.2 Q) (x1, x6, x7, x8, s0)
def B_X7_join_47  (x1 : Int32) (x6 : Int32) (t0 : Int32) (s0 : CS) (Q : CS → Prop) : Prop := B_X7_join_52  x1 x6 t0 (0 : Int32) s0 Q
def B_X7_join_34  (x1 : Int32) (x2 : Int32) (x3 : Int32) (t0 : Int32) (s0 : CS) (Q : CS → Prop) : Prop := ((¬ t0 = x2 → B_X7_join_47  x1 t0 x2 s0 Q) ∧ (t0 = x2 → B_X7_join_47  x1 t0 x3 s0 Q))
def wp_X7_join (p0 : Int32) (p1 : Int32) (p2 : Int32) (s0 : CS) (Q : CS → Prop) : Prop := wp_X7_of p0 p1 s0 (fun r_10 => wp_X7_of p0 p2 s0 (fun r_11 => wp_X7_ones r_11 (fun r_12 => wp_X7_ones r_10 (fun r_13 => ((r_12 ≤ r_13 → B_X7_join_34  p0 p1 p2 p2 s0 Q) ∧ (¬ r_12 ≤ r_13 → B_X7_join_34  p0 p1 p2 p1 s0 Q))))))
set_option maxHeartbeats 4000000 in
set_option maxRecDepth 100000 in
theorem c_X7_join (l : Launch) (D : va_G) (cI cZ cW : ClassId) (q0 : Nat → Nat) (sz : Nat) (p0 : Int32) (p1 : Int32) (p2 : Int32) (s0 : CS) (Q : CS → Prop) (hf : wp_X7_join p0 p1 p2 s0 Q) : Met l yX7_join (wsA yX7_join cX7_join 9 none) ({ frames := 1, cells := 0, slots := 0, locals := 24 }) (PW D cI cZ cW [.ref (q0 0), .int p0, .int p1, .int p2] (wM cI cZ q0 s0) sz) (va_Qv (fun (u : CS) => Q u) (fun u t => va_P D classes (wM cI cZ q0 u) t.heap) (va_A (wM cI cZ q0 s0) sz)) 0 0 (va_A (wM cI cZ q0 s0) sz) := by
  refine Met.ofW (cc := cX7_join) (maxL := 9) (ret := none) (by decide) rfl ?_
  intro p e s m args below meth c s₁ B hml hv
  obtain ⟨rfl, hsz, hP, hK, hD0⟩ := hv
  have hx := B.exec
  have hb := B.bytes
  have hr := B.returns
  have hts := atoms_spec (ws := (wsA yX7_join cX7_join 9 none)) B.pre
  have ht : ∀ w ∈ lw_g, w.before _ s = true := fun w h => hts w (List.mem_cons_of_mem _ h)
  have hown : s.vm.findClass RX7 = some m.cls := findClass_of_methodNamed B.named
  have hlocks := B.notSynchronized
  subst hsz
  have hD := hD0.self (sz := s.heap.size)
  generalize hAe : va_A (wM cI cZ q0 s0) s.heap.size = A at hD ⊢
  have hA : ∀ q : Nat, s.heap.size ≤ q → A q := fun q h => by rw [← hAe]; exact Or.inr h
  have hS : va_S A s.heap s.heap [] := va_S.rf
  have hDk : ∀ w : CS, va_D A (wM cI cZ q0 w) := fun w => D_M hD
  have hl := lv_entry ([.ref (q0 0), .int p0, .int p1, .int p2]) (n := 9) (Nat.le_of_ble_eq_true rfl)
  rw [lg_entry_eq]
  generalize (lg_sl ([.ref (q0 0), .int p0, .int p1, .int p2]) ++ List.replicate (9 - (lg_sl ([.ref (q0 0), .int p0, .int p1, .int p2])).length) Slot.unset).toArray = ls at hl ⊢
  have hl : lv_has ls 9 [(0, .ref (q0 0)), (1, .int p0), (2, .int p1), (3, .int p2)] := hl
  unfold wp_X7_join at hf
  have k_52 : ∀ (x1 : Int32) (x6 : Int32) (x7 : Int32) (x8 : Int32) (s0 : CS) (H : Heap) (locs : List Loc) (ls : Array Slot), B_X7_join_52  x1 x6 x7 x8 s0 Q → va_P D classes (wM cI cZ q0 s0) H → va_D A (wM cI cZ q0 s0) → va_S A s.heap H locs → lv_has ls 9 [(0, .ref (q0 0)), (1, .int x1), (6, .int x6), (7, .int x7), (8, .int x8)] → W p l e (headSpec (wsA yX7_join cX7_join 9 none) ({ frames := 1, cells := 0, slots := 0, locals := 24 })).room s m (#[.ref (q0 0), .int p0, .int p1, .int p2] : Array Value) below meth c H locs 0 0 (MQ below (va_Qv (fun (u : CS) => Q u) (fun u t => va_P D classes (wM cI cZ q0 u) t.heap) A) (#[.ref (q0 0), .int p0, .int p1, .int p2] : Array Value) s 0 0 A) (F0 m 52 ls []) := by
    intro x1 x6 x7 x8 s0 H locs ls hf hP hD hS hl
    unfold B_X7_join_52 at hf
    obtain ⟨I_52, ⟨n0_52, hI0_52⟩, hst_52⟩ := hf
    have main_52 : ∀ (n : Nat) (x1 : Int32) (x6 : Int32) (x7 : Int32) (x8 : Int32) (s0 : CS) (H : Heap) (locs : List Loc) (ls : Array Slot), I_52 n (x1, x6, x7, x8, s0) → va_P D classes (wM cI cZ q0 s0) H → va_D A (wM cI cZ q0 s0) → va_S A s.heap H locs → lv_has ls 9 [(0, .ref (q0 0)), (1, .int x1), (6, .int x6), (7, .int x7), (8, .int x8)] → W p l e (headSpec (wsA yX7_join cX7_join 9 none) ({ frames := 1, cells := 0, slots := 0, locals := 24 })).room s m (#[.ref (q0 0), .int p0, .int p1, .int p2] : Array Value) below meth c H locs 0 0 (MQ below (va_Qv (fun (u : CS) => Q u) (fun u t => va_P D classes (wM cI cZ q0 u) t.heap) A) (#[.ref (q0 0), .int p0, .int p1, .int p2] : Array Value) s 0 0 A) (F0 m 52 ls []) := by
      intro n
      induction n using Nat.strongRecOn with
      | _ n_52 ih_52 =>
      intro x1 x6 x7 x8 s0 H locs ls hI hP hD hS hl
      have hf : LB_X7_join_52 (fun z => ∃ k, k < n_52 ∧ I_52 k z)  x1 x6 x7 x8 s0 Q := hst_52 n_52 (x1, x6, x7, x8, s0) hI
      have hG_52 : ∀ (x1 : Int32) (x6 : Int32) (x7 : Int32) (x8 : Int32) (s0 : CS) (H : Heap) (locs : List Loc) (ls : Array Slot), (∃ k, k < n_52 ∧ I_52 k (x1, x6, x7, x8, s0)) → va_P D classes (wM cI cZ q0 s0) H → va_D A (wM cI cZ q0 s0) → va_S A s.heap H locs → lv_has ls 9 [(0, .ref (q0 0)), (1, .int x1), (6, .int x6), (7, .int x7), (8, .int x8)] → W p l e (headSpec (wsA yX7_join cX7_join 9 none) ({ frames := 1, cells := 0, slots := 0, locals := 24 })).room s m (#[.ref (q0 0), .int p0, .int p1, .int p2] : Array Value) below meth c H locs 0 0 (MQ below (va_Qv (fun (u : CS) => Q u) (fun u t => va_P D classes (wM cI cZ q0 u) t.heap) A) (#[.ref (q0 0), .int p0, .int p1, .int p2] : Array Value) s 0 0 A) (F0 m 52 ls []) := by
        rintro x1 x6 x7 x8 s0 H locs ls ⟨k, hk, hI⟩ hP hD hS hl
        exact ih_52 k hk x1 x6 x7 x8 s0 H locs ls hI hP hD hS hl
      unfold LB_X7_join_52 at hf
      have k_104 : ∀ (x1 : Int32) (x6 : Int32) (x7 : Int32) (x8 : Int32) (t0 : Int32) (t1 : Int32) (s0 : CS) (H : Heap) (locs : List Loc) (ls : Array Slot), B_X7_join_104 (fun z => ∃ k, k < n_52 ∧ I_52 k z)  x1 x6 x7 x8 t0 t1 s0 Q → va_P D classes (wM cI cZ q0 s0) H → va_D A (wM cI cZ q0 s0) → va_S A s.heap H locs → lv_has ls 9 [(0, .ref (q0 0)), (1, .int x1), (6, .int x6), (7, .int x7), (8, .int x8)] → W p l e (headSpec (wsA yX7_join cX7_join 9 none) ({ frames := 1, cells := 0, slots := 0, locals := 24 })).room s m (#[.ref (q0 0), .int p0, .int p1, .int p2] : Array Value) below meth c H locs 0 0 (MQ below (va_Qv (fun (u : CS) => Q u) (fun u t => va_P D classes (wM cI cZ q0 u) t.heap) A) (#[.ref (q0 0), .int p0, .int p1, .int p2] : Array Value) s 0 0 A) (F0 m 104 ls [.int t0, .int t1, .ref (q0 4)]) := by
        intro x1 x6 x7 x8 t0 t1 s0 H locs ls hf hP hD hS hl
        unfold B_X7_join_104 at hf
        obtain ⟨hi_1, hf⟩ := hf
        refine va_iast hx hb hK hP hD hS 4 0 eM_4 rfl hi_1 dX7_join_104 (fun H locs hP hD hS => ?_)
        obtain ⟨s0_2, es0_2⟩ : ∃ y : CS, y = sA s0 5 t1.toNatClampNeg t0 := ⟨_, rfl⟩
        have hf := hf s0_2 es0_2
        have hD := hDk s0_2
        have hP : va_P D classes (wM cI cZ q0 s0_2) H := by rw [es0_2]; exact PM_F5 hP
        obtain ⟨x8_3, ex8_3⟩ : ∃ y : Int32, y = x8 + (1 : Int32) := ⟨_, rfl⟩
        have hf := hf x8_3 ex8_3
        refine lv_iinc (v := x8_3) (lv' := [(8, .int x8_3), (0, .ref (q0 0)), (1, .int x1), (6, .int x6), (7, .int x7)]) hx hb dX7_join_105 hl (k := 4) rfl (by rw [ex8_3]; rfl) (by decide) rfl (fun ls hl => ?_)
        refine lv_goto (tgt := 52) hx hb dX7_join_108 (by decide) ?_
        exact hG_52 x1 x6 x7 x8_3 s0_2 H locs ls hf hP hD hS (lv_sub hl [1, 2, 3, 4, 0] rfl)
      refine lv_iload hx hb dX7_join_52 (lv_at hl 4 rfl) ?_
      refine lv_bipush (v := (20 : Int32)) hx hb dX7_join_54 (by decide) ?_
      refine lv_icmp_ge (tgt := 111) hx hb dX7_join_56 (by decide) (fun c_4 => ?_) (fun c_4 => ?_)
      · have hf := hf.1 c_4
        refine lv_aload_n hx hb dX7_join_111 rfl (lv_at hl 0 rfl) ?_
        refine lv_iload_n hx hb dX7_join_112 rfl (lv_at hl 1 rfl) ?_
        refine lv_iload hx hb dX7_join_113 (lv_at hl 2 rfl) ?_
        have hPc : va_P D classes (wM cI cZ q0 s0) H := hP
        have hDc : va_D A (wM cI cZ q0 s0) := hD
        have hFc := va_free (wc := (wM cI cZ q0 s0)) hD hS hA [0, 1, 2, 3, 4, 5, 6, 7, 8, 9, 10, 11, 12, 13, 14, 15] rfl
        refine va_callv (va_runV (As := [.int x1, .int x6]) (rest := []) ⟨hx, hb, hml, hown, hts⟩ (c_X7_endHole l D cI cZ cW q0 H.size x1 x6 s0 _ hf) ⟨callB_of 2 hts (gA tw_864) rfl rfl rfl (ht _ tw_7) (ht _ tw_861) hd_X7_endHole ⟨Nat.le_of_ble_eq_true rfl, Nat.le_of_ble_eq_true rfl⟩, ht _ tw_863, ht _ twp_35⟩ ⟨PW_blind, va_recv hK hP (ci := 5) (q0 := 0) rfl eM_0, fun U hU hW => PW_mk hPc hDc hK hU hW⟩ rfl rfl hl.1 rfl (lv_room (Nat.le_of_ble_eq_true rfl)) dX7_join_115 ⟨Nat.zero_le _, Nat.zero_le _⟩) hS (fun q _ h => hFc q h) hFc (fun u t H1 locs ht1 hvm hf hB hz1 hk1 hS => ?_)
        obtain ⟨s0_5, rfl⟩ : ∃ z, z = u := ⟨_, rfl⟩
        rw [ht1] at hB
        have hP := hB
        have hD := hDk s0_5
        generalize H1 = H at hP hS ⊢
        have hP : va_P D classes (wM cI cZ q0 s0_5) H := hP
        have hD : va_D A (wM cI cZ q0 s0_5) := hD
        exact W.vret hx hb hr (fun t ht hW => ⟨⟨s0_5, rfl, hf, P_heap ht hP⟩, hS.F ht⟩) hS.2.2 dX7_join_118
      · have hf := hf.2 c_4
        refine lv_aload_n hx hb dX7_join_59 rfl (lv_at hl 0 rfl) ?_
        refine va_get (D := D) (ci := 5) (v := .ref (q0 4)) (C := RX7) (T := TX7) (N := 28) hx hb ht inX7 hown hK hP 0 eM_0 rfl 5 (by decide) (ht _ tw_660) (fun _ h9 => h9) rfl dX7_join_60 ?_
        refine lv_bipush (v := (35 : Int32)) hx hb dX7_join_63 (by decide) ?_
        refine lv_iload_n hx hb dX7_join_65 rfl (lv_at hl 1 rfl) ?_
        refine lv_imul hx hb dX7_join_66 ?_
        refine lv_iload hx hb dX7_join_67 (lv_at hl 4 rfl) ?_
        refine lv_iadd hx hb dX7_join_69 ?_
        refine lv_aload_n hx hb dX7_join_70 rfl (lv_at hl 0 rfl) ?_
        refine va_get (D := D) (ci := 5) (v := .ref (q0 4)) (C := RX7) (T := TX7) (N := 28) hx hb ht inX7 hown hK hP 0 eM_0 rfl 5 (by decide) (ht _ tw_660) (fun _ h9 => h9) rfl dX7_join_71 ?_
        refine lv_bipush (v := (35 : Int32)) hx hb dX7_join_74 (by decide) ?_
        refine lv_iload_n hx hb dX7_join_76 rfl (lv_at hl 1 rfl) ?_
        refine lv_imul hx hb dX7_join_77 ?_
        refine lv_iload hx hb dX7_join_78 (lv_at hl 4 rfl) ?_
        refine lv_iadd hx hb dX7_join_80 ?_
        obtain ⟨hi_6, hf⟩ := hf
        refine va_iald hx hb hK hP 4 0 eM_4 rfl hi_6 dX7_join_81 ?_
        refine lv_iload hx hb dX7_join_82 (lv_at hl 2 rfl) ?_
        refine lv_icmp_ne (tgt := 92) hx hb dX7_join_84 (by decide) (fun c_7 => ?_) (fun c_7 => ?_)
        · have hf := hf.1 c_7
          refine lv_aload_n hx hb dX7_join_92 rfl (lv_at hl 0 rfl) ?_
          refine va_get (D := D) (ci := 5) (v := .ref (q0 4)) (C := RX7) (T := TX7) (N := 28) hx hb ht inX7 hown hK hP 0 eM_0 rfl 5 (by decide) (ht _ tw_660) (fun _ h9 => h9) rfl dX7_join_93 ?_
          refine lv_bipush (v := (35 : Int32)) hx hb dX7_join_96 (by decide) ?_
          refine lv_iload_n hx hb dX7_join_98 rfl (lv_at hl 1 rfl) ?_
          refine lv_imul hx hb dX7_join_99 ?_
          refine lv_iload hx hb dX7_join_100 (lv_at hl 4 rfl) ?_
          refine lv_iadd hx hb dX7_join_102 ?_
          obtain ⟨hi_8, hf⟩ := hf
          refine va_iald hx hb hK hP 4 0 eM_4 rfl hi_8 dX7_join_103 ?_
          exact k_104 x1 x6 x7 x8 ((s0.2.1 5) (((35 : Int32) * x1) + x8).toNatClampNeg) (((35 : Int32) * x1) + x8) s0 H locs ls hf hP hD hS (lv_sub hl [0, 1, 2, 3, 4] rfl)
        · have hf := hf.2 c_7
          refine lv_iload hx hb dX7_join_87 (lv_at hl 3 rfl) ?_
          refine lv_goto (tgt := 104) hx hb dX7_join_89 (by decide) ?_
          exact k_104 x1 x6 x7 x8 x7 (((35 : Int32) * x1) + x8) s0 H locs ls hf hP hD hS (lv_sub hl [0, 1, 2, 3, 4] rfl)
    exact main_52 n0_52 x1 x6 x7 x8 s0 H locs ls hI0_52 hP hD hS hl
  have k_47 : ∀ (x1 : Int32) (x6 : Int32) (t0 : Int32) (s0 : CS) (H : Heap) (locs : List Loc) (ls : Array Slot), B_X7_join_47  x1 x6 t0 s0 Q → va_P D classes (wM cI cZ q0 s0) H → va_D A (wM cI cZ q0 s0) → va_S A s.heap H locs → lv_has ls 9 [(0, .ref (q0 0)), (1, .int x1), (6, .int x6)] → W p l e (headSpec (wsA yX7_join cX7_join 9 none) ({ frames := 1, cells := 0, slots := 0, locals := 24 })).room s m (#[.ref (q0 0), .int p0, .int p1, .int p2] : Array Value) below meth c H locs 0 0 (MQ below (va_Qv (fun (u : CS) => Q u) (fun u t => va_P D classes (wM cI cZ q0 u) t.heap) A) (#[.ref (q0 0), .int p0, .int p1, .int p2] : Array Value) s 0 0 A) (F0 m 47 ls [.int t0]) := by
    intro x1 x6 t0 s0 H locs ls hf hP hD hS hl
    unfold B_X7_join_47 at hf
    refine lv_istore (lv' := [(7, .int t0), (0, .ref (q0 0)), (1, .int x1), (6, .int x6)]) hx hb dX7_join_47 hl (by decide) rfl (fun ls hl => ?_)
    refine lv_iconst (v := (0 : Int32)) hx hb dX7_join_49 (by decide) ?_
    refine lv_istore (lv' := [(8, .int (0 : Int32)), (7, .int t0), (0, .ref (q0 0)), (1, .int x1), (6, .int x6)]) hx hb dX7_join_50 hl (by decide) rfl (fun ls hl => ?_)
    exact k_52 x1 x6 t0 (0 : Int32) s0 H locs ls hf hP hD hS (lv_sub hl [2, 3, 4, 1, 0] rfl)
  have k_34 : ∀ (x1 : Int32) (x2 : Int32) (x3 : Int32) (t0 : Int32) (s0 : CS) (H : Heap) (locs : List Loc) (ls : Array Slot), B_X7_join_34  x1 x2 x3 t0 s0 Q → va_P D classes (wM cI cZ q0 s0) H → va_D A (wM cI cZ q0 s0) → va_S A s.heap H locs → lv_has ls 9 [(0, .ref (q0 0)), (1, .int x1), (2, .int x2), (3, .int x3)] → W p l e (headSpec (wsA yX7_join cX7_join 9 none) ({ frames := 1, cells := 0, slots := 0, locals := 24 })).room s m (#[.ref (q0 0), .int p0, .int p1, .int p2] : Array Value) below meth c H locs 0 0 (MQ below (va_Qv (fun (u : CS) => Q u) (fun u t => va_P D classes (wM cI cZ q0 u) t.heap) A) (#[.ref (q0 0), .int p0, .int p1, .int p2] : Array Value) s 0 0 A) (F0 m 34 ls [.int t0]) := by
    intro x1 x2 x3 t0 s0 H locs ls hf hP hD hS hl
    unfold B_X7_join_34 at hf
    refine lv_istore (lv' := [(6, .int t0), (0, .ref (q0 0)), (1, .int x1), (2, .int x2), (3, .int x3)]) hx hb dX7_join_34 hl (by decide) rfl (fun ls hl => ?_)
    refine lv_iload hx hb dX7_join_36 (lv_at hl 0 rfl) ?_
    refine lv_iload_n hx hb dX7_join_38 rfl (lv_at hl 3 rfl) ?_
    refine lv_icmp_ne (tgt := 46) hx hb dX7_join_39 (by decide) (fun c_9 => ?_) (fun c_9 => ?_)
    · have hf := hf.1 c_9
      refine lv_iload_n hx hb dX7_join_46 rfl (lv_at hl 3 rfl) ?_
      exact k_47 x1 t0 x2 s0 H locs ls hf hP hD hS (lv_sub hl [1, 2, 0] rfl)
    · have hf := hf.2 c_9
      refine lv_iload_n hx hb dX7_join_42 rfl (lv_at hl 4 rfl) ?_
      refine lv_goto (tgt := 47) hx hb dX7_join_43 (by decide) ?_
      exact k_47 x1 t0 x3 s0 H locs ls hf hP hD hS (lv_sub hl [1, 2, 0] rfl)
  have start : ∀ (H : Heap) (locs : List Loc), va_P D classes (wM cI cZ q0 s0) H → va_D A (wM cI cZ q0 s0) → va_S A s.heap H locs → W p l e (headSpec (wsA yX7_join cX7_join 9 none) ({ frames := 1, cells := 0, slots := 0, locals := 24 })).room s m (#[.ref (q0 0), .int p0, .int p1, .int p2] : Array Value) below meth c H locs 0 0 (MQ below (va_Qv (fun (u : CS) => Q u) (fun u t => va_P D classes (wM cI cZ q0 u) t.heap) A) (#[.ref (q0 0), .int p0, .int p1, .int p2] : Array Value) s 0 0 A) (F0 m 0 ls []) := by
    intro H locs hP hD hS
    refine lv_aload_n hx hb dX7_join_0 rfl (lv_at hl 0 rfl) ?_
    refine lv_iload_n hx hb dX7_join_1 rfl (lv_at hl 1 rfl) ?_
    refine lv_iload_n hx hb dX7_join_2 rfl (lv_at hl 2 rfl) ?_
    have hPc : va_P D classes (wM cI cZ q0 s0) H := hP
    refine vp_callSi (W.runV (As := [.int p0, .int p1]) (rest := []) ⟨hx, hb, hml, hown, hts⟩ (c_X7_of l D cI cZ cW q0 p0 p1 s0 _ hf) ⟨callB_of 2 hts (gA tw_807) rfl rfl rfl (ht _ tw_7) (ht _ tw_804) hd_X7_of ⟨Nat.le_of_ble_eq_true rfl, Nat.le_of_ble_eq_true rfl⟩, ht _ tw_806, ht _ twp_25⟩ ⟨PR_blind, va_recv hK hP (ci := 5) (q0 := 0) rfl eM_0, fun U hU hW => PR_mk hPc hK hU hW⟩ rfl rfl hl.1 rfl (lv_room (Nat.le_of_ble_eq_true rfl)) dX7_join_3 ⟨Nat.zero_le _, Nat.zero_le _⟩) (fun r_10 hf => ?_)
    refine lv_istore (lv' := [(4, .int r_10), (0, .ref (q0 0)), (1, .int p0), (2, .int p1), (3, .int p2)]) hx hb dX7_join_6 hl (by decide) rfl (fun ls hl => ?_)
    refine lv_aload_n hx hb dX7_join_8 rfl (lv_at hl 1 rfl) ?_
    refine lv_iload_n hx hb dX7_join_9 rfl (lv_at hl 2 rfl) ?_
    refine lv_iload_n hx hb dX7_join_10 rfl (lv_at hl 4 rfl) ?_
    have hPc : va_P D classes (wM cI cZ q0 s0) H := hP
    refine vp_callSi (W.runV (As := [.int p0, .int p2]) (rest := []) ⟨hx, hb, hml, hown, hts⟩ (c_X7_of l D cI cZ cW q0 p0 p2 s0 _ hf) ⟨callB_of 2 hts (gA tw_807) rfl rfl rfl (ht _ tw_7) (ht _ tw_804) hd_X7_of ⟨Nat.le_of_ble_eq_true rfl, Nat.le_of_ble_eq_true rfl⟩, ht _ tw_806, ht _ twp_25⟩ ⟨PR_blind, va_recv hK hP (ci := 5) (q0 := 0) rfl eM_0, fun U hU hW => PR_mk hPc hK hU hW⟩ rfl rfl hl.1 rfl (lv_room (Nat.le_of_ble_eq_true rfl)) dX7_join_11 ⟨Nat.zero_le _, Nat.zero_le _⟩) (fun r_11 hf => ?_)
    refine lv_istore (lv' := [(5, .int r_11), (4, .int r_10), (0, .ref (q0 0)), (1, .int p0), (2, .int p1), (3, .int p2)]) hx hb dX7_join_14 hl (by decide) rfl (fun ls hl => ?_)
    refine lv_iload hx hb dX7_join_16 (lv_at hl 0 rfl) ?_
    have hPc : va_P D classes ([] : va_W) H := hP.sub [] rfl
    refine vp_callSi (W.runS (As := [.int r_11]) (rest := []) ⟨hx, hb, hml, hown, hts⟩ (c_X7_ones l D cI cZ cW  r_11 _ hf) ⟨callB_of 1 hts (gA tw_795) rfl rfl rfl (ht _ tw_7) (ht _ tw_793) hd_X7_ones ⟨Nat.le_of_ble_eq_true rfl, Nat.le_of_ble_eq_true rfl⟩, ht _ tw_794⟩ ⟨PR_blind, fun U hU hW => PR_mk hPc hK hU hW⟩ rfl rfl hl.1 rfl (lv_room (Nat.le_of_ble_eq_true rfl)) dX7_join_18 ⟨Nat.zero_le _, Nat.zero_le _⟩) (fun r_12 hf => ?_)
    refine lv_iload hx hb dX7_join_21 (lv_at hl 1 rfl) ?_
    have hPc : va_P D classes ([] : va_W) H := hP.sub [] rfl
    refine vp_callSi (W.runS (As := [.int r_10]) (rest := [.int r_12]) ⟨hx, hb, hml, hown, hts⟩ (c_X7_ones l D cI cZ cW  r_10 _ hf) ⟨callB_of 1 hts (gA tw_795) rfl rfl rfl (ht _ tw_7) (ht _ tw_793) hd_X7_ones ⟨Nat.le_of_ble_eq_true rfl, Nat.le_of_ble_eq_true rfl⟩, ht _ tw_794⟩ ⟨PR_blind, fun U hU hW => PR_mk hPc hK hU hW⟩ rfl rfl hl.1 rfl (lv_room (Nat.le_of_ble_eq_true rfl)) dX7_join_23 ⟨Nat.zero_le _, Nat.zero_le _⟩) (fun r_13 hf => ?_)
    refine lv_icmp_le (tgt := 33) hx hb dX7_join_26 (by decide) (fun c_14 => ?_) (fun c_14 => ?_)
    · have hf := hf.1 c_14
      refine lv_iload_n hx hb dX7_join_33 rfl (lv_at hl 5 rfl) ?_
      exact k_34 p0 p1 p2 p2 s0 H locs ls hf hP hD hS (lv_sub hl [2, 3, 4, 5] rfl)
    · have hf := hf.2 c_14
      refine lv_iload_n hx hb dX7_join_29 rfl (lv_at hl 4 rfl) ?_
      refine lv_goto (tgt := 34) hx hb dX7_join_30 (by decide) ?_
      exact k_34 p0 p1 p2 p1 s0 H locs ls hf hP hD hS (lv_sub hl [2, 3, 4, 5] rfl)
  exact start s.heap [] hP hD hS
def LB_X7_wed_25 (G25 : (Int32 × Int32 × Int32 × Int32 × CS) → Prop) (G2 : (Int32 × Int32 × CS) → Prop)  (x1 : Int32) (x2 : Int32) (x3 : Int32) (x4 : Int32) (s0 : CS) (Q : Int32 → CS → Prop) : Prop := (((s0.1 1) ≤ x4 → ∀ x2_2 : Int32, x2_2 = x2 + (1 : Int32) → G2 (x1, x2_2, s0)) ∧ (¬ (s0.1 1) ≤ x4 → wp_X7_of x1 x4 s0 (fun r_3 => (((x3 &&& r_3) = 0 → ∀ x4_5 : Int32, x4_5 = x4 + (1 : Int32) → G25 (x1, x2, x3, x4_5, s0)) ∧ (¬ (x3 &&& r_3) = 0 → wp_X7_join x1 x2 x4 s0 (fun s0_6 => Q (1 : Int32) s0_6))))))
def B_X7_wed_25 (G2 : (Int32 × Int32 × CS) → Prop)  (x1 : Int32) (x2 : Int32) (x3 : Int32) (x4 : Int32) (s0 : CS) (Q : Int32 → CS → Prop) : Prop := LOOP (fun (G25 : (Int32 × Int32 × Int32 × Int32 × CS) → Prop) z => LB_X7_wed_25 G25 G2  z.1 z.2.1 z.2.2.1 z.2.2.2.1 z.2.2.2.2 Q) (x1, x2, x3, x4, s0)
def LB_X7_wed_2 (G2 : (Int32 × Int32 × CS) → Prop)  (x1 : Int32) (x2 : Int32) (s0 : CS) (Q : Int32 → CS → Prop) : Prop := (((s0.1 1) ≤ x2 → Q (0 : Int32) s0) ∧ (¬ (s0.1 1) ≤ x2 → wp_X7_of x1 x2 s0 (fun r_8 => wp_X7_beside r_8 (fun r_9 => ∀ x4_10 : Int32, x4_10 = (x2 + (1 : Int32)) → B_X7_wed_25 G2  x1 x2 r_9 x4_10 s0 Q))))
def B_X7_wed_2  (x1 : Int32) (x2 : Int32) (s0 : CS) (Q : Int32 → CS → Prop) : Prop := LOOP (fun (G2 : (Int32 × Int32 × CS) → Prop) z => LB_X7_wed_2 G2  z.1 z.2.1 z.2.2 Q) (x1, x2, s0)
def wp_X7_wed (p0 : Int32) (s0 : CS) (Q : Int32 → CS → Prop) : Prop := B_X7_wed_2  p0 (0 : Int32) s0 Q
set_option maxHeartbeats 4000000 in
set_option maxRecDepth 100000 in
theorem c_X7_wed (l : Launch) (D : va_G) (cI cZ cW : ClassId) (q0 : Nat → Nat) (sz : Nat) (p0 : Int32) (s0 : CS) (Q : Int32 → CS → Prop) (hf : wp_X7_wed p0 s0 Q) : Met l yX7_wed (wsA yX7_wed cX7_wed 5 (some .boolean)) ({ frames := 2, cells := 0, slots := 0, locals := 52 }) (PW D cI cZ cW [.ref (q0 0), .int p0] (wM cI cZ q0 s0) sz) (va_Qi (fun (r : Int32) (u : CS) => Q r u) (fun u t => va_P D classes (wM cI cZ q0 u) t.heap) (va_A (wM cI cZ q0 s0) sz)) 0 0 (va_A (wM cI cZ q0 s0) sz) := by
  refine Met.ofW (cc := cX7_wed) (maxL := 5) (ret := (some .boolean)) (by decide) rfl ?_
  intro p e s m args below meth c s₁ B hml hv
  obtain ⟨rfl, hsz, hP, hK, hD0⟩ := hv
  have hx := B.exec
  have hb := B.bytes
  have hr := B.returns
  have hts := atoms_spec (ws := (wsA yX7_wed cX7_wed 5 (some .boolean))) B.pre
  have ht : ∀ w ∈ lw_g, w.before _ s = true := fun w h => hts w (List.mem_cons_of_mem _ h)
  have hown : s.vm.findClass RX7 = some m.cls := findClass_of_methodNamed B.named
  have hlocks := B.notSynchronized
  subst hsz
  have hD := hD0.self (sz := s.heap.size)
  generalize hAe : va_A (wM cI cZ q0 s0) s.heap.size = A at hD ⊢
  have hA : ∀ q : Nat, s.heap.size ≤ q → A q := fun q h => by rw [← hAe]; exact Or.inr h
  have hS : va_S A s.heap s.heap [] := va_S.rf
  have hDk : ∀ w : CS, va_D A (wM cI cZ q0 w) := fun w => D_M hD
  have hl := lv_entry ([.ref (q0 0), .int p0]) (n := 5) (Nat.le_of_ble_eq_true rfl)
  rw [lg_entry_eq]
  generalize (lg_sl ([.ref (q0 0), .int p0]) ++ List.replicate (5 - (lg_sl ([.ref (q0 0), .int p0])).length) Slot.unset).toArray = ls at hl ⊢
  have hl : lv_has ls 5 [(0, .ref (q0 0)), (1, .int p0)] := hl
  unfold wp_X7_wed at hf
  have k_2 : ∀ (x1 : Int32) (x2 : Int32) (s0 : CS) (H : Heap) (locs : List Loc) (ls : Array Slot), B_X7_wed_2  x1 x2 s0 Q → va_P D classes (wM cI cZ q0 s0) H → va_D A (wM cI cZ q0 s0) → va_S A s.heap H locs → lv_has ls 5 [(0, .ref (q0 0)), (1, .int x1), (2, .int x2)] → W p l e (headSpec (wsA yX7_wed cX7_wed 5 (some .boolean)) ({ frames := 2, cells := 0, slots := 0, locals := 52 })).room s m (#[.ref (q0 0), .int p0] : Array Value) below meth c H locs 0 0 (MQ below (va_Qi (fun (r : Int32) (u : CS) => Q r u) (fun u t => va_P D classes (wM cI cZ q0 u) t.heap) A) (#[.ref (q0 0), .int p0] : Array Value) s 0 0 A) (F0 m 2 ls []) := by
    intro x1 x2 s0 H locs ls hf hP hD hS hl
    unfold B_X7_wed_2 at hf
    obtain ⟨I_2, ⟨n0_2, hI0_2⟩, hst_2⟩ := hf
    have main_2 : ∀ (n : Nat) (x1 : Int32) (x2 : Int32) (s0 : CS) (H : Heap) (locs : List Loc) (ls : Array Slot), I_2 n (x1, x2, s0) → va_P D classes (wM cI cZ q0 s0) H → va_D A (wM cI cZ q0 s0) → va_S A s.heap H locs → lv_has ls 5 [(0, .ref (q0 0)), (1, .int x1), (2, .int x2)] → W p l e (headSpec (wsA yX7_wed cX7_wed 5 (some .boolean)) ({ frames := 2, cells := 0, slots := 0, locals := 52 })).room s m (#[.ref (q0 0), .int p0] : Array Value) below meth c H locs 0 0 (MQ below (va_Qi (fun (r : Int32) (u : CS) => Q r u) (fun u t => va_P D classes (wM cI cZ q0 u) t.heap) A) (#[.ref (q0 0), .int p0] : Array Value) s 0 0 A) (F0 m 2 ls []) := by
      intro n
      induction n using Nat.strongRecOn with
      | _ n_2 ih_2 =>
      intro x1 x2 s0 H locs ls hI hP hD hS hl
      have hf : LB_X7_wed_2 (fun z => ∃ k, k < n_2 ∧ I_2 k z)  x1 x2 s0 Q := hst_2 n_2 (x1, x2, s0) hI
      have hG_2 : ∀ (x1 : Int32) (x2 : Int32) (s0 : CS) (H : Heap) (locs : List Loc) (ls : Array Slot), (∃ k, k < n_2 ∧ I_2 k (x1, x2, s0)) → va_P D classes (wM cI cZ q0 s0) H → va_D A (wM cI cZ q0 s0) → va_S A s.heap H locs → lv_has ls 5 [(0, .ref (q0 0)), (1, .int x1), (2, .int x2)] → W p l e (headSpec (wsA yX7_wed cX7_wed 5 (some .boolean)) ({ frames := 2, cells := 0, slots := 0, locals := 52 })).room s m (#[.ref (q0 0), .int p0] : Array Value) below meth c H locs 0 0 (MQ below (va_Qi (fun (r : Int32) (u : CS) => Q r u) (fun u t => va_P D classes (wM cI cZ q0 u) t.heap) A) (#[.ref (q0 0), .int p0] : Array Value) s 0 0 A) (F0 m 2 ls []) := by
        rintro x1 x2 s0 H locs ls ⟨k, hk, hI⟩ hP hD hS hl
        exact ih_2 k hk x1 x2 s0 H locs ls hI hP hD hS hl
      unfold LB_X7_wed_2 at hf
      have k_25 : ∀ (x1 : Int32) (x2 : Int32) (x3 : Int32) (x4 : Int32) (s0 : CS) (H : Heap) (locs : List Loc) (ls : Array Slot), B_X7_wed_25 (fun z => ∃ k, k < n_2 ∧ I_2 k z)  x1 x2 x3 x4 s0 Q → va_P D classes (wM cI cZ q0 s0) H → va_D A (wM cI cZ q0 s0) → va_S A s.heap H locs → lv_has ls 5 [(0, .ref (q0 0)), (1, .int x1), (2, .int x2), (3, .int x3), (4, .int x4)] → W p l e (headSpec (wsA yX7_wed cX7_wed 5 (some .boolean)) ({ frames := 2, cells := 0, slots := 0, locals := 52 })).room s m (#[.ref (q0 0), .int p0] : Array Value) below meth c H locs 0 0 (MQ below (va_Qi (fun (r : Int32) (u : CS) => Q r u) (fun u t => va_P D classes (wM cI cZ q0 u) t.heap) A) (#[.ref (q0 0), .int p0] : Array Value) s 0 0 A) (F0 m 25 ls []) := by
        intro x1 x2 x3 x4 s0 H locs ls hf hP hD hS hl
        unfold B_X7_wed_25 at hf
        obtain ⟨I_25, ⟨n0_25, hI0_25⟩, hst_25⟩ := hf
        have main_25 : ∀ (n : Nat) (x1 : Int32) (x2 : Int32) (x3 : Int32) (x4 : Int32) (s0 : CS) (H : Heap) (locs : List Loc) (ls : Array Slot), I_25 n (x1, x2, x3, x4, s0) → va_P D classes (wM cI cZ q0 s0) H → va_D A (wM cI cZ q0 s0) → va_S A s.heap H locs → lv_has ls 5 [(0, .ref (q0 0)), (1, .int x1), (2, .int x2), (3, .int x3), (4, .int x4)] → W p l e (headSpec (wsA yX7_wed cX7_wed 5 (some .boolean)) ({ frames := 2, cells := 0, slots := 0, locals := 52 })).room s m (#[.ref (q0 0), .int p0] : Array Value) below meth c H locs 0 0 (MQ below (va_Qi (fun (r : Int32) (u : CS) => Q r u) (fun u t => va_P D classes (wM cI cZ q0 u) t.heap) A) (#[.ref (q0 0), .int p0] : Array Value) s 0 0 A) (F0 m 25 ls []) := by
          intro n
          induction n using Nat.strongRecOn with
          | _ n_25 ih_25 =>
          intro x1 x2 x3 x4 s0 H locs ls hI hP hD hS hl
          have hf : LB_X7_wed_25 (fun z => ∃ k, k < n_25 ∧ I_25 k z) (fun z => ∃ k, k < n_2 ∧ I_2 k z)  x1 x2 x3 x4 s0 Q := hst_25 n_25 (x1, x2, x3, x4, s0) hI
          have hG_25 : ∀ (x1 : Int32) (x2 : Int32) (x3 : Int32) (x4 : Int32) (s0 : CS) (H : Heap) (locs : List Loc) (ls : Array Slot), (∃ k, k < n_25 ∧ I_25 k (x1, x2, x3, x4, s0)) → va_P D classes (wM cI cZ q0 s0) H → va_D A (wM cI cZ q0 s0) → va_S A s.heap H locs → lv_has ls 5 [(0, .ref (q0 0)), (1, .int x1), (2, .int x2), (3, .int x3), (4, .int x4)] → W p l e (headSpec (wsA yX7_wed cX7_wed 5 (some .boolean)) ({ frames := 2, cells := 0, slots := 0, locals := 52 })).room s m (#[.ref (q0 0), .int p0] : Array Value) below meth c H locs 0 0 (MQ below (va_Qi (fun (r : Int32) (u : CS) => Q r u) (fun u t => va_P D classes (wM cI cZ q0 u) t.heap) A) (#[.ref (q0 0), .int p0] : Array Value) s 0 0 A) (F0 m 25 ls []) := by
            rintro x1 x2 x3 x4 s0 H locs ls ⟨k, hk, hI⟩ hP hD hS hl
            exact ih_25 k hk x1 x2 x3 x4 s0 H locs ls hI hP hD hS hl
          unfold LB_X7_wed_25 at hf
          refine lv_iload hx hb dX7_wed_25 (lv_at hl 4 rfl) ?_
          refine lv_aload_n hx hb dX7_wed_27 rfl (lv_at hl 0 rfl) ?_
          refine va_get (D := D) (ci := 5) (v := .int (s0.1 1)) (C := RX7) (T := TX7) (N := 28) hx hb ht inX7 hown hK hP 0 eM_0 rfl 1 (by decide) (ht _ tw_656) (fun _ h9 => h9) rfl dX7_wed_28 ?_
          refine lv_icmp_ge (tgt := 62) hx hb dX7_wed_31 (by decide) (fun c_1 => ?_) (fun c_1 => ?_)
          · have hf := hf.1 c_1
            obtain ⟨x2_2, ex2_2⟩ : ∃ y : Int32, y = x2 + (1 : Int32) := ⟨_, rfl⟩
            have hf := hf x2_2 ex2_2
            refine lv_iinc (v := x2_2) (lv' := [(2, .int x2_2), (0, .ref (q0 0)), (1, .int x1), (3, .int x3), (4, .int x4)]) hx hb dX7_wed_62 hl (k := 2) rfl (by rw [ex2_2]; rfl) (by decide) rfl (fun ls hl => ?_)
            refine lv_goto (tgt := 2) hx hb dX7_wed_65 (by decide) ?_
            exact hG_2 x1 x2_2 s0 H locs ls hf hP hD hS (lv_sub hl [1, 2, 0] rfl)
          · have hf := hf.2 c_1
            refine lv_iload_n hx hb dX7_wed_34 rfl (lv_at hl 3 rfl) ?_
            refine lv_aload_n hx hb dX7_wed_35 rfl (lv_at hl 0 rfl) ?_
            refine lv_iload_n hx hb dX7_wed_36 rfl (lv_at hl 1 rfl) ?_
            refine lv_iload hx hb dX7_wed_37 (lv_at hl 4 rfl) ?_
            have hPc : va_P D classes (wM cI cZ q0 s0) H := hP
            refine vp_callSi (W.runV (As := [.int x1, .int x4]) (rest := [.int x3]) ⟨hx, hb, hml, hown, hts⟩ (c_X7_of l D cI cZ cW q0 x1 x4 s0 _ hf) ⟨callB_of 2 hts (gA tw_807) rfl rfl rfl (ht _ tw_7) (ht _ tw_804) hd_X7_of ⟨Nat.le_of_ble_eq_true rfl, Nat.le_of_ble_eq_true rfl⟩, ht _ tw_806, ht _ twp_25⟩ ⟨PR_blind, va_recv hK hP (ci := 5) (q0 := 0) rfl eM_0, fun U hU hW => PR_mk hPc hK hU hW⟩ rfl rfl hl.1 rfl (lv_room (Nat.le_of_ble_eq_true rfl)) dX7_wed_39 ⟨Nat.zero_le _, Nat.zero_le _⟩) (fun r_3 hf => ?_)
            refine lv_iand hx hb dX7_wed_42 ?_
            refine lv_if_eq (tgt := 56) hx hb dX7_wed_43 (by decide) (fun c_4 => ?_) (fun c_4 => ?_)
            · have hf := hf.1 c_4
              obtain ⟨x4_5, ex4_5⟩ : ∃ y : Int32, y = x4 + (1 : Int32) := ⟨_, rfl⟩
              have hf := hf x4_5 ex4_5
              refine lv_iinc (v := x4_5) (lv' := [(4, .int x4_5), (0, .ref (q0 0)), (1, .int x1), (2, .int x2), (3, .int x3)]) hx hb dX7_wed_56 hl (k := 4) rfl (by rw [ex4_5]; rfl) (by decide) rfl (fun ls hl => ?_)
              refine lv_goto (tgt := 25) hx hb dX7_wed_59 (by decide) ?_
              exact hG_25 x1 x2 x3 x4_5 s0 H locs ls hf hP hD hS (lv_sub hl [1, 2, 3, 4, 0] rfl)
            · have hf := hf.2 c_4
              refine lv_aload_n hx hb dX7_wed_46 rfl (lv_at hl 0 rfl) ?_
              refine lv_iload_n hx hb dX7_wed_47 rfl (lv_at hl 1 rfl) ?_
              refine lv_iload_n hx hb dX7_wed_48 rfl (lv_at hl 2 rfl) ?_
              refine lv_iload hx hb dX7_wed_49 (lv_at hl 4 rfl) ?_
              have hPc : va_P D classes (wM cI cZ q0 s0) H := hP
              have hDc : va_D A (wM cI cZ q0 s0) := hD
              have hFc := va_free (wc := (wM cI cZ q0 s0)) hD hS hA [0, 1, 2, 3, 4, 5, 6, 7, 8, 9, 10, 11, 12, 13, 14, 15] rfl
              refine va_callv (va_runV (As := [.int x1, .int x2, .int x4]) (rest := []) ⟨hx, hb, hml, hown, hts⟩ (c_X7_join l D cI cZ cW q0 H.size x1 x2 x4 s0 _ hf) ⟨callB_of 3 hts (gA tw_860) rfl rfl rfl (ht _ tw_7) (ht _ tw_857) hd_X7_join ⟨Nat.le_of_ble_eq_true rfl, Nat.le_of_ble_eq_true rfl⟩, ht _ tw_859, ht _ twp_34⟩ ⟨PW_blind, va_recv hK hP (ci := 5) (q0 := 0) rfl eM_0, fun U hU hW => PW_mk hPc hDc hK hU hW⟩ rfl rfl hl.1 rfl (lv_room (Nat.le_of_ble_eq_true rfl)) dX7_wed_51 ⟨Nat.zero_le _, Nat.zero_le _⟩) hS (fun q _ h => hFc q h) hFc (fun u t H1 locs ht1 hvm hf hB hz1 hk1 hS => ?_)
              obtain ⟨s0_6, rfl⟩ : ∃ z, z = u := ⟨_, rfl⟩
              rw [ht1] at hB
              have hP := hB
              have hD := hDk s0_6
              generalize H1 = H at hP hS ⊢
              have hP : va_P D classes (wM cI cZ q0 s0_6) H := hP
              have hD : va_D A (wM cI cZ q0 s0_6) := hD
              refine lv_iconst (v := (1 : Int32)) hx hb dX7_wed_54 (by decide) ?_
              exact W.zret (v := (1 : Int32)) hx hb hr rfl (fun t ht hW => ⟨⟨(1 : Int32), s0_6, rfl, hf, P_heap ht hP⟩, hS.F ht⟩) hS.2.2 dX7_wed_55
        exact main_25 n0_25 x1 x2 x3 x4 s0 H locs ls hI0_25 hP hD hS hl
      refine lv_iload_n hx hb dX7_wed_2 rfl (lv_at hl 2 rfl) ?_
      refine lv_aload_n hx hb dX7_wed_3 rfl (lv_at hl 0 rfl) ?_
      refine va_get (D := D) (ci := 5) (v := .int (s0.1 1)) (C := RX7) (T := TX7) (N := 28) hx hb ht inX7 hown hK hP 0 eM_0 rfl 1 (by decide) (ht _ tw_656) (fun _ h9 => h9) rfl dX7_wed_4 ?_
      refine lv_icmp_ge (tgt := 68) hx hb dX7_wed_7 (by decide) (fun c_7 => ?_) (fun c_7 => ?_)
      · have hf := hf.1 c_7
        refine lv_iconst (v := (0 : Int32)) hx hb dX7_wed_68 (by decide) ?_
        exact W.zret (v := (0 : Int32)) hx hb hr rfl (fun t ht hW => ⟨⟨(0 : Int32), s0, rfl, hf, P_heap ht hP⟩, hS.F ht⟩) hS.2.2 dX7_wed_69
      · have hf := hf.2 c_7
        refine lv_aload_n hx hb dX7_wed_10 rfl (lv_at hl 0 rfl) ?_
        refine lv_iload_n hx hb dX7_wed_11 rfl (lv_at hl 1 rfl) ?_
        refine lv_iload_n hx hb dX7_wed_12 rfl (lv_at hl 2 rfl) ?_
        have hPc : va_P D classes (wM cI cZ q0 s0) H := hP
        refine vp_callSi (W.runV (As := [.int x1, .int x2]) (rest := []) ⟨hx, hb, hml, hown, hts⟩ (c_X7_of l D cI cZ cW q0 x1 x2 s0 _ hf) ⟨callB_of 2 hts (gA tw_807) rfl rfl rfl (ht _ tw_7) (ht _ tw_804) hd_X7_of ⟨Nat.le_of_ble_eq_true rfl, Nat.le_of_ble_eq_true rfl⟩, ht _ tw_806, ht _ twp_25⟩ ⟨PR_blind, va_recv hK hP (ci := 5) (q0 := 0) rfl eM_0, fun U hU hW => PR_mk hPc hK hU hW⟩ rfl rfl hl.1 rfl (lv_room (Nat.le_of_ble_eq_true rfl)) dX7_wed_13 ⟨Nat.zero_le _, Nat.zero_le _⟩) (fun r_8 hf => ?_)
        have hPc : va_P D classes ([] : va_W) H := hP.sub [] rfl
        refine vp_callSi (W.runS (As := [.int r_8]) (rest := []) ⟨hx, hb, hml, hown, hts⟩ (c_X7_beside l D cI cZ cW  r_8 _ hf) ⟨callB_of 1 hts (gA tw_845) rfl rfl rfl (ht _ tw_7) (ht _ tw_843) hd_X7_beside ⟨Nat.le_of_ble_eq_true rfl, Nat.le_of_ble_eq_true rfl⟩, ht _ tw_844⟩ ⟨PR_blind, fun U hU hW => PR_mk hPc hK hU hW⟩ rfl rfl hl.1 rfl (lv_room (Nat.le_of_ble_eq_true rfl)) dX7_wed_16 ⟨Nat.zero_le _, Nat.zero_le _⟩) (fun r_9 hf => ?_)
        refine lv_istore_n (lv' := [(3, .int r_9), (0, .ref (q0 0)), (1, .int x1), (2, .int x2)]) hx hb dX7_wed_19 rfl hl (by decide) rfl (fun ls hl => ?_)
        refine lv_iload_n hx hb dX7_wed_20 rfl (lv_at hl 3 rfl) ?_
        refine lv_iconst (v := (1 : Int32)) hx hb dX7_wed_21 (by decide) ?_
        refine lv_iadd hx hb dX7_wed_22 ?_
        refine lv_topi (fun x4_10 ex4_10 => ?_)
        have hf := hf x4_10 ex4_10
        refine lv_istore (lv' := [(4, .int x4_10), (3, .int r_9), (0, .ref (q0 0)), (1, .int x1), (2, .int x2)]) hx hb dX7_wed_23 hl (by decide) rfl (fun ls hl => ?_)
        exact k_25 x1 x2 r_9 x4_10 s0 H locs ls hf hP hD hS (lv_sub hl [2, 3, 4, 1, 0] rfl)
    exact main_2 n0_2 x1 x2 s0 H locs ls hI0_2 hP hD hS hl
  have start : ∀ (H : Heap) (locs : List Loc), va_P D classes (wM cI cZ q0 s0) H → va_D A (wM cI cZ q0 s0) → va_S A s.heap H locs → W p l e (headSpec (wsA yX7_wed cX7_wed 5 (some .boolean)) ({ frames := 2, cells := 0, slots := 0, locals := 52 })).room s m (#[.ref (q0 0), .int p0] : Array Value) below meth c H locs 0 0 (MQ below (va_Qi (fun (r : Int32) (u : CS) => Q r u) (fun u t => va_P D classes (wM cI cZ q0 u) t.heap) A) (#[.ref (q0 0), .int p0] : Array Value) s 0 0 A) (F0 m 0 ls []) := by
    intro H locs hP hD hS
    refine lv_iconst (v := (0 : Int32)) hx hb dX7_wed_0 (by decide) ?_
    refine lv_istore_n (lv' := [(2, .int (0 : Int32)), (0, .ref (q0 0)), (1, .int p0)]) hx hb dX7_wed_1 rfl hl (by decide) rfl (fun ls hl => ?_)
    exact k_2 p0 (0 : Int32) s0 H locs ls hf hP hD hS (lv_sub hl [1, 2, 0] rfl)
  exact start s.heap [] hP hD hS
def B_X7_passOn_161 (G80 : (Int32 × Int32 × Int32 × Int32 × CS) → Prop)  (x1 : Int32) (x2 : Int32) (x3 : Int32) (x4 : Int32) (s0 : CS) (Q : Int32 → CS → Prop) : Prop := ∀ x4_1 : Int32, x4_1 = x4 + (1 : Int32) → G80 (x1, x2, x3, x4_1, s0)
def B_X7_passOn_158 (G80 : (Int32 × Int32 × Int32 × Int32 × CS) → Prop)  (x1 : Int32) (x2 : Int32) (x3 : Int32) (x4 : Int32) (t0 : Int32) (t1 : Int32) (t2 : Int32) (t3 : Int32) (s0 : CS) (Q : Int32 → CS → Prop) : Prop := wp_X7_pay t3 t2 t1 t0 s0 (fun s0_2 => B_X7_passOn_161 G80  x1 x2 x3 x4 s0_2 Q)
def LB_X7_passOn_80 (G80 : (Int32 × Int32 × Int32 × Int32 × CS) → Prop)  (x1 : Int32) (x2 : Int32) (x3 : Int32) (x4 : Int32) (s0 : CS) (Q : Int32 → CS → Prop) : Prop := (((s0.1 1) ≤ x4 → vp_in (x2 + (34 : Int32)) 70 ∧ vp_in (x2 + (34 : Int32)) 70 ∧ ∀ s0_6 : CS, s0_6 = sA s0 5 (x2 + (34 : Int32)).toNatClampNeg (((s0.2.1 5) (x2 + (34 : Int32)).toNatClampNeg) + (1 : Int32)) → Q x3 s0_6) ∧ (¬ (s0.1 1) ≤ x4 → vp_in ((x2 + (25 : Int32)) + x4) 70 ∧ ∀ x5_8 : Int32, x5_8 = ((s0.2.1 5) ((x2 + (25 : Int32)) + x4).toNatClampNeg) → ((x5_8 = (-9 : Int32) → B_X7_passOn_161 G80  x1 x2 x3 x4 s0 Q) ∧ (¬ x5_8 = (-9 : Int32) → wp_X7_of x1 x4 s0 (fun r_10 => wp_X7_ones r_10 (fun r_11 => vp_in ((x2 + (20 : Int32)) + x4) 70 ∧ vp_in x5_8 4 ∧ ((¬ ((s0.2.1 2) x5_8.toNatClampNeg) = (3 : Int32) → B_X7_passOn_158 G80  x1 x2 x3 x4 r_11 ((s0.2.1 5) ((x2 + (20 : Int32)) + x4).toNatClampNeg) x5_8 x1 s0 Q) ∧ (((s0.2.1 2) x5_8.toNatClampNeg) = (3 : Int32) → B_X7_passOn_158 G80  x1 x2 x3 x4 (r_11 / (2 : Int32)) ((s0.2.1 5) ((x2 + (20 : Int32)) + x4).toNatClampNeg) x5_8 x1 s0 Q))))))))
def B_X7_passOn_80  (x1 : Int32) (x2 : Int32) (x3 : Int32) (x4 : Int32) (s0 : CS) (Q : Int32 → CS → Prop) : Prop := LOOP (fun (G80 : (Int32 × Int32 × Int32 × Int32 × CS) → Prop) z => LB_X7_passOn_80 G80  z.1 z.2.1 z.2.2.1 z.2.2.2.1 z.2.2.2.2 Q) (x1, x2, x3, x4, s0)
def B_X7_passOn_77  (x1 : Int32) (x2 : Int32) (x3 : Int32) (s0 : CS) (Q : Int32 → CS → Prop) : Prop := B_X7_passOn_80  x1 x2 x3 (0 : Int32) s0 Q
def LB_X7_passOn_58 (G58 : (Int32 × Int32 × Int32 × CS) → Prop)  (x1 : Int32) (x2 : Int32) (x3 : Int32) (s0 : CS) (Q : Int32 → CS → Prop) : Prop := (((5 : Int32) ≤ x3 → B_X7_passOn_77  x1 x2 x3 s0 Q) ∧ (¬ (5 : Int32) ≤ x3 → wp_X7_wed x1 s0 (fun r_17 s0_16 => ((r_17 = 0 → B_X7_passOn_77  x1 x2 x3 s0_16 Q) ∧ (¬ r_17 = 0 → ∀ x3_19 : Int32, x3_19 = x3 + (1 : Int32) → G58 (x1, x2, x3_19, s0_16))))))
def B_X7_passOn_58  (x1 : Int32) (x2 : Int32) (x3 : Int32) (s0 : CS) (Q : Int32 → CS → Prop) : Prop := LOOP (fun (G58 : (Int32 × Int32 × Int32 × CS) → Prop) z => LB_X7_passOn_58 G58  z.1 z.2.1 z.2.2.1 z.2.2.2 Q) (x1, x2, x3, s0)
def B_X7_passOn_35 (G7 : (Int32 × Int32 × Int32 × CS) → Prop) (G18 : (Int32 × Int32 × Int32 × Int32 × CS) → Prop)  (x1 : Int32) (x2 : Int32) (x3 : Int32) (x4 : Int32) (t0 : Int32) (t1 : Int32) (s0 : CS) (Q : Int32 → CS → Prop) : Prop := ((t0 ≤ t1 → ∀ x3_21 : Int32, x3_21 = x3 + (1 : Int32) → G7 (x1, x2, x3_21, s0)) ∧ (¬ t0 ≤ t1 → wp_X7_grow x1 x3 s0 (fun s0_22 => ∀ x4_23 : Int32, x4_23 = x4 + (1 : Int32) → G18 (x1, x2, x3, x4_23, s0_22))))
def LB_X7_passOn_18 (G18 : (Int32 × Int32 × Int32 × Int32 × CS) → Prop) (G7 : (Int32 × Int32 × Int32 × CS) → Prop)  (x1 : Int32) (x2 : Int32) (x3 : Int32) (x4 : Int32) (s0 : CS) (Q : Int32 → CS → Prop) : Prop := vp_in x3 5 ∧ ((¬ ((s0.2.1 4) x3.toNatClampNeg) = (1 : Int32) → B_X7_passOn_35 G7 G18  x1 x2 x3 x4 (1 : Int32) x4 s0 Q) ∧ (((s0.2.1 4) x3.toNatClampNeg) = (1 : Int32) → B_X7_passOn_35 G7 G18  x1 x2 x3 x4 (2 : Int32) x4 s0 Q))
def B_X7_passOn_18 (G7 : (Int32 × Int32 × Int32 × CS) → Prop)  (x1 : Int32) (x2 : Int32) (x3 : Int32) (x4 : Int32) (s0 : CS) (Q : Int32 → CS → Prop) : Prop := LOOP (fun (G18 : (Int32 × Int32 × Int32 × Int32 × CS) → Prop) z => LB_X7_passOn_18 G18 G7  z.1 z.2.1 z.2.2.1 z.2.2.2.1 z.2.2.2.2 Q) (x1, x2, x3, x4, s0)
def LB_X7_passOn_7 (G7 : (Int32 × Int32 × Int32 × CS) → Prop)  (x1 : Int32) (x2 : Int32) (x3 : Int32) (s0 : CS) (Q : Int32 → CS → Prop) : Prop := (((s0.1 1) ≤ x3 → B_X7_passOn_58  x1 x2 (0 : Int32) s0 Q) ∧ (¬ (s0.1 1) ≤ x3 → B_X7_passOn_18 G7  x1 x2 x3 (0 : Int32) s0 Q))
def B_X7_passOn_7  (x1 : Int32) (x2 : Int32) (x3 : Int32) (s0 : CS) (Q : Int32 → CS → Prop) : Prop := LOOP (fun (G7 : (Int32 × Int32 × Int32 × CS) → Prop) z => LB_X7_passOn_7 G7  z.1 z.2.1 z.2.2.1 z.2.2.2 Q) (x1, x2, x3, s0)
def wp_X7_passOn (p0 : Int32) (s0 : CS) (Q : Int32 → CS → Prop) : Prop := ∀ x2_27 : Int32, x2_27 = ((35 : Int32) * p0) → B_X7_passOn_7  p0 x2_27 (0 : Int32) s0 Q
set_option maxHeartbeats 4000000 in
set_option maxRecDepth 100000 in
theorem c_X7_passOn (l : Launch) (D : va_G) (cI cZ cW : ClassId) (q0 : Nat → Nat) (sz : Nat) (p0 : Int32) (s0 : CS) (Q : Int32 → CS → Prop) (hf : wp_X7_passOn p0 s0 Q) : Met l yX7_passOn (wsA yX7_passOn cX7_passOn 7 (some .int)) ({ frames := 4, cells := 0, slots := 0, locals := 91 }) (PW D cI cZ cW [.ref (q0 0), .int p0] (wM cI cZ q0 s0) sz) (va_Qi (fun (r : Int32) (u : CS) => Q r u) (fun u t => va_P D classes (wM cI cZ q0 u) t.heap) (va_A (wM cI cZ q0 s0) sz)) 0 0 (va_A (wM cI cZ q0 s0) sz) := by
  refine Met.ofW (cc := cX7_passOn) (maxL := 7) (ret := (some .int)) (by decide) rfl ?_
  intro p e s m args below meth c s₁ B hml hv
  obtain ⟨rfl, hsz, hP, hK, hD0⟩ := hv
  have hx := B.exec
  have hb := B.bytes
  have hr := B.returns
  have hts := atoms_spec (ws := (wsA yX7_passOn cX7_passOn 7 (some .int))) B.pre
  have ht : ∀ w ∈ lw_g, w.before _ s = true := fun w h => hts w (List.mem_cons_of_mem _ h)
  have hown : s.vm.findClass RX7 = some m.cls := findClass_of_methodNamed B.named
  have hlocks := B.notSynchronized
  subst hsz
  have hD := hD0.self (sz := s.heap.size)
  generalize hAe : va_A (wM cI cZ q0 s0) s.heap.size = A at hD ⊢
  have hA : ∀ q : Nat, s.heap.size ≤ q → A q := fun q h => by rw [← hAe]; exact Or.inr h
  have hS : va_S A s.heap s.heap [] := va_S.rf
  have hDk : ∀ w : CS, va_D A (wM cI cZ q0 w) := fun w => D_M hD
  have hl := lv_entry ([.ref (q0 0), .int p0]) (n := 7) (Nat.le_of_ble_eq_true rfl)
  rw [lg_entry_eq]
  generalize (lg_sl ([.ref (q0 0), .int p0]) ++ List.replicate (7 - (lg_sl ([.ref (q0 0), .int p0])).length) Slot.unset).toArray = ls at hl ⊢
  have hl : lv_has ls 7 [(0, .ref (q0 0)), (1, .int p0)] := hl
  unfold wp_X7_passOn at hf
  have k_80 : ∀ (x1 : Int32) (x2 : Int32) (x3 : Int32) (x4 : Int32) (s0 : CS) (H : Heap) (locs : List Loc) (ls : Array Slot), B_X7_passOn_80  x1 x2 x3 x4 s0 Q → va_P D classes (wM cI cZ q0 s0) H → va_D A (wM cI cZ q0 s0) → va_S A s.heap H locs → lv_has ls 7 [(0, .ref (q0 0)), (1, .int x1), (2, .int x2), (3, .int x3), (4, .int x4)] → W p l e (headSpec (wsA yX7_passOn cX7_passOn 7 (some .int)) ({ frames := 4, cells := 0, slots := 0, locals := 91 })).room s m (#[.ref (q0 0), .int p0] : Array Value) below meth c H locs 0 0 (MQ below (va_Qi (fun (r : Int32) (u : CS) => Q r u) (fun u t => va_P D classes (wM cI cZ q0 u) t.heap) A) (#[.ref (q0 0), .int p0] : Array Value) s 0 0 A) (F0 m 80 ls []) := by
    intro x1 x2 x3 x4 s0 H locs ls hf hP hD hS hl
    unfold B_X7_passOn_80 at hf
    obtain ⟨I_80, ⟨n0_80, hI0_80⟩, hst_80⟩ := hf
    have main_80 : ∀ (n : Nat) (x1 : Int32) (x2 : Int32) (x3 : Int32) (x4 : Int32) (s0 : CS) (H : Heap) (locs : List Loc) (ls : Array Slot), I_80 n (x1, x2, x3, x4, s0) → va_P D classes (wM cI cZ q0 s0) H → va_D A (wM cI cZ q0 s0) → va_S A s.heap H locs → lv_has ls 7 [(0, .ref (q0 0)), (1, .int x1), (2, .int x2), (3, .int x3), (4, .int x4)] → W p l e (headSpec (wsA yX7_passOn cX7_passOn 7 (some .int)) ({ frames := 4, cells := 0, slots := 0, locals := 91 })).room s m (#[.ref (q0 0), .int p0] : Array Value) below meth c H locs 0 0 (MQ below (va_Qi (fun (r : Int32) (u : CS) => Q r u) (fun u t => va_P D classes (wM cI cZ q0 u) t.heap) A) (#[.ref (q0 0), .int p0] : Array Value) s 0 0 A) (F0 m 80 ls []) := by
      intro n
      induction n using Nat.strongRecOn with
      | _ n_80 ih_80 =>
      intro x1 x2 x3 x4 s0 H locs ls hI hP hD hS hl
      have hf : LB_X7_passOn_80 (fun z => ∃ k, k < n_80 ∧ I_80 k z)  x1 x2 x3 x4 s0 Q := hst_80 n_80 (x1, x2, x3, x4, s0) hI
      have hG_80 : ∀ (x1 : Int32) (x2 : Int32) (x3 : Int32) (x4 : Int32) (s0 : CS) (H : Heap) (locs : List Loc) (ls : Array Slot), (∃ k, k < n_80 ∧ I_80 k (x1, x2, x3, x4, s0)) → va_P D classes (wM cI cZ q0 s0) H → va_D A (wM cI cZ q0 s0) → va_S A s.heap H locs → lv_has ls 7 [(0, .ref (q0 0)), (1, .int x1), (2, .int x2), (3, .int x3), (4, .int x4)] → W p l e (headSpec (wsA yX7_passOn cX7_passOn 7 (some .int)) ({ frames := 4, cells := 0, slots := 0, locals := 91 })).room s m (#[.ref (q0 0), .int p0] : Array Value) below meth c H locs 0 0 (MQ below (va_Qi (fun (r : Int32) (u : CS) => Q r u) (fun u t => va_P D classes (wM cI cZ q0 u) t.heap) A) (#[.ref (q0 0), .int p0] : Array Value) s 0 0 A) (F0 m 80 ls []) := by
        rintro x1 x2 x3 x4 s0 H locs ls ⟨k, hk, hI⟩ hP hD hS hl
        exact ih_80 k hk x1 x2 x3 x4 s0 H locs ls hI hP hD hS hl
      unfold LB_X7_passOn_80 at hf
      have k_161 : ∀ (x1 : Int32) (x2 : Int32) (x3 : Int32) (x4 : Int32) (s0 : CS) (H : Heap) (locs : List Loc) (ls : Array Slot), B_X7_passOn_161 (fun z => ∃ k, k < n_80 ∧ I_80 k z)  x1 x2 x3 x4 s0 Q → va_P D classes (wM cI cZ q0 s0) H → va_D A (wM cI cZ q0 s0) → va_S A s.heap H locs → lv_has ls 7 [(0, .ref (q0 0)), (1, .int x1), (2, .int x2), (3, .int x3), (4, .int x4)] → W p l e (headSpec (wsA yX7_passOn cX7_passOn 7 (some .int)) ({ frames := 4, cells := 0, slots := 0, locals := 91 })).room s m (#[.ref (q0 0), .int p0] : Array Value) below meth c H locs 0 0 (MQ below (va_Qi (fun (r : Int32) (u : CS) => Q r u) (fun u t => va_P D classes (wM cI cZ q0 u) t.heap) A) (#[.ref (q0 0), .int p0] : Array Value) s 0 0 A) (F0 m 161 ls []) := by
        intro x1 x2 x3 x4 s0 H locs ls hf hP hD hS hl
        unfold B_X7_passOn_161 at hf
        obtain ⟨x4_1, ex4_1⟩ : ∃ y : Int32, y = x4 + (1 : Int32) := ⟨_, rfl⟩
        have hf := hf x4_1 ex4_1
        refine lv_iinc (v := x4_1) (lv' := [(4, .int x4_1), (0, .ref (q0 0)), (1, .int x1), (2, .int x2), (3, .int x3)]) hx hb dX7_passOn_161 hl (k := 4) rfl (by rw [ex4_1]; rfl) (by decide) rfl (fun ls hl => ?_)
        refine lv_goto (tgt := 80) hx hb dX7_passOn_164 (by decide) ?_
        exact hG_80 x1 x2 x3 x4_1 s0 H locs ls hf hP hD hS (lv_sub hl [1, 2, 3, 4, 0] rfl)
      have k_158 : ∀ (x1 : Int32) (x2 : Int32) (x3 : Int32) (x4 : Int32) (t0 : Int32) (t1 : Int32) (t2 : Int32) (t3 : Int32) (s0 : CS) (H : Heap) (locs : List Loc) (ls : Array Slot), B_X7_passOn_158 (fun z => ∃ k, k < n_80 ∧ I_80 k z)  x1 x2 x3 x4 t0 t1 t2 t3 s0 Q → va_P D classes (wM cI cZ q0 s0) H → va_D A (wM cI cZ q0 s0) → va_S A s.heap H locs → lv_has ls 7 [(0, .ref (q0 0)), (1, .int x1), (2, .int x2), (3, .int x3), (4, .int x4)] → W p l e (headSpec (wsA yX7_passOn cX7_passOn 7 (some .int)) ({ frames := 4, cells := 0, slots := 0, locals := 91 })).room s m (#[.ref (q0 0), .int p0] : Array Value) below meth c H locs 0 0 (MQ below (va_Qi (fun (r : Int32) (u : CS) => Q r u) (fun u t => va_P D classes (wM cI cZ q0 u) t.heap) A) (#[.ref (q0 0), .int p0] : Array Value) s 0 0 A) (F0 m 158 ls [.int t0, .int t1, .int t2, .int t3, .ref (q0 0)]) := by
        intro x1 x2 x3 x4 t0 t1 t2 t3 s0 H locs ls hf hP hD hS hl
        unfold B_X7_passOn_158 at hf
        have hPc : va_P D classes (wM cI cZ q0 s0) H := hP
        have hDc : va_D A (wM cI cZ q0 s0) := hD
        have hFc := va_free (wc := (wM cI cZ q0 s0)) hD hS hA [0, 1, 2, 3, 4, 5, 6, 7, 8, 9, 10, 11, 12, 13, 14, 15] rfl
        refine va_callv (va_runV (As := [.int t3, .int t2, .int t1, .int t0]) (rest := []) ⟨hx, hb, hml, hown, hts⟩ (c_X7_pay l D cI cZ cW q0 H.size t3 t2 t1 t0 s0 _ hf) ⟨callB_of 4 hts (gA tw_852) rfl rfl rfl (ht _ tw_7) (ht _ tw_849) hd_X7_pay ⟨Nat.le_of_ble_eq_true rfl, Nat.le_of_ble_eq_true rfl⟩, ht _ tw_851, ht _ twp_32⟩ ⟨PW_blind, va_recv hK hP (ci := 5) (q0 := 0) rfl eM_0, fun U hU hW => PW_mk hPc hDc hK hU hW⟩ rfl rfl hl.1 rfl (lv_room (Nat.le_of_ble_eq_true rfl)) dX7_passOn_158 ⟨Nat.zero_le _, Nat.zero_le _⟩) hS (fun q _ h => hFc q h) hFc (fun u t H1 locs ht1 hvm hf hB hz1 hk1 hS => ?_)
        obtain ⟨s0_2, rfl⟩ : ∃ z, z = u := ⟨_, rfl⟩
        rw [ht1] at hB
        have hP := hB
        have hD := hDk s0_2
        generalize H1 = H at hP hS ⊢
        have hP : va_P D classes (wM cI cZ q0 s0_2) H := hP
        have hD : va_D A (wM cI cZ q0 s0_2) := hD
        exact k_161 x1 x2 x3 x4 s0_2 H locs ls hf hP hD hS (lv_sub hl [0, 1, 2, 3, 4] rfl)
      refine lv_iload hx hb dX7_passOn_80 (lv_at hl 4 rfl) ?_
      refine lv_aload_n hx hb dX7_passOn_82 rfl (lv_at hl 0 rfl) ?_
      refine va_get (D := D) (ci := 5) (v := .int (s0.1 1)) (C := RX7) (T := TX7) (N := 28) hx hb ht inX7 hown hK hP 0 eM_0 rfl 1 (by decide) (ht _ tw_656) (fun _ h9 => h9) rfl dX7_passOn_83 ?_
      refine lv_icmp_ge (tgt := 167) hx hb dX7_passOn_86 (by decide) (fun c_3 => ?_) (fun c_3 => ?_)
      · have hf := hf.1 c_3
        refine lv_aload_n hx hb dX7_passOn_167 rfl (lv_at hl 0 rfl) ?_
        refine va_get (D := D) (ci := 5) (v := .ref (q0 4)) (C := RX7) (T := TX7) (N := 28) hx hb ht inX7 hown hK hP 0 eM_0 rfl 5 (by decide) (ht _ tw_660) (fun _ h9 => h9) rfl dX7_passOn_168 ?_
        refine lv_iload_n hx hb dX7_passOn_171 rfl (lv_at hl 2 rfl) ?_
        refine lv_bipush (v := (34 : Int32)) hx hb dX7_passOn_172 (by decide) ?_
        refine lv_iadd hx hb dX7_passOn_174 ?_
        refine lv_dup2_11 hx hb dX7_passOn_175 rfl rfl ?_
        obtain ⟨hi_4, hf⟩ := hf
        refine va_iald hx hb hK hP 4 0 eM_4 rfl hi_4 dX7_passOn_176 ?_
        refine lv_iconst (v := (1 : Int32)) hx hb dX7_passOn_177 (by decide) ?_
        refine lv_iadd hx hb dX7_passOn_178 ?_
        obtain ⟨hi_5, hf⟩ := hf
        refine va_iast hx hb hK hP hD hS 4 0 eM_4 rfl hi_5 dX7_passOn_179 (fun H locs hP hD hS => ?_)
        obtain ⟨s0_6, es0_6⟩ : ∃ y : CS, y = sA s0 5 (x2 + (34 : Int32)).toNatClampNeg (((s0.2.1 5) (x2 + (34 : Int32)).toNatClampNeg) + (1 : Int32)) := ⟨_, rfl⟩
        have hf := hf s0_6 es0_6
        have hD := hDk s0_6
        have hP : va_P D classes (wM cI cZ q0 s0_6) H := by rw [es0_6]; exact PM_F5 hP
        refine lv_iload_n hx hb dX7_passOn_180 rfl (lv_at hl 3 rfl) ?_
        exact W.iret (v := x3) hx hb hr (fun t ht hW => ⟨⟨x3, s0_6, rfl, hf, P_heap ht hP⟩, hS.F ht⟩) hS.2.2 dX7_passOn_181
      · have hf := hf.2 c_3
        refine lv_aload_n hx hb dX7_passOn_89 rfl (lv_at hl 0 rfl) ?_
        refine va_get (D := D) (ci := 5) (v := .ref (q0 4)) (C := RX7) (T := TX7) (N := 28) hx hb ht inX7 hown hK hP 0 eM_0 rfl 5 (by decide) (ht _ tw_660) (fun _ h9 => h9) rfl dX7_passOn_90 ?_
        refine lv_iload_n hx hb dX7_passOn_93 rfl (lv_at hl 2 rfl) ?_
        refine lv_bipush (v := (25 : Int32)) hx hb dX7_passOn_94 (by decide) ?_
        refine lv_iadd hx hb dX7_passOn_96 ?_
        refine lv_iload hx hb dX7_passOn_97 (lv_at hl 4 rfl) ?_
        refine lv_iadd hx hb dX7_passOn_99 ?_
        obtain ⟨hi_7, hf⟩ := hf
        refine va_iald hx hb hK hP 4 0 eM_4 rfl hi_7 dX7_passOn_100 ?_
        refine lv_topi (fun x5_8 ex5_8 => ?_)
        have hf := hf x5_8 ex5_8
        refine lv_istore (lv' := [(5, .int x5_8), (0, .ref (q0 0)), (1, .int x1), (2, .int x2), (3, .int x3), (4, .int x4)]) hx hb dX7_passOn_101 hl (by decide) rfl (fun ls hl => ?_)
        refine lv_iload hx hb dX7_passOn_103 (lv_at hl 0 rfl) ?_
        refine lv_bipush (v := (-9 : Int32)) hx hb dX7_passOn_105 (by decide) ?_
        refine lv_icmp_eq (tgt := 161) hx hb dX7_passOn_107 (by decide) (fun c_9 => ?_) (fun c_9 => ?_)
        · have hf := hf.1 c_9
          exact k_161 x1 x2 x3 x4 s0 H locs ls hf hP hD hS (lv_sub hl [1, 2, 3, 4, 5] rfl)
        · have hf := hf.2 c_9
          refine lv_aload_n hx hb dX7_passOn_110 rfl (lv_at hl 1 rfl) ?_
          refine lv_iload_n hx hb dX7_passOn_111 rfl (lv_at hl 2 rfl) ?_
          refine lv_iload hx hb dX7_passOn_112 (lv_at hl 5 rfl) ?_
          have hPc : va_P D classes (wM cI cZ q0 s0) H := hP
          refine vp_callSi (W.runV (As := [.int x1, .int x4]) (rest := []) ⟨hx, hb, hml, hown, hts⟩ (c_X7_of l D cI cZ cW q0 x1 x4 s0 _ hf) ⟨callB_of 2 hts (gA tw_807) rfl rfl rfl (ht _ tw_7) (ht _ tw_804) hd_X7_of ⟨Nat.le_of_ble_eq_true rfl, Nat.le_of_ble_eq_true rfl⟩, ht _ tw_806, ht _ twp_25⟩ ⟨PR_blind, va_recv hK hP (ci := 5) (q0 := 0) rfl eM_0, fun U hU hW => PR_mk hPc hK hU hW⟩ rfl rfl hl.1 rfl (lv_room (Nat.le_of_ble_eq_true rfl)) dX7_passOn_114 ⟨Nat.zero_le _, Nat.zero_le _⟩) (fun r_10 hf => ?_)
          have hPc : va_P D classes ([] : va_W) H := hP.sub [] rfl
          refine vp_callSi (W.runS (As := [.int r_10]) (rest := []) ⟨hx, hb, hml, hown, hts⟩ (c_X7_ones l D cI cZ cW  r_10 _ hf) ⟨callB_of 1 hts (gA tw_795) rfl rfl rfl (ht _ tw_7) (ht _ tw_793) hd_X7_ones ⟨Nat.le_of_ble_eq_true rfl, Nat.le_of_ble_eq_true rfl⟩, ht _ tw_794⟩ ⟨PR_blind, fun U hU hW => PR_mk hPc hK hU hW⟩ rfl rfl hl.1 rfl (lv_room (Nat.le_of_ble_eq_true rfl)) dX7_passOn_117 ⟨Nat.zero_le _, Nat.zero_le _⟩) (fun r_11 hf => ?_)
          refine lv_istore (lv' := [(6, .int r_11), (5, .int x5_8), (0, .ref (q0 0)), (1, .int x1), (2, .int x2), (3, .int x3), (4, .int x4)]) hx hb dX7_passOn_120 hl (by decide) rfl (fun ls hl => ?_)
          refine lv_aload_n hx hb dX7_passOn_122 rfl (lv_at hl 2 rfl) ?_
          refine lv_iload_n hx hb dX7_passOn_123 rfl (lv_at hl 3 rfl) ?_
          refine lv_iload hx hb dX7_passOn_124 (lv_at hl 1 rfl) ?_
          refine lv_aload_n hx hb dX7_passOn_126 rfl (lv_at hl 2 rfl) ?_
          refine va_get (D := D) (ci := 5) (v := .ref (q0 4)) (C := RX7) (T := TX7) (N := 28) hx hb ht inX7 hown hK hP 0 eM_0 rfl 5 (by decide) (ht _ tw_660) (fun _ h9 => h9) rfl dX7_passOn_127 ?_
          refine lv_iload_n hx hb dX7_passOn_130 rfl (lv_at hl 4 rfl) ?_
          refine lv_bipush (v := (20 : Int32)) hx hb dX7_passOn_131 (by decide) ?_
          refine lv_iadd hx hb dX7_passOn_133 ?_
          refine lv_iload hx hb dX7_passOn_134 (lv_at hl 6 rfl) ?_
          refine lv_iadd hx hb dX7_passOn_136 ?_
          obtain ⟨hi_12, hf⟩ := hf
          refine va_iald hx hb hK hP 4 0 eM_4 rfl hi_12 dX7_passOn_137 ?_
          refine lv_aload_n hx hb dX7_passOn_138 rfl (lv_at hl 2 rfl) ?_
          refine va_get (D := D) (ci := 5) (v := .ref (q0 1)) (C := RX7) (T := TX7) (N := 28) hx hb ht inX7 hown hK hP 0 eM_0 rfl 2 (by decide) (ht _ tw_657) (fun _ h9 => h9) rfl dX7_passOn_139 ?_
          refine lv_iload hx hb dX7_passOn_142 (lv_at hl 1 rfl) ?_
          obtain ⟨hi_13, hf⟩ := hf
          refine va_iald hx hb hK hP 1 0 eM_1 rfl hi_13 dX7_passOn_144 ?_
          refine lv_iconst (v := (3 : Int32)) hx hb dX7_passOn_145 (by decide) ?_
          refine lv_icmp_ne (tgt := 156) hx hb dX7_passOn_146 (by decide) (fun c_14 => ?_) (fun c_14 => ?_)
          · have hf := hf.1 c_14
            refine lv_iload hx hb dX7_passOn_156 (lv_at hl 0 rfl) ?_
            exact k_158 x1 x2 x3 x4 r_11 ((s0.2.1 5) ((x2 + (20 : Int32)) + x4).toNatClampNeg) x5_8 x1 s0 H locs ls hf hP hD hS (lv_sub hl [2, 3, 4, 5, 6] rfl)
          · have hf := hf.2 c_14
            refine lv_iload hx hb dX7_passOn_149 (lv_at hl 0 rfl) ?_
            refine lv_iconst (v := (2 : Int32)) hx hb dX7_passOn_151 (by decide) ?_
            refine lv_idiv hx hb dX7_passOn_152 (by decide) ?_
            refine lv_goto (tgt := 158) hx hb dX7_passOn_153 (by decide) ?_
            exact k_158 x1 x2 x3 x4 (r_11 / (2 : Int32)) ((s0.2.1 5) ((x2 + (20 : Int32)) + x4).toNatClampNeg) x5_8 x1 s0 H locs ls hf hP hD hS (lv_sub hl [2, 3, 4, 5, 6] rfl)
    exact main_80 n0_80 x1 x2 x3 x4 s0 H locs ls hI0_80 hP hD hS hl
  have k_77 : ∀ (x1 : Int32) (x2 : Int32) (x3 : Int32) (s0 : CS) (H : Heap) (locs : List Loc) (ls : Array Slot), B_X7_passOn_77  x1 x2 x3 s0 Q → va_P D classes (wM cI cZ q0 s0) H → va_D A (wM cI cZ q0 s0) → va_S A s.heap H locs → lv_has ls 7 [(0, .ref (q0 0)), (1, .int x1), (2, .int x2), (3, .int x3)] → W p l e (headSpec (wsA yX7_passOn cX7_passOn 7 (some .int)) ({ frames := 4, cells := 0, slots := 0, locals := 91 })).room s m (#[.ref (q0 0), .int p0] : Array Value) below meth c H locs 0 0 (MQ below (va_Qi (fun (r : Int32) (u : CS) => Q r u) (fun u t => va_P D classes (wM cI cZ q0 u) t.heap) A) (#[.ref (q0 0), .int p0] : Array Value) s 0 0 A) (F0 m 77 ls []) := by
    intro x1 x2 x3 s0 H locs ls hf hP hD hS hl
    unfold B_X7_passOn_77 at hf
    refine lv_iconst (v := (0 : Int32)) hx hb dX7_passOn_77 (by decide) ?_
    refine lv_istore (lv' := [(4, .int (0 : Int32)), (0, .ref (q0 0)), (1, .int x1), (2, .int x2), (3, .int x3)]) hx hb dX7_passOn_78 hl (by decide) rfl (fun ls hl => ?_)
    exact k_80 x1 x2 x3 (0 : Int32) s0 H locs ls hf hP hD hS (lv_sub hl [1, 2, 3, 4, 0] rfl)
  have k_58 : ∀ (x1 : Int32) (x2 : Int32) (x3 : Int32) (s0 : CS) (H : Heap) (locs : List Loc) (ls : Array Slot), B_X7_passOn_58  x1 x2 x3 s0 Q → va_P D classes (wM cI cZ q0 s0) H → va_D A (wM cI cZ q0 s0) → va_S A s.heap H locs → lv_has ls 7 [(0, .ref (q0 0)), (1, .int x1), (2, .int x2), (3, .int x3)] → W p l e (headSpec (wsA yX7_passOn cX7_passOn 7 (some .int)) ({ frames := 4, cells := 0, slots := 0, locals := 91 })).room s m (#[.ref (q0 0), .int p0] : Array Value) below meth c H locs 0 0 (MQ below (va_Qi (fun (r : Int32) (u : CS) => Q r u) (fun u t => va_P D classes (wM cI cZ q0 u) t.heap) A) (#[.ref (q0 0), .int p0] : Array Value) s 0 0 A) (F0 m 58 ls []) := by
    intro x1 x2 x3 s0 H locs ls hf hP hD hS hl
    unfold B_X7_passOn_58 at hf
    obtain ⟨I_58, ⟨n0_58, hI0_58⟩, hst_58⟩ := hf
    have main_58 : ∀ (n : Nat) (x1 : Int32) (x2 : Int32) (x3 : Int32) (s0 : CS) (H : Heap) (locs : List Loc) (ls : Array Slot), I_58 n (x1, x2, x3, s0) → va_P D classes (wM cI cZ q0 s0) H → va_D A (wM cI cZ q0 s0) → va_S A s.heap H locs → lv_has ls 7 [(0, .ref (q0 0)), (1, .int x1), (2, .int x2), (3, .int x3)] → W p l e (headSpec (wsA yX7_passOn cX7_passOn 7 (some .int)) ({ frames := 4, cells := 0, slots := 0, locals := 91 })).room s m (#[.ref (q0 0), .int p0] : Array Value) below meth c H locs 0 0 (MQ below (va_Qi (fun (r : Int32) (u : CS) => Q r u) (fun u t => va_P D classes (wM cI cZ q0 u) t.heap) A) (#[.ref (q0 0), .int p0] : Array Value) s 0 0 A) (F0 m 58 ls []) := by
      intro n
      induction n using Nat.strongRecOn with
      | _ n_58 ih_58 =>
      intro x1 x2 x3 s0 H locs ls hI hP hD hS hl
      have hf : LB_X7_passOn_58 (fun z => ∃ k, k < n_58 ∧ I_58 k z)  x1 x2 x3 s0 Q := hst_58 n_58 (x1, x2, x3, s0) hI
      have hG_58 : ∀ (x1 : Int32) (x2 : Int32) (x3 : Int32) (s0 : CS) (H : Heap) (locs : List Loc) (ls : Array Slot), (∃ k, k < n_58 ∧ I_58 k (x1, x2, x3, s0)) → va_P D classes (wM cI cZ q0 s0) H → va_D A (wM cI cZ q0 s0) → va_S A s.heap H locs → lv_has ls 7 [(0, .ref (q0 0)), (1, .int x1), (2, .int x2), (3, .int x3)] → W p l e (headSpec (wsA yX7_passOn cX7_passOn 7 (some .int)) ({ frames := 4, cells := 0, slots := 0, locals := 91 })).room s m (#[.ref (q0 0), .int p0] : Array Value) below meth c H locs 0 0 (MQ below (va_Qi (fun (r : Int32) (u : CS) => Q r u) (fun u t => va_P D classes (wM cI cZ q0 u) t.heap) A) (#[.ref (q0 0), .int p0] : Array Value) s 0 0 A) (F0 m 58 ls []) := by
        rintro x1 x2 x3 s0 H locs ls ⟨k, hk, hI⟩ hP hD hS hl
        exact ih_58 k hk x1 x2 x3 s0 H locs ls hI hP hD hS hl
      unfold LB_X7_passOn_58 at hf
      refine lv_iload_n hx hb dX7_passOn_58 rfl (lv_at hl 3 rfl) ?_
      refine lv_iconst (v := (5 : Int32)) hx hb dX7_passOn_59 (by decide) ?_
      refine lv_icmp_ge (tgt := 77) hx hb dX7_passOn_60 (by decide) (fun c_15 => ?_) (fun c_15 => ?_)
      · have hf := hf.1 c_15
        exact k_77 x1 x2 x3 s0 H locs ls hf hP hD hS (lv_sub hl [0, 1, 2, 3] rfl)
      · have hf := hf.2 c_15
        refine lv_aload_n hx hb dX7_passOn_63 rfl (lv_at hl 0 rfl) ?_
        refine lv_iload_n hx hb dX7_passOn_64 rfl (lv_at hl 1 rfl) ?_
        have hPc : va_P D classes (wM cI cZ q0 s0) H := hP
        have hDc : va_D A (wM cI cZ q0 s0) := hD
        have hFc := va_free (wc := (wM cI cZ q0 s0)) hD hS hA [0, 1, 2, 3, 4, 5, 6, 7, 8, 9, 10, 11, 12, 13, 14, 15] rfl
        refine va_calli (va_runV (As := [.int x1]) (rest := []) ⟨hx, hb, hml, hown, hts⟩ (c_X7_wed l D cI cZ cW q0 H.size x1 s0 _ hf) ⟨callB_of 1 hts (gA tw_856) rfl rfl rfl (ht _ tw_7) (ht _ tw_853) hd_X7_wed ⟨Nat.le_of_ble_eq_true rfl, Nat.le_of_ble_eq_true rfl⟩, ht _ tw_855, ht _ twp_33⟩ ⟨PW_blind, va_recv hK hP (ci := 5) (q0 := 0) rfl eM_0, fun U hU hW => PW_mk hPc hDc hK hU hW⟩ rfl rfl hl.1 rfl (lv_room (Nat.le_of_ble_eq_true rfl)) dX7_passOn_65 ⟨Nat.zero_le _, Nat.zero_le _⟩) hS (fun q _ h => hFc q h) hFc (fun r_17 u t H1 locs ht1 hvm hf hB hz1 hk1 hS => ?_)
        obtain ⟨s0_16, rfl⟩ : ∃ z, z = u := ⟨_, rfl⟩
        rw [ht1] at hB
        have hP := hB
        have hD := hDk s0_16
        generalize H1 = H at hP hS ⊢
        have hP : va_P D classes (wM cI cZ q0 s0_16) H := hP
        have hD : va_D A (wM cI cZ q0 s0_16) := hD
        refine lv_if_eq (tgt := 77) hx hb dX7_passOn_68 (by decide) (fun c_18 => ?_) (fun c_18 => ?_)
        · have hf := hf.1 c_18
          exact k_77 x1 x2 x3 s0_16 H locs ls hf hP hD hS (lv_sub hl [0, 1, 2, 3] rfl)
        · have hf := hf.2 c_18
          obtain ⟨x3_19, ex3_19⟩ : ∃ y : Int32, y = x3 + (1 : Int32) := ⟨_, rfl⟩
          have hf := hf x3_19 ex3_19
          refine lv_iinc (v := x3_19) (lv' := [(3, .int x3_19), (0, .ref (q0 0)), (1, .int x1), (2, .int x2)]) hx hb dX7_passOn_71 hl (k := 3) rfl (by rw [ex3_19]; rfl) (by decide) rfl (fun ls hl => ?_)
          refine lv_goto (tgt := 58) hx hb dX7_passOn_74 (by decide) ?_
          exact hG_58 x1 x2 x3_19 s0_16 H locs ls hf hP hD hS (lv_sub hl [1, 2, 3, 0] rfl)
    exact main_58 n0_58 x1 x2 x3 s0 H locs ls hI0_58 hP hD hS hl
  have k_7 : ∀ (x1 : Int32) (x2 : Int32) (x3 : Int32) (s0 : CS) (H : Heap) (locs : List Loc) (ls : Array Slot), B_X7_passOn_7  x1 x2 x3 s0 Q → va_P D classes (wM cI cZ q0 s0) H → va_D A (wM cI cZ q0 s0) → va_S A s.heap H locs → lv_has ls 7 [(0, .ref (q0 0)), (1, .int x1), (2, .int x2), (3, .int x3)] → W p l e (headSpec (wsA yX7_passOn cX7_passOn 7 (some .int)) ({ frames := 4, cells := 0, slots := 0, locals := 91 })).room s m (#[.ref (q0 0), .int p0] : Array Value) below meth c H locs 0 0 (MQ below (va_Qi (fun (r : Int32) (u : CS) => Q r u) (fun u t => va_P D classes (wM cI cZ q0 u) t.heap) A) (#[.ref (q0 0), .int p0] : Array Value) s 0 0 A) (F0 m 7 ls []) := by
    intro x1 x2 x3 s0 H locs ls hf hP hD hS hl
    unfold B_X7_passOn_7 at hf
    obtain ⟨I_7, ⟨n0_7, hI0_7⟩, hst_7⟩ := hf
    have main_7 : ∀ (n : Nat) (x1 : Int32) (x2 : Int32) (x3 : Int32) (s0 : CS) (H : Heap) (locs : List Loc) (ls : Array Slot), I_7 n (x1, x2, x3, s0) → va_P D classes (wM cI cZ q0 s0) H → va_D A (wM cI cZ q0 s0) → va_S A s.heap H locs → lv_has ls 7 [(0, .ref (q0 0)), (1, .int x1), (2, .int x2), (3, .int x3)] → W p l e (headSpec (wsA yX7_passOn cX7_passOn 7 (some .int)) ({ frames := 4, cells := 0, slots := 0, locals := 91 })).room s m (#[.ref (q0 0), .int p0] : Array Value) below meth c H locs 0 0 (MQ below (va_Qi (fun (r : Int32) (u : CS) => Q r u) (fun u t => va_P D classes (wM cI cZ q0 u) t.heap) A) (#[.ref (q0 0), .int p0] : Array Value) s 0 0 A) (F0 m 7 ls []) := by
      intro n
      induction n using Nat.strongRecOn with
      | _ n_7 ih_7 =>
      intro x1 x2 x3 s0 H locs ls hI hP hD hS hl
      have hf : LB_X7_passOn_7 (fun z => ∃ k, k < n_7 ∧ I_7 k z)  x1 x2 x3 s0 Q := hst_7 n_7 (x1, x2, x3, s0) hI
      have hG_7 : ∀ (x1 : Int32) (x2 : Int32) (x3 : Int32) (s0 : CS) (H : Heap) (locs : List Loc) (ls : Array Slot), (∃ k, k < n_7 ∧ I_7 k (x1, x2, x3, s0)) → va_P D classes (wM cI cZ q0 s0) H → va_D A (wM cI cZ q0 s0) → va_S A s.heap H locs → lv_has ls 7 [(0, .ref (q0 0)), (1, .int x1), (2, .int x2), (3, .int x3)] → W p l e (headSpec (wsA yX7_passOn cX7_passOn 7 (some .int)) ({ frames := 4, cells := 0, slots := 0, locals := 91 })).room s m (#[.ref (q0 0), .int p0] : Array Value) below meth c H locs 0 0 (MQ below (va_Qi (fun (r : Int32) (u : CS) => Q r u) (fun u t => va_P D classes (wM cI cZ q0 u) t.heap) A) (#[.ref (q0 0), .int p0] : Array Value) s 0 0 A) (F0 m 7 ls []) := by
        rintro x1 x2 x3 s0 H locs ls ⟨k, hk, hI⟩ hP hD hS hl
        exact ih_7 k hk x1 x2 x3 s0 H locs ls hI hP hD hS hl
      unfold LB_X7_passOn_7 at hf
      have k_18 : ∀ (x1 : Int32) (x2 : Int32) (x3 : Int32) (x4 : Int32) (s0 : CS) (H : Heap) (locs : List Loc) (ls : Array Slot), B_X7_passOn_18 (fun z => ∃ k, k < n_7 ∧ I_7 k z)  x1 x2 x3 x4 s0 Q → va_P D classes (wM cI cZ q0 s0) H → va_D A (wM cI cZ q0 s0) → va_S A s.heap H locs → lv_has ls 7 [(0, .ref (q0 0)), (1, .int x1), (2, .int x2), (3, .int x3), (4, .int x4)] → W p l e (headSpec (wsA yX7_passOn cX7_passOn 7 (some .int)) ({ frames := 4, cells := 0, slots := 0, locals := 91 })).room s m (#[.ref (q0 0), .int p0] : Array Value) below meth c H locs 0 0 (MQ below (va_Qi (fun (r : Int32) (u : CS) => Q r u) (fun u t => va_P D classes (wM cI cZ q0 u) t.heap) A) (#[.ref (q0 0), .int p0] : Array Value) s 0 0 A) (F0 m 18 ls []) := by
        intro x1 x2 x3 x4 s0 H locs ls hf hP hD hS hl
        unfold B_X7_passOn_18 at hf
        obtain ⟨I_18, ⟨n0_18, hI0_18⟩, hst_18⟩ := hf
        have main_18 : ∀ (n : Nat) (x1 : Int32) (x2 : Int32) (x3 : Int32) (x4 : Int32) (s0 : CS) (H : Heap) (locs : List Loc) (ls : Array Slot), I_18 n (x1, x2, x3, x4, s0) → va_P D classes (wM cI cZ q0 s0) H → va_D A (wM cI cZ q0 s0) → va_S A s.heap H locs → lv_has ls 7 [(0, .ref (q0 0)), (1, .int x1), (2, .int x2), (3, .int x3), (4, .int x4)] → W p l e (headSpec (wsA yX7_passOn cX7_passOn 7 (some .int)) ({ frames := 4, cells := 0, slots := 0, locals := 91 })).room s m (#[.ref (q0 0), .int p0] : Array Value) below meth c H locs 0 0 (MQ below (va_Qi (fun (r : Int32) (u : CS) => Q r u) (fun u t => va_P D classes (wM cI cZ q0 u) t.heap) A) (#[.ref (q0 0), .int p0] : Array Value) s 0 0 A) (F0 m 18 ls []) := by
          intro n
          induction n using Nat.strongRecOn with
          | _ n_18 ih_18 =>
          intro x1 x2 x3 x4 s0 H locs ls hI hP hD hS hl
          have hf : LB_X7_passOn_18 (fun z => ∃ k, k < n_18 ∧ I_18 k z) (fun z => ∃ k, k < n_7 ∧ I_7 k z)  x1 x2 x3 x4 s0 Q := hst_18 n_18 (x1, x2, x3, x4, s0) hI
          have hG_18 : ∀ (x1 : Int32) (x2 : Int32) (x3 : Int32) (x4 : Int32) (s0 : CS) (H : Heap) (locs : List Loc) (ls : Array Slot), (∃ k, k < n_18 ∧ I_18 k (x1, x2, x3, x4, s0)) → va_P D classes (wM cI cZ q0 s0) H → va_D A (wM cI cZ q0 s0) → va_S A s.heap H locs → lv_has ls 7 [(0, .ref (q0 0)), (1, .int x1), (2, .int x2), (3, .int x3), (4, .int x4)] → W p l e (headSpec (wsA yX7_passOn cX7_passOn 7 (some .int)) ({ frames := 4, cells := 0, slots := 0, locals := 91 })).room s m (#[.ref (q0 0), .int p0] : Array Value) below meth c H locs 0 0 (MQ below (va_Qi (fun (r : Int32) (u : CS) => Q r u) (fun u t => va_P D classes (wM cI cZ q0 u) t.heap) A) (#[.ref (q0 0), .int p0] : Array Value) s 0 0 A) (F0 m 18 ls []) := by
            rintro x1 x2 x3 x4 s0 H locs ls ⟨k, hk, hI⟩ hP hD hS hl
            exact ih_18 k hk x1 x2 x3 x4 s0 H locs ls hI hP hD hS hl
          unfold LB_X7_passOn_18 at hf
          have k_35 : ∀ (x1 : Int32) (x2 : Int32) (x3 : Int32) (x4 : Int32) (t0 : Int32) (t1 : Int32) (s0 : CS) (H : Heap) (locs : List Loc) (ls : Array Slot), B_X7_passOn_35 (fun z => ∃ k, k < n_7 ∧ I_7 k z) (fun z => ∃ k, k < n_18 ∧ I_18 k z)  x1 x2 x3 x4 t0 t1 s0 Q → va_P D classes (wM cI cZ q0 s0) H → va_D A (wM cI cZ q0 s0) → va_S A s.heap H locs → lv_has ls 7 [(0, .ref (q0 0)), (1, .int x1), (2, .int x2), (3, .int x3), (4, .int x4)] → W p l e (headSpec (wsA yX7_passOn cX7_passOn 7 (some .int)) ({ frames := 4, cells := 0, slots := 0, locals := 91 })).room s m (#[.ref (q0 0), .int p0] : Array Value) below meth c H locs 0 0 (MQ below (va_Qi (fun (r : Int32) (u : CS) => Q r u) (fun u t => va_P D classes (wM cI cZ q0 u) t.heap) A) (#[.ref (q0 0), .int p0] : Array Value) s 0 0 A) (F0 m 35 ls [.int t0, .int t1]) := by
            intro x1 x2 x3 x4 t0 t1 s0 H locs ls hf hP hD hS hl
            unfold B_X7_passOn_35 at hf
            refine lv_icmp_ge (tgt := 50) hx hb dX7_passOn_35 (by decide) (fun c_20 => ?_) (fun c_20 => ?_)
            · have hf := hf.1 c_20
              obtain ⟨x3_21, ex3_21⟩ : ∃ y : Int32, y = x3 + (1 : Int32) := ⟨_, rfl⟩
              have hf := hf x3_21 ex3_21
              refine lv_iinc (v := x3_21) (lv' := [(3, .int x3_21), (0, .ref (q0 0)), (1, .int x1), (2, .int x2), (4, .int x4)]) hx hb dX7_passOn_50 hl (k := 3) rfl (by rw [ex3_21]; rfl) (by decide) rfl (fun ls hl => ?_)
              refine lv_goto (tgt := 7) hx hb dX7_passOn_53 (by decide) ?_
              exact hG_7 x1 x2 x3_21 s0 H locs ls hf hP hD hS (lv_sub hl [1, 2, 3, 0] rfl)
            · have hf := hf.2 c_20
              refine lv_aload_n hx hb dX7_passOn_38 rfl (lv_at hl 0 rfl) ?_
              refine lv_iload_n hx hb dX7_passOn_39 rfl (lv_at hl 1 rfl) ?_
              refine lv_iload_n hx hb dX7_passOn_40 rfl (lv_at hl 3 rfl) ?_
              have hPc : va_P D classes (wM cI cZ q0 s0) H := hP
              have hDc : va_D A (wM cI cZ q0 s0) := hD
              have hFc := va_free (wc := (wM cI cZ q0 s0)) hD hS hA [0, 1, 2, 3, 4, 5, 6, 7, 8, 9, 10, 11, 12, 13, 14, 15] rfl
              refine va_callv (va_runV (As := [.int x1, .int x3]) (rest := []) ⟨hx, hb, hml, hown, hts⟩ (c_X7_grow l D cI cZ cW q0 H.size x1 x3 s0 _ hf) ⟨callB_of 2 hts (gA tw_830) rfl rfl rfl (ht _ tw_7) (ht _ tw_827) hd_X7_grow ⟨Nat.le_of_ble_eq_true rfl, Nat.le_of_ble_eq_true rfl⟩, ht _ tw_829, ht _ twp_28⟩ ⟨PW_blind, va_recv hK hP (ci := 5) (q0 := 0) rfl eM_0, fun U hU hW => PW_mk hPc hDc hK hU hW⟩ rfl rfl hl.1 rfl (lv_room (Nat.le_of_ble_eq_true rfl)) dX7_passOn_41 ⟨Nat.zero_le _, Nat.zero_le _⟩) hS (fun q _ h => hFc q h) hFc (fun u t H1 locs ht1 hvm hf hB hz1 hk1 hS => ?_)
              obtain ⟨s0_22, rfl⟩ : ∃ z, z = u := ⟨_, rfl⟩
              rw [ht1] at hB
              have hP := hB
              have hD := hDk s0_22
              generalize H1 = H at hP hS ⊢
              have hP : va_P D classes (wM cI cZ q0 s0_22) H := hP
              have hD : va_D A (wM cI cZ q0 s0_22) := hD
              obtain ⟨x4_23, ex4_23⟩ : ∃ y : Int32, y = x4 + (1 : Int32) := ⟨_, rfl⟩
              have hf := hf x4_23 ex4_23
              refine lv_iinc (v := x4_23) (lv' := [(4, .int x4_23), (0, .ref (q0 0)), (1, .int x1), (2, .int x2), (3, .int x3)]) hx hb dX7_passOn_44 hl (k := 4) rfl (by rw [ex4_23]; rfl) (by decide) rfl (fun ls hl => ?_)
              refine lv_goto (tgt := 18) hx hb dX7_passOn_47 (by decide) ?_
              exact hG_18 x1 x2 x3 x4_23 s0_22 H locs ls hf hP hD hS (lv_sub hl [1, 2, 3, 4, 0] rfl)
          refine lv_iload hx hb dX7_passOn_18 (lv_at hl 4 rfl) ?_
          refine lv_aload_n hx hb dX7_passOn_20 rfl (lv_at hl 0 rfl) ?_
          refine va_get (D := D) (ci := 5) (v := .ref (q0 3)) (C := RX7) (T := TX7) (N := 28) hx hb ht inX7 hown hK hP 0 eM_0 rfl 4 (by decide) (ht _ tw_659) (fun _ h9 => h9) rfl dX7_passOn_21 ?_
          refine lv_iload_n hx hb dX7_passOn_24 rfl (lv_at hl 3 rfl) ?_
          obtain ⟨hi_24, hf⟩ := hf
          refine va_iald hx hb hK hP 3 0 eM_3 rfl hi_24 dX7_passOn_25 ?_
          refine lv_iconst (v := (1 : Int32)) hx hb dX7_passOn_26 (by decide) ?_
          refine lv_icmp_ne (tgt := 34) hx hb dX7_passOn_27 (by decide) (fun c_25 => ?_) (fun c_25 => ?_)
          · have hf := hf.1 c_25
            refine lv_iconst (v := (1 : Int32)) hx hb dX7_passOn_34 (by decide) ?_
            exact k_35 x1 x2 x3 x4 (1 : Int32) x4 s0 H locs ls hf hP hD hS (lv_sub hl [0, 1, 2, 3, 4] rfl)
          · have hf := hf.2 c_25
            refine lv_iconst (v := (2 : Int32)) hx hb dX7_passOn_30 (by decide) ?_
            refine lv_goto (tgt := 35) hx hb dX7_passOn_31 (by decide) ?_
            exact k_35 x1 x2 x3 x4 (2 : Int32) x4 s0 H locs ls hf hP hD hS (lv_sub hl [0, 1, 2, 3, 4] rfl)
        exact main_18 n0_18 x1 x2 x3 x4 s0 H locs ls hI0_18 hP hD hS hl
      refine lv_iload_n hx hb dX7_passOn_7 rfl (lv_at hl 3 rfl) ?_
      refine lv_aload_n hx hb dX7_passOn_8 rfl (lv_at hl 0 rfl) ?_
      refine va_get (D := D) (ci := 5) (v := .int (s0.1 1)) (C := RX7) (T := TX7) (N := 28) hx hb ht inX7 hown hK hP 0 eM_0 rfl 1 (by decide) (ht _ tw_656) (fun _ h9 => h9) rfl dX7_passOn_9 ?_
      refine lv_icmp_ge (tgt := 56) hx hb dX7_passOn_12 (by decide) (fun c_26 => ?_) (fun c_26 => ?_)
      · have hf := hf.1 c_26
        refine lv_iconst (v := (0 : Int32)) hx hb dX7_passOn_56 (by decide) ?_
        refine lv_istore_n (lv' := [(3, .int (0 : Int32)), (0, .ref (q0 0)), (1, .int x1), (2, .int x2)]) hx hb dX7_passOn_57 rfl hl (by decide) rfl (fun ls hl => ?_)
        exact k_58 x1 x2 (0 : Int32) s0 H locs ls hf hP hD hS (lv_sub hl [1, 2, 3, 0] rfl)
      · have hf := hf.2 c_26
        refine lv_iconst (v := (0 : Int32)) hx hb dX7_passOn_15 (by decide) ?_
        refine lv_istore (lv' := [(4, .int (0 : Int32)), (0, .ref (q0 0)), (1, .int x1), (2, .int x2), (3, .int x3)]) hx hb dX7_passOn_16 hl (by decide) rfl (fun ls hl => ?_)
        exact k_18 x1 x2 x3 (0 : Int32) s0 H locs ls hf hP hD hS (lv_sub hl [1, 2, 3, 4, 0] rfl)
    exact main_7 n0_7 x1 x2 x3 s0 H locs ls hI0_7 hP hD hS hl
  have start : ∀ (H : Heap) (locs : List Loc), va_P D classes (wM cI cZ q0 s0) H → va_D A (wM cI cZ q0 s0) → va_S A s.heap H locs → W p l e (headSpec (wsA yX7_passOn cX7_passOn 7 (some .int)) ({ frames := 4, cells := 0, slots := 0, locals := 91 })).room s m (#[.ref (q0 0), .int p0] : Array Value) below meth c H locs 0 0 (MQ below (va_Qi (fun (r : Int32) (u : CS) => Q r u) (fun u t => va_P D classes (wM cI cZ q0 u) t.heap) A) (#[.ref (q0 0), .int p0] : Array Value) s 0 0 A) (F0 m 0 ls []) := by
    intro H locs hP hD hS
    refine lv_bipush (v := (35 : Int32)) hx hb dX7_passOn_0 (by decide) ?_
    refine lv_iload_n hx hb dX7_passOn_2 rfl (lv_at hl 1 rfl) ?_
    refine lv_imul hx hb dX7_passOn_3 ?_
    refine lv_topi (fun x2_27 ex2_27 => ?_)
    have hf := hf x2_27 ex2_27
    refine lv_istore_n (lv' := [(2, .int x2_27), (0, .ref (q0 0)), (1, .int p0)]) hx hb dX7_passOn_4 rfl hl (by decide) rfl (fun ls hl => ?_)
    refine lv_iconst (v := (0 : Int32)) hx hb dX7_passOn_5 (by decide) ?_
    refine lv_istore_n (lv' := [(3, .int (0 : Int32)), (2, .int x2_27), (0, .ref (q0 0)), (1, .int p0)]) hx hb dX7_passOn_6 rfl hl (by decide) rfl (fun ls hl => ?_)
    exact k_7 p0 x2_27 (0 : Int32) s0 H locs ls hf hP hD hS (lv_sub hl [2, 3, 1, 0] rfl)
  exact start s.heap [] hP hD hS
def B_X7_alive_39 (G4 : (Int32 × Int32 × Int32) → Prop) (s0 : CS) (x1 : Int32) (x3 : Int32) (t0 : Int32) (t1 : Int32) (Q : Int32 → Prop) : Prop := ∀ x2_1 : Int32, x2_1 = (t1 ||| t0) → ∀ x3_2 : Int32, x3_2 = x3 + (1 : Int32) → G4 (x1, x2_1, x3_2)
def LB_X7_alive_4 (G4 : (Int32 × Int32 × Int32) → Prop) (s0 : CS) (x1 : Int32) (x2 : Int32) (x3 : Int32) (Q : Int32 → Prop) : Prop := (((s0.1 1) ≤ x3 → Q x2) ∧ (¬ (s0.1 1) ≤ x3 → vp_in ((((35 : Int32) * x1) + (20 : Int32)) + x3) 70 ∧ ((((s0.2.1 5) ((((35 : Int32) * x1) + (20 : Int32)) + x3).toNatClampNeg) = (-9 : Int32) → B_X7_alive_39 G4 s0 x1 x3 (0 : Int32) x2 Q) ∧ (¬ ((s0.2.1 5) ((((35 : Int32) * x1) + (20 : Int32)) + x3).toNatClampNeg) = (-9 : Int32) → B_X7_alive_39 G4 s0 x1 x3 ((1 : Int32) <<< (x3 &&& 31)) x2 Q))))
def B_X7_alive_4 (s0 : CS) (x1 : Int32) (x2 : Int32) (x3 : Int32) (Q : Int32 → Prop) : Prop := LOOP (fun (G4 : (Int32 × Int32 × Int32) → Prop) z => LB_X7_alive_4 G4 s0 z.1 z.2.1 z.2.2 Q) (x1, x2, x3)
def wp_X7_alive (p0 : Int32) (s0 : CS) (Q : Int32 → Prop) : Prop := B_X7_alive_4 s0 p0 (0 : Int32) (0 : Int32) Q
set_option maxHeartbeats 4000000 in
set_option maxRecDepth 100000 in
theorem c_X7_alive (l : Launch) (D : va_G) (cI cZ cW : ClassId) (q0 : Nat → Nat) (p0 : Int32) (s0 : CS) (Q : Int32 → Prop) (hf : wp_X7_alive p0 s0 Q) : Met l yX7_alive (wsA yX7_alive cX7_alive 4 (some .int)) ({ frames := 0, cells := 0, slots := 0, locals := 0 }) (PR D cI cZ cW [.ref (q0 0), .int p0] (wM cI cZ q0 s0)) (vp_Si Q) 0 0 (fun _ => False) := by
  refine Met.ofW (cc := cX7_alive) (maxL := 4) (ret := (some .int)) (by decide) rfl ?_
  intro p e s m args below meth c s₁ B hml hv
  obtain ⟨rfl, hP, hK⟩ := hv
  have hx := B.exec
  have hb := B.bytes
  have hr := B.returns
  have hts := atoms_spec (ws := (wsA yX7_alive cX7_alive 4 (some .int))) B.pre
  have ht : ∀ w ∈ lw_g, w.before _ s = true := fun w h => hts w (List.mem_cons_of_mem _ h)
  have hown : s.vm.findClass RX7 = some m.cls := findClass_of_methodNamed B.named
  have hlocks := B.notSynchronized
  have hl := lv_entry ([.ref (q0 0), .int p0]) (n := 4) (Nat.le_of_ble_eq_true rfl)
  rw [lg_entry_eq]
  generalize (lg_sl ([.ref (q0 0), .int p0]) ++ List.replicate (4 - (lg_sl ([.ref (q0 0), .int p0])).length) Slot.unset).toArray = ls at hl ⊢
  have hl : lv_has ls 4 [(0, .ref (q0 0)), (1, .int p0)] := hl
  unfold wp_X7_alive at hf
  have k_4 : ∀ (x1 : Int32) (x2 : Int32) (x3 : Int32) (ls : Array Slot), B_X7_alive_4 s0 x1 x2 x3 Q → lv_has ls 4 [(0, .ref (q0 0)), (1, .int x1), (2, .int x2), (3, .int x3)] → W p l e (headSpec (wsA yX7_alive cX7_alive 4 (some .int)) ({ frames := 0, cells := 0, slots := 0, locals := 0 })).room s m (#[.ref (q0 0), .int p0] : Array Value) below meth c s.heap [] 0 0 (MQ below (vp_Si Q) (#[.ref (q0 0), .int p0] : Array Value) s 0 0 (fun _ => False)) (F0 m 4 ls []) := by
    intro x1 x2 x3 ls hf hl
    unfold B_X7_alive_4 at hf
    obtain ⟨I_4, ⟨n0_4, hI0_4⟩, hst_4⟩ := hf
    have main_4 : ∀ (n : Nat) (x1 : Int32) (x2 : Int32) (x3 : Int32) (ls : Array Slot), I_4 n (x1, x2, x3) → lv_has ls 4 [(0, .ref (q0 0)), (1, .int x1), (2, .int x2), (3, .int x3)] → W p l e (headSpec (wsA yX7_alive cX7_alive 4 (some .int)) ({ frames := 0, cells := 0, slots := 0, locals := 0 })).room s m (#[.ref (q0 0), .int p0] : Array Value) below meth c s.heap [] 0 0 (MQ below (vp_Si Q) (#[.ref (q0 0), .int p0] : Array Value) s 0 0 (fun _ => False)) (F0 m 4 ls []) := by
      intro n
      induction n using Nat.strongRecOn with
      | _ n_4 ih_4 =>
      intro x1 x2 x3 ls hI hl
      have hf : LB_X7_alive_4 (fun z => ∃ k, k < n_4 ∧ I_4 k z) s0 x1 x2 x3 Q := hst_4 n_4 (x1, x2, x3) hI
      have hG_4 : ∀ (x1 : Int32) (x2 : Int32) (x3 : Int32) (ls : Array Slot), (∃ k, k < n_4 ∧ I_4 k (x1, x2, x3)) → lv_has ls 4 [(0, .ref (q0 0)), (1, .int x1), (2, .int x2), (3, .int x3)] → W p l e (headSpec (wsA yX7_alive cX7_alive 4 (some .int)) ({ frames := 0, cells := 0, slots := 0, locals := 0 })).room s m (#[.ref (q0 0), .int p0] : Array Value) below meth c s.heap [] 0 0 (MQ below (vp_Si Q) (#[.ref (q0 0), .int p0] : Array Value) s 0 0 (fun _ => False)) (F0 m 4 ls []) := by
        rintro x1 x2 x3 ls ⟨k, hk, hI⟩ hl
        exact ih_4 k hk x1 x2 x3 ls hI hl
      unfold LB_X7_alive_4 at hf
      have k_39 : ∀ (x1 : Int32) (x3 : Int32) (t0 : Int32) (t1 : Int32) (ls : Array Slot), B_X7_alive_39 (fun z => ∃ k, k < n_4 ∧ I_4 k z) s0 x1 x3 t0 t1 Q → lv_has ls 4 [(0, .ref (q0 0)), (1, .int x1), (3, .int x3)] → W p l e (headSpec (wsA yX7_alive cX7_alive 4 (some .int)) ({ frames := 0, cells := 0, slots := 0, locals := 0 })).room s m (#[.ref (q0 0), .int p0] : Array Value) below meth c s.heap [] 0 0 (MQ below (vp_Si Q) (#[.ref (q0 0), .int p0] : Array Value) s 0 0 (fun _ => False)) (F0 m 39 ls [.int t0, .int t1]) := by
        intro x1 x3 t0 t1 ls hf hl
        unfold B_X7_alive_39 at hf
        refine lv_ior hx hb dX7_alive_39 ?_
        refine lv_topi (fun x2_1 ex2_1 => ?_)
        have hf := hf x2_1 ex2_1
        refine lv_istore_n (lv' := [(2, .int x2_1), (0, .ref (q0 0)), (1, .int x1), (3, .int x3)]) hx hb dX7_alive_40 rfl hl (by decide) rfl (fun ls hl => ?_)
        obtain ⟨x3_2, ex3_2⟩ : ∃ y : Int32, y = x3 + (1 : Int32) := ⟨_, rfl⟩
        have hf := hf x3_2 ex3_2
        refine lv_iinc (v := x3_2) (lv' := [(3, .int x3_2), (2, .int x2_1), (0, .ref (q0 0)), (1, .int x1)]) hx hb dX7_alive_41 hl (k := 3) rfl (by rw [ex3_2]; rfl) (by decide) rfl (fun ls hl => ?_)
        refine lv_goto (tgt := 4) hx hb dX7_alive_44 (by decide) ?_
        exact hG_4 x1 x2_1 x3_2 ls hf (lv_sub hl [2, 3, 1, 0] rfl)
      refine lv_iload_n hx hb dX7_alive_4 rfl (lv_at hl 3 rfl) ?_
      refine lv_aload_n hx hb dX7_alive_5 rfl (lv_at hl 0 rfl) ?_
      refine va_get (D := D) (ci := 5) (v := .int (s0.1 1)) (C := RX7) (T := TX7) (N := 28) hx hb ht inX7 hown hK hP 0 eM_0 rfl 1 (by decide) (ht _ tw_656) (fun _ h9 => h9) rfl dX7_alive_6 ?_
      refine lv_icmp_ge (tgt := 47) hx hb dX7_alive_9 (by decide) (fun c_3 => ?_) (fun c_3 => ?_)
      · have hf := hf.1 c_3
        refine lv_iload_n hx hb dX7_alive_47 rfl (lv_at hl 2 rfl) ?_
        exact W.iret (v := x2) hx hb hr (fun t ht hW => ⟨x2, rfl, hf, ht⟩) (fun q h => absurd h List.not_mem_nil) dX7_alive_48
      · have hf := hf.2 c_3
        refine lv_iload_n hx hb dX7_alive_12 rfl (lv_at hl 2 rfl) ?_
        refine lv_aload_n hx hb dX7_alive_13 rfl (lv_at hl 0 rfl) ?_
        refine va_get (D := D) (ci := 5) (v := .ref (q0 4)) (C := RX7) (T := TX7) (N := 28) hx hb ht inX7 hown hK hP 0 eM_0 rfl 5 (by decide) (ht _ tw_660) (fun _ h9 => h9) rfl dX7_alive_14 ?_
        refine lv_bipush (v := (35 : Int32)) hx hb dX7_alive_17 (by decide) ?_
        refine lv_iload_n hx hb dX7_alive_19 rfl (lv_at hl 1 rfl) ?_
        refine lv_imul hx hb dX7_alive_20 ?_
        refine lv_bipush (v := (20 : Int32)) hx hb dX7_alive_21 (by decide) ?_
        refine lv_iadd hx hb dX7_alive_23 ?_
        refine lv_iload_n hx hb dX7_alive_24 rfl (lv_at hl 3 rfl) ?_
        refine lv_iadd hx hb dX7_alive_25 ?_
        obtain ⟨hi_4, hf⟩ := hf
        refine va_iald hx hb hK hP 4 0 eM_4 rfl hi_4 dX7_alive_26 ?_
        refine lv_bipush (v := (-9 : Int32)) hx hb dX7_alive_27 (by decide) ?_
        refine lv_icmp_eq (tgt := 38) hx hb dX7_alive_29 (by decide) (fun c_5 => ?_) (fun c_5 => ?_)
        · have hf := hf.1 c_5
          refine lv_iconst (v := (0 : Int32)) hx hb dX7_alive_38 (by decide) ?_
          exact k_39 x1 x3 (0 : Int32) x2 ls hf (lv_sub hl [0, 1, 3] rfl)
        · have hf := hf.2 c_5
          refine lv_iconst (v := (1 : Int32)) hx hb dX7_alive_32 (by decide) ?_
          refine lv_iload_n hx hb dX7_alive_33 rfl (lv_at hl 3 rfl) ?_
          refine lv_ishl hx hb dX7_alive_34 ?_
          refine lv_goto (tgt := 39) hx hb dX7_alive_35 (by decide) ?_
          exact k_39 x1 x3 ((1 : Int32) <<< (x3 &&& 31)) x2 ls hf (lv_sub hl [0, 1, 3] rfl)
    exact main_4 n0_4 x1 x2 x3 ls hI0_4 hl
  refine lv_iconst (v := (0 : Int32)) hx hb dX7_alive_0 (by decide) ?_
  refine lv_istore_n (lv' := [(2, .int (0 : Int32)), (0, .ref (q0 0)), (1, .int p0)]) hx hb dX7_alive_1 rfl hl (by decide) rfl (fun ls hl => ?_)
  refine lv_iconst (v := (0 : Int32)) hx hb dX7_alive_2 (by decide) ?_
  refine lv_istore_n (lv' := [(3, .int (0 : Int32)), (2, .int (0 : Int32)), (0, .ref (q0 0)), (1, .int p0)]) hx hb dX7_alive_3 rfl hl (by decide) rfl (fun ls hl => ?_)
  exact k_4 p0 (0 : Int32) (0 : Int32) ls hf (lv_sub hl [2, 3, 1, 0] rfl)
