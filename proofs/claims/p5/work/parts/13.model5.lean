theorem dX7_ease_0 : decode cX7_ease 0 = .ok (.iconst 0, 1) := by decide +kernel
theorem dX7_ease_1 : decode cX7_ease 1 = .ok (.istore_n 2, 1) := by decide +kernel
theorem dX7_ease_2 : decode cX7_ease 2 = .ok (.iconst 0, 1) := by decide +kernel
theorem dX7_ease_3 : decode cX7_ease 3 = .ok (.istore_n 3, 1) := by decide +kernel
theorem dX7_ease_4 : decode cX7_ease 4 = .ok (.iload_n 3, 1) := by decide +kernel
theorem dX7_ease_5 : decode cX7_ease 5 = .ok (.bipush 20, 2) := by decide +kernel
theorem dX7_ease_7 : decode cX7_ease 7 = .ok (.if_icmp .ge 107, 3) := by decide +kernel
theorem dX7_ease_10 : decode cX7_ease 10 = .ok (.aload_n 0, 1) := by decide +kernel
theorem dX7_ease_11 : decode cX7_ease 11 = .ok (.getfield 37, 3) := by decide +kernel
theorem dX7_ease_14 : decode cX7_ease 14 = .ok (.iload_n 1, 1) := by decide +kernel
theorem dX7_ease_15 : decode cX7_ease 15 = .ok (.iaload, 1) := by decide +kernel
theorem dX7_ease_16 : decode cX7_ease 16 = .ok (.bipush (-9), 2) := by decide +kernel
theorem dX7_ease_18 : decode cX7_ease 18 = .ok (.if_icmp .eq 30, 3) := by decide +kernel
theorem dX7_ease_21 : decode cX7_ease 21 = .ok (.iconst 1, 1) := by decide +kernel
theorem dX7_ease_22 : decode cX7_ease 22 = .ok (.iload_n 1, 1) := by decide +kernel
theorem dX7_ease_23 : decode cX7_ease 23 = .ok (.ishl, 1) := by decide +kernel
theorem dX7_ease_24 : decode cX7_ease 24 = .ok (.invokestatic 112, 3) := by decide +kernel
theorem dX7_ease_27 : decode cX7_ease 27 = .ok (.iload_n 3, 1) := by decide +kernel
theorem dX7_ease_28 : decode cX7_ease 28 = .ok (.invokestatic 74, 3) := by decide +kernel
theorem dX7_ease_31 : decode cX7_ease 31 = .ok (.ifCond .eq 17, 3) := by decide +kernel
theorem dX7_ease_34 : decode cX7_ease 34 = .ok (.aload_n 0, 1) := by decide +kernel
theorem dX7_ease_35 : decode cX7_ease 35 = .ok (.iload_n 3, 1) := by decide +kernel
theorem dX7_ease_36 : decode cX7_ease 36 = .ok (.invokevirtual 197, 3) := by decide +kernel
theorem dX7_ease_39 : decode cX7_ease 39 = .ok (.bipush (-9), 2) := by decide +kernel
theorem dX7_ease_41 : decode cX7_ease 41 = .ok (.if_icmp .eq 7, 3) := by decide +kernel
theorem dX7_ease_44 : decode cX7_ease 44 = .ok (.iconst 1, 1) := by decide +kernel
theorem dX7_ease_45 : decode cX7_ease 45 = .ok (.goto 4, 3) := by decide +kernel
theorem dX7_ease_48 : decode cX7_ease 48 = .ok (.iconst 0, 1) := by decide +kernel
theorem dX7_ease_49 : decode cX7_ease 49 = .ok (.istore 4, 2) := by decide +kernel
theorem dX7_ease_51 : decode cX7_ease 51 = .ok (.iload 4, 2) := by decide +kernel
theorem dX7_ease_53 : decode cX7_ease 53 = .ok (.ifCond .eq 55, 3) := by decide +kernel
theorem dX7_ease_56 : decode cX7_ease 56 = .ok (.aload_n 0, 1) := by decide +kernel
theorem dX7_ease_57 : decode cX7_ease 57 = .ok (.getfield 37, 3) := by decide +kernel
theorem dX7_ease_60 : decode cX7_ease 60 = .ok (.iload_n 3, 1) := by decide +kernel
theorem dX7_ease_61 : decode cX7_ease 61 = .ok (.iaload, 1) := by decide +kernel
theorem dX7_ease_62 : decode cX7_ease 62 = .ok (.bipush (-9), 2) := by decide +kernel
theorem dX7_ease_64 : decode cX7_ease 64 = .ok (.if_icmp .eq 24, 3) := by decide +kernel
theorem dX7_ease_67 : decode cX7_ease 67 = .ok (.aload_n 0, 1) := by decide +kernel
theorem dX7_ease_68 : decode cX7_ease 68 = .ok (.getfield 37, 3) := by decide +kernel
theorem dX7_ease_71 : decode cX7_ease 71 = .ok (.iload_n 1, 1) := by decide +kernel
theorem dX7_ease_72 : decode cX7_ease 72 = .ok (.iaload, 1) := by decide +kernel
theorem dX7_ease_73 : decode cX7_ease 73 = .ok (.aload_n 0, 1) := by decide +kernel
theorem dX7_ease_74 : decode cX7_ease 74 = .ok (.iload_n 3, 1) := by decide +kernel
theorem dX7_ease_75 : decode cX7_ease 75 = .ok (.invokevirtual 197, 3) := by decide +kernel
theorem dX7_ease_78 : decode cX7_ease 78 = .ok (.iadd, 1) := by decide +kernel
theorem dX7_ease_79 : decode cX7_ease 79 = .ok (.aload_n 0, 1) := by decide +kernel
theorem dX7_ease_80 : decode cX7_ease 80 = .ok (.getfield 37, 3) := by decide +kernel
theorem dX7_ease_83 : decode cX7_ease 83 = .ok (.iload_n 3, 1) := by decide +kernel
theorem dX7_ease_84 : decode cX7_ease 84 = .ok (.iaload, 1) := by decide +kernel
theorem dX7_ease_85 : decode cX7_ease 85 = .ok (.if_icmp .ge 23, 3) := by decide +kernel
theorem dX7_ease_88 : decode cX7_ease 88 = .ok (.aload_n 0, 1) := by decide +kernel
theorem dX7_ease_89 : decode cX7_ease 89 = .ok (.getfield 37, 3) := by decide +kernel
theorem dX7_ease_92 : decode cX7_ease 92 = .ok (.iload_n 3, 1) := by decide +kernel
theorem dX7_ease_93 : decode cX7_ease 93 = .ok (.aload_n 0, 1) := by decide +kernel
theorem dX7_ease_94 : decode cX7_ease 94 = .ok (.getfield 37, 3) := by decide +kernel
theorem dX7_ease_97 : decode cX7_ease 97 = .ok (.iload_n 1, 1) := by decide +kernel
theorem dX7_ease_98 : decode cX7_ease 98 = .ok (.iaload, 1) := by decide +kernel
theorem dX7_ease_99 : decode cX7_ease 99 = .ok (.aload_n 0, 1) := by decide +kernel
theorem dX7_ease_100 : decode cX7_ease 100 = .ok (.iload_n 3, 1) := by decide +kernel
theorem dX7_ease_101 : decode cX7_ease 101 = .ok (.invokevirtual 197, 3) := by decide +kernel
theorem dX7_ease_104 : decode cX7_ease 104 = .ok (.iadd, 1) := by decide +kernel
theorem dX7_ease_105 : decode cX7_ease 105 = .ok (.iastore, 1) := by decide +kernel
theorem dX7_ease_106 : decode cX7_ease 106 = .ok (.iconst 1, 1) := by decide +kernel
theorem dX7_ease_107 : decode cX7_ease 107 = .ok (.istore_n 2, 1) := by decide +kernel
theorem dX7_ease_108 : decode cX7_ease 108 = .ok (.iinc 3 1, 3) := by decide +kernel
theorem dX7_ease_111 : decode cX7_ease 111 = .ok (.goto (-107), 3) := by decide +kernel
theorem dX7_ease_114 : decode cX7_ease 114 = .ok (.iload_n 2, 1) := by decide +kernel
theorem dX7_ease_115 : decode cX7_ease 115 = .ok (.ireturn, 1) := by decide +kernel
theorem dX7_gnaw_0 : decode cX7_gnaw 0 = .ok (.iload_n 1, 1) := by decide +kernel
theorem dX7_gnaw_1 : decode cX7_gnaw 1 = .ok (.invokestatic 166, 3) := by decide +kernel
theorem dX7_gnaw_4 : decode cX7_gnaw 4 = .ok (.ifCond .eq 10, 3) := by decide +kernel
theorem dX7_gnaw_7 : decode cX7_gnaw 7 = .ok (.iload_n 2, 1) := by decide +kernel
theorem dX7_gnaw_8 : decode cX7_gnaw 8 = .ok (.invokestatic 166, 3) := by decide +kernel
theorem dX7_gnaw_11 : decode cX7_gnaw 11 = .ok (.ifCond .ne 5, 3) := by decide +kernel
theorem dX7_gnaw_14 : decode cX7_gnaw 14 = .ok (.iconst (-1), 1) := by decide +kernel
theorem dX7_gnaw_15 : decode cX7_gnaw 15 = .ok (.ireturn, 1) := by decide +kernel
theorem dX7_gnaw_16 : decode cX7_gnaw 16 = .ok (.iload_n 1, 1) := by decide +kernel
theorem dX7_gnaw_17 : decode cX7_gnaw 17 = .ok (.iload_n 2, 1) := by decide +kernel
theorem dX7_gnaw_18 : decode cX7_gnaw 18 = .ok (.if_icmp .ne 5, 3) := by decide +kernel
theorem dX7_gnaw_21 : decode cX7_gnaw 21 = .ok (.iconst 0, 1) := by decide +kernel
theorem dX7_gnaw_22 : decode cX7_gnaw 22 = .ok (.ireturn, 1) := by decide +kernel
theorem dX7_gnaw_23 : decode cX7_gnaw 23 = .ok (.iconst 0, 1) := by decide +kernel
theorem dX7_gnaw_24 : decode cX7_gnaw 24 = .ok (.istore_n 3, 1) := by decide +kernel
theorem dX7_gnaw_25 : decode cX7_gnaw 25 = .ok (.iload_n 3, 1) := by decide +kernel
theorem dX7_gnaw_26 : decode cX7_gnaw 26 = .ok (.bipush 20, 2) := by decide +kernel
theorem dX7_gnaw_28 : decode cX7_gnaw 28 = .ok (.if_icmp .ge 17, 3) := by decide +kernel
theorem dX7_gnaw_31 : decode cX7_gnaw 31 = .ok (.aload_n 0, 1) := by decide +kernel
theorem dX7_gnaw_32 : decode cX7_gnaw 32 = .ok (.getfield 37, 3) := by decide +kernel
theorem dX7_gnaw_35 : decode cX7_gnaw 35 = .ok (.iload_n 3, 1) := by decide +kernel
theorem dX7_gnaw_36 : decode cX7_gnaw 36 = .ok (.bipush (-9), 2) := by decide +kernel
theorem dX7_gnaw_38 : decode cX7_gnaw 38 = .ok (.iastore, 1) := by decide +kernel
theorem dX7_gnaw_39 : decode cX7_gnaw 39 = .ok (.iinc 3 1, 3) := by decide +kernel
theorem dX7_gnaw_42 : decode cX7_gnaw 42 = .ok (.goto (-17), 3) := by decide +kernel
theorem dX7_gnaw_45 : decode cX7_gnaw 45 = .ok (.aload_n 0, 1) := by decide +kernel
theorem dX7_gnaw_46 : decode cX7_gnaw 46 = .ok (.getfield 37, 3) := by decide +kernel
theorem dX7_gnaw_49 : decode cX7_gnaw 49 = .ok (.iload_n 1, 1) := by decide +kernel
theorem dX7_gnaw_50 : decode cX7_gnaw 50 = .ok (.aload_n 0, 1) := by decide +kernel
theorem dX7_gnaw_51 : decode cX7_gnaw 51 = .ok (.iload_n 1, 1) := by decide +kernel
theorem dX7_gnaw_52 : decode cX7_gnaw 52 = .ok (.invokevirtual 197, 3) := by decide +kernel
theorem dX7_gnaw_55 : decode cX7_gnaw 55 = .ok (.iastore, 1) := by decide +kernel
theorem dX7_gnaw_56 : decode cX7_gnaw 56 = .ok (.aload_n 0, 1) := by decide +kernel
theorem dX7_gnaw_57 : decode cX7_gnaw 57 = .ok (.getfield 37, 3) := by decide +kernel
theorem dX7_gnaw_60 : decode cX7_gnaw 60 = .ok (.iload_n 1, 1) := by decide +kernel
theorem dX7_gnaw_61 : decode cX7_gnaw 61 = .ok (.iaload, 1) := by decide +kernel
theorem dX7_gnaw_62 : decode cX7_gnaw 62 = .ok (.bipush (-9), 2) := by decide +kernel
theorem dX7_gnaw_64 : decode cX7_gnaw 64 = .ok (.if_icmp .eq 7, 3) := by decide +kernel
theorem dX7_gnaw_67 : decode cX7_gnaw 67 = .ok (.iconst 1, 1) := by decide +kernel
theorem dX7_gnaw_68 : decode cX7_gnaw 68 = .ok (.goto 4, 3) := by decide +kernel
theorem dX7_gnaw_71 : decode cX7_gnaw 71 = .ok (.iconst 0, 1) := by decide +kernel
theorem dX7_gnaw_72 : decode cX7_gnaw 72 = .ok (.istore_n 3, 1) := by decide +kernel
theorem dX7_gnaw_73 : decode cX7_gnaw 73 = .ok (.iload_n 3, 1) := by decide +kernel
theorem dX7_gnaw_74 : decode cX7_gnaw 74 = .ok (.ifCond .eq 43, 3) := by decide +kernel
theorem dX7_gnaw_77 : decode cX7_gnaw 77 = .ok (.iconst 0, 1) := by decide +kernel
theorem dX7_gnaw_78 : decode cX7_gnaw 78 = .ok (.istore_n 3, 1) := by decide +kernel
theorem dX7_gnaw_79 : decode cX7_gnaw 79 = .ok (.iconst 0, 1) := by decide +kernel
theorem dX7_gnaw_80 : decode cX7_gnaw 80 = .ok (.istore 4, 2) := by decide +kernel
theorem dX7_gnaw_82 : decode cX7_gnaw 82 = .ok (.iload 4, 2) := by decide +kernel
theorem dX7_gnaw_84 : decode cX7_gnaw 84 = .ok (.bipush 20, 2) := by decide +kernel
theorem dX7_gnaw_86 : decode cX7_gnaw 86 = .ok (.if_icmp .ge 28, 3) := by decide +kernel
theorem dX7_gnaw_89 : decode cX7_gnaw 89 = .ok (.aload_n 0, 1) := by decide +kernel
theorem dX7_gnaw_90 : decode cX7_gnaw 90 = .ok (.iload 4, 2) := by decide +kernel
theorem dX7_gnaw_92 : decode cX7_gnaw 92 = .ok (.invokevirtual 200, 3) := by decide +kernel
theorem dX7_gnaw_95 : decode cX7_gnaw 95 = .ok (.ifCond .ne 7, 3) := by decide +kernel
theorem dX7_gnaw_98 : decode cX7_gnaw 98 = .ok (.iload_n 3, 1) := by decide +kernel
theorem dX7_gnaw_99 : decode cX7_gnaw 99 = .ok (.ifCond .eq 7, 3) := by decide +kernel
theorem dX7_gnaw_102 : decode cX7_gnaw 102 = .ok (.iconst 1, 1) := by decide +kernel
theorem dX7_gnaw_103 : decode cX7_gnaw 103 = .ok (.goto 4, 3) := by decide +kernel
theorem dX7_gnaw_106 : decode cX7_gnaw 106 = .ok (.iconst 0, 1) := by decide +kernel
theorem dX7_gnaw_107 : decode cX7_gnaw 107 = .ok (.istore_n 3, 1) := by decide +kernel
theorem dX7_gnaw_108 : decode cX7_gnaw 108 = .ok (.iinc 4 1, 3) := by decide +kernel
theorem dX7_gnaw_111 : decode cX7_gnaw 111 = .ok (.goto (-29), 3) := by decide +kernel
theorem dX7_gnaw_114 : decode cX7_gnaw 114 = .ok (.goto (-41), 3) := by decide +kernel
theorem dX7_gnaw_117 : decode cX7_gnaw 117 = .ok (.aload_n 0, 1) := by decide +kernel
theorem dX7_gnaw_118 : decode cX7_gnaw 118 = .ok (.getfield 37, 3) := by decide +kernel
theorem dX7_gnaw_121 : decode cX7_gnaw 121 = .ok (.iload_n 2, 1) := by decide +kernel
theorem dX7_gnaw_122 : decode cX7_gnaw 122 = .ok (.iaload, 1) := by decide +kernel
theorem dX7_gnaw_123 : decode cX7_gnaw 123 = .ok (.ireturn, 1) := by decide +kernel
theorem dX7_layTrial_0 : decode cX7_layTrial 0 = .ok (.iconst 0, 1) := by decide +kernel
theorem dX7_layTrial_1 : decode cX7_layTrial 1 = .ok (.istore_n 1, 1) := by decide +kernel
theorem dX7_layTrial_2 : decode cX7_layTrial 2 = .ok (.iload_n 1, 1) := by decide +kernel
theorem dX7_layTrial_3 : decode cX7_layTrial 3 = .ok (.bipush 35, 2) := by decide +kernel
theorem dX7_layTrial_5 : decode cX7_layTrial 5 = .ok (.if_icmp .ge 24, 3) := by decide +kernel
theorem dX7_layTrial_8 : decode cX7_layTrial 8 = .ok (.aload_n 0, 1) := by decide +kernel
theorem dX7_layTrial_9 : decode cX7_layTrial 9 = .ok (.getfield 19, 3) := by decide +kernel
theorem dX7_layTrial_12 : decode cX7_layTrial 12 = .ok (.bipush 35, 2) := by decide +kernel
theorem dX7_layTrial_14 : decode cX7_layTrial 14 = .ok (.iload_n 1, 1) := by decide +kernel
theorem dX7_layTrial_15 : decode cX7_layTrial 15 = .ok (.iadd, 1) := by decide +kernel
theorem dX7_layTrial_16 : decode cX7_layTrial 16 = .ok (.aload_n 0, 1) := by decide +kernel
theorem dX7_layTrial_17 : decode cX7_layTrial 17 = .ok (.getfield 19, 3) := by decide +kernel
theorem dX7_layTrial_20 : decode cX7_layTrial 20 = .ok (.iload_n 1, 1) := by decide +kernel
theorem dX7_layTrial_21 : decode cX7_layTrial 21 = .ok (.iaload, 1) := by decide +kernel
theorem dX7_layTrial_22 : decode cX7_layTrial 22 = .ok (.iastore, 1) := by decide +kernel
theorem dX7_layTrial_23 : decode cX7_layTrial 23 = .ok (.iinc 1 1, 3) := by decide +kernel
theorem dX7_layTrial_26 : decode cX7_layTrial 26 = .ok (.goto (-24), 3) := by decide +kernel
theorem dX7_layTrial_29 : decode cX7_layTrial 29 = .ok (.return_, 1) := by decide +kernel
theorem dX7_wedding_0 : decode cX7_wedding 0 = .ok (.aload_n 0, 1) := by decide +kernel
theorem dX7_wedding_1 : decode cX7_wedding 1 = .ok (.iload_n 1, 1) := by decide +kernel
theorem dX7_wedding_2 : decode cX7_wedding 2 = .ok (.invokevirtual 163, 3) := by decide +kernel
theorem dX7_wedding_5 : decode cX7_wedding 5 = .ok (.ifCond .eq 11, 3) := by decide +kernel
theorem dX7_wedding_8 : decode cX7_wedding 8 = .ok (.aload_n 0, 1) := by decide +kernel
theorem dX7_wedding_9 : decode cX7_wedding 9 = .ok (.iload_n 2, 1) := by decide +kernel
theorem dX7_wedding_10 : decode cX7_wedding 10 = .ok (.invokevirtual 163, 3) := by decide +kernel
theorem dX7_wedding_13 : decode cX7_wedding 13 = .ok (.ifCond .ne 5, 3) := by decide +kernel
theorem dX7_wedding_16 : decode cX7_wedding 16 = .ok (.iconst (-1), 1) := by decide +kernel
theorem dX7_wedding_17 : decode cX7_wedding 17 = .ok (.ireturn, 1) := by decide +kernel
theorem dX7_wedding_18 : decode cX7_wedding 18 = .ok (.iload_n 1, 1) := by decide +kernel
theorem dX7_wedding_19 : decode cX7_wedding 19 = .ok (.iload_n 2, 1) := by decide +kernel
theorem dX7_wedding_20 : decode cX7_wedding 20 = .ok (.if_icmp .ne 6, 3) := by decide +kernel
theorem dX7_wedding_23 : decode cX7_wedding 23 = .ok (.bipush (-2), 2) := by decide +kernel
theorem dX7_wedding_25 : decode cX7_wedding 25 = .ok (.ireturn, 1) := by decide +kernel
theorem dX7_wedding_26 : decode cX7_wedding 26 = .ok (.aload_n 0, 1) := by decide +kernel
theorem dX7_wedding_27 : decode cX7_wedding 27 = .ok (.invokevirtual 203, 3) := by decide +kernel
theorem dX7_wedding_30 : decode cX7_wedding 30 = .ok (.iconst 0, 1) := by decide +kernel
theorem dX7_wedding_31 : decode cX7_wedding 31 = .ok (.istore_n 3, 1) := by decide +kernel
theorem dX7_wedding_32 : decode cX7_wedding 32 = .ok (.iload_n 3, 1) := by decide +kernel
theorem dX7_wedding_33 : decode cX7_wedding 33 = .ok (.bipush 21, 2) := by decide +kernel
theorem dX7_wedding_35 : decode cX7_wedding 35 = .ok (.if_icmp .ge 45, 3) := by decide +kernel
theorem dX7_wedding_38 : decode cX7_wedding 38 = .ok (.aload_n 0, 1) := by decide +kernel
theorem dX7_wedding_39 : decode cX7_wedding 39 = .ok (.getfield 19, 3) := by decide +kernel
theorem dX7_wedding_42 : decode cX7_wedding 42 = .ok (.bipush 55, 2) := by decide +kernel
theorem dX7_wedding_44 : decode cX7_wedding 44 = .ok (.iload_n 1, 1) := by decide +kernel
theorem dX7_wedding_45 : decode cX7_wedding 45 = .ok (.iadd, 1) := by decide +kernel
theorem dX7_wedding_46 : decode cX7_wedding 46 = .ok (.iaload, 1) := by decide +kernel
theorem dX7_wedding_47 : decode cX7_wedding 47 = .ok (.bipush (-9), 2) := by decide +kernel
theorem dX7_wedding_49 : decode cX7_wedding 49 = .ok (.if_icmp .eq 17, 3) := by decide +kernel
theorem dX7_wedding_52 : decode cX7_wedding 52 = .ok (.aload_n 0, 1) := by decide +kernel
theorem dX7_wedding_53 : decode cX7_wedding 53 = .ok (.getfield 19, 3) := by decide +kernel
theorem dX7_wedding_56 : decode cX7_wedding 56 = .ok (.bipush 55, 2) := by decide +kernel
theorem dX7_wedding_58 : decode cX7_wedding 58 = .ok (.iload_n 2, 1) := by decide +kernel
theorem dX7_wedding_59 : decode cX7_wedding 59 = .ok (.iadd, 1) := by decide +kernel
theorem dX7_wedding_60 : decode cX7_wedding 60 = .ok (.iaload, 1) := by decide +kernel
theorem dX7_wedding_61 : decode cX7_wedding 61 = .ok (.bipush (-9), 2) := by decide +kernel
theorem dX7_wedding_63 : decode cX7_wedding 63 = .ok (.if_icmp .ne 5, 3) := by decide +kernel
theorem dX7_wedding_66 : decode cX7_wedding 66 = .ok (.iload_n 3, 1) := by decide +kernel
theorem dX7_wedding_67 : decode cX7_wedding 67 = .ok (.ireturn, 1) := by decide +kernel
theorem dX7_wedding_68 : decode cX7_wedding 68 = .ok (.aload_n 0, 1) := by decide +kernel
theorem dX7_wedding_69 : decode cX7_wedding 69 = .ok (.iconst 1, 1) := by decide +kernel
theorem dX7_wedding_70 : decode cX7_wedding 70 = .ok (.invokevirtual 175, 3) := by decide +kernel
theorem dX7_wedding_73 : decode cX7_wedding 73 = .ok (.pop, 1) := by decide +kernel
theorem dX7_wedding_74 : decode cX7_wedding 74 = .ok (.iinc 3 1, 3) := by decide +kernel
theorem dX7_wedding_77 : decode cX7_wedding 77 = .ok (.goto (-45), 3) := by decide +kernel
theorem dX7_wedding_80 : decode cX7_wedding 80 = .ok (.bipush (-9), 2) := by decide +kernel
theorem dX7_wedding_82 : decode cX7_wedding 82 = .ok (.ireturn, 1) := by decide +kernel
theorem dX7_ahead_0 : decode cX7_ahead 0 = .ok (.iload_n 1, 1) := by decide +kernel
theorem dX7_ahead_1 : decode cX7_ahead 1 = .ok (.i2l, 1) := by decide +kernel
theorem dX7_ahead_2 : decode cX7_ahead 2 = .ok (.lconst 0, 1) := by decide +kernel
theorem dX7_ahead_3 : decode cX7_ahead 3 = .ok (.ldc2_w 206, 3) := by decide +kernel
theorem dX7_ahead_6 : decode cX7_ahead 6 = .ok (.invokestatic 58, 3) := by decide +kernel
theorem dX7_ahead_9 : decode cX7_ahead 9 = .ok (.ifCond .eq 13, 3) := by decide +kernel
theorem dX7_ahead_12 : decode cX7_ahead 12 = .ok (.iload_n 2, 1) := by decide +kernel
theorem dX7_ahead_13 : decode cX7_ahead 13 = .ok (.i2l, 1) := by decide +kernel
theorem dX7_ahead_14 : decode cX7_ahead 14 = .ok (.lconst 0, 1) := by decide +kernel
theorem dX7_ahead_15 : decode cX7_ahead 15 = .ok (.lconst 1, 1) := by decide +kernel
theorem dX7_ahead_16 : decode cX7_ahead 16 = .ok (.invokestatic 58, 3) := by decide +kernel
theorem dX7_ahead_19 : decode cX7_ahead 19 = .ok (.ifCond .ne 6, 3) := by decide +kernel
theorem dX7_ahead_22 : decode cX7_ahead 22 = .ok (.bipush (-2), 2) := by decide +kernel
theorem dX7_ahead_24 : decode cX7_ahead 24 = .ok (.ireturn, 1) := by decide +kernel
theorem dX7_ahead_25 : decode cX7_ahead 25 = .ok (.aload_n 0, 1) := by decide +kernel
theorem dX7_ahead_26 : decode cX7_ahead 26 = .ok (.invokevirtual 203, 3) := by decide +kernel
theorem dX7_ahead_29 : decode cX7_ahead 29 = .ok (.iconst 0, 1) := by decide +kernel
theorem dX7_ahead_30 : decode cX7_ahead 30 = .ok (.istore_n 3, 1) := by decide +kernel
theorem dX7_ahead_31 : decode cX7_ahead 31 = .ok (.iload_n 3, 1) := by decide +kernel
theorem dX7_ahead_32 : decode cX7_ahead 32 = .ok (.iload_n 1, 1) := by decide +kernel
theorem dX7_ahead_33 : decode cX7_ahead 33 = .ok (.if_icmp .ge 15, 3) := by decide +kernel
theorem dX7_ahead_36 : decode cX7_ahead 36 = .ok (.aload_n 0, 1) := by decide +kernel
theorem dX7_ahead_37 : decode cX7_ahead 37 = .ok (.iconst 1, 1) := by decide +kernel
theorem dX7_ahead_38 : decode cX7_ahead 38 = .ok (.invokevirtual 175, 3) := by decide +kernel
theorem dX7_ahead_41 : decode cX7_ahead 41 = .ok (.pop, 1) := by decide +kernel
theorem dX7_ahead_42 : decode cX7_ahead 42 = .ok (.iinc 3 1, 3) := by decide +kernel
theorem dX7_ahead_45 : decode cX7_ahead 45 = .ok (.goto (-14), 3) := by decide +kernel
theorem dX7_ahead_48 : decode cX7_ahead 48 = .ok (.iload_n 2, 1) := by decide +kernel
theorem dX7_ahead_49 : decode cX7_ahead 49 = .ok (.ifCond .ne 11, 3) := by decide +kernel
theorem dX7_ahead_52 : decode cX7_ahead 52 = .ok (.aload_n 0, 1) := by decide +kernel
theorem dX7_ahead_53 : decode cX7_ahead 53 = .ok (.iconst 1, 1) := by decide +kernel
theorem dX7_ahead_54 : decode cX7_ahead 54 = .ok (.invokevirtual 208, 3) := by decide +kernel
theorem dX7_ahead_57 : decode cX7_ahead 57 = .ok (.goto 13, 3) := by decide +kernel
theorem dX7_ahead_60 : decode cX7_ahead 60 = .ok (.aload_n 0, 1) := by decide +kernel
theorem dX7_ahead_61 : decode cX7_ahead 61 = .ok (.iconst 1, 1) := by decide +kernel
theorem dX7_ahead_62 : decode cX7_ahead 62 = .ok (.bipush 7, 2) := by decide +kernel
theorem dX7_ahead_64 : decode cX7_ahead 64 = .ok (.invokevirtual 119, 3) := by decide +kernel
theorem dX7_ahead_67 : decode cX7_ahead 67 = .ok (.invokestatic 137, 3) := by decide +kernel
theorem dX7_ahead_70 : decode cX7_ahead 70 = .ok (.ireturn, 1) := by decide +kernel
theorem dX7_cut_0 : decode cX7_cut 0 = .ok (.aload_n 0, 1) := by decide +kernel
theorem dX7_cut_1 : decode cX7_cut 1 = .ok (.iload_n 1, 1) := by decide +kernel
theorem dX7_cut_2 : decode cX7_cut 2 = .ok (.invokevirtual 157, 3) := by decide +kernel
theorem dX7_cut_5 : decode cX7_cut 5 = .ok (.ifCond .eq 11, 3) := by decide +kernel
theorem dX7_cut_8 : decode cX7_cut 8 = .ok (.aload_n 0, 1) := by decide +kernel
theorem dX7_cut_9 : decode cX7_cut 9 = .ok (.iload_n 2, 1) := by decide +kernel
theorem dX7_cut_10 : decode cX7_cut 10 = .ok (.invokevirtual 157, 3) := by decide +kernel
theorem dX7_cut_13 : decode cX7_cut 13 = .ok (.ifCond .ne 5, 3) := by decide +kernel
theorem dX7_cut_16 : decode cX7_cut 16 = .ok (.iconst (-1), 1) := by decide +kernel
theorem dX7_cut_17 : decode cX7_cut 17 = .ok (.ireturn, 1) := by decide +kernel
theorem dX7_cut_18 : decode cX7_cut 18 = .ok (.iload_n 1, 1) := by decide +kernel
theorem dX7_cut_19 : decode cX7_cut 19 = .ok (.iload_n 2, 1) := by decide +kernel
theorem dX7_cut_20 : decode cX7_cut 20 = .ok (.if_icmp .eq 13, 3) := by decide +kernel
theorem dX7_cut_23 : decode cX7_cut 23 = .ok (.iload_n 3, 1) := by decide +kernel
theorem dX7_cut_24 : decode cX7_cut 24 = .ok (.i2l, 1) := by decide +kernel
theorem dX7_cut_25 : decode cX7_cut 25 = .ok (.lconst 0, 1) := by decide +kernel
theorem dX7_cut_26 : decode cX7_cut 26 = .ok (.lconst 1, 1) := by decide +kernel
theorem dX7_cut_27 : decode cX7_cut 27 = .ok (.invokestatic 58, 3) := by decide +kernel
theorem dX7_cut_30 : decode cX7_cut 30 = .ok (.ifCond .ne 6, 3) := by decide +kernel
theorem dX7_cut_33 : decode cX7_cut 33 = .ok (.bipush (-2), 2) := by decide +kernel
theorem dX7_cut_35 : decode cX7_cut 35 = .ok (.ireturn, 1) := by decide +kernel
theorem dX7_cut_36 : decode cX7_cut 36 = .ok (.iconst 0, 1) := by decide +kernel
theorem dX7_cut_37 : decode cX7_cut 37 = .ok (.istore 4, 2) := by decide +kernel
theorem dX7_cut_39 : decode cX7_cut 39 = .ok (.bipush (-9), 2) := by decide +kernel
theorem dX7_cut_41 : decode cX7_cut 41 = .ok (.istore 5, 2) := by decide +kernel
theorem dX7_cut_43 : decode cX7_cut 43 = .ok (.iconst 1, 1) := by decide +kernel
theorem dX7_cut_44 : decode cX7_cut 44 = .ok (.istore 6, 2) := by decide +kernel
theorem dX7_cut_46 : decode cX7_cut 46 = .ok (.iload 6, 2) := by decide +kernel
theorem dX7_cut_48 : decode cX7_cut 48 = .ok (.iconst 5, 1) := by decide +kernel
theorem dX7_cut_49 : decode cX7_cut 49 = .ok (.if_icmp .ge 94, 3) := by decide +kernel
theorem dX7_cut_52 : decode cX7_cut 52 = .ok (.iconst 0, 1) := by decide +kernel
theorem dX7_cut_53 : decode cX7_cut 53 = .ok (.istore 7, 2) := by decide +kernel
theorem dX7_cut_55 : decode cX7_cut 55 = .ok (.iconst 0, 1) := by decide +kernel
theorem dX7_cut_56 : decode cX7_cut 56 = .ok (.istore 8, 2) := by decide +kernel
theorem dX7_cut_58 : decode cX7_cut 58 = .ok (.iload 8, 2) := by decide +kernel
theorem dX7_cut_60 : decode cX7_cut 60 = .ok (.bipush 20, 2) := by decide +kernel
theorem dX7_cut_62 : decode cX7_cut 62 = .ok (.if_icmp .ge 43, 3) := by decide +kernel
theorem dX7_cut_65 : decode cX7_cut 65 = .ok (.iload 7, 2) := by decide +kernel
theorem dX7_cut_67 : decode cX7_cut 67 = .ok (.aload_n 0, 1) := by decide +kernel
theorem dX7_cut_68 : decode cX7_cut 68 = .ok (.iconst 0, 1) := by decide +kernel
theorem dX7_cut_69 : decode cX7_cut 69 = .ok (.iload 8, 2) := by decide +kernel
theorem dX7_cut_71 : decode cX7_cut 71 = .ok (.invokevirtual 154, 3) := by decide +kernel
theorem dX7_cut_74 : decode cX7_cut 74 = .ok (.iload 8, 2) := by decide +kernel
theorem dX7_cut_76 : decode cX7_cut 76 = .ok (.iconst 5, 1) := by decide +kernel
theorem dX7_cut_77 : decode cX7_cut 77 = .ok (.irem, 1) := by decide +kernel
theorem dX7_cut_78 : decode cX7_cut 78 = .ok (.iload 6, 2) := by decide +kernel
theorem dX7_cut_80 : decode cX7_cut 80 = .ok (.if_icmp .ge 7, 3) := by decide +kernel
theorem dX7_cut_83 : decode cX7_cut 83 = .ok (.iload_n 1, 1) := by decide +kernel
theorem dX7_cut_84 : decode cX7_cut 84 = .ok (.goto 4, 3) := by decide +kernel
theorem dX7_cut_87 : decode cX7_cut 87 = .ok (.iload_n 2, 1) := by decide +kernel
theorem dX7_cut_88 : decode cX7_cut 88 = .ok (.if_icmp .ne 7, 3) := by decide +kernel
theorem dX7_cut_91 : decode cX7_cut 91 = .ok (.iconst 1, 1) := by decide +kernel
theorem dX7_cut_92 : decode cX7_cut 92 = .ok (.goto 4, 3) := by decide +kernel
theorem dX7_cut_95 : decode cX7_cut 95 = .ok (.iconst 0, 1) := by decide +kernel
theorem dX7_cut_96 : decode cX7_cut 96 = .ok (.iadd, 1) := by decide +kernel
theorem dX7_cut_97 : decode cX7_cut 97 = .ok (.istore 7, 2) := by decide +kernel
theorem dX7_cut_99 : decode cX7_cut 99 = .ok (.iinc 8 1, 3) := by decide +kernel
theorem dX7_cut_102 : decode cX7_cut 102 = .ok (.goto (-44), 3) := by decide +kernel
theorem dX7_cut_105 : decode cX7_cut 105 = .ok (.iload 7, 2) := by decide +kernel
theorem dX7_cut_107 : decode cX7_cut 107 = .ok (.iload 5, 2) := by decide +kernel
theorem dX7_cut_109 : decode cX7_cut 109 = .ok (.if_icmp .le 8, 3) := by decide +kernel
theorem dX7_cut_112 : decode cX7_cut 112 = .ok (.iload 6, 2) := by decide +kernel
theorem dX7_cut_114 : decode cX7_cut 114 = .ok (.goto 5, 3) := by decide +kernel
theorem dX7_cut_117 : decode cX7_cut 117 = .ok (.iload 4, 2) := by decide +kernel
theorem dX7_cut_119 : decode cX7_cut 119 = .ok (.istore 4, 2) := by decide +kernel
theorem dX7_cut_121 : decode cX7_cut 121 = .ok (.iload 7, 2) := by decide +kernel
theorem dX7_cut_123 : decode cX7_cut 123 = .ok (.iload 5, 2) := by decide +kernel
theorem dX7_cut_125 : decode cX7_cut 125 = .ok (.if_icmp .le 8, 3) := by decide +kernel
theorem dX7_cut_128 : decode cX7_cut 128 = .ok (.iload 7, 2) := by decide +kernel
theorem dX7_cut_130 : decode cX7_cut 130 = .ok (.goto 5, 3) := by decide +kernel
theorem dX7_cut_133 : decode cX7_cut 133 = .ok (.iload 5, 2) := by decide +kernel
theorem dX7_cut_135 : decode cX7_cut 135 = .ok (.istore 5, 2) := by decide +kernel
theorem dX7_cut_137 : decode cX7_cut 137 = .ok (.iinc 6 1, 3) := by decide +kernel
theorem dX7_cut_140 : decode cX7_cut 140 = .ok (.goto (-94), 3) := by decide +kernel
theorem dX7_cut_143 : decode cX7_cut 143 = .ok (.iload_n 3, 1) := by decide +kernel
theorem dX7_cut_144 : decode cX7_cut 144 = .ok (.ifCond .ne 8, 3) := by decide +kernel
theorem dX7_cut_147 : decode cX7_cut 147 = .ok (.iload 4, 2) := by decide +kernel
theorem dX7_cut_149 : decode cX7_cut 149 = .ok (.goto 5, 3) := by decide +kernel
theorem dX7_cut_152 : decode cX7_cut 152 = .ok (.iload 5, 2) := by decide +kernel
theorem dX7_cut_154 : decode cX7_cut 154 = .ok (.ireturn, 1) := by decide +kernel
theorem dX7_tryThing_0 : decode cX7_tryThing 0 = .ok (.iload_n 1, 1) := by decide +kernel
theorem dX7_tryThing_1 : decode cX7_tryThing 1 = .ok (.tableswitch 156 0 3 #[31, 51, 76, 117], 31) := by decide +kernel
theorem dX7_tryThing_32 : decode cX7_tryThing 32 = .ok (.aload_n 0, 1) := by decide +kernel
theorem dX7_tryThing_33 : decode cX7_tryThing 33 = .ok (.iconst 1, 1) := by decide +kernel
theorem dX7_tryThing_34 : decode cX7_tryThing 34 = .ok (.invokevirtual 175, 3) := by decide +kernel
theorem dX7_tryThing_37 : decode cX7_tryThing 37 = .ok (.pop, 1) := by decide +kernel
theorem dX7_tryThing_38 : decode cX7_tryThing 38 = .ok (.iload_n 2, 1) := by decide +kernel
theorem dX7_tryThing_39 : decode cX7_tryThing 39 = .ok (.ifCond .ne 11, 3) := by decide +kernel
theorem dX7_tryThing_42 : decode cX7_tryThing 42 = .ok (.iload_n 3, 1) := by decide +kernel
theorem dX7_tryThing_43 : decode cX7_tryThing 43 = .ok (.ifCond .ne 7, 3) := by decide +kernel
theorem dX7_tryThing_46 : decode cX7_tryThing 46 = .ok (.iconst 1, 1) := by decide +kernel
theorem dX7_tryThing_47 : decode cX7_tryThing 47 = .ok (.goto 4, 3) := by decide +kernel
theorem dX7_tryThing_50 : decode cX7_tryThing 50 = .ok (.iconst 0, 1) := by decide +kernel
theorem dX7_tryThing_51 : decode cX7_tryThing 51 = .ok (.ireturn, 1) := by decide +kernel
theorem dX7_tryThing_52 : decode cX7_tryThing 52 = .ok (.aload_n 0, 1) := by decide +kernel
theorem dX7_tryThing_53 : decode cX7_tryThing 53 = .ok (.iconst 1, 1) := by decide +kernel
theorem dX7_tryThing_54 : decode cX7_tryThing 54 = .ok (.iload_n 2, 1) := by decide +kernel
theorem dX7_tryThing_55 : decode cX7_tryThing 55 = .ok (.iload_n 3, 1) := by decide +kernel
theorem dX7_tryThing_56 : decode cX7_tryThing 56 = .ok (.invokevirtual 178, 3) := by decide +kernel
theorem dX7_tryThing_59 : decode cX7_tryThing 59 = .ok (.istore 4, 2) := by decide +kernel
theorem dX7_tryThing_61 : decode cX7_tryThing 61 = .ok (.iload 4, 2) := by decide +kernel
theorem dX7_tryThing_63 : decode cX7_tryThing 63 = .ok (.ifCond .eq 11, 3) := by decide +kernel
theorem dX7_tryThing_66 : decode cX7_tryThing 66 = .ok (.aload_n 0, 1) := by decide +kernel
theorem dX7_tryThing_67 : decode cX7_tryThing 67 = .ok (.iconst 1, 1) := by decide +kernel
theorem dX7_tryThing_68 : decode cX7_tryThing 68 = .ok (.iload_n 2, 1) := by decide +kernel
theorem dX7_tryThing_69 : decode cX7_tryThing 69 = .ok (.iload_n 3, 1) := by decide +kernel
theorem dX7_tryThing_70 : decode cX7_tryThing 70 = .ok (.invokevirtual 182, 3) := by decide +kernel
theorem dX7_tryThing_73 : decode cX7_tryThing 73 = .ok (.pop, 1) := by decide +kernel
theorem dX7_tryThing_74 : decode cX7_tryThing 74 = .ok (.iload 4, 2) := by decide +kernel
theorem dX7_tryThing_76 : decode cX7_tryThing 76 = .ok (.ireturn, 1) := by decide +kernel
theorem dX7_tryThing_77 : decode cX7_tryThing 77 = .ok (.iload_n 3, 1) := by decide +kernel
theorem dX7_tryThing_78 : decode cX7_tryThing 78 = .ok (.bipush 10, 2) := by decide +kernel
theorem dX7_tryThing_80 : decode cX7_tryThing 80 = .ok (.if_icmp .ge 17, 3) := by decide +kernel
theorem dX7_tryThing_83 : decode cX7_tryThing 83 = .ok (.aload_n 0, 1) := by decide +kernel
theorem dX7_tryThing_84 : decode cX7_tryThing 84 = .ok (.iconst 1, 1) := by decide +kernel
theorem dX7_tryThing_85 : decode cX7_tryThing 85 = .ok (.iload_n 2, 1) := by decide +kernel
theorem dX7_tryThing_86 : decode cX7_tryThing 86 = .ok (.iload_n 3, 1) := by decide +kernel
theorem dX7_tryThing_87 : decode cX7_tryThing 87 = .ok (.invokevirtual 185, 3) := by decide +kernel
theorem dX7_tryThing_90 : decode cX7_tryThing 90 = .ok (.ifCond .eq 7, 3) := by decide +kernel
theorem dX7_tryThing_93 : decode cX7_tryThing 93 = .ok (.iconst 1, 1) := by decide +kernel
theorem dX7_tryThing_94 : decode cX7_tryThing 94 = .ok (.goto 4, 3) := by decide +kernel
theorem dX7_tryThing_97 : decode cX7_tryThing 97 = .ok (.iconst 0, 1) := by decide +kernel
theorem dX7_tryThing_98 : decode cX7_tryThing 98 = .ok (.istore 5, 2) := by decide +kernel
theorem dX7_tryThing_100 : decode cX7_tryThing 100 = .ok (.iload 5, 2) := by decide +kernel
theorem dX7_tryThing_102 : decode cX7_tryThing 102 = .ok (.ifCond .eq 13, 3) := by decide +kernel
theorem dX7_tryThing_105 : decode cX7_tryThing 105 = .ok (.aload_n 0, 1) := by decide +kernel
theorem dX7_tryThing_106 : decode cX7_tryThing 106 = .ok (.getfield 19, 3) := by decide +kernel
theorem dX7_tryThing_109 : decode cX7_tryThing 109 = .ok (.bipush 60, 2) := by decide +kernel
theorem dX7_tryThing_111 : decode cX7_tryThing 111 = .ok (.iload_n 2, 1) := by decide +kernel
theorem dX7_tryThing_112 : decode cX7_tryThing 112 = .ok (.iadd, 1) := by decide +kernel
theorem dX7_tryThing_113 : decode cX7_tryThing 113 = .ok (.iload_n 3, 1) := by decide +kernel
theorem dX7_tryThing_114 : decode cX7_tryThing 114 = .ok (.iastore, 1) := by decide +kernel
theorem dX7_tryThing_115 : decode cX7_tryThing 115 = .ok (.iload 5, 2) := by decide +kernel
theorem dX7_tryThing_117 : decode cX7_tryThing 117 = .ok (.ireturn, 1) := by decide +kernel
theorem dX7_tryThing_118 : decode cX7_tryThing 118 = .ok (.iload_n 3, 1) := by decide +kernel
theorem dX7_tryThing_119 : decode cX7_tryThing 119 = .ok (.bipush 10, 2) := by decide +kernel
theorem dX7_tryThing_121 : decode cX7_tryThing 121 = .ok (.if_icmp .ge 17, 3) := by decide +kernel
theorem dX7_tryThing_124 : decode cX7_tryThing 124 = .ok (.aload_n 0, 1) := by decide +kernel
theorem dX7_tryThing_125 : decode cX7_tryThing 125 = .ok (.iconst 1, 1) := by decide +kernel
theorem dX7_tryThing_126 : decode cX7_tryThing 126 = .ok (.iload_n 2, 1) := by decide +kernel
theorem dX7_tryThing_127 : decode cX7_tryThing 127 = .ok (.iload_n 3, 1) := by decide +kernel
theorem dX7_tryThing_128 : decode cX7_tryThing 128 = .ok (.invokevirtual 188, 3) := by decide +kernel
theorem dX7_tryThing_131 : decode cX7_tryThing 131 = .ok (.ifCond .eq 7, 3) := by decide +kernel
theorem dX7_tryThing_134 : decode cX7_tryThing 134 = .ok (.iconst 1, 1) := by decide +kernel
theorem dX7_tryThing_135 : decode cX7_tryThing 135 = .ok (.goto 4, 3) := by decide +kernel
theorem dX7_tryThing_138 : decode cX7_tryThing 138 = .ok (.iconst 0, 1) := by decide +kernel
theorem dX7_tryThing_139 : decode cX7_tryThing 139 = .ok (.istore 6, 2) := by decide +kernel
theorem dX7_tryThing_141 : decode cX7_tryThing 141 = .ok (.iload 6, 2) := by decide +kernel
theorem dX7_tryThing_143 : decode cX7_tryThing 143 = .ok (.ifCond .eq 11, 3) := by decide +kernel
theorem dX7_tryThing_146 : decode cX7_tryThing 146 = .ok (.aload_n 0, 1) := by decide +kernel
theorem dX7_tryThing_147 : decode cX7_tryThing 147 = .ok (.iconst 1, 1) := by decide +kernel
theorem dX7_tryThing_148 : decode cX7_tryThing 148 = .ok (.iload_n 2, 1) := by decide +kernel
theorem dX7_tryThing_149 : decode cX7_tryThing 149 = .ok (.iload_n 3, 1) := by decide +kernel
theorem dX7_tryThing_150 : decode cX7_tryThing 150 = .ok (.invokevirtual 191, 3) := by decide +kernel
theorem dX7_tryThing_153 : decode cX7_tryThing 153 = .ok (.pop, 1) := by decide +kernel
theorem dX7_tryThing_154 : decode cX7_tryThing 154 = .ok (.iload 6, 2) := by decide +kernel
theorem dX7_tryThing_156 : decode cX7_tryThing 156 = .ok (.ireturn, 1) := by decide +kernel
theorem dX7_tryThing_157 : decode cX7_tryThing 157 = .ok (.iconst 0, 1) := by decide +kernel
theorem dX7_tryThing_158 : decode cX7_tryThing 158 = .ok (.ireturn, 1) := by decide +kernel
theorem dX7_power_0 : decode cX7_power 0 = .ok (.lconst 1, 1) := by decide +kernel
theorem dX7_power_1 : decode cX7_power 1 = .ok (.lstore_n 3, 1) := by decide +kernel
theorem dX7_power_2 : decode cX7_power 2 = .ok (.iconst 0, 1) := by decide +kernel
theorem dX7_power_3 : decode cX7_power 3 = .ok (.istore 5, 2) := by decide +kernel
theorem dX7_power_5 : decode cX7_power 5 = .ok (.iload 5, 2) := by decide +kernel
theorem dX7_power_7 : decode cX7_power 7 = .ok (.iload_n 2, 1) := by decide +kernel
theorem dX7_power_8 : decode cX7_power 8 = .ok (.if_icmp .ge 13, 3) := by decide +kernel
theorem dX7_power_11 : decode cX7_power 11 = .ok (.lload_n 3, 1) := by decide +kernel
theorem dX7_power_12 : decode cX7_power 12 = .ok (.lload_n 0, 1) := by decide +kernel
theorem dX7_power_13 : decode cX7_power 13 = .ok (.lmul, 1) := by decide +kernel
theorem dX7_power_14 : decode cX7_power 14 = .ok (.lstore_n 3, 1) := by decide +kernel
theorem dX7_power_15 : decode cX7_power 15 = .ok (.iinc 5 1, 3) := by decide +kernel
theorem dX7_power_18 : decode cX7_power 18 = .ok (.goto (-13), 3) := by decide +kernel
theorem dX7_power_21 : decode cX7_power 21 = .ok (.lload_n 3, 1) := by decide +kernel
theorem dX7_power_22 : decode cX7_power 22 = .ok (.lreturn, 1) := by decide +kernel
theorem dX7_judge_0 : decode cX7_judge 0 = .ok (.iload_n 1, 1) := by decide +kernel
theorem dX7_judge_1 : decode cX7_judge 1 = .ok (.i2l, 1) := by decide +kernel
theorem dX7_judge_2 : decode cX7_judge 2 = .ok (.lconst 1, 1) := by decide +kernel
theorem dX7_judge_3 : decode cX7_judge 3 = .ok (.ldc2_w 211, 3) := by decide +kernel
theorem dX7_judge_6 : decode cX7_judge 6 = .ok (.invokestatic 58, 3) := by decide +kernel
theorem dX7_judge_9 : decode cX7_judge 9 = .ok (.ifCond .eq 20, 3) := by decide +kernel
theorem dX7_judge_12 : decode cX7_judge 12 = .ok (.lload_n 2, 1) := by decide +kernel
theorem dX7_judge_13 : decode cX7_judge 13 = .ok (.lconst 0, 1) := by decide +kernel
theorem dX7_judge_14 : decode cX7_judge 14 = .ok (.ldc2_w 213, 3) := by decide +kernel
theorem dX7_judge_17 : decode cX7_judge 17 = .ok (.iload_n 1, 1) := by decide +kernel
theorem dX7_judge_18 : decode cX7_judge 18 = .ok (.invokestatic 215, 3) := by decide +kernel
theorem dX7_judge_21 : decode cX7_judge 21 = .ok (.lconst 1, 1) := by decide +kernel
theorem dX7_judge_22 : decode cX7_judge 22 = .ok (.lsub, 1) := by decide +kernel
theorem dX7_judge_23 : decode cX7_judge 23 = .ok (.invokestatic 58, 3) := by decide +kernel
theorem dX7_judge_26 : decode cX7_judge 26 = .ok (.ifCond .ne 6, 3) := by decide +kernel
theorem dX7_judge_29 : decode cX7_judge 29 = .ok (.bipush (-2), 2) := by decide +kernel
theorem dX7_judge_31 : decode cX7_judge 31 = .ok (.ireturn, 1) := by decide +kernel
theorem dX7_judge_32 : decode cX7_judge 32 = .ok (.aload_n 0, 1) := by decide +kernel
theorem dX7_judge_33 : decode cX7_judge 33 = .ok (.invokevirtual 203, 3) := by decide +kernel
theorem dX7_judge_36 : decode cX7_judge 36 = .ok (.iconst 0, 1) := by decide +kernel
theorem dX7_judge_37 : decode cX7_judge 37 = .ok (.istore 4, 2) := by decide +kernel
theorem dX7_judge_39 : decode cX7_judge 39 = .ok (.iload 4, 2) := by decide +kernel
theorem dX7_judge_41 : decode cX7_judge 41 = .ok (.iload_n 1, 1) := by decide +kernel
theorem dX7_judge_42 : decode cX7_judge 42 = .ok (.if_icmp .ge 59, 3) := by decide +kernel
theorem dX7_judge_45 : decode cX7_judge 45 = .ok (.lload_n 2, 1) := by decide +kernel
theorem dX7_judge_46 : decode cX7_judge 46 = .ok (.ldc2_w 213, 3) := by decide +kernel
theorem dX7_judge_49 : decode cX7_judge 49 = .ok (.iload_n 1, 1) := by decide +kernel
theorem dX7_judge_50 : decode cX7_judge 50 = .ok (.iconst 1, 1) := by decide +kernel
theorem dX7_judge_51 : decode cX7_judge 51 = .ok (.isub, 1) := by decide +kernel
theorem dX7_judge_52 : decode cX7_judge 52 = .ok (.iload 4, 2) := by decide +kernel
theorem dX7_judge_54 : decode cX7_judge 54 = .ok (.isub, 1) := by decide +kernel
theorem dX7_judge_55 : decode cX7_judge 55 = .ok (.invokestatic 215, 3) := by decide +kernel
theorem dX7_judge_58 : decode cX7_judge 58 = .ok (.ldiv, 1) := by decide +kernel
theorem dX7_judge_59 : decode cX7_judge 59 = .ok (.ldc2_w 213, 3) := by decide +kernel
theorem dX7_judge_62 : decode cX7_judge 62 = .ok (.lrem, 1) := by decide +kernel
theorem dX7_judge_63 : decode cX7_judge 63 = .ok (.l2i, 1) := by decide +kernel
theorem dX7_judge_64 : decode cX7_judge 64 = .ok (.istore 5, 2) := by decide +kernel
theorem dX7_judge_66 : decode cX7_judge 66 = .ok (.aload_n 0, 1) := by decide +kernel
theorem dX7_judge_67 : decode cX7_judge 67 = .ok (.iload 5, 2) := by decide +kernel
theorem dX7_judge_69 : decode cX7_judge 69 = .ok (.sipush 1000, 3) := by decide +kernel
theorem dX7_judge_72 : decode cX7_judge 72 = .ok (.idiv, 1) := by decide +kernel
theorem dX7_judge_73 : decode cX7_judge 73 = .ok (.iload 5, 2) := by decide +kernel
theorem dX7_judge_75 : decode cX7_judge 75 = .ok (.bipush 100, 2) := by decide +kernel
theorem dX7_judge_77 : decode cX7_judge 77 = .ok (.idiv, 1) := by decide +kernel
theorem dX7_judge_78 : decode cX7_judge 78 = .ok (.bipush 10, 2) := by decide +kernel
theorem dX7_judge_80 : decode cX7_judge 80 = .ok (.irem, 1) := by decide +kernel
theorem dX7_judge_81 : decode cX7_judge 81 = .ok (.iload 5, 2) := by decide +kernel
theorem dX7_judge_83 : decode cX7_judge 83 = .ok (.bipush 100, 2) := by decide +kernel
theorem dX7_judge_85 : decode cX7_judge 85 = .ok (.irem, 1) := by decide +kernel
theorem dX7_judge_86 : decode cX7_judge 86 = .ok (.invokevirtual 219, 3) := by decide +kernel
theorem dX7_judge_89 : decode cX7_judge 89 = .ok (.ifCond .ne 6, 3) := by decide +kernel
theorem dX7_judge_92 : decode cX7_judge 92 = .ok (.iload 4, 2) := by decide +kernel
theorem dX7_judge_94 : decode cX7_judge 94 = .ok (.ireturn, 1) := by decide +kernel
theorem dX7_judge_95 : decode cX7_judge 95 = .ok (.iinc 4 1, 3) := by decide +kernel
theorem dX7_judge_98 : decode cX7_judge 98 = .ok (.goto (-59), 3) := by decide +kernel
theorem dX7_judge_101 : decode cX7_judge 101 = .ok (.bipush (-9), 2) := by decide +kernel
theorem dX7_judge_103 : decode cX7_judge 103 = .ok (.ireturn, 1) := by decide +kernel
def B_X7_ease_108 (G4 : (Int32 × Int32 × Int32 × CS) → Prop)  (x1 : Int32) (x2 : Int32) (x3 : Int32) (s0 : CS) (Q : Int32 → CS → Prop) : Prop := ∀ x3_1 : Int32, x3_1 = x3 + (1 : Int32) → G4 (x1, x2, x3_1, s0)
def B_X7_ease_88 (G4 : (Int32 × Int32 × Int32 × CS) → Prop)  (x1 : Int32) (x3 : Int32) (s0 : CS) (Q : Int32 → CS → Prop) : Prop := vp_in x1 20 ∧ wp_X7_costOf x3 s0 (fun r_3 => vp_in x3 20 ∧ ∀ s0_5 : CS, s0_5 = sA s0 20 x3.toNatClampNeg (((s0.2.1 20) x1.toNatClampNeg) + r_3) → B_X7_ease_108 G4  x1 (1 : Int32) x3 s0_5 Q)
def B_X7_ease_49 (G4 : (Int32 × Int32 × Int32 × CS) → Prop)  (x1 : Int32) (x2 : Int32) (x3 : Int32) (t0 : Int32) (s0 : CS) (Q : Int32 → CS → Prop) : Prop := ((t0 = 0 → B_X7_ease_108 G4  x1 x2 x3 s0 Q) ∧ (¬ t0 = 0 → vp_in x3 20 ∧ ((((s0.2.1 20) x3.toNatClampNeg) = (-9 : Int32) → B_X7_ease_88 G4  x1 x3 s0 Q) ∧ (¬ ((s0.2.1 20) x3.toNatClampNeg) = (-9 : Int32) → vp_in x1 20 ∧ wp_X7_costOf x3 s0 (fun r_10 => vp_in x3 20 ∧ ((((s0.2.1 20) x3.toNatClampNeg) ≤ (((s0.2.1 20) x1.toNatClampNeg) + r_10) → B_X7_ease_108 G4  x1 x2 x3 s0 Q) ∧ (¬ ((s0.2.1 20) x3.toNatClampNeg) ≤ (((s0.2.1 20) x1.toNatClampNeg) + r_10) → B_X7_ease_88 G4  x1 x3 s0 Q)))))))
def B_X7_ease_48 (G4 : (Int32 × Int32 × Int32 × CS) → Prop)  (x1 : Int32) (x2 : Int32) (x3 : Int32) (s0 : CS) (Q : Int32 → CS → Prop) : Prop := B_X7_ease_49 G4  x1 x2 x3 (0 : Int32) s0 Q
def LB_X7_ease_4 (G4 : (Int32 × Int32 × Int32 × CS) → Prop)  (x1 : Int32) (x2 : Int32) (x3 : Int32) (s0 : CS) (Q : Int32 → CS → Prop) : Prop := (((20 : Int32) ≤ x3 → narrow .boolean (.int x2) = .int x2 ∧ Q x2 s0) ∧ (¬ (20 : Int32) ≤ x3 → vp_in x1 20 ∧ ((((s0.2.1 20) x1.toNatClampNeg) = (-9 : Int32) → B_X7_ease_48 G4  x1 x2 x3 s0 Q) ∧ (¬ ((s0.2.1 20) x1.toNatClampNeg) = (-9 : Int32) → wp_X7_beside ((1 : Int32) <<< (x1 &&& 31)) (fun r_16 => wp_X7_has r_16 x3 (fun r_17 => ((r_17 = 0 → B_X7_ease_48 G4  x1 x2 x3 s0 Q) ∧ (¬ r_17 = 0 → wp_X7_costOf x3 s0 (fun r_19 => ((r_19 = (-9 : Int32) → B_X7_ease_48 G4  x1 x2 x3 s0 Q) ∧ (¬ r_19 = (-9 : Int32) → B_X7_ease_49 G4  x1 x2 x3 (1 : Int32) s0 Q)))))))))))
def B_X7_ease_4  (x1 : Int32) (x2 : Int32) (x3 : Int32) (s0 : CS) (Q : Int32 → CS → Prop) : Prop := LOOP (fun (G4 : (Int32 × Int32 × Int32 × CS) → Prop) z => LB_X7_ease_4 G4  z.1 z.2.1 z.2.2.1 z.2.2.2 Q) (x1, x2, x3, s0)
def wp_X7_ease (p0 : Int32) (s0 : CS) (Q : Int32 → CS → Prop) : Prop := B_X7_ease_4  p0 (0 : Int32) (0 : Int32) s0 Q
set_option maxHeartbeats 4000000 in
set_option maxRecDepth 100000 in
theorem c_X7_ease (l : Launch) (D : va_G) (cI cZ cW : ClassId) (q0 : Nat → Nat) (sz : Nat) (p0 : Int32) (s0 : CS) (Q : Int32 → CS → Prop) (hf : wp_X7_ease p0 s0 Q) : Met l yX7_ease (wsA yX7_ease cX7_ease 5 (some .boolean)) ({ frames := 2, cells := 0, slots := 0, locals := 43 }) (PW D cI cZ cW [.ref (q0 0), .int p0] (wM cI cZ q0 s0) sz) (va_Qi (fun (r : Int32) (u : CS) => Q r u) (fun u t => va_P D classes (wM cI cZ q0 u) t.heap) (va_A (wM cI cZ q0 s0) sz)) 0 0 (va_A (wM cI cZ q0 s0) sz) := by
  refine Met.ofW (cc := cX7_ease) (maxL := 5) (ret := (some .boolean)) (by decide) rfl ?_
  intro p e s m args below meth c s₁ B hml hv
  obtain ⟨rfl, hsz, hP, hK, hD0⟩ := hv
  have hx := B.exec
  have hb := B.bytes
  have hr := B.returns
  have hts := atoms_spec (ws := (wsA yX7_ease cX7_ease 5 (some .boolean))) B.pre
  have ht : ∀ w ∈ lw_g, w.before _ s = true := fun w h => hts w (List.mem_cons_of_mem _ h)
  have hown : s.vm.findClass RX7 = some m.cls := findClass_of_methodNamed B.named
  have hlocks := B.notSynchronized
  subst hsz
  have hD := hD0.self (sz := s.heap.size)
  generalize hAe : va_A (wM cI cZ q0 s0) s.heap.size = A at hD ⊢
  have hA : ∀ q : Nat, s.heap.size ≤ q → A q := fun q h => by rw [← hAe]; exact Or.inr h
  have hS : va_S A s.heap s.heap [] := va_S.rf
  have hDk : ∀ w : CS, va_D A (wM cI cZ q0 w) := fun w => D_M hD
  have hl := lv_entry ([.ref (q0 0), .int p0]) (n := 5) (Nat.le_of_ble_eq_true rfl)
  rw [lg_entry_eq]
  generalize (lg_sl ([.ref (q0 0), .int p0]) ++ List.replicate (5 - (lg_sl ([.ref (q0 0), .int p0])).length) Slot.unset).toArray = ls at hl ⊢
  have hl : lv_has ls 5 [(0, .ref (q0 0)), (1, .int p0)] := hl
  unfold wp_X7_ease at hf
  have k_4 : ∀ (x1 : Int32) (x2 : Int32) (x3 : Int32) (s0 : CS) (H : Heap) (locs : List Loc) (ls : Array Slot), B_X7_ease_4  x1 x2 x3 s0 Q → va_P D classes (wM cI cZ q0 s0) H → va_D A (wM cI cZ q0 s0) → va_S A s.heap H locs → lv_has ls 5 [(0, .ref (q0 0)), (1, .int x1), (2, .int x2), (3, .int x3)] → W p l e (headSpec (wsA yX7_ease cX7_ease 5 (some .boolean)) ({ frames := 2, cells := 0, slots := 0, locals := 43 })).room s m (#[.ref (q0 0), .int p0] : Array Value) below meth c H locs 0 0 (MQ below (va_Qi (fun (r : Int32) (u : CS) => Q r u) (fun u t => va_P D classes (wM cI cZ q0 u) t.heap) A) (#[.ref (q0 0), .int p0] : Array Value) s 0 0 A) (F0 m 4 ls []) := by
    intro x1 x2 x3 s0 H locs ls hf hP hD hS hl
    unfold B_X7_ease_4 at hf
    obtain ⟨I_4, ⟨n0_4, hI0_4⟩, hst_4⟩ := hf
    have main_4 : ∀ (n : Nat) (x1 : Int32) (x2 : Int32) (x3 : Int32) (s0 : CS) (H : Heap) (locs : List Loc) (ls : Array Slot), I_4 n (x1, x2, x3, s0) → va_P D classes (wM cI cZ q0 s0) H → va_D A (wM cI cZ q0 s0) → va_S A s.heap H locs → lv_has ls 5 [(0, .ref (q0 0)), (1, .int x1), (2, .int x2), (3, .int x3)] → W p l e (headSpec (wsA yX7_ease cX7_ease 5 (some .boolean)) ({ frames := 2, cells := 0, slots := 0, locals := 43 })).room s m (#[.ref (q0 0), .int p0] : Array Value) below meth c H locs 0 0 (MQ below (va_Qi (fun (r : Int32) (u : CS) => Q r u) (fun u t => va_P D classes (wM cI cZ q0 u) t.heap) A) (#[.ref (q0 0), .int p0] : Array Value) s 0 0 A) (F0 m 4 ls []) := by
      intro n
      induction n using Nat.strongRecOn with
      | _ n_4 ih_4 =>
      intro x1 x2 x3 s0 H locs ls hI hP hD hS hl
      have hf : LB_X7_ease_4 (fun z => ∃ k, k < n_4 ∧ I_4 k z)  x1 x2 x3 s0 Q := hst_4 n_4 (x1, x2, x3, s0) hI
      have hG_4 : ∀ (x1 : Int32) (x2 : Int32) (x3 : Int32) (s0 : CS) (H : Heap) (locs : List Loc) (ls : Array Slot), (∃ k, k < n_4 ∧ I_4 k (x1, x2, x3, s0)) → va_P D classes (wM cI cZ q0 s0) H → va_D A (wM cI cZ q0 s0) → va_S A s.heap H locs → lv_has ls 5 [(0, .ref (q0 0)), (1, .int x1), (2, .int x2), (3, .int x3)] → W p l e (headSpec (wsA yX7_ease cX7_ease 5 (some .boolean)) ({ frames := 2, cells := 0, slots := 0, locals := 43 })).room s m (#[.ref (q0 0), .int p0] : Array Value) below meth c H locs 0 0 (MQ below (va_Qi (fun (r : Int32) (u : CS) => Q r u) (fun u t => va_P D classes (wM cI cZ q0 u) t.heap) A) (#[.ref (q0 0), .int p0] : Array Value) s 0 0 A) (F0 m 4 ls []) := by
        rintro x1 x2 x3 s0 H locs ls ⟨k, hk, hI⟩ hP hD hS hl
        exact ih_4 k hk x1 x2 x3 s0 H locs ls hI hP hD hS hl
      unfold LB_X7_ease_4 at hf
      have k_108 : ∀ (x1 : Int32) (x2 : Int32) (x3 : Int32) (s0 : CS) (H : Heap) (locs : List Loc) (ls : Array Slot), B_X7_ease_108 (fun z => ∃ k, k < n_4 ∧ I_4 k z)  x1 x2 x3 s0 Q → va_P D classes (wM cI cZ q0 s0) H → va_D A (wM cI cZ q0 s0) → va_S A s.heap H locs → lv_has ls 5 [(0, .ref (q0 0)), (1, .int x1), (2, .int x2), (3, .int x3)] → W p l e (headSpec (wsA yX7_ease cX7_ease 5 (some .boolean)) ({ frames := 2, cells := 0, slots := 0, locals := 43 })).room s m (#[.ref (q0 0), .int p0] : Array Value) below meth c H locs 0 0 (MQ below (va_Qi (fun (r : Int32) (u : CS) => Q r u) (fun u t => va_P D classes (wM cI cZ q0 u) t.heap) A) (#[.ref (q0 0), .int p0] : Array Value) s 0 0 A) (F0 m 108 ls []) := by
        intro x1 x2 x3 s0 H locs ls hf hP hD hS hl
        unfold B_X7_ease_108 at hf
        obtain ⟨x3_1, ex3_1⟩ : ∃ y : Int32, y = x3 + (1 : Int32) := ⟨_, rfl⟩
        have hf := hf x3_1 ex3_1
        refine lv_iinc (v := x3_1) (lv' := [(3, .int x3_1), (0, .ref (q0 0)), (1, .int x1), (2, .int x2)]) hx hb dX7_ease_108 hl (k := 3) rfl (by rw [ex3_1]; rfl) (by decide) rfl (fun ls hl => ?_)
        refine lv_goto (tgt := 4) hx hb dX7_ease_111 (by decide) ?_
        exact hG_4 x1 x2 x3_1 s0 H locs ls hf hP hD hS (lv_sub hl [1, 2, 3, 0] rfl)
      have k_88 : ∀ (x1 : Int32) (x3 : Int32) (s0 : CS) (H : Heap) (locs : List Loc) (ls : Array Slot), B_X7_ease_88 (fun z => ∃ k, k < n_4 ∧ I_4 k z)  x1 x3 s0 Q → va_P D classes (wM cI cZ q0 s0) H → va_D A (wM cI cZ q0 s0) → va_S A s.heap H locs → lv_has ls 5 [(0, .ref (q0 0)), (1, .int x1), (3, .int x3)] → W p l e (headSpec (wsA yX7_ease cX7_ease 5 (some .boolean)) ({ frames := 2, cells := 0, slots := 0, locals := 43 })).room s m (#[.ref (q0 0), .int p0] : Array Value) below meth c H locs 0 0 (MQ below (va_Qi (fun (r : Int32) (u : CS) => Q r u) (fun u t => va_P D classes (wM cI cZ q0 u) t.heap) A) (#[.ref (q0 0), .int p0] : Array Value) s 0 0 A) (F0 m 88 ls []) := by
        intro x1 x3 s0 H locs ls hf hP hD hS hl
        unfold B_X7_ease_88 at hf
        refine lv_aload_n hx hb dX7_ease_88 rfl (lv_at hl 0 rfl) ?_
        refine va_get (D := D) (ci := 5) (v := .ref (q0 10)) (C := RX7) (T := TX7) (N := 28) hx hb ht inX7 hown hK hP 0 eM_0 rfl 20 (by decide) (ht _ tw_675) (fun _ h9 => h9) rfl dX7_ease_89 ?_
        refine lv_iload_n hx hb dX7_ease_92 rfl (lv_at hl 2 rfl) ?_
        refine lv_aload_n hx hb dX7_ease_93 rfl (lv_at hl 0 rfl) ?_
        refine va_get (D := D) (ci := 5) (v := .ref (q0 10)) (C := RX7) (T := TX7) (N := 28) hx hb ht inX7 hown hK hP 0 eM_0 rfl 20 (by decide) (ht _ tw_675) (fun _ h9 => h9) rfl dX7_ease_94 ?_
        refine lv_iload_n hx hb dX7_ease_97 rfl (lv_at hl 1 rfl) ?_
        obtain ⟨hi_2, hf⟩ := hf
        refine va_iald hx hb hK hP 10 0 eM_10 rfl hi_2 dX7_ease_98 ?_
        refine lv_aload_n hx hb dX7_ease_99 rfl (lv_at hl 0 rfl) ?_
        refine lv_iload_n hx hb dX7_ease_100 rfl (lv_at hl 2 rfl) ?_
        have hPc : va_P D classes (wM cI cZ q0 s0) H := hP
        refine vp_callSi (W.runV (As := [.int x3]) (rest := [.int ((s0.2.1 20) x1.toNatClampNeg), .int x3, .ref (q0 10)]) ⟨hx, hb, hml, hown, hts⟩ (c_X7_costOf l D cI cZ cW q0 x3 s0 _ hf) ⟨callB_of 1 hts (gA tw_915) rfl rfl rfl (ht _ tw_7) (ht _ tw_912) hd_X7_costOf ⟨Nat.le_of_ble_eq_true rfl, Nat.le_of_ble_eq_true rfl⟩, ht _ tw_914, ht _ twp_41⟩ ⟨PR_blind, va_recv hK hP (ci := 5) (q0 := 0) rfl eM_0, fun U hU hW => PR_mk hPc hK hU hW⟩ rfl rfl hl.1 rfl (lv_room (Nat.le_of_ble_eq_true rfl)) dX7_ease_101 ⟨Nat.zero_le _, Nat.zero_le _⟩) (fun r_3 hf => ?_)
        refine lv_iadd hx hb dX7_ease_104 ?_
        obtain ⟨hi_4, hf⟩ := hf
        refine va_iast hx hb hK hP hD hS 10 0 eM_10 rfl hi_4 dX7_ease_105 (fun H locs hP hD hS => ?_)
        obtain ⟨s0_5, es0_5⟩ : ∃ y : CS, y = sA s0 20 x3.toNatClampNeg (((s0.2.1 20) x1.toNatClampNeg) + r_3) := ⟨_, rfl⟩
        have hf := hf s0_5 es0_5
        have hD := hDk s0_5
        have hP : va_P D classes (wM cI cZ q0 s0_5) H := by rw [es0_5]; exact PM_F20 hP
        refine lv_iconst (v := (1 : Int32)) hx hb dX7_ease_106 (by decide) ?_
        refine lv_istore_n (lv' := [(2, .int (1 : Int32)), (0, .ref (q0 0)), (1, .int x1), (3, .int x3)]) hx hb dX7_ease_107 rfl hl (by decide) rfl (fun ls hl => ?_)
        exact k_108 x1 (1 : Int32) x3 s0_5 H locs ls hf hP hD hS (lv_sub hl [1, 2, 0, 3] rfl)
      have k_49 : ∀ (x1 : Int32) (x2 : Int32) (x3 : Int32) (t0 : Int32) (s0 : CS) (H : Heap) (locs : List Loc) (ls : Array Slot), B_X7_ease_49 (fun z => ∃ k, k < n_4 ∧ I_4 k z)  x1 x2 x3 t0 s0 Q → va_P D classes (wM cI cZ q0 s0) H → va_D A (wM cI cZ q0 s0) → va_S A s.heap H locs → lv_has ls 5 [(0, .ref (q0 0)), (1, .int x1), (2, .int x2), (3, .int x3)] → W p l e (headSpec (wsA yX7_ease cX7_ease 5 (some .boolean)) ({ frames := 2, cells := 0, slots := 0, locals := 43 })).room s m (#[.ref (q0 0), .int p0] : Array Value) below meth c H locs 0 0 (MQ below (va_Qi (fun (r : Int32) (u : CS) => Q r u) (fun u t => va_P D classes (wM cI cZ q0 u) t.heap) A) (#[.ref (q0 0), .int p0] : Array Value) s 0 0 A) (F0 m 49 ls [.int t0]) := by
        intro x1 x2 x3 t0 s0 H locs ls hf hP hD hS hl
        unfold B_X7_ease_49 at hf
        refine lv_istore (lv' := [(4, .int t0), (0, .ref (q0 0)), (1, .int x1), (2, .int x2), (3, .int x3)]) hx hb dX7_ease_49 hl (by decide) rfl (fun ls hl => ?_)
        refine lv_iload hx hb dX7_ease_51 (lv_at hl 0 rfl) ?_
        refine lv_if_eq (tgt := 108) hx hb dX7_ease_53 (by decide) (fun c_6 => ?_) (fun c_6 => ?_)
        · have hf := hf.1 c_6
          exact k_108 x1 x2 x3 s0 H locs ls hf hP hD hS (lv_sub hl [1, 2, 3, 4] rfl)
        · have hf := hf.2 c_6
          refine lv_aload_n hx hb dX7_ease_56 rfl (lv_at hl 1 rfl) ?_
          refine va_get (D := D) (ci := 5) (v := .ref (q0 10)) (C := RX7) (T := TX7) (N := 28) hx hb ht inX7 hown hK hP 0 eM_0 rfl 20 (by decide) (ht _ tw_675) (fun _ h9 => h9) rfl dX7_ease_57 ?_
          refine lv_iload_n hx hb dX7_ease_60 rfl (lv_at hl 4 rfl) ?_
          obtain ⟨hi_7, hf⟩ := hf
          refine va_iald hx hb hK hP 10 0 eM_10 rfl hi_7 dX7_ease_61 ?_
          refine lv_bipush (v := (-9 : Int32)) hx hb dX7_ease_62 (by decide) ?_
          refine lv_icmp_eq (tgt := 88) hx hb dX7_ease_64 (by decide) (fun c_8 => ?_) (fun c_8 => ?_)
          · have hf := hf.1 c_8
            exact k_88 x1 x3 s0 H locs ls hf hP hD hS (lv_sub hl [1, 2, 4] rfl)
          · have hf := hf.2 c_8
            refine lv_aload_n hx hb dX7_ease_67 rfl (lv_at hl 1 rfl) ?_
            refine va_get (D := D) (ci := 5) (v := .ref (q0 10)) (C := RX7) (T := TX7) (N := 28) hx hb ht inX7 hown hK hP 0 eM_0 rfl 20 (by decide) (ht _ tw_675) (fun _ h9 => h9) rfl dX7_ease_68 ?_
            refine lv_iload_n hx hb dX7_ease_71 rfl (lv_at hl 2 rfl) ?_
            obtain ⟨hi_9, hf⟩ := hf
            refine va_iald hx hb hK hP 10 0 eM_10 rfl hi_9 dX7_ease_72 ?_
            refine lv_aload_n hx hb dX7_ease_73 rfl (lv_at hl 1 rfl) ?_
            refine lv_iload_n hx hb dX7_ease_74 rfl (lv_at hl 4 rfl) ?_
            have hPc : va_P D classes (wM cI cZ q0 s0) H := hP
            refine vp_callSi (W.runV (As := [.int x3]) (rest := [.int ((s0.2.1 20) x1.toNatClampNeg)]) ⟨hx, hb, hml, hown, hts⟩ (c_X7_costOf l D cI cZ cW q0 x3 s0 _ hf) ⟨callB_of 1 hts (gA tw_915) rfl rfl rfl (ht _ tw_7) (ht _ tw_912) hd_X7_costOf ⟨Nat.le_of_ble_eq_true rfl, Nat.le_of_ble_eq_true rfl⟩, ht _ tw_914, ht _ twp_41⟩ ⟨PR_blind, va_recv hK hP (ci := 5) (q0 := 0) rfl eM_0, fun U hU hW => PR_mk hPc hK hU hW⟩ rfl rfl hl.1 rfl (lv_room (Nat.le_of_ble_eq_true rfl)) dX7_ease_75 ⟨Nat.zero_le _, Nat.zero_le _⟩) (fun r_10 hf => ?_)
            refine lv_iadd hx hb dX7_ease_78 ?_
            refine lv_aload_n hx hb dX7_ease_79 rfl (lv_at hl 1 rfl) ?_
            refine va_get (D := D) (ci := 5) (v := .ref (q0 10)) (C := RX7) (T := TX7) (N := 28) hx hb ht inX7 hown hK hP 0 eM_0 rfl 20 (by decide) (ht _ tw_675) (fun _ h9 => h9) rfl dX7_ease_80 ?_
            refine lv_iload_n hx hb dX7_ease_83 rfl (lv_at hl 4 rfl) ?_
            obtain ⟨hi_11, hf⟩ := hf
            refine va_iald hx hb hK hP 10 0 eM_10 rfl hi_11 dX7_ease_84 ?_
            refine lv_icmp_ge (tgt := 108) hx hb dX7_ease_85 (by decide) (fun c_12 => ?_) (fun c_12 => ?_)
            · have hf := hf.1 c_12
              exact k_108 x1 x2 x3 s0 H locs ls hf hP hD hS (lv_sub hl [1, 2, 3, 4] rfl)
            · have hf := hf.2 c_12
              exact k_88 x1 x3 s0 H locs ls hf hP hD hS (lv_sub hl [1, 2, 4] rfl)
      have k_48 : ∀ (x1 : Int32) (x2 : Int32) (x3 : Int32) (s0 : CS) (H : Heap) (locs : List Loc) (ls : Array Slot), B_X7_ease_48 (fun z => ∃ k, k < n_4 ∧ I_4 k z)  x1 x2 x3 s0 Q → va_P D classes (wM cI cZ q0 s0) H → va_D A (wM cI cZ q0 s0) → va_S A s.heap H locs → lv_has ls 5 [(0, .ref (q0 0)), (1, .int x1), (2, .int x2), (3, .int x3)] → W p l e (headSpec (wsA yX7_ease cX7_ease 5 (some .boolean)) ({ frames := 2, cells := 0, slots := 0, locals := 43 })).room s m (#[.ref (q0 0), .int p0] : Array Value) below meth c H locs 0 0 (MQ below (va_Qi (fun (r : Int32) (u : CS) => Q r u) (fun u t => va_P D classes (wM cI cZ q0 u) t.heap) A) (#[.ref (q0 0), .int p0] : Array Value) s 0 0 A) (F0 m 48 ls []) := by
        intro x1 x2 x3 s0 H locs ls hf hP hD hS hl
        unfold B_X7_ease_48 at hf
        refine lv_iconst (v := (0 : Int32)) hx hb dX7_ease_48 (by decide) ?_
        exact k_49 x1 x2 x3 (0 : Int32) s0 H locs ls hf hP hD hS (lv_sub hl [0, 1, 2, 3] rfl)
      refine lv_iload_n hx hb dX7_ease_4 rfl (lv_at hl 3 rfl) ?_
      refine lv_bipush (v := (20 : Int32)) hx hb dX7_ease_5 (by decide) ?_
      refine lv_icmp_ge (tgt := 114) hx hb dX7_ease_7 (by decide) (fun c_13 => ?_) (fun c_13 => ?_)
      · have hf := hf.1 c_13
        refine lv_iload_n hx hb dX7_ease_114 rfl (lv_at hl 2 rfl) ?_
        obtain ⟨hn, hf⟩ := hf
        exact W.zret (v := x2) hx hb hr hn (fun t ht hW => ⟨⟨x2, s0, rfl, hf, P_heap ht hP⟩, hS.F ht⟩) hS.2.2 dX7_ease_115
      · have hf := hf.2 c_13
        refine lv_aload_n hx hb dX7_ease_10 rfl (lv_at hl 0 rfl) ?_
        refine va_get (D := D) (ci := 5) (v := .ref (q0 10)) (C := RX7) (T := TX7) (N := 28) hx hb ht inX7 hown hK hP 0 eM_0 rfl 20 (by decide) (ht _ tw_675) (fun _ h9 => h9) rfl dX7_ease_11 ?_
        refine lv_iload_n hx hb dX7_ease_14 rfl (lv_at hl 1 rfl) ?_
        obtain ⟨hi_14, hf⟩ := hf
        refine va_iald hx hb hK hP 10 0 eM_10 rfl hi_14 dX7_ease_15 ?_
        refine lv_bipush (v := (-9 : Int32)) hx hb dX7_ease_16 (by decide) ?_
        refine lv_icmp_eq (tgt := 48) hx hb dX7_ease_18 (by decide) (fun c_15 => ?_) (fun c_15 => ?_)
        · have hf := hf.1 c_15
          exact k_48 x1 x2 x3 s0 H locs ls hf hP hD hS (lv_sub hl [0, 1, 2, 3] rfl)
        · have hf := hf.2 c_15
          refine lv_iconst (v := (1 : Int32)) hx hb dX7_ease_21 (by decide) ?_
          refine lv_iload_n hx hb dX7_ease_22 rfl (lv_at hl 1 rfl) ?_
          refine lv_ishl hx hb dX7_ease_23 ?_
          have hPc : va_P D classes ([] : va_W) H := hP.sub [] rfl
          refine vp_callSi (W.runS (As := [.int ((1 : Int32) <<< (x1 &&& 31))]) (rest := []) ⟨hx, hb, hml, hown, hts⟩ (c_X7_beside l D cI cZ cW  ((1 : Int32) <<< (x1 &&& 31)) _ hf) ⟨callB_of 1 hts (gA tw_845) rfl rfl rfl (ht _ tw_7) (ht _ tw_843) hd_X7_beside ⟨Nat.le_of_ble_eq_true rfl, Nat.le_of_ble_eq_true rfl⟩, ht _ tw_844⟩ ⟨PR_blind, fun U hU hW => PR_mk hPc hK hU hW⟩ rfl rfl hl.1 rfl (lv_room (Nat.le_of_ble_eq_true rfl)) dX7_ease_24 ⟨Nat.zero_le _, Nat.zero_le _⟩) (fun r_16 hf => ?_)
          refine lv_iload_n hx hb dX7_ease_27 rfl (lv_at hl 3 rfl) ?_
          have hPc : va_P D classes ([] : va_W) H := hP.sub [] rfl
          refine vp_callSi (W.runS (As := [.int r_16, .int x3]) (rest := []) ⟨hx, hb, hml, hown, hts⟩ (c_X7_has l D cI cZ cW  r_16 x3 _ hf) ⟨callB_of 2 hts (gA tw_771) rfl rfl rfl (ht _ tw_7) (ht _ tw_769) hd_X7_has ⟨Nat.le_of_ble_eq_true rfl, Nat.le_of_ble_eq_true rfl⟩, ht _ tw_770⟩ ⟨PR_blind, fun U hU hW => PR_mk hPc hK hU hW⟩ rfl rfl hl.1 rfl (lv_room (Nat.le_of_ble_eq_true rfl)) dX7_ease_28 ⟨Nat.zero_le _, Nat.zero_le _⟩) (fun r_17 hf => ?_)
          refine lv_if_eq (tgt := 48) hx hb dX7_ease_31 (by decide) (fun c_18 => ?_) (fun c_18 => ?_)
          · have hf := hf.1 c_18
            exact k_48 x1 x2 x3 s0 H locs ls hf hP hD hS (lv_sub hl [0, 1, 2, 3] rfl)
          · have hf := hf.2 c_18
            refine lv_aload_n hx hb dX7_ease_34 rfl (lv_at hl 0 rfl) ?_
            refine lv_iload_n hx hb dX7_ease_35 rfl (lv_at hl 3 rfl) ?_
            have hPc : va_P D classes (wM cI cZ q0 s0) H := hP
            refine vp_callSi (W.runV (As := [.int x3]) (rest := []) ⟨hx, hb, hml, hown, hts⟩ (c_X7_costOf l D cI cZ cW q0 x3 s0 _ hf) ⟨callB_of 1 hts (gA tw_915) rfl rfl rfl (ht _ tw_7) (ht _ tw_912) hd_X7_costOf ⟨Nat.le_of_ble_eq_true rfl, Nat.le_of_ble_eq_true rfl⟩, ht _ tw_914, ht _ twp_41⟩ ⟨PR_blind, va_recv hK hP (ci := 5) (q0 := 0) rfl eM_0, fun U hU hW => PR_mk hPc hK hU hW⟩ rfl rfl hl.1 rfl (lv_room (Nat.le_of_ble_eq_true rfl)) dX7_ease_36 ⟨Nat.zero_le _, Nat.zero_le _⟩) (fun r_19 hf => ?_)
            refine lv_bipush (v := (-9 : Int32)) hx hb dX7_ease_39 (by decide) ?_
            refine lv_icmp_eq (tgt := 48) hx hb dX7_ease_41 (by decide) (fun c_20 => ?_) (fun c_20 => ?_)
            · have hf := hf.1 c_20
              exact k_48 x1 x2 x3 s0 H locs ls hf hP hD hS (lv_sub hl [0, 1, 2, 3] rfl)
            · have hf := hf.2 c_20
              refine lv_iconst (v := (1 : Int32)) hx hb dX7_ease_44 (by decide) ?_
              refine lv_goto (tgt := 49) hx hb dX7_ease_45 (by decide) ?_
              exact k_49 x1 x2 x3 (1 : Int32) s0 H locs ls hf hP hD hS (lv_sub hl [0, 1, 2, 3] rfl)
    exact main_4 n0_4 x1 x2 x3 s0 H locs ls hI0_4 hP hD hS hl
  have start : ∀ (H : Heap) (locs : List Loc), va_P D classes (wM cI cZ q0 s0) H → va_D A (wM cI cZ q0 s0) → va_S A s.heap H locs → W p l e (headSpec (wsA yX7_ease cX7_ease 5 (some .boolean)) ({ frames := 2, cells := 0, slots := 0, locals := 43 })).room s m (#[.ref (q0 0), .int p0] : Array Value) below meth c H locs 0 0 (MQ below (va_Qi (fun (r : Int32) (u : CS) => Q r u) (fun u t => va_P D classes (wM cI cZ q0 u) t.heap) A) (#[.ref (q0 0), .int p0] : Array Value) s 0 0 A) (F0 m 0 ls []) := by
    intro H locs hP hD hS
    refine lv_iconst (v := (0 : Int32)) hx hb dX7_ease_0 (by decide) ?_
    refine lv_istore_n (lv' := [(2, .int (0 : Int32)), (0, .ref (q0 0)), (1, .int p0)]) hx hb dX7_ease_1 rfl hl (by decide) rfl (fun ls hl => ?_)
    refine lv_iconst (v := (0 : Int32)) hx hb dX7_ease_2 (by decide) ?_
    refine lv_istore_n (lv' := [(3, .int (0 : Int32)), (2, .int (0 : Int32)), (0, .ref (q0 0)), (1, .int p0)]) hx hb dX7_ease_3 rfl hl (by decide) rfl (fun ls hl => ?_)
    exact k_4 p0 (0 : Int32) (0 : Int32) s0 H locs ls hf hP hD hS (lv_sub hl [2, 3, 1, 0] rfl)
  exact start s.heap [] hP hD hS
def B_X7_gnaw_107 (G73 : (Int32 × Int32 × CS) → Prop) (G82 : (Int32 × Int32 × Int32 × CS) → Prop)  (x2 : Int32) (x4 : Int32) (t0 : Int32) (s0 : CS) (Q : Int32 → CS → Prop) : Prop := ∀ x4_1 : Int32, x4_1 = x4 + (1 : Int32) → G82 (x2, t0, x4_1, s0)
def B_X7_gnaw_102 (G73 : (Int32 × Int32 × CS) → Prop) (G82 : (Int32 × Int32 × Int32 × CS) → Prop)  (x2 : Int32) (x4 : Int32) (s0 : CS) (Q : Int32 → CS → Prop) : Prop := B_X7_gnaw_107 G73 G82  x2 x4 (1 : Int32) s0 Q
def LB_X7_gnaw_82 (G82 : (Int32 × Int32 × Int32 × CS) → Prop) (G73 : (Int32 × Int32 × CS) → Prop)  (x2 : Int32) (x3 : Int32) (x4 : Int32) (s0 : CS) (Q : Int32 → CS → Prop) : Prop := (((20 : Int32) ≤ x4 → G73 (x2, x3, s0)) ∧ (¬ (20 : Int32) ≤ x4 → wp_X7_ease x4 s0 (fun r_4 s0_3 => ((¬ r_4 = 0 → B_X7_gnaw_102 G73 G82  x2 x4 s0_3 Q) ∧ (r_4 = 0 → ((x3 = 0 → B_X7_gnaw_107 G73 G82  x2 x4 (0 : Int32) s0_3 Q) ∧ (¬ x3 = 0 → B_X7_gnaw_102 G73 G82  x2 x4 s0_3 Q)))))))
def B_X7_gnaw_82 (G73 : (Int32 × Int32 × CS) → Prop)  (x2 : Int32) (x3 : Int32) (x4 : Int32) (s0 : CS) (Q : Int32 → CS → Prop) : Prop := LOOP (fun (G82 : (Int32 × Int32 × Int32 × CS) → Prop) z => LB_X7_gnaw_82 G82 G73  z.1 z.2.1 z.2.2.1 z.2.2.2 Q) (x2, x3, x4, s0)
def LB_X7_gnaw_73 (G73 : (Int32 × Int32 × CS) → Prop)  (x2 : Int32) (x3 : Int32) (s0 : CS) (Q : Int32 → CS → Prop) : Prop := ((x3 = 0 → vp_in x2 20 ∧ Q ((s0.2.1 20) x2.toNatClampNeg) s0) ∧ (¬ x3 = 0 → B_X7_gnaw_82 G73  x2 (0 : Int32) (0 : Int32) s0 Q))
def B_X7_gnaw_73  (x2 : Int32) (x3 : Int32) (s0 : CS) (Q : Int32 → CS → Prop) : Prop := LOOP (fun (G73 : (Int32 × Int32 × CS) → Prop) z => LB_X7_gnaw_73 G73  z.1 z.2.1 z.2.2 Q) (x2, x3, s0)
def B_X7_gnaw_72  (x2 : Int32) (t0 : Int32) (s0 : CS) (Q : Int32 → CS → Prop) : Prop := B_X7_gnaw_73  x2 t0 s0 Q
def LB_X7_gnaw_25 (G25 : (Int32 × Int32 × Int32 × CS) → Prop)  (x1 : Int32) (x2 : Int32) (x3 : Int32) (s0 : CS) (Q : Int32 → CS → Prop) : Prop := (((20 : Int32) ≤ x3 → wp_X7_costOf x1 s0 (fun r_10 => vp_in x1 20 ∧ ∀ s0_12 : CS, s0_12 = sA s0 20 x1.toNatClampNeg r_10 → vp_in x1 20 ∧ ((((s0_12.2.1 20) x1.toNatClampNeg) = (-9 : Int32) → B_X7_gnaw_72  x2 (0 : Int32) s0_12 Q) ∧ (¬ ((s0_12.2.1 20) x1.toNatClampNeg) = (-9 : Int32) → B_X7_gnaw_72  x2 (1 : Int32) s0_12 Q)))) ∧ (¬ (20 : Int32) ≤ x3 → vp_in x3 20 ∧ ∀ s0_16 : CS, s0_16 = sA s0 20 x3.toNatClampNeg (-9 : Int32) → ∀ x3_17 : Int32, x3_17 = x3 + (1 : Int32) → G25 (x1, x2, x3_17, s0_16)))
def B_X7_gnaw_25  (x1 : Int32) (x2 : Int32) (x3 : Int32) (s0 : CS) (Q : Int32 → CS → Prop) : Prop := LOOP (fun (G25 : (Int32 × Int32 × Int32 × CS) → Prop) z => LB_X7_gnaw_25 G25  z.1 z.2.1 z.2.2.1 z.2.2.2 Q) (x1, x2, x3, s0)
def wp_X7_gnaw (p0 : Int32) (p1 : Int32) (s0 : CS) (Q : Int32 → CS → Prop) : Prop := wp_X7_isCell p0 (fun r_18 => ((r_18 = 0 → Q (-1 : Int32) s0) ∧ (¬ r_18 = 0 → wp_X7_isCell p1 (fun r_20 => ((¬ r_20 = 0 → ((¬ p0 = p1 → B_X7_gnaw_25  p0 p1 (0 : Int32) s0 Q) ∧ (p0 = p1 → Q (0 : Int32) s0))) ∧ (r_20 = 0 → Q (-1 : Int32) s0))))))
set_option maxHeartbeats 4000000 in
set_option maxRecDepth 100000 in
theorem c_X7_gnaw (l : Launch) (D : va_G) (cI cZ cW : ClassId) (q0 : Nat → Nat) (sz : Nat) (p0 : Int32) (p1 : Int32) (s0 : CS) (Q : Int32 → CS → Prop) (hf : wp_X7_gnaw p0 p1 s0 Q) : Met l yX7_gnaw (wsA yX7_gnaw cX7_gnaw 5 (some .int)) ({ frames := 3, cells := 0, slots := 0, locals := 67 }) (PW D cI cZ cW [.ref (q0 0), .int p0, .int p1] (wM cI cZ q0 s0) sz) (va_Qi (fun (r : Int32) (u : CS) => Q r u) (fun u t => va_P D classes (wM cI cZ q0 u) t.heap) (va_A (wM cI cZ q0 s0) sz)) 0 0 (va_A (wM cI cZ q0 s0) sz) := by
  refine Met.ofW (cc := cX7_gnaw) (maxL := 5) (ret := (some .int)) (by decide) rfl ?_
  intro p e s m args below meth c s₁ B hml hv
  obtain ⟨rfl, hsz, hP, hK, hD0⟩ := hv
  have hx := B.exec
  have hb := B.bytes
  have hr := B.returns
  have hts := atoms_spec (ws := (wsA yX7_gnaw cX7_gnaw 5 (some .int))) B.pre
  have ht : ∀ w ∈ lw_g, w.before _ s = true := fun w h => hts w (List.mem_cons_of_mem _ h)
  have hown : s.vm.findClass RX7 = some m.cls := findClass_of_methodNamed B.named
  have hlocks := B.notSynchronized
  subst hsz
  have hD := hD0.self (sz := s.heap.size)
  generalize hAe : va_A (wM cI cZ q0 s0) s.heap.size = A at hD ⊢
  have hA : ∀ q : Nat, s.heap.size ≤ q → A q := fun q h => by rw [← hAe]; exact Or.inr h
  have hS : va_S A s.heap s.heap [] := va_S.rf
  have hDk : ∀ w : CS, va_D A (wM cI cZ q0 w) := fun w => D_M hD
  have hl := lv_entry ([.ref (q0 0), .int p0, .int p1]) (n := 5) (Nat.le_of_ble_eq_true rfl)
  rw [lg_entry_eq]
  generalize (lg_sl ([.ref (q0 0), .int p0, .int p1]) ++ List.replicate (5 - (lg_sl ([.ref (q0 0), .int p0, .int p1])).length) Slot.unset).toArray = ls at hl ⊢
  have hl : lv_has ls 5 [(0, .ref (q0 0)), (1, .int p0), (2, .int p1)] := hl
  unfold wp_X7_gnaw at hf
  have k_73 : ∀ (x2 : Int32) (x3 : Int32) (s0 : CS) (H : Heap) (locs : List Loc) (ls : Array Slot), B_X7_gnaw_73  x2 x3 s0 Q → va_P D classes (wM cI cZ q0 s0) H → va_D A (wM cI cZ q0 s0) → va_S A s.heap H locs → lv_has ls 5 [(0, .ref (q0 0)), (2, .int x2), (3, .int x3)] → W p l e (headSpec (wsA yX7_gnaw cX7_gnaw 5 (some .int)) ({ frames := 3, cells := 0, slots := 0, locals := 67 })).room s m (#[.ref (q0 0), .int p0, .int p1] : Array Value) below meth c H locs 0 0 (MQ below (va_Qi (fun (r : Int32) (u : CS) => Q r u) (fun u t => va_P D classes (wM cI cZ q0 u) t.heap) A) (#[.ref (q0 0), .int p0, .int p1] : Array Value) s 0 0 A) (F0 m 73 ls []) := by
    intro x2 x3 s0 H locs ls hf hP hD hS hl
    unfold B_X7_gnaw_73 at hf
    obtain ⟨I_73, ⟨n0_73, hI0_73⟩, hst_73⟩ := hf
    have main_73 : ∀ (n : Nat) (x2 : Int32) (x3 : Int32) (s0 : CS) (H : Heap) (locs : List Loc) (ls : Array Slot), I_73 n (x2, x3, s0) → va_P D classes (wM cI cZ q0 s0) H → va_D A (wM cI cZ q0 s0) → va_S A s.heap H locs → lv_has ls 5 [(0, .ref (q0 0)), (2, .int x2), (3, .int x3)] → W p l e (headSpec (wsA yX7_gnaw cX7_gnaw 5 (some .int)) ({ frames := 3, cells := 0, slots := 0, locals := 67 })).room s m (#[.ref (q0 0), .int p0, .int p1] : Array Value) below meth c H locs 0 0 (MQ below (va_Qi (fun (r : Int32) (u : CS) => Q r u) (fun u t => va_P D classes (wM cI cZ q0 u) t.heap) A) (#[.ref (q0 0), .int p0, .int p1] : Array Value) s 0 0 A) (F0 m 73 ls []) := by
      intro n
      induction n using Nat.strongRecOn with
      | _ n_73 ih_73 =>
      intro x2 x3 s0 H locs ls hI hP hD hS hl
      have hf : LB_X7_gnaw_73 (fun z => ∃ k, k < n_73 ∧ I_73 k z)  x2 x3 s0 Q := hst_73 n_73 (x2, x3, s0) hI
      have hG_73 : ∀ (x2 : Int32) (x3 : Int32) (s0 : CS) (H : Heap) (locs : List Loc) (ls : Array Slot), (∃ k, k < n_73 ∧ I_73 k (x2, x3, s0)) → va_P D classes (wM cI cZ q0 s0) H → va_D A (wM cI cZ q0 s0) → va_S A s.heap H locs → lv_has ls 5 [(0, .ref (q0 0)), (2, .int x2), (3, .int x3)] → W p l e (headSpec (wsA yX7_gnaw cX7_gnaw 5 (some .int)) ({ frames := 3, cells := 0, slots := 0, locals := 67 })).room s m (#[.ref (q0 0), .int p0, .int p1] : Array Value) below meth c H locs 0 0 (MQ below (va_Qi (fun (r : Int32) (u : CS) => Q r u) (fun u t => va_P D classes (wM cI cZ q0 u) t.heap) A) (#[.ref (q0 0), .int p0, .int p1] : Array Value) s 0 0 A) (F0 m 73 ls []) := by
        rintro x2 x3 s0 H locs ls ⟨k, hk, hI⟩ hP hD hS hl
        exact ih_73 k hk x2 x3 s0 H locs ls hI hP hD hS hl
      unfold LB_X7_gnaw_73 at hf
      have k_82 : ∀ (x2 : Int32) (x3 : Int32) (x4 : Int32) (s0 : CS) (H : Heap) (locs : List Loc) (ls : Array Slot), B_X7_gnaw_82 (fun z => ∃ k, k < n_73 ∧ I_73 k z)  x2 x3 x4 s0 Q → va_P D classes (wM cI cZ q0 s0) H → va_D A (wM cI cZ q0 s0) → va_S A s.heap H locs → lv_has ls 5 [(0, .ref (q0 0)), (2, .int x2), (3, .int x3), (4, .int x4)] → W p l e (headSpec (wsA yX7_gnaw cX7_gnaw 5 (some .int)) ({ frames := 3, cells := 0, slots := 0, locals := 67 })).room s m (#[.ref (q0 0), .int p0, .int p1] : Array Value) below meth c H locs 0 0 (MQ below (va_Qi (fun (r : Int32) (u : CS) => Q r u) (fun u t => va_P D classes (wM cI cZ q0 u) t.heap) A) (#[.ref (q0 0), .int p0, .int p1] : Array Value) s 0 0 A) (F0 m 82 ls []) := by
        intro x2 x3 x4 s0 H locs ls hf hP hD hS hl
        unfold B_X7_gnaw_82 at hf
        obtain ⟨I_82, ⟨n0_82, hI0_82⟩, hst_82⟩ := hf
        have main_82 : ∀ (n : Nat) (x2 : Int32) (x3 : Int32) (x4 : Int32) (s0 : CS) (H : Heap) (locs : List Loc) (ls : Array Slot), I_82 n (x2, x3, x4, s0) → va_P D classes (wM cI cZ q0 s0) H → va_D A (wM cI cZ q0 s0) → va_S A s.heap H locs → lv_has ls 5 [(0, .ref (q0 0)), (2, .int x2), (3, .int x3), (4, .int x4)] → W p l e (headSpec (wsA yX7_gnaw cX7_gnaw 5 (some .int)) ({ frames := 3, cells := 0, slots := 0, locals := 67 })).room s m (#[.ref (q0 0), .int p0, .int p1] : Array Value) below meth c H locs 0 0 (MQ below (va_Qi (fun (r : Int32) (u : CS) => Q r u) (fun u t => va_P D classes (wM cI cZ q0 u) t.heap) A) (#[.ref (q0 0), .int p0, .int p1] : Array Value) s 0 0 A) (F0 m 82 ls []) := by
          intro n
          induction n using Nat.strongRecOn with
          | _ n_82 ih_82 =>
          intro x2 x3 x4 s0 H locs ls hI hP hD hS hl
          have hf : LB_X7_gnaw_82 (fun z => ∃ k, k < n_82 ∧ I_82 k z) (fun z => ∃ k, k < n_73 ∧ I_73 k z)  x2 x3 x4 s0 Q := hst_82 n_82 (x2, x3, x4, s0) hI
          have hG_82 : ∀ (x2 : Int32) (x3 : Int32) (x4 : Int32) (s0 : CS) (H : Heap) (locs : List Loc) (ls : Array Slot), (∃ k, k < n_82 ∧ I_82 k (x2, x3, x4, s0)) → va_P D classes (wM cI cZ q0 s0) H → va_D A (wM cI cZ q0 s0) → va_S A s.heap H locs → lv_has ls 5 [(0, .ref (q0 0)), (2, .int x2), (3, .int x3), (4, .int x4)] → W p l e (headSpec (wsA yX7_gnaw cX7_gnaw 5 (some .int)) ({ frames := 3, cells := 0, slots := 0, locals := 67 })).room s m (#[.ref (q0 0), .int p0, .int p1] : Array Value) below meth c H locs 0 0 (MQ below (va_Qi (fun (r : Int32) (u : CS) => Q r u) (fun u t => va_P D classes (wM cI cZ q0 u) t.heap) A) (#[.ref (q0 0), .int p0, .int p1] : Array Value) s 0 0 A) (F0 m 82 ls []) := by
            rintro x2 x3 x4 s0 H locs ls ⟨k, hk, hI⟩ hP hD hS hl
            exact ih_82 k hk x2 x3 x4 s0 H locs ls hI hP hD hS hl
          unfold LB_X7_gnaw_82 at hf
          have k_107 : ∀ (x2 : Int32) (x4 : Int32) (t0 : Int32) (s0 : CS) (H : Heap) (locs : List Loc) (ls : Array Slot), B_X7_gnaw_107 (fun z => ∃ k, k < n_73 ∧ I_73 k z) (fun z => ∃ k, k < n_82 ∧ I_82 k z)  x2 x4 t0 s0 Q → va_P D classes (wM cI cZ q0 s0) H → va_D A (wM cI cZ q0 s0) → va_S A s.heap H locs → lv_has ls 5 [(0, .ref (q0 0)), (2, .int x2), (4, .int x4)] → W p l e (headSpec (wsA yX7_gnaw cX7_gnaw 5 (some .int)) ({ frames := 3, cells := 0, slots := 0, locals := 67 })).room s m (#[.ref (q0 0), .int p0, .int p1] : Array Value) below meth c H locs 0 0 (MQ below (va_Qi (fun (r : Int32) (u : CS) => Q r u) (fun u t => va_P D classes (wM cI cZ q0 u) t.heap) A) (#[.ref (q0 0), .int p0, .int p1] : Array Value) s 0 0 A) (F0 m 107 ls [.int t0]) := by
            intro x2 x4 t0 s0 H locs ls hf hP hD hS hl
            unfold B_X7_gnaw_107 at hf
            refine lv_istore_n (lv' := [(3, .int t0), (0, .ref (q0 0)), (2, .int x2), (4, .int x4)]) hx hb dX7_gnaw_107 rfl hl (by decide) rfl (fun ls hl => ?_)
            obtain ⟨x4_1, ex4_1⟩ : ∃ y : Int32, y = x4 + (1 : Int32) := ⟨_, rfl⟩
            have hf := hf x4_1 ex4_1
            refine lv_iinc (v := x4_1) (lv' := [(4, .int x4_1), (3, .int t0), (0, .ref (q0 0)), (2, .int x2)]) hx hb dX7_gnaw_108 hl (k := 3) rfl (by rw [ex4_1]; rfl) (by decide) rfl (fun ls hl => ?_)
            refine lv_goto (tgt := 82) hx hb dX7_gnaw_111 (by decide) ?_
            exact hG_82 x2 t0 x4_1 s0 H locs ls hf hP hD hS (lv_sub hl [2, 3, 1, 0] rfl)
          have k_102 : ∀ (x2 : Int32) (x4 : Int32) (s0 : CS) (H : Heap) (locs : List Loc) (ls : Array Slot), B_X7_gnaw_102 (fun z => ∃ k, k < n_73 ∧ I_73 k z) (fun z => ∃ k, k < n_82 ∧ I_82 k z)  x2 x4 s0 Q → va_P D classes (wM cI cZ q0 s0) H → va_D A (wM cI cZ q0 s0) → va_S A s.heap H locs → lv_has ls 5 [(0, .ref (q0 0)), (2, .int x2), (4, .int x4)] → W p l e (headSpec (wsA yX7_gnaw cX7_gnaw 5 (some .int)) ({ frames := 3, cells := 0, slots := 0, locals := 67 })).room s m (#[.ref (q0 0), .int p0, .int p1] : Array Value) below meth c H locs 0 0 (MQ below (va_Qi (fun (r : Int32) (u : CS) => Q r u) (fun u t => va_P D classes (wM cI cZ q0 u) t.heap) A) (#[.ref (q0 0), .int p0, .int p1] : Array Value) s 0 0 A) (F0 m 102 ls []) := by
            intro x2 x4 s0 H locs ls hf hP hD hS hl
            unfold B_X7_gnaw_102 at hf
            refine lv_iconst (v := (1 : Int32)) hx hb dX7_gnaw_102 (by decide) ?_
            refine lv_goto (tgt := 107) hx hb dX7_gnaw_103 (by decide) ?_
            exact k_107 x2 x4 (1 : Int32) s0 H locs ls hf hP hD hS (lv_sub hl [0, 1, 2] rfl)
          refine lv_iload hx hb dX7_gnaw_82 (lv_at hl 3 rfl) ?_
          refine lv_bipush (v := (20 : Int32)) hx hb dX7_gnaw_84 (by decide) ?_
          refine lv_icmp_ge (tgt := 114) hx hb dX7_gnaw_86 (by decide) (fun c_2 => ?_) (fun c_2 => ?_)
          · have hf := hf.1 c_2
            refine lv_goto (tgt := 73) hx hb dX7_gnaw_114 (by decide) ?_
            exact hG_73 x2 x3 s0 H locs ls hf hP hD hS (lv_sub hl [0, 1, 2] rfl)
          · have hf := hf.2 c_2
            refine lv_aload_n hx hb dX7_gnaw_89 rfl (lv_at hl 0 rfl) ?_
            refine lv_iload hx hb dX7_gnaw_90 (lv_at hl 3 rfl) ?_
            have hPc : va_P D classes (wM cI cZ q0 s0) H := hP
            have hDc : va_D A (wM cI cZ q0 s0) := hD
            have hFc := va_free (wc := (wM cI cZ q0 s0)) hD hS hA [0, 1, 2, 3, 4, 5, 6, 7, 8, 9, 10, 11, 12, 13, 14, 15] rfl
            refine va_calli (va_runV (As := [.int x4]) (rest := []) ⟨hx, hb, hml, hown, hts⟩ (c_X7_ease l D cI cZ cW q0 H.size x4 s0 _ hf) ⟨callB_of 1 hts (gA tw_919) rfl rfl rfl (ht _ tw_7) (ht _ tw_916) hd_X7_ease ⟨Nat.le_of_ble_eq_true rfl, Nat.le_of_ble_eq_true rfl⟩, ht _ tw_918, ht _ twp_42⟩ ⟨PW_blind, va_recv hK hP (ci := 5) (q0 := 0) rfl eM_0, fun U hU hW => PW_mk hPc hDc hK hU hW⟩ rfl rfl hl.1 rfl (lv_room (Nat.le_of_ble_eq_true rfl)) dX7_gnaw_92 ⟨Nat.zero_le _, Nat.zero_le _⟩) hS (fun q _ h => hFc q h) hFc (fun r_4 u t H1 locs ht1 hvm hf hB hz1 hk1 hS => ?_)
            obtain ⟨s0_3, rfl⟩ : ∃ z, z = u := ⟨_, rfl⟩
            rw [ht1] at hB
            have hP := hB
            have hD := hDk s0_3
            generalize H1 = H at hP hS ⊢
            have hP : va_P D classes (wM cI cZ q0 s0_3) H := hP
            have hD : va_D A (wM cI cZ q0 s0_3) := hD
            refine lv_if_ne (tgt := 102) hx hb dX7_gnaw_95 (by decide) (fun c_5 => ?_) (fun c_5 => ?_)
            · have hf := hf.1 c_5
              exact k_102 x2 x4 s0_3 H locs ls hf hP hD hS (lv_sub hl [0, 1, 3] rfl)
            · have hf := hf.2 c_5
              refine lv_iload_n hx hb dX7_gnaw_98 rfl (lv_at hl 2 rfl) ?_
              refine lv_if_eq (tgt := 106) hx hb dX7_gnaw_99 (by decide) (fun c_6 => ?_) (fun c_6 => ?_)
              · have hf := hf.1 c_6
                refine lv_iconst (v := (0 : Int32)) hx hb dX7_gnaw_106 (by decide) ?_
                exact k_107 x2 x4 (0 : Int32) s0_3 H locs ls hf hP hD hS (lv_sub hl [0, 1, 3] rfl)
              · have hf := hf.2 c_6
                exact k_102 x2 x4 s0_3 H locs ls hf hP hD hS (lv_sub hl [0, 1, 3] rfl)
        exact main_82 n0_82 x2 x3 x4 s0 H locs ls hI0_82 hP hD hS hl
      refine lv_iload_n hx hb dX7_gnaw_73 rfl (lv_at hl 2 rfl) ?_
      refine lv_if_eq (tgt := 117) hx hb dX7_gnaw_74 (by decide) (fun c_7 => ?_) (fun c_7 => ?_)
      · have hf := hf.1 c_7
        refine lv_aload_n hx hb dX7_gnaw_117 rfl (lv_at hl 0 rfl) ?_
        refine va_get (D := D) (ci := 5) (v := .ref (q0 10)) (C := RX7) (T := TX7) (N := 28) hx hb ht inX7 hown hK hP 0 eM_0 rfl 20 (by decide) (ht _ tw_675) (fun _ h9 => h9) rfl dX7_gnaw_118 ?_
        refine lv_iload_n hx hb dX7_gnaw_121 rfl (lv_at hl 1 rfl) ?_
        obtain ⟨hi_8, hf⟩ := hf
        refine va_iald hx hb hK hP 10 0 eM_10 rfl hi_8 dX7_gnaw_122 ?_
        exact W.iret (v := ((s0.2.1 20) x2.toNatClampNeg)) hx hb hr (fun t ht hW => ⟨⟨((s0.2.1 20) x2.toNatClampNeg), s0, rfl, hf, P_heap ht hP⟩, hS.F ht⟩) hS.2.2 dX7_gnaw_123
      · have hf := hf.2 c_7
        refine lv_iconst (v := (0 : Int32)) hx hb dX7_gnaw_77 (by decide) ?_
        refine lv_istore_n (lv' := [(3, .int (0 : Int32)), (0, .ref (q0 0)), (2, .int x2)]) hx hb dX7_gnaw_78 rfl hl (by decide) rfl (fun ls hl => ?_)
        refine lv_iconst (v := (0 : Int32)) hx hb dX7_gnaw_79 (by decide) ?_
        refine lv_istore (lv' := [(4, .int (0 : Int32)), (3, .int (0 : Int32)), (0, .ref (q0 0)), (2, .int x2)]) hx hb dX7_gnaw_80 hl (by decide) rfl (fun ls hl => ?_)
        exact k_82 x2 (0 : Int32) (0 : Int32) s0 H locs ls hf hP hD hS (lv_sub hl [2, 3, 1, 0] rfl)
    exact main_73 n0_73 x2 x3 s0 H locs ls hI0_73 hP hD hS hl
  have k_72 : ∀ (x2 : Int32) (t0 : Int32) (s0 : CS) (H : Heap) (locs : List Loc) (ls : Array Slot), B_X7_gnaw_72  x2 t0 s0 Q → va_P D classes (wM cI cZ q0 s0) H → va_D A (wM cI cZ q0 s0) → va_S A s.heap H locs → lv_has ls 5 [(0, .ref (q0 0)), (2, .int x2)] → W p l e (headSpec (wsA yX7_gnaw cX7_gnaw 5 (some .int)) ({ frames := 3, cells := 0, slots := 0, locals := 67 })).room s m (#[.ref (q0 0), .int p0, .int p1] : Array Value) below meth c H locs 0 0 (MQ below (va_Qi (fun (r : Int32) (u : CS) => Q r u) (fun u t => va_P D classes (wM cI cZ q0 u) t.heap) A) (#[.ref (q0 0), .int p0, .int p1] : Array Value) s 0 0 A) (F0 m 72 ls [.int t0]) := by
    intro x2 t0 s0 H locs ls hf hP hD hS hl
    unfold B_X7_gnaw_72 at hf
    refine lv_istore_n (lv' := [(3, .int t0), (0, .ref (q0 0)), (2, .int x2)]) hx hb dX7_gnaw_72 rfl hl (by decide) rfl (fun ls hl => ?_)
    exact k_73 x2 t0 s0 H locs ls hf hP hD hS (lv_sub hl [1, 2, 0] rfl)
  have k_25 : ∀ (x1 : Int32) (x2 : Int32) (x3 : Int32) (s0 : CS) (H : Heap) (locs : List Loc) (ls : Array Slot), B_X7_gnaw_25  x1 x2 x3 s0 Q → va_P D classes (wM cI cZ q0 s0) H → va_D A (wM cI cZ q0 s0) → va_S A s.heap H locs → lv_has ls 5 [(0, .ref (q0 0)), (1, .int x1), (2, .int x2), (3, .int x3)] → W p l e (headSpec (wsA yX7_gnaw cX7_gnaw 5 (some .int)) ({ frames := 3, cells := 0, slots := 0, locals := 67 })).room s m (#[.ref (q0 0), .int p0, .int p1] : Array Value) below meth c H locs 0 0 (MQ below (va_Qi (fun (r : Int32) (u : CS) => Q r u) (fun u t => va_P D classes (wM cI cZ q0 u) t.heap) A) (#[.ref (q0 0), .int p0, .int p1] : Array Value) s 0 0 A) (F0 m 25 ls []) := by
    intro x1 x2 x3 s0 H locs ls hf hP hD hS hl
    unfold B_X7_gnaw_25 at hf
    obtain ⟨I_25, ⟨n0_25, hI0_25⟩, hst_25⟩ := hf
    have main_25 : ∀ (n : Nat) (x1 : Int32) (x2 : Int32) (x3 : Int32) (s0 : CS) (H : Heap) (locs : List Loc) (ls : Array Slot), I_25 n (x1, x2, x3, s0) → va_P D classes (wM cI cZ q0 s0) H → va_D A (wM cI cZ q0 s0) → va_S A s.heap H locs → lv_has ls 5 [(0, .ref (q0 0)), (1, .int x1), (2, .int x2), (3, .int x3)] → W p l e (headSpec (wsA yX7_gnaw cX7_gnaw 5 (some .int)) ({ frames := 3, cells := 0, slots := 0, locals := 67 })).room s m (#[.ref (q0 0), .int p0, .int p1] : Array Value) below meth c H locs 0 0 (MQ below (va_Qi (fun (r : Int32) (u : CS) => Q r u) (fun u t => va_P D classes (wM cI cZ q0 u) t.heap) A) (#[.ref (q0 0), .int p0, .int p1] : Array Value) s 0 0 A) (F0 m 25 ls []) := by
      intro n
      induction n using Nat.strongRecOn with
      | _ n_25 ih_25 =>
      intro x1 x2 x3 s0 H locs ls hI hP hD hS hl
      have hf : LB_X7_gnaw_25 (fun z => ∃ k, k < n_25 ∧ I_25 k z)  x1 x2 x3 s0 Q := hst_25 n_25 (x1, x2, x3, s0) hI
      have hG_25 : ∀ (x1 : Int32) (x2 : Int32) (x3 : Int32) (s0 : CS) (H : Heap) (locs : List Loc) (ls : Array Slot), (∃ k, k < n_25 ∧ I_25 k (x1, x2, x3, s0)) → va_P D classes (wM cI cZ q0 s0) H → va_D A (wM cI cZ q0 s0) → va_S A s.heap H locs → lv_has ls 5 [(0, .ref (q0 0)), (1, .int x1), (2, .int x2), (3, .int x3)] → W p l e (headSpec (wsA yX7_gnaw cX7_gnaw 5 (some .int)) ({ frames := 3, cells := 0, slots := 0, locals := 67 })).room s m (#[.ref (q0 0), .int p0, .int p1] : Array Value) below meth c H locs 0 0 (MQ below (va_Qi (fun (r : Int32) (u : CS) => Q r u) (fun u t => va_P D classes (wM cI cZ q0 u) t.heap) A) (#[.ref (q0 0), .int p0, .int p1] : Array Value) s 0 0 A) (F0 m 25 ls []) := by
        rintro x1 x2 x3 s0 H locs ls ⟨k, hk, hI⟩ hP hD hS hl
        exact ih_25 k hk x1 x2 x3 s0 H locs ls hI hP hD hS hl
      unfold LB_X7_gnaw_25 at hf
      refine lv_iload_n hx hb dX7_gnaw_25 rfl (lv_at hl 3 rfl) ?_
      refine lv_bipush (v := (20 : Int32)) hx hb dX7_gnaw_26 (by decide) ?_
      refine lv_icmp_ge (tgt := 45) hx hb dX7_gnaw_28 (by decide) (fun c_9 => ?_) (fun c_9 => ?_)
      · have hf := hf.1 c_9
        refine lv_aload_n hx hb dX7_gnaw_45 rfl (lv_at hl 0 rfl) ?_
        refine va_get (D := D) (ci := 5) (v := .ref (q0 10)) (C := RX7) (T := TX7) (N := 28) hx hb ht inX7 hown hK hP 0 eM_0 rfl 20 (by decide) (ht _ tw_675) (fun _ h9 => h9) rfl dX7_gnaw_46 ?_
        refine lv_iload_n hx hb dX7_gnaw_49 rfl (lv_at hl 1 rfl) ?_
        refine lv_aload_n hx hb dX7_gnaw_50 rfl (lv_at hl 0 rfl) ?_
        refine lv_iload_n hx hb dX7_gnaw_51 rfl (lv_at hl 1 rfl) ?_
        have hPc : va_P D classes (wM cI cZ q0 s0) H := hP
        refine vp_callSi (W.runV (As := [.int x1]) (rest := [.int x1, .ref (q0 10)]) ⟨hx, hb, hml, hown, hts⟩ (c_X7_costOf l D cI cZ cW q0 x1 s0 _ hf) ⟨callB_of 1 hts (gA tw_915) rfl rfl rfl (ht _ tw_7) (ht _ tw_912) hd_X7_costOf ⟨Nat.le_of_ble_eq_true rfl, Nat.le_of_ble_eq_true rfl⟩, ht _ tw_914, ht _ twp_41⟩ ⟨PR_blind, va_recv hK hP (ci := 5) (q0 := 0) rfl eM_0, fun U hU hW => PR_mk hPc hK hU hW⟩ rfl rfl hl.1 rfl (lv_room (Nat.le_of_ble_eq_true rfl)) dX7_gnaw_52 ⟨Nat.zero_le _, Nat.zero_le _⟩) (fun r_10 hf => ?_)
        obtain ⟨hi_11, hf⟩ := hf
        refine va_iast hx hb hK hP hD hS 10 0 eM_10 rfl hi_11 dX7_gnaw_55 (fun H locs hP hD hS => ?_)
        obtain ⟨s0_12, es0_12⟩ : ∃ y : CS, y = sA s0 20 x1.toNatClampNeg r_10 := ⟨_, rfl⟩
        have hf := hf s0_12 es0_12
        have hD := hDk s0_12
        have hP : va_P D classes (wM cI cZ q0 s0_12) H := by rw [es0_12]; exact PM_F20 hP
        refine lv_aload_n hx hb dX7_gnaw_56 rfl (lv_at hl 0 rfl) ?_
        refine va_get (D := D) (ci := 5) (v := .ref (q0 10)) (C := RX7) (T := TX7) (N := 28) hx hb ht inX7 hown hK hP 0 eM_0 rfl 20 (by decide) (ht _ tw_675) (fun _ h9 => h9) rfl dX7_gnaw_57 ?_
        refine lv_iload_n hx hb dX7_gnaw_60 rfl (lv_at hl 1 rfl) ?_
        obtain ⟨hi_13, hf⟩ := hf
        refine va_iald hx hb hK hP 10 0 eM_10 rfl hi_13 dX7_gnaw_61 ?_
        refine lv_bipush (v := (-9 : Int32)) hx hb dX7_gnaw_62 (by decide) ?_
        refine lv_icmp_eq (tgt := 71) hx hb dX7_gnaw_64 (by decide) (fun c_14 => ?_) (fun c_14 => ?_)
        · have hf := hf.1 c_14
          refine lv_iconst (v := (0 : Int32)) hx hb dX7_gnaw_71 (by decide) ?_
          exact k_72 x2 (0 : Int32) s0_12 H locs ls hf hP hD hS (lv_sub hl [0, 2] rfl)
        · have hf := hf.2 c_14
          refine lv_iconst (v := (1 : Int32)) hx hb dX7_gnaw_67 (by decide) ?_
          refine lv_goto (tgt := 72) hx hb dX7_gnaw_68 (by decide) ?_
          exact k_72 x2 (1 : Int32) s0_12 H locs ls hf hP hD hS (lv_sub hl [0, 2] rfl)
      · have hf := hf.2 c_9
        refine lv_aload_n hx hb dX7_gnaw_31 rfl (lv_at hl 0 rfl) ?_
        refine va_get (D := D) (ci := 5) (v := .ref (q0 10)) (C := RX7) (T := TX7) (N := 28) hx hb ht inX7 hown hK hP 0 eM_0 rfl 20 (by decide) (ht _ tw_675) (fun _ h9 => h9) rfl dX7_gnaw_32 ?_
        refine lv_iload_n hx hb dX7_gnaw_35 rfl (lv_at hl 3 rfl) ?_
        refine lv_bipush (v := (-9 : Int32)) hx hb dX7_gnaw_36 (by decide) ?_
        obtain ⟨hi_15, hf⟩ := hf
        refine va_iast hx hb hK hP hD hS 10 0 eM_10 rfl hi_15 dX7_gnaw_38 (fun H locs hP hD hS => ?_)
        obtain ⟨s0_16, es0_16⟩ : ∃ y : CS, y = sA s0 20 x3.toNatClampNeg (-9 : Int32) := ⟨_, rfl⟩
        have hf := hf s0_16 es0_16
        have hD := hDk s0_16
        have hP : va_P D classes (wM cI cZ q0 s0_16) H := by rw [es0_16]; exact PM_F20 hP
        obtain ⟨x3_17, ex3_17⟩ : ∃ y : Int32, y = x3 + (1 : Int32) := ⟨_, rfl⟩
        have hf := hf x3_17 ex3_17
        refine lv_iinc (v := x3_17) (lv' := [(3, .int x3_17), (0, .ref (q0 0)), (1, .int x1), (2, .int x2)]) hx hb dX7_gnaw_39 hl (k := 3) rfl (by rw [ex3_17]; rfl) (by decide) rfl (fun ls hl => ?_)
        refine lv_goto (tgt := 25) hx hb dX7_gnaw_42 (by decide) ?_
        exact hG_25 x1 x2 x3_17 s0_16 H locs ls hf hP hD hS (lv_sub hl [1, 2, 3, 0] rfl)
    exact main_25 n0_25 x1 x2 x3 s0 H locs ls hI0_25 hP hD hS hl
  have start : ∀ (H : Heap) (locs : List Loc), va_P D classes (wM cI cZ q0 s0) H → va_D A (wM cI cZ q0 s0) → va_S A s.heap H locs → W p l e (headSpec (wsA yX7_gnaw cX7_gnaw 5 (some .int)) ({ frames := 3, cells := 0, slots := 0, locals := 67 })).room s m (#[.ref (q0 0), .int p0, .int p1] : Array Value) below meth c H locs 0 0 (MQ below (va_Qi (fun (r : Int32) (u : CS) => Q r u) (fun u t => va_P D classes (wM cI cZ q0 u) t.heap) A) (#[.ref (q0 0), .int p0, .int p1] : Array Value) s 0 0 A) (F0 m 0 ls []) := by
    intro H locs hP hD hS
    refine lv_iload_n hx hb dX7_gnaw_0 rfl (lv_at hl 1 rfl) ?_
    have hPc : va_P D classes ([] : va_W) H := hP.sub [] rfl
    refine vp_callSi (W.runS (As := [.int p0]) (rest := []) ⟨hx, hb, hml, hown, hts⟩ (c_X7_isCell l D cI cZ cW  p0 _ hf) ⟨callB_of 1 hts (gA tw_814) rfl rfl rfl (ht _ tw_7) (ht _ tw_812) hd_X7_isCell ⟨Nat.le_of_ble_eq_true rfl, Nat.le_of_ble_eq_true rfl⟩, ht _ tw_813⟩ ⟨PR_blind, fun U hU hW => PR_mk hPc hK hU hW⟩ rfl rfl hl.1 rfl (lv_room (Nat.le_of_ble_eq_true rfl)) dX7_gnaw_1 ⟨Nat.zero_le _, Nat.zero_le _⟩) (fun r_18 hf => ?_)
    refine lv_if_eq (tgt := 14) hx hb dX7_gnaw_4 (by decide) (fun c_19 => ?_) (fun c_19 => ?_)
    · have hf := hf.1 c_19
      refine lv_iconst (v := (-1 : Int32)) hx hb dX7_gnaw_14 (by decide) ?_
      exact W.iret (v := (-1 : Int32)) hx hb hr (fun t ht hW => ⟨⟨(-1 : Int32), s0, rfl, hf, P_heap ht hP⟩, hS.F ht⟩) hS.2.2 dX7_gnaw_15
    · have hf := hf.2 c_19
      refine lv_iload_n hx hb dX7_gnaw_7 rfl (lv_at hl 2 rfl) ?_
      have hPc : va_P D classes ([] : va_W) H := hP.sub [] rfl
      refine vp_callSi (W.runS (As := [.int p1]) (rest := []) ⟨hx, hb, hml, hown, hts⟩ (c_X7_isCell l D cI cZ cW  p1 _ hf) ⟨callB_of 1 hts (gA tw_814) rfl rfl rfl (ht _ tw_7) (ht _ tw_812) hd_X7_isCell ⟨Nat.le_of_ble_eq_true rfl, Nat.le_of_ble_eq_true rfl⟩, ht _ tw_813⟩ ⟨PR_blind, fun U hU hW => PR_mk hPc hK hU hW⟩ rfl rfl hl.1 rfl (lv_room (Nat.le_of_ble_eq_true rfl)) dX7_gnaw_8 ⟨Nat.zero_le _, Nat.zero_le _⟩) (fun r_20 hf => ?_)
      refine lv_if_ne (tgt := 16) hx hb dX7_gnaw_11 (by decide) (fun c_21 => ?_) (fun c_21 => ?_)
      · have hf := hf.1 c_21
        refine lv_iload_n hx hb dX7_gnaw_16 rfl (lv_at hl 1 rfl) ?_
        refine lv_iload_n hx hb dX7_gnaw_17 rfl (lv_at hl 2 rfl) ?_
        refine lv_icmp_ne (tgt := 23) hx hb dX7_gnaw_18 (by decide) (fun c_22 => ?_) (fun c_22 => ?_)
        · have hf := hf.1 c_22
          refine lv_iconst (v := (0 : Int32)) hx hb dX7_gnaw_23 (by decide) ?_
          refine lv_istore_n (lv' := [(3, .int (0 : Int32)), (0, .ref (q0 0)), (1, .int p0), (2, .int p1)]) hx hb dX7_gnaw_24 rfl hl (by decide) rfl (fun ls hl => ?_)
          exact k_25 p0 p1 (0 : Int32) s0 H locs ls hf hP hD hS (lv_sub hl [1, 2, 3, 0] rfl)
        · have hf := hf.2 c_22
          refine lv_iconst (v := (0 : Int32)) hx hb dX7_gnaw_21 (by decide) ?_
          exact W.iret (v := (0 : Int32)) hx hb hr (fun t ht hW => ⟨⟨(0 : Int32), s0, rfl, hf, P_heap ht hP⟩, hS.F ht⟩) hS.2.2 dX7_gnaw_22
      · have hf := hf.2 c_21
        refine lv_iconst (v := (-1 : Int32)) hx hb dX7_gnaw_14 (by decide) ?_
        exact W.iret (v := (-1 : Int32)) hx hb hr (fun t ht hW => ⟨⟨(-1 : Int32), s0, rfl, hf, P_heap ht hP⟩, hS.F ht⟩) hS.2.2 dX7_gnaw_15
  exact start s.heap [] hP hD hS
def LB_X7_layTrial_2 (G2 : (Int32 × CS) → Prop)  (x1 : Int32) (s0 : CS) (Q : CS → Prop) : Prop := (((35 : Int32) ≤ x1 → Q s0) ∧ (¬ (35 : Int32) ≤ x1 → vp_in x1 70 ∧ vp_in ((35 : Int32) + x1) 70 ∧ ∀ s0_4 : CS, s0_4 = sA s0 5 ((35 : Int32) + x1).toNatClampNeg ((s0.2.1 5) x1.toNatClampNeg) → ∀ x1_5 : Int32, x1_5 = x1 + (1 : Int32) → G2 (x1_5, s0_4)))
def B_X7_layTrial_2  (x1 : Int32) (s0 : CS) (Q : CS → Prop) : Prop := LOOP (fun (G2 : (Int32 × CS) → Prop) z => LB_X7_layTrial_2 G2  z.1 z.2 Q) (x1, s0)
def wp_X7_layTrial (s0 : CS) (Q : CS → Prop) : Prop := B_X7_layTrial_2  (0 : Int32) s0 Q
set_option maxHeartbeats 4000000 in
set_option maxRecDepth 100000 in
theorem c_X7_layTrial (l : Launch) (D : va_G) (cI cZ cW : ClassId) (q0 : Nat → Nat) (sz : Nat) (s0 : CS) (Q : CS → Prop) (hf : wp_X7_layTrial s0 Q) : Met l yX7_layTrial (wsA yX7_layTrial cX7_layTrial 2 none) ({ frames := 0, cells := 0, slots := 0, locals := 0 }) (PW D cI cZ cW [.ref (q0 0)] (wM cI cZ q0 s0) sz) (va_Qv (fun (u : CS) => Q u) (fun u t => va_P D classes (wM cI cZ q0 u) t.heap) (va_A (wM cI cZ q0 s0) sz)) 0 0 (va_A (wM cI cZ q0 s0) sz) := by
  refine Met.ofW (cc := cX7_layTrial) (maxL := 2) (ret := none) (by decide) rfl ?_
  intro p e s m args below meth c s₁ B hml hv
  obtain ⟨rfl, hsz, hP, hK, hD0⟩ := hv
  have hx := B.exec
  have hb := B.bytes
  have hr := B.returns
  have hts := atoms_spec (ws := (wsA yX7_layTrial cX7_layTrial 2 none)) B.pre
  have ht : ∀ w ∈ lw_g, w.before _ s = true := fun w h => hts w (List.mem_cons_of_mem _ h)
  have hown : s.vm.findClass RX7 = some m.cls := findClass_of_methodNamed B.named
  have hlocks := B.notSynchronized
  subst hsz
  have hD := hD0.self (sz := s.heap.size)
  generalize hAe : va_A (wM cI cZ q0 s0) s.heap.size = A at hD ⊢
  have hA : ∀ q : Nat, s.heap.size ≤ q → A q := fun q h => by rw [← hAe]; exact Or.inr h
  have hS : va_S A s.heap s.heap [] := va_S.rf
  have hDk : ∀ w : CS, va_D A (wM cI cZ q0 w) := fun w => D_M hD
  have hl := lv_entry ([.ref (q0 0)]) (n := 2) (Nat.le_of_ble_eq_true rfl)
  rw [lg_entry_eq]
  generalize (lg_sl ([.ref (q0 0)]) ++ List.replicate (2 - (lg_sl ([.ref (q0 0)])).length) Slot.unset).toArray = ls at hl ⊢
  have hl : lv_has ls 2 [(0, .ref (q0 0))] := hl
  unfold wp_X7_layTrial at hf
  have k_2 : ∀ (x1 : Int32) (s0 : CS) (H : Heap) (locs : List Loc) (ls : Array Slot), B_X7_layTrial_2  x1 s0 Q → va_P D classes (wM cI cZ q0 s0) H → va_D A (wM cI cZ q0 s0) → va_S A s.heap H locs → lv_has ls 2 [(0, .ref (q0 0)), (1, .int x1)] → W p l e (headSpec (wsA yX7_layTrial cX7_layTrial 2 none) ({ frames := 0, cells := 0, slots := 0, locals := 0 })).room s m (#[.ref (q0 0)] : Array Value) below meth c H locs 0 0 (MQ below (va_Qv (fun (u : CS) => Q u) (fun u t => va_P D classes (wM cI cZ q0 u) t.heap) A) (#[.ref (q0 0)] : Array Value) s 0 0 A) (F0 m 2 ls []) := by
    intro x1 s0 H locs ls hf hP hD hS hl
    unfold B_X7_layTrial_2 at hf
    obtain ⟨I_2, ⟨n0_2, hI0_2⟩, hst_2⟩ := hf
    have main_2 : ∀ (n : Nat) (x1 : Int32) (s0 : CS) (H : Heap) (locs : List Loc) (ls : Array Slot), I_2 n (x1, s0) → va_P D classes (wM cI cZ q0 s0) H → va_D A (wM cI cZ q0 s0) → va_S A s.heap H locs → lv_has ls 2 [(0, .ref (q0 0)), (1, .int x1)] → W p l e (headSpec (wsA yX7_layTrial cX7_layTrial 2 none) ({ frames := 0, cells := 0, slots := 0, locals := 0 })).room s m (#[.ref (q0 0)] : Array Value) below meth c H locs 0 0 (MQ below (va_Qv (fun (u : CS) => Q u) (fun u t => va_P D classes (wM cI cZ q0 u) t.heap) A) (#[.ref (q0 0)] : Array Value) s 0 0 A) (F0 m 2 ls []) := by
      intro n
      induction n using Nat.strongRecOn with
      | _ n_2 ih_2 =>
      intro x1 s0 H locs ls hI hP hD hS hl
      have hf : LB_X7_layTrial_2 (fun z => ∃ k, k < n_2 ∧ I_2 k z)  x1 s0 Q := hst_2 n_2 (x1, s0) hI
      have hG_2 : ∀ (x1 : Int32) (s0 : CS) (H : Heap) (locs : List Loc) (ls : Array Slot), (∃ k, k < n_2 ∧ I_2 k (x1, s0)) → va_P D classes (wM cI cZ q0 s0) H → va_D A (wM cI cZ q0 s0) → va_S A s.heap H locs → lv_has ls 2 [(0, .ref (q0 0)), (1, .int x1)] → W p l e (headSpec (wsA yX7_layTrial cX7_layTrial 2 none) ({ frames := 0, cells := 0, slots := 0, locals := 0 })).room s m (#[.ref (q0 0)] : Array Value) below meth c H locs 0 0 (MQ below (va_Qv (fun (u : CS) => Q u) (fun u t => va_P D classes (wM cI cZ q0 u) t.heap) A) (#[.ref (q0 0)] : Array Value) s 0 0 A) (F0 m 2 ls []) := by
        rintro x1 s0 H locs ls ⟨k, hk, hI⟩ hP hD hS hl
        exact ih_2 k hk x1 s0 H locs ls hI hP hD hS hl
      unfold LB_X7_layTrial_2 at hf
      refine lv_iload_n hx hb dX7_layTrial_2 rfl (lv_at hl 1 rfl) ?_
      refine lv_bipush (v := (35 : Int32)) hx hb dX7_layTrial_3 (by decide) ?_
      refine lv_icmp_ge (tgt := 29) hx hb dX7_layTrial_5 (by decide) (fun c_1 => ?_) (fun c_1 => ?_)
      · have hf := hf.1 c_1
        exact W.vret hx hb hr (fun t ht hW => ⟨⟨s0, rfl, hf, P_heap ht hP⟩, hS.F ht⟩) hS.2.2 dX7_layTrial_29
      · have hf := hf.2 c_1
        refine lv_aload_n hx hb dX7_layTrial_8 rfl (lv_at hl 0 rfl) ?_
        refine va_get (D := D) (ci := 5) (v := .ref (q0 4)) (C := RX7) (T := TX7) (N := 28) hx hb ht inX7 hown hK hP 0 eM_0 rfl 5 (by decide) (ht _ tw_660) (fun _ h9 => h9) rfl dX7_layTrial_9 ?_
        refine lv_bipush (v := (35 : Int32)) hx hb dX7_layTrial_12 (by decide) ?_
        refine lv_iload_n hx hb dX7_layTrial_14 rfl (lv_at hl 1 rfl) ?_
        refine lv_iadd hx hb dX7_layTrial_15 ?_
        refine lv_aload_n hx hb dX7_layTrial_16 rfl (lv_at hl 0 rfl) ?_
        refine va_get (D := D) (ci := 5) (v := .ref (q0 4)) (C := RX7) (T := TX7) (N := 28) hx hb ht inX7 hown hK hP 0 eM_0 rfl 5 (by decide) (ht _ tw_660) (fun _ h9 => h9) rfl dX7_layTrial_17 ?_
        refine lv_iload_n hx hb dX7_layTrial_20 rfl (lv_at hl 1 rfl) ?_
        obtain ⟨hi_2, hf⟩ := hf
        refine va_iald hx hb hK hP 4 0 eM_4 rfl hi_2 dX7_layTrial_21 ?_
        obtain ⟨hi_3, hf⟩ := hf
        refine va_iast hx hb hK hP hD hS 4 0 eM_4 rfl hi_3 dX7_layTrial_22 (fun H locs hP hD hS => ?_)
        obtain ⟨s0_4, es0_4⟩ : ∃ y : CS, y = sA s0 5 ((35 : Int32) + x1).toNatClampNeg ((s0.2.1 5) x1.toNatClampNeg) := ⟨_, rfl⟩
        have hf := hf s0_4 es0_4
        have hD := hDk s0_4
        have hP : va_P D classes (wM cI cZ q0 s0_4) H := by rw [es0_4]; exact PM_F5 hP
        obtain ⟨x1_5, ex1_5⟩ : ∃ y : Int32, y = x1 + (1 : Int32) := ⟨_, rfl⟩
        have hf := hf x1_5 ex1_5
        refine lv_iinc (v := x1_5) (lv' := [(1, .int x1_5), (0, .ref (q0 0))]) hx hb dX7_layTrial_23 hl (k := 1) rfl (by rw [ex1_5]; rfl) (by decide) rfl (fun ls hl => ?_)
        refine lv_goto (tgt := 2) hx hb dX7_layTrial_26 (by decide) ?_
        exact hG_2 x1_5 s0_4 H locs ls hf hP hD hS (lv_sub hl [1, 0] rfl)
    exact main_2 n0_2 x1 s0 H locs ls hI0_2 hP hD hS hl
  have start : ∀ (H : Heap) (locs : List Loc), va_P D classes (wM cI cZ q0 s0) H → va_D A (wM cI cZ q0 s0) → va_S A s.heap H locs → W p l e (headSpec (wsA yX7_layTrial cX7_layTrial 2 none) ({ frames := 0, cells := 0, slots := 0, locals := 0 })).room s m (#[.ref (q0 0)] : Array Value) below meth c H locs 0 0 (MQ below (va_Qv (fun (u : CS) => Q u) (fun u t => va_P D classes (wM cI cZ q0 u) t.heap) A) (#[.ref (q0 0)] : Array Value) s 0 0 A) (F0 m 0 ls []) := by
    intro H locs hP hD hS
    refine lv_iconst (v := (0 : Int32)) hx hb dX7_layTrial_0 (by decide) ?_
    refine lv_istore_n (lv' := [(1, .int (0 : Int32)), (0, .ref (q0 0))]) hx hb dX7_layTrial_1 rfl hl (by decide) rfl (fun ls hl => ?_)
    exact k_2 (0 : Int32) s0 H locs ls hf hP hD hS (lv_sub hl [1, 0] rfl)
  exact start s.heap [] hP hD hS
def LB_X7_wedding_32 (G32 : (Int32 × Int32 × Int32 × CS) → Prop)  (x1 : Int32) (x2 : Int32) (x3 : Int32) (s0 : CS) (Q : Int32 → CS → Prop) : Prop := (((21 : Int32) ≤ x3 → Q (-9 : Int32) s0) ∧ (¬ (21 : Int32) ≤ x3 → vp_in ((55 : Int32) + x1) 70 ∧ ((((s0.2.1 5) ((55 : Int32) + x1).toNatClampNeg) = (-9 : Int32) → Q x3 s0) ∧ (¬ ((s0.2.1 5) ((55 : Int32) + x1).toNatClampNeg) = (-9 : Int32) → vp_in ((55 : Int32) + x2) 70 ∧ ((¬ ((s0.2.1 5) ((55 : Int32) + x2).toNatClampNeg) = (-9 : Int32) → wp_X7_passOn (1 : Int32) s0 (fun r_7 s0_6 => ∀ x3_8 : Int32, x3_8 = x3 + (1 : Int32) → G32 (x1, x2, x3_8, s0_6))) ∧ (((s0.2.1 5) ((55 : Int32) + x2).toNatClampNeg) = (-9 : Int32) → Q x3 s0))))))
def B_X7_wedding_32  (x1 : Int32) (x2 : Int32) (x3 : Int32) (s0 : CS) (Q : Int32 → CS → Prop) : Prop := LOOP (fun (G32 : (Int32 × Int32 × Int32 × CS) → Prop) z => LB_X7_wedding_32 G32  z.1 z.2.1 z.2.2.1 z.2.2.2 Q) (x1, x2, x3, s0)
def wp_X7_wedding (p0 : Int32) (p1 : Int32) (s0 : CS) (Q : Int32 → CS → Prop) : Prop := wp_X7_isHole p0 s0 (fun r_9 => ((r_9 = 0 → Q (-1 : Int32) s0) ∧ (¬ r_9 = 0 → wp_X7_isHole p1 s0 (fun r_11 => ((¬ r_11 = 0 → ((¬ p0 = p1 → wp_X7_layTrial s0 (fun s0_14 => B_X7_wedding_32  p0 p1 (0 : Int32) s0_14 Q)) ∧ (p0 = p1 → Q (-2 : Int32) s0))) ∧ (r_11 = 0 → Q (-1 : Int32) s0))))))
set_option maxHeartbeats 4000000 in
set_option maxRecDepth 100000 in
theorem c_X7_wedding (l : Launch) (D : va_G) (cI cZ cW : ClassId) (q0 : Nat → Nat) (sz : Nat) (p0 : Int32) (p1 : Int32) (s0 : CS) (Q : Int32 → CS → Prop) (hf : wp_X7_wedding p0 p1 s0 Q) : Met l yX7_wedding (wsA yX7_wedding cX7_wedding 4 (some .int)) ({ frames := 5, cells := 0, slots := 0, locals := 117 }) (PW D cI cZ cW [.ref (q0 0), .int p0, .int p1] (wM cI cZ q0 s0) sz) (va_Qi (fun (r : Int32) (u : CS) => Q r u) (fun u t => va_P D classes (wM cI cZ q0 u) t.heap) (va_A (wM cI cZ q0 s0) sz)) 0 0 (va_A (wM cI cZ q0 s0) sz) := by
  refine Met.ofW (cc := cX7_wedding) (maxL := 4) (ret := (some .int)) (by decide) rfl ?_
  intro p e s m args below meth c s₁ B hml hv
  obtain ⟨rfl, hsz, hP, hK, hD0⟩ := hv
  have hx := B.exec
  have hb := B.bytes
  have hr := B.returns
  have hts := atoms_spec (ws := (wsA yX7_wedding cX7_wedding 4 (some .int))) B.pre
  have ht : ∀ w ∈ lw_g, w.before _ s = true := fun w h => hts w (List.mem_cons_of_mem _ h)
  have hown : s.vm.findClass RX7 = some m.cls := findClass_of_methodNamed B.named
  have hlocks := B.notSynchronized
  subst hsz
  have hD := hD0.self (sz := s.heap.size)
  generalize hAe : va_A (wM cI cZ q0 s0) s.heap.size = A at hD ⊢
  have hA : ∀ q : Nat, s.heap.size ≤ q → A q := fun q h => by rw [← hAe]; exact Or.inr h
  have hS : va_S A s.heap s.heap [] := va_S.rf
  have hDk : ∀ w : CS, va_D A (wM cI cZ q0 w) := fun w => D_M hD
  have hl := lv_entry ([.ref (q0 0), .int p0, .int p1]) (n := 4) (Nat.le_of_ble_eq_true rfl)
  rw [lg_entry_eq]
  generalize (lg_sl ([.ref (q0 0), .int p0, .int p1]) ++ List.replicate (4 - (lg_sl ([.ref (q0 0), .int p0, .int p1])).length) Slot.unset).toArray = ls at hl ⊢
  have hl : lv_has ls 4 [(0, .ref (q0 0)), (1, .int p0), (2, .int p1)] := hl
  unfold wp_X7_wedding at hf
  have k_32 : ∀ (x1 : Int32) (x2 : Int32) (x3 : Int32) (s0 : CS) (H : Heap) (locs : List Loc) (ls : Array Slot), B_X7_wedding_32  x1 x2 x3 s0 Q → va_P D classes (wM cI cZ q0 s0) H → va_D A (wM cI cZ q0 s0) → va_S A s.heap H locs → lv_has ls 4 [(0, .ref (q0 0)), (1, .int x1), (2, .int x2), (3, .int x3)] → W p l e (headSpec (wsA yX7_wedding cX7_wedding 4 (some .int)) ({ frames := 5, cells := 0, slots := 0, locals := 117 })).room s m (#[.ref (q0 0), .int p0, .int p1] : Array Value) below meth c H locs 0 0 (MQ below (va_Qi (fun (r : Int32) (u : CS) => Q r u) (fun u t => va_P D classes (wM cI cZ q0 u) t.heap) A) (#[.ref (q0 0), .int p0, .int p1] : Array Value) s 0 0 A) (F0 m 32 ls []) := by
    intro x1 x2 x3 s0 H locs ls hf hP hD hS hl
    unfold B_X7_wedding_32 at hf
    obtain ⟨I_32, ⟨n0_32, hI0_32⟩, hst_32⟩ := hf
    have main_32 : ∀ (n : Nat) (x1 : Int32) (x2 : Int32) (x3 : Int32) (s0 : CS) (H : Heap) (locs : List Loc) (ls : Array Slot), I_32 n (x1, x2, x3, s0) → va_P D classes (wM cI cZ q0 s0) H → va_D A (wM cI cZ q0 s0) → va_S A s.heap H locs → lv_has ls 4 [(0, .ref (q0 0)), (1, .int x1), (2, .int x2), (3, .int x3)] → W p l e (headSpec (wsA yX7_wedding cX7_wedding 4 (some .int)) ({ frames := 5, cells := 0, slots := 0, locals := 117 })).room s m (#[.ref (q0 0), .int p0, .int p1] : Array Value) below meth c H locs 0 0 (MQ below (va_Qi (fun (r : Int32) (u : CS) => Q r u) (fun u t => va_P D classes (wM cI cZ q0 u) t.heap) A) (#[.ref (q0 0), .int p0, .int p1] : Array Value) s 0 0 A) (F0 m 32 ls []) := by
      intro n
      induction n using Nat.strongRecOn with
      | _ n_32 ih_32 =>
      intro x1 x2 x3 s0 H locs ls hI hP hD hS hl
      have hf : LB_X7_wedding_32 (fun z => ∃ k, k < n_32 ∧ I_32 k z)  x1 x2 x3 s0 Q := hst_32 n_32 (x1, x2, x3, s0) hI
      have hG_32 : ∀ (x1 : Int32) (x2 : Int32) (x3 : Int32) (s0 : CS) (H : Heap) (locs : List Loc) (ls : Array Slot), (∃ k, k < n_32 ∧ I_32 k (x1, x2, x3, s0)) → va_P D classes (wM cI cZ q0 s0) H → va_D A (wM cI cZ q0 s0) → va_S A s.heap H locs → lv_has ls 4 [(0, .ref (q0 0)), (1, .int x1), (2, .int x2), (3, .int x3)] → W p l e (headSpec (wsA yX7_wedding cX7_wedding 4 (some .int)) ({ frames := 5, cells := 0, slots := 0, locals := 117 })).room s m (#[.ref (q0 0), .int p0, .int p1] : Array Value) below meth c H locs 0 0 (MQ below (va_Qi (fun (r : Int32) (u : CS) => Q r u) (fun u t => va_P D classes (wM cI cZ q0 u) t.heap) A) (#[.ref (q0 0), .int p0, .int p1] : Array Value) s 0 0 A) (F0 m 32 ls []) := by
        rintro x1 x2 x3 s0 H locs ls ⟨k, hk, hI⟩ hP hD hS hl
        exact ih_32 k hk x1 x2 x3 s0 H locs ls hI hP hD hS hl
      unfold LB_X7_wedding_32 at hf
      refine lv_iload_n hx hb dX7_wedding_32 rfl (lv_at hl 3 rfl) ?_
      refine lv_bipush (v := (21 : Int32)) hx hb dX7_wedding_33 (by decide) ?_
      refine lv_icmp_ge (tgt := 80) hx hb dX7_wedding_35 (by decide) (fun c_1 => ?_) (fun c_1 => ?_)
      · have hf := hf.1 c_1
        refine lv_bipush (v := (-9 : Int32)) hx hb dX7_wedding_80 (by decide) ?_
        exact W.iret (v := (-9 : Int32)) hx hb hr (fun t ht hW => ⟨⟨(-9 : Int32), s0, rfl, hf, P_heap ht hP⟩, hS.F ht⟩) hS.2.2 dX7_wedding_82
      · have hf := hf.2 c_1
        refine lv_aload_n hx hb dX7_wedding_38 rfl (lv_at hl 0 rfl) ?_
        refine va_get (D := D) (ci := 5) (v := .ref (q0 4)) (C := RX7) (T := TX7) (N := 28) hx hb ht inX7 hown hK hP 0 eM_0 rfl 5 (by decide) (ht _ tw_660) (fun _ h9 => h9) rfl dX7_wedding_39 ?_
        refine lv_bipush (v := (55 : Int32)) hx hb dX7_wedding_42 (by decide) ?_
        refine lv_iload_n hx hb dX7_wedding_44 rfl (lv_at hl 1 rfl) ?_
        refine lv_iadd hx hb dX7_wedding_45 ?_
        obtain ⟨hi_2, hf⟩ := hf
        refine va_iald hx hb hK hP 4 0 eM_4 rfl hi_2 dX7_wedding_46 ?_
        refine lv_bipush (v := (-9 : Int32)) hx hb dX7_wedding_47 (by decide) ?_
        refine lv_icmp_eq (tgt := 66) hx hb dX7_wedding_49 (by decide) (fun c_3 => ?_) (fun c_3 => ?_)
        · have hf := hf.1 c_3
          refine lv_iload_n hx hb dX7_wedding_66 rfl (lv_at hl 3 rfl) ?_
          exact W.iret (v := x3) hx hb hr (fun t ht hW => ⟨⟨x3, s0, rfl, hf, P_heap ht hP⟩, hS.F ht⟩) hS.2.2 dX7_wedding_67
        · have hf := hf.2 c_3
          refine lv_aload_n hx hb dX7_wedding_52 rfl (lv_at hl 0 rfl) ?_
          refine va_get (D := D) (ci := 5) (v := .ref (q0 4)) (C := RX7) (T := TX7) (N := 28) hx hb ht inX7 hown hK hP 0 eM_0 rfl 5 (by decide) (ht _ tw_660) (fun _ h9 => h9) rfl dX7_wedding_53 ?_
          refine lv_bipush (v := (55 : Int32)) hx hb dX7_wedding_56 (by decide) ?_
          refine lv_iload_n hx hb dX7_wedding_58 rfl (lv_at hl 2 rfl) ?_
          refine lv_iadd hx hb dX7_wedding_59 ?_
          obtain ⟨hi_4, hf⟩ := hf
          refine va_iald hx hb hK hP 4 0 eM_4 rfl hi_4 dX7_wedding_60 ?_
          refine lv_bipush (v := (-9 : Int32)) hx hb dX7_wedding_61 (by decide) ?_
          refine lv_icmp_ne (tgt := 68) hx hb dX7_wedding_63 (by decide) (fun c_5 => ?_) (fun c_5 => ?_)
          · have hf := hf.1 c_5
            refine lv_aload_n hx hb dX7_wedding_68 rfl (lv_at hl 0 rfl) ?_
            refine lv_iconst (v := (1 : Int32)) hx hb dX7_wedding_69 (by decide) ?_
            have hPc : va_P D classes (wM cI cZ q0 s0) H := hP
            have hDc : va_D A (wM cI cZ q0 s0) := hD
            have hFc := va_free (wc := (wM cI cZ q0 s0)) hD hS hA [0, 1, 2, 3, 4, 5, 6, 7, 8, 9, 10, 11, 12, 13, 14, 15] rfl
            refine va_calli (va_runV (As := [.int (1 : Int32)]) (rest := []) ⟨hx, hb, hml, hown, hts⟩ (c_X7_passOn l D cI cZ cW q0 H.size (1 : Int32) s0 _ hf) ⟨callB_of 1 hts (gA tw_826) rfl rfl rfl (ht _ tw_7) (ht _ tw_823) hd_X7_passOn ⟨Nat.le_of_ble_eq_true rfl, Nat.le_of_ble_eq_true rfl⟩, ht _ tw_825, ht _ twp_27⟩ ⟨PW_blind, va_recv hK hP (ci := 5) (q0 := 0) rfl eM_0, fun U hU hW => PW_mk hPc hDc hK hU hW⟩ rfl rfl hl.1 rfl (lv_room (Nat.le_of_ble_eq_true rfl)) dX7_wedding_70 ⟨Nat.zero_le _, Nat.zero_le _⟩) hS (fun q _ h => hFc q h) hFc (fun r_7 u t H1 locs ht1 hvm hf hB hz1 hk1 hS => ?_)
            obtain ⟨s0_6, rfl⟩ : ∃ z, z = u := ⟨_, rfl⟩
            rw [ht1] at hB
            have hP := hB
            have hD := hDk s0_6
            generalize H1 = H at hP hS ⊢
            have hP : va_P D classes (wM cI cZ q0 s0_6) H := hP
            have hD : va_D A (wM cI cZ q0 s0_6) := hD
            refine lv_pop hx hb dX7_wedding_73 rfl ?_
            obtain ⟨x3_8, ex3_8⟩ : ∃ y : Int32, y = x3 + (1 : Int32) := ⟨_, rfl⟩
            have hf := hf x3_8 ex3_8
            refine lv_iinc (v := x3_8) (lv' := [(3, .int x3_8), (0, .ref (q0 0)), (1, .int x1), (2, .int x2)]) hx hb dX7_wedding_74 hl (k := 3) rfl (by rw [ex3_8]; rfl) (by decide) rfl (fun ls hl => ?_)
            refine lv_goto (tgt := 32) hx hb dX7_wedding_77 (by decide) ?_
            exact hG_32 x1 x2 x3_8 s0_6 H locs ls hf hP hD hS (lv_sub hl [1, 2, 3, 0] rfl)
          · have hf := hf.2 c_5
            refine lv_iload_n hx hb dX7_wedding_66 rfl (lv_at hl 3 rfl) ?_
            exact W.iret (v := x3) hx hb hr (fun t ht hW => ⟨⟨x3, s0, rfl, hf, P_heap ht hP⟩, hS.F ht⟩) hS.2.2 dX7_wedding_67
    exact main_32 n0_32 x1 x2 x3 s0 H locs ls hI0_32 hP hD hS hl
  have start : ∀ (H : Heap) (locs : List Loc), va_P D classes (wM cI cZ q0 s0) H → va_D A (wM cI cZ q0 s0) → va_S A s.heap H locs → W p l e (headSpec (wsA yX7_wedding cX7_wedding 4 (some .int)) ({ frames := 5, cells := 0, slots := 0, locals := 117 })).room s m (#[.ref (q0 0), .int p0, .int p1] : Array Value) below meth c H locs 0 0 (MQ below (va_Qi (fun (r : Int32) (u : CS) => Q r u) (fun u t => va_P D classes (wM cI cZ q0 u) t.heap) A) (#[.ref (q0 0), .int p0, .int p1] : Array Value) s 0 0 A) (F0 m 0 ls []) := by
    intro H locs hP hD hS
    refine lv_aload_n hx hb dX7_wedding_0 rfl (lv_at hl 0 rfl) ?_
    refine lv_iload_n hx hb dX7_wedding_1 rfl (lv_at hl 1 rfl) ?_
    have hPc : va_P D classes (wM cI cZ q0 s0) H := hP
    refine vp_callSi (W.runV (As := [.int p0]) (rest := []) ⟨hx, hb, hml, hown, hts⟩ (c_X7_isHole l D cI cZ cW q0 p0 s0 _ hf) ⟨callB_of 1 hts (gA tw_803) rfl rfl rfl (ht _ tw_7) (ht _ tw_800) hd_X7_isHole ⟨Nat.le_of_ble_eq_true rfl, Nat.le_of_ble_eq_true rfl⟩, ht _ tw_802, ht _ twp_24⟩ ⟨PR_blind, va_recv hK hP (ci := 5) (q0 := 0) rfl eM_0, fun U hU hW => PR_mk hPc hK hU hW⟩ rfl rfl hl.1 rfl (lv_room (Nat.le_of_ble_eq_true rfl)) dX7_wedding_2 ⟨Nat.zero_le _, Nat.zero_le _⟩) (fun r_9 hf => ?_)
    refine lv_if_eq (tgt := 16) hx hb dX7_wedding_5 (by decide) (fun c_10 => ?_) (fun c_10 => ?_)
    · have hf := hf.1 c_10
      refine lv_iconst (v := (-1 : Int32)) hx hb dX7_wedding_16 (by decide) ?_
      exact W.iret (v := (-1 : Int32)) hx hb hr (fun t ht hW => ⟨⟨(-1 : Int32), s0, rfl, hf, P_heap ht hP⟩, hS.F ht⟩) hS.2.2 dX7_wedding_17
    · have hf := hf.2 c_10
      refine lv_aload_n hx hb dX7_wedding_8 rfl (lv_at hl 0 rfl) ?_
      refine lv_iload_n hx hb dX7_wedding_9 rfl (lv_at hl 2 rfl) ?_
      have hPc : va_P D classes (wM cI cZ q0 s0) H := hP
      refine vp_callSi (W.runV (As := [.int p1]) (rest := []) ⟨hx, hb, hml, hown, hts⟩ (c_X7_isHole l D cI cZ cW q0 p1 s0 _ hf) ⟨callB_of 1 hts (gA tw_803) rfl rfl rfl (ht _ tw_7) (ht _ tw_800) hd_X7_isHole ⟨Nat.le_of_ble_eq_true rfl, Nat.le_of_ble_eq_true rfl⟩, ht _ tw_802, ht _ twp_24⟩ ⟨PR_blind, va_recv hK hP (ci := 5) (q0 := 0) rfl eM_0, fun U hU hW => PR_mk hPc hK hU hW⟩ rfl rfl hl.1 rfl (lv_room (Nat.le_of_ble_eq_true rfl)) dX7_wedding_10 ⟨Nat.zero_le _, Nat.zero_le _⟩) (fun r_11 hf => ?_)
      refine lv_if_ne (tgt := 18) hx hb dX7_wedding_13 (by decide) (fun c_12 => ?_) (fun c_12 => ?_)
      · have hf := hf.1 c_12
        refine lv_iload_n hx hb dX7_wedding_18 rfl (lv_at hl 1 rfl) ?_
        refine lv_iload_n hx hb dX7_wedding_19 rfl (lv_at hl 2 rfl) ?_
        refine lv_icmp_ne (tgt := 26) hx hb dX7_wedding_20 (by decide) (fun c_13 => ?_) (fun c_13 => ?_)
        · have hf := hf.1 c_13
          refine lv_aload_n hx hb dX7_wedding_26 rfl (lv_at hl 0 rfl) ?_
          have hPc : va_P D classes (wM cI cZ q0 s0) H := hP
          have hDc : va_D A (wM cI cZ q0 s0) := hD
          have hFc := va_free (wc := (wM cI cZ q0 s0)) hD hS hA [0, 1, 2, 3, 4, 5, 6, 7, 8, 9, 10, 11, 12, 13, 14, 15] rfl
          refine va_callv (va_runV (As := []) (rest := []) ⟨hx, hb, hml, hown, hts⟩ (c_X7_layTrial l D cI cZ cW q0 H.size s0 _ hf) ⟨callB_of 0 hts (gA tw_927) rfl rfl rfl (ht _ tw_7) (ht _ tw_924) hd_X7_layTrial ⟨Nat.le_of_ble_eq_true rfl, Nat.le_of_ble_eq_true rfl⟩, ht _ tw_926, ht _ twp_43⟩ ⟨PW_blind, va_recv hK hP (ci := 5) (q0 := 0) rfl eM_0, fun U hU hW => PW_mk hPc hDc hK hU hW⟩ rfl rfl hl.1 rfl (lv_room (Nat.le_of_ble_eq_true rfl)) dX7_wedding_27 ⟨Nat.zero_le _, Nat.zero_le _⟩) hS (fun q _ h => hFc q h) hFc (fun u t H1 locs ht1 hvm hf hB hz1 hk1 hS => ?_)
          obtain ⟨s0_14, rfl⟩ : ∃ z, z = u := ⟨_, rfl⟩
          rw [ht1] at hB
          have hP := hB
          have hD := hDk s0_14
          generalize H1 = H at hP hS ⊢
          have hP : va_P D classes (wM cI cZ q0 s0_14) H := hP
          have hD : va_D A (wM cI cZ q0 s0_14) := hD
          refine lv_iconst (v := (0 : Int32)) hx hb dX7_wedding_30 (by decide) ?_
          refine lv_istore_n (lv' := [(3, .int (0 : Int32)), (0, .ref (q0 0)), (1, .int p0), (2, .int p1)]) hx hb dX7_wedding_31 rfl hl (by decide) rfl (fun ls hl => ?_)
          exact k_32 p0 p1 (0 : Int32) s0_14 H locs ls hf hP hD hS (lv_sub hl [1, 2, 3, 0] rfl)
        · have hf := hf.2 c_13
          refine lv_bipush (v := (-2 : Int32)) hx hb dX7_wedding_23 (by decide) ?_
          exact W.iret (v := (-2 : Int32)) hx hb hr (fun t ht hW => ⟨⟨(-2 : Int32), s0, rfl, hf, P_heap ht hP⟩, hS.F ht⟩) hS.2.2 dX7_wedding_25
      · have hf := hf.2 c_12
        refine lv_iconst (v := (-1 : Int32)) hx hb dX7_wedding_16 (by decide) ?_
        exact W.iret (v := (-1 : Int32)) hx hb hr (fun t ht hW => ⟨⟨(-1 : Int32), s0, rfl, hf, P_heap ht hP⟩, hS.F ht⟩) hS.2.2 dX7_wedding_17
  exact start s.heap [] hP hD hS
def LB_X7_ahead_31 (G31 : (Int32 × Int32 × Int32 × CS) → Prop)  (x1 : Int32) (x2 : Int32) (x3 : Int32) (s0 : CS) (Q : Int32 → CS → Prop) : Prop := ((x1 ≤ x3 → ((¬ x2 = 0 → wp_X7_of (1 : Int32) (7 : Int32) s0 (fun r_3 => wp_X7_ones r_3 (fun r_4 => Q r_4 s0))) ∧ (x2 = 0 → wp_X7_alive (1 : Int32) s0 (fun r_5 => Q r_5 s0)))) ∧ (¬ x1 ≤ x3 → wp_X7_passOn (1 : Int32) s0 (fun r_7 s0_6 => ∀ x3_8 : Int32, x3_8 = x3 + (1 : Int32) → G31 (x1, x2, x3_8, s0_6))))
def B_X7_ahead_31  (x1 : Int32) (x2 : Int32) (x3 : Int32) (s0 : CS) (Q : Int32 → CS → Prop) : Prop := LOOP (fun (G31 : (Int32 × Int32 × Int32 × CS) → Prop) z => LB_X7_ahead_31 G31  z.1 z.2.1 z.2.2.1 z.2.2.2 Q) (x1, x2, x3, s0)
def wp_X7_ahead (p0 : Int32) (p1 : Int32) (s0 : CS) (Q : Int32 → CS → Prop) : Prop := wp_X7_in (p0.toInt64) (0 : Int64) (20 : Int64) (fun r_9 => ((r_9 = 0 → Q (-2 : Int32) s0) ∧ (¬ r_9 = 0 → wp_X7_in (p1.toInt64) (0 : Int64) (1 : Int64) (fun r_11 => ((¬ r_11 = 0 → wp_X7_layTrial s0 (fun s0_13 => B_X7_ahead_31  p0 p1 (0 : Int32) s0_13 Q)) ∧ (r_11 = 0 → Q (-2 : Int32) s0))))))
set_option maxHeartbeats 4000000 in
set_option maxRecDepth 100000 in
theorem c_X7_ahead (l : Launch) (D : va_G) (cI cZ cW : ClassId) (q0 : Nat → Nat) (sz : Nat) (p0 : Int32) (p1 : Int32) (s0 : CS) (Q : Int32 → CS → Prop) (hf : wp_X7_ahead p0 p1 s0 Q) : Met l yX7_ahead (wsA yX7_ahead cX7_ahead 4 (some .int)) ({ frames := 5, cells := 0, slots := 0, locals := 117 }) (PW D cI cZ cW [.ref (q0 0), .int p0, .int p1] (wM cI cZ q0 s0) sz) (va_Qi (fun (r : Int32) (u : CS) => Q r u) (fun u t => va_P D classes (wM cI cZ q0 u) t.heap) (va_A (wM cI cZ q0 s0) sz)) 0 0 (va_A (wM cI cZ q0 s0) sz) := by
  refine Met.ofW (cc := cX7_ahead) (maxL := 4) (ret := (some .int)) (by decide) rfl ?_
  intro p e s m args below meth c s₁ B hml hv
  obtain ⟨rfl, hsz, hP, hK, hD0⟩ := hv
  have hx := B.exec
  have hb := B.bytes
  have hr := B.returns
  have hts := atoms_spec (ws := (wsA yX7_ahead cX7_ahead 4 (some .int))) B.pre
  have ht : ∀ w ∈ lw_g, w.before _ s = true := fun w h => hts w (List.mem_cons_of_mem _ h)
  have hown : s.vm.findClass RX7 = some m.cls := findClass_of_methodNamed B.named
  have hlocks := B.notSynchronized
  subst hsz
  have hD := hD0.self (sz := s.heap.size)
  generalize hAe : va_A (wM cI cZ q0 s0) s.heap.size = A at hD ⊢
  have hA : ∀ q : Nat, s.heap.size ≤ q → A q := fun q h => by rw [← hAe]; exact Or.inr h
  have hS : va_S A s.heap s.heap [] := va_S.rf
  have hDk : ∀ w : CS, va_D A (wM cI cZ q0 w) := fun w => D_M hD
  have hl := lv_entry ([.ref (q0 0), .int p0, .int p1]) (n := 4) (Nat.le_of_ble_eq_true rfl)
  rw [lg_entry_eq]
  generalize (lg_sl ([.ref (q0 0), .int p0, .int p1]) ++ List.replicate (4 - (lg_sl ([.ref (q0 0), .int p0, .int p1])).length) Slot.unset).toArray = ls at hl ⊢
  have hl : lv_has ls 4 [(0, .ref (q0 0)), (1, .int p0), (2, .int p1)] := hl
  unfold wp_X7_ahead at hf
  have k_31 : ∀ (x1 : Int32) (x2 : Int32) (x3 : Int32) (s0 : CS) (H : Heap) (locs : List Loc) (ls : Array Slot), B_X7_ahead_31  x1 x2 x3 s0 Q → va_P D classes (wM cI cZ q0 s0) H → va_D A (wM cI cZ q0 s0) → va_S A s.heap H locs → lv_has ls 4 [(0, .ref (q0 0)), (1, .int x1), (2, .int x2), (3, .int x3)] → W p l e (headSpec (wsA yX7_ahead cX7_ahead 4 (some .int)) ({ frames := 5, cells := 0, slots := 0, locals := 117 })).room s m (#[.ref (q0 0), .int p0, .int p1] : Array Value) below meth c H locs 0 0 (MQ below (va_Qi (fun (r : Int32) (u : CS) => Q r u) (fun u t => va_P D classes (wM cI cZ q0 u) t.heap) A) (#[.ref (q0 0), .int p0, .int p1] : Array Value) s 0 0 A) (F0 m 31 ls []) := by
    intro x1 x2 x3 s0 H locs ls hf hP hD hS hl
    unfold B_X7_ahead_31 at hf
    obtain ⟨I_31, ⟨n0_31, hI0_31⟩, hst_31⟩ := hf
    have main_31 : ∀ (n : Nat) (x1 : Int32) (x2 : Int32) (x3 : Int32) (s0 : CS) (H : Heap) (locs : List Loc) (ls : Array Slot), I_31 n (x1, x2, x3, s0) → va_P D classes (wM cI cZ q0 s0) H → va_D A (wM cI cZ q0 s0) → va_S A s.heap H locs → lv_has ls 4 [(0, .ref (q0 0)), (1, .int x1), (2, .int x2), (3, .int x3)] → W p l e (headSpec (wsA yX7_ahead cX7_ahead 4 (some .int)) ({ frames := 5, cells := 0, slots := 0, locals := 117 })).room s m (#[.ref (q0 0), .int p0, .int p1] : Array Value) below meth c H locs 0 0 (MQ below (va_Qi (fun (r : Int32) (u : CS) => Q r u) (fun u t => va_P D classes (wM cI cZ q0 u) t.heap) A) (#[.ref (q0 0), .int p0, .int p1] : Array Value) s 0 0 A) (F0 m 31 ls []) := by
      intro n
      induction n using Nat.strongRecOn with
      | _ n_31 ih_31 =>
      intro x1 x2 x3 s0 H locs ls hI hP hD hS hl
      have hf : LB_X7_ahead_31 (fun z => ∃ k, k < n_31 ∧ I_31 k z)  x1 x2 x3 s0 Q := hst_31 n_31 (x1, x2, x3, s0) hI
      have hG_31 : ∀ (x1 : Int32) (x2 : Int32) (x3 : Int32) (s0 : CS) (H : Heap) (locs : List Loc) (ls : Array Slot), (∃ k, k < n_31 ∧ I_31 k (x1, x2, x3, s0)) → va_P D classes (wM cI cZ q0 s0) H → va_D A (wM cI cZ q0 s0) → va_S A s.heap H locs → lv_has ls 4 [(0, .ref (q0 0)), (1, .int x1), (2, .int x2), (3, .int x3)] → W p l e (headSpec (wsA yX7_ahead cX7_ahead 4 (some .int)) ({ frames := 5, cells := 0, slots := 0, locals := 117 })).room s m (#[.ref (q0 0), .int p0, .int p1] : Array Value) below meth c H locs 0 0 (MQ below (va_Qi (fun (r : Int32) (u : CS) => Q r u) (fun u t => va_P D classes (wM cI cZ q0 u) t.heap) A) (#[.ref (q0 0), .int p0, .int p1] : Array Value) s 0 0 A) (F0 m 31 ls []) := by
        rintro x1 x2 x3 s0 H locs ls ⟨k, hk, hI⟩ hP hD hS hl
        exact ih_31 k hk x1 x2 x3 s0 H locs ls hI hP hD hS hl
      unfold LB_X7_ahead_31 at hf
      refine lv_iload_n hx hb dX7_ahead_31 rfl (lv_at hl 3 rfl) ?_
      refine lv_iload_n hx hb dX7_ahead_32 rfl (lv_at hl 1 rfl) ?_
      refine lv_icmp_ge (tgt := 48) hx hb dX7_ahead_33 (by decide) (fun c_1 => ?_) (fun c_1 => ?_)
      · have hf := hf.1 c_1
        refine lv_iload_n hx hb dX7_ahead_48 rfl (lv_at hl 2 rfl) ?_
        refine lv_if_ne (tgt := 60) hx hb dX7_ahead_49 (by decide) (fun c_2 => ?_) (fun c_2 => ?_)
        · have hf := hf.1 c_2
          refine lv_aload_n hx hb dX7_ahead_60 rfl (lv_at hl 0 rfl) ?_
          refine lv_iconst (v := (1 : Int32)) hx hb dX7_ahead_61 (by decide) ?_
          refine lv_bipush (v := (7 : Int32)) hx hb dX7_ahead_62 (by decide) ?_
          have hPc : va_P D classes (wM cI cZ q0 s0) H := hP
          refine vp_callSi (W.runV (As := [.int (1 : Int32), .int (7 : Int32)]) (rest := []) ⟨hx, hb, hml, hown, hts⟩ (c_X7_of l D cI cZ cW q0 (1 : Int32) (7 : Int32) s0 _ hf) ⟨callB_of 2 hts (gA tw_807) rfl rfl rfl (ht _ tw_7) (ht _ tw_804) hd_X7_of ⟨Nat.le_of_ble_eq_true rfl, Nat.le_of_ble_eq_true rfl⟩, ht _ tw_806, ht _ twp_25⟩ ⟨PR_blind, va_recv hK hP (ci := 5) (q0 := 0) rfl eM_0, fun U hU hW => PR_mk hPc hK hU hW⟩ rfl rfl hl.1 rfl (lv_room (Nat.le_of_ble_eq_true rfl)) dX7_ahead_64 ⟨Nat.zero_le _, Nat.zero_le _⟩) (fun r_3 hf => ?_)
          have hPc : va_P D classes ([] : va_W) H := hP.sub [] rfl
          refine vp_callSi (W.runS (As := [.int r_3]) (rest := []) ⟨hx, hb, hml, hown, hts⟩ (c_X7_ones l D cI cZ cW  r_3 _ hf) ⟨callB_of 1 hts (gA tw_795) rfl rfl rfl (ht _ tw_7) (ht _ tw_793) hd_X7_ones ⟨Nat.le_of_ble_eq_true rfl, Nat.le_of_ble_eq_true rfl⟩, ht _ tw_794⟩ ⟨PR_blind, fun U hU hW => PR_mk hPc hK hU hW⟩ rfl rfl hl.1 rfl (lv_room (Nat.le_of_ble_eq_true rfl)) dX7_ahead_67 ⟨Nat.zero_le _, Nat.zero_le _⟩) (fun r_4 hf => ?_)
          exact W.iret (v := r_4) hx hb hr (fun t ht hW => ⟨⟨r_4, s0, rfl, hf, P_heap ht hP⟩, hS.F ht⟩) hS.2.2 dX7_ahead_70
        · have hf := hf.2 c_2
          refine lv_aload_n hx hb dX7_ahead_52 rfl (lv_at hl 0 rfl) ?_
          refine lv_iconst (v := (1 : Int32)) hx hb dX7_ahead_53 (by decide) ?_
          have hPc : va_P D classes (wM cI cZ q0 s0) H := hP
          refine vp_callSi (W.runV (As := [.int (1 : Int32)]) (rest := []) ⟨hx, hb, hml, hown, hts⟩ (c_X7_alive l D cI cZ cW q0 (1 : Int32) s0 _ hf) ⟨callB_of 1 hts (gA tw_936) rfl rfl rfl (ht _ tw_7) (ht _ tw_933) hd_X7_alive ⟨Nat.le_of_ble_eq_true rfl, Nat.le_of_ble_eq_true rfl⟩, ht _ tw_935, ht _ twp_44⟩ ⟨PR_blind, va_recv hK hP (ci := 5) (q0 := 0) rfl eM_0, fun U hU hW => PR_mk hPc hK hU hW⟩ rfl rfl hl.1 rfl (lv_room (Nat.le_of_ble_eq_true rfl)) dX7_ahead_54 ⟨Nat.zero_le _, Nat.zero_le _⟩) (fun r_5 hf => ?_)
          refine lv_goto (tgt := 70) hx hb dX7_ahead_57 (by decide) ?_
          exact W.iret (v := r_5) hx hb hr (fun t ht hW => ⟨⟨r_5, s0, rfl, hf, P_heap ht hP⟩, hS.F ht⟩) hS.2.2 dX7_ahead_70
      · have hf := hf.2 c_1
        refine lv_aload_n hx hb dX7_ahead_36 rfl (lv_at hl 0 rfl) ?_
        refine lv_iconst (v := (1 : Int32)) hx hb dX7_ahead_37 (by decide) ?_
        have hPc : va_P D classes (wM cI cZ q0 s0) H := hP
        have hDc : va_D A (wM cI cZ q0 s0) := hD
        have hFc := va_free (wc := (wM cI cZ q0 s0)) hD hS hA [0, 1, 2, 3, 4, 5, 6, 7, 8, 9, 10, 11, 12, 13, 14, 15] rfl
        refine va_calli (va_runV (As := [.int (1 : Int32)]) (rest := []) ⟨hx, hb, hml, hown, hts⟩ (c_X7_passOn l D cI cZ cW q0 H.size (1 : Int32) s0 _ hf) ⟨callB_of 1 hts (gA tw_826) rfl rfl rfl (ht _ tw_7) (ht _ tw_823) hd_X7_passOn ⟨Nat.le_of_ble_eq_true rfl, Nat.le_of_ble_eq_true rfl⟩, ht _ tw_825, ht _ twp_27⟩ ⟨PW_blind, va_recv hK hP (ci := 5) (q0 := 0) rfl eM_0, fun U hU hW => PW_mk hPc hDc hK hU hW⟩ rfl rfl hl.1 rfl (lv_room (Nat.le_of_ble_eq_true rfl)) dX7_ahead_38 ⟨Nat.zero_le _, Nat.zero_le _⟩) hS (fun q _ h => hFc q h) hFc (fun r_7 u t H1 locs ht1 hvm hf hB hz1 hk1 hS => ?_)
        obtain ⟨s0_6, rfl⟩ : ∃ z, z = u := ⟨_, rfl⟩
        rw [ht1] at hB
        have hP := hB
        have hD := hDk s0_6
        generalize H1 = H at hP hS ⊢
        have hP : va_P D classes (wM cI cZ q0 s0_6) H := hP
        have hD : va_D A (wM cI cZ q0 s0_6) := hD
        refine lv_pop hx hb dX7_ahead_41 rfl ?_
        obtain ⟨x3_8, ex3_8⟩ : ∃ y : Int32, y = x3 + (1 : Int32) := ⟨_, rfl⟩
        have hf := hf x3_8 ex3_8
        refine lv_iinc (v := x3_8) (lv' := [(3, .int x3_8), (0, .ref (q0 0)), (1, .int x1), (2, .int x2)]) hx hb dX7_ahead_42 hl (k := 3) rfl (by rw [ex3_8]; rfl) (by decide) rfl (fun ls hl => ?_)
        refine lv_goto (tgt := 31) hx hb dX7_ahead_45 (by decide) ?_
        exact hG_31 x1 x2 x3_8 s0_6 H locs ls hf hP hD hS (lv_sub hl [1, 2, 3, 0] rfl)
    exact main_31 n0_31 x1 x2 x3 s0 H locs ls hI0_31 hP hD hS hl
  have start : ∀ (H : Heap) (locs : List Loc), va_P D classes (wM cI cZ q0 s0) H → va_D A (wM cI cZ q0 s0) → va_S A s.heap H locs → W p l e (headSpec (wsA yX7_ahead cX7_ahead 4 (some .int)) ({ frames := 5, cells := 0, slots := 0, locals := 117 })).room s m (#[.ref (q0 0), .int p0, .int p1] : Array Value) below meth c H locs 0 0 (MQ below (va_Qi (fun (r : Int32) (u : CS) => Q r u) (fun u t => va_P D classes (wM cI cZ q0 u) t.heap) A) (#[.ref (q0 0), .int p0, .int p1] : Array Value) s 0 0 A) (F0 m 0 ls []) := by
    intro H locs hP hD hS
    refine lv_iload_n hx hb dX7_ahead_0 rfl (lv_at hl 1 rfl) ?_
    refine lv_i2l (v := p0.toInt64) hx hb dX7_ahead_1 rfl ?_
    refine lv_lconst (v := (0 : Int64)) hx hb dX7_ahead_2 (by decide) ?_
    refine lv_ldc2 (v := (20 : Int64)) hx hb hown (ht _ tw_932) dX7_ahead_3 ?_
    have hPc : va_P D classes ([] : va_W) H := hP.sub [] rfl
    refine vp_callSi (W.runS (As := [.long p0.toInt64, .long (0 : Int64), .long (20 : Int64)]) (rest := []) ⟨hx, hb, hml, hown, hts⟩ (c_X7_in l D cI cZ cW  (p0.toInt64) (0 : Int64) (20 : Int64) _ hf) ⟨callB_of 3 hts (gA tw_747) rfl rfl rfl (ht _ tw_7) (ht _ tw_745) hd_X7_in ⟨Nat.le_of_ble_eq_true rfl, Nat.le_of_ble_eq_true rfl⟩, ht _ tw_746⟩ ⟨PR_blind, fun U hU hW => PR_mk hPc hK hU hW⟩ rfl rfl hl.1 rfl (lv_room (Nat.le_of_ble_eq_true rfl)) dX7_ahead_6 ⟨Nat.zero_le _, Nat.zero_le _⟩) (fun r_9 hf => ?_)
    refine lv_if_eq (tgt := 22) hx hb dX7_ahead_9 (by decide) (fun c_10 => ?_) (fun c_10 => ?_)
    · have hf := hf.1 c_10
      refine lv_bipush (v := (-2 : Int32)) hx hb dX7_ahead_22 (by decide) ?_
      exact W.iret (v := (-2 : Int32)) hx hb hr (fun t ht hW => ⟨⟨(-2 : Int32), s0, rfl, hf, P_heap ht hP⟩, hS.F ht⟩) hS.2.2 dX7_ahead_24
    · have hf := hf.2 c_10
      refine lv_iload_n hx hb dX7_ahead_12 rfl (lv_at hl 2 rfl) ?_
      refine lv_i2l (v := p1.toInt64) hx hb dX7_ahead_13 rfl ?_
      refine lv_lconst (v := (0 : Int64)) hx hb dX7_ahead_14 (by decide) ?_
      refine lv_lconst (v := (1 : Int64)) hx hb dX7_ahead_15 (by decide) ?_
      have hPc : va_P D classes ([] : va_W) H := hP.sub [] rfl
      refine vp_callSi (W.runS (As := [.long p1.toInt64, .long (0 : Int64), .long (1 : Int64)]) (rest := []) ⟨hx, hb, hml, hown, hts⟩ (c_X7_in l D cI cZ cW  (p1.toInt64) (0 : Int64) (1 : Int64) _ hf) ⟨callB_of 3 hts (gA tw_747) rfl rfl rfl (ht _ tw_7) (ht _ tw_745) hd_X7_in ⟨Nat.le_of_ble_eq_true rfl, Nat.le_of_ble_eq_true rfl⟩, ht _ tw_746⟩ ⟨PR_blind, fun U hU hW => PR_mk hPc hK hU hW⟩ rfl rfl hl.1 rfl (lv_room (Nat.le_of_ble_eq_true rfl)) dX7_ahead_16 ⟨Nat.zero_le _, Nat.zero_le _⟩) (fun r_11 hf => ?_)
      refine lv_if_ne (tgt := 25) hx hb dX7_ahead_19 (by decide) (fun c_12 => ?_) (fun c_12 => ?_)
      · have hf := hf.1 c_12
        refine lv_aload_n hx hb dX7_ahead_25 rfl (lv_at hl 0 rfl) ?_
        have hPc : va_P D classes (wM cI cZ q0 s0) H := hP
        have hDc : va_D A (wM cI cZ q0 s0) := hD
        have hFc := va_free (wc := (wM cI cZ q0 s0)) hD hS hA [0, 1, 2, 3, 4, 5, 6, 7, 8, 9, 10, 11, 12, 13, 14, 15] rfl
        refine va_callv (va_runV (As := []) (rest := []) ⟨hx, hb, hml, hown, hts⟩ (c_X7_layTrial l D cI cZ cW q0 H.size s0 _ hf) ⟨callB_of 0 hts (gA tw_927) rfl rfl rfl (ht _ tw_7) (ht _ tw_924) hd_X7_layTrial ⟨Nat.le_of_ble_eq_true rfl, Nat.le_of_ble_eq_true rfl⟩, ht _ tw_926, ht _ twp_43⟩ ⟨PW_blind, va_recv hK hP (ci := 5) (q0 := 0) rfl eM_0, fun U hU hW => PW_mk hPc hDc hK hU hW⟩ rfl rfl hl.1 rfl (lv_room (Nat.le_of_ble_eq_true rfl)) dX7_ahead_26 ⟨Nat.zero_le _, Nat.zero_le _⟩) hS (fun q _ h => hFc q h) hFc (fun u t H1 locs ht1 hvm hf hB hz1 hk1 hS => ?_)
        obtain ⟨s0_13, rfl⟩ : ∃ z, z = u := ⟨_, rfl⟩
        rw [ht1] at hB
        have hP := hB
        have hD := hDk s0_13
        generalize H1 = H at hP hS ⊢
        have hP : va_P D classes (wM cI cZ q0 s0_13) H := hP
        have hD : va_D A (wM cI cZ q0 s0_13) := hD
        refine lv_iconst (v := (0 : Int32)) hx hb dX7_ahead_29 (by decide) ?_
        refine lv_istore_n (lv' := [(3, .int (0 : Int32)), (0, .ref (q0 0)), (1, .int p0), (2, .int p1)]) hx hb dX7_ahead_30 rfl hl (by decide) rfl (fun ls hl => ?_)
        exact k_31 p0 p1 (0 : Int32) s0_13 H locs ls hf hP hD hS (lv_sub hl [1, 2, 3, 0] rfl)
      · have hf := hf.2 c_12
        refine lv_bipush (v := (-2 : Int32)) hx hb dX7_ahead_22 (by decide) ?_
        exact W.iret (v := (-2 : Int32)) hx hb hr (fun t ht hW => ⟨⟨(-2 : Int32), s0, rfl, hf, P_heap ht hP⟩, hS.F ht⟩) hS.2.2 dX7_ahead_24
  exact start s.heap [] hP hD hS
def B_X7_cut_135 (G46 : (Int32 × Int32 × Int32 × Int32 × Int32 × Int32) → Prop) (s0 : CS) (x1 : Int32) (x2 : Int32) (x3 : Int32) (x4 : Int32) (x6 : Int32) (t0 : Int32) (Q : Int32 → Prop) : Prop := ∀ x6_1 : Int32, x6_1 = x6 + (1 : Int32) → G46 (x1, x2, x3, x4, t0, x6_1)
def B_X7_cut_119 (G46 : (Int32 × Int32 × Int32 × Int32 × Int32 × Int32) → Prop) (s0 : CS) (x1 : Int32) (x2 : Int32) (x3 : Int32) (x5 : Int32) (x6 : Int32) (x7 : Int32) (t0 : Int32) (Q : Int32 → Prop) : Prop := ((x7 ≤ x5 → B_X7_cut_135 G46 s0 x1 x2 x3 t0 x6 x5 Q) ∧ (¬ x7 ≤ x5 → B_X7_cut_135 G46 s0 x1 x2 x3 t0 x6 x7 Q))
def B_X7_cut_96 (G46 : (Int32 × Int32 × Int32 × Int32 × Int32 × Int32) → Prop) (G58 : (Int32 × Int32 × Int32 × Int32 × Int32 × Int32 × Int32 × Int32) → Prop) (s0 : CS) (x1 : Int32) (x2 : Int32) (x3 : Int32) (x4 : Int32) (x5 : Int32) (x6 : Int32) (x8 : Int32) (t0 : Int32) (t1 : Int32) (Q : Int32 → Prop) : Prop := ∀ x7_3 : Int32, x7_3 = (t1 + t0) → ∀ x8_4 : Int32, x8_4 = x8 + (1 : Int32) → G58 (x1, x2, x3, x4, x5, x6, x7_3, x8_4)
def B_X7_cut_88 (G46 : (Int32 × Int32 × Int32 × Int32 × Int32 × Int32) → Prop) (G58 : (Int32 × Int32 × Int32 × Int32 × Int32 × Int32 × Int32 × Int32) → Prop) (s0 : CS) (x1 : Int32) (x2 : Int32) (x3 : Int32) (x4 : Int32) (x5 : Int32) (x6 : Int32) (x8 : Int32) (t0 : Int32) (t1 : Int32) (t2 : Int32) (Q : Int32 → Prop) : Prop := ((¬ t1 = t0 → B_X7_cut_96 G46 G58 s0 x1 x2 x3 x4 x5 x6 x8 (0 : Int32) t2 Q) ∧ (t1 = t0 → B_X7_cut_96 G46 G58 s0 x1 x2 x3 x4 x5 x6 x8 (1 : Int32) t2 Q))
def LB_X7_cut_58 (G58 : (Int32 × Int32 × Int32 × Int32 × Int32 × Int32 × Int32 × Int32) → Prop) (G46 : (Int32 × Int32 × Int32 × Int32 × Int32 × Int32) → Prop) (s0 : CS) (x1 : Int32) (x2 : Int32) (x3 : Int32) (x4 : Int32) (x5 : Int32) (x6 : Int32) (x7 : Int32) (x8 : Int32) (Q : Int32 → Prop) : Prop := (((20 : Int32) ≤ x8 → ((x7 ≤ x5 → B_X7_cut_119 G46 s0 x1 x2 x3 x5 x6 x7 x4 Q) ∧ (¬ x7 ≤ x5 → B_X7_cut_119 G46 s0 x1 x2 x3 x5 x6 x7 x6 Q))) ∧ (¬ (20 : Int32) ≤ x8 → wp_X7_ownerOf (0 : Int32) x8 s0 (fun r_8 => ((x6 ≤ (x8 - x8 / (5 : Int32) * (5 : Int32)) → B_X7_cut_88 G46 G58 s0 x1 x2 x3 x4 x5 x6 x8 x2 r_8 x7 Q) ∧ (¬ x6 ≤ (x8 - x8 / (5 : Int32) * (5 : Int32)) → B_X7_cut_88 G46 G58 s0 x1 x2 x3 x4 x5 x6 x8 x1 r_8 x7 Q)))))
def B_X7_cut_58 (G46 : (Int32 × Int32 × Int32 × Int32 × Int32 × Int32) → Prop) (s0 : CS) (x1 : Int32) (x2 : Int32) (x3 : Int32) (x4 : Int32) (x5 : Int32) (x6 : Int32) (x7 : Int32) (x8 : Int32) (Q : Int32 → Prop) : Prop := LOOP (fun (G58 : (Int32 × Int32 × Int32 × Int32 × Int32 × Int32 × Int32 × Int32) → Prop) z => LB_X7_cut_58 G58 G46 s0 z.1 z.2.1 z.2.2.1 z.2.2.2.1 z.2.2.2.2.1 z.2.2.2.2.2.1 z.2.2.2.2.2.2.1 z.2.2.2.2.2.2.2 Q) (x1, x2, x3, x4, x5, x6, x7, x8)
def LB_X7_cut_46 (G46 : (Int32 × Int32 × Int32 × Int32 × Int32 × Int32) → Prop) (s0 : CS) (x1 : Int32) (x2 : Int32) (x3 : Int32) (x4 : Int32) (x5 : Int32) (x6 : Int32) (Q : Int32 → Prop) : Prop := (((5 : Int32) ≤ x6 → ((¬ x3 = 0 → Q x5) ∧ (x3 = 0 → Q x4))) ∧ (¬ (5 : Int32) ≤ x6 → B_X7_cut_58 G46 s0 x1 x2 x3 x4 x5 x6 (0 : Int32) (0 : Int32) Q))
def B_X7_cut_46 (s0 : CS) (x1 : Int32) (x2 : Int32) (x3 : Int32) (x4 : Int32) (x5 : Int32) (x6 : Int32) (Q : Int32 → Prop) : Prop := LOOP (fun (G46 : (Int32 × Int32 × Int32 × Int32 × Int32 × Int32) → Prop) z => LB_X7_cut_46 G46 s0 z.1 z.2.1 z.2.2.1 z.2.2.2.1 z.2.2.2.2.1 z.2.2.2.2.2 Q) (x1, x2, x3, x4, x5, x6)
def wp_X7_cut (p0 : Int32) (p1 : Int32) (p2 : Int32) (s0 : CS) (Q : Int32 → Prop) : Prop := wp_X7_isOwner p0 s0 (fun r_12 => ((r_12 = 0 → Q (-1 : Int32)) ∧ (¬ r_12 = 0 → wp_X7_isOwner p1 s0 (fun r_14 => ((¬ r_14 = 0 → ((p0 = p1 → Q (-2 : Int32)) ∧ (¬ p0 = p1 → wp_X7_in (p2.toInt64) (0 : Int64) (1 : Int64) (fun r_17 => ((¬ r_17 = 0 → B_X7_cut_46 s0 p0 p1 p2 (0 : Int32) (-9 : Int32) (1 : Int32) Q) ∧ (r_17 = 0 → Q (-2 : Int32))))))) ∧ (r_14 = 0 → Q (-1 : Int32)))))))
set_option maxHeartbeats 4000000 in
set_option maxRecDepth 100000 in
theorem c_X7_cut (l : Launch) (D : va_G) (cI cZ cW : ClassId) (q0 : Nat → Nat) (p0 : Int32) (p1 : Int32) (p2 : Int32) (s0 : CS) (Q : Int32 → Prop) (hf : wp_X7_cut p0 p1 p2 s0 Q) : Met l yX7_cut (wsA yX7_cut cX7_cut 9 (some .int)) ({ frames := 2, cells := 0, slots := 0, locals := 46 }) (PR D cI cZ cW [.ref (q0 0), .int p0, .int p1, .int p2] (wM cI cZ q0 s0)) (vp_Si Q) 0 0 (fun _ => False) := by
  refine Met.ofW (cc := cX7_cut) (maxL := 9) (ret := (some .int)) (by decide) rfl ?_
  intro p e s m args below meth c s₁ B hml hv
  obtain ⟨rfl, hP, hK⟩ := hv
  have hx := B.exec
  have hb := B.bytes
  have hr := B.returns
  have hts := atoms_spec (ws := (wsA yX7_cut cX7_cut 9 (some .int))) B.pre
  have ht : ∀ w ∈ lw_g, w.before _ s = true := fun w h => hts w (List.mem_cons_of_mem _ h)
  have hown : s.vm.findClass RX7 = some m.cls := findClass_of_methodNamed B.named
  have hlocks := B.notSynchronized
  have hl := lv_entry ([.ref (q0 0), .int p0, .int p1, .int p2]) (n := 9) (Nat.le_of_ble_eq_true rfl)
  rw [lg_entry_eq]
  generalize (lg_sl ([.ref (q0 0), .int p0, .int p1, .int p2]) ++ List.replicate (9 - (lg_sl ([.ref (q0 0), .int p0, .int p1, .int p2])).length) Slot.unset).toArray = ls at hl ⊢
  have hl : lv_has ls 9 [(0, .ref (q0 0)), (1, .int p0), (2, .int p1), (3, .int p2)] := hl
  unfold wp_X7_cut at hf
  have k_46 : ∀ (x1 : Int32) (x2 : Int32) (x3 : Int32) (x4 : Int32) (x5 : Int32) (x6 : Int32) (ls : Array Slot), B_X7_cut_46 s0 x1 x2 x3 x4 x5 x6 Q → lv_has ls 9 [(0, .ref (q0 0)), (1, .int x1), (2, .int x2), (3, .int x3), (4, .int x4), (5, .int x5), (6, .int x6)] → W p l e (headSpec (wsA yX7_cut cX7_cut 9 (some .int)) ({ frames := 2, cells := 0, slots := 0, locals := 46 })).room s m (#[.ref (q0 0), .int p0, .int p1, .int p2] : Array Value) below meth c s.heap [] 0 0 (MQ below (vp_Si Q) (#[.ref (q0 0), .int p0, .int p1, .int p2] : Array Value) s 0 0 (fun _ => False)) (F0 m 46 ls []) := by
    intro x1 x2 x3 x4 x5 x6 ls hf hl
    unfold B_X7_cut_46 at hf
    obtain ⟨I_46, ⟨n0_46, hI0_46⟩, hst_46⟩ := hf
    have main_46 : ∀ (n : Nat) (x1 : Int32) (x2 : Int32) (x3 : Int32) (x4 : Int32) (x5 : Int32) (x6 : Int32) (ls : Array Slot), I_46 n (x1, x2, x3, x4, x5, x6) → lv_has ls 9 [(0, .ref (q0 0)), (1, .int x1), (2, .int x2), (3, .int x3), (4, .int x4), (5, .int x5), (6, .int x6)] → W p l e (headSpec (wsA yX7_cut cX7_cut 9 (some .int)) ({ frames := 2, cells := 0, slots := 0, locals := 46 })).room s m (#[.ref (q0 0), .int p0, .int p1, .int p2] : Array Value) below meth c s.heap [] 0 0 (MQ below (vp_Si Q) (#[.ref (q0 0), .int p0, .int p1, .int p2] : Array Value) s 0 0 (fun _ => False)) (F0 m 46 ls []) := by
      intro n
      induction n using Nat.strongRecOn with
      | _ n_46 ih_46 =>
      intro x1 x2 x3 x4 x5 x6 ls hI hl
      have hf : LB_X7_cut_46 (fun z => ∃ k, k < n_46 ∧ I_46 k z) s0 x1 x2 x3 x4 x5 x6 Q := hst_46 n_46 (x1, x2, x3, x4, x5, x6) hI
      have hG_46 : ∀ (x1 : Int32) (x2 : Int32) (x3 : Int32) (x4 : Int32) (x5 : Int32) (x6 : Int32) (ls : Array Slot), (∃ k, k < n_46 ∧ I_46 k (x1, x2, x3, x4, x5, x6)) → lv_has ls 9 [(0, .ref (q0 0)), (1, .int x1), (2, .int x2), (3, .int x3), (4, .int x4), (5, .int x5), (6, .int x6)] → W p l e (headSpec (wsA yX7_cut cX7_cut 9 (some .int)) ({ frames := 2, cells := 0, slots := 0, locals := 46 })).room s m (#[.ref (q0 0), .int p0, .int p1, .int p2] : Array Value) below meth c s.heap [] 0 0 (MQ below (vp_Si Q) (#[.ref (q0 0), .int p0, .int p1, .int p2] : Array Value) s 0 0 (fun _ => False)) (F0 m 46 ls []) := by
        rintro x1 x2 x3 x4 x5 x6 ls ⟨k, hk, hI⟩ hl
        exact ih_46 k hk x1 x2 x3 x4 x5 x6 ls hI hl
      unfold LB_X7_cut_46 at hf
      have k_135 : ∀ (x1 : Int32) (x2 : Int32) (x3 : Int32) (x4 : Int32) (x6 : Int32) (t0 : Int32) (ls : Array Slot), B_X7_cut_135 (fun z => ∃ k, k < n_46 ∧ I_46 k z) s0 x1 x2 x3 x4 x6 t0 Q → lv_has ls 9 [(0, .ref (q0 0)), (1, .int x1), (2, .int x2), (3, .int x3), (4, .int x4), (6, .int x6)] → W p l e (headSpec (wsA yX7_cut cX7_cut 9 (some .int)) ({ frames := 2, cells := 0, slots := 0, locals := 46 })).room s m (#[.ref (q0 0), .int p0, .int p1, .int p2] : Array Value) below meth c s.heap [] 0 0 (MQ below (vp_Si Q) (#[.ref (q0 0), .int p0, .int p1, .int p2] : Array Value) s 0 0 (fun _ => False)) (F0 m 135 ls [.int t0]) := by
        intro x1 x2 x3 x4 x6 t0 ls hf hl
        unfold B_X7_cut_135 at hf
        refine lv_istore (lv' := [(5, .int t0), (0, .ref (q0 0)), (1, .int x1), (2, .int x2), (3, .int x3), (4, .int x4), (6, .int x6)]) hx hb dX7_cut_135 hl (by decide) rfl (fun ls hl => ?_)
        obtain ⟨x6_1, ex6_1⟩ : ∃ y : Int32, y = x6 + (1 : Int32) := ⟨_, rfl⟩
        have hf := hf x6_1 ex6_1
        refine lv_iinc (v := x6_1) (lv' := [(6, .int x6_1), (5, .int t0), (0, .ref (q0 0)), (1, .int x1), (2, .int x2), (3, .int x3), (4, .int x4)]) hx hb dX7_cut_137 hl (k := 6) rfl (by rw [ex6_1]; rfl) (by decide) rfl (fun ls hl => ?_)
        refine lv_goto (tgt := 46) hx hb dX7_cut_140 (by decide) ?_
        exact hG_46 x1 x2 x3 x4 t0 x6_1 ls hf (lv_sub hl [2, 3, 4, 5, 6, 1, 0] rfl)
      have k_119 : ∀ (x1 : Int32) (x2 : Int32) (x3 : Int32) (x5 : Int32) (x6 : Int32) (x7 : Int32) (t0 : Int32) (ls : Array Slot), B_X7_cut_119 (fun z => ∃ k, k < n_46 ∧ I_46 k z) s0 x1 x2 x3 x5 x6 x7 t0 Q → lv_has ls 9 [(0, .ref (q0 0)), (1, .int x1), (2, .int x2), (3, .int x3), (5, .int x5), (6, .int x6), (7, .int x7)] → W p l e (headSpec (wsA yX7_cut cX7_cut 9 (some .int)) ({ frames := 2, cells := 0, slots := 0, locals := 46 })).room s m (#[.ref (q0 0), .int p0, .int p1, .int p2] : Array Value) below meth c s.heap [] 0 0 (MQ below (vp_Si Q) (#[.ref (q0 0), .int p0, .int p1, .int p2] : Array Value) s 0 0 (fun _ => False)) (F0 m 119 ls [.int t0]) := by
        intro x1 x2 x3 x5 x6 x7 t0 ls hf hl
        unfold B_X7_cut_119 at hf
        refine lv_istore (lv' := [(4, .int t0), (0, .ref (q0 0)), (1, .int x1), (2, .int x2), (3, .int x3), (5, .int x5), (6, .int x6), (7, .int x7)]) hx hb dX7_cut_119 hl (by decide) rfl (fun ls hl => ?_)
        refine lv_iload hx hb dX7_cut_121 (lv_at hl 7 rfl) ?_
        refine lv_iload hx hb dX7_cut_123 (lv_at hl 5 rfl) ?_
        refine lv_icmp_le (tgt := 133) hx hb dX7_cut_125 (by decide) (fun c_2 => ?_) (fun c_2 => ?_)
        · have hf := hf.1 c_2
          refine lv_iload hx hb dX7_cut_133 (lv_at hl 5 rfl) ?_
          exact k_135 x1 x2 x3 t0 x6 x5 ls hf (lv_sub hl [1, 2, 3, 4, 0, 6] rfl)
        · have hf := hf.2 c_2
          refine lv_iload hx hb dX7_cut_128 (lv_at hl 7 rfl) ?_
          refine lv_goto (tgt := 135) hx hb dX7_cut_130 (by decide) ?_
          exact k_135 x1 x2 x3 t0 x6 x7 ls hf (lv_sub hl [1, 2, 3, 4, 0, 6] rfl)
      have k_58 : ∀ (x1 : Int32) (x2 : Int32) (x3 : Int32) (x4 : Int32) (x5 : Int32) (x6 : Int32) (x7 : Int32) (x8 : Int32) (ls : Array Slot), B_X7_cut_58 (fun z => ∃ k, k < n_46 ∧ I_46 k z) s0 x1 x2 x3 x4 x5 x6 x7 x8 Q → lv_has ls 9 [(0, .ref (q0 0)), (1, .int x1), (2, .int x2), (3, .int x3), (4, .int x4), (5, .int x5), (6, .int x6), (7, .int x7), (8, .int x8)] → W p l e (headSpec (wsA yX7_cut cX7_cut 9 (some .int)) ({ frames := 2, cells := 0, slots := 0, locals := 46 })).room s m (#[.ref (q0 0), .int p0, .int p1, .int p2] : Array Value) below meth c s.heap [] 0 0 (MQ below (vp_Si Q) (#[.ref (q0 0), .int p0, .int p1, .int p2] : Array Value) s 0 0 (fun _ => False)) (F0 m 58 ls []) := by
        intro x1 x2 x3 x4 x5 x6 x7 x8 ls hf hl
        unfold B_X7_cut_58 at hf
        obtain ⟨I_58, ⟨n0_58, hI0_58⟩, hst_58⟩ := hf
        have main_58 : ∀ (n : Nat) (x1 : Int32) (x2 : Int32) (x3 : Int32) (x4 : Int32) (x5 : Int32) (x6 : Int32) (x7 : Int32) (x8 : Int32) (ls : Array Slot), I_58 n (x1, x2, x3, x4, x5, x6, x7, x8) → lv_has ls 9 [(0, .ref (q0 0)), (1, .int x1), (2, .int x2), (3, .int x3), (4, .int x4), (5, .int x5), (6, .int x6), (7, .int x7), (8, .int x8)] → W p l e (headSpec (wsA yX7_cut cX7_cut 9 (some .int)) ({ frames := 2, cells := 0, slots := 0, locals := 46 })).room s m (#[.ref (q0 0), .int p0, .int p1, .int p2] : Array Value) below meth c s.heap [] 0 0 (MQ below (vp_Si Q) (#[.ref (q0 0), .int p0, .int p1, .int p2] : Array Value) s 0 0 (fun _ => False)) (F0 m 58 ls []) := by
          intro n
          induction n using Nat.strongRecOn with
          | _ n_58 ih_58 =>
          intro x1 x2 x3 x4 x5 x6 x7 x8 ls hI hl
          have hf : LB_X7_cut_58 (fun z => ∃ k, k < n_58 ∧ I_58 k z) (fun z => ∃ k, k < n_46 ∧ I_46 k z) s0 x1 x2 x3 x4 x5 x6 x7 x8 Q := hst_58 n_58 (x1, x2, x3, x4, x5, x6, x7, x8) hI
          have hG_58 : ∀ (x1 : Int32) (x2 : Int32) (x3 : Int32) (x4 : Int32) (x5 : Int32) (x6 : Int32) (x7 : Int32) (x8 : Int32) (ls : Array Slot), (∃ k, k < n_58 ∧ I_58 k (x1, x2, x3, x4, x5, x6, x7, x8)) → lv_has ls 9 [(0, .ref (q0 0)), (1, .int x1), (2, .int x2), (3, .int x3), (4, .int x4), (5, .int x5), (6, .int x6), (7, .int x7), (8, .int x8)] → W p l e (headSpec (wsA yX7_cut cX7_cut 9 (some .int)) ({ frames := 2, cells := 0, slots := 0, locals := 46 })).room s m (#[.ref (q0 0), .int p0, .int p1, .int p2] : Array Value) below meth c s.heap [] 0 0 (MQ below (vp_Si Q) (#[.ref (q0 0), .int p0, .int p1, .int p2] : Array Value) s 0 0 (fun _ => False)) (F0 m 58 ls []) := by
            rintro x1 x2 x3 x4 x5 x6 x7 x8 ls ⟨k, hk, hI⟩ hl
            exact ih_58 k hk x1 x2 x3 x4 x5 x6 x7 x8 ls hI hl
          unfold LB_X7_cut_58 at hf
          have k_96 : ∀ (x1 : Int32) (x2 : Int32) (x3 : Int32) (x4 : Int32) (x5 : Int32) (x6 : Int32) (x8 : Int32) (t0 : Int32) (t1 : Int32) (ls : Array Slot), B_X7_cut_96 (fun z => ∃ k, k < n_46 ∧ I_46 k z) (fun z => ∃ k, k < n_58 ∧ I_58 k z) s0 x1 x2 x3 x4 x5 x6 x8 t0 t1 Q → lv_has ls 9 [(0, .ref (q0 0)), (1, .int x1), (2, .int x2), (3, .int x3), (4, .int x4), (5, .int x5), (6, .int x6), (8, .int x8)] → W p l e (headSpec (wsA yX7_cut cX7_cut 9 (some .int)) ({ frames := 2, cells := 0, slots := 0, locals := 46 })).room s m (#[.ref (q0 0), .int p0, .int p1, .int p2] : Array Value) below meth c s.heap [] 0 0 (MQ below (vp_Si Q) (#[.ref (q0 0), .int p0, .int p1, .int p2] : Array Value) s 0 0 (fun _ => False)) (F0 m 96 ls [.int t0, .int t1]) := by
            intro x1 x2 x3 x4 x5 x6 x8 t0 t1 ls hf hl
            unfold B_X7_cut_96 at hf
            refine lv_iadd hx hb dX7_cut_96 ?_
            refine lv_topi (fun x7_3 ex7_3 => ?_)
            have hf := hf x7_3 ex7_3
            refine lv_istore (lv' := [(7, .int x7_3), (0, .ref (q0 0)), (1, .int x1), (2, .int x2), (3, .int x3), (4, .int x4), (5, .int x5), (6, .int x6), (8, .int x8)]) hx hb dX7_cut_97 hl (by decide) rfl (fun ls hl => ?_)
            obtain ⟨x8_4, ex8_4⟩ : ∃ y : Int32, y = x8 + (1 : Int32) := ⟨_, rfl⟩
            have hf := hf x8_4 ex8_4
            refine lv_iinc (v := x8_4) (lv' := [(8, .int x8_4), (7, .int x7_3), (0, .ref (q0 0)), (1, .int x1), (2, .int x2), (3, .int x3), (4, .int x4), (5, .int x5), (6, .int x6)]) hx hb dX7_cut_99 hl (k := 8) rfl (by rw [ex8_4]; rfl) (by decide) rfl (fun ls hl => ?_)
            refine lv_goto (tgt := 58) hx hb dX7_cut_102 (by decide) ?_
            exact hG_58 x1 x2 x3 x4 x5 x6 x7_3 x8_4 ls hf (lv_sub hl [2, 3, 4, 5, 6, 7, 8, 1, 0] rfl)
          have k_88 : ∀ (x1 : Int32) (x2 : Int32) (x3 : Int32) (x4 : Int32) (x5 : Int32) (x6 : Int32) (x8 : Int32) (t0 : Int32) (t1 : Int32) (t2 : Int32) (ls : Array Slot), B_X7_cut_88 (fun z => ∃ k, k < n_46 ∧ I_46 k z) (fun z => ∃ k, k < n_58 ∧ I_58 k z) s0 x1 x2 x3 x4 x5 x6 x8 t0 t1 t2 Q → lv_has ls 9 [(0, .ref (q0 0)), (1, .int x1), (2, .int x2), (3, .int x3), (4, .int x4), (5, .int x5), (6, .int x6), (8, .int x8)] → W p l e (headSpec (wsA yX7_cut cX7_cut 9 (some .int)) ({ frames := 2, cells := 0, slots := 0, locals := 46 })).room s m (#[.ref (q0 0), .int p0, .int p1, .int p2] : Array Value) below meth c s.heap [] 0 0 (MQ below (vp_Si Q) (#[.ref (q0 0), .int p0, .int p1, .int p2] : Array Value) s 0 0 (fun _ => False)) (F0 m 88 ls [.int t0, .int t1, .int t2]) := by
            intro x1 x2 x3 x4 x5 x6 x8 t0 t1 t2 ls hf hl
            unfold B_X7_cut_88 at hf
            refine lv_icmp_ne (tgt := 95) hx hb dX7_cut_88 (by decide) (fun c_5 => ?_) (fun c_5 => ?_)
            · have hf := hf.1 c_5
              refine lv_iconst (v := (0 : Int32)) hx hb dX7_cut_95 (by decide) ?_
              exact k_96 x1 x2 x3 x4 x5 x6 x8 (0 : Int32) t2 ls hf (lv_sub hl [0, 1, 2, 3, 4, 5, 6, 7] rfl)
            · have hf := hf.2 c_5
              refine lv_iconst (v := (1 : Int32)) hx hb dX7_cut_91 (by decide) ?_
              refine lv_goto (tgt := 96) hx hb dX7_cut_92 (by decide) ?_
              exact k_96 x1 x2 x3 x4 x5 x6 x8 (1 : Int32) t2 ls hf (lv_sub hl [0, 1, 2, 3, 4, 5, 6, 7] rfl)
          refine lv_iload hx hb dX7_cut_58 (lv_at hl 8 rfl) ?_
          refine lv_bipush (v := (20 : Int32)) hx hb dX7_cut_60 (by decide) ?_
          refine lv_icmp_ge (tgt := 105) hx hb dX7_cut_62 (by decide) (fun c_6 => ?_) (fun c_6 => ?_)
          · have hf := hf.1 c_6
            refine lv_iload hx hb dX7_cut_105 (lv_at hl 7 rfl) ?_
            refine lv_iload hx hb dX7_cut_107 (lv_at hl 5 rfl) ?_
            refine lv_icmp_le (tgt := 117) hx hb dX7_cut_109 (by decide) (fun c_7 => ?_) (fun c_7 => ?_)
            · have hf := hf.1 c_7
              refine lv_iload hx hb dX7_cut_117 (lv_at hl 4 rfl) ?_
              exact k_119 x1 x2 x3 x5 x6 x7 x4 ls hf (lv_sub hl [0, 1, 2, 3, 5, 6, 7] rfl)
            · have hf := hf.2 c_7
              refine lv_iload hx hb dX7_cut_112 (lv_at hl 6 rfl) ?_
              refine lv_goto (tgt := 119) hx hb dX7_cut_114 (by decide) ?_
              exact k_119 x1 x2 x3 x5 x6 x7 x6 ls hf (lv_sub hl [0, 1, 2, 3, 5, 6, 7] rfl)
          · have hf := hf.2 c_6
            refine lv_iload hx hb dX7_cut_65 (lv_at hl 7 rfl) ?_
            refine lv_aload_n hx hb dX7_cut_67 rfl (lv_at hl 0 rfl) ?_
            refine lv_iconst (v := (0 : Int32)) hx hb dX7_cut_68 (by decide) ?_
            refine lv_iload hx hb dX7_cut_69 (lv_at hl 8 rfl) ?_
            have hPc : va_P D classes (wM cI cZ q0 s0) s.heap := hP
            refine vp_callSi (W.runV (As := [.int (0 : Int32), .int x8]) (rest := [.int x7]) ⟨hx, hb, hml, hown, hts⟩ (c_X7_ownerOf l D cI cZ cW q0 (0 : Int32) x8 s0 _ hf) ⟨callB_of 2 hts (gA tw_792) rfl rfl rfl (ht _ tw_7) (ht _ tw_789) hd_X7_ownerOf ⟨Nat.le_of_ble_eq_true rfl, Nat.le_of_ble_eq_true rfl⟩, ht _ tw_791, ht _ twp_23⟩ ⟨PR_blind, va_recv hK hP (ci := 5) (q0 := 0) rfl eM_0, fun U hU hW => PR_mk hPc hK hU hW⟩ rfl rfl hl.1 rfl (lv_room (Nat.le_of_ble_eq_true rfl)) dX7_cut_71 ⟨Nat.zero_le _, Nat.zero_le _⟩) (fun r_8 hf => ?_)
            refine lv_iload hx hb dX7_cut_74 (lv_at hl 8 rfl) ?_
            refine lv_iconst (v := (5 : Int32)) hx hb dX7_cut_76 (by decide) ?_
            refine lv_irem hx hb dX7_cut_77 (by decide) ?_
            refine lv_iload hx hb dX7_cut_78 (lv_at hl 6 rfl) ?_
            refine lv_icmp_ge (tgt := 87) hx hb dX7_cut_80 (by decide) (fun c_9 => ?_) (fun c_9 => ?_)
            · have hf := hf.1 c_9
              refine lv_iload_n hx hb dX7_cut_87 rfl (lv_at hl 2 rfl) ?_
              exact k_88 x1 x2 x3 x4 x5 x6 x8 x2 r_8 x7 ls hf (lv_sub hl [0, 1, 2, 3, 4, 5, 6, 8] rfl)
            · have hf := hf.2 c_9
              refine lv_iload_n hx hb dX7_cut_83 rfl (lv_at hl 1 rfl) ?_
              refine lv_goto (tgt := 88) hx hb dX7_cut_84 (by decide) ?_
              exact k_88 x1 x2 x3 x4 x5 x6 x8 x1 r_8 x7 ls hf (lv_sub hl [0, 1, 2, 3, 4, 5, 6, 8] rfl)
        exact main_58 n0_58 x1 x2 x3 x4 x5 x6 x7 x8 ls hI0_58 hl
      refine lv_iload hx hb dX7_cut_46 (lv_at hl 6 rfl) ?_
      refine lv_iconst (v := (5 : Int32)) hx hb dX7_cut_48 (by decide) ?_
      refine lv_icmp_ge (tgt := 143) hx hb dX7_cut_49 (by decide) (fun c_10 => ?_) (fun c_10 => ?_)
      · have hf := hf.1 c_10
        refine lv_iload_n hx hb dX7_cut_143 rfl (lv_at hl 3 rfl) ?_
        refine lv_if_ne (tgt := 152) hx hb dX7_cut_144 (by decide) (fun c_11 => ?_) (fun c_11 => ?_)
        · have hf := hf.1 c_11
          refine lv_iload hx hb dX7_cut_152 (lv_at hl 5 rfl) ?_
          exact W.iret (v := x5) hx hb hr (fun t ht hW => ⟨x5, rfl, hf, ht⟩) (fun q h => absurd h List.not_mem_nil) dX7_cut_154
        · have hf := hf.2 c_11
          refine lv_iload hx hb dX7_cut_147 (lv_at hl 4 rfl) ?_
          refine lv_goto (tgt := 154) hx hb dX7_cut_149 (by decide) ?_
          exact W.iret (v := x4) hx hb hr (fun t ht hW => ⟨x4, rfl, hf, ht⟩) (fun q h => absurd h List.not_mem_nil) dX7_cut_154
      · have hf := hf.2 c_10
        refine lv_iconst (v := (0 : Int32)) hx hb dX7_cut_52 (by decide) ?_
        refine lv_istore (lv' := [(7, .int (0 : Int32)), (0, .ref (q0 0)), (1, .int x1), (2, .int x2), (3, .int x3), (4, .int x4), (5, .int x5), (6, .int x6)]) hx hb dX7_cut_53 hl (by decide) rfl (fun ls hl => ?_)
        refine lv_iconst (v := (0 : Int32)) hx hb dX7_cut_55 (by decide) ?_
        refine lv_istore (lv' := [(8, .int (0 : Int32)), (7, .int (0 : Int32)), (0, .ref (q0 0)), (1, .int x1), (2, .int x2), (3, .int x3), (4, .int x4), (5, .int x5), (6, .int x6)]) hx hb dX7_cut_56 hl (by decide) rfl (fun ls hl => ?_)
        exact k_58 x1 x2 x3 x4 x5 x6 (0 : Int32) (0 : Int32) ls hf (lv_sub hl [2, 3, 4, 5, 6, 7, 8, 1, 0] rfl)
    exact main_46 n0_46 x1 x2 x3 x4 x5 x6 ls hI0_46 hl
  refine lv_aload_n hx hb dX7_cut_0 rfl (lv_at hl 0 rfl) ?_
  refine lv_iload_n hx hb dX7_cut_1 rfl (lv_at hl 1 rfl) ?_
  have hPc : va_P D classes (wM cI cZ q0 s0) s.heap := hP
  refine vp_callSi (W.runV (As := [.int p0]) (rest := []) ⟨hx, hb, hml, hown, hts⟩ (c_X7_isOwner l D cI cZ cW q0 p0 s0 _ hf) ⟨callB_of 1 hts (gA tw_784) rfl rfl rfl (ht _ tw_7) (ht _ tw_781) hd_X7_isOwner ⟨Nat.le_of_ble_eq_true rfl, Nat.le_of_ble_eq_true rfl⟩, ht _ tw_783, ht _ twp_21⟩ ⟨PR_blind, va_recv hK hP (ci := 5) (q0 := 0) rfl eM_0, fun U hU hW => PR_mk hPc hK hU hW⟩ rfl rfl hl.1 rfl (lv_room (Nat.le_of_ble_eq_true rfl)) dX7_cut_2 ⟨Nat.zero_le _, Nat.zero_le _⟩) (fun r_12 hf => ?_)
  refine lv_if_eq (tgt := 16) hx hb dX7_cut_5 (by decide) (fun c_13 => ?_) (fun c_13 => ?_)
  · have hf := hf.1 c_13
    refine lv_iconst (v := (-1 : Int32)) hx hb dX7_cut_16 (by decide) ?_
    exact W.iret (v := (-1 : Int32)) hx hb hr (fun t ht hW => ⟨(-1 : Int32), rfl, hf, ht⟩) (fun q h => absurd h List.not_mem_nil) dX7_cut_17
  · have hf := hf.2 c_13
    refine lv_aload_n hx hb dX7_cut_8 rfl (lv_at hl 0 rfl) ?_
    refine lv_iload_n hx hb dX7_cut_9 rfl (lv_at hl 2 rfl) ?_
    have hPc : va_P D classes (wM cI cZ q0 s0) s.heap := hP
    refine vp_callSi (W.runV (As := [.int p1]) (rest := []) ⟨hx, hb, hml, hown, hts⟩ (c_X7_isOwner l D cI cZ cW q0 p1 s0 _ hf) ⟨callB_of 1 hts (gA tw_784) rfl rfl rfl (ht _ tw_7) (ht _ tw_781) hd_X7_isOwner ⟨Nat.le_of_ble_eq_true rfl, Nat.le_of_ble_eq_true rfl⟩, ht _ tw_783, ht _ twp_21⟩ ⟨PR_blind, va_recv hK hP (ci := 5) (q0 := 0) rfl eM_0, fun U hU hW => PR_mk hPc hK hU hW⟩ rfl rfl hl.1 rfl (lv_room (Nat.le_of_ble_eq_true rfl)) dX7_cut_10 ⟨Nat.zero_le _, Nat.zero_le _⟩) (fun r_14 hf => ?_)
    refine lv_if_ne (tgt := 18) hx hb dX7_cut_13 (by decide) (fun c_15 => ?_) (fun c_15 => ?_)
    · have hf := hf.1 c_15
      refine lv_iload_n hx hb dX7_cut_18 rfl (lv_at hl 1 rfl) ?_
      refine lv_iload_n hx hb dX7_cut_19 rfl (lv_at hl 2 rfl) ?_
      refine lv_icmp_eq (tgt := 33) hx hb dX7_cut_20 (by decide) (fun c_16 => ?_) (fun c_16 => ?_)
      · have hf := hf.1 c_16
        refine lv_bipush (v := (-2 : Int32)) hx hb dX7_cut_33 (by decide) ?_
        exact W.iret (v := (-2 : Int32)) hx hb hr (fun t ht hW => ⟨(-2 : Int32), rfl, hf, ht⟩) (fun q h => absurd h List.not_mem_nil) dX7_cut_35
      · have hf := hf.2 c_16
        refine lv_iload_n hx hb dX7_cut_23 rfl (lv_at hl 3 rfl) ?_
        refine lv_i2l (v := p2.toInt64) hx hb dX7_cut_24 rfl ?_
        refine lv_lconst (v := (0 : Int64)) hx hb dX7_cut_25 (by decide) ?_
        refine lv_lconst (v := (1 : Int64)) hx hb dX7_cut_26 (by decide) ?_
        have hPc : va_P D classes ([] : va_W) s.heap := hP.sub [] rfl
        refine vp_callSi (W.runS (As := [.long p2.toInt64, .long (0 : Int64), .long (1 : Int64)]) (rest := []) ⟨hx, hb, hml, hown, hts⟩ (c_X7_in l D cI cZ cW  (p2.toInt64) (0 : Int64) (1 : Int64) _ hf) ⟨callB_of 3 hts (gA tw_747) rfl rfl rfl (ht _ tw_7) (ht _ tw_745) hd_X7_in ⟨Nat.le_of_ble_eq_true rfl, Nat.le_of_ble_eq_true rfl⟩, ht _ tw_746⟩ ⟨PR_blind, fun U hU hW => PR_mk hPc hK hU hW⟩ rfl rfl hl.1 rfl (lv_room (Nat.le_of_ble_eq_true rfl)) dX7_cut_27 ⟨Nat.zero_le _, Nat.zero_le _⟩) (fun r_17 hf => ?_)
        refine lv_if_ne (tgt := 36) hx hb dX7_cut_30 (by decide) (fun c_18 => ?_) (fun c_18 => ?_)
        · have hf := hf.1 c_18
          refine lv_iconst (v := (0 : Int32)) hx hb dX7_cut_36 (by decide) ?_
          refine lv_istore (lv' := [(4, .int (0 : Int32)), (0, .ref (q0 0)), (1, .int p0), (2, .int p1), (3, .int p2)]) hx hb dX7_cut_37 hl (by decide) rfl (fun ls hl => ?_)
          refine lv_bipush (v := (-9 : Int32)) hx hb dX7_cut_39 (by decide) ?_
          refine lv_istore (lv' := [(5, .int (-9 : Int32)), (4, .int (0 : Int32)), (0, .ref (q0 0)), (1, .int p0), (2, .int p1), (3, .int p2)]) hx hb dX7_cut_41 hl (by decide) rfl (fun ls hl => ?_)
          refine lv_iconst (v := (1 : Int32)) hx hb dX7_cut_43 (by decide) ?_
          refine lv_istore (lv' := [(6, .int (1 : Int32)), (5, .int (-9 : Int32)), (4, .int (0 : Int32)), (0, .ref (q0 0)), (1, .int p0), (2, .int p1), (3, .int p2)]) hx hb dX7_cut_44 hl (by decide) rfl (fun ls hl => ?_)
          exact k_46 p0 p1 p2 (0 : Int32) (-9 : Int32) (1 : Int32) ls hf (lv_sub hl [3, 4, 5, 6, 2, 1, 0] rfl)
        · have hf := hf.2 c_18
          refine lv_bipush (v := (-2 : Int32)) hx hb dX7_cut_33 (by decide) ?_
          exact W.iret (v := (-2 : Int32)) hx hb hr (fun t ht hW => ⟨(-2 : Int32), rfl, hf, ht⟩) (fun q h => absurd h List.not_mem_nil) dX7_cut_35
    · have hf := hf.2 c_15
      refine lv_iconst (v := (-1 : Int32)) hx hb dX7_cut_16 (by decide) ?_
      exact W.iret (v := (-1 : Int32)) hx hb hr (fun t ht hW => ⟨(-1 : Int32), rfl, hf, ht⟩) (fun q h => absurd h List.not_mem_nil) dX7_cut_17
def B_X7_tryThing_98  (x2 : Int32) (x3 : Int32) (t0 : Int32) (s0 : CS) (Q : Int32 → CS → Prop) : Prop := ((t0 = 0 → narrow .boolean (.int t0) = .int t0 ∧ Q t0 s0) ∧ (¬ t0 = 0 → vp_in ((60 : Int32) + x2) 70 ∧ ∀ s0_3 : CS, s0_3 = sA s0 5 ((60 : Int32) + x2).toNatClampNeg x3 → narrow .boolean (.int t0) = .int t0 ∧ Q t0 s0_3))
def B_X7_tryThing_97  (x2 : Int32) (x3 : Int32) (s0 : CS) (Q : Int32 → CS → Prop) : Prop := B_X7_tryThing_98  x2 x3 (0 : Int32) s0 Q
def B_X7_tryThing_139  (x2 : Int32) (x3 : Int32) (t0 : Int32) (s0 : CS) (Q : Int32 → CS → Prop) : Prop := ((t0 = 0 → narrow .boolean (.int t0) = .int t0 ∧ Q t0 s0) ∧ (¬ t0 = 0 → wp_X7_sellOn (1 : Int32) x2 x3 s0 (fun r_6 s0_5 => narrow .boolean (.int t0) = .int t0 ∧ Q t0 s0_5)))
def B_X7_tryThing_138  (x2 : Int32) (x3 : Int32) (s0 : CS) (Q : Int32 → CS → Prop) : Prop := B_X7_tryThing_139  x2 x3 (0 : Int32) s0 Q
def wp_X7_tryThing (p0 : Int32) (p1 : Int32) (p2 : Int32) (s0 : CS) (Q : Int32 → CS → Prop) : Prop := ((p0 = (0 : Int32) → wp_X7_passOn (1 : Int32) s0 (fun r_9 s0_8 => ((¬ p1 = 0 → Q (0 : Int32) s0_8) ∧ (p1 = 0 → ((¬ p2 = 0 → Q (0 : Int32) s0_8) ∧ (p2 = 0 → Q (1 : Int32) s0_8)))))) ∧ (¬ p0 = (0 : Int32) → ((p0 = (1 : Int32) → wp_X7_canEat (1 : Int32) p1 p2 s0 (fun r_13 => ((r_13 = 0 → narrow .boolean (.int r_13) = .int r_13 ∧ Q r_13 s0) ∧ (¬ r_13 = 0 → wp_X7_eatOn (1 : Int32) p1 p2 s0 (fun r_16 s0_15 => narrow .boolean (.int r_13) = .int r_13 ∧ Q r_13 s0_15))))) ∧ (¬ p0 = (1 : Int32) → ((p0 = (2 : Int32) → (((10 : Int32) ≤ p2 → B_X7_tryThing_97  p1 p2 s0 Q) ∧ (¬ (10 : Int32) ≤ p2 → wp_X7_canLet (1 : Int32) p1 p2 s0 (fun r_19 => ((r_19 = 0 → B_X7_tryThing_97  p1 p2 s0 Q) ∧ (¬ r_19 = 0 → B_X7_tryThing_98  p1 p2 (1 : Int32) s0 Q)))))) ∧ (¬ p0 = (2 : Int32) → ((p0 = (3 : Int32) → (((10 : Int32) ≤ p2 → B_X7_tryThing_138  p1 p2 s0 Q) ∧ (¬ (10 : Int32) ≤ p2 → wp_X7_canSell (1 : Int32) p1 p2 s0 (fun r_23 => ((r_23 = 0 → B_X7_tryThing_138  p1 p2 s0 Q) ∧ (¬ r_23 = 0 → B_X7_tryThing_139  p1 p2 (1 : Int32) s0 Q)))))) ∧ (¬ p0 = (3 : Int32) → Q (0 : Int32) s0))))))))
set_option maxHeartbeats 4000000 in
set_option maxRecDepth 100000 in
theorem c_X7_tryThing (l : Launch) (D : va_G) (cI cZ cW : ClassId) (q0 : Nat → Nat) (sz : Nat) (p0 : Int32) (p1 : Int32) (p2 : Int32) (s0 : CS) (Q : Int32 → CS → Prop) (hf : wp_X7_tryThing p0 p1 p2 s0 Q) : Met l yX7_tryThing (wsA yX7_tryThing cX7_tryThing 7 (some .boolean)) ({ frames := 5, cells := 0, slots := 0, locals := 117 }) (PW D cI cZ cW [.ref (q0 0), .int p0, .int p1, .int p2] (wM cI cZ q0 s0) sz) (va_Qi (fun (r : Int32) (u : CS) => Q r u) (fun u t => va_P D classes (wM cI cZ q0 u) t.heap) (va_A (wM cI cZ q0 s0) sz)) 0 0 (va_A (wM cI cZ q0 s0) sz) := by
  refine Met.ofW (cc := cX7_tryThing) (maxL := 7) (ret := (some .boolean)) (by decide) rfl ?_
  intro p e s m args below meth c s₁ B hml hv
  obtain ⟨rfl, hsz, hP, hK, hD0⟩ := hv
  have hx := B.exec
  have hb := B.bytes
  have hr := B.returns
  have hts := atoms_spec (ws := (wsA yX7_tryThing cX7_tryThing 7 (some .boolean))) B.pre
  have ht : ∀ w ∈ lw_g, w.before _ s = true := fun w h => hts w (List.mem_cons_of_mem _ h)
  have hown : s.vm.findClass RX7 = some m.cls := findClass_of_methodNamed B.named
  have hlocks := B.notSynchronized
  subst hsz
  have hD := hD0.self (sz := s.heap.size)
  generalize hAe : va_A (wM cI cZ q0 s0) s.heap.size = A at hD ⊢
  have hA : ∀ q : Nat, s.heap.size ≤ q → A q := fun q h => by rw [← hAe]; exact Or.inr h
  have hS : va_S A s.heap s.heap [] := va_S.rf
  have hDk : ∀ w : CS, va_D A (wM cI cZ q0 w) := fun w => D_M hD
  have hl := lv_entry ([.ref (q0 0), .int p0, .int p1, .int p2]) (n := 7) (Nat.le_of_ble_eq_true rfl)
  rw [lg_entry_eq]
  generalize (lg_sl ([.ref (q0 0), .int p0, .int p1, .int p2]) ++ List.replicate (7 - (lg_sl ([.ref (q0 0), .int p0, .int p1, .int p2])).length) Slot.unset).toArray = ls at hl ⊢
  have hl : lv_has ls 7 [(0, .ref (q0 0)), (1, .int p0), (2, .int p1), (3, .int p2)] := hl
  unfold wp_X7_tryThing at hf
  have k_98 : ∀ (x2 : Int32) (x3 : Int32) (t0 : Int32) (s0 : CS) (H : Heap) (locs : List Loc) (ls : Array Slot), B_X7_tryThing_98  x2 x3 t0 s0 Q → va_P D classes (wM cI cZ q0 s0) H → va_D A (wM cI cZ q0 s0) → va_S A s.heap H locs → lv_has ls 7 [(0, .ref (q0 0)), (2, .int x2), (3, .int x3)] → W p l e (headSpec (wsA yX7_tryThing cX7_tryThing 7 (some .boolean)) ({ frames := 5, cells := 0, slots := 0, locals := 117 })).room s m (#[.ref (q0 0), .int p0, .int p1, .int p2] : Array Value) below meth c H locs 0 0 (MQ below (va_Qi (fun (r : Int32) (u : CS) => Q r u) (fun u t => va_P D classes (wM cI cZ q0 u) t.heap) A) (#[.ref (q0 0), .int p0, .int p1, .int p2] : Array Value) s 0 0 A) (F0 m 98 ls [.int t0]) := by
    intro x2 x3 t0 s0 H locs ls hf hP hD hS hl
    unfold B_X7_tryThing_98 at hf
    refine lv_istore (lv' := [(5, .int t0), (0, .ref (q0 0)), (2, .int x2), (3, .int x3)]) hx hb dX7_tryThing_98 hl (by decide) rfl (fun ls hl => ?_)
    refine lv_iload hx hb dX7_tryThing_100 (lv_at hl 0 rfl) ?_
    refine lv_if_eq (tgt := 115) hx hb dX7_tryThing_102 (by decide) (fun c_1 => ?_) (fun c_1 => ?_)
    · have hf := hf.1 c_1
      refine lv_iload hx hb dX7_tryThing_115 (lv_at hl 0 rfl) ?_
      obtain ⟨hn, hf⟩ := hf
      exact W.zret (v := t0) hx hb hr hn (fun t ht hW => ⟨⟨t0, s0, rfl, hf, P_heap ht hP⟩, hS.F ht⟩) hS.2.2 dX7_tryThing_117
    · have hf := hf.2 c_1
      refine lv_aload_n hx hb dX7_tryThing_105 rfl (lv_at hl 1 rfl) ?_
      refine va_get (D := D) (ci := 5) (v := .ref (q0 4)) (C := RX7) (T := TX7) (N := 28) hx hb ht inX7 hown hK hP 0 eM_0 rfl 5 (by decide) (ht _ tw_660) (fun _ h9 => h9) rfl dX7_tryThing_106 ?_
      refine lv_bipush (v := (60 : Int32)) hx hb dX7_tryThing_109 (by decide) ?_
      refine lv_iload_n hx hb dX7_tryThing_111 rfl (lv_at hl 2 rfl) ?_
      refine lv_iadd hx hb dX7_tryThing_112 ?_
      refine lv_iload_n hx hb dX7_tryThing_113 rfl (lv_at hl 3 rfl) ?_
      obtain ⟨hi_2, hf⟩ := hf
      refine va_iast hx hb hK hP hD hS 4 0 eM_4 rfl hi_2 dX7_tryThing_114 (fun H locs hP hD hS => ?_)
      obtain ⟨s0_3, es0_3⟩ : ∃ y : CS, y = sA s0 5 ((60 : Int32) + x2).toNatClampNeg x3 := ⟨_, rfl⟩
      have hf := hf s0_3 es0_3
      have hD := hDk s0_3
      have hP : va_P D classes (wM cI cZ q0 s0_3) H := by rw [es0_3]; exact PM_F5 hP
      refine lv_iload hx hb dX7_tryThing_115 (lv_at hl 0 rfl) ?_
      obtain ⟨hn, hf⟩ := hf
      exact W.zret (v := t0) hx hb hr hn (fun t ht hW => ⟨⟨t0, s0_3, rfl, hf, P_heap ht hP⟩, hS.F ht⟩) hS.2.2 dX7_tryThing_117
  have k_97 : ∀ (x2 : Int32) (x3 : Int32) (s0 : CS) (H : Heap) (locs : List Loc) (ls : Array Slot), B_X7_tryThing_97  x2 x3 s0 Q → va_P D classes (wM cI cZ q0 s0) H → va_D A (wM cI cZ q0 s0) → va_S A s.heap H locs → lv_has ls 7 [(0, .ref (q0 0)), (2, .int x2), (3, .int x3)] → W p l e (headSpec (wsA yX7_tryThing cX7_tryThing 7 (some .boolean)) ({ frames := 5, cells := 0, slots := 0, locals := 117 })).room s m (#[.ref (q0 0), .int p0, .int p1, .int p2] : Array Value) below meth c H locs 0 0 (MQ below (va_Qi (fun (r : Int32) (u : CS) => Q r u) (fun u t => va_P D classes (wM cI cZ q0 u) t.heap) A) (#[.ref (q0 0), .int p0, .int p1, .int p2] : Array Value) s 0 0 A) (F0 m 97 ls []) := by
    intro x2 x3 s0 H locs ls hf hP hD hS hl
    unfold B_X7_tryThing_97 at hf
    refine lv_iconst (v := (0 : Int32)) hx hb dX7_tryThing_97 (by decide) ?_
    exact k_98 x2 x3 (0 : Int32) s0 H locs ls hf hP hD hS (lv_sub hl [0, 1, 2] rfl)
  have k_139 : ∀ (x2 : Int32) (x3 : Int32) (t0 : Int32) (s0 : CS) (H : Heap) (locs : List Loc) (ls : Array Slot), B_X7_tryThing_139  x2 x3 t0 s0 Q → va_P D classes (wM cI cZ q0 s0) H → va_D A (wM cI cZ q0 s0) → va_S A s.heap H locs → lv_has ls 7 [(0, .ref (q0 0)), (2, .int x2), (3, .int x3)] → W p l e (headSpec (wsA yX7_tryThing cX7_tryThing 7 (some .boolean)) ({ frames := 5, cells := 0, slots := 0, locals := 117 })).room s m (#[.ref (q0 0), .int p0, .int p1, .int p2] : Array Value) below meth c H locs 0 0 (MQ below (va_Qi (fun (r : Int32) (u : CS) => Q r u) (fun u t => va_P D classes (wM cI cZ q0 u) t.heap) A) (#[.ref (q0 0), .int p0, .int p1, .int p2] : Array Value) s 0 0 A) (F0 m 139 ls [.int t0]) := by
    intro x2 x3 t0 s0 H locs ls hf hP hD hS hl
    unfold B_X7_tryThing_139 at hf
    refine lv_istore (lv' := [(6, .int t0), (0, .ref (q0 0)), (2, .int x2), (3, .int x3)]) hx hb dX7_tryThing_139 hl (by decide) rfl (fun ls hl => ?_)
    refine lv_iload hx hb dX7_tryThing_141 (lv_at hl 0 rfl) ?_
    refine lv_if_eq (tgt := 154) hx hb dX7_tryThing_143 (by decide) (fun c_4 => ?_) (fun c_4 => ?_)
    · have hf := hf.1 c_4
      refine lv_iload hx hb dX7_tryThing_154 (lv_at hl 0 rfl) ?_
      obtain ⟨hn, hf⟩ := hf
      exact W.zret (v := t0) hx hb hr hn (fun t ht hW => ⟨⟨t0, s0, rfl, hf, P_heap ht hP⟩, hS.F ht⟩) hS.2.2 dX7_tryThing_156
    · have hf := hf.2 c_4
      refine lv_aload_n hx hb dX7_tryThing_146 rfl (lv_at hl 1 rfl) ?_
      refine lv_iconst (v := (1 : Int32)) hx hb dX7_tryThing_147 (by decide) ?_
      refine lv_iload_n hx hb dX7_tryThing_148 rfl (lv_at hl 2 rfl) ?_
      refine lv_iload_n hx hb dX7_tryThing_149 rfl (lv_at hl 3 rfl) ?_
      have hPc : va_P D classes (wM cI cZ q0 s0) H := hP
      have hDc : va_D A (wM cI cZ q0 s0) := hD
      have hFc := va_free (wc := (wM cI cZ q0 s0)) hD hS hA [0, 1, 2, 3, 4, 5, 6, 7, 8, 9, 10, 11, 12, 13, 14, 15] rfl
      refine va_calli (va_runV (As := [.int (1 : Int32), .int x2, .int x3]) (rest := []) ⟨hx, hb, hml, hown, hts⟩ (c_X7_sellOn l D cI cZ cW q0 H.size (1 : Int32) x2 x3 s0 _ hf) ⟨callB_of 3 hts (gA tw_896) rfl rfl rfl (ht _ tw_7) (ht _ tw_893) hd_X7_sellOn ⟨Nat.le_of_ble_eq_true rfl, Nat.le_of_ble_eq_true rfl⟩, ht _ tw_895, ht _ twp_40⟩ ⟨PW_blind, va_recv hK hP (ci := 5) (q0 := 0) rfl eM_0, fun U hU hW => PW_mk hPc hDc hK hU hW⟩ rfl rfl hl.1 rfl (lv_room (Nat.le_of_ble_eq_true rfl)) dX7_tryThing_150 ⟨Nat.zero_le _, Nat.zero_le _⟩) hS (fun q _ h => hFc q h) hFc (fun r_6 u t H1 locs ht1 hvm hf hB hz1 hk1 hS => ?_)
      obtain ⟨s0_5, rfl⟩ : ∃ z, z = u := ⟨_, rfl⟩
      rw [ht1] at hB
      have hP := hB
      have hD := hDk s0_5
      generalize H1 = H at hP hS ⊢
      have hP : va_P D classes (wM cI cZ q0 s0_5) H := hP
      have hD : va_D A (wM cI cZ q0 s0_5) := hD
      refine lv_pop hx hb dX7_tryThing_153 rfl ?_
      refine lv_iload hx hb dX7_tryThing_154 (lv_at hl 0 rfl) ?_
      obtain ⟨hn, hf⟩ := hf
      exact W.zret (v := t0) hx hb hr hn (fun t ht hW => ⟨⟨t0, s0_5, rfl, hf, P_heap ht hP⟩, hS.F ht⟩) hS.2.2 dX7_tryThing_156
  have k_138 : ∀ (x2 : Int32) (x3 : Int32) (s0 : CS) (H : Heap) (locs : List Loc) (ls : Array Slot), B_X7_tryThing_138  x2 x3 s0 Q → va_P D classes (wM cI cZ q0 s0) H → va_D A (wM cI cZ q0 s0) → va_S A s.heap H locs → lv_has ls 7 [(0, .ref (q0 0)), (2, .int x2), (3, .int x3)] → W p l e (headSpec (wsA yX7_tryThing cX7_tryThing 7 (some .boolean)) ({ frames := 5, cells := 0, slots := 0, locals := 117 })).room s m (#[.ref (q0 0), .int p0, .int p1, .int p2] : Array Value) below meth c H locs 0 0 (MQ below (va_Qi (fun (r : Int32) (u : CS) => Q r u) (fun u t => va_P D classes (wM cI cZ q0 u) t.heap) A) (#[.ref (q0 0), .int p0, .int p1, .int p2] : Array Value) s 0 0 A) (F0 m 138 ls []) := by
    intro x2 x3 s0 H locs ls hf hP hD hS hl
    unfold B_X7_tryThing_138 at hf
    refine lv_iconst (v := (0 : Int32)) hx hb dX7_tryThing_138 (by decide) ?_
    exact k_139 x2 x3 (0 : Int32) s0 H locs ls hf hP hD hS (lv_sub hl [0, 1, 2] rfl)
  have start : ∀ (H : Heap) (locs : List Loc), va_P D classes (wM cI cZ q0 s0) H → va_D A (wM cI cZ q0 s0) → va_S A s.heap H locs → W p l e (headSpec (wsA yX7_tryThing cX7_tryThing 7 (some .boolean)) ({ frames := 5, cells := 0, slots := 0, locals := 117 })).room s m (#[.ref (q0 0), .int p0, .int p1, .int p2] : Array Value) below meth c H locs 0 0 (MQ below (va_Qi (fun (r : Int32) (u : CS) => Q r u) (fun u t => va_P D classes (wM cI cZ q0 u) t.heap) A) (#[.ref (q0 0), .int p0, .int p1, .int p2] : Array Value) s 0 0 A) (F0 m 0 ls []) := by
    intro H locs hP hD hS
    refine lv_iload_n hx hb dX7_tryThing_0 rfl (lv_at hl 1 rfl) ?_
    by_cases c_7 : p0 = (0 : Int32)
    · have hf := hf.1 c_7
      refine lv_tableIn (off := 31) (tgt := 32) hx hb dX7_tryThing_1 (by rw [c_7]; decide) (by rw [c_7]; decide) (by rw [c_7]; first | done | rfl) (by decide) ?_
      refine lv_aload_n hx hb dX7_tryThing_32 rfl (lv_at hl 0 rfl) ?_
      refine lv_iconst (v := (1 : Int32)) hx hb dX7_tryThing_33 (by decide) ?_
      have hPc : va_P D classes (wM cI cZ q0 s0) H := hP
      have hDc : va_D A (wM cI cZ q0 s0) := hD
      have hFc := va_free (wc := (wM cI cZ q0 s0)) hD hS hA [0, 1, 2, 3, 4, 5, 6, 7, 8, 9, 10, 11, 12, 13, 14, 15] rfl
      refine va_calli (va_runV (As := [.int (1 : Int32)]) (rest := []) ⟨hx, hb, hml, hown, hts⟩ (c_X7_passOn l D cI cZ cW q0 H.size (1 : Int32) s0 _ hf) ⟨callB_of 1 hts (gA tw_826) rfl rfl rfl (ht _ tw_7) (ht _ tw_823) hd_X7_passOn ⟨Nat.le_of_ble_eq_true rfl, Nat.le_of_ble_eq_true rfl⟩, ht _ tw_825, ht _ twp_27⟩ ⟨PW_blind, va_recv hK hP (ci := 5) (q0 := 0) rfl eM_0, fun U hU hW => PW_mk hPc hDc hK hU hW⟩ rfl rfl hl.1 rfl (lv_room (Nat.le_of_ble_eq_true rfl)) dX7_tryThing_34 ⟨Nat.zero_le _, Nat.zero_le _⟩) hS (fun q _ h => hFc q h) hFc (fun r_9 u t H1 locs ht1 hvm hf hB hz1 hk1 hS => ?_)
      obtain ⟨s0_8, rfl⟩ : ∃ z, z = u := ⟨_, rfl⟩
      rw [ht1] at hB
      have hP := hB
      have hD := hDk s0_8
      generalize H1 = H at hP hS ⊢
      have hP : va_P D classes (wM cI cZ q0 s0_8) H := hP
      have hD : va_D A (wM cI cZ q0 s0_8) := hD
      refine lv_pop hx hb dX7_tryThing_37 rfl ?_
      refine lv_iload_n hx hb dX7_tryThing_38 rfl (lv_at hl 2 rfl) ?_
      refine lv_if_ne (tgt := 50) hx hb dX7_tryThing_39 (by decide) (fun c_10 => ?_) (fun c_10 => ?_)
      · have hf := hf.1 c_10
        refine lv_iconst (v := (0 : Int32)) hx hb dX7_tryThing_50 (by decide) ?_
        exact W.zret (v := (0 : Int32)) hx hb hr rfl (fun t ht hW => ⟨⟨(0 : Int32), s0_8, rfl, hf, P_heap ht hP⟩, hS.F ht⟩) hS.2.2 dX7_tryThing_51
      · have hf := hf.2 c_10
        refine lv_iload_n hx hb dX7_tryThing_42 rfl (lv_at hl 3 rfl) ?_
        refine lv_if_ne (tgt := 50) hx hb dX7_tryThing_43 (by decide) (fun c_11 => ?_) (fun c_11 => ?_)
        · have hf := hf.1 c_11
          refine lv_iconst (v := (0 : Int32)) hx hb dX7_tryThing_50 (by decide) ?_
          exact W.zret (v := (0 : Int32)) hx hb hr rfl (fun t ht hW => ⟨⟨(0 : Int32), s0_8, rfl, hf, P_heap ht hP⟩, hS.F ht⟩) hS.2.2 dX7_tryThing_51
        · have hf := hf.2 c_11
          refine lv_iconst (v := (1 : Int32)) hx hb dX7_tryThing_46 (by decide) ?_
          refine lv_goto (tgt := 51) hx hb dX7_tryThing_47 (by decide) ?_
          exact W.zret (v := (1 : Int32)) hx hb hr rfl (fun t ht hW => ⟨⟨(1 : Int32), s0_8, rfl, hf, P_heap ht hP⟩, hS.F ht⟩) hS.2.2 dX7_tryThing_51
    · have hf := hf.2 c_7
      by_cases c_12 : p0 = (1 : Int32)
      · have hf := hf.1 c_12
        refine lv_tableIn (off := 51) (tgt := 52) hx hb dX7_tryThing_1 (by rw [c_12]; decide) (by rw [c_12]; decide) (by rw [c_12]; first | done | rfl) (by decide) ?_
        refine lv_aload_n hx hb dX7_tryThing_52 rfl (lv_at hl 0 rfl) ?_
        refine lv_iconst (v := (1 : Int32)) hx hb dX7_tryThing_53 (by decide) ?_
        refine lv_iload_n hx hb dX7_tryThing_54 rfl (lv_at hl 2 rfl) ?_
        refine lv_iload_n hx hb dX7_tryThing_55 rfl (lv_at hl 3 rfl) ?_
        have hPc : va_P D classes (wM cI cZ q0 s0) H := hP
        refine vp_callSi (W.runV (As := [.int (1 : Int32), .int p1, .int p2]) (rest := []) ⟨hx, hb, hml, hown, hts⟩ (c_X7_canEat l D cI cZ cW q0 (1 : Int32) p1 p2 s0 _ hf) ⟨callB_of 3 hts (gA tw_872) rfl rfl rfl (ht _ tw_7) (ht _ tw_869) hd_X7_canEat ⟨Nat.le_of_ble_eq_true rfl, Nat.le_of_ble_eq_true rfl⟩, ht _ tw_871, ht _ twp_36⟩ ⟨PR_blind, va_recv hK hP (ci := 5) (q0 := 0) rfl eM_0, fun U hU hW => PR_mk hPc hK hU hW⟩ rfl rfl hl.1 rfl (lv_room (Nat.le_of_ble_eq_true rfl)) dX7_tryThing_56 ⟨Nat.zero_le _, Nat.zero_le _⟩) (fun r_13 hf => ?_)
        refine lv_istore (lv' := [(4, .int r_13), (0, .ref (q0 0)), (1, .int p0), (2, .int p1), (3, .int p2)]) hx hb dX7_tryThing_59 hl (by decide) rfl (fun ls hl => ?_)
        refine lv_iload hx hb dX7_tryThing_61 (lv_at hl 0 rfl) ?_
        refine lv_if_eq (tgt := 74) hx hb dX7_tryThing_63 (by decide) (fun c_14 => ?_) (fun c_14 => ?_)
        · have hf := hf.1 c_14
          refine lv_iload hx hb dX7_tryThing_74 (lv_at hl 0 rfl) ?_
          obtain ⟨hn, hf⟩ := hf
          exact W.zret (v := r_13) hx hb hr hn (fun t ht hW => ⟨⟨r_13, s0, rfl, hf, P_heap ht hP⟩, hS.F ht⟩) hS.2.2 dX7_tryThing_76
        · have hf := hf.2 c_14
          refine lv_aload_n hx hb dX7_tryThing_66 rfl (lv_at hl 1 rfl) ?_
          refine lv_iconst (v := (1 : Int32)) hx hb dX7_tryThing_67 (by decide) ?_
          refine lv_iload_n hx hb dX7_tryThing_68 rfl (lv_at hl 3 rfl) ?_
          refine lv_iload_n hx hb dX7_tryThing_69 rfl (lv_at hl 4 rfl) ?_
          have hPc : va_P D classes (wM cI cZ q0 s0) H := hP
          have hDc : va_D A (wM cI cZ q0 s0) := hD
          have hFc := va_free (wc := (wM cI cZ q0 s0)) hD hS hA [0, 1, 2, 3, 4, 5, 6, 7, 8, 9, 10, 11, 12, 13, 14, 15] rfl
          refine va_calli (va_runV (As := [.int (1 : Int32), .int p1, .int p2]) (rest := []) ⟨hx, hb, hml, hown, hts⟩ (c_X7_eatOn l D cI cZ cW q0 H.size (1 : Int32) p1 p2 s0 _ hf) ⟨callB_of 3 hts (gA tw_876) rfl rfl rfl (ht _ tw_7) (ht _ tw_873) hd_X7_eatOn ⟨Nat.le_of_ble_eq_true rfl, Nat.le_of_ble_eq_true rfl⟩, ht _ tw_875, ht _ twp_37⟩ ⟨PW_blind, va_recv hK hP (ci := 5) (q0 := 0) rfl eM_0, fun U hU hW => PW_mk hPc hDc hK hU hW⟩ rfl rfl hl.1 rfl (lv_room (Nat.le_of_ble_eq_true rfl)) dX7_tryThing_70 ⟨Nat.zero_le _, Nat.zero_le _⟩) hS (fun q _ h => hFc q h) hFc (fun r_16 u t H1 locs ht1 hvm hf hB hz1 hk1 hS => ?_)
          obtain ⟨s0_15, rfl⟩ : ∃ z, z = u := ⟨_, rfl⟩
          rw [ht1] at hB
          have hP := hB
          have hD := hDk s0_15
          generalize H1 = H at hP hS ⊢
          have hP : va_P D classes (wM cI cZ q0 s0_15) H := hP
          have hD : va_D A (wM cI cZ q0 s0_15) := hD
          refine lv_pop hx hb dX7_tryThing_73 rfl ?_
          refine lv_iload hx hb dX7_tryThing_74 (lv_at hl 0 rfl) ?_
          obtain ⟨hn, hf⟩ := hf
          exact W.zret (v := r_13) hx hb hr hn (fun t ht hW => ⟨⟨r_13, s0_15, rfl, hf, P_heap ht hP⟩, hS.F ht⟩) hS.2.2 dX7_tryThing_76
      · have hf := hf.2 c_12
        by_cases c_17 : p0 = (2 : Int32)
        · have hf := hf.1 c_17
          refine lv_tableIn (off := 76) (tgt := 77) hx hb dX7_tryThing_1 (by rw [c_17]; decide) (by rw [c_17]; decide) (by rw [c_17]; first | done | rfl) (by decide) ?_
          refine lv_iload_n hx hb dX7_tryThing_77 rfl (lv_at hl 3 rfl) ?_
          refine lv_bipush (v := (10 : Int32)) hx hb dX7_tryThing_78 (by decide) ?_
          refine lv_icmp_ge (tgt := 97) hx hb dX7_tryThing_80 (by decide) (fun c_18 => ?_) (fun c_18 => ?_)
          · have hf := hf.1 c_18
            exact k_97 p1 p2 s0 H locs ls hf hP hD hS (lv_sub hl [0, 2, 3] rfl)
          · have hf := hf.2 c_18
            refine lv_aload_n hx hb dX7_tryThing_83 rfl (lv_at hl 0 rfl) ?_
            refine lv_iconst (v := (1 : Int32)) hx hb dX7_tryThing_84 (by decide) ?_
            refine lv_iload_n hx hb dX7_tryThing_85 rfl (lv_at hl 2 rfl) ?_
            refine lv_iload_n hx hb dX7_tryThing_86 rfl (lv_at hl 3 rfl) ?_
            have hPc : va_P D classes (wM cI cZ q0 s0) H := hP
            refine vp_callSi (W.runV (As := [.int (1 : Int32), .int p1, .int p2]) (rest := []) ⟨hx, hb, hml, hown, hts⟩ (c_X7_canLet l D cI cZ cW q0 (1 : Int32) p1 p2 s0 _ hf) ⟨callB_of 3 hts (gA tw_884) rfl rfl rfl (ht _ tw_7) (ht _ tw_881) hd_X7_canLet ⟨Nat.le_of_ble_eq_true rfl, Nat.le_of_ble_eq_true rfl⟩, ht _ tw_883, ht _ twp_38⟩ ⟨PR_blind, va_recv hK hP (ci := 5) (q0 := 0) rfl eM_0, fun U hU hW => PR_mk hPc hK hU hW⟩ rfl rfl hl.1 rfl (lv_room (Nat.le_of_ble_eq_true rfl)) dX7_tryThing_87 ⟨Nat.zero_le _, Nat.zero_le _⟩) (fun r_19 hf => ?_)
            refine lv_if_eq (tgt := 97) hx hb dX7_tryThing_90 (by decide) (fun c_20 => ?_) (fun c_20 => ?_)
            · have hf := hf.1 c_20
              exact k_97 p1 p2 s0 H locs ls hf hP hD hS (lv_sub hl [0, 2, 3] rfl)
            · have hf := hf.2 c_20
              refine lv_iconst (v := (1 : Int32)) hx hb dX7_tryThing_93 (by decide) ?_
              refine lv_goto (tgt := 98) hx hb dX7_tryThing_94 (by decide) ?_
              exact k_98 p1 p2 (1 : Int32) s0 H locs ls hf hP hD hS (lv_sub hl [0, 2, 3] rfl)
        · have hf := hf.2 c_17
          by_cases c_21 : p0 = (3 : Int32)
          · have hf := hf.1 c_21
            refine lv_tableIn (off := 117) (tgt := 118) hx hb dX7_tryThing_1 (by rw [c_21]; decide) (by rw [c_21]; decide) (by rw [c_21]; first | done | rfl) (by decide) ?_
            refine lv_iload_n hx hb dX7_tryThing_118 rfl (lv_at hl 3 rfl) ?_
            refine lv_bipush (v := (10 : Int32)) hx hb dX7_tryThing_119 (by decide) ?_
            refine lv_icmp_ge (tgt := 138) hx hb dX7_tryThing_121 (by decide) (fun c_22 => ?_) (fun c_22 => ?_)
            · have hf := hf.1 c_22
              exact k_138 p1 p2 s0 H locs ls hf hP hD hS (lv_sub hl [0, 2, 3] rfl)
            · have hf := hf.2 c_22
              refine lv_aload_n hx hb dX7_tryThing_124 rfl (lv_at hl 0 rfl) ?_
              refine lv_iconst (v := (1 : Int32)) hx hb dX7_tryThing_125 (by decide) ?_
              refine lv_iload_n hx hb dX7_tryThing_126 rfl (lv_at hl 2 rfl) ?_
              refine lv_iload_n hx hb dX7_tryThing_127 rfl (lv_at hl 3 rfl) ?_
              have hPc : va_P D classes (wM cI cZ q0 s0) H := hP
              refine vp_callSi (W.runV (As := [.int (1 : Int32), .int p1, .int p2]) (rest := []) ⟨hx, hb, hml, hown, hts⟩ (c_X7_canSell l D cI cZ cW q0 (1 : Int32) p1 p2 s0 _ hf) ⟨callB_of 3 hts (gA tw_892) rfl rfl rfl (ht _ tw_7) (ht _ tw_889) hd_X7_canSell ⟨Nat.le_of_ble_eq_true rfl, Nat.le_of_ble_eq_true rfl⟩, ht _ tw_891, ht _ twp_39⟩ ⟨PR_blind, va_recv hK hP (ci := 5) (q0 := 0) rfl eM_0, fun U hU hW => PR_mk hPc hK hU hW⟩ rfl rfl hl.1 rfl (lv_room (Nat.le_of_ble_eq_true rfl)) dX7_tryThing_128 ⟨Nat.zero_le _, Nat.zero_le _⟩) (fun r_23 hf => ?_)
              refine lv_if_eq (tgt := 138) hx hb dX7_tryThing_131 (by decide) (fun c_24 => ?_) (fun c_24 => ?_)
              · have hf := hf.1 c_24
                exact k_138 p1 p2 s0 H locs ls hf hP hD hS (lv_sub hl [0, 2, 3] rfl)
              · have hf := hf.2 c_24
                refine lv_iconst (v := (1 : Int32)) hx hb dX7_tryThing_134 (by decide) ?_
                refine lv_goto (tgt := 139) hx hb dX7_tryThing_135 (by decide) ?_
                exact k_139 p1 p2 (1 : Int32) s0 H locs ls hf hP hD hS (lv_sub hl [0, 2, 3] rfl)
          · have hf := hf.2 c_21
            refine lv_tableOut (tgt := 157) hx hb dX7_tryThing_1 (by have h0 := lv_neT (a := 0) c_7 (by decide); have h1 := lv_neT (a := 1) c_12 (by decide); have h2 := lv_neT (a := 2) c_17 (by decide); have h3 := lv_neT (a := 3) c_21 (by decide); omega) (by decide) ?_
            refine lv_iconst (v := (0 : Int32)) hx hb dX7_tryThing_157 (by decide) ?_
            exact W.zret (v := (0 : Int32)) hx hb hr rfl (fun t ht hW => ⟨⟨(0 : Int32), s0, rfl, hf, P_heap ht hP⟩, hS.F ht⟩) hS.2.2 dX7_tryThing_158
  exact start s.heap [] hP hD hS
def LB_X7_power_5 (G5 : (Int64 × Int32 × Int64 × Int32) → Prop)  (x0 : Int64) (x2 : Int32) (x3 : Int64) (x5 : Int32) (Q : Int64 → Prop) : Prop := ((x2 ≤ x5 → Q x3) ∧ (¬ x2 ≤ x5 → ∀ x3_2 : Int64, x3_2 = (x3 * x0) → ∀ x5_3 : Int32, x5_3 = x5 + (1 : Int32) → G5 (x0, x2, x3_2, x5_3)))
def B_X7_power_5  (x0 : Int64) (x2 : Int32) (x3 : Int64) (x5 : Int32) (Q : Int64 → Prop) : Prop := LOOP (fun (G5 : (Int64 × Int32 × Int64 × Int32) → Prop) z => LB_X7_power_5 G5  z.1 z.2.1 z.2.2.1 z.2.2.2 Q) (x0, x2, x3, x5)
def wp_X7_power (p0 : Int64) (p1 : Int32) (Q : Int64 → Prop) : Prop := B_X7_power_5  p0 p1 (1 : Int64) (0 : Int32) Q
set_option maxHeartbeats 4000000 in
set_option maxRecDepth 100000 in
theorem c_X7_power (l : Launch) (D : va_G) (cI cZ cW : ClassId)  (p0 : Int64) (p1 : Int32) (Q : Int64 → Prop) (hf : wp_X7_power p0 p1 Q) : Met l yX7_power (wsA yX7_power cX7_power 6 (some .long)) ({ frames := 0, cells := 0, slots := 0, locals := 0 }) (PR D cI cZ cW [.long p0, .int p1] ([] : va_W)) (vp_Sl Q) 0 0 (fun _ => False) := by
  refine Met.ofW (cc := cX7_power) (maxL := 6) (ret := (some .long)) (by decide) rfl ?_
  intro p e s m args below meth c s₁ B hml hv
  obtain ⟨rfl, hP, hK⟩ := hv
  have hx := B.exec
  have hb := B.bytes
  have hr := B.returns
  have hts := atoms_spec (ws := (wsA yX7_power cX7_power 6 (some .long))) B.pre
  have ht : ∀ w ∈ lw_g, w.before _ s = true := fun w h => hts w (List.mem_cons_of_mem _ h)
  have hown : s.vm.findClass RX7 = some m.cls := findClass_of_methodNamed B.named
  have hlocks := B.notSynchronized
  have hl := lv_entry ([.long p0, .int p1]) (n := 6) (Nat.le_of_ble_eq_true rfl)
  rw [lg_entry_eq]
  generalize (lg_sl ([.long p0, .int p1]) ++ List.replicate (6 - (lg_sl ([.long p0, .int p1])).length) Slot.unset).toArray = ls at hl ⊢
  have hl : lv_has ls 6 [(0, .long p0), (2, .int p1)] := hl
  unfold wp_X7_power at hf
  have k_5 : ∀ (x0 : Int64) (x2 : Int32) (x3 : Int64) (x5 : Int32) (ls : Array Slot), B_X7_power_5  x0 x2 x3 x5 Q → lv_has ls 6 [(0, .long x0), (2, .int x2), (3, .long x3), (5, .int x5)] → W p l e (headSpec (wsA yX7_power cX7_power 6 (some .long)) ({ frames := 0, cells := 0, slots := 0, locals := 0 })).room s m (#[.long p0, .int p1] : Array Value) below meth c s.heap [] 0 0 (MQ below (vp_Sl Q) (#[.long p0, .int p1] : Array Value) s 0 0 (fun _ => False)) (F0 m 5 ls []) := by
    intro x0 x2 x3 x5 ls hf hl
    unfold B_X7_power_5 at hf
    obtain ⟨I_5, ⟨n0_5, hI0_5⟩, hst_5⟩ := hf
    have main_5 : ∀ (n : Nat) (x0 : Int64) (x2 : Int32) (x3 : Int64) (x5 : Int32) (ls : Array Slot), I_5 n (x0, x2, x3, x5) → lv_has ls 6 [(0, .long x0), (2, .int x2), (3, .long x3), (5, .int x5)] → W p l e (headSpec (wsA yX7_power cX7_power 6 (some .long)) ({ frames := 0, cells := 0, slots := 0, locals := 0 })).room s m (#[.long p0, .int p1] : Array Value) below meth c s.heap [] 0 0 (MQ below (vp_Sl Q) (#[.long p0, .int p1] : Array Value) s 0 0 (fun _ => False)) (F0 m 5 ls []) := by
      intro n
      induction n using Nat.strongRecOn with
      | _ n_5 ih_5 =>
      intro x0 x2 x3 x5 ls hI hl
      have hf : LB_X7_power_5 (fun z => ∃ k, k < n_5 ∧ I_5 k z)  x0 x2 x3 x5 Q := hst_5 n_5 (x0, x2, x3, x5) hI
      have hG_5 : ∀ (x0 : Int64) (x2 : Int32) (x3 : Int64) (x5 : Int32) (ls : Array Slot), (∃ k, k < n_5 ∧ I_5 k (x0, x2, x3, x5)) → lv_has ls 6 [(0, .long x0), (2, .int x2), (3, .long x3), (5, .int x5)] → W p l e (headSpec (wsA yX7_power cX7_power 6 (some .long)) ({ frames := 0, cells := 0, slots := 0, locals := 0 })).room s m (#[.long p0, .int p1] : Array Value) below meth c s.heap [] 0 0 (MQ below (vp_Sl Q) (#[.long p0, .int p1] : Array Value) s 0 0 (fun _ => False)) (F0 m 5 ls []) := by
        rintro x0 x2 x3 x5 ls ⟨k, hk, hI⟩ hl
        exact ih_5 k hk x0 x2 x3 x5 ls hI hl
      unfold LB_X7_power_5 at hf
      refine lv_iload hx hb dX7_power_5 (lv_at hl 3 rfl) ?_
      refine lv_iload_n hx hb dX7_power_7 rfl (lv_at hl 1 rfl) ?_
      refine lv_icmp_ge (tgt := 21) hx hb dX7_power_8 (by decide) (fun c_1 => ?_) (fun c_1 => ?_)
      · have hf := hf.1 c_1
        refine lv_lload_n hx hb dX7_power_21 rfl (lv_at hl 2 rfl) ?_
        exact W.lret (v := x3) hx hb hr (fun t ht hW => ⟨x3, rfl, hf, ht⟩) (fun q h => absurd h List.not_mem_nil) dX7_power_22
      · have hf := hf.2 c_1
        refine lv_lload_n hx hb dX7_power_11 rfl (lv_at hl 2 rfl) ?_
        refine lv_lload_n hx hb dX7_power_12 rfl (lv_at hl 0 rfl) ?_
        refine lv_lmul hx hb dX7_power_13 ?_
        refine lv_topl (fun x3_2 ex3_2 => ?_)
        have hf := hf x3_2 ex3_2
        refine lv_lstore_n (lv' := [(3, .long x3_2), (0, .long x0), (2, .int x2), (5, .int x5)]) hx hb dX7_power_14 rfl hl (by decide) rfl (fun ls hl => ?_)
        obtain ⟨x5_3, ex5_3⟩ : ∃ y : Int32, y = x5 + (1 : Int32) := ⟨_, rfl⟩
        have hf := hf x5_3 ex5_3
        refine lv_iinc (v := x5_3) (lv' := [(5, .int x5_3), (3, .long x3_2), (0, .long x0), (2, .int x2)]) hx hb dX7_power_15 hl (k := 3) rfl (by rw [ex5_3]; rfl) (by decide) rfl (fun ls hl => ?_)
        refine lv_goto (tgt := 5) hx hb dX7_power_18 (by decide) ?_
        exact hG_5 x0 x2 x3_2 x5_3 ls hf (lv_sub hl [2, 3, 1, 0] rfl)
    exact main_5 n0_5 x0 x2 x3 x5 ls hI0_5 hl
  refine lv_lconst (v := (1 : Int64)) hx hb dX7_power_0 (by decide) ?_
  refine lv_lstore_n (lv' := [(3, .long (1 : Int64)), (0, .long p0), (2, .int p1)]) hx hb dX7_power_1 rfl hl (by decide) rfl (fun ls hl => ?_)
  refine lv_iconst (v := (0 : Int32)) hx hb dX7_power_2 (by decide) ?_
  refine lv_istore (lv' := [(5, .int (0 : Int32)), (3, .long (1 : Int64)), (0, .long p0), (2, .int p1)]) hx hb dX7_power_3 hl (by decide) rfl (fun ls hl => ?_)
  exact k_5 p0 p1 (1 : Int64) (0 : Int32) ls hf (lv_sub hl [2, 3, 1, 0] rfl)
def LB_X7_judge_39 (G39 : (Int32 × Int64 × Int32 × CS) → Prop)  (x1 : Int32) (x2 : Int64) (x4 : Int32) (s0 : CS) (Q : Int32 → CS → Prop) : Prop := ((x1 ≤ x4 → Q (-9 : Int32) s0) ∧ (¬ x1 ≤ x4 → wp_X7_power (10000 : Int64) ((x1 - (1 : Int32)) - x4) (fun r_2 => ¬ r_2 = 0 ∧ ∀ x5_4 : Int32, x5_4 = ((x2 / r_2) - (x2 / r_2) / (10000 : Int64) * (10000 : Int64)).toInt32 → wp_X7_tryThing (x5_4 / (1000 : Int32)) ((x5_4 / (100 : Int32)) - (x5_4 / (100 : Int32)) / (10 : Int32) * (10 : Int32)) (x5_4 - x5_4 / (100 : Int32) * (100 : Int32)) s0 (fun r_6 s0_5 => ((¬ r_6 = 0 → ∀ x4_8 : Int32, x4_8 = x4 + (1 : Int32) → G39 (x1, x2, x4_8, s0_5)) ∧ (r_6 = 0 → Q x4 s0_5))))))
def B_X7_judge_39  (x1 : Int32) (x2 : Int64) (x4 : Int32) (s0 : CS) (Q : Int32 → CS → Prop) : Prop := LOOP (fun (G39 : (Int32 × Int64 × Int32 × CS) → Prop) z => LB_X7_judge_39 G39  z.1 z.2.1 z.2.2.1 z.2.2.2 Q) (x1, x2, x4, s0)
def wp_X7_judge (p0 : Int32) (p1 : Int64) (s0 : CS) (Q : Int32 → CS → Prop) : Prop := wp_X7_in (p0.toInt64) (1 : Int64) (3 : Int64) (fun r_9 => ((r_9 = 0 → Q (-2 : Int32) s0) ∧ (¬ r_9 = 0 → wp_X7_power (10000 : Int64) p0 (fun r_11 => wp_X7_in p1 (0 : Int64) (r_11 - (1 : Int64)) (fun r_12 => ((¬ r_12 = 0 → wp_X7_layTrial s0 (fun s0_14 => B_X7_judge_39  p0 p1 (0 : Int32) s0_14 Q)) ∧ (r_12 = 0 → Q (-2 : Int32) s0)))))))
set_option maxHeartbeats 4000000 in
set_option maxRecDepth 100000 in
theorem c_X7_judge (l : Launch) (D : va_G) (cI cZ cW : ClassId) (q0 : Nat → Nat) (sz : Nat) (p0 : Int32) (p1 : Int64) (s0 : CS) (Q : Int32 → CS → Prop) (hf : wp_X7_judge p0 p1 s0 Q) : Met l yX7_judge (wsA yX7_judge cX7_judge 6 (some .int)) ({ frames := 6, cells := 0, slots := 0, locals := 143 }) (PW D cI cZ cW [.ref (q0 0), .int p0, .long p1] (wM cI cZ q0 s0) sz) (va_Qi (fun (r : Int32) (u : CS) => Q r u) (fun u t => va_P D classes (wM cI cZ q0 u) t.heap) (va_A (wM cI cZ q0 s0) sz)) 0 0 (va_A (wM cI cZ q0 s0) sz) := by
  refine Met.ofW (cc := cX7_judge) (maxL := 6) (ret := (some .int)) (by decide) rfl ?_
  intro p e s m args below meth c s₁ B hml hv
  obtain ⟨rfl, hsz, hP, hK, hD0⟩ := hv
  have hx := B.exec
  have hb := B.bytes
  have hr := B.returns
  have hts := atoms_spec (ws := (wsA yX7_judge cX7_judge 6 (some .int))) B.pre
  have ht : ∀ w ∈ lw_g, w.before _ s = true := fun w h => hts w (List.mem_cons_of_mem _ h)
  have hown : s.vm.findClass RX7 = some m.cls := findClass_of_methodNamed B.named
  have hlocks := B.notSynchronized
  subst hsz
  have hD := hD0.self (sz := s.heap.size)
  generalize hAe : va_A (wM cI cZ q0 s0) s.heap.size = A at hD ⊢
  have hA : ∀ q : Nat, s.heap.size ≤ q → A q := fun q h => by rw [← hAe]; exact Or.inr h
  have hS : va_S A s.heap s.heap [] := va_S.rf
  have hDk : ∀ w : CS, va_D A (wM cI cZ q0 w) := fun w => D_M hD
  have hl := lv_entry ([.ref (q0 0), .int p0, .long p1]) (n := 6) (Nat.le_of_ble_eq_true rfl)
  rw [lg_entry_eq]
  generalize (lg_sl ([.ref (q0 0), .int p0, .long p1]) ++ List.replicate (6 - (lg_sl ([.ref (q0 0), .int p0, .long p1])).length) Slot.unset).toArray = ls at hl ⊢
  have hl : lv_has ls 6 [(0, .ref (q0 0)), (1, .int p0), (2, .long p1)] := hl
  unfold wp_X7_judge at hf
  have k_39 : ∀ (x1 : Int32) (x2 : Int64) (x4 : Int32) (s0 : CS) (H : Heap) (locs : List Loc) (ls : Array Slot), B_X7_judge_39  x1 x2 x4 s0 Q → va_P D classes (wM cI cZ q0 s0) H → va_D A (wM cI cZ q0 s0) → va_S A s.heap H locs → lv_has ls 6 [(0, .ref (q0 0)), (1, .int x1), (2, .long x2), (4, .int x4)] → W p l e (headSpec (wsA yX7_judge cX7_judge 6 (some .int)) ({ frames := 6, cells := 0, slots := 0, locals := 143 })).room s m (#[.ref (q0 0), .int p0, .long p1] : Array Value) below meth c H locs 0 0 (MQ below (va_Qi (fun (r : Int32) (u : CS) => Q r u) (fun u t => va_P D classes (wM cI cZ q0 u) t.heap) A) (#[.ref (q0 0), .int p0, .long p1] : Array Value) s 0 0 A) (F0 m 39 ls []) := by
    intro x1 x2 x4 s0 H locs ls hf hP hD hS hl
    unfold B_X7_judge_39 at hf
    obtain ⟨I_39, ⟨n0_39, hI0_39⟩, hst_39⟩ := hf
    have main_39 : ∀ (n : Nat) (x1 : Int32) (x2 : Int64) (x4 : Int32) (s0 : CS) (H : Heap) (locs : List Loc) (ls : Array Slot), I_39 n (x1, x2, x4, s0) → va_P D classes (wM cI cZ q0 s0) H → va_D A (wM cI cZ q0 s0) → va_S A s.heap H locs → lv_has ls 6 [(0, .ref (q0 0)), (1, .int x1), (2, .long x2), (4, .int x4)] → W p l e (headSpec (wsA yX7_judge cX7_judge 6 (some .int)) ({ frames := 6, cells := 0, slots := 0, locals := 143 })).room s m (#[.ref (q0 0), .int p0, .long p1] : Array Value) below meth c H locs 0 0 (MQ below (va_Qi (fun (r : Int32) (u : CS) => Q r u) (fun u t => va_P D classes (wM cI cZ q0 u) t.heap) A) (#[.ref (q0 0), .int p0, .long p1] : Array Value) s 0 0 A) (F0 m 39 ls []) := by
      intro n
      induction n using Nat.strongRecOn with
      | _ n_39 ih_39 =>
      intro x1 x2 x4 s0 H locs ls hI hP hD hS hl
      have hf : LB_X7_judge_39 (fun z => ∃ k, k < n_39 ∧ I_39 k z)  x1 x2 x4 s0 Q := hst_39 n_39 (x1, x2, x4, s0) hI
      have hG_39 : ∀ (x1 : Int32) (x2 : Int64) (x4 : Int32) (s0 : CS) (H : Heap) (locs : List Loc) (ls : Array Slot), (∃ k, k < n_39 ∧ I_39 k (x1, x2, x4, s0)) → va_P D classes (wM cI cZ q0 s0) H → va_D A (wM cI cZ q0 s0) → va_S A s.heap H locs → lv_has ls 6 [(0, .ref (q0 0)), (1, .int x1), (2, .long x2), (4, .int x4)] → W p l e (headSpec (wsA yX7_judge cX7_judge 6 (some .int)) ({ frames := 6, cells := 0, slots := 0, locals := 143 })).room s m (#[.ref (q0 0), .int p0, .long p1] : Array Value) below meth c H locs 0 0 (MQ below (va_Qi (fun (r : Int32) (u : CS) => Q r u) (fun u t => va_P D classes (wM cI cZ q0 u) t.heap) A) (#[.ref (q0 0), .int p0, .long p1] : Array Value) s 0 0 A) (F0 m 39 ls []) := by
        rintro x1 x2 x4 s0 H locs ls ⟨k, hk, hI⟩ hP hD hS hl
        exact ih_39 k hk x1 x2 x4 s0 H locs ls hI hP hD hS hl
      unfold LB_X7_judge_39 at hf
      refine lv_iload hx hb dX7_judge_39 (lv_at hl 3 rfl) ?_
      refine lv_iload_n hx hb dX7_judge_41 rfl (lv_at hl 1 rfl) ?_
      refine lv_icmp_ge (tgt := 101) hx hb dX7_judge_42 (by decide) (fun c_1 => ?_) (fun c_1 => ?_)
      · have hf := hf.1 c_1
        refine lv_bipush (v := (-9 : Int32)) hx hb dX7_judge_101 (by decide) ?_
        exact W.iret (v := (-9 : Int32)) hx hb hr (fun t ht hW => ⟨⟨(-9 : Int32), s0, rfl, hf, P_heap ht hP⟩, hS.F ht⟩) hS.2.2 dX7_judge_103
      · have hf := hf.2 c_1
        refine lv_lload_n hx hb dX7_judge_45 rfl (lv_at hl 2 rfl) ?_
        refine lv_ldc2 (v := (10000 : Int64)) hx hb hown (ht _ tw_946) dX7_judge_46 ?_
        refine lv_iload_n hx hb dX7_judge_49 rfl (lv_at hl 1 rfl) ?_
        refine lv_iconst (v := (1 : Int32)) hx hb dX7_judge_50 (by decide) ?_
        refine lv_isub hx hb dX7_judge_51 ?_
        refine lv_iload hx hb dX7_judge_52 (lv_at hl 3 rfl) ?_
        refine lv_isub hx hb dX7_judge_54 ?_
        have hPc : va_P D classes ([] : va_W) H := hP.sub [] rfl
        refine vp_callSl (W.runS (As := [.long (10000 : Int64), .int ((x1 - (1 : Int32)) - x4)]) (rest := [.long x2]) ⟨hx, hb, hml, hown, hts⟩ (c_X7_power l D cI cZ cW  (10000 : Int64) ((x1 - (1 : Int32)) - x4) _ hf) ⟨callB_of 2 hts (gA tw_949) rfl rfl rfl (ht _ tw_7) (ht _ tw_947) hd_X7_power ⟨Nat.le_of_ble_eq_true rfl, Nat.le_of_ble_eq_true rfl⟩, ht _ tw_948⟩ ⟨PR_blind, fun U hU hW => PR_mk hPc hK hU hW⟩ rfl rfl hl.1 rfl (lv_room (Nat.le_of_ble_eq_true rfl)) dX7_judge_55 ⟨Nat.zero_le _, Nat.zero_le _⟩) (fun r_2 hf => ?_)
        obtain ⟨hz_3, hf⟩ := hf
        refine lv_ldiv hx hb dX7_judge_58 hz_3 ?_
        refine lv_ldc2 (v := (10000 : Int64)) hx hb hown (ht _ tw_946) dX7_judge_59 ?_
        refine lv_lrem hx hb dX7_judge_62 (by decide) ?_
        refine lv_l2i (v := ((x2 / r_2) - (x2 / r_2) / (10000 : Int64) * (10000 : Int64)).toInt32) hx hb dX7_judge_63 rfl ?_
        refine lv_topi (fun x5_4 ex5_4 => ?_)
        have hf := hf x5_4 ex5_4
        refine lv_istore (lv' := [(5, .int x5_4), (0, .ref (q0 0)), (1, .int x1), (2, .long x2), (4, .int x4)]) hx hb dX7_judge_64 hl (by decide) rfl (fun ls hl => ?_)
        refine lv_aload_n hx hb dX7_judge_66 rfl (lv_at hl 1 rfl) ?_
        refine lv_iload hx hb dX7_judge_67 (lv_at hl 0 rfl) ?_
        refine lv_sipush (v := (1000 : Int32)) hx hb dX7_judge_69 (by decide) ?_
        refine lv_idiv hx hb dX7_judge_72 (by decide) ?_
        refine lv_iload hx hb dX7_judge_73 (lv_at hl 0 rfl) ?_
        refine lv_bipush (v := (100 : Int32)) hx hb dX7_judge_75 (by decide) ?_
        refine lv_idiv hx hb dX7_judge_77 (by decide) ?_
        refine lv_bipush (v := (10 : Int32)) hx hb dX7_judge_78 (by decide) ?_
        refine lv_irem hx hb dX7_judge_80 (by decide) ?_
        refine lv_iload hx hb dX7_judge_81 (lv_at hl 0 rfl) ?_
        refine lv_bipush (v := (100 : Int32)) hx hb dX7_judge_83 (by decide) ?_
        refine lv_irem hx hb dX7_judge_85 (by decide) ?_
        have hPc : va_P D classes (wM cI cZ q0 s0) H := hP
        have hDc : va_D A (wM cI cZ q0 s0) := hD
        have hFc := va_free (wc := (wM cI cZ q0 s0)) hD hS hA [0, 1, 2, 3, 4, 5, 6, 7, 8, 9, 10, 11, 12, 13, 14, 15] rfl
        refine va_calli (va_runV (As := [.int (x5_4 / (1000 : Int32)), .int ((x5_4 / (100 : Int32)) - (x5_4 / (100 : Int32)) / (10 : Int32) * (10 : Int32)), .int (x5_4 - x5_4 / (100 : Int32) * (100 : Int32))]) (rest := []) ⟨hx, hb, hml, hown, hts⟩ (c_X7_tryThing l D cI cZ cW q0 H.size (x5_4 / (1000 : Int32)) ((x5_4 / (100 : Int32)) - (x5_4 / (100 : Int32)) / (10 : Int32) * (10 : Int32)) (x5_4 - x5_4 / (100 : Int32) * (100 : Int32)) s0 _ hf) ⟨callB_of 3 hts (gA tw_953) rfl rfl rfl (ht _ tw_7) (ht _ tw_950) hd_X7_tryThing ⟨Nat.le_of_ble_eq_true rfl, Nat.le_of_ble_eq_true rfl⟩, ht _ tw_952, ht _ twp_45⟩ ⟨PW_blind, va_recv hK hP (ci := 5) (q0 := 0) rfl eM_0, fun U hU hW => PW_mk hPc hDc hK hU hW⟩ rfl rfl hl.1 rfl (lv_room (Nat.le_of_ble_eq_true rfl)) dX7_judge_86 ⟨Nat.zero_le _, Nat.zero_le _⟩) hS (fun q _ h => hFc q h) hFc (fun r_6 u t H1 locs ht1 hvm hf hB hz1 hk1 hS => ?_)
        obtain ⟨s0_5, rfl⟩ : ∃ z, z = u := ⟨_, rfl⟩
        rw [ht1] at hB
        have hP := hB
        have hD := hDk s0_5
        generalize H1 = H at hP hS ⊢
        have hP : va_P D classes (wM cI cZ q0 s0_5) H := hP
        have hD : va_D A (wM cI cZ q0 s0_5) := hD
        refine lv_if_ne (tgt := 95) hx hb dX7_judge_89 (by decide) (fun c_7 => ?_) (fun c_7 => ?_)
        · have hf := hf.1 c_7
          obtain ⟨x4_8, ex4_8⟩ : ∃ y : Int32, y = x4 + (1 : Int32) := ⟨_, rfl⟩
          have hf := hf x4_8 ex4_8
          refine lv_iinc (v := x4_8) (lv' := [(4, .int x4_8), (5, .int x5_4), (0, .ref (q0 0)), (1, .int x1), (2, .long x2)]) hx hb dX7_judge_95 hl (k := 4) rfl (by rw [ex4_8]; rfl) (by decide) rfl (fun ls hl => ?_)
          refine lv_goto (tgt := 39) hx hb dX7_judge_98 (by decide) ?_
          exact hG_39 x1 x2 x4_8 s0_5 H locs ls hf hP hD hS (lv_sub hl [2, 3, 4, 0] rfl)
        · have hf := hf.2 c_7
          refine lv_iload hx hb dX7_judge_92 (lv_at hl 4 rfl) ?_
          exact W.iret (v := x4) hx hb hr (fun t ht hW => ⟨⟨x4, s0_5, rfl, hf, P_heap ht hP⟩, hS.F ht⟩) hS.2.2 dX7_judge_94
    exact main_39 n0_39 x1 x2 x4 s0 H locs ls hI0_39 hP hD hS hl
  have start : ∀ (H : Heap) (locs : List Loc), va_P D classes (wM cI cZ q0 s0) H → va_D A (wM cI cZ q0 s0) → va_S A s.heap H locs → W p l e (headSpec (wsA yX7_judge cX7_judge 6 (some .int)) ({ frames := 6, cells := 0, slots := 0, locals := 143 })).room s m (#[.ref (q0 0), .int p0, .long p1] : Array Value) below meth c H locs 0 0 (MQ below (va_Qi (fun (r : Int32) (u : CS) => Q r u) (fun u t => va_P D classes (wM cI cZ q0 u) t.heap) A) (#[.ref (q0 0), .int p0, .long p1] : Array Value) s 0 0 A) (F0 m 0 ls []) := by
    intro H locs hP hD hS
    refine lv_iload_n hx hb dX7_judge_0 rfl (lv_at hl 1 rfl) ?_
    refine lv_i2l (v := p0.toInt64) hx hb dX7_judge_1 rfl ?_
    refine lv_lconst (v := (1 : Int64)) hx hb dX7_judge_2 (by decide) ?_
    refine lv_ldc2 (v := (3 : Int64)) hx hb hown (ht _ tw_945) dX7_judge_3 ?_
    have hPc : va_P D classes ([] : va_W) H := hP.sub [] rfl
    refine vp_callSi (W.runS (As := [.long p0.toInt64, .long (1 : Int64), .long (3 : Int64)]) (rest := []) ⟨hx, hb, hml, hown, hts⟩ (c_X7_in l D cI cZ cW  (p0.toInt64) (1 : Int64) (3 : Int64) _ hf) ⟨callB_of 3 hts (gA tw_747) rfl rfl rfl (ht _ tw_7) (ht _ tw_745) hd_X7_in ⟨Nat.le_of_ble_eq_true rfl, Nat.le_of_ble_eq_true rfl⟩, ht _ tw_746⟩ ⟨PR_blind, fun U hU hW => PR_mk hPc hK hU hW⟩ rfl rfl hl.1 rfl (lv_room (Nat.le_of_ble_eq_true rfl)) dX7_judge_6 ⟨Nat.zero_le _, Nat.zero_le _⟩) (fun r_9 hf => ?_)
    refine lv_if_eq (tgt := 29) hx hb dX7_judge_9 (by decide) (fun c_10 => ?_) (fun c_10 => ?_)
    · have hf := hf.1 c_10
      refine lv_bipush (v := (-2 : Int32)) hx hb dX7_judge_29 (by decide) ?_
      exact W.iret (v := (-2 : Int32)) hx hb hr (fun t ht hW => ⟨⟨(-2 : Int32), s0, rfl, hf, P_heap ht hP⟩, hS.F ht⟩) hS.2.2 dX7_judge_31
    · have hf := hf.2 c_10
      refine lv_lload_n hx hb dX7_judge_12 rfl (lv_at hl 2 rfl) ?_
      refine lv_lconst (v := (0 : Int64)) hx hb dX7_judge_13 (by decide) ?_
      refine lv_ldc2 (v := (10000 : Int64)) hx hb hown (ht _ tw_946) dX7_judge_14 ?_
      refine lv_iload_n hx hb dX7_judge_17 rfl (lv_at hl 1 rfl) ?_
      have hPc : va_P D classes ([] : va_W) H := hP.sub [] rfl
      refine vp_callSl (W.runS (As := [.long (10000 : Int64), .int p0]) (rest := [.long (0 : Int64), .long p1]) ⟨hx, hb, hml, hown, hts⟩ (c_X7_power l D cI cZ cW  (10000 : Int64) p0 _ hf) ⟨callB_of 2 hts (gA tw_949) rfl rfl rfl (ht _ tw_7) (ht _ tw_947) hd_X7_power ⟨Nat.le_of_ble_eq_true rfl, Nat.le_of_ble_eq_true rfl⟩, ht _ tw_948⟩ ⟨PR_blind, fun U hU hW => PR_mk hPc hK hU hW⟩ rfl rfl hl.1 rfl (lv_room (Nat.le_of_ble_eq_true rfl)) dX7_judge_18 ⟨Nat.zero_le _, Nat.zero_le _⟩) (fun r_11 hf => ?_)
      refine lv_lconst (v := (1 : Int64)) hx hb dX7_judge_21 (by decide) ?_
      refine lv_lsub hx hb dX7_judge_22 ?_
      have hPc : va_P D classes ([] : va_W) H := hP.sub [] rfl
      refine vp_callSi (W.runS (As := [.long p1, .long (0 : Int64), .long (r_11 - (1 : Int64))]) (rest := []) ⟨hx, hb, hml, hown, hts⟩ (c_X7_in l D cI cZ cW  p1 (0 : Int64) (r_11 - (1 : Int64)) _ hf) ⟨callB_of 3 hts (gA tw_747) rfl rfl rfl (ht _ tw_7) (ht _ tw_745) hd_X7_in ⟨Nat.le_of_ble_eq_true rfl, Nat.le_of_ble_eq_true rfl⟩, ht _ tw_746⟩ ⟨PR_blind, fun U hU hW => PR_mk hPc hK hU hW⟩ rfl rfl hl.1 rfl (lv_room (Nat.le_of_ble_eq_true rfl)) dX7_judge_23 ⟨Nat.zero_le _, Nat.zero_le _⟩) (fun r_12 hf => ?_)
      refine lv_if_ne (tgt := 32) hx hb dX7_judge_26 (by decide) (fun c_13 => ?_) (fun c_13 => ?_)
      · have hf := hf.1 c_13
        refine lv_aload_n hx hb dX7_judge_32 rfl (lv_at hl 0 rfl) ?_
        have hPc : va_P D classes (wM cI cZ q0 s0) H := hP
        have hDc : va_D A (wM cI cZ q0 s0) := hD
        have hFc := va_free (wc := (wM cI cZ q0 s0)) hD hS hA [0, 1, 2, 3, 4, 5, 6, 7, 8, 9, 10, 11, 12, 13, 14, 15] rfl
        refine va_callv (va_runV (As := []) (rest := []) ⟨hx, hb, hml, hown, hts⟩ (c_X7_layTrial l D cI cZ cW q0 H.size s0 _ hf) ⟨callB_of 0 hts (gA tw_927) rfl rfl rfl (ht _ tw_7) (ht _ tw_924) hd_X7_layTrial ⟨Nat.le_of_ble_eq_true rfl, Nat.le_of_ble_eq_true rfl⟩, ht _ tw_926, ht _ twp_43⟩ ⟨PW_blind, va_recv hK hP (ci := 5) (q0 := 0) rfl eM_0, fun U hU hW => PW_mk hPc hDc hK hU hW⟩ rfl rfl hl.1 rfl (lv_room (Nat.le_of_ble_eq_true rfl)) dX7_judge_33 ⟨Nat.zero_le _, Nat.zero_le _⟩) hS (fun q _ h => hFc q h) hFc (fun u t H1 locs ht1 hvm hf hB hz1 hk1 hS => ?_)
        obtain ⟨s0_14, rfl⟩ : ∃ z, z = u := ⟨_, rfl⟩
        rw [ht1] at hB
        have hP := hB
        have hD := hDk s0_14
        generalize H1 = H at hP hS ⊢
        have hP : va_P D classes (wM cI cZ q0 s0_14) H := hP
        have hD : va_D A (wM cI cZ q0 s0_14) := hD
        refine lv_iconst (v := (0 : Int32)) hx hb dX7_judge_36 (by decide) ?_
        refine lv_istore (lv' := [(4, .int (0 : Int32)), (0, .ref (q0 0)), (1, .int p0), (2, .long p1)]) hx hb dX7_judge_37 hl (by decide) rfl (fun ls hl => ?_)
        exact k_39 p0 p1 (0 : Int32) s0_14 H locs ls hf hP hD hS (lv_sub hl [1, 2, 3, 0] rfl)
      · have hf := hf.2 c_13
        refine lv_bipush (v := (-2 : Int32)) hx hb dX7_judge_29 (by decide) ?_
        exact W.iret (v := (-2 : Int32)) hx hb hr (fun t ht hW => ⟨⟨(-2 : Int32), s0, rfl, hf, P_heap ht hP⟩, hS.F ht⟩) hS.2.2 dX7_judge_31
  exact start s.heap [] hP hD hS
