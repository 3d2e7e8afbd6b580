theorem dX6_let_0 : decode cX6_let 0 = .ok (.aload_n 0, 1) := by decide +kernel
theorem dX6_let_1 : decode cX6_let 1 = .ok (.getfield 33, 3) := by decide +kernel
theorem dX6_let_4 : decode cX6_let 4 = .ok (.aload_n 0, 1) := by decide +kernel
theorem dX6_let_5 : decode cX6_let 5 = .ok (.getfield 20, 3) := by decide +kernel
theorem dX6_let_8 : decode cX6_let 8 = .ok (.iload_n 1, 1) := by decide +kernel
theorem dX6_let_9 : decode cX6_let 9 = .ok (.iload_n 2, 1) := by decide +kernel
theorem dX6_let_10 : decode cX6_let 10 = .ok (.invokevirtual 160, 3) := by decide +kernel
theorem dX6_let_13 : decode cX6_let 13 = .ok (.istore_n 3, 1) := by decide +kernel
theorem dX6_let_14 : decode cX6_let 14 = .ok (.iload_n 3, 1) := by decide +kernel
theorem dX6_let_15 : decode cX6_let 15 = .ok (.ifCond .eq 5, 3) := by decide +kernel
theorem dX6_let_18 : decode cX6_let 18 = .ok (.iload_n 3, 1) := by decide +kernel
theorem dX6_let_19 : decode cX6_let 19 = .ok (.ireturn, 1) := by decide +kernel
theorem dX6_let_20 : decode cX6_let 20 = .ok (.aload_n 0, 1) := by decide +kernel
theorem dX6_let_21 : decode cX6_let 21 = .ok (.getfield 43, 3) := by decide +kernel
theorem dX6_let_24 : decode cX6_let 24 = .ok (.aload_n 0, 1) := by decide +kernel
theorem dX6_let_25 : decode cX6_let 25 = .ok (.getfield 33, 3) := by decide +kernel
theorem dX6_let_28 : decode cX6_let 28 = .ok (.invokevirtual 145, 3) := by decide +kernel
theorem dX6_let_31 : decode cX6_let 31 = .ok (.aload_n 0, 1) := by decide +kernel
theorem dX6_let_32 : decode cX6_let 32 = .ok (.getfield 33, 3) := by decide +kernel
theorem dX6_let_35 : decode cX6_let 35 = .ok (.iload_n 1, 1) := by decide +kernel
theorem dX6_let_36 : decode cX6_let 36 = .ok (.iload_n 2, 1) := by decide +kernel
theorem dX6_let_37 : decode cX6_let 37 = .ok (.invokevirtual 163, 3) := by decide +kernel
theorem dX6_let_40 : decode cX6_let 40 = .ok (.ireturn, 1) := by decide +kernel
theorem dX6_sell_0 : decode cX6_sell 0 = .ok (.aload_n 0, 1) := by decide +kernel
theorem dX6_sell_1 : decode cX6_sell 1 = .ok (.getfield 33, 3) := by decide +kernel
theorem dX6_sell_4 : decode cX6_sell 4 = .ok (.aload_n 0, 1) := by decide +kernel
theorem dX6_sell_5 : decode cX6_sell 5 = .ok (.getfield 20, 3) := by decide +kernel
theorem dX6_sell_8 : decode cX6_sell 8 = .ok (.iload_n 1, 1) := by decide +kernel
theorem dX6_sell_9 : decode cX6_sell 9 = .ok (.iload_n 2, 1) := by decide +kernel
theorem dX6_sell_10 : decode cX6_sell 10 = .ok (.invokevirtual 167, 3) := by decide +kernel
theorem dX6_sell_13 : decode cX6_sell 13 = .ok (.istore_n 3, 1) := by decide +kernel
theorem dX6_sell_14 : decode cX6_sell 14 = .ok (.iload_n 3, 1) := by decide +kernel
theorem dX6_sell_15 : decode cX6_sell 15 = .ok (.ifCond .eq 5, 3) := by decide +kernel
theorem dX6_sell_18 : decode cX6_sell 18 = .ok (.iload_n 3, 1) := by decide +kernel
theorem dX6_sell_19 : decode cX6_sell 19 = .ok (.ireturn, 1) := by decide +kernel
theorem dX6_sell_20 : decode cX6_sell 20 = .ok (.aload_n 0, 1) := by decide +kernel
theorem dX6_sell_21 : decode cX6_sell 21 = .ok (.getfield 43, 3) := by decide +kernel
theorem dX6_sell_24 : decode cX6_sell 24 = .ok (.aload_n 0, 1) := by decide +kernel
theorem dX6_sell_25 : decode cX6_sell 25 = .ok (.getfield 33, 3) := by decide +kernel
theorem dX6_sell_28 : decode cX6_sell 28 = .ok (.invokevirtual 145, 3) := by decide +kernel
theorem dX6_sell_31 : decode cX6_sell 31 = .ok (.aload_n 0, 1) := by decide +kernel
theorem dX6_sell_32 : decode cX6_sell 32 = .ok (.getfield 33, 3) := by decide +kernel
theorem dX6_sell_35 : decode cX6_sell 35 = .ok (.iload_n 1, 1) := by decide +kernel
theorem dX6_sell_36 : decode cX6_sell 36 = .ok (.iload_n 2, 1) := by decide +kernel
theorem dX6_sell_37 : decode cX6_sell 37 = .ok (.invokevirtual 170, 3) := by decide +kernel
theorem dX6_sell_40 : decode cX6_sell 40 = .ok (.ireturn, 1) := by decide +kernel
theorem dX6_undo_0 : decode cX6_undo 0 = .ok (.aload_n 0, 1) := by decide +kernel
theorem dX6_undo_1 : decode cX6_undo 1 = .ok (.getfield 43, 3) := by decide +kernel
theorem dX6_undo_4 : decode cX6_undo 4 = .ok (.getfield 173, 3) := by decide +kernel
theorem dX6_undo_7 : decode cX6_undo 7 = .ok (.iconst 1, 1) := by decide +kernel
theorem dX6_undo_8 : decode cX6_undo 8 = .ok (.if_icmp .ge 6, 3) := by decide +kernel
theorem dX6_undo_11 : decode cX6_undo 11 = .ok (.bipush (-3), 2) := by decide +kernel
theorem dX6_undo_13 : decode cX6_undo 13 = .ok (.ireturn, 1) := by decide +kernel
theorem dX6_undo_14 : decode cX6_undo 14 = .ok (.aload_n 0, 1) := by decide +kernel
theorem dX6_undo_15 : decode cX6_undo 15 = .ok (.getfield 43, 3) := by decide +kernel
theorem dX6_undo_18 : decode cX6_undo 18 = .ok (.aload_n 0, 1) := by decide +kernel
theorem dX6_undo_19 : decode cX6_undo 19 = .ok (.getfield 33, 3) := by decide +kernel
theorem dX6_undo_22 : decode cX6_undo 22 = .ok (.invokevirtual 176, 3) := by decide +kernel
theorem dX6_undo_25 : decode cX6_undo 25 = .ok (.aload_n 0, 1) := by decide +kernel
theorem dX6_undo_26 : decode cX6_undo 26 = .ok (.getfield 43, 3) := by decide +kernel
theorem dX6_undo_29 : decode cX6_undo 29 = .ok (.getfield 173, 3) := by decide +kernel
theorem dX6_undo_32 : decode cX6_undo 32 = .ok (.ireturn, 1) := by decide +kernel
theorem dX6_way_0 : decode cX6_way 0 = .ok (.iload_n 1, 1) := by decide +kernel
theorem dX6_way_1 : decode cX6_way 1 = .ok (.invokestatic 131, 3) := by decide +kernel
theorem dX6_way_4 : decode cX6_way 4 = .ok (.ifCond .eq 10, 3) := by decide +kernel
theorem dX6_way_7 : decode cX6_way 7 = .ok (.iload_n 2, 1) := by decide +kernel
theorem dX6_way_8 : decode cX6_way 8 = .ok (.invokestatic 131, 3) := by decide +kernel
theorem dX6_way_11 : decode cX6_way 11 = .ok (.ifCond .ne 5, 3) := by decide +kernel
theorem dX6_way_14 : decode cX6_way 14 = .ok (.iconst (-1), 1) := by decide +kernel
theorem dX6_way_15 : decode cX6_way 15 = .ok (.ireturn, 1) := by decide +kernel
theorem dX6_way_16 : decode cX6_way 16 = .ok (.iload_n 1, 1) := by decide +kernel
theorem dX6_way_17 : decode cX6_way 17 = .ok (.iload_n 2, 1) := by decide +kernel
theorem dX6_way_18 : decode cX6_way 18 = .ok (.aload_n 0, 1) := by decide +kernel
theorem dX6_way_19 : decode cX6_way 19 = .ok (.getfield 33, 3) := by decide +kernel
theorem dX6_way_22 : decode cX6_way 22 = .ok (.invokevirtual 179, 3) := by decide +kernel
theorem dX6_way_25 : decode cX6_way 25 = .ok (.invokestatic 183, 3) := by decide +kernel
theorem dX6_way_28 : decode cX6_way 28 = .ok (.ireturn, 1) := by decide +kernel
theorem dX6_gnaw_0 : decode cX6_gnaw 0 = .ok (.iload_n 1, 1) := by decide +kernel
theorem dX6_gnaw_1 : decode cX6_gnaw 1 = .ok (.invokestatic 131, 3) := by decide +kernel
theorem dX6_gnaw_4 : decode cX6_gnaw 4 = .ok (.ifCond .eq 10, 3) := by decide +kernel
theorem dX6_gnaw_7 : decode cX6_gnaw 7 = .ok (.iload_n 2, 1) := by decide +kernel
theorem dX6_gnaw_8 : decode cX6_gnaw 8 = .ok (.invokestatic 131, 3) := by decide +kernel
theorem dX6_gnaw_11 : decode cX6_gnaw 11 = .ok (.ifCond .ne 5, 3) := by decide +kernel
theorem dX6_gnaw_14 : decode cX6_gnaw 14 = .ok (.iconst (-1), 1) := by decide +kernel
theorem dX6_gnaw_15 : decode cX6_gnaw 15 = .ok (.ireturn, 1) := by decide +kernel
theorem dX6_gnaw_16 : decode cX6_gnaw 16 = .ok (.iload_n 1, 1) := by decide +kernel
theorem dX6_gnaw_17 : decode cX6_gnaw 17 = .ok (.iload_n 2, 1) := by decide +kernel
theorem dX6_gnaw_18 : decode cX6_gnaw 18 = .ok (.aload_n 0, 1) := by decide +kernel
theorem dX6_gnaw_19 : decode cX6_gnaw 19 = .ok (.getfield 33, 3) := by decide +kernel
theorem dX6_gnaw_22 : decode cX6_gnaw 22 = .ok (.invokevirtual 179, 3) := by decide +kernel
theorem dX6_gnaw_25 : decode cX6_gnaw 25 = .ok (.aload_n 0, 1) := by decide +kernel
theorem dX6_gnaw_26 : decode cX6_gnaw 26 = .ok (.getfield 33, 3) := by decide +kernel
theorem dX6_gnaw_29 : decode cX6_gnaw 29 = .ok (.aload_n 0, 1) := by decide +kernel
theorem dX6_gnaw_30 : decode cX6_gnaw 30 = .ok (.getfield 20, 3) := by decide +kernel
theorem dX6_gnaw_33 : decode cX6_gnaw 33 = .ok (.invokevirtual 187, 3) := by decide +kernel
theorem dX6_gnaw_36 : decode cX6_gnaw 36 = .ok (.invokestatic 190, 3) := by decide +kernel
theorem dX6_gnaw_39 : decode cX6_gnaw 39 = .ok (.ireturn, 1) := by decide +kernel
theorem dX6_wedding_0 : decode cX6_wedding 0 = .ok (.aload_n 0, 1) := by decide +kernel
theorem dX6_wedding_1 : decode cX6_wedding 1 = .ok (.getfield 20, 3) := by decide +kernel
theorem dX6_wedding_4 : decode cX6_wedding 4 = .ok (.iload_n 1, 1) := by decide +kernel
theorem dX6_wedding_5 : decode cX6_wedding 5 = .ok (.invokevirtual 113, 3) := by decide +kernel
theorem dX6_wedding_8 : decode cX6_wedding 8 = .ok (.ifCond .eq 14, 3) := by decide +kernel
theorem dX6_wedding_11 : decode cX6_wedding 11 = .ok (.aload_n 0, 1) := by decide +kernel
theorem dX6_wedding_12 : decode cX6_wedding 12 = .ok (.getfield 20, 3) := by decide +kernel
theorem dX6_wedding_15 : decode cX6_wedding 15 = .ok (.iload_n 2, 1) := by decide +kernel
theorem dX6_wedding_16 : decode cX6_wedding 16 = .ok (.invokevirtual 113, 3) := by decide +kernel
theorem dX6_wedding_19 : decode cX6_wedding 19 = .ok (.ifCond .ne 5, 3) := by decide +kernel
theorem dX6_wedding_22 : decode cX6_wedding 22 = .ok (.iconst (-1), 1) := by decide +kernel
theorem dX6_wedding_23 : decode cX6_wedding 23 = .ok (.ireturn, 1) := by decide +kernel
theorem dX6_wedding_24 : decode cX6_wedding 24 = .ok (.iload_n 1, 1) := by decide +kernel
theorem dX6_wedding_25 : decode cX6_wedding 25 = .ok (.iload_n 2, 1) := by decide +kernel
theorem dX6_wedding_26 : decode cX6_wedding 26 = .ok (.if_icmp .ne 6, 3) := by decide +kernel
theorem dX6_wedding_29 : decode cX6_wedding 29 = .ok (.bipush (-2), 2) := by decide +kernel
theorem dX6_wedding_31 : decode cX6_wedding 31 = .ok (.ireturn, 1) := by decide +kernel
theorem dX6_wedding_32 : decode cX6_wedding 32 = .ok (.aload_n 0, 1) := by decide +kernel
theorem dX6_wedding_33 : decode cX6_wedding 33 = .ok (.getfield 37, 3) := by decide +kernel
theorem dX6_wedding_36 : decode cX6_wedding 36 = .ok (.aload_n 0, 1) := by decide +kernel
theorem dX6_wedding_37 : decode cX6_wedding 37 = .ok (.getfield 33, 3) := by decide +kernel
theorem dX6_wedding_40 : decode cX6_wedding 40 = .ok (.invokevirtual 194, 3) := by decide +kernel
theorem dX6_wedding_43 : decode cX6_wedding 43 = .ok (.iconst 0, 1) := by decide +kernel
theorem dX6_wedding_44 : decode cX6_wedding 44 = .ok (.istore_n 3, 1) := by decide +kernel
theorem dX6_wedding_45 : decode cX6_wedding 45 = .ok (.iload_n 3, 1) := by decide +kernel
theorem dX6_wedding_46 : decode cX6_wedding 46 = .ok (.bipush 20, 2) := by decide +kernel
theorem dX6_wedding_48 : decode cX6_wedding 48 = .ok (.if_icmp .gt 45, 3) := by decide +kernel
theorem dX6_wedding_51 : decode cX6_wedding 51 = .ok (.aload_n 0, 1) := by decide +kernel
theorem dX6_wedding_52 : decode cX6_wedding 52 = .ok (.getfield 37, 3) := by decide +kernel
theorem dX6_wedding_55 : decode cX6_wedding 55 = .ok (.iload_n 1, 1) := by decide +kernel
theorem dX6_wedding_56 : decode cX6_wedding 56 = .ok (.invokevirtual 197, 3) := by decide +kernel
theorem dX6_wedding_59 : decode cX6_wedding 59 = .ok (.ifCond .ne 14, 3) := by decide +kernel
theorem dX6_wedding_62 : decode cX6_wedding 62 = .ok (.aload_n 0, 1) := by decide +kernel
theorem dX6_wedding_63 : decode cX6_wedding 63 = .ok (.getfield 37, 3) := by decide +kernel
theorem dX6_wedding_66 : decode cX6_wedding 66 = .ok (.iload_n 2, 1) := by decide +kernel
theorem dX6_wedding_67 : decode cX6_wedding 67 = .ok (.invokevirtual 197, 3) := by decide +kernel
theorem dX6_wedding_70 : decode cX6_wedding 70 = .ok (.ifCond .eq 5, 3) := by decide +kernel
theorem dX6_wedding_73 : decode cX6_wedding 73 = .ok (.iload_n 3, 1) := by decide +kernel
theorem dX6_wedding_74 : decode cX6_wedding 74 = .ok (.ireturn, 1) := by decide +kernel
theorem dX6_wedding_75 : decode cX6_wedding 75 = .ok (.aload_n 0, 1) := by decide +kernel
theorem dX6_wedding_76 : decode cX6_wedding 76 = .ok (.getfield 37, 3) := by decide +kernel
theorem dX6_wedding_79 : decode cX6_wedding 79 = .ok (.aload_n 0, 1) := by decide +kernel
theorem dX6_wedding_80 : decode cX6_wedding 80 = .ok (.getfield 20, 3) := by decide +kernel
theorem dX6_wedding_83 : decode cX6_wedding 83 = .ok (.invokevirtual 149, 3) := by decide +kernel
theorem dX6_wedding_86 : decode cX6_wedding 86 = .ok (.pop, 1) := by decide +kernel
theorem dX6_wedding_87 : decode cX6_wedding 87 = .ok (.iinc 3 1, 3) := by decide +kernel
theorem dX6_wedding_90 : decode cX6_wedding 90 = .ok (.goto (-45), 3) := by decide +kernel
theorem dX6_wedding_93 : decode cX6_wedding 93 = .ok (.bipush (-9), 2) := by decide +kernel
theorem dX6_wedding_95 : decode cX6_wedding 95 = .ok (.ireturn, 1) := by decide +kernel
theorem dX6_ahead_0 : decode cX6_ahead 0 = .ok (.iload_n 1, 1) := by decide +kernel
theorem dX6_ahead_1 : decode cX6_ahead 1 = .ok (.ifCond .lt 18, 3) := by decide +kernel
theorem dX6_ahead_4 : decode cX6_ahead 4 = .ok (.iload_n 1, 1) := by decide +kernel
theorem dX6_ahead_5 : decode cX6_ahead 5 = .ok (.bipush 20, 2) := by decide +kernel
theorem dX6_ahead_7 : decode cX6_ahead 7 = .ok (.if_icmp .gt 12, 3) := by decide +kernel
theorem dX6_ahead_10 : decode cX6_ahead 10 = .ok (.iload_n 2, 1) := by decide +kernel
theorem dX6_ahead_11 : decode cX6_ahead 11 = .ok (.ifCond .lt 8, 3) := by decide +kernel
theorem dX6_ahead_14 : decode cX6_ahead 14 = .ok (.iload_n 2, 1) := by decide +kernel
theorem dX6_ahead_15 : decode cX6_ahead 15 = .ok (.iconst 1, 1) := by decide +kernel
theorem dX6_ahead_16 : decode cX6_ahead 16 = .ok (.if_icmp .le 6, 3) := by decide +kernel
theorem dX6_ahead_19 : decode cX6_ahead 19 = .ok (.bipush (-2), 2) := by decide +kernel
theorem dX6_ahead_21 : decode cX6_ahead 21 = .ok (.ireturn, 1) := by decide +kernel
theorem dX6_ahead_22 : decode cX6_ahead 22 = .ok (.aload_n 0, 1) := by decide +kernel
theorem dX6_ahead_23 : decode cX6_ahead 23 = .ok (.getfield 37, 3) := by decide +kernel
theorem dX6_ahead_26 : decode cX6_ahead 26 = .ok (.aload_n 0, 1) := by decide +kernel
theorem dX6_ahead_27 : decode cX6_ahead 27 = .ok (.getfield 33, 3) := by decide +kernel
theorem dX6_ahead_30 : decode cX6_ahead 30 = .ok (.invokevirtual 194, 3) := by decide +kernel
theorem dX6_ahead_33 : decode cX6_ahead 33 = .ok (.iconst 0, 1) := by decide +kernel
theorem dX6_ahead_34 : decode cX6_ahead 34 = .ok (.istore_n 3, 1) := by decide +kernel
theorem dX6_ahead_35 : decode cX6_ahead 35 = .ok (.iload_n 3, 1) := by decide +kernel
theorem dX6_ahead_36 : decode cX6_ahead 36 = .ok (.iload_n 1, 1) := by decide +kernel
theorem dX6_ahead_37 : decode cX6_ahead 37 = .ok (.if_icmp .ge 21, 3) := by decide +kernel
theorem dX6_ahead_40 : decode cX6_ahead 40 = .ok (.aload_n 0, 1) := by decide +kernel
theorem dX6_ahead_41 : decode cX6_ahead 41 = .ok (.getfield 37, 3) := by decide +kernel
theorem dX6_ahead_44 : decode cX6_ahead 44 = .ok (.aload_n 0, 1) := by decide +kernel
theorem dX6_ahead_45 : decode cX6_ahead 45 = .ok (.getfield 20, 3) := by decide +kernel
theorem dX6_ahead_48 : decode cX6_ahead 48 = .ok (.invokevirtual 149, 3) := by decide +kernel
theorem dX6_ahead_51 : decode cX6_ahead 51 = .ok (.pop, 1) := by decide +kernel
theorem dX6_ahead_52 : decode cX6_ahead 52 = .ok (.iinc 3 1, 3) := by decide +kernel
theorem dX6_ahead_55 : decode cX6_ahead 55 = .ok (.goto (-20), 3) := by decide +kernel
theorem dX6_ahead_58 : decode cX6_ahead 58 = .ok (.iload_n 2, 1) := by decide +kernel
theorem dX6_ahead_59 : decode cX6_ahead 59 = .ok (.ifCond .ne 13, 3) := by decide +kernel
theorem dX6_ahead_62 : decode cX6_ahead 62 = .ok (.aload_n 0, 1) := by decide +kernel
theorem dX6_ahead_63 : decode cX6_ahead 63 = .ok (.getfield 37, 3) := by decide +kernel
theorem dX6_ahead_66 : decode cX6_ahead 66 = .ok (.invokevirtual 200, 3) := by decide +kernel
theorem dX6_ahead_69 : decode cX6_ahead 69 = .ok (.goto 13, 3) := by decide +kernel
theorem dX6_ahead_72 : decode cX6_ahead 72 = .ok (.aload_n 0, 1) := by decide +kernel
theorem dX6_ahead_73 : decode cX6_ahead 73 = .ok (.getfield 37, 3) := by decide +kernel
theorem dX6_ahead_76 : decode cX6_ahead 76 = .ok (.invokevirtual 203, 3) := by decide +kernel
theorem dX6_ahead_79 : decode cX6_ahead 79 = .ok (.invokestatic 108, 3) := by decide +kernel
theorem dX6_ahead_82 : decode cX6_ahead 82 = .ok (.ireturn, 1) := by decide +kernel
theorem dX6_cut_0 : decode cX6_cut 0 = .ok (.aload_n 0, 1) := by decide +kernel
theorem dX6_cut_1 : decode cX6_cut 1 = .ok (.getfield 20, 3) := by decide +kernel
theorem dX6_cut_4 : decode cX6_cut 4 = .ok (.iload_n 1, 1) := by decide +kernel
theorem dX6_cut_5 : decode cX6_cut 5 = .ok (.invokevirtual 82, 3) := by decide +kernel
theorem dX6_cut_8 : decode cX6_cut 8 = .ok (.ifCond .eq 14, 3) := by decide +kernel
theorem dX6_cut_11 : decode cX6_cut 11 = .ok (.aload_n 0, 1) := by decide +kernel
theorem dX6_cut_12 : decode cX6_cut 12 = .ok (.getfield 20, 3) := by decide +kernel
theorem dX6_cut_15 : decode cX6_cut 15 = .ok (.iload_n 2, 1) := by decide +kernel
theorem dX6_cut_16 : decode cX6_cut 16 = .ok (.invokevirtual 82, 3) := by decide +kernel
theorem dX6_cut_19 : decode cX6_cut 19 = .ok (.ifCond .ne 5, 3) := by decide +kernel
theorem dX6_cut_22 : decode cX6_cut 22 = .ok (.iconst (-1), 1) := by decide +kernel
theorem dX6_cut_23 : decode cX6_cut 23 = .ok (.ireturn, 1) := by decide +kernel
theorem dX6_cut_24 : decode cX6_cut 24 = .ok (.iload_n 1, 1) := by decide +kernel
theorem dX6_cut_25 : decode cX6_cut 25 = .ok (.iload_n 2, 1) := by decide +kernel
theorem dX6_cut_26 : decode cX6_cut 26 = .ok (.if_icmp .eq 12, 3) := by decide +kernel
theorem dX6_cut_29 : decode cX6_cut 29 = .ok (.iload_n 3, 1) := by decide +kernel
theorem dX6_cut_30 : decode cX6_cut 30 = .ok (.ifCond .lt 8, 3) := by decide +kernel
theorem dX6_cut_33 : decode cX6_cut 33 = .ok (.iload_n 3, 1) := by decide +kernel
theorem dX6_cut_34 : decode cX6_cut 34 = .ok (.iconst 1, 1) := by decide +kernel
theorem dX6_cut_35 : decode cX6_cut 35 = .ok (.if_icmp .le 6, 3) := by decide +kernel
theorem dX6_cut_38 : decode cX6_cut 38 = .ok (.bipush (-2), 2) := by decide +kernel
theorem dX6_cut_40 : decode cX6_cut 40 = .ok (.ireturn, 1) := by decide +kernel
theorem dX6_cut_41 : decode cX6_cut 41 = .ok (.aload_n 0, 1) := by decide +kernel
theorem dX6_cut_42 : decode cX6_cut 42 = .ok (.getfield 33, 3) := by decide +kernel
theorem dX6_cut_45 : decode cX6_cut 45 = .ok (.aload_n 0, 1) := by decide +kernel
theorem dX6_cut_46 : decode cX6_cut 46 = .ok (.getfield 20, 3) := by decide +kernel
theorem dX6_cut_49 : decode cX6_cut 49 = .ok (.iconst 1, 1) := by decide +kernel
theorem dX6_cut_50 : decode cX6_cut 50 = .ok (.iload_n 1, 1) := by decide +kernel
theorem dX6_cut_51 : decode cX6_cut 51 = .ok (.ishl, 1) := by decide +kernel
theorem dX6_cut_52 : decode cX6_cut 52 = .ok (.invokevirtual 104, 3) := by decide +kernel
theorem dX6_cut_55 : decode cX6_cut 55 = .ok (.istore 4, 2) := by decide +kernel
theorem dX6_cut_57 : decode cX6_cut 57 = .ok (.aload_n 0, 1) := by decide +kernel
theorem dX6_cut_58 : decode cX6_cut 58 = .ok (.getfield 33, 3) := by decide +kernel
theorem dX6_cut_61 : decode cX6_cut 61 = .ok (.aload_n 0, 1) := by decide +kernel
theorem dX6_cut_62 : decode cX6_cut 62 = .ok (.getfield 20, 3) := by decide +kernel
theorem dX6_cut_65 : decode cX6_cut 65 = .ok (.iconst 1, 1) := by decide +kernel
theorem dX6_cut_66 : decode cX6_cut 66 = .ok (.iload_n 2, 1) := by decide +kernel
theorem dX6_cut_67 : decode cX6_cut 67 = .ok (.ishl, 1) := by decide +kernel
theorem dX6_cut_68 : decode cX6_cut 68 = .ok (.invokevirtual 104, 3) := by decide +kernel
theorem dX6_cut_71 : decode cX6_cut 71 = .ok (.istore 5, 2) := by decide +kernel
theorem dX6_cut_73 : decode cX6_cut 73 = .ok (.iconst 1, 1) := by decide +kernel
theorem dX6_cut_74 : decode cX6_cut 74 = .ok (.istore 6, 2) := by decide +kernel
theorem dX6_cut_76 : decode cX6_cut 76 = .ok (.iconst (-1), 1) := by decide +kernel
theorem dX6_cut_77 : decode cX6_cut 77 = .ok (.istore 7, 2) := by decide +kernel
theorem dX6_cut_79 : decode cX6_cut 79 = .ok (.iconst 1, 1) := by decide +kernel
theorem dX6_cut_80 : decode cX6_cut 80 = .ok (.istore 8, 2) := by decide +kernel
theorem dX6_cut_82 : decode cX6_cut 82 = .ok (.iload 8, 2) := by decide +kernel
theorem dX6_cut_84 : decode cX6_cut 84 = .ok (.iconst 5, 1) := by decide +kernel
theorem dX6_cut_85 : decode cX6_cut 85 = .ok (.if_icmp .ge 52, 3) := by decide +kernel
theorem dX6_cut_88 : decode cX6_cut 88 = .ok (.iload 8, 2) := by decide +kernel
theorem dX6_cut_90 : decode cX6_cut 90 = .ok (.invokestatic 206, 3) := by decide +kernel
theorem dX6_cut_93 : decode cX6_cut 93 = .ok (.istore 9, 2) := by decide +kernel
theorem dX6_cut_95 : decode cX6_cut 95 = .ok (.iload 4, 2) := by decide +kernel
theorem dX6_cut_97 : decode cX6_cut 97 = .ok (.iload 9, 2) := by decide +kernel
theorem dX6_cut_99 : decode cX6_cut 99 = .ok (.iand, 1) := by decide +kernel
theorem dX6_cut_100 : decode cX6_cut 100 = .ok (.invokestatic 108, 3) := by decide +kernel
theorem dX6_cut_103 : decode cX6_cut 103 = .ok (.iload 5, 2) := by decide +kernel
theorem dX6_cut_105 : decode cX6_cut 105 = .ok (.iload 9, 2) := by decide +kernel
theorem dX6_cut_107 : decode cX6_cut 107 = .ok (.iconst (-1), 1) := by decide +kernel
theorem dX6_cut_108 : decode cX6_cut 108 = .ok (.ixor, 1) := by decide +kernel
theorem dX6_cut_109 : decode cX6_cut 109 = .ok (.iand, 1) := by decide +kernel
theorem dX6_cut_110 : decode cX6_cut 110 = .ok (.invokestatic 108, 3) := by decide +kernel
theorem dX6_cut_113 : decode cX6_cut 113 = .ok (.iadd, 1) := by decide +kernel
theorem dX6_cut_114 : decode cX6_cut 114 = .ok (.istore 10, 2) := by decide +kernel
theorem dX6_cut_116 : decode cX6_cut 116 = .ok (.iload 10, 2) := by decide +kernel
theorem dX6_cut_118 : decode cX6_cut 118 = .ok (.iload 7, 2) := by decide +kernel
theorem dX6_cut_120 : decode cX6_cut 120 = .ok (.if_icmp .le 11, 3) := by decide +kernel
theorem dX6_cut_123 : decode cX6_cut 123 = .ok (.iload 10, 2) := by decide +kernel
theorem dX6_cut_125 : decode cX6_cut 125 = .ok (.istore 7, 2) := by decide +kernel
theorem dX6_cut_127 : decode cX6_cut 127 = .ok (.iload 8, 2) := by decide +kernel
theorem dX6_cut_129 : decode cX6_cut 129 = .ok (.istore 6, 2) := by decide +kernel
theorem dX6_cut_131 : decode cX6_cut 131 = .ok (.iinc 8 1, 3) := by decide +kernel
theorem dX6_cut_134 : decode cX6_cut 134 = .ok (.goto (-52), 3) := by decide +kernel
theorem dX6_cut_137 : decode cX6_cut 137 = .ok (.iload_n 3, 1) := by decide +kernel
theorem dX6_cut_138 : decode cX6_cut 138 = .ok (.ifCond .ne 8, 3) := by decide +kernel
theorem dX6_cut_141 : decode cX6_cut 141 = .ok (.iload 6, 2) := by decide +kernel
theorem dX6_cut_143 : decode cX6_cut 143 = .ok (.goto 5, 3) := by decide +kernel
theorem dX6_cut_146 : decode cX6_cut 146 = .ok (.iload 7, 2) := by decide +kernel
theorem dX6_cut_148 : decode cX6_cut 148 = .ok (.ireturn, 1) := by decide +kernel
theorem dX6_judge_0 : decode cX6_judge 0 = .ok (.iload_n 1, 1) := by decide +kernel
theorem dX6_judge_1 : decode cX6_judge 1 = .ok (.iconst 1, 1) := by decide +kernel
theorem dX6_judge_2 : decode cX6_judge 2 = .ok (.if_icmp .lt 8, 3) := by decide +kernel
theorem dX6_judge_5 : decode cX6_judge 5 = .ok (.iload_n 1, 1) := by decide +kernel
theorem dX6_judge_6 : decode cX6_judge 6 = .ok (.iconst 3, 1) := by decide +kernel
theorem dX6_judge_7 : decode cX6_judge 7 = .ok (.if_icmp .le 6, 3) := by decide +kernel
theorem dX6_judge_10 : decode cX6_judge 10 = .ok (.bipush (-2), 2) := by decide +kernel
theorem dX6_judge_12 : decode cX6_judge 12 = .ok (.ireturn, 1) := by decide +kernel
theorem dX6_judge_13 : decode cX6_judge 13 = .ok (.lconst 1, 1) := by decide +kernel
theorem dX6_judge_14 : decode cX6_judge 14 = .ok (.lstore 4, 2) := by decide +kernel
theorem dX6_judge_16 : decode cX6_judge 16 = .ok (.iconst 1, 1) := by decide +kernel
theorem dX6_judge_17 : decode cX6_judge 17 = .ok (.istore 6, 2) := by decide +kernel
theorem dX6_judge_19 : decode cX6_judge 19 = .ok (.iload 6, 2) := by decide +kernel
theorem dX6_judge_21 : decode cX6_judge 21 = .ok (.iload_n 1, 1) := by decide +kernel
theorem dX6_judge_22 : decode cX6_judge 22 = .ok (.if_icmp .ge 17, 3) := by decide +kernel
theorem dX6_judge_25 : decode cX6_judge 25 = .ok (.lload 4, 2) := by decide +kernel
theorem dX6_judge_27 : decode cX6_judge 27 = .ok (.ldc2_w 209, 3) := by decide +kernel
theorem dX6_judge_30 : decode cX6_judge 30 = .ok (.lmul, 1) := by decide +kernel
theorem dX6_judge_31 : decode cX6_judge 31 = .ok (.lstore 4, 2) := by decide +kernel
theorem dX6_judge_33 : decode cX6_judge 33 = .ok (.iinc 6 1, 3) := by decide +kernel
theorem dX6_judge_36 : decode cX6_judge 36 = .ok (.goto (-17), 3) := by decide +kernel
theorem dX6_judge_39 : decode cX6_judge 39 = .ok (.lload_n 2, 1) := by decide +kernel
theorem dX6_judge_40 : decode cX6_judge 40 = .ok (.lconst 0, 1) := by decide +kernel
theorem dX6_judge_41 : decode cX6_judge 41 = .ok (.lcmp, 1) := by decide +kernel
theorem dX6_judge_42 : decode cX6_judge 42 = .ok (.ifCond .lt 14, 3) := by decide +kernel
theorem dX6_judge_45 : decode cX6_judge 45 = .ok (.lload_n 2, 1) := by decide +kernel
theorem dX6_judge_46 : decode cX6_judge 46 = .ok (.lload 4, 2) := by decide +kernel
theorem dX6_judge_48 : decode cX6_judge 48 = .ok (.ldiv, 1) := by decide +kernel
theorem dX6_judge_49 : decode cX6_judge 49 = .ok (.ldc2_w 209, 3) := by decide +kernel
theorem dX6_judge_52 : decode cX6_judge 52 = .ok (.lcmp, 1) := by decide +kernel
theorem dX6_judge_53 : decode cX6_judge 53 = .ok (.ifCond .lt 6, 3) := by decide +kernel
theorem dX6_judge_56 : decode cX6_judge 56 = .ok (.bipush (-2), 2) := by decide +kernel
theorem dX6_judge_58 : decode cX6_judge 58 = .ok (.ireturn, 1) := by decide +kernel
theorem dX6_judge_59 : decode cX6_judge 59 = .ok (.aload_n 0, 1) := by decide +kernel
theorem dX6_judge_60 : decode cX6_judge 60 = .ok (.getfield 37, 3) := by decide +kernel
theorem dX6_judge_63 : decode cX6_judge 63 = .ok (.aload_n 0, 1) := by decide +kernel
theorem dX6_judge_64 : decode cX6_judge 64 = .ok (.getfield 33, 3) := by decide +kernel
theorem dX6_judge_67 : decode cX6_judge 67 = .ok (.invokevirtual 194, 3) := by decide +kernel
theorem dX6_judge_70 : decode cX6_judge 70 = .ok (.lload_n 2, 1) := by decide +kernel
theorem dX6_judge_71 : decode cX6_judge 71 = .ok (.lstore 6, 2) := by decide +kernel
theorem dX6_judge_73 : decode cX6_judge 73 = .ok (.iconst 0, 1) := by decide +kernel
theorem dX6_judge_74 : decode cX6_judge 74 = .ok (.istore 8, 2) := by decide +kernel
theorem dX6_judge_76 : decode cX6_judge 76 = .ok (.iload 8, 2) := by decide +kernel
theorem dX6_judge_78 : decode cX6_judge 78 = .ok (.iload_n 1, 1) := by decide +kernel
theorem dX6_judge_79 : decode cX6_judge 79 = .ok (.if_icmp .ge 47, 3) := by decide +kernel
theorem dX6_judge_82 : decode cX6_judge 82 = .ok (.lload 6, 2) := by decide +kernel
theorem dX6_judge_84 : decode cX6_judge 84 = .ok (.lload 4, 2) := by decide +kernel
theorem dX6_judge_86 : decode cX6_judge 86 = .ok (.ldiv, 1) := by decide +kernel
theorem dX6_judge_87 : decode cX6_judge 87 = .ok (.l2i, 1) := by decide +kernel
theorem dX6_judge_88 : decode cX6_judge 88 = .ok (.istore 9, 2) := by decide +kernel
theorem dX6_judge_90 : decode cX6_judge 90 = .ok (.lload 6, 2) := by decide +kernel
theorem dX6_judge_92 : decode cX6_judge 92 = .ok (.lload 4, 2) := by decide +kernel
theorem dX6_judge_94 : decode cX6_judge 94 = .ok (.lrem, 1) := by decide +kernel
theorem dX6_judge_95 : decode cX6_judge 95 = .ok (.ldc2_w 209, 3) := by decide +kernel
theorem dX6_judge_98 : decode cX6_judge 98 = .ok (.lmul, 1) := by decide +kernel
theorem dX6_judge_99 : decode cX6_judge 99 = .ok (.lstore 6, 2) := by decide +kernel
theorem dX6_judge_101 : decode cX6_judge 101 = .ok (.aload_n 0, 1) := by decide +kernel
theorem dX6_judge_102 : decode cX6_judge 102 = .ok (.getfield 37, 3) := by decide +kernel
theorem dX6_judge_105 : decode cX6_judge 105 = .ok (.aload_n 0, 1) := by decide +kernel
theorem dX6_judge_106 : decode cX6_judge 106 = .ok (.getfield 20, 3) := by decide +kernel
theorem dX6_judge_109 : decode cX6_judge 109 = .ok (.iload 9, 2) := by decide +kernel
theorem dX6_judge_111 : decode cX6_judge 111 = .ok (.invokevirtual 211, 3) := by decide +kernel
theorem dX6_judge_114 : decode cX6_judge 114 = .ok (.ifCond .ne 6, 3) := by decide +kernel
theorem dX6_judge_117 : decode cX6_judge 117 = .ok (.iload 8, 2) := by decide +kernel
theorem dX6_judge_119 : decode cX6_judge 119 = .ok (.ireturn, 1) := by decide +kernel
theorem dX6_judge_120 : decode cX6_judge 120 = .ok (.iinc 8 1, 3) := by decide +kernel
theorem dX6_judge_123 : decode cX6_judge 123 = .ok (.goto (-47), 3) := by decide +kernel
theorem dX6_judge_126 : decode cX6_judge 126 = .ok (.bipush (-9), 2) := by decide +kernel
theorem dX6_judge_128 : decode cX6_judge 128 = .ok (.ireturn, 1) := by decide +kernel
def wp_X6_let (p0 : Int32) (p1 : Int32) (Z : Nat → Nat → Nat) (Y : Nat → Nat → Nat) (S : Nat → CS) (a : AS) (Q : Int32 → (Nat → CS) → AS → Prop) : Prop := wp_X5_refusalToLet p0 p1 (S 4) (S 1) (fun r_1 => ((r_1 = 0 → wp_X0_remember Y a (S 4) (fun a_3 s_4 => ∀ S_5 : Nat → CS, S_5 = va_up S 4 s_4 → wp_X5_letHole p0 p1 (S_5 4) (fun r_6 s_7 => ∀ S_8 : Nat → CS, S_8 = va_up S_5 4 s_7 → Q r_6 S_8 a_3))) ∧ (¬ r_1 = 0 → Q r_1 S a)))
set_option maxHeartbeats 4000000 in
set_option maxRecDepth 100000 in
theorem c_X6_let (l : Launch) (D : va_G) (cI cZ cW : ClassId) (Z : Nat → Nat → Nat) (Y : Nat → Nat → Nat) (sz : Nat) (p0 : Int32) (p1 : Int32) (S : Nat → CS) (a : AS) (Q : Int32 → (Nat → CS) → AS → Prop) (hf : wp_X6_let p0 p1 Z Y S a Q) : Met l yX6_let (wsA yX6_let cX6_let 4 (some .int)) ({ frames := 4, cells := 0, slots := 0, locals := 89 }) (PW D cI cZ cW [.ref (Z 0 0), .int p0, .int p1] (XW cI cZ cW Z Y (Z 1 0) (Z 2 0) S a) sz) (va_Qi (fun (r : Int32) (u : (Nat → CS) × AS) => Q r u.1 u.2) (fun u t => va_P D classes (XW cI cZ cW Z Y (Z 1 0) (Z 2 0) u.1 u.2) t.heap) (va_A (XW cI cZ cW Z Y (Z 1 0) (Z 2 0) S a) sz)) 0 0 (va_A (XW cI cZ cW Z Y (Z 1 0) (Z 2 0) S a) sz) := by
  refine Met.ofW (cc := cX6_let) (maxL := 4) (ret := (some .int)) (by decide) rfl ?_
  intro p e s m args below meth c s₁ B hml hv
  obtain ⟨rfl, hsz, hP, hK, hD0⟩ := hv
  have hx := B.exec
  have hb := B.bytes
  have hr := B.returns
  have hts := atoms_spec (ws := (wsA yX6_let cX6_let 4 (some .int))) B.pre
  have ht : ∀ w ∈ lw_g, w.before _ s = true := fun w h => hts w (List.mem_cons_of_mem _ h)
  have hown : s.vm.findClass RX6 = some m.cls := findClass_of_methodNamed B.named
  have hlocks := B.notSynchronized
  subst hsz
  have hD := hD0.self (sz := s.heap.size)
  generalize hAe : va_A (XW cI cZ cW Z Y (Z 1 0) (Z 2 0) S a) s.heap.size = A at hD ⊢
  have hA : ∀ q : Nat, s.heap.size ≤ q → A q := fun q h => by rw [← hAe]; exact Or.inr h
  have hS : va_S A s.heap s.heap [] := va_S.rf
  have hDk : ∀ (x : Nat → CS) (y : AS), va_D A (XW cI cZ cW Z Y (Z 1 0) (Z 2 0) x y) := fun x y => D_X hD
  have hl := lv_entry ([.ref (Z 0 0), .int p0, .int p1]) (n := 4) (Nat.le_of_ble_eq_true rfl)
  rw [lg_entry_eq]
  generalize (lg_sl ([.ref (Z 0 0), .int p0, .int p1]) ++ List.replicate (4 - (lg_sl ([.ref (Z 0 0), .int p0, .int p1])).length) Slot.unset).toArray = ls at hl ⊢
  have hl : lv_has ls 4 [(0, .ref (Z 0 0)), (1, .int p0), (2, .int p1)] := hl
  unfold wp_X6_let at hf
  have start : ∀ (H : Heap) (locs : List Loc), va_P D classes (XW cI cZ cW Z Y (Z 1 0) (Z 2 0) S a) H → va_D A (XW cI cZ cW Z Y (Z 1 0) (Z 2 0) S a) → va_S A s.heap H locs → W p l e (headSpec (wsA yX6_let cX6_let 4 (some .int)) ({ frames := 4, cells := 0, slots := 0, locals := 89 })).room s m (#[.ref (Z 0 0), .int p0, .int p1] : Array Value) below meth c H locs 0 0 (MQ below (va_Qi (fun (r : Int32) (u : (Nat → CS) × AS) => Q r u.1 u.2) (fun u t => va_P D classes (XW cI cZ cW Z Y (Z 1 0) (Z 2 0) u.1 u.2) t.heap) A) (#[.ref (Z 0 0), .int p0, .int p1] : Array Value) s 0 0 A) (F0 m 0 ls []) := by
    intro H locs hP hD hS
    refine lv_aload_n hx hb dX6_let_0 rfl (lv_at hl 0 rfl) ?_
    refine va_get (D := D) (ci := 4) (v := .ref (Z 4 0)) (C := RX6) (T := TX6) (N := 12) hx hb ht inX6 hown hK hP 0 eX_0 rfl 5 (by decide) (ht _ tw_158) (fun _ h9 => h9) rfl dX6_let_1 ?_
    refine lv_aload_n hx hb dX6_let_4 rfl (lv_at hl 0 rfl) ?_
    refine va_get (D := D) (ci := 4) (v := .ref (Z 1 0)) (C := RX6) (T := TX6) (N := 12) hx hb ht inX6 hown hK hP 0 eX_0 rfl 2 (by decide) (ht _ tw_155) (fun _ h9 => h9) rfl dX6_let_5 ?_
    refine lv_iload_n hx hb dX6_let_8 rfl (lv_at hl 1 rfl) ?_
    refine lv_iload_n hx hb dX6_let_9 rfl (lv_at hl 2 rfl) ?_
    have hPc : va_P D classes (wW cI cZ (Z 4) (S 4) ++ wD cI cZ (Z 1) (S 1)) H := XP_4_1 hP
    refine vp_callSi (W.runV (As := [.ref (Z 1 0), .int p0, .int p1]) (rest := []) ⟨hx, hb, hml, hown, hts⟩ (c_X5_refusalToLet l D cI cZ cW (Z 4) (Z 1) p0 p1 (S 4) (S 1) _ hf) ⟨callB_of 3 hts (gA tw_443) rfl rfl rfl (ht _ tw_4) (ht _ tw_440) hd_X5_refusalToLet ⟨Nat.le_of_ble_eq_true rfl, Nat.le_of_ble_eq_true rfl⟩, ht _ tw_441, ht _ tw_442⟩ ⟨PR_blind, va_recv hK hP (ci := 3) (q0 := 21) rfl eX_21, fun U hU hW => PR_mk hPc hK hU hW⟩ rfl rfl hl.1 rfl (lv_room (Nat.le_of_ble_eq_true rfl)) dX6_let_10 ⟨Nat.zero_le _, Nat.zero_le _⟩) (fun r_1 hf => ?_)
    refine lv_istore_n (lv' := [(3, .int r_1), (0, .ref (Z 0 0)), (1, .int p0), (2, .int p1)]) hx hb dX6_let_13 rfl hl (by decide) rfl (fun ls hl => ?_)
    refine lv_iload_n hx hb dX6_let_14 rfl (lv_at hl 0 rfl) ?_
    refine lv_if_eq (tgt := 20) hx hb dX6_let_15 (by decide) (fun c_2 => ?_) (fun c_2 => ?_)
    · have hf := hf.1 c_2
      refine lv_aload_n hx hb dX6_let_20 rfl (lv_at hl 1 rfl) ?_
      refine va_get (D := D) (ci := 4) (v := .ref (Z 9 0)) (C := RX6) (T := TX6) (N := 12) hx hb ht inX6 hown hK hP 0 eX_0 rfl 7 (by decide) (ht _ tw_160) (fun _ h9 => h9) rfl dX6_let_21 ?_
      refine lv_aload_n hx hb dX6_let_24 rfl (lv_at hl 1 rfl) ?_
      refine va_get (D := D) (ci := 4) (v := .ref (Z 4 0)) (C := RX6) (T := TX6) (N := 12) hx hb ht inX6 hown hK hP 0 eX_0 rfl 5 (by decide) (ht _ tw_158) (fun _ h9 => h9) rfl dX6_let_25 ?_
      have hPc : va_P D classes (AW cI cZ cW (Z 9) (Z 4) Y a (S 4)) H := XP_9_4 hP
      have hDc : va_D A (AW cI cZ cW (Z 9) (Z 4) Y a (S 4)) := XD_9_4 hD
      have hFc := va_freeX hDc hS hA
      refine va_callv (va_runV (As := [.ref (Z 4 0)]) (rest := []) ⟨hx, hb, hml, hown, hts⟩ (c_X0_remember l D cI cZ cW (Z 9) (Z 4) Y H.size a (S 4) _ hf) ⟨callB_of 1 hts (gA tw_350) rfl rfl rfl (ht _ tw_5) (ht _ tw_347) hd_X0_remember ⟨Nat.le_of_ble_eq_true rfl, Nat.le_of_ble_eq_true rfl⟩, ht _ tw_348, ht _ tw_349⟩ ⟨PW_blind, va_recv hK hP (ci := 0) (q0 := 45) rfl eX_45, fun U hU hW => PW_mk hPc hDc hK hU hW⟩ rfl rfl hl.1 rfl (lv_room (Nat.le_of_ble_eq_true rfl)) dX6_let_28 ⟨Nat.zero_le _, Nat.zero_le _⟩) hS (fun q _ h => hFc q h) hFc (fun u t H1 locs ht1 hvm hf hB hz1 hk1 hS => ?_)
      obtain ⟨a_3, s_4⟩ := u
      dsimp only at hf hB
      rw [ht1] at hB
      have hP := XJ_9_4 hP hD hk1 hB
      generalize H1 = H at hP hS ⊢
      obtain ⟨S_5, eS_5⟩ : ∃ y : Nat → CS, y = va_up S 4 s_4 := ⟨_, rfl⟩
      have hf := hf S_5 eS_5
      have hP : va_P D classes (XW cI cZ cW Z Y (Z 1 0) (Z 2 0) S_5 a_3) H := by rw [eS_5]; exact hP
      have hD := hDk S_5 a_3
      refine lv_aload_n hx hb dX6_let_31 rfl (lv_at hl 1 rfl) ?_
      refine va_get (D := D) (ci := 4) (v := .ref (Z 4 0)) (C := RX6) (T := TX6) (N := 12) hx hb ht inX6 hown hK hP 0 eX_0 rfl 5 (by decide) (ht _ tw_158) (fun _ h9 => h9) rfl dX6_let_32 ?_
      refine lv_iload_n hx hb dX6_let_35 rfl (lv_at hl 2 rfl) ?_
      refine lv_iload_n hx hb dX6_let_36 rfl (lv_at hl 3 rfl) ?_
      have hPc : va_P D classes (wW cI cZ (Z 4) (S_5 4)) H := XP_4 hP
      have hDc : va_D A (wW cI cZ (Z 4) (S_5 4)) := XD_4 hD
      have hFc := va_freeX hDc hS hA
      refine va_calli (va_runV (As := [.int p0, .int p1]) (rest := []) ⟨hx, hb, hml, hown, hts⟩ (c_X5_letHole l D cI cZ cW (Z 4) H.size p0 p1 (S_5 4) _ hf) ⟨callB_of 2 hts (gA tw_455) rfl rfl rfl (ht _ tw_4) (ht _ tw_452) hd_X5_letHole ⟨Nat.le_of_ble_eq_true rfl, Nat.le_of_ble_eq_true rfl⟩, ht _ tw_453, ht _ tw_454⟩ ⟨PW_blind, va_recv hK hP (ci := 3) (q0 := 21) rfl eX_21, fun U hU hW => PW_mk hPc hDc hK hU hW⟩ rfl rfl hl.1 rfl (lv_room (Nat.le_of_ble_eq_true rfl)) dX6_let_37 ⟨Nat.zero_le _, Nat.zero_le _⟩) hS (fun q _ h => hFc q h) hFc (fun r_6 u t H1 locs ht1 hvm hf hB hz1 hk1 hS => ?_)
      obtain ⟨s_7, rfl⟩ : ∃ z, z = u := ⟨_, rfl⟩
      rw [ht1] at hB
      have hP := XJ_4 hP hD hk1 hB
      generalize H1 = H at hP hS ⊢
      obtain ⟨S_8, eS_8⟩ : ∃ y : Nat → CS, y = va_up S_5 4 s_7 := ⟨_, rfl⟩
      have hf := hf S_8 eS_8
      have hP : va_P D classes (XW cI cZ cW Z Y (Z 1 0) (Z 2 0) S_8 a_3) H := by rw [eS_8]; exact hP
      have hD := hDk S_8 a_3
      exact W.iret (v := r_6) hx hb hr (fun t ht hW => ⟨⟨r_6, (S_8, a_3), rfl, hf, P_heap ht hP⟩, hS.F ht⟩) hS.2.2 dX6_let_40
    · have hf := hf.2 c_2
      refine lv_iload_n hx hb dX6_let_18 rfl (lv_at hl 0 rfl) ?_
      exact W.iret (v := r_1) hx hb hr (fun t ht hW => ⟨⟨r_1, (S, a), rfl, hf, P_heap ht hP⟩, hS.F ht⟩) hS.2.2 dX6_let_19
  exact start s.heap [] hP hD hS
def wp_X6_sell (p0 : Int32) (p1 : Int32) (Z : Nat → Nat → Nat) (Y : Nat → Nat → Nat) (S : Nat → CS) (a : AS) (Q : Int32 → (Nat → CS) → AS → Prop) : Prop := wp_X5_refusalToSell p0 p1 (S 4) (S 1) (fun r_1 => ((r_1 = 0 → wp_X0_remember Y a (S 4) (fun a_3 s_4 => ∀ S_5 : Nat → CS, S_5 = va_up S 4 s_4 → wp_X5_sellHole p0 p1 (S_5 4) (fun r_6 s_7 => ∀ S_8 : Nat → CS, S_8 = va_up S_5 4 s_7 → Q r_6 S_8 a_3))) ∧ (¬ r_1 = 0 → Q r_1 S a)))
set_option maxHeartbeats 4000000 in
set_option maxRecDepth 100000 in
theorem c_X6_sell (l : Launch) (D : va_G) (cI cZ cW : ClassId) (Z : Nat → Nat → Nat) (Y : Nat → Nat → Nat) (sz : Nat) (p0 : Int32) (p1 : Int32) (S : Nat → CS) (a : AS) (Q : Int32 → (Nat → CS) → AS → Prop) (hf : wp_X6_sell p0 p1 Z Y S a Q) : Met l yX6_sell (wsA yX6_sell cX6_sell 4 (some .int)) ({ frames := 3, cells := 0, slots := 0, locals := 83 }) (PW D cI cZ cW [.ref (Z 0 0), .int p0, .int p1] (XW cI cZ cW Z Y (Z 1 0) (Z 2 0) S a) sz) (va_Qi (fun (r : Int32) (u : (Nat → CS) × AS) => Q r u.1 u.2) (fun u t => va_P D classes (XW cI cZ cW Z Y (Z 1 0) (Z 2 0) u.1 u.2) t.heap) (va_A (XW cI cZ cW Z Y (Z 1 0) (Z 2 0) S a) sz)) 0 0 (va_A (XW cI cZ cW Z Y (Z 1 0) (Z 2 0) S a) sz) := by
  refine Met.ofW (cc := cX6_sell) (maxL := 4) (ret := (some .int)) (by decide) rfl ?_
  intro p e s m args below meth c s₁ B hml hv
  obtain ⟨rfl, hsz, hP, hK, hD0⟩ := hv
  have hx := B.exec
  have hb := B.bytes
  have hr := B.returns
  have hts := atoms_spec (ws := (wsA yX6_sell cX6_sell 4 (some .int))) B.pre
  have ht : ∀ w ∈ lw_g, w.before _ s = true := fun w h => hts w (List.mem_cons_of_mem _ h)
  have hown : s.vm.findClass RX6 = some m.cls := findClass_of_methodNamed B.named
  have hlocks := B.notSynchronized
  subst hsz
  have hD := hD0.self (sz := s.heap.size)
  generalize hAe : va_A (XW cI cZ cW Z Y (Z 1 0) (Z 2 0) S a) s.heap.size = A at hD ⊢
  have hA : ∀ q : Nat, s.heap.size ≤ q → A q := fun q h => by rw [← hAe]; exact Or.inr h
  have hS : va_S A s.heap s.heap [] := va_S.rf
  have hDk : ∀ (x : Nat → CS) (y : AS), va_D A (XW cI cZ cW Z Y (Z 1 0) (Z 2 0) x y) := fun x y => D_X hD
  have hl := lv_entry ([.ref (Z 0 0), .int p0, .int p1]) (n := 4) (Nat.le_of_ble_eq_true rfl)
  rw [lg_entry_eq]
  generalize (lg_sl ([.ref (Z 0 0), .int p0, .int p1]) ++ List.replicate (4 - (lg_sl ([.ref (Z 0 0), .int p0, .int p1])).length) Slot.unset).toArray = ls at hl ⊢
  have hl : lv_has ls 4 [(0, .ref (Z 0 0)), (1, .int p0), (2, .int p1)] := hl
  unfold wp_X6_sell at hf
  have start : ∀ (H : Heap) (locs : List Loc), va_P D classes (XW cI cZ cW Z Y (Z 1 0) (Z 2 0) S a) H → va_D A (XW cI cZ cW Z Y (Z 1 0) (Z 2 0) S a) → va_S A s.heap H locs → W p l e (headSpec (wsA yX6_sell cX6_sell 4 (some .int)) ({ frames := 3, cells := 0, slots := 0, locals := 83 })).room s m (#[.ref (Z 0 0), .int p0, .int p1] : Array Value) below meth c H locs 0 0 (MQ below (va_Qi (fun (r : Int32) (u : (Nat → CS) × AS) => Q r u.1 u.2) (fun u t => va_P D classes (XW cI cZ cW Z Y (Z 1 0) (Z 2 0) u.1 u.2) t.heap) A) (#[.ref (Z 0 0), .int p0, .int p1] : Array Value) s 0 0 A) (F0 m 0 ls []) := by
    intro H locs hP hD hS
    refine lv_aload_n hx hb dX6_sell_0 rfl (lv_at hl 0 rfl) ?_
    refine va_get (D := D) (ci := 4) (v := .ref (Z 4 0)) (C := RX6) (T := TX6) (N := 12) hx hb ht inX6 hown hK hP 0 eX_0 rfl 5 (by decide) (ht _ tw_158) (fun _ h9 => h9) rfl dX6_sell_1 ?_
    refine lv_aload_n hx hb dX6_sell_4 rfl (lv_at hl 0 rfl) ?_
    refine va_get (D := D) (ci := 4) (v := .ref (Z 1 0)) (C := RX6) (T := TX6) (N := 12) hx hb ht inX6 hown hK hP 0 eX_0 rfl 2 (by decide) (ht _ tw_155) (fun _ h9 => h9) rfl dX6_sell_5 ?_
    refine lv_iload_n hx hb dX6_sell_8 rfl (lv_at hl 1 rfl) ?_
    refine lv_iload_n hx hb dX6_sell_9 rfl (lv_at hl 2 rfl) ?_
    have hPc : va_P D classes (wW cI cZ (Z 4) (S 4) ++ wD cI cZ (Z 1) (S 1)) H := XP_4_1 hP
    refine vp_callSi (W.runV (As := [.ref (Z 1 0), .int p0, .int p1]) (rest := []) ⟨hx, hb, hml, hown, hts⟩ (c_X5_refusalToSell l D cI cZ cW (Z 4) (Z 1) p0 p1 (S 4) (S 1) _ hf) ⟨callB_of 3 hts (gA tw_447) rfl rfl rfl (ht _ tw_4) (ht _ tw_460) hd_X5_refusalToSell ⟨Nat.le_of_ble_eq_true rfl, Nat.le_of_ble_eq_true rfl⟩, ht _ tw_445, ht _ tw_446⟩ ⟨PR_blind, va_recv hK hP (ci := 3) (q0 := 21) rfl eX_21, fun U hU hW => PR_mk hPc hK hU hW⟩ rfl rfl hl.1 rfl (lv_room (Nat.le_of_ble_eq_true rfl)) dX6_sell_10 ⟨Nat.zero_le _, Nat.zero_le _⟩) (fun r_1 hf => ?_)
    refine lv_istore_n (lv' := [(3, .int r_1), (0, .ref (Z 0 0)), (1, .int p0), (2, .int p1)]) hx hb dX6_sell_13 rfl hl (by decide) rfl (fun ls hl => ?_)
    refine lv_iload_n hx hb dX6_sell_14 rfl (lv_at hl 0 rfl) ?_
    refine lv_if_eq (tgt := 20) hx hb dX6_sell_15 (by decide) (fun c_2 => ?_) (fun c_2 => ?_)
    · have hf := hf.1 c_2
      refine lv_aload_n hx hb dX6_sell_20 rfl (lv_at hl 1 rfl) ?_
      refine va_get (D := D) (ci := 4) (v := .ref (Z 9 0)) (C := RX6) (T := TX6) (N := 12) hx hb ht inX6 hown hK hP 0 eX_0 rfl 7 (by decide) (ht _ tw_160) (fun _ h9 => h9) rfl dX6_sell_21 ?_
      refine lv_aload_n hx hb dX6_sell_24 rfl (lv_at hl 1 rfl) ?_
      refine va_get (D := D) (ci := 4) (v := .ref (Z 4 0)) (C := RX6) (T := TX6) (N := 12) hx hb ht inX6 hown hK hP 0 eX_0 rfl 5 (by decide) (ht _ tw_158) (fun _ h9 => h9) rfl dX6_sell_25 ?_
      have hPc : va_P D classes (AW cI cZ cW (Z 9) (Z 4) Y a (S 4)) H := XP_9_4 hP
      have hDc : va_D A (AW cI cZ cW (Z 9) (Z 4) Y a (S 4)) := XD_9_4 hD
      have hFc := va_freeX hDc hS hA
      refine va_callv (va_runV (As := [.ref (Z 4 0)]) (rest := []) ⟨hx, hb, hml, hown, hts⟩ (c_X0_remember l D cI cZ cW (Z 9) (Z 4) Y H.size a (S 4) _ hf) ⟨callB_of 1 hts (gA tw_350) rfl rfl rfl (ht _ tw_5) (ht _ tw_347) hd_X0_remember ⟨Nat.le_of_ble_eq_true rfl, Nat.le_of_ble_eq_true rfl⟩, ht _ tw_348, ht _ tw_349⟩ ⟨PW_blind, va_recv hK hP (ci := 0) (q0 := 45) rfl eX_45, fun U hU hW => PW_mk hPc hDc hK hU hW⟩ rfl rfl hl.1 rfl (lv_room (Nat.le_of_ble_eq_true rfl)) dX6_sell_28 ⟨Nat.zero_le _, Nat.zero_le _⟩) hS (fun q _ h => hFc q h) hFc (fun u t H1 locs ht1 hvm hf hB hz1 hk1 hS => ?_)
      obtain ⟨a_3, s_4⟩ := u
      dsimp only at hf hB
      rw [ht1] at hB
      have hP := XJ_9_4 hP hD hk1 hB
      generalize H1 = H at hP hS ⊢
      obtain ⟨S_5, eS_5⟩ : ∃ y : Nat → CS, y = va_up S 4 s_4 := ⟨_, rfl⟩
      have hf := hf S_5 eS_5
      have hP : va_P D classes (XW cI cZ cW Z Y (Z 1 0) (Z 2 0) S_5 a_3) H := by rw [eS_5]; exact hP
      have hD := hDk S_5 a_3
      refine lv_aload_n hx hb dX6_sell_31 rfl (lv_at hl 1 rfl) ?_
      refine va_get (D := D) (ci := 4) (v := .ref (Z 4 0)) (C := RX6) (T := TX6) (N := 12) hx hb ht inX6 hown hK hP 0 eX_0 rfl 5 (by decide) (ht _ tw_158) (fun _ h9 => h9) rfl dX6_sell_32 ?_
      refine lv_iload_n hx hb dX6_sell_35 rfl (lv_at hl 2 rfl) ?_
      refine lv_iload_n hx hb dX6_sell_36 rfl (lv_at hl 3 rfl) ?_
      have hPc : va_P D classes (wW cI cZ (Z 4) (S_5 4)) H := XP_4 hP
      have hDc : va_D A (wW cI cZ (Z 4) (S_5 4)) := XD_4 hD
      have hFc := va_freeX hDc hS hA
      refine va_calli (va_runV (As := [.int p0, .int p1]) (rest := []) ⟨hx, hb, hml, hown, hts⟩ (c_X5_sellHole l D cI cZ cW (Z 4) H.size p0 p1 (S_5 4) _ hf) ⟨callB_of 2 hts (gA tw_464) rfl rfl rfl (ht _ tw_4) (ht _ tw_461) hd_X5_sellHole ⟨Nat.le_of_ble_eq_true rfl, Nat.le_of_ble_eq_true rfl⟩, ht _ tw_462, ht _ tw_463⟩ ⟨PW_blind, va_recv hK hP (ci := 3) (q0 := 21) rfl eX_21, fun U hU hW => PW_mk hPc hDc hK hU hW⟩ rfl rfl hl.1 rfl (lv_room (Nat.le_of_ble_eq_true rfl)) dX6_sell_37 ⟨Nat.zero_le _, Nat.zero_le _⟩) hS (fun q _ h => hFc q h) hFc (fun r_6 u t H1 locs ht1 hvm hf hB hz1 hk1 hS => ?_)
      obtain ⟨s_7, rfl⟩ : ∃ z, z = u := ⟨_, rfl⟩
      rw [ht1] at hB
      have hP := XJ_4 hP hD hk1 hB
      generalize H1 = H at hP hS ⊢
      obtain ⟨S_8, eS_8⟩ : ∃ y : Nat → CS, y = va_up S_5 4 s_7 := ⟨_, rfl⟩
      have hf := hf S_8 eS_8
      have hP : va_P D classes (XW cI cZ cW Z Y (Z 1 0) (Z 2 0) S_8 a_3) H := by rw [eS_8]; exact hP
      have hD := hDk S_8 a_3
      exact W.iret (v := r_6) hx hb hr (fun t ht hW => ⟨⟨r_6, (S_8, a_3), rfl, hf, P_heap ht hP⟩, hS.F ht⟩) hS.2.2 dX6_sell_40
    · have hf := hf.2 c_2
      refine lv_iload_n hx hb dX6_sell_18 rfl (lv_at hl 0 rfl) ?_
      exact W.iret (v := r_1) hx hb hr (fun t ht hW => ⟨⟨r_1, (S, a), rfl, hf, P_heap ht hP⟩, hS.F ht⟩) hS.2.2 dX6_sell_19
  exact start s.heap [] hP hD hS
def wp_X6_undo (Z : Nat → Nat → Nat) (Y : Nat → Nat → Nat) (S : Nat → CS) (a : AS) (Q : Int32 → (Nat → CS) → AS → Prop) : Prop := (((1 : Int32) ≤ (a.1.1 1) → wp_X0_takeBack Y a (S 4) (fun a_2 s_3 => ∀ S_4 : Nat → CS, S_4 = va_up S 4 s_3 → Q (a_2.1.1 1) S_4 a_2)) ∧ (¬ (1 : Int32) ≤ (a.1.1 1) → Q (-3 : Int32) S a))
set_option maxHeartbeats 4000000 in
set_option maxRecDepth 100000 in
theorem c_X6_undo (l : Launch) (D : va_G) (cI cZ cW : ClassId) (Z : Nat → Nat → Nat) (Y : Nat → Nat → Nat) (sz : Nat) (S : Nat → CS) (a : AS) (Q : Int32 → (Nat → CS) → AS → Prop) (hf : wp_X6_undo Z Y S a Q) : Met l yX6_undo (wsA yX6_undo cX6_undo 1 (some .int)) ({ frames := 3, cells := 0, slots := 0, locals := 83 }) (PW D cI cZ cW [.ref (Z 0 0)] (XW cI cZ cW Z Y (Z 1 0) (Z 2 0) S a) sz) (va_Qi (fun (r : Int32) (u : (Nat → CS) × AS) => Q r u.1 u.2) (fun u t => va_P D classes (XW cI cZ cW Z Y (Z 1 0) (Z 2 0) u.1 u.2) t.heap) (va_A (XW cI cZ cW Z Y (Z 1 0) (Z 2 0) S a) sz)) 0 0 (va_A (XW cI cZ cW Z Y (Z 1 0) (Z 2 0) S a) sz) := by
  refine Met.ofW (cc := cX6_undo) (maxL := 1) (ret := (some .int)) (by decide) rfl ?_
  intro p e s m args below meth c s₁ B hml hv
  obtain ⟨rfl, hsz, hP, hK, hD0⟩ := hv
  have hx := B.exec
  have hb := B.bytes
  have hr := B.returns
  have hts := atoms_spec (ws := (wsA yX6_undo cX6_undo 1 (some .int))) B.pre
  have ht : ∀ w ∈ lw_g, w.before _ s = true := fun w h => hts w (List.mem_cons_of_mem _ h)
  have hown : s.vm.findClass RX6 = some m.cls := findClass_of_methodNamed B.named
  have hlocks := B.notSynchronized
  subst hsz
  have hD := hD0.self (sz := s.heap.size)
  generalize hAe : va_A (XW cI cZ cW Z Y (Z 1 0) (Z 2 0) S a) s.heap.size = A at hD ⊢
  have hA : ∀ q : Nat, s.heap.size ≤ q → A q := fun q h => by rw [← hAe]; exact Or.inr h
  have hS : va_S A s.heap s.heap [] := va_S.rf
  have hDk : ∀ (x : Nat → CS) (y : AS), va_D A (XW cI cZ cW Z Y (Z 1 0) (Z 2 0) x y) := fun x y => D_X hD
  have hl := lv_entry ([.ref (Z 0 0)]) (n := 1) (Nat.le_of_ble_eq_true rfl)
  rw [lg_entry_eq]
  generalize (lg_sl ([.ref (Z 0 0)]) ++ List.replicate (1 - (lg_sl ([.ref (Z 0 0)])).length) Slot.unset).toArray = ls at hl ⊢
  have hl : lv_has ls 1 [(0, .ref (Z 0 0))] := hl
  unfold wp_X6_undo at hf
  have start : ∀ (H : Heap) (locs : List Loc), va_P D classes (XW cI cZ cW Z Y (Z 1 0) (Z 2 0) S a) H → va_D A (XW cI cZ cW Z Y (Z 1 0) (Z 2 0) S a) → va_S A s.heap H locs → W p l e (headSpec (wsA yX6_undo cX6_undo 1 (some .int)) ({ frames := 3, cells := 0, slots := 0, locals := 83 })).room s m (#[.ref (Z 0 0)] : Array Value) below meth c H locs 0 0 (MQ below (va_Qi (fun (r : Int32) (u : (Nat → CS) × AS) => Q r u.1 u.2) (fun u t => va_P D classes (XW cI cZ cW Z Y (Z 1 0) (Z 2 0) u.1 u.2) t.heap) A) (#[.ref (Z 0 0)] : Array Value) s 0 0 A) (F0 m 0 ls []) := by
    intro H locs hP hD hS
    refine lv_aload_n hx hb dX6_undo_0 rfl (lv_at hl 0 rfl) ?_
    refine va_get (D := D) (ci := 4) (v := .ref (Z 9 0)) (C := RX6) (T := TX6) (N := 12) hx hb ht inX6 hown hK hP 0 eX_0 rfl 7 (by decide) (ht _ tw_160) (fun _ h9 => h9) rfl dX6_undo_1 ?_
    refine va_get (D := D) (ci := 0) (v := .int (a.1.1 1)) (C := RX0) (T := TX0) (N := 2) hx hb ht inX0 hown hK hP 45 eX_45 rfl 1 (by decide) (ht _ tw_126) (fun _ h9 => h9) rfl dX6_undo_4 ?_
    refine lv_iconst (v := (1 : Int32)) hx hb dX6_undo_7 (by decide) ?_
    refine lv_icmp_ge (tgt := 14) hx hb dX6_undo_8 (by decide) (fun c_1 => ?_) (fun c_1 => ?_)
    · have hf := hf.1 c_1
      refine lv_aload_n hx hb dX6_undo_14 rfl (lv_at hl 0 rfl) ?_
      refine va_get (D := D) (ci := 4) (v := .ref (Z 9 0)) (C := RX6) (T := TX6) (N := 12) hx hb ht inX6 hown hK hP 0 eX_0 rfl 7 (by decide) (ht _ tw_160) (fun _ h9 => h9) rfl dX6_undo_15 ?_
      refine lv_aload_n hx hb dX6_undo_18 rfl (lv_at hl 0 rfl) ?_
      refine va_get (D := D) (ci := 4) (v := .ref (Z 4 0)) (C := RX6) (T := TX6) (N := 12) hx hb ht inX6 hown hK hP 0 eX_0 rfl 5 (by decide) (ht _ tw_158) (fun _ h9 => h9) rfl dX6_undo_19 ?_
      have hPc : va_P D classes (AW cI cZ cW (Z 9) (Z 4) Y a (S 4)) H := XP_9_4 hP
      have hDc : va_D A (AW cI cZ cW (Z 9) (Z 4) Y a (S 4)) := XD_9_4 hD
      have hFc := va_freeX hDc hS hA
      refine va_callv (va_runV (As := [.ref (Z 4 0)]) (rest := []) ⟨hx, hb, hml, hown, hts⟩ (c_X0_takeBack l D cI cZ cW (Z 9) (Z 4) Y H.size a (S 4) _ hf) ⟨callB_of 1 hts (gA tw_472) rfl rfl rfl (ht _ tw_5) (ht _ tw_469) hd_X0_takeBack ⟨Nat.le_of_ble_eq_true rfl, Nat.le_of_ble_eq_true rfl⟩, ht _ tw_470, ht _ tw_471⟩ ⟨PW_blind, va_recv hK hP (ci := 0) (q0 := 45) rfl eX_45, fun U hU hW => PW_mk hPc hDc hK hU hW⟩ rfl rfl hl.1 rfl (lv_room (Nat.le_of_ble_eq_true rfl)) dX6_undo_22 ⟨Nat.zero_le _, Nat.zero_le _⟩) hS (fun q _ h => hFc q h) hFc (fun u t H1 locs ht1 hvm hf hB hz1 hk1 hS => ?_)
      obtain ⟨a_2, s_3⟩ := u
      dsimp only at hf hB
      rw [ht1] at hB
      have hP := XJ_9_4 hP hD hk1 hB
      generalize H1 = H at hP hS ⊢
      obtain ⟨S_4, eS_4⟩ : ∃ y : Nat → CS, y = va_up S 4 s_3 := ⟨_, rfl⟩
      have hf := hf S_4 eS_4
      have hP : va_P D classes (XW cI cZ cW Z Y (Z 1 0) (Z 2 0) S_4 a_2) H := by rw [eS_4]; exact hP
      have hD := hDk S_4 a_2
      refine lv_aload_n hx hb dX6_undo_25 rfl (lv_at hl 0 rfl) ?_
      refine va_get (D := D) (ci := 4) (v := .ref (Z 9 0)) (C := RX6) (T := TX6) (N := 12) hx hb ht inX6 hown hK hP 0 eX_0 rfl 7 (by decide) (ht _ tw_160) (fun _ h9 => h9) rfl dX6_undo_26 ?_
      refine va_get (D := D) (ci := 0) (v := .int (a_2.1.1 1)) (C := RX0) (T := TX0) (N := 2) hx hb ht inX0 hown hK hP 45 eX_45 rfl 1 (by decide) (ht _ tw_126) (fun _ h9 => h9) rfl dX6_undo_29 ?_
      exact W.iret (v := (a_2.1.1 1)) hx hb hr (fun t ht hW => ⟨⟨(a_2.1.1 1), (S_4, a_2), rfl, hf, P_heap ht hP⟩, hS.F ht⟩) hS.2.2 dX6_undo_32
    · have hf := hf.2 c_1
      refine lv_bipush (v := (-3 : Int32)) hx hb dX6_undo_11 (by decide) ?_
      exact W.iret (v := (-3 : Int32)) hx hb hr (fun t ht hW => ⟨⟨(-3 : Int32), (S, a), rfl, hf, P_heap ht hP⟩, hS.F ht⟩) hS.2.2 dX6_undo_13
  exact start s.heap [] hP hD hS
def wp_X6_way (p0 : Int32) (p1 : Int32) (Z : Nat → Nat → Nat) (Y : Nat → Nat → Nat) (S : Nat → CS) (a : AS) (Q : Int32 → Prop) : Prop := wp_X2_hasCell p0 (fun r_1 => ((r_1 = 0 → Q (-1 : Int32)) ∧ (¬ r_1 = 0 → wp_X2_hasCell p1 (fun r_3 => ((¬ r_3 = 0 → wp_X5_openCells (S 4) (fun r_5 => wp_X2_steps p0 p1 r_5 (fun r_6 => Q r_6))) ∧ (r_3 = 0 → Q (-1 : Int32)))))))
set_option maxHeartbeats 4000000 in
set_option maxRecDepth 100000 in
theorem c_X6_way (l : Launch) (D : va_G) (cI cZ cW : ClassId) (Z : Nat → Nat → Nat) (Y : Nat → Nat → Nat) (p0 : Int32) (p1 : Int32) (S : Nat → CS) (a : AS) (Q : Int32 → Prop) (hf : wp_X6_way p0 p1 Z Y S a Q) : Met l yX6_way (wsA yX6_way cX6_way 3 (some .int)) ({ frames := 3, cells := 0, slots := 0, locals := 65 }) (PR D cI cZ cW [.ref (Z 0 0), .int p0, .int p1] (XW cI cZ cW Z Y (Z 1 0) (Z 2 0) S a)) (vp_Si Q) 0 0 (fun _ => False) := by
  refine Met.ofW (cc := cX6_way) (maxL := 3) (ret := (some .int)) (by decide) rfl ?_
  intro p e s m args below meth c s₁ B hml hv
  obtain ⟨rfl, hP, hK⟩ := hv
  have hx := B.exec
  have hb := B.bytes
  have hr := B.returns
  have hts := atoms_spec (ws := (wsA yX6_way cX6_way 3 (some .int))) B.pre
  have ht : ∀ w ∈ lw_g, w.before _ s = true := fun w h => hts w (List.mem_cons_of_mem _ h)
  have hown : s.vm.findClass RX6 = some m.cls := findClass_of_methodNamed B.named
  have hlocks := B.notSynchronized
  have hl := lv_entry ([.ref (Z 0 0), .int p0, .int p1]) (n := 3) (Nat.le_of_ble_eq_true rfl)
  rw [lg_entry_eq]
  generalize (lg_sl ([.ref (Z 0 0), .int p0, .int p1]) ++ List.replicate (3 - (lg_sl ([.ref (Z 0 0), .int p0, .int p1])).length) Slot.unset).toArray = ls at hl ⊢
  have hl : lv_has ls 3 [(0, .ref (Z 0 0)), (1, .int p0), (2, .int p1)] := hl
  unfold wp_X6_way at hf
  refine lv_iload_n hx hb dX6_way_0 rfl (lv_at hl 1 rfl) ?_
  have hPc : va_P D classes ([] : va_W) s.heap := fun k q h => by simp at h
  refine vp_callSi (W.runS (As := [.int p0]) (rest := []) ⟨hx, hb, hml, hown, hts⟩ (c_X2_hasCell l D cI cZ cW  p0 _ hf) ⟨callB_of 1 hts (gA tw_245) rfl rfl rfl (ht _ tw_9) (ht _ tw_328) hd_X2_hasCell ⟨Nat.le_of_ble_eq_true rfl, Nat.le_of_ble_eq_true rfl⟩, ht _ tw_244⟩ ⟨PR_blind, fun U hU hW => PR_mk hPc hK hU hW⟩ rfl rfl hl.1 rfl (lv_room (Nat.le_of_ble_eq_true rfl)) dX6_way_1 ⟨Nat.zero_le _, Nat.zero_le _⟩) (fun r_1 hf => ?_)
  refine lv_if_eq (tgt := 14) hx hb dX6_way_4 (by decide) (fun c_2 => ?_) (fun c_2 => ?_)
  · have hf := hf.1 c_2
    refine lv_iconst (v := (-1 : Int32)) hx hb dX6_way_14 (by decide) ?_
    exact W.iret (v := (-1 : Int32)) hx hb hr (fun t ht hW => ⟨(-1 : Int32), rfl, hf, ht⟩) (fun q h => absurd h List.not_mem_nil) dX6_way_15
  · have hf := hf.2 c_2
    refine lv_iload_n hx hb dX6_way_7 rfl (lv_at hl 2 rfl) ?_
    have hPc : va_P D classes ([] : va_W) s.heap := fun k q h => by simp at h
    refine vp_callSi (W.runS (As := [.int p1]) (rest := []) ⟨hx, hb, hml, hown, hts⟩ (c_X2_hasCell l D cI cZ cW  p1 _ hf) ⟨callB_of 1 hts (gA tw_245) rfl rfl rfl (ht _ tw_9) (ht _ tw_328) hd_X2_hasCell ⟨Nat.le_of_ble_eq_true rfl, Nat.le_of_ble_eq_true rfl⟩, ht _ tw_244⟩ ⟨PR_blind, fun U hU hW => PR_mk hPc hK hU hW⟩ rfl rfl hl.1 rfl (lv_room (Nat.le_of_ble_eq_true rfl)) dX6_way_8 ⟨Nat.zero_le _, Nat.zero_le _⟩) (fun r_3 hf => ?_)
    refine lv_if_ne (tgt := 16) hx hb dX6_way_11 (by decide) (fun c_4 => ?_) (fun c_4 => ?_)
    · have hf := hf.1 c_4
      refine lv_iload_n hx hb dX6_way_16 rfl (lv_at hl 1 rfl) ?_
      refine lv_iload_n hx hb dX6_way_17 rfl (lv_at hl 2 rfl) ?_
      refine lv_aload_n hx hb dX6_way_18 rfl (lv_at hl 0 rfl) ?_
      refine va_get (D := D) (ci := 4) (v := .ref (Z 4 0)) (C := RX6) (T := TX6) (N := 12) hx hb ht inX6 hown hK hP 0 eX_0 rfl 5 (by decide) (ht _ tw_158) (fun _ h9 => h9) rfl dX6_way_19 ?_
      have hPc : va_P D classes (wW cI cZ (Z 4) (S 4)) s.heap := XP_4 hP
      refine vp_callSi (W.runV (As := []) (rest := [.int p1, .int p0]) ⟨hx, hb, hml, hown, hts⟩ (c_X5_openCells l D cI cZ cW (Z 4) (S 4) _ hf) ⟨callB_of 0 hts (gA tw_480) rfl rfl rfl (ht _ tw_4) (ht _ tw_477) hd_X5_openCells ⟨Nat.le_of_ble_eq_true rfl, Nat.le_of_ble_eq_true rfl⟩, ht _ tw_478, ht _ tw_479⟩ ⟨PR_blind, va_recv hK hP (ci := 3) (q0 := 21) rfl eX_21, fun U hU hW => PR_mk hPc hK hU hW⟩ rfl rfl hl.1 rfl (lv_room (Nat.le_of_ble_eq_true rfl)) dX6_way_22 ⟨Nat.zero_le _, Nat.zero_le _⟩) (fun r_5 hf => ?_)
      have hPc : va_P D classes ([] : va_W) s.heap := fun k q h => by simp at h
      refine vp_callSi (W.runS (As := [.int p0, .int p1, .int r_5]) (rest := []) ⟨hx, hb, hml, hown, hts⟩ (c_X2_steps l D cI cZ cW  p0 p1 r_5 _ hf) ⟨callB_of 3 hts (gA tw_483) rfl rfl rfl (ht _ tw_9) (ht _ tw_481) hd_X2_steps ⟨Nat.le_of_ble_eq_true rfl, Nat.le_of_ble_eq_true rfl⟩, ht _ tw_482⟩ ⟨PR_blind, fun U hU hW => PR_mk hPc hK hU hW⟩ rfl rfl hl.1 rfl (lv_room (Nat.le_of_ble_eq_true rfl)) dX6_way_25 ⟨Nat.zero_le _, Nat.zero_le _⟩) (fun r_6 hf => ?_)
      exact W.iret (v := r_6) hx hb hr (fun t ht hW => ⟨r_6, rfl, hf, ht⟩) (fun q h => absurd h List.not_mem_nil) dX6_way_28
    · have hf := hf.2 c_4
      refine lv_iconst (v := (-1 : Int32)) hx hb dX6_way_14 (by decide) ?_
      exact W.iret (v := (-1 : Int32)) hx hb hr (fun t ht hW => ⟨(-1 : Int32), rfl, hf, ht⟩) (fun q h => absurd h List.not_mem_nil) dX6_way_15
def wp_X6_gnaw (p0 : Int32) (p1 : Int32) (Z : Nat → Nat → Nat) (Y : Nat → Nat → Nat) (S : Nat → CS) (a : AS) (Q : Int32 → Prop) : Prop := wp_X2_hasCell p0 (fun r_1 => ((r_1 = 0 → Q (-1 : Int32)) ∧ (¬ r_1 = 0 → wp_X2_hasCell p1 (fun r_3 => ((¬ r_3 = 0 → wp_X5_openCells (S 4) (fun r_5 => wp_X5_softPaste (S 4) (S 1) (fun r_6 => wp_X2_fewestGnawed p0 p1 r_5 r_6 (fun r_7 => Q r_7)))) ∧ (r_3 = 0 → Q (-1 : Int32)))))))
set_option maxHeartbeats 4000000 in
set_option maxRecDepth 100000 in
theorem c_X6_gnaw (l : Launch) (D : va_G) (cI cZ cW : ClassId) (Z : Nat → Nat → Nat) (Y : Nat → Nat → Nat) (p0 : Int32) (p1 : Int32) (S : Nat → CS) (a : AS) (Q : Int32 → Prop) (hf : wp_X6_gnaw p0 p1 Z Y S a Q) : Met l yX6_gnaw (wsA yX6_gnaw cX6_gnaw 3 (some .int)) ({ frames := 3, cells := 0, slots := 0, locals := 73 }) (PR D cI cZ cW [.ref (Z 0 0), .int p0, .int p1] (XW cI cZ cW Z Y (Z 1 0) (Z 2 0) S a)) (vp_Si Q) 0 0 (fun _ => False) := by
  refine Met.ofW (cc := cX6_gnaw) (maxL := 3) (ret := (some .int)) (by decide) rfl ?_
  intro p e s m args below meth c s₁ B hml hv
  obtain ⟨rfl, hP, hK⟩ := hv
  have hx := B.exec
  have hb := B.bytes
  have hr := B.returns
  have hts := atoms_spec (ws := (wsA yX6_gnaw cX6_gnaw 3 (some .int))) B.pre
  have ht : ∀ w ∈ lw_g, w.before _ s = true := fun w h => hts w (List.mem_cons_of_mem _ h)
  have hown : s.vm.findClass RX6 = some m.cls := findClass_of_methodNamed B.named
  have hlocks := B.notSynchronized
  have hl := lv_entry ([.ref (Z 0 0), .int p0, .int p1]) (n := 3) (Nat.le_of_ble_eq_true rfl)
  rw [lg_entry_eq]
  generalize (lg_sl ([.ref (Z 0 0), .int p0, .int p1]) ++ List.replicate (3 - (lg_sl ([.ref (Z 0 0), .int p0, .int p1])).length) Slot.unset).toArray = ls at hl ⊢
  have hl : lv_has ls 3 [(0, .ref (Z 0 0)), (1, .int p0), (2, .int p1)] := hl
  unfold wp_X6_gnaw at hf
  refine lv_iload_n hx hb dX6_gnaw_0 rfl (lv_at hl 1 rfl) ?_
  have hPc : va_P D classes ([] : va_W) s.heap := fun k q h => by simp at h
  refine vp_callSi (W.runS (As := [.int p0]) (rest := []) ⟨hx, hb, hml, hown, hts⟩ (c_X2_hasCell l D cI cZ cW  p0 _ hf) ⟨callB_of 1 hts (gA tw_245) rfl rfl rfl (ht _ tw_9) (ht _ tw_328) hd_X2_hasCell ⟨Nat.le_of_ble_eq_true rfl, Nat.le_of_ble_eq_true rfl⟩, ht _ tw_244⟩ ⟨PR_blind, fun U hU hW => PR_mk hPc hK hU hW⟩ rfl rfl hl.1 rfl (lv_room (Nat.le_of_ble_eq_true rfl)) dX6_gnaw_1 ⟨Nat.zero_le _, Nat.zero_le _⟩) (fun r_1 hf => ?_)
  refine lv_if_eq (tgt := 14) hx hb dX6_gnaw_4 (by decide) (fun c_2 => ?_) (fun c_2 => ?_)
  · have hf := hf.1 c_2
    refine lv_iconst (v := (-1 : Int32)) hx hb dX6_gnaw_14 (by decide) ?_
    exact W.iret (v := (-1 : Int32)) hx hb hr (fun t ht hW => ⟨(-1 : Int32), rfl, hf, ht⟩) (fun q h => absurd h List.not_mem_nil) dX6_gnaw_15
  · have hf := hf.2 c_2
    refine lv_iload_n hx hb dX6_gnaw_7 rfl (lv_at hl 2 rfl) ?_
    have hPc : va_P D classes ([] : va_W) s.heap := fun k q h => by simp at h
    refine vp_callSi (W.runS (As := [.int p1]) (rest := []) ⟨hx, hb, hml, hown, hts⟩ (c_X2_hasCell l D cI cZ cW  p1 _ hf) ⟨callB_of 1 hts (gA tw_245) rfl rfl rfl (ht _ tw_9) (ht _ tw_328) hd_X2_hasCell ⟨Nat.le_of_ble_eq_true rfl, Nat.le_of_ble_eq_true rfl⟩, ht _ tw_244⟩ ⟨PR_blind, fun U hU hW => PR_mk hPc hK hU hW⟩ rfl rfl hl.1 rfl (lv_room (Nat.le_of_ble_eq_true rfl)) dX6_gnaw_8 ⟨Nat.zero_le _, Nat.zero_le _⟩) (fun r_3 hf => ?_)
    refine lv_if_ne (tgt := 16) hx hb dX6_gnaw_11 (by decide) (fun c_4 => ?_) (fun c_4 => ?_)
    · have hf := hf.1 c_4
      refine lv_iload_n hx hb dX6_gnaw_16 rfl (lv_at hl 1 rfl) ?_
      refine lv_iload_n hx hb dX6_gnaw_17 rfl (lv_at hl 2 rfl) ?_
      refine lv_aload_n hx hb dX6_gnaw_18 rfl (lv_at hl 0 rfl) ?_
      refine va_get (D := D) (ci := 4) (v := .ref (Z 4 0)) (C := RX6) (T := TX6) (N := 12) hx hb ht inX6 hown hK hP 0 eX_0 rfl 5 (by decide) (ht _ tw_158) (fun _ h9 => h9) rfl dX6_gnaw_19 ?_
      have hPc : va_P D classes (wW cI cZ (Z 4) (S 4)) s.heap := XP_4 hP
      refine vp_callSi (W.runV (As := []) (rest := [.int p1, .int p0]) ⟨hx, hb, hml, hown, hts⟩ (c_X5_openCells l D cI cZ cW (Z 4) (S 4) _ hf) ⟨callB_of 0 hts (gA tw_480) rfl rfl rfl (ht _ tw_4) (ht _ tw_477) hd_X5_openCells ⟨Nat.le_of_ble_eq_true rfl, Nat.le_of_ble_eq_true rfl⟩, ht _ tw_478, ht _ tw_479⟩ ⟨PR_blind, va_recv hK hP (ci := 3) (q0 := 21) rfl eX_21, fun U hU hW => PR_mk hPc hK hU hW⟩ rfl rfl hl.1 rfl (lv_room (Nat.le_of_ble_eq_true rfl)) dX6_gnaw_22 ⟨Nat.zero_le _, Nat.zero_le _⟩) (fun r_5 hf => ?_)
      refine lv_aload_n hx hb dX6_gnaw_25 rfl (lv_at hl 0 rfl) ?_
      refine va_get (D := D) (ci := 4) (v := .ref (Z 4 0)) (C := RX6) (T := TX6) (N := 12) hx hb ht inX6 hown hK hP 0 eX_0 rfl 5 (by decide) (ht _ tw_158) (fun _ h9 => h9) rfl dX6_gnaw_26 ?_
      refine lv_aload_n hx hb dX6_gnaw_29 rfl (lv_at hl 0 rfl) ?_
      refine va_get (D := D) (ci := 4) (v := .ref (Z 1 0)) (C := RX6) (T := TX6) (N := 12) hx hb ht inX6 hown hK hP 0 eX_0 rfl 2 (by decide) (ht _ tw_155) (fun _ h9 => h9) rfl dX6_gnaw_30 ?_
      have hPc : va_P D classes (wW cI cZ (Z 4) (S 4) ++ wD cI cZ (Z 1) (S 1)) s.heap := XP_4_1 hP
      refine vp_callSi (W.runV (As := [.ref (Z 1 0)]) (rest := [.int r_5, .int p1, .int p0]) ⟨hx, hb, hml, hown, hts⟩ (c_X5_softPaste l D cI cZ cW (Z 4) (Z 1) (S 4) (S 1) _ hf) ⟨callB_of 1 hts (gA tw_392) rfl rfl rfl (ht _ tw_4) (ht _ tw_490) hd_X5_softPaste ⟨Nat.le_of_ble_eq_true rfl, Nat.le_of_ble_eq_true rfl⟩, ht _ tw_390, ht _ tw_391⟩ ⟨PR_blind, va_recv hK hP (ci := 3) (q0 := 21) rfl eX_21, fun U hU hW => PR_mk hPc hK hU hW⟩ rfl rfl hl.1 rfl (lv_room (Nat.le_of_ble_eq_true rfl)) dX6_gnaw_33 ⟨Nat.zero_le _, Nat.zero_le _⟩) (fun r_6 hf => ?_)
      have hPc : va_P D classes ([] : va_W) s.heap := fun k q h => by simp at h
      refine vp_callSi (W.runS (As := [.int p0, .int p1, .int r_5, .int r_6]) (rest := []) ⟨hx, hb, hml, hown, hts⟩ (c_X2_fewestGnawed l D cI cZ cW  p0 p1 r_5 r_6 _ hf) ⟨callB_of 4 hts (gA tw_493) rfl rfl rfl (ht _ tw_9) (ht _ tw_491) hd_X2_fewestGnawed ⟨Nat.le_of_ble_eq_true rfl, Nat.le_of_ble_eq_true rfl⟩, ht _ tw_492⟩ ⟨PR_blind, fun U hU hW => PR_mk hPc hK hU hW⟩ rfl rfl hl.1 rfl (lv_room (Nat.le_of_ble_eq_true rfl)) dX6_gnaw_36 ⟨Nat.zero_le _, Nat.zero_le _⟩) (fun r_7 hf => ?_)
      exact W.iret (v := r_7) hx hb hr (fun t ht hW => ⟨r_7, rfl, hf, ht⟩) (fun q h => absurd h List.not_mem_nil) dX6_gnaw_39
    · have hf := hf.2 c_4
      refine lv_iconst (v := (-1 : Int32)) hx hb dX6_gnaw_14 (by decide) ?_
      exact W.iret (v := (-1 : Int32)) hx hb hr (fun t ht hW => ⟨(-1 : Int32), rfl, hf, ht⟩) (fun q h => absurd h List.not_mem_nil) dX6_gnaw_15
def LB_X6_wedding_45 (G45 : (Int32 × Int32 × Int32 × (Nat → CS) × AS) → Prop) (Z : Nat → Nat → Nat) (Y : Nat → Nat → Nat) (x1 : Int32) (x2 : Int32) (x3 : Int32) (S : Nat → CS) (a : AS) (Q : Int32 → (Nat → CS) → AS → Prop) : Prop := (((20 : Int32) < x3 → Q (-9 : Int32) S a) ∧ (¬ (20 : Int32) < x3 → wp_X5_isGone x1 (S 5) (fun r_2 => ((¬ r_2 = 0 → Q x3 S a) ∧ (r_2 = 0 → wp_X5_isGone x2 (S 5) (fun r_4 => ((r_4 = 0 → wp_X5_passDay (S 5) (S 1) (fun r_6 s_7 s_8 => ∀ S_9 : Nat → CS, S_9 = va_up (va_up S 5 s_7) 1 s_8 → ∀ x3_10 : Int32, x3_10 = x3 + (1 : Int32) → G45 (x1, x2, x3_10, S_9, a))) ∧ (¬ r_4 = 0 → Q x3 S a))))))))
def B_X6_wedding_45 (Z : Nat → Nat → Nat) (Y : Nat → Nat → Nat) (x1 : Int32) (x2 : Int32) (x3 : Int32) (S : Nat → CS) (a : AS) (Q : Int32 → (Nat → CS) → AS → Prop) : Prop := LOOP (fun (G45 : (Int32 × Int32 × Int32 × (Nat → CS) × AS) → Prop) z => LB_X6_wedding_45 G45 Z Y z.1 z.2.1 z.2.2.1 z.2.2.2.1 z.2.2.2.2 Q) (x1, x2, x3, S, a)
def wp_X6_wedding (p0 : Int32) (p1 : Int32) (Z : Nat → Nat → Nat) (Y : Nat → Nat → Nat) (S : Nat → CS) (a : AS) (Q : Int32 → (Nat → CS) → AS → Prop) : Prop := wp_X1_hasHole p0 (S 1) (fun r_11 => ((r_11 = 0 → Q (-1 : Int32) S a) ∧ (¬ r_11 = 0 → wp_X1_hasHole p1 (S 1) (fun r_13 => ((¬ r_13 = 0 → ((¬ p0 = p1 → wp_X5_copyFrom (S 5) (S 4) (fun s_16 s_17 => ∀ S_18 : Nat → CS, S_18 = va_up (va_up S 5 s_16) 4 s_17 → B_X6_wedding_45 Z Y p0 p1 (0 : Int32) S_18 a Q)) ∧ (p0 = p1 → Q (-2 : Int32) S a))) ∧ (r_13 = 0 → Q (-1 : Int32) S a))))))
set_option maxHeartbeats 4000000 in
set_option maxRecDepth 100000 in
theorem c_X6_wedding (l : Launch) (D : va_G) (cI cZ cW : ClassId) (Z : Nat → Nat → Nat) (Y : Nat → Nat → Nat) (sz : Nat) (p0 : Int32) (p1 : Int32) (S : Nat → CS) (a : AS) (Q : Int32 → (Nat → CS) → AS → Prop) (hf : wp_X6_wedding p0 p1 Z Y S a Q) : Met l yX6_wedding (wsA yX6_wedding cX6_wedding 4 (some .int)) ({ frames := 5, cells := 0, slots := 0, locals := 115 }) (PW D cI cZ cW [.ref (Z 0 0), .int p0, .int p1] (XW cI cZ cW Z Y (Z 1 0) (Z 2 0) S a) sz) (va_Qi (fun (r : Int32) (u : (Nat → CS) × AS) => Q r u.1 u.2) (fun u t => va_P D classes (XW cI cZ cW Z Y (Z 1 0) (Z 2 0) u.1 u.2) t.heap) (va_A (XW cI cZ cW Z Y (Z 1 0) (Z 2 0) S a) sz)) 0 0 (va_A (XW cI cZ cW Z Y (Z 1 0) (Z 2 0) S a) sz) := by
  refine Met.ofW (cc := cX6_wedding) (maxL := 4) (ret := (some .int)) (by decide) rfl ?_
  intro p e s m args below meth c s₁ B hml hv
  obtain ⟨rfl, hsz, hP, hK, hD0⟩ := hv
  have hx := B.exec
  have hb := B.bytes
  have hr := B.returns
  have hts := atoms_spec (ws := (wsA yX6_wedding cX6_wedding 4 (some .int))) B.pre
  have ht : ∀ w ∈ lw_g, w.before _ s = true := fun w h => hts w (List.mem_cons_of_mem _ h)
  have hown : s.vm.findClass RX6 = some m.cls := findClass_of_methodNamed B.named
  have hlocks := B.notSynchronized
  subst hsz
  have hD := hD0.self (sz := s.heap.size)
  generalize hAe : va_A (XW cI cZ cW Z Y (Z 1 0) (Z 2 0) S a) s.heap.size = A at hD ⊢
  have hA : ∀ q : Nat, s.heap.size ≤ q → A q := fun q h => by rw [← hAe]; exact Or.inr h
  have hS : va_S A s.heap s.heap [] := va_S.rf
  have hDk : ∀ (x : Nat → CS) (y : AS), va_D A (XW cI cZ cW Z Y (Z 1 0) (Z 2 0) x y) := fun x y => D_X hD
  have hl := lv_entry ([.ref (Z 0 0), .int p0, .int p1]) (n := 4) (Nat.le_of_ble_eq_true rfl)
  rw [lg_entry_eq]
  generalize (lg_sl ([.ref (Z 0 0), .int p0, .int p1]) ++ List.replicate (4 - (lg_sl ([.ref (Z 0 0), .int p0, .int p1])).length) Slot.unset).toArray = ls at hl ⊢
  have hl : lv_has ls 4 [(0, .ref (Z 0 0)), (1, .int p0), (2, .int p1)] := hl
  unfold wp_X6_wedding at hf
  have k_45 : ∀ (x1 : Int32) (x2 : Int32) (x3 : Int32) (S : Nat → CS) (a : AS) (H : Heap) (locs : List Loc) (ls : Array Slot), B_X6_wedding_45 Z Y x1 x2 x3 S a Q → va_P D classes (XW cI cZ cW Z Y (Z 1 0) (Z 2 0) S a) H → va_D A (XW cI cZ cW Z Y (Z 1 0) (Z 2 0) S a) → va_S A s.heap H locs → lv_has ls 4 [(0, .ref (Z 0 0)), (1, .int x1), (2, .int x2), (3, .int x3)] → W p l e (headSpec (wsA yX6_wedding cX6_wedding 4 (some .int)) ({ frames := 5, cells := 0, slots := 0, locals := 115 })).room s m (#[.ref (Z 0 0), .int p0, .int p1] : Array Value) below meth c H locs 0 0 (MQ below (va_Qi (fun (r : Int32) (u : (Nat → CS) × AS) => Q r u.1 u.2) (fun u t => va_P D classes (XW cI cZ cW Z Y (Z 1 0) (Z 2 0) u.1 u.2) t.heap) A) (#[.ref (Z 0 0), .int p0, .int p1] : Array Value) s 0 0 A) (F0 m 45 ls []) := by
    intro x1 x2 x3 S a H locs ls hf hP hD hS hl
    unfold B_X6_wedding_45 at hf
    obtain ⟨I_45, ⟨n0_45, hI0_45⟩, hst_45⟩ := hf
    have main_45 : ∀ (n : Nat) (x1 : Int32) (x2 : Int32) (x3 : Int32) (S : Nat → CS) (a : AS) (H : Heap) (locs : List Loc) (ls : Array Slot), I_45 n (x1, x2, x3, S, a) → va_P D classes (XW cI cZ cW Z Y (Z 1 0) (Z 2 0) S a) H → va_D A (XW cI cZ cW Z Y (Z 1 0) (Z 2 0) S a) → va_S A s.heap H locs → lv_has ls 4 [(0, .ref (Z 0 0)), (1, .int x1), (2, .int x2), (3, .int x3)] → W p l e (headSpec (wsA yX6_wedding cX6_wedding 4 (some .int)) ({ frames := 5, cells := 0, slots := 0, locals := 115 })).room s m (#[.ref (Z 0 0), .int p0, .int p1] : Array Value) below meth c H locs 0 0 (MQ below (va_Qi (fun (r : Int32) (u : (Nat → CS) × AS) => Q r u.1 u.2) (fun u t => va_P D classes (XW cI cZ cW Z Y (Z 1 0) (Z 2 0) u.1 u.2) t.heap) A) (#[.ref (Z 0 0), .int p0, .int p1] : Array Value) s 0 0 A) (F0 m 45 ls []) := by
      intro n
      induction n using Nat.strongRecOn with
      | _ n_45 ih_45 =>
      intro x1 x2 x3 S a H locs ls hI hP hD hS hl
      have hf : LB_X6_wedding_45 (fun z => ∃ k, k < n_45 ∧ I_45 k z) Z Y x1 x2 x3 S a Q := hst_45 n_45 (x1, x2, x3, S, a) hI
      have hG_45 : ∀ (x1 : Int32) (x2 : Int32) (x3 : Int32) (S : Nat → CS) (a : AS) (H : Heap) (locs : List Loc) (ls : Array Slot), (∃ k, k < n_45 ∧ I_45 k (x1, x2, x3, S, a)) → va_P D classes (XW cI cZ cW Z Y (Z 1 0) (Z 2 0) S a) H → va_D A (XW cI cZ cW Z Y (Z 1 0) (Z 2 0) S a) → va_S A s.heap H locs → lv_has ls 4 [(0, .ref (Z 0 0)), (1, .int x1), (2, .int x2), (3, .int x3)] → W p l e (headSpec (wsA yX6_wedding cX6_wedding 4 (some .int)) ({ frames := 5, cells := 0, slots := 0, locals := 115 })).room s m (#[.ref (Z 0 0), .int p0, .int p1] : Array Value) below meth c H locs 0 0 (MQ below (va_Qi (fun (r : Int32) (u : (Nat → CS) × AS) => Q r u.1 u.2) (fun u t => va_P D classes (XW cI cZ cW Z Y (Z 1 0) (Z 2 0) u.1 u.2) t.heap) A) (#[.ref (Z 0 0), .int p0, .int p1] : Array Value) s 0 0 A) (F0 m 45 ls []) := by
        rintro x1 x2 x3 S a H locs ls ⟨k, hk, hI⟩ hP hD hS hl
        exact ih_45 k hk x1 x2 x3 S a H locs ls hI hP hD hS hl
      unfold LB_X6_wedding_45 at hf
      refine lv_iload_n hx hb dX6_wedding_45 rfl (lv_at hl 3 rfl) ?_
      refine lv_bipush (v := (20 : Int32)) hx hb dX6_wedding_46 (by decide) ?_
      refine lv_icmp_gt (tgt := 93) hx hb dX6_wedding_48 (by decide) (fun c_1 => ?_) (fun c_1 => ?_)
      · have hf := hf.1 c_1
        refine lv_bipush (v := (-9 : Int32)) hx hb dX6_wedding_93 (by decide) ?_
        exact W.iret (v := (-9 : Int32)) hx hb hr (fun t ht hW => ⟨⟨(-9 : Int32), (S, a), rfl, hf, P_heap ht hP⟩, hS.F ht⟩) hS.2.2 dX6_wedding_95
      · have hf := hf.2 c_1
        refine lv_aload_n hx hb dX6_wedding_51 rfl (lv_at hl 0 rfl) ?_
        refine va_get (D := D) (ci := 4) (v := .ref (Z 5 0)) (C := RX6) (T := TX6) (N := 12) hx hb ht inX6 hown hK hP 0 eX_0 rfl 6 (by decide) (ht _ tw_159) (fun _ h9 => h9) rfl dX6_wedding_52 ?_
        refine lv_iload_n hx hb dX6_wedding_55 rfl (lv_at hl 1 rfl) ?_
        have hPc : va_P D classes (wW cI cZ (Z 5) (S 5)) H := XP_5 hP
        refine vp_callSi (W.runV (As := [.int x1]) (rest := []) ⟨hx, hb, hml, hown, hts⟩ (c_X5_isGone l D cI cZ cW (Z 5) x1 (S 5) _ hf) ⟨callB_of 1 hts (gA tw_451) rfl rfl rfl (ht _ tw_4) (ht _ tw_502) hd_X5_isGone ⟨Nat.le_of_ble_eq_true rfl, Nat.le_of_ble_eq_true rfl⟩, ht _ tw_449, ht _ tw_450⟩ ⟨PR_blind, va_recv hK hP (ci := 3) (q0 := 26) rfl eX_26, fun U hU hW => PR_mk hPc hK hU hW⟩ rfl rfl hl.1 rfl (lv_room (Nat.le_of_ble_eq_true rfl)) dX6_wedding_56 ⟨Nat.zero_le _, Nat.zero_le _⟩) (fun r_2 hf => ?_)
        refine lv_if_ne (tgt := 73) hx hb dX6_wedding_59 (by decide) (fun c_3 => ?_) (fun c_3 => ?_)
        · have hf := hf.1 c_3
          refine lv_iload_n hx hb dX6_wedding_73 rfl (lv_at hl 3 rfl) ?_
          exact W.iret (v := x3) hx hb hr (fun t ht hW => ⟨⟨x3, (S, a), rfl, hf, P_heap ht hP⟩, hS.F ht⟩) hS.2.2 dX6_wedding_74
        · have hf := hf.2 c_3
          refine lv_aload_n hx hb dX6_wedding_62 rfl (lv_at hl 0 rfl) ?_
          refine va_get (D := D) (ci := 4) (v := .ref (Z 5 0)) (C := RX6) (T := TX6) (N := 12) hx hb ht inX6 hown hK hP 0 eX_0 rfl 6 (by decide) (ht _ tw_159) (fun _ h9 => h9) rfl dX6_wedding_63 ?_
          refine lv_iload_n hx hb dX6_wedding_66 rfl (lv_at hl 2 rfl) ?_
          have hPc : va_P D classes (wW cI cZ (Z 5) (S 5)) H := XP_5 hP
          refine vp_callSi (W.runV (As := [.int x2]) (rest := []) ⟨hx, hb, hml, hown, hts⟩ (c_X5_isGone l D cI cZ cW (Z 5) x2 (S 5) _ hf) ⟨callB_of 1 hts (gA tw_451) rfl rfl rfl (ht _ tw_4) (ht _ tw_502) hd_X5_isGone ⟨Nat.le_of_ble_eq_true rfl, Nat.le_of_ble_eq_true rfl⟩, ht _ tw_449, ht _ tw_450⟩ ⟨PR_blind, va_recv hK hP (ci := 3) (q0 := 26) rfl eX_26, fun U hU hW => PR_mk hPc hK hU hW⟩ rfl rfl hl.1 rfl (lv_room (Nat.le_of_ble_eq_true rfl)) dX6_wedding_67 ⟨Nat.zero_le _, Nat.zero_le _⟩) (fun r_4 hf => ?_)
          refine lv_if_eq (tgt := 75) hx hb dX6_wedding_70 (by decide) (fun c_5 => ?_) (fun c_5 => ?_)
          · have hf := hf.1 c_5
            refine lv_aload_n hx hb dX6_wedding_75 rfl (lv_at hl 0 rfl) ?_
            refine va_get (D := D) (ci := 4) (v := .ref (Z 5 0)) (C := RX6) (T := TX6) (N := 12) hx hb ht inX6 hown hK hP 0 eX_0 rfl 6 (by decide) (ht _ tw_159) (fun _ h9 => h9) rfl dX6_wedding_76 ?_
            refine lv_aload_n hx hb dX6_wedding_79 rfl (lv_at hl 0 rfl) ?_
            refine va_get (D := D) (ci := 4) (v := .ref (Z 1 0)) (C := RX6) (T := TX6) (N := 12) hx hb ht inX6 hown hK hP 0 eX_0 rfl 2 (by decide) (ht _ tw_155) (fun _ h9 => h9) rfl dX6_wedding_80 ?_
            have hPc : va_P D classes (wW cI cZ (Z 5) (S 5) ++ wD cI cZ (Z 1) (S 1)) H := XP_5_1 hP
            have hDc : va_D A (wW cI cZ (Z 5) (S 5) ++ wD cI cZ (Z 1) (S 1)) := XD_5_1 hD
            have hFc := va_freeX hDc hS hA
            refine va_calli (va_runV (As := [.ref (Z 1 0)]) (rest := []) ⟨hx, hb, hml, hown, hts⟩ (c_X5_passDay l D cI cZ cW (Z 5) (Z 1) H.size (S 5) (S 1) _ hf) ⟨callB_of 1 hts (gA tw_369) rfl rfl rfl (ht _ tw_4) (ht _ tw_366) hd_X5_passDay ⟨Nat.le_of_ble_eq_true rfl, Nat.le_of_ble_eq_true rfl⟩, ht _ tw_367, ht _ tw_368⟩ ⟨PW_blind, va_recv hK hP (ci := 3) (q0 := 26) rfl eX_26, fun U hU hW => PW_mk hPc hDc hK hU hW⟩ rfl rfl hl.1 rfl (lv_room (Nat.le_of_ble_eq_true rfl)) dX6_wedding_83 ⟨Nat.zero_le _, Nat.zero_le _⟩) hS (fun q _ h => hFc q h) hFc (fun r_6 u t H1 locs ht1 hvm hf hB hz1 hk1 hS => ?_)
            obtain ⟨s_7, s_8⟩ := u
            dsimp only at hf hB
            rw [ht1] at hB
            have hP := XJ_5_1 hP hD hk1 hB
            generalize H1 = H at hP hS ⊢
            obtain ⟨S_9, eS_9⟩ : ∃ y : Nat → CS, y = va_up (va_up S 5 s_7) 1 s_8 := ⟨_, rfl⟩
            have hf := hf S_9 eS_9
            have hP : va_P D classes (XW cI cZ cW Z Y (Z 1 0) (Z 2 0) S_9 a) H := by rw [eS_9]; exact hP
            have hD := hDk S_9 a
            refine lv_pop hx hb dX6_wedding_86 rfl ?_
            obtain ⟨x3_10, ex3_10⟩ : ∃ y : Int32, y = x3 + (1 : Int32) := ⟨_, rfl⟩
            have hf := hf x3_10 ex3_10
            refine lv_iinc (v := x3_10) (lv' := [(3, .int x3_10), (0, .ref (Z 0 0)), (1, .int x1), (2, .int x2)]) hx hb dX6_wedding_87 hl (k := 3) rfl (by rw [ex3_10]; rfl) (by decide) rfl (fun ls hl => ?_)
            refine lv_goto (tgt := 45) hx hb dX6_wedding_90 (by decide) ?_
            exact hG_45 x1 x2 x3_10 S_9 a H locs ls hf hP hD hS (lv_sub hl [1, 2, 3, 0] rfl)
          · have hf := hf.2 c_5
            refine lv_iload_n hx hb dX6_wedding_73 rfl (lv_at hl 3 rfl) ?_
            exact W.iret (v := x3) hx hb hr (fun t ht hW => ⟨⟨x3, (S, a), rfl, hf, P_heap ht hP⟩, hS.F ht⟩) hS.2.2 dX6_wedding_74
    exact main_45 n0_45 x1 x2 x3 S a H locs ls hI0_45 hP hD hS hl
  have start : ∀ (H : Heap) (locs : List Loc), va_P D classes (XW cI cZ cW Z Y (Z 1 0) (Z 2 0) S a) H → va_D A (XW cI cZ cW Z Y (Z 1 0) (Z 2 0) S a) → va_S A s.heap H locs → W p l e (headSpec (wsA yX6_wedding cX6_wedding 4 (some .int)) ({ frames := 5, cells := 0, slots := 0, locals := 115 })).room s m (#[.ref (Z 0 0), .int p0, .int p1] : Array Value) below meth c H locs 0 0 (MQ below (va_Qi (fun (r : Int32) (u : (Nat → CS) × AS) => Q r u.1 u.2) (fun u t => va_P D classes (XW cI cZ cW Z Y (Z 1 0) (Z 2 0) u.1 u.2) t.heap) A) (#[.ref (Z 0 0), .int p0, .int p1] : Array Value) s 0 0 A) (F0 m 0 ls []) := by
    intro H locs hP hD hS
    refine lv_aload_n hx hb dX6_wedding_0 rfl (lv_at hl 0 rfl) ?_
    refine va_get (D := D) (ci := 4) (v := .ref (Z 1 0)) (C := RX6) (T := TX6) (N := 12) hx hb ht inX6 hown hK hP 0 eX_0 rfl 2 (by decide) (ht _ tw_155) (fun _ h9 => h9) rfl dX6_wedding_1 ?_
    refine lv_iload_n hx hb dX6_wedding_4 rfl (lv_at hl 1 rfl) ?_
    have hPc : va_P D classes (wD cI cZ (Z 1) (S 1)) H := XP_1 hP
    refine vp_callSi (W.runV (As := [.int p0]) (rest := []) ⟨hx, hb, hml, hown, hts⟩ (c_X1_hasHole l D cI cZ cW (Z 1) p0 (S 1) _ hf) ⟨callB_of 1 hts (gA tw_265) rfl rfl rfl (ht _ tw_2) (ht _ tw_313) hd_X1_hasHole ⟨Nat.le_of_ble_eq_true rfl, Nat.le_of_ble_eq_true rfl⟩, ht _ tw_263, ht _ tw_264⟩ ⟨PR_blind, va_recv hK hP (ci := 1) (q0 := 3) rfl eX_3, fun U hU hW => PR_mk hPc hK hU hW⟩ rfl rfl hl.1 rfl (lv_room (Nat.le_of_ble_eq_true rfl)) dX6_wedding_5 ⟨Nat.zero_le _, Nat.zero_le _⟩) (fun r_11 hf => ?_)
    refine lv_if_eq (tgt := 22) hx hb dX6_wedding_8 (by decide) (fun c_12 => ?_) (fun c_12 => ?_)
    · have hf := hf.1 c_12
      refine lv_iconst (v := (-1 : Int32)) hx hb dX6_wedding_22 (by decide) ?_
      exact W.iret (v := (-1 : Int32)) hx hb hr (fun t ht hW => ⟨⟨(-1 : Int32), (S, a), rfl, hf, P_heap ht hP⟩, hS.F ht⟩) hS.2.2 dX6_wedding_23
    · have hf := hf.2 c_12
      refine lv_aload_n hx hb dX6_wedding_11 rfl (lv_at hl 0 rfl) ?_
      refine va_get (D := D) (ci := 4) (v := .ref (Z 1 0)) (C := RX6) (T := TX6) (N := 12) hx hb ht inX6 hown hK hP 0 eX_0 rfl 2 (by decide) (ht _ tw_155) (fun _ h9 => h9) rfl dX6_wedding_12 ?_
      refine lv_iload_n hx hb dX6_wedding_15 rfl (lv_at hl 2 rfl) ?_
      have hPc : va_P D classes (wD cI cZ (Z 1) (S 1)) H := XP_1 hP
      refine vp_callSi (W.runV (As := [.int p1]) (rest := []) ⟨hx, hb, hml, hown, hts⟩ (c_X1_hasHole l D cI cZ cW (Z 1) p1 (S 1) _ hf) ⟨callB_of 1 hts (gA tw_265) rfl rfl rfl (ht _ tw_2) (ht _ tw_313) hd_X1_hasHole ⟨Nat.le_of_ble_eq_true rfl, Nat.le_of_ble_eq_true rfl⟩, ht _ tw_263, ht _ tw_264⟩ ⟨PR_blind, va_recv hK hP (ci := 1) (q0 := 3) rfl eX_3, fun U hU hW => PR_mk hPc hK hU hW⟩ rfl rfl hl.1 rfl (lv_room (Nat.le_of_ble_eq_true rfl)) dX6_wedding_16 ⟨Nat.zero_le _, Nat.zero_le _⟩) (fun r_13 hf => ?_)
      refine lv_if_ne (tgt := 24) hx hb dX6_wedding_19 (by decide) (fun c_14 => ?_) (fun c_14 => ?_)
      · have hf := hf.1 c_14
        refine lv_iload_n hx hb dX6_wedding_24 rfl (lv_at hl 1 rfl) ?_
        refine lv_iload_n hx hb dX6_wedding_25 rfl (lv_at hl 2 rfl) ?_
        refine lv_icmp_ne (tgt := 32) hx hb dX6_wedding_26 (by decide) (fun c_15 => ?_) (fun c_15 => ?_)
        · have hf := hf.1 c_15
          refine lv_aload_n hx hb dX6_wedding_32 rfl (lv_at hl 0 rfl) ?_
          refine va_get (D := D) (ci := 4) (v := .ref (Z 5 0)) (C := RX6) (T := TX6) (N := 12) hx hb ht inX6 hown hK hP 0 eX_0 rfl 6 (by decide) (ht _ tw_159) (fun _ h9 => h9) rfl dX6_wedding_33 ?_
          refine lv_aload_n hx hb dX6_wedding_36 rfl (lv_at hl 0 rfl) ?_
          refine va_get (D := D) (ci := 4) (v := .ref (Z 4 0)) (C := RX6) (T := TX6) (N := 12) hx hb ht inX6 hown hK hP 0 eX_0 rfl 5 (by decide) (ht _ tw_158) (fun _ h9 => h9) rfl dX6_wedding_37 ?_
          have hPc : va_P D classes (wW cI cZ (Z 5) (S 5) ++ wW cI cZ (Z 4) (S 4)) H := XP_5_4 hP
          have hDc : va_D A (wW cI cZ (Z 5) (S 5) ++ wW cI cZ (Z 4) (S 4)) := XD_5_4 hD
          have hFc := va_freeX hDc hS hA
          refine va_callv (va_runV (As := [.ref (Z 4 0)]) (rest := []) ⟨hx, hb, hml, hown, hts⟩ (c_X5_copyFrom l D cI cZ cW (Z 5) (Z 4) H.size (S 5) (S 4) _ hf) ⟨callB_of 1 hts (gA tw_362) rfl rfl rfl (ht _ tw_4) (ht _ tw_501) hd_X5_copyFrom ⟨Nat.le_of_ble_eq_true rfl, Nat.le_of_ble_eq_true rfl⟩, ht _ tw_360, ht _ tw_361⟩ ⟨PW_blind, va_recv hK hP (ci := 3) (q0 := 26) rfl eX_26, fun U hU hW => PW_mk hPc hDc hK hU hW⟩ rfl rfl hl.1 rfl (lv_room (Nat.le_of_ble_eq_true rfl)) dX6_wedding_40 ⟨Nat.zero_le _, Nat.zero_le _⟩) hS (fun q _ h => hFc q h) hFc (fun u t H1 locs ht1 hvm hf hB hz1 hk1 hS => ?_)
          obtain ⟨s_16, s_17⟩ := u
          dsimp only at hf hB
          rw [ht1] at hB
          have hP := XJ_5_4 hP hD hk1 hB
          generalize H1 = H at hP hS ⊢
          obtain ⟨S_18, eS_18⟩ : ∃ y : Nat → CS, y = va_up (va_up S 5 s_16) 4 s_17 := ⟨_, rfl⟩
          have hf := hf S_18 eS_18
          have hP : va_P D classes (XW cI cZ cW Z Y (Z 1 0) (Z 2 0) S_18 a) H := by rw [eS_18]; exact hP
          have hD := hDk S_18 a
          refine lv_iconst (v := (0 : Int32)) hx hb dX6_wedding_43 (by decide) ?_
          refine lv_istore_n (lv' := [(3, .int (0 : Int32)), (0, .ref (Z 0 0)), (1, .int p0), (2, .int p1)]) hx hb dX6_wedding_44 rfl hl (by decide) rfl (fun ls hl => ?_)
          exact k_45 p0 p1 (0 : Int32) S_18 a H locs ls hf hP hD hS (lv_sub hl [1, 2, 3, 0] rfl)
        · have hf := hf.2 c_15
          refine lv_bipush (v := (-2 : Int32)) hx hb dX6_wedding_29 (by decide) ?_
          exact W.iret (v := (-2 : Int32)) hx hb hr (fun t ht hW => ⟨⟨(-2 : Int32), (S, a), rfl, hf, P_heap ht hP⟩, hS.F ht⟩) hS.2.2 dX6_wedding_31
      · have hf := hf.2 c_14
        refine lv_iconst (v := (-1 : Int32)) hx hb dX6_wedding_22 (by decide) ?_
        exact W.iret (v := (-1 : Int32)) hx hb hr (fun t ht hW => ⟨⟨(-1 : Int32), (S, a), rfl, hf, P_heap ht hP⟩, hS.F ht⟩) hS.2.2 dX6_wedding_23
  exact start s.heap [] hP hD hS
def LB_X6_ahead_35 (G35 : (Int32 × Int32 × Int32 × (Nat → CS) × AS) → Prop) (Z : Nat → Nat → Nat) (Y : Nat → Nat → Nat) (x1 : Int32) (x2 : Int32) (x3 : Int32) (S : Nat → CS) (a : AS) (Q : Int32 → (Nat → CS) → AS → Prop) : Prop := ((x1 ≤ x3 → ((¬ x2 = 0 → wp_X5_pasteCells (S 5) (fun r_3 => wp_J6_bitCount_0f7a4 r_3 (fun r_4 => Q r_4 S a))) ∧ (x2 = 0 → wp_X5_holesLeft (S 5) (fun r_5 => Q r_5 S a)))) ∧ (¬ x1 ≤ x3 → wp_X5_passDay (S 5) (S 1) (fun r_6 s_7 s_8 => ∀ S_9 : Nat → CS, S_9 = va_up (va_up S 5 s_7) 1 s_8 → ∀ x3_10 : Int32, x3_10 = x3 + (1 : Int32) → G35 (x1, x2, x3_10, S_9, a))))
def B_X6_ahead_35 (Z : Nat → Nat → Nat) (Y : Nat → Nat → Nat) (x1 : Int32) (x2 : Int32) (x3 : Int32) (S : Nat → CS) (a : AS) (Q : Int32 → (Nat → CS) → AS → Prop) : Prop := LOOP (fun (G35 : (Int32 × Int32 × Int32 × (Nat → CS) × AS) → Prop) z => LB_X6_ahead_35 G35 Z Y z.1 z.2.1 z.2.2.1 z.2.2.2.1 z.2.2.2.2 Q) (x1, x2, x3, S, a)
def wp_X6_ahead (p0 : Int32) (p1 : Int32) (Z : Nat → Nat → Nat) (Y : Nat → Nat → Nat) (S : Nat → CS) (a : AS) (Q : Int32 → (Nat → CS) → AS → Prop) : Prop := ((p0 < 0 → Q (-2 : Int32) S a) ∧ (¬ p0 < 0 → (((20 : Int32) < p0 → Q (-2 : Int32) S a) ∧ (¬ (20 : Int32) < p0 → ((p1 < 0 → Q (-2 : Int32) S a) ∧ (¬ p1 < 0 → ((p1 ≤ (1 : Int32) → wp_X5_copyFrom (S 5) (S 4) (fun s_15 s_16 => ∀ S_17 : Nat → CS, S_17 = va_up (va_up S 5 s_15) 4 s_16 → B_X6_ahead_35 Z Y p0 p1 (0 : Int32) S_17 a Q)) ∧ (¬ p1 ≤ (1 : Int32) → Q (-2 : Int32) S a))))))))
set_option maxHeartbeats 4000000 in
set_option maxRecDepth 100000 in
theorem c_X6_ahead (l : Launch) (D : va_G) (cI cZ cW : ClassId) (Z : Nat → Nat → Nat) (Y : Nat → Nat → Nat) (sz : Nat) (p0 : Int32) (p1 : Int32) (S : Nat → CS) (a : AS) (Q : Int32 → (Nat → CS) → AS → Prop) (hf : wp_X6_ahead p0 p1 Z Y S a Q) : Met l yX6_ahead (wsA yX6_ahead cX6_ahead 4 (some .int)) ({ frames := 5, cells := 0, slots := 0, locals := 115 }) (PW D cI cZ cW [.ref (Z 0 0), .int p0, .int p1] (XW cI cZ cW Z Y (Z 1 0) (Z 2 0) S a) sz) (va_Qi (fun (r : Int32) (u : (Nat → CS) × AS) => Q r u.1 u.2) (fun u t => va_P D classes (XW cI cZ cW Z Y (Z 1 0) (Z 2 0) u.1 u.2) t.heap) (va_A (XW cI cZ cW Z Y (Z 1 0) (Z 2 0) S a) sz)) 0 0 (va_A (XW cI cZ cW Z Y (Z 1 0) (Z 2 0) S a) sz) := by
  refine Met.ofW (cc := cX6_ahead) (maxL := 4) (ret := (some .int)) (by decide) rfl ?_
  intro p e s m args below meth c s₁ B hml hv
  obtain ⟨rfl, hsz, hP, hK, hD0⟩ := hv
  have hx := B.exec
  have hb := B.bytes
  have hr := B.returns
  have hts := atoms_spec (ws := (wsA yX6_ahead cX6_ahead 4 (some .int))) B.pre
  have ht : ∀ w ∈ lw_g, w.before _ s = true := fun w h => hts w (List.mem_cons_of_mem _ h)
  have hown : s.vm.findClass RX6 = some m.cls := findClass_of_methodNamed B.named
  have hlocks := B.notSynchronized
  subst hsz
  have hD := hD0.self (sz := s.heap.size)
  generalize hAe : va_A (XW cI cZ cW Z Y (Z 1 0) (Z 2 0) S a) s.heap.size = A at hD ⊢
  have hA : ∀ q : Nat, s.heap.size ≤ q → A q := fun q h => by rw [← hAe]; exact Or.inr h
  have hS : va_S A s.heap s.heap [] := va_S.rf
  have hDk : ∀ (x : Nat → CS) (y : AS), va_D A (XW cI cZ cW Z Y (Z 1 0) (Z 2 0) x y) := fun x y => D_X hD
  have hl := lv_entry ([.ref (Z 0 0), .int p0, .int p1]) (n := 4) (Nat.le_of_ble_eq_true rfl)
  rw [lg_entry_eq]
  generalize (lg_sl ([.ref (Z 0 0), .int p0, .int p1]) ++ List.replicate (4 - (lg_sl ([.ref (Z 0 0), .int p0, .int p1])).length) Slot.unset).toArray = ls at hl ⊢
  have hl : lv_has ls 4 [(0, .ref (Z 0 0)), (1, .int p0), (2, .int p1)] := hl
  unfold wp_X6_ahead at hf
  have k_35 : ∀ (x1 : Int32) (x2 : Int32) (x3 : Int32) (S : Nat → CS) (a : AS) (H : Heap) (locs : List Loc) (ls : Array Slot), B_X6_ahead_35 Z Y x1 x2 x3 S a Q → va_P D classes (XW cI cZ cW Z Y (Z 1 0) (Z 2 0) S a) H → va_D A (XW cI cZ cW Z Y (Z 1 0) (Z 2 0) S a) → va_S A s.heap H locs → lv_has ls 4 [(0, .ref (Z 0 0)), (1, .int x1), (2, .int x2), (3, .int x3)] → W p l e (headSpec (wsA yX6_ahead cX6_ahead 4 (some .int)) ({ frames := 5, cells := 0, slots := 0, locals := 115 })).room s m (#[.ref (Z 0 0), .int p0, .int p1] : Array Value) below meth c H locs 0 0 (MQ below (va_Qi (fun (r : Int32) (u : (Nat → CS) × AS) => Q r u.1 u.2) (fun u t => va_P D classes (XW cI cZ cW Z Y (Z 1 0) (Z 2 0) u.1 u.2) t.heap) A) (#[.ref (Z 0 0), .int p0, .int p1] : Array Value) s 0 0 A) (F0 m 35 ls []) := by
    intro x1 x2 x3 S a H locs ls hf hP hD hS hl
    unfold B_X6_ahead_35 at hf
    obtain ⟨I_35, ⟨n0_35, hI0_35⟩, hst_35⟩ := hf
    have main_35 : ∀ (n : Nat) (x1 : Int32) (x2 : Int32) (x3 : Int32) (S : Nat → CS) (a : AS) (H : Heap) (locs : List Loc) (ls : Array Slot), I_35 n (x1, x2, x3, S, a) → va_P D classes (XW cI cZ cW Z Y (Z 1 0) (Z 2 0) S a) H → va_D A (XW cI cZ cW Z Y (Z 1 0) (Z 2 0) S a) → va_S A s.heap H locs → lv_has ls 4 [(0, .ref (Z 0 0)), (1, .int x1), (2, .int x2), (3, .int x3)] → W p l e (headSpec (wsA yX6_ahead cX6_ahead 4 (some .int)) ({ frames := 5, cells := 0, slots := 0, locals := 115 })).room s m (#[.ref (Z 0 0), .int p0, .int p1] : Array Value) below meth c H locs 0 0 (MQ below (va_Qi (fun (r : Int32) (u : (Nat → CS) × AS) => Q r u.1 u.2) (fun u t => va_P D classes (XW cI cZ cW Z Y (Z 1 0) (Z 2 0) u.1 u.2) t.heap) A) (#[.ref (Z 0 0), .int p0, .int p1] : Array Value) s 0 0 A) (F0 m 35 ls []) := by
      intro n
      induction n using Nat.strongRecOn with
      | _ n_35 ih_35 =>
      intro x1 x2 x3 S a H locs ls hI hP hD hS hl
      have hf : LB_X6_ahead_35 (fun z => ∃ k, k < n_35 ∧ I_35 k z) Z Y x1 x2 x3 S a Q := hst_35 n_35 (x1, x2, x3, S, a) hI
      have hG_35 : ∀ (x1 : Int32) (x2 : Int32) (x3 : Int32) (S : Nat → CS) (a : AS) (H : Heap) (locs : List Loc) (ls : Array Slot), (∃ k, k < n_35 ∧ I_35 k (x1, x2, x3, S, a)) → va_P D classes (XW cI cZ cW Z Y (Z 1 0) (Z 2 0) S a) H → va_D A (XW cI cZ cW Z Y (Z 1 0) (Z 2 0) S a) → va_S A s.heap H locs → lv_has ls 4 [(0, .ref (Z 0 0)), (1, .int x1), (2, .int x2), (3, .int x3)] → W p l e (headSpec (wsA yX6_ahead cX6_ahead 4 (some .int)) ({ frames := 5, cells := 0, slots := 0, locals := 115 })).room s m (#[.ref (Z 0 0), .int p0, .int p1] : Array Value) below meth c H locs 0 0 (MQ below (va_Qi (fun (r : Int32) (u : (Nat → CS) × AS) => Q r u.1 u.2) (fun u t => va_P D classes (XW cI cZ cW Z Y (Z 1 0) (Z 2 0) u.1 u.2) t.heap) A) (#[.ref (Z 0 0), .int p0, .int p1] : Array Value) s 0 0 A) (F0 m 35 ls []) := by
        rintro x1 x2 x3 S a H locs ls ⟨k, hk, hI⟩ hP hD hS hl
        exact ih_35 k hk x1 x2 x3 S a H locs ls hI hP hD hS hl
      unfold LB_X6_ahead_35 at hf
      refine lv_iload_n hx hb dX6_ahead_35 rfl (lv_at hl 3 rfl) ?_
      refine lv_iload_n hx hb dX6_ahead_36 rfl (lv_at hl 1 rfl) ?_
      refine lv_icmp_ge (tgt := 58) hx hb dX6_ahead_37 (by decide) (fun c_1 => ?_) (fun c_1 => ?_)
      · have hf := hf.1 c_1
        refine lv_iload_n hx hb dX6_ahead_58 rfl (lv_at hl 2 rfl) ?_
        refine lv_if_ne (tgt := 72) hx hb dX6_ahead_59 (by decide) (fun c_2 => ?_) (fun c_2 => ?_)
        · have hf := hf.1 c_2
          refine lv_aload_n hx hb dX6_ahead_72 rfl (lv_at hl 0 rfl) ?_
          refine va_get (D := D) (ci := 4) (v := .ref (Z 5 0)) (C := RX6) (T := TX6) (N := 12) hx hb ht inX6 hown hK hP 0 eX_0 rfl 6 (by decide) (ht _ tw_159) (fun _ h9 => h9) rfl dX6_ahead_73 ?_
          have hPc : va_P D classes (wW cI cZ (Z 5) (S 5)) H := XP_5 hP
          refine vp_callSi (W.runV (As := []) (rest := []) ⟨hx, hb, hml, hown, hts⟩ (c_X5_pasteCells l D cI cZ cW (Z 5) (S 5) _ hf) ⟨callB_of 0 hts (gA tw_296) rfl rfl rfl (ht _ tw_4) (ht _ tw_511) hd_X5_pasteCells ⟨Nat.le_of_ble_eq_true rfl, Nat.le_of_ble_eq_true rfl⟩, ht _ tw_294, ht _ tw_295⟩ ⟨PR_blind, va_recv hK hP (ci := 3) (q0 := 26) rfl eX_26, fun U hU hW => PR_mk hPc hK hU hW⟩ rfl rfl hl.1 rfl (lv_room (Nat.le_of_ble_eq_true rfl)) dX6_ahead_76 ⟨Nat.zero_le _, Nat.zero_le _⟩) (fun r_3 hf => ?_)
          have hPc : va_P D classes ([] : va_W) H := fun k q h => by simp at h
          refine vp_callSi (W.runS (As := [.int r_3]) (rest := []) ⟨hx, hb, hml, hown, hts⟩ (c_J6_bitCount_0f7a4 l D cI cZ cW  r_3 _ hf) ⟨callB_of 1 hts (gA tw_305) rfl rfl rfl (ht _ tw_10) (ht _ tw_303) hd_J6_bitCount_0f7a4 ⟨Nat.le_of_ble_eq_true rfl, Nat.le_of_ble_eq_true rfl⟩, ht _ tw_304⟩ ⟨PR_blind, fun U hU hW => PR_mk hPc hK hU hW⟩ rfl rfl hl.1 rfl (lv_room (Nat.le_of_ble_eq_true rfl)) dX6_ahead_79 ⟨Nat.zero_le _, Nat.zero_le _⟩) (fun r_4 hf => ?_)
          exact W.iret (v := r_4) hx hb hr (fun t ht hW => ⟨⟨r_4, (S, a), rfl, hf, P_heap ht hP⟩, hS.F ht⟩) hS.2.2 dX6_ahead_82
        · have hf := hf.2 c_2
          refine lv_aload_n hx hb dX6_ahead_62 rfl (lv_at hl 0 rfl) ?_
          refine va_get (D := D) (ci := 4) (v := .ref (Z 5 0)) (C := RX6) (T := TX6) (N := 12) hx hb ht inX6 hown hK hP 0 eX_0 rfl 6 (by decide) (ht _ tw_159) (fun _ h9 => h9) rfl dX6_ahead_63 ?_
          have hPc : va_P D classes (wW cI cZ (Z 5) (S 5)) H := XP_5 hP
          refine vp_callSi (W.runV (As := []) (rest := []) ⟨hx, hb, hml, hown, hts⟩ (c_X5_holesLeft l D cI cZ cW (Z 5) (S 5) _ hf) ⟨callB_of 0 hts (gA tw_510) rfl rfl rfl (ht _ tw_4) (ht _ tw_507) hd_X5_holesLeft ⟨Nat.le_of_ble_eq_true rfl, Nat.le_of_ble_eq_true rfl⟩, ht _ tw_508, ht _ tw_509⟩ ⟨PR_blind, va_recv hK hP (ci := 3) (q0 := 26) rfl eX_26, fun U hU hW => PR_mk hPc hK hU hW⟩ rfl rfl hl.1 rfl (lv_room (Nat.le_of_ble_eq_true rfl)) dX6_ahead_66 ⟨Nat.zero_le _, Nat.zero_le _⟩) (fun r_5 hf => ?_)
          refine lv_goto (tgt := 82) hx hb dX6_ahead_69 (by decide) ?_
          exact W.iret (v := r_5) hx hb hr (fun t ht hW => ⟨⟨r_5, (S, a), rfl, hf, P_heap ht hP⟩, hS.F ht⟩) hS.2.2 dX6_ahead_82
      · have hf := hf.2 c_1
        refine lv_aload_n hx hb dX6_ahead_40 rfl (lv_at hl 0 rfl) ?_
        refine va_get (D := D) (ci := 4) (v := .ref (Z 5 0)) (C := RX6) (T := TX6) (N := 12) hx hb ht inX6 hown hK hP 0 eX_0 rfl 6 (by decide) (ht _ tw_159) (fun _ h9 => h9) rfl dX6_ahead_41 ?_
        refine lv_aload_n hx hb dX6_ahead_44 rfl (lv_at hl 0 rfl) ?_
        refine va_get (D := D) (ci := 4) (v := .ref (Z 1 0)) (C := RX6) (T := TX6) (N := 12) hx hb ht inX6 hown hK hP 0 eX_0 rfl 2 (by decide) (ht _ tw_155) (fun _ h9 => h9) rfl dX6_ahead_45 ?_
        have hPc : va_P D classes (wW cI cZ (Z 5) (S 5) ++ wD cI cZ (Z 1) (S 1)) H := XP_5_1 hP
        have hDc : va_D A (wW cI cZ (Z 5) (S 5) ++ wD cI cZ (Z 1) (S 1)) := XD_5_1 hD
        have hFc := va_freeX hDc hS hA
        refine va_calli (va_runV (As := [.ref (Z 1 0)]) (rest := []) ⟨hx, hb, hml, hown, hts⟩ (c_X5_passDay l D cI cZ cW (Z 5) (Z 1) H.size (S 5) (S 1) _ hf) ⟨callB_of 1 hts (gA tw_369) rfl rfl rfl (ht _ tw_4) (ht _ tw_366) hd_X5_passDay ⟨Nat.le_of_ble_eq_true rfl, Nat.le_of_ble_eq_true rfl⟩, ht _ tw_367, ht _ tw_368⟩ ⟨PW_blind, va_recv hK hP (ci := 3) (q0 := 26) rfl eX_26, fun U hU hW => PW_mk hPc hDc hK hU hW⟩ rfl rfl hl.1 rfl (lv_room (Nat.le_of_ble_eq_true rfl)) dX6_ahead_48 ⟨Nat.zero_le _, Nat.zero_le _⟩) hS (fun q _ h => hFc q h) hFc (fun r_6 u t H1 locs ht1 hvm hf hB hz1 hk1 hS => ?_)
        obtain ⟨s_7, s_8⟩ := u
        dsimp only at hf hB
        rw [ht1] at hB
        have hP := XJ_5_1 hP hD hk1 hB
        generalize H1 = H at hP hS ⊢
        obtain ⟨S_9, eS_9⟩ : ∃ y : Nat → CS, y = va_up (va_up S 5 s_7) 1 s_8 := ⟨_, rfl⟩
        have hf := hf S_9 eS_9
        have hP : va_P D classes (XW cI cZ cW Z Y (Z 1 0) (Z 2 0) S_9 a) H := by rw [eS_9]; exact hP
        have hD := hDk S_9 a
        refine lv_pop hx hb dX6_ahead_51 rfl ?_
        obtain ⟨x3_10, ex3_10⟩ : ∃ y : Int32, y = x3 + (1 : Int32) := ⟨_, rfl⟩
        have hf := hf x3_10 ex3_10
        refine lv_iinc (v := x3_10) (lv' := [(3, .int x3_10), (0, .ref (Z 0 0)), (1, .int x1), (2, .int x2)]) hx hb dX6_ahead_52 hl (k := 3) rfl (by rw [ex3_10]; rfl) (by decide) rfl (fun ls hl => ?_)
        refine lv_goto (tgt := 35) hx hb dX6_ahead_55 (by decide) ?_
        exact hG_35 x1 x2 x3_10 S_9 a H locs ls hf hP hD hS (lv_sub hl [1, 2, 3, 0] rfl)
    exact main_35 n0_35 x1 x2 x3 S a H locs ls hI0_35 hP hD hS hl
  have start : ∀ (H : Heap) (locs : List Loc), va_P D classes (XW cI cZ cW Z Y (Z 1 0) (Z 2 0) S a) H → va_D A (XW cI cZ cW Z Y (Z 1 0) (Z 2 0) S a) → va_S A s.heap H locs → W p l e (headSpec (wsA yX6_ahead cX6_ahead 4 (some .int)) ({ frames := 5, cells := 0, slots := 0, locals := 115 })).room s m (#[.ref (Z 0 0), .int p0, .int p1] : Array Value) below meth c H locs 0 0 (MQ below (va_Qi (fun (r : Int32) (u : (Nat → CS) × AS) => Q r u.1 u.2) (fun u t => va_P D classes (XW cI cZ cW Z Y (Z 1 0) (Z 2 0) u.1 u.2) t.heap) A) (#[.ref (Z 0 0), .int p0, .int p1] : Array Value) s 0 0 A) (F0 m 0 ls []) := by
    intro H locs hP hD hS
    refine lv_iload_n hx hb dX6_ahead_0 rfl (lv_at hl 1 rfl) ?_
    refine lv_if_lt (tgt := 19) hx hb dX6_ahead_1 (by decide) (fun c_11 => ?_) (fun c_11 => ?_)
    · have hf := hf.1 c_11
      refine lv_bipush (v := (-2 : Int32)) hx hb dX6_ahead_19 (by decide) ?_
      exact W.iret (v := (-2 : Int32)) hx hb hr (fun t ht hW => ⟨⟨(-2 : Int32), (S, a), rfl, hf, P_heap ht hP⟩, hS.F ht⟩) hS.2.2 dX6_ahead_21
    · have hf := hf.2 c_11
      refine lv_iload_n hx hb dX6_ahead_4 rfl (lv_at hl 1 rfl) ?_
      refine lv_bipush (v := (20 : Int32)) hx hb dX6_ahead_5 (by decide) ?_
      refine lv_icmp_gt (tgt := 19) hx hb dX6_ahead_7 (by decide) (fun c_12 => ?_) (fun c_12 => ?_)
      · have hf := hf.1 c_12
        refine lv_bipush (v := (-2 : Int32)) hx hb dX6_ahead_19 (by decide) ?_
        exact W.iret (v := (-2 : Int32)) hx hb hr (fun t ht hW => ⟨⟨(-2 : Int32), (S, a), rfl, hf, P_heap ht hP⟩, hS.F ht⟩) hS.2.2 dX6_ahead_21
      · have hf := hf.2 c_12
        refine lv_iload_n hx hb dX6_ahead_10 rfl (lv_at hl 2 rfl) ?_
        refine lv_if_lt (tgt := 19) hx hb dX6_ahead_11 (by decide) (fun c_13 => ?_) (fun c_13 => ?_)
        · have hf := hf.1 c_13
          refine lv_bipush (v := (-2 : Int32)) hx hb dX6_ahead_19 (by decide) ?_
          exact W.iret (v := (-2 : Int32)) hx hb hr (fun t ht hW => ⟨⟨(-2 : Int32), (S, a), rfl, hf, P_heap ht hP⟩, hS.F ht⟩) hS.2.2 dX6_ahead_21
        · have hf := hf.2 c_13
          refine lv_iload_n hx hb dX6_ahead_14 rfl (lv_at hl 2 rfl) ?_
          refine lv_iconst (v := (1 : Int32)) hx hb dX6_ahead_15 (by decide) ?_
          refine lv_icmp_le (tgt := 22) hx hb dX6_ahead_16 (by decide) (fun c_14 => ?_) (fun c_14 => ?_)
          · have hf := hf.1 c_14
            refine lv_aload_n hx hb dX6_ahead_22 rfl (lv_at hl 0 rfl) ?_
            refine va_get (D := D) (ci := 4) (v := .ref (Z 5 0)) (C := RX6) (T := TX6) (N := 12) hx hb ht inX6 hown hK hP 0 eX_0 rfl 6 (by decide) (ht _ tw_159) (fun _ h9 => h9) rfl dX6_ahead_23 ?_
            refine lv_aload_n hx hb dX6_ahead_26 rfl (lv_at hl 0 rfl) ?_
            refine va_get (D := D) (ci := 4) (v := .ref (Z 4 0)) (C := RX6) (T := TX6) (N := 12) hx hb ht inX6 hown hK hP 0 eX_0 rfl 5 (by decide) (ht _ tw_158) (fun _ h9 => h9) rfl dX6_ahead_27 ?_
            have hPc : va_P D classes (wW cI cZ (Z 5) (S 5) ++ wW cI cZ (Z 4) (S 4)) H := XP_5_4 hP
            have hDc : va_D A (wW cI cZ (Z 5) (S 5) ++ wW cI cZ (Z 4) (S 4)) := XD_5_4 hD
            have hFc := va_freeX hDc hS hA
            refine va_callv (va_runV (As := [.ref (Z 4 0)]) (rest := []) ⟨hx, hb, hml, hown, hts⟩ (c_X5_copyFrom l D cI cZ cW (Z 5) (Z 4) H.size (S 5) (S 4) _ hf) ⟨callB_of 1 hts (gA tw_362) rfl rfl rfl (ht _ tw_4) (ht _ tw_501) hd_X5_copyFrom ⟨Nat.le_of_ble_eq_true rfl, Nat.le_of_ble_eq_true rfl⟩, ht _ tw_360, ht _ tw_361⟩ ⟨PW_blind, va_recv hK hP (ci := 3) (q0 := 26) rfl eX_26, fun U hU hW => PW_mk hPc hDc hK hU hW⟩ rfl rfl hl.1 rfl (lv_room (Nat.le_of_ble_eq_true rfl)) dX6_ahead_30 ⟨Nat.zero_le _, Nat.zero_le _⟩) hS (fun q _ h => hFc q h) hFc (fun u t H1 locs ht1 hvm hf hB hz1 hk1 hS => ?_)
            obtain ⟨s_15, s_16⟩ := u
            dsimp only at hf hB
            rw [ht1] at hB
            have hP := XJ_5_4 hP hD hk1 hB
            generalize H1 = H at hP hS ⊢
            obtain ⟨S_17, eS_17⟩ : ∃ y : Nat → CS, y = va_up (va_up S 5 s_15) 4 s_16 := ⟨_, rfl⟩
            have hf := hf S_17 eS_17
            have hP : va_P D classes (XW cI cZ cW Z Y (Z 1 0) (Z 2 0) S_17 a) H := by rw [eS_17]; exact hP
            have hD := hDk S_17 a
            refine lv_iconst (v := (0 : Int32)) hx hb dX6_ahead_33 (by decide) ?_
            refine lv_istore_n (lv' := [(3, .int (0 : Int32)), (0, .ref (Z 0 0)), (1, .int p0), (2, .int p1)]) hx hb dX6_ahead_34 rfl hl (by decide) rfl (fun ls hl => ?_)
            exact k_35 p0 p1 (0 : Int32) S_17 a H locs ls hf hP hD hS (lv_sub hl [1, 2, 3, 0] rfl)
          · have hf := hf.2 c_14
            refine lv_bipush (v := (-2 : Int32)) hx hb dX6_ahead_19 (by decide) ?_
            exact W.iret (v := (-2 : Int32)) hx hb hr (fun t ht hW => ⟨⟨(-2 : Int32), (S, a), rfl, hf, P_heap ht hP⟩, hS.F ht⟩) hS.2.2 dX6_ahead_21
  exact start s.heap [] hP hD hS
def B_X6_cut_131 (G82 : (Int32 × Int32 × Int32 × Int32 × Int32 × Int32) → Prop) (Z : Nat → Nat → Nat) (Y : Nat → Nat → Nat) (S : Nat → CS) (a : AS) (x3 : Int32) (x4 : Int32) (x5 : Int32) (x6 : Int32) (x7 : Int32) (x8 : Int32) (Q : Int32 → Prop) : Prop := ∀ x8_1 : Int32, x8_1 = x8 + (1 : Int32) → G82 (x3, x4, x5, x6, x7, x8_1)
def LB_X6_cut_82 (G82 : (Int32 × Int32 × Int32 × Int32 × Int32 × Int32) → Prop) (Z : Nat → Nat → Nat) (Y : Nat → Nat → Nat) (S : Nat → CS) (a : AS) (x3 : Int32) (x4 : Int32) (x5 : Int32) (x6 : Int32) (x7 : Int32) (x8 : Int32) (Q : Int32 → Prop) : Prop := (((5 : Int32) ≤ x8 → ((¬ x3 = 0 → Q x7) ∧ (x3 = 0 → Q x6))) ∧ (¬ (5 : Int32) ≤ x8 → wp_X2_cellsLeftOf x8 (fun r_4 => wp_J6_bitCount_0f7a4 (x4 &&& r_4) (fun r_5 => wp_J6_bitCount_0f7a4 (x5 &&& (r_4 ^^^ (-1 : Int32))) (fun r_6 => ∀ x10_7 : Int32, x10_7 = (r_5 + r_6) → ((x10_7 ≤ x7 → B_X6_cut_131 G82 Z Y S a x3 x4 x5 x6 x7 x8 Q) ∧ (¬ x10_7 ≤ x7 → B_X6_cut_131 G82 Z Y S a x3 x4 x5 x8 x10_7 x8 Q)))))))
def B_X6_cut_82 (Z : Nat → Nat → Nat) (Y : Nat → Nat → Nat) (S : Nat → CS) (a : AS) (x3 : Int32) (x4 : Int32) (x5 : Int32) (x6 : Int32) (x7 : Int32) (x8 : Int32) (Q : Int32 → Prop) : Prop := LOOP (fun (G82 : (Int32 × Int32 × Int32 × Int32 × Int32 × Int32) → Prop) z => LB_X6_cut_82 G82 Z Y S a z.1 z.2.1 z.2.2.1 z.2.2.2.1 z.2.2.2.2.1 z.2.2.2.2.2 Q) (x3, x4, x5, x6, x7, x8)
def wp_X6_cut (p0 : Int32) (p1 : Int32) (p2 : Int32) (Z : Nat → Nat → Nat) (Y : Nat → Nat → Nat) (S : Nat → CS) (a : AS) (Q : Int32 → Prop) : Prop := wp_X1_hasOwner p0 (S 1) (fun r_9 => ((r_9 = 0 → Q (-1 : Int32)) ∧ (¬ r_9 = 0 → wp_X1_hasOwner p1 (S 1) (fun r_11 => ((¬ r_11 = 0 → ((p0 = p1 → Q (-2 : Int32)) ∧ (¬ p0 = p1 → ((p2 < 0 → Q (-2 : Int32)) ∧ (¬ p2 < 0 → ((p2 ≤ (1 : Int32) → wp_X5_ownedBy ((1 : Int32) <<< (p0 &&& 31)) (S 4) (S 1) (fun r_16 => wp_X5_ownedBy ((1 : Int32) <<< (p1 &&& 31)) (S 4) (S 1) (fun r_17 => B_X6_cut_82 Z Y S a p2 r_16 r_17 (1 : Int32) (-1 : Int32) (1 : Int32) Q))) ∧ (¬ p2 ≤ (1 : Int32) → Q (-2 : Int32)))))))) ∧ (r_11 = 0 → Q (-1 : Int32)))))))
set_option maxHeartbeats 4000000 in
set_option maxRecDepth 100000 in
theorem c_X6_cut (l : Launch) (D : va_G) (cI cZ cW : ClassId) (Z : Nat → Nat → Nat) (Y : Nat → Nat → Nat) (p0 : Int32) (p1 : Int32) (p2 : Int32) (S : Nat → CS) (a : AS) (Q : Int32 → Prop) (hf : wp_X6_cut p0 p1 p2 Z Y S a Q) : Met l yX6_cut (wsA yX6_cut cX6_cut 11 (some .int)) ({ frames := 3, cells := 0, slots := 0, locals := 70 }) (PR D cI cZ cW [.ref (Z 0 0), .int p0, .int p1, .int p2] (XW cI cZ cW Z Y (Z 1 0) (Z 2 0) S a)) (vp_Si Q) 0 0 (fun _ => False) := by
  refine Met.ofW (cc := cX6_cut) (maxL := 11) (ret := (some .int)) (by decide) rfl ?_
  intro p e s m args below meth c s₁ B hml hv
  obtain ⟨rfl, hP, hK⟩ := hv
  have hx := B.exec
  have hb := B.bytes
  have hr := B.returns
  have hts := atoms_spec (ws := (wsA yX6_cut cX6_cut 11 (some .int))) B.pre
  have ht : ∀ w ∈ lw_g, w.before _ s = true := fun w h => hts w (List.mem_cons_of_mem _ h)
  have hown : s.vm.findClass RX6 = some m.cls := findClass_of_methodNamed B.named
  have hlocks := B.notSynchronized
  have hl := lv_entry ([.ref (Z 0 0), .int p0, .int p1, .int p2]) (n := 11) (Nat.le_of_ble_eq_true rfl)
  rw [lg_entry_eq]
  generalize (lg_sl ([.ref (Z 0 0), .int p0, .int p1, .int p2]) ++ List.replicate (11 - (lg_sl ([.ref (Z 0 0), .int p0, .int p1, .int p2])).length) Slot.unset).toArray = ls at hl ⊢
  have hl : lv_has ls 11 [(0, .ref (Z 0 0)), (1, .int p0), (2, .int p1), (3, .int p2)] := hl
  unfold wp_X6_cut at hf
  have k_82 : ∀ (x3 : Int32) (x4 : Int32) (x5 : Int32) (x6 : Int32) (x7 : Int32) (x8 : Int32) (ls : Array Slot), B_X6_cut_82 Z Y S a x3 x4 x5 x6 x7 x8 Q → lv_has ls 11 [(3, .int x3), (4, .int x4), (5, .int x5), (6, .int x6), (7, .int x7), (8, .int x8)] → W p l e (headSpec (wsA yX6_cut cX6_cut 11 (some .int)) ({ frames := 3, cells := 0, slots := 0, locals := 70 })).room s m (#[.ref (Z 0 0), .int p0, .int p1, .int p2] : Array Value) below meth c s.heap [] 0 0 (MQ below (vp_Si Q) (#[.ref (Z 0 0), .int p0, .int p1, .int p2] : Array Value) s 0 0 (fun _ => False)) (F0 m 82 ls []) := by
    intro x3 x4 x5 x6 x7 x8 ls hf hl
    unfold B_X6_cut_82 at hf
    obtain ⟨I_82, ⟨n0_82, hI0_82⟩, hst_82⟩ := hf
    have main_82 : ∀ (n : Nat) (x3 : Int32) (x4 : Int32) (x5 : Int32) (x6 : Int32) (x7 : Int32) (x8 : Int32) (ls : Array Slot), I_82 n (x3, x4, x5, x6, x7, x8) → lv_has ls 11 [(3, .int x3), (4, .int x4), (5, .int x5), (6, .int x6), (7, .int x7), (8, .int x8)] → W p l e (headSpec (wsA yX6_cut cX6_cut 11 (some .int)) ({ frames := 3, cells := 0, slots := 0, locals := 70 })).room s m (#[.ref (Z 0 0), .int p0, .int p1, .int p2] : Array Value) below meth c s.heap [] 0 0 (MQ below (vp_Si Q) (#[.ref (Z 0 0), .int p0, .int p1, .int p2] : Array Value) s 0 0 (fun _ => False)) (F0 m 82 ls []) := by
      intro n
      induction n using Nat.strongRecOn with
      | _ n_82 ih_82 =>
      intro x3 x4 x5 x6 x7 x8 ls hI hl
      have hf : LB_X6_cut_82 (fun z => ∃ k, k < n_82 ∧ I_82 k z) Z Y S a x3 x4 x5 x6 x7 x8 Q := hst_82 n_82 (x3, x4, x5, x6, x7, x8) hI
      have hG_82 : ∀ (x3 : Int32) (x4 : Int32) (x5 : Int32) (x6 : Int32) (x7 : Int32) (x8 : Int32) (ls : Array Slot), (∃ k, k < n_82 ∧ I_82 k (x3, x4, x5, x6, x7, x8)) → lv_has ls 11 [(3, .int x3), (4, .int x4), (5, .int x5), (6, .int x6), (7, .int x7), (8, .int x8)] → W p l e (headSpec (wsA yX6_cut cX6_cut 11 (some .int)) ({ frames := 3, cells := 0, slots := 0, locals := 70 })).room s m (#[.ref (Z 0 0), .int p0, .int p1, .int p2] : Array Value) below meth c s.heap [] 0 0 (MQ below (vp_Si Q) (#[.ref (Z 0 0), .int p0, .int p1, .int p2] : Array Value) s 0 0 (fun _ => False)) (F0 m 82 ls []) := by
        rintro x3 x4 x5 x6 x7 x8 ls ⟨k, hk, hI⟩ hl
        exact ih_82 k hk x3 x4 x5 x6 x7 x8 ls hI hl
      unfold LB_X6_cut_82 at hf
      have k_131 : ∀ (x3 : Int32) (x4 : Int32) (x5 : Int32) (x6 : Int32) (x7 : Int32) (x8 : Int32) (ls : Array Slot), B_X6_cut_131 (fun z => ∃ k, k < n_82 ∧ I_82 k z) Z Y S a x3 x4 x5 x6 x7 x8 Q → lv_has ls 11 [(3, .int x3), (4, .int x4), (5, .int x5), (6, .int x6), (7, .int x7), (8, .int x8)] → W p l e (headSpec (wsA yX6_cut cX6_cut 11 (some .int)) ({ frames := 3, cells := 0, slots := 0, locals := 70 })).room s m (#[.ref (Z 0 0), .int p0, .int p1, .int p2] : Array Value) below meth c s.heap [] 0 0 (MQ below (vp_Si Q) (#[.ref (Z 0 0), .int p0, .int p1, .int p2] : Array Value) s 0 0 (fun _ => False)) (F0 m 131 ls []) := by
        intro x3 x4 x5 x6 x7 x8 ls hf hl
        unfold B_X6_cut_131 at hf
        obtain ⟨x8_1, ex8_1⟩ : ∃ y : Int32, y = x8 + (1 : Int32) := ⟨_, rfl⟩
        have hf := hf x8_1 ex8_1
        refine lv_iinc (v := x8_1) (lv' := [(8, .int x8_1), (3, .int x3), (4, .int x4), (5, .int x5), (6, .int x6), (7, .int x7)]) hx hb dX6_cut_131 hl (k := 5) rfl (by rw [ex8_1]; rfl) (by decide) rfl (fun ls hl => ?_)
        refine lv_goto (tgt := 82) hx hb dX6_cut_134 (by decide) ?_
        exact hG_82 x3 x4 x5 x6 x7 x8_1 ls hf (lv_sub hl [1, 2, 3, 4, 5, 0] rfl)
      refine lv_iload hx hb dX6_cut_82 (lv_at hl 5 rfl) ?_
      refine lv_iconst (v := (5 : Int32)) hx hb dX6_cut_84 (by decide) ?_
      refine lv_icmp_ge (tgt := 137) hx hb dX6_cut_85 (by decide) (fun c_2 => ?_) (fun c_2 => ?_)
      · have hf := hf.1 c_2
        refine lv_iload_n hx hb dX6_cut_137 rfl (lv_at hl 0 rfl) ?_
        refine lv_if_ne (tgt := 146) hx hb dX6_cut_138 (by decide) (fun c_3 => ?_) (fun c_3 => ?_)
        · have hf := hf.1 c_3
          refine lv_iload hx hb dX6_cut_146 (lv_at hl 4 rfl) ?_
          exact W.iret (v := x7) hx hb hr (fun t ht hW => ⟨x7, rfl, hf, ht⟩) (fun q h => absurd h List.not_mem_nil) dX6_cut_148
        · have hf := hf.2 c_3
          refine lv_iload hx hb dX6_cut_141 (lv_at hl 3 rfl) ?_
          refine lv_goto (tgt := 148) hx hb dX6_cut_143 (by decide) ?_
          exact W.iret (v := x6) hx hb hr (fun t ht hW => ⟨x6, rfl, hf, ht⟩) (fun q h => absurd h List.not_mem_nil) dX6_cut_148
      · have hf := hf.2 c_2
        refine lv_iload hx hb dX6_cut_88 (lv_at hl 5 rfl) ?_
        have hPc : va_P D classes ([] : va_W) s.heap := fun k q h => by simp at h
        refine vp_callSi (W.runS (As := [.int x8]) (rest := []) ⟨hx, hb, hml, hown, hts⟩ (c_X2_cellsLeftOf l D cI cZ cW  x8 _ hf) ⟨callB_of 1 hts (gA tw_518) rfl rfl rfl (ht _ tw_9) (ht _ tw_516) hd_X2_cellsLeftOf ⟨Nat.le_of_ble_eq_true rfl, Nat.le_of_ble_eq_true rfl⟩, ht _ tw_517⟩ ⟨PR_blind, fun U hU hW => PR_mk hPc hK hU hW⟩ rfl rfl hl.1 rfl (lv_room (Nat.le_of_ble_eq_true rfl)) dX6_cut_90 ⟨Nat.zero_le _, Nat.zero_le _⟩) (fun r_4 hf => ?_)
        refine lv_istore (lv' := [(9, .int r_4), (3, .int x3), (4, .int x4), (5, .int x5), (6, .int x6), (7, .int x7), (8, .int x8)]) hx hb dX6_cut_93 hl (by decide) rfl (fun ls hl => ?_)
        refine lv_iload hx hb dX6_cut_95 (lv_at hl 2 rfl) ?_
        refine lv_iload hx hb dX6_cut_97 (lv_at hl 0 rfl) ?_
        refine lv_iand hx hb dX6_cut_99 ?_
        have hPc : va_P D classes ([] : va_W) s.heap := fun k q h => by simp at h
        refine vp_callSi (W.runS (As := [.int (x4 &&& r_4)]) (rest := []) ⟨hx, hb, hml, hown, hts⟩ (c_J6_bitCount_0f7a4 l D cI cZ cW  (x4 &&& r_4) _ hf) ⟨callB_of 1 hts (gA tw_305) rfl rfl rfl (ht _ tw_10) (ht _ tw_303) hd_J6_bitCount_0f7a4 ⟨Nat.le_of_ble_eq_true rfl, Nat.le_of_ble_eq_true rfl⟩, ht _ tw_304⟩ ⟨PR_blind, fun U hU hW => PR_mk hPc hK hU hW⟩ rfl rfl hl.1 rfl (lv_room (Nat.le_of_ble_eq_true rfl)) dX6_cut_100 ⟨Nat.zero_le _, Nat.zero_le _⟩) (fun r_5 hf => ?_)
        refine lv_iload hx hb dX6_cut_103 (lv_at hl 3 rfl) ?_
        refine lv_iload hx hb dX6_cut_105 (lv_at hl 0 rfl) ?_
        refine lv_iconst (v := (-1 : Int32)) hx hb dX6_cut_107 (by decide) ?_
        refine lv_ixor hx hb dX6_cut_108 ?_
        refine lv_iand hx hb dX6_cut_109 ?_
        have hPc : va_P D classes ([] : va_W) s.heap := fun k q h => by simp at h
        refine vp_callSi (W.runS (As := [.int (x5 &&& (r_4 ^^^ (-1 : Int32)))]) (rest := [.int r_5]) ⟨hx, hb, hml, hown, hts⟩ (c_J6_bitCount_0f7a4 l D cI cZ cW  (x5 &&& (r_4 ^^^ (-1 : Int32))) _ hf) ⟨callB_of 1 hts (gA tw_305) rfl rfl rfl (ht _ tw_10) (ht _ tw_303) hd_J6_bitCount_0f7a4 ⟨Nat.le_of_ble_eq_true rfl, Nat.le_of_ble_eq_true rfl⟩, ht _ tw_304⟩ ⟨PR_blind, fun U hU hW => PR_mk hPc hK hU hW⟩ rfl rfl hl.1 rfl (lv_room (Nat.le_of_ble_eq_true rfl)) dX6_cut_110 ⟨Nat.zero_le _, Nat.zero_le _⟩) (fun r_6 hf => ?_)
        refine lv_iadd hx hb dX6_cut_113 ?_
        refine lv_topi (fun x10_7 ex10_7 => ?_)
        have hf := hf x10_7 ex10_7
        refine lv_istore (lv' := [(10, .int x10_7), (9, .int r_4), (3, .int x3), (4, .int x4), (5, .int x5), (6, .int x6), (7, .int x7), (8, .int x8)]) hx hb dX6_cut_114 hl (by decide) rfl (fun ls hl => ?_)
        refine lv_iload hx hb dX6_cut_116 (lv_at hl 0 rfl) ?_
        refine lv_iload hx hb dX6_cut_118 (lv_at hl 6 rfl) ?_
        refine lv_icmp_le (tgt := 131) hx hb dX6_cut_120 (by decide) (fun c_8 => ?_) (fun c_8 => ?_)
        · have hf := hf.1 c_8
          exact k_131 x3 x4 x5 x6 x7 x8 ls hf (lv_sub hl [2, 3, 4, 5, 6, 7] rfl)
        · have hf := hf.2 c_8
          refine lv_iload hx hb dX6_cut_123 (lv_at hl 0 rfl) ?_
          refine lv_istore (lv' := [(7, .int x10_7), (10, .int x10_7), (9, .int r_4), (3, .int x3), (4, .int x4), (5, .int x5), (6, .int x6), (8, .int x8)]) hx hb dX6_cut_125 hl (by decide) rfl (fun ls hl => ?_)
          refine lv_iload hx hb dX6_cut_127 (lv_at hl 7 rfl) ?_
          refine lv_istore (lv' := [(6, .int x8), (7, .int x10_7), (10, .int x10_7), (9, .int r_4), (3, .int x3), (4, .int x4), (5, .int x5), (8, .int x8)]) hx hb dX6_cut_129 hl (by decide) rfl (fun ls hl => ?_)
          exact k_131 x3 x4 x5 x8 x10_7 x8 ls hf (lv_sub hl [4, 5, 6, 0, 1, 7] rfl)
    exact main_82 n0_82 x3 x4 x5 x6 x7 x8 ls hI0_82 hl
  refine lv_aload_n hx hb dX6_cut_0 rfl (lv_at hl 0 rfl) ?_
  refine va_get (D := D) (ci := 4) (v := .ref (Z 1 0)) (C := RX6) (T := TX6) (N := 12) hx hb ht inX6 hown hK hP 0 eX_0 rfl 2 (by decide) (ht _ tw_155) (fun _ h9 => h9) rfl dX6_cut_1 ?_
  refine lv_iload_n hx hb dX6_cut_4 rfl (lv_at hl 1 rfl) ?_
  have hPc : va_P D classes (wD cI cZ (Z 1) (S 1)) s.heap := XP_1 hP
  refine vp_callSi (W.runV (As := [.int p0]) (rest := []) ⟨hx, hb, hml, hown, hts⟩ (c_X1_hasOwner l D cI cZ cW (Z 1) p0 (S 1) _ hf) ⟨callB_of 1 hts (gA tw_232) rfl rfl rfl (ht _ tw_2) (ht _ tw_275) hd_X1_hasOwner ⟨Nat.le_of_ble_eq_true rfl, Nat.le_of_ble_eq_true rfl⟩, ht _ tw_230, ht _ tw_231⟩ ⟨PR_blind, va_recv hK hP (ci := 1) (q0 := 3) rfl eX_3, fun U hU hW => PR_mk hPc hK hU hW⟩ rfl rfl hl.1 rfl (lv_room (Nat.le_of_ble_eq_true rfl)) dX6_cut_5 ⟨Nat.zero_le _, Nat.zero_le _⟩) (fun r_9 hf => ?_)
  refine lv_if_eq (tgt := 22) hx hb dX6_cut_8 (by decide) (fun c_10 => ?_) (fun c_10 => ?_)
  · have hf := hf.1 c_10
    refine lv_iconst (v := (-1 : Int32)) hx hb dX6_cut_22 (by decide) ?_
    exact W.iret (v := (-1 : Int32)) hx hb hr (fun t ht hW => ⟨(-1 : Int32), rfl, hf, ht⟩) (fun q h => absurd h List.not_mem_nil) dX6_cut_23
  · have hf := hf.2 c_10
    refine lv_aload_n hx hb dX6_cut_11 rfl (lv_at hl 0 rfl) ?_
    refine va_get (D := D) (ci := 4) (v := .ref (Z 1 0)) (C := RX6) (T := TX6) (N := 12) hx hb ht inX6 hown hK hP 0 eX_0 rfl 2 (by decide) (ht _ tw_155) (fun _ h9 => h9) rfl dX6_cut_12 ?_
    refine lv_iload_n hx hb dX6_cut_15 rfl (lv_at hl 2 rfl) ?_
    have hPc : va_P D classes (wD cI cZ (Z 1) (S 1)) s.heap := XP_1 hP
    refine vp_callSi (W.runV (As := [.int p1]) (rest := []) ⟨hx, hb, hml, hown, hts⟩ (c_X1_hasOwner l D cI cZ cW (Z 1) p1 (S 1) _ hf) ⟨callB_of 1 hts (gA tw_232) rfl rfl rfl (ht _ tw_2) (ht _ tw_275) hd_X1_hasOwner ⟨Nat.le_of_ble_eq_true rfl, Nat.le_of_ble_eq_true rfl⟩, ht _ tw_230, ht _ tw_231⟩ ⟨PR_blind, va_recv hK hP (ci := 1) (q0 := 3) rfl eX_3, fun U hU hW => PR_mk hPc hK hU hW⟩ rfl rfl hl.1 rfl (lv_room (Nat.le_of_ble_eq_true rfl)) dX6_cut_16 ⟨Nat.zero_le _, Nat.zero_le _⟩) (fun r_11 hf => ?_)
    refine lv_if_ne (tgt := 24) hx hb dX6_cut_19 (by decide) (fun c_12 => ?_) (fun c_12 => ?_)
    · have hf := hf.1 c_12
      refine lv_iload_n hx hb dX6_cut_24 rfl (lv_at hl 1 rfl) ?_
      refine lv_iload_n hx hb dX6_cut_25 rfl (lv_at hl 2 rfl) ?_
      refine lv_icmp_eq (tgt := 38) hx hb dX6_cut_26 (by decide) (fun c_13 => ?_) (fun c_13 => ?_)
      · have hf := hf.1 c_13
        refine lv_bipush (v := (-2 : Int32)) hx hb dX6_cut_38 (by decide) ?_
        exact W.iret (v := (-2 : Int32)) hx hb hr (fun t ht hW => ⟨(-2 : Int32), rfl, hf, ht⟩) (fun q h => absurd h List.not_mem_nil) dX6_cut_40
      · have hf := hf.2 c_13
        refine lv_iload_n hx hb dX6_cut_29 rfl (lv_at hl 3 rfl) ?_
        refine lv_if_lt (tgt := 38) hx hb dX6_cut_30 (by decide) (fun c_14 => ?_) (fun c_14 => ?_)
        · have hf := hf.1 c_14
          refine lv_bipush (v := (-2 : Int32)) hx hb dX6_cut_38 (by decide) ?_
          exact W.iret (v := (-2 : Int32)) hx hb hr (fun t ht hW => ⟨(-2 : Int32), rfl, hf, ht⟩) (fun q h => absurd h List.not_mem_nil) dX6_cut_40
        · have hf := hf.2 c_14
          refine lv_iload_n hx hb dX6_cut_33 rfl (lv_at hl 3 rfl) ?_
          refine lv_iconst (v := (1 : Int32)) hx hb dX6_cut_34 (by decide) ?_
          refine lv_icmp_le (tgt := 41) hx hb dX6_cut_35 (by decide) (fun c_15 => ?_) (fun c_15 => ?_)
          · have hf := hf.1 c_15
            refine lv_aload_n hx hb dX6_cut_41 rfl (lv_at hl 0 rfl) ?_
            refine va_get (D := D) (ci := 4) (v := .ref (Z 4 0)) (C := RX6) (T := TX6) (N := 12) hx hb ht inX6 hown hK hP 0 eX_0 rfl 5 (by decide) (ht _ tw_158) (fun _ h9 => h9) rfl dX6_cut_42 ?_
            refine lv_aload_n hx hb dX6_cut_45 rfl (lv_at hl 0 rfl) ?_
            refine va_get (D := D) (ci := 4) (v := .ref (Z 1 0)) (C := RX6) (T := TX6) (N := 12) hx hb ht inX6 hown hK hP 0 eX_0 rfl 2 (by decide) (ht _ tw_155) (fun _ h9 => h9) rfl dX6_cut_46 ?_
            refine lv_iconst (v := (1 : Int32)) hx hb dX6_cut_49 (by decide) ?_
            refine lv_iload_n hx hb dX6_cut_50 rfl (lv_at hl 1 rfl) ?_
            refine lv_ishl hx hb dX6_cut_51 ?_
            have hPc : va_P D classes (wW cI cZ (Z 4) (S 4) ++ wD cI cZ (Z 1) (S 1)) s.heap := XP_4_1 hP
            refine vp_callSi (W.runV (As := [.ref (Z 1 0), .int ((1 : Int32) <<< (p0 &&& 31))]) (rest := []) ⟨hx, hb, hml, hown, hts⟩ (c_X5_ownedBy l D cI cZ cW (Z 4) (Z 1) ((1 : Int32) <<< (p0 &&& 31)) (S 4) (S 1) _ hf) ⟨callB_of 2 hts (gA tw_288) rfl rfl rfl (ht _ tw_4) (ht _ tw_285) hd_X5_ownedBy ⟨Nat.le_of_ble_eq_true rfl, Nat.le_of_ble_eq_true rfl⟩, ht _ tw_286, ht _ tw_287⟩ ⟨PR_blind, va_recv hK hP (ci := 3) (q0 := 21) rfl eX_21, fun U hU hW => PR_mk hPc hK hU hW⟩ rfl rfl hl.1 rfl (lv_room (Nat.le_of_ble_eq_true rfl)) dX6_cut_52 ⟨Nat.zero_le _, Nat.zero_le _⟩) (fun r_16 hf => ?_)
            refine lv_istore (lv' := [(4, .int r_16), (0, .ref (Z 0 0)), (1, .int p0), (2, .int p1), (3, .int p2)]) hx hb dX6_cut_55 hl (by decide) rfl (fun ls hl => ?_)
            refine lv_aload_n hx hb dX6_cut_57 rfl (lv_at hl 1 rfl) ?_
            refine va_get (D := D) (ci := 4) (v := .ref (Z 4 0)) (C := RX6) (T := TX6) (N := 12) hx hb ht inX6 hown hK hP 0 eX_0 rfl 5 (by decide) (ht _ tw_158) (fun _ h9 => h9) rfl dX6_cut_58 ?_
            refine lv_aload_n hx hb dX6_cut_61 rfl (lv_at hl 1 rfl) ?_
            refine va_get (D := D) (ci := 4) (v := .ref (Z 1 0)) (C := RX6) (T := TX6) (N := 12) hx hb ht inX6 hown hK hP 0 eX_0 rfl 2 (by decide) (ht _ tw_155) (fun _ h9 => h9) rfl dX6_cut_62 ?_
            refine lv_iconst (v := (1 : Int32)) hx hb dX6_cut_65 (by decide) ?_
            refine lv_iload_n hx hb dX6_cut_66 rfl (lv_at hl 3 rfl) ?_
            refine lv_ishl hx hb dX6_cut_67 ?_
            have hPc : va_P D classes (wW cI cZ (Z 4) (S 4) ++ wD cI cZ (Z 1) (S 1)) s.heap := XP_4_1 hP
            refine vp_callSi (W.runV (As := [.ref (Z 1 0), .int ((1 : Int32) <<< (p1 &&& 31))]) (rest := []) ⟨hx, hb, hml, hown, hts⟩ (c_X5_ownedBy l D cI cZ cW (Z 4) (Z 1) ((1 : Int32) <<< (p1 &&& 31)) (S 4) (S 1) _ hf) ⟨callB_of 2 hts (gA tw_288) rfl rfl rfl (ht _ tw_4) (ht _ tw_285) hd_X5_ownedBy ⟨Nat.le_of_ble_eq_true rfl, Nat.le_of_ble_eq_true rfl⟩, ht _ tw_286, ht _ tw_287⟩ ⟨PR_blind, va_recv hK hP (ci := 3) (q0 := 21) rfl eX_21, fun U hU hW => PR_mk hPc hK hU hW⟩ rfl rfl hl.1 rfl (lv_room (Nat.le_of_ble_eq_true rfl)) dX6_cut_68 ⟨Nat.zero_le _, Nat.zero_le _⟩) (fun r_17 hf => ?_)
            refine lv_istore (lv' := [(5, .int r_17), (4, .int r_16), (0, .ref (Z 0 0)), (1, .int p0), (2, .int p1), (3, .int p2)]) hx hb dX6_cut_71 hl (by decide) rfl (fun ls hl => ?_)
            refine lv_iconst (v := (1 : Int32)) hx hb dX6_cut_73 (by decide) ?_
            refine lv_istore (lv' := [(6, .int (1 : Int32)), (5, .int r_17), (4, .int r_16), (0, .ref (Z 0 0)), (1, .int p0), (2, .int p1), (3, .int p2)]) hx hb dX6_cut_74 hl (by decide) rfl (fun ls hl => ?_)
            refine lv_iconst (v := (-1 : Int32)) hx hb dX6_cut_76 (by decide) ?_
            refine lv_istore (lv' := [(7, .int (-1 : Int32)), (6, .int (1 : Int32)), (5, .int r_17), (4, .int r_16), (0, .ref (Z 0 0)), (1, .int p0), (2, .int p1), (3, .int p2)]) hx hb dX6_cut_77 hl (by decide) rfl (fun ls hl => ?_)
            refine lv_iconst (v := (1 : Int32)) hx hb dX6_cut_79 (by decide) ?_
            refine lv_istore (lv' := [(8, .int (1 : Int32)), (7, .int (-1 : Int32)), (6, .int (1 : Int32)), (5, .int r_17), (4, .int r_16), (0, .ref (Z 0 0)), (1, .int p0), (2, .int p1), (3, .int p2)]) hx hb dX6_cut_80 hl (by decide) rfl (fun ls hl => ?_)
            exact k_82 p2 r_16 r_17 (1 : Int32) (-1 : Int32) (1 : Int32) ls hf (lv_sub hl [8, 4, 3, 2, 1, 0] rfl)
          · have hf := hf.2 c_15
            refine lv_bipush (v := (-2 : Int32)) hx hb dX6_cut_38 (by decide) ?_
            exact W.iret (v := (-2 : Int32)) hx hb hr (fun t ht hW => ⟨(-2 : Int32), rfl, hf, ht⟩) (fun q h => absurd h List.not_mem_nil) dX6_cut_40
    · have hf := hf.2 c_12
      refine lv_iconst (v := (-1 : Int32)) hx hb dX6_cut_22 (by decide) ?_
      exact W.iret (v := (-1 : Int32)) hx hb hr (fun t ht hW => ⟨(-1 : Int32), rfl, hf, ht⟩) (fun q h => absurd h List.not_mem_nil) dX6_cut_23
def LB_X6_judge_76 (G76 : (Int32 × Int64 × Int64 × Int32 × (Nat → CS) × AS) → Prop) (Z : Nat → Nat → Nat) (Y : Nat → Nat → Nat) (x1 : Int32) (x4 : Int64) (x6 : Int64) (x8 : Int32) (S : Nat → CS) (a : AS) (Q : Int32 → (Nat → CS) → AS → Prop) : Prop := ((x1 ≤ x8 → Q (-9 : Int32) S a) ∧ (¬ x1 ≤ x8 → ¬ x4 = 0 ∧ ∀ x9_3 : Int32, x9_3 = (x6 / x4).toInt32 → ¬ x4 = 0 ∧ ∀ x6_5 : Int64, x6_5 = ((x6 - x6 / x4 * x4) * (10000 : Int64)) → wp_X5_doTold x9_3 (S 5) (S 1) (fun r_6 s_7 s_8 => ∀ S_9 : Nat → CS, S_9 = va_up (va_up S 5 s_7) 1 s_8 → ((¬ r_6 = 0 → ∀ x8_11 : Int32, x8_11 = x8 + (1 : Int32) → G76 (x1, x4, x6_5, x8_11, S_9, a)) ∧ (r_6 = 0 → Q x8 S_9 a)))))
def B_X6_judge_76 (Z : Nat → Nat → Nat) (Y : Nat → Nat → Nat) (x1 : Int32) (x4 : Int64) (x6 : Int64) (x8 : Int32) (S : Nat → CS) (a : AS) (Q : Int32 → (Nat → CS) → AS → Prop) : Prop := LOOP (fun (G76 : (Int32 × Int64 × Int64 × Int32 × (Nat → CS) × AS) → Prop) z => LB_X6_judge_76 G76 Z Y z.1 z.2.1 z.2.2.1 z.2.2.2.1 z.2.2.2.2.1 z.2.2.2.2.2 Q) (x1, x4, x6, x8, S, a)
def LB_X6_judge_19 (G19 : (Int32 × Int64 × Int64 × Int32 × (Nat → CS) × AS) → Prop) (Z : Nat → Nat → Nat) (Y : Nat → Nat → Nat) (x1 : Int32) (x2 : Int64) (x4 : Int64) (x6 : Int32) (S : Nat → CS) (a : AS) (Q : Int32 → (Nat → CS) → AS → Prop) : Prop := ((x1 ≤ x6 → (((lg_cmp x2 (0 : Int64)) < 0 → Q (-2 : Int32) S a) ∧ (¬ (lg_cmp x2 (0 : Int64)) < 0 → ¬ x4 = 0 ∧ (((lg_cmp (x2 / x4) (10000 : Int64)) < 0 → wp_X5_copyFrom (S 5) (S 4) (fun s_16 s_17 => ∀ S_18 : Nat → CS, S_18 = va_up (va_up S 5 s_16) 4 s_17 → B_X6_judge_76 Z Y x1 x4 x2 (0 : Int32) S_18 a Q)) ∧ (¬ (lg_cmp (x2 / x4) (10000 : Int64)) < 0 → Q (-2 : Int32) S a))))) ∧ (¬ x1 ≤ x6 → ∀ x4_19 : Int64, x4_19 = (x4 * (10000 : Int64)) → ∀ x6_20 : Int32, x6_20 = x6 + (1 : Int32) → G19 (x1, x2, x4_19, x6_20, S, a)))
def B_X6_judge_19 (Z : Nat → Nat → Nat) (Y : Nat → Nat → Nat) (x1 : Int32) (x2 : Int64) (x4 : Int64) (x6 : Int32) (S : Nat → CS) (a : AS) (Q : Int32 → (Nat → CS) → AS → Prop) : Prop := LOOP (fun (G19 : (Int32 × Int64 × Int64 × Int32 × (Nat → CS) × AS) → Prop) z => LB_X6_judge_19 G19 Z Y z.1 z.2.1 z.2.2.1 z.2.2.2.1 z.2.2.2.2.1 z.2.2.2.2.2 Q) (x1, x2, x4, x6, S, a)
def wp_X6_judge (p0 : Int32) (p1 : Int64) (Z : Nat → Nat → Nat) (Y : Nat → Nat → Nat) (S : Nat → CS) (a : AS) (Q : Int32 → (Nat → CS) → AS → Prop) : Prop := ((p0 < (1 : Int32) → Q (-2 : Int32) S a) ∧ (¬ p0 < (1 : Int32) → ((p0 ≤ (3 : Int32) → B_X6_judge_19 Z Y p0 p1 (1 : Int64) (1 : Int32) S a Q) ∧ (¬ p0 ≤ (3 : Int32) → Q (-2 : Int32) S a))))
set_option maxHeartbeats 4000000 in
set_option maxRecDepth 100000 in
theorem c_X6_judge (l : Launch) (D : va_G) (cI cZ cW : ClassId) (Z : Nat → Nat → Nat) (Y : Nat → Nat → Nat) (sz : Nat) (p0 : Int32) (p1 : Int64) (S : Nat → CS) (a : AS) (Q : Int32 → (Nat → CS) → AS → Prop) (hf : wp_X6_judge p0 p1 Z Y S a Q) : Met l yX6_judge (wsA yX6_judge cX6_judge 10 (some .int)) ({ frames := 6, cells := 0, slots := 0, locals := 139 }) (PW D cI cZ cW [.ref (Z 0 0), .int p0, .long p1] (XW cI cZ cW Z Y (Z 1 0) (Z 2 0) S a) sz) (va_Qi (fun (r : Int32) (u : (Nat → CS) × AS) => Q r u.1 u.2) (fun u t => va_P D classes (XW cI cZ cW Z Y (Z 1 0) (Z 2 0) u.1 u.2) t.heap) (va_A (XW cI cZ cW Z Y (Z 1 0) (Z 2 0) S a) sz)) 0 0 (va_A (XW cI cZ cW Z Y (Z 1 0) (Z 2 0) S a) sz) := by
  refine Met.ofW (cc := cX6_judge) (maxL := 10) (ret := (some .int)) (by decide) rfl ?_
  intro p e s m args below meth c s₁ B hml hv
  obtain ⟨rfl, hsz, hP, hK, hD0⟩ := hv
  have hx := B.exec
  have hb := B.bytes
  have hr := B.returns
  have hts := atoms_spec (ws := (wsA yX6_judge cX6_judge 10 (some .int))) B.pre
  have ht : ∀ w ∈ lw_g, w.before _ s = true := fun w h => hts w (List.mem_cons_of_mem _ h)
  have hown : s.vm.findClass RX6 = some m.cls := findClass_of_methodNamed B.named
  have hlocks := B.notSynchronized
  subst hsz
  have hD := hD0.self (sz := s.heap.size)
  generalize hAe : va_A (XW cI cZ cW Z Y (Z 1 0) (Z 2 0) S a) s.heap.size = A at hD ⊢
  have hA : ∀ q : Nat, s.heap.size ≤ q → A q := fun q h => by rw [← hAe]; exact Or.inr h
  have hS : va_S A s.heap s.heap [] := va_S.rf
  have hDk : ∀ (x : Nat → CS) (y : AS), va_D A (XW cI cZ cW Z Y (Z 1 0) (Z 2 0) x y) := fun x y => D_X hD
  have hl := lv_entry ([.ref (Z 0 0), .int p0, .long p1]) (n := 10) (Nat.le_of_ble_eq_true rfl)
  rw [lg_entry_eq]
  generalize (lg_sl ([.ref (Z 0 0), .int p0, .long p1]) ++ List.replicate (10 - (lg_sl ([.ref (Z 0 0), .int p0, .long p1])).length) Slot.unset).toArray = ls at hl ⊢
  have hl : lv_has ls 10 [(0, .ref (Z 0 0)), (1, .int p0), (2, .long p1)] := hl
  unfold wp_X6_judge at hf
  have k_76 : ∀ (x1 : Int32) (x4 : Int64) (x6 : Int64) (x8 : Int32) (S : Nat → CS) (a : AS) (H : Heap) (locs : List Loc) (ls : Array Slot), B_X6_judge_76 Z Y x1 x4 x6 x8 S a Q → va_P D classes (XW cI cZ cW Z Y (Z 1 0) (Z 2 0) S a) H → va_D A (XW cI cZ cW Z Y (Z 1 0) (Z 2 0) S a) → va_S A s.heap H locs → lv_has ls 10 [(0, .ref (Z 0 0)), (1, .int x1), (4, .long x4), (6, .long x6), (8, .int x8)] → W p l e (headSpec (wsA yX6_judge cX6_judge 10 (some .int)) ({ frames := 6, cells := 0, slots := 0, locals := 139 })).room s m (#[.ref (Z 0 0), .int p0, .long p1] : Array Value) below meth c H locs 0 0 (MQ below (va_Qi (fun (r : Int32) (u : (Nat → CS) × AS) => Q r u.1 u.2) (fun u t => va_P D classes (XW cI cZ cW Z Y (Z 1 0) (Z 2 0) u.1 u.2) t.heap) A) (#[.ref (Z 0 0), .int p0, .long p1] : Array Value) s 0 0 A) (F0 m 76 ls []) := by
    intro x1 x4 x6 x8 S a H locs ls hf hP hD hS hl
    unfold B_X6_judge_76 at hf
    obtain ⟨I_76, ⟨n0_76, hI0_76⟩, hst_76⟩ := hf
    have main_76 : ∀ (n : Nat) (x1 : Int32) (x4 : Int64) (x6 : Int64) (x8 : Int32) (S : Nat → CS) (a : AS) (H : Heap) (locs : List Loc) (ls : Array Slot), I_76 n (x1, x4, x6, x8, S, a) → va_P D classes (XW cI cZ cW Z Y (Z 1 0) (Z 2 0) S a) H → va_D A (XW cI cZ cW Z Y (Z 1 0) (Z 2 0) S a) → va_S A s.heap H locs → lv_has ls 10 [(0, .ref (Z 0 0)), (1, .int x1), (4, .long x4), (6, .long x6), (8, .int x8)] → W p l e (headSpec (wsA yX6_judge cX6_judge 10 (some .int)) ({ frames := 6, cells := 0, slots := 0, locals := 139 })).room s m (#[.ref (Z 0 0), .int p0, .long p1] : Array Value) below meth c H locs 0 0 (MQ below (va_Qi (fun (r : Int32) (u : (Nat → CS) × AS) => Q r u.1 u.2) (fun u t => va_P D classes (XW cI cZ cW Z Y (Z 1 0) (Z 2 0) u.1 u.2) t.heap) A) (#[.ref (Z 0 0), .int p0, .long p1] : Array Value) s 0 0 A) (F0 m 76 ls []) := by
      intro n
      induction n using Nat.strongRecOn with
      | _ n_76 ih_76 =>
      intro x1 x4 x6 x8 S a H locs ls hI hP hD hS hl
      have hf : LB_X6_judge_76 (fun z => ∃ k, k < n_76 ∧ I_76 k z) Z Y x1 x4 x6 x8 S a Q := hst_76 n_76 (x1, x4, x6, x8, S, a) hI
      have hG_76 : ∀ (x1 : Int32) (x4 : Int64) (x6 : Int64) (x8 : Int32) (S : Nat → CS) (a : AS) (H : Heap) (locs : List Loc) (ls : Array Slot), (∃ k, k < n_76 ∧ I_76 k (x1, x4, x6, x8, S, a)) → va_P D classes (XW cI cZ cW Z Y (Z 1 0) (Z 2 0) S a) H → va_D A (XW cI cZ cW Z Y (Z 1 0) (Z 2 0) S a) → va_S A s.heap H locs → lv_has ls 10 [(0, .ref (Z 0 0)), (1, .int x1), (4, .long x4), (6, .long x6), (8, .int x8)] → W p l e (headSpec (wsA yX6_judge cX6_judge 10 (some .int)) ({ frames := 6, cells := 0, slots := 0, locals := 139 })).room s m (#[.ref (Z 0 0), .int p0, .long p1] : Array Value) below meth c H locs 0 0 (MQ below (va_Qi (fun (r : Int32) (u : (Nat → CS) × AS) => Q r u.1 u.2) (fun u t => va_P D classes (XW cI cZ cW Z Y (Z 1 0) (Z 2 0) u.1 u.2) t.heap) A) (#[.ref (Z 0 0), .int p0, .long p1] : Array Value) s 0 0 A) (F0 m 76 ls []) := by
        rintro x1 x4 x6 x8 S a H locs ls ⟨k, hk, hI⟩ hP hD hS hl
        exact ih_76 k hk x1 x4 x6 x8 S a H locs ls hI hP hD hS hl
      unfold LB_X6_judge_76 at hf
      refine lv_iload hx hb dX6_judge_76 (lv_at hl 4 rfl) ?_
      refine lv_iload_n hx hb dX6_judge_78 rfl (lv_at hl 1 rfl) ?_
      refine lv_icmp_ge (tgt := 126) hx hb dX6_judge_79 (by decide) (fun c_1 => ?_) (fun c_1 => ?_)
      · have hf := hf.1 c_1
        refine lv_bipush (v := (-9 : Int32)) hx hb dX6_judge_126 (by decide) ?_
        exact W.iret (v := (-9 : Int32)) hx hb hr (fun t ht hW => ⟨⟨(-9 : Int32), (S, a), rfl, hf, P_heap ht hP⟩, hS.F ht⟩) hS.2.2 dX6_judge_128
      · have hf := hf.2 c_1
        refine lv_lload hx hb dX6_judge_82 (lv_at hl 3 rfl) ?_
        refine lv_lload hx hb dX6_judge_84 (lv_at hl 2 rfl) ?_
        obtain ⟨hz_2, hf⟩ := hf
        refine lv_ldiv hx hb dX6_judge_86 hz_2 ?_
        refine lv_l2i (v := (x6 / x4).toInt32) hx hb dX6_judge_87 rfl ?_
        refine lv_topi (fun x9_3 ex9_3 => ?_)
        have hf := hf x9_3 ex9_3
        refine lv_istore (lv' := [(9, .int x9_3), (0, .ref (Z 0 0)), (1, .int x1), (4, .long x4), (6, .long x6), (8, .int x8)]) hx hb dX6_judge_88 hl (by decide) rfl (fun ls hl => ?_)
        refine lv_lload hx hb dX6_judge_90 (lv_at hl 4 rfl) ?_
        refine lv_lload hx hb dX6_judge_92 (lv_at hl 3 rfl) ?_
        obtain ⟨hz_4, hf⟩ := hf
        refine lv_lrem hx hb dX6_judge_94 hz_4 ?_
        refine lv_ldc2 (v := (10000 : Int64)) hx hb hown (ht _ tw_523) dX6_judge_95 ?_
        refine lv_lmul hx hb dX6_judge_98 ?_
        refine lv_topl (fun x6_5 ex6_5 => ?_)
        have hf := hf x6_5 ex6_5
        refine lv_lstore (lv' := [(6, .long x6_5), (9, .int x9_3), (0, .ref (Z 0 0)), (1, .int x1), (4, .long x4), (8, .int x8)]) hx hb dX6_judge_99 hl (by decide) rfl (fun ls hl => ?_)
        refine lv_aload_n hx hb dX6_judge_101 rfl (lv_at hl 2 rfl) ?_
        refine va_get (D := D) (ci := 4) (v := .ref (Z 5 0)) (C := RX6) (T := TX6) (N := 12) hx hb ht inX6 hown hK hP 0 eX_0 rfl 6 (by decide) (ht _ tw_159) (fun _ h9 => h9) rfl dX6_judge_102 ?_
        refine lv_aload_n hx hb dX6_judge_105 rfl (lv_at hl 2 rfl) ?_
        refine va_get (D := D) (ci := 4) (v := .ref (Z 1 0)) (C := RX6) (T := TX6) (N := 12) hx hb ht inX6 hown hK hP 0 eX_0 rfl 2 (by decide) (ht _ tw_155) (fun _ h9 => h9) rfl dX6_judge_106 ?_
        refine lv_iload hx hb dX6_judge_109 (lv_at hl 1 rfl) ?_
        have hPc : va_P D classes (wW cI cZ (Z 5) (S 5) ++ wD cI cZ (Z 1) (S 1)) H := XP_5_1 hP
        have hDc : va_D A (wW cI cZ (Z 5) (S 5) ++ wD cI cZ (Z 1) (S 1)) := XD_5_1 hD
        have hFc := va_freeX hDc hS hA
        refine va_calli (va_runV (As := [.ref (Z 1 0), .int x9_3]) (rest := []) ⟨hx, hb, hml, hown, hts⟩ (c_X5_doTold l D cI cZ cW (Z 5) (Z 1) H.size x9_3 (S 5) (S 1) _ hf) ⟨callB_of 2 hts (gA tw_527) rfl rfl rfl (ht _ tw_4) (ht _ tw_524) hd_X5_doTold ⟨Nat.le_of_ble_eq_true rfl, Nat.le_of_ble_eq_true rfl⟩, ht _ tw_525, ht _ tw_526⟩ ⟨PW_blind, va_recv hK hP (ci := 3) (q0 := 26) rfl eX_26, fun U hU hW => PW_mk hPc hDc hK hU hW⟩ rfl rfl hl.1 rfl (lv_room (Nat.le_of_ble_eq_true rfl)) dX6_judge_111 ⟨Nat.zero_le _, Nat.zero_le _⟩) hS (fun q _ h => hFc q h) hFc (fun r_6 u t H1 locs ht1 hvm hf hB hz1 hk1 hS => ?_)
        obtain ⟨s_7, s_8⟩ := u
        dsimp only at hf hB
        rw [ht1] at hB
        have hP := XJ_5_1 hP hD hk1 hB
        generalize H1 = H at hP hS ⊢
        obtain ⟨S_9, eS_9⟩ : ∃ y : Nat → CS, y = va_up (va_up S 5 s_7) 1 s_8 := ⟨_, rfl⟩
        have hf := hf S_9 eS_9
        have hP : va_P D classes (XW cI cZ cW Z Y (Z 1 0) (Z 2 0) S_9 a) H := by rw [eS_9]; exact hP
        have hD := hDk S_9 a
        refine lv_if_ne (tgt := 120) hx hb dX6_judge_114 (by decide) (fun c_10 => ?_) (fun c_10 => ?_)
        · have hf := hf.1 c_10
          obtain ⟨x8_11, ex8_11⟩ : ∃ y : Int32, y = x8 + (1 : Int32) := ⟨_, rfl⟩
          have hf := hf x8_11 ex8_11
          refine lv_iinc (v := x8_11) (lv' := [(8, .int x8_11), (6, .long x6_5), (9, .int x9_3), (0, .ref (Z 0 0)), (1, .int x1), (4, .long x4)]) hx hb dX6_judge_120 hl (k := 5) rfl (by rw [ex8_11]; rfl) (by decide) rfl (fun ls hl => ?_)
          refine lv_goto (tgt := 76) hx hb dX6_judge_123 (by decide) ?_
          exact hG_76 x1 x4 x6_5 x8_11 S_9 a H locs ls hf hP hD hS (lv_sub hl [3, 4, 5, 1, 0] rfl)
        · have hf := hf.2 c_10
          refine lv_iload hx hb dX6_judge_117 (lv_at hl 5 rfl) ?_
          exact W.iret (v := x8) hx hb hr (fun t ht hW => ⟨⟨x8, (S_9, a), rfl, hf, P_heap ht hP⟩, hS.F ht⟩) hS.2.2 dX6_judge_119
    exact main_76 n0_76 x1 x4 x6 x8 S a H locs ls hI0_76 hP hD hS hl
  have k_19 : ∀ (x1 : Int32) (x2 : Int64) (x4 : Int64) (x6 : Int32) (S : Nat → CS) (a : AS) (H : Heap) (locs : List Loc) (ls : Array Slot), B_X6_judge_19 Z Y x1 x2 x4 x6 S a Q → va_P D classes (XW cI cZ cW Z Y (Z 1 0) (Z 2 0) S a) H → va_D A (XW cI cZ cW Z Y (Z 1 0) (Z 2 0) S a) → va_S A s.heap H locs → lv_has ls 10 [(0, .ref (Z 0 0)), (1, .int x1), (2, .long x2), (4, .long x4), (6, .int x6)] → W p l e (headSpec (wsA yX6_judge cX6_judge 10 (some .int)) ({ frames := 6, cells := 0, slots := 0, locals := 139 })).room s m (#[.ref (Z 0 0), .int p0, .long p1] : Array Value) below meth c H locs 0 0 (MQ below (va_Qi (fun (r : Int32) (u : (Nat → CS) × AS) => Q r u.1 u.2) (fun u t => va_P D classes (XW cI cZ cW Z Y (Z 1 0) (Z 2 0) u.1 u.2) t.heap) A) (#[.ref (Z 0 0), .int p0, .long p1] : Array Value) s 0 0 A) (F0 m 19 ls []) := by
    intro x1 x2 x4 x6 S a H locs ls hf hP hD hS hl
    unfold B_X6_judge_19 at hf
    obtain ⟨I_19, ⟨n0_19, hI0_19⟩, hst_19⟩ := hf
    have main_19 : ∀ (n : Nat) (x1 : Int32) (x2 : Int64) (x4 : Int64) (x6 : Int32) (S : Nat → CS) (a : AS) (H : Heap) (locs : List Loc) (ls : Array Slot), I_19 n (x1, x2, x4, x6, S, a) → va_P D classes (XW cI cZ cW Z Y (Z 1 0) (Z 2 0) S a) H → va_D A (XW cI cZ cW Z Y (Z 1 0) (Z 2 0) S a) → va_S A s.heap H locs → lv_has ls 10 [(0, .ref (Z 0 0)), (1, .int x1), (2, .long x2), (4, .long x4), (6, .int x6)] → W p l e (headSpec (wsA yX6_judge cX6_judge 10 (some .int)) ({ frames := 6, cells := 0, slots := 0, locals := 139 })).room s m (#[.ref (Z 0 0), .int p0, .long p1] : Array Value) below meth c H locs 0 0 (MQ below (va_Qi (fun (r : Int32) (u : (Nat → CS) × AS) => Q r u.1 u.2) (fun u t => va_P D classes (XW cI cZ cW Z Y (Z 1 0) (Z 2 0) u.1 u.2) t.heap) A) (#[.ref (Z 0 0), .int p0, .long p1] : Array Value) s 0 0 A) (F0 m 19 ls []) := by
      intro n
      induction n using Nat.strongRecOn with
      | _ n_19 ih_19 =>
      intro x1 x2 x4 x6 S a H locs ls hI hP hD hS hl
      have hf : LB_X6_judge_19 (fun z => ∃ k, k < n_19 ∧ I_19 k z) Z Y x1 x2 x4 x6 S a Q := hst_19 n_19 (x1, x2, x4, x6, S, a) hI
      have hG_19 : ∀ (x1 : Int32) (x2 : Int64) (x4 : Int64) (x6 : Int32) (S : Nat → CS) (a : AS) (H : Heap) (locs : List Loc) (ls : Array Slot), (∃ k, k < n_19 ∧ I_19 k (x1, x2, x4, x6, S, a)) → va_P D classes (XW cI cZ cW Z Y (Z 1 0) (Z 2 0) S a) H → va_D A (XW cI cZ cW Z Y (Z 1 0) (Z 2 0) S a) → va_S A s.heap H locs → lv_has ls 10 [(0, .ref (Z 0 0)), (1, .int x1), (2, .long x2), (4, .long x4), (6, .int x6)] → W p l e (headSpec (wsA yX6_judge cX6_judge 10 (some .int)) ({ frames := 6, cells := 0, slots := 0, locals := 139 })).room s m (#[.ref (Z 0 0), .int p0, .long p1] : Array Value) below meth c H locs 0 0 (MQ below (va_Qi (fun (r : Int32) (u : (Nat → CS) × AS) => Q r u.1 u.2) (fun u t => va_P D classes (XW cI cZ cW Z Y (Z 1 0) (Z 2 0) u.1 u.2) t.heap) A) (#[.ref (Z 0 0), .int p0, .long p1] : Array Value) s 0 0 A) (F0 m 19 ls []) := by
        rintro x1 x2 x4 x6 S a H locs ls ⟨k, hk, hI⟩ hP hD hS hl
        exact ih_19 k hk x1 x2 x4 x6 S a H locs ls hI hP hD hS hl
      unfold LB_X6_judge_19 at hf
      refine lv_iload hx hb dX6_judge_19 (lv_at hl 4 rfl) ?_
      refine lv_iload_n hx hb dX6_judge_21 rfl (lv_at hl 1 rfl) ?_
      refine lv_icmp_ge (tgt := 39) hx hb dX6_judge_22 (by decide) (fun c_12 => ?_) (fun c_12 => ?_)
      · have hf := hf.1 c_12
        refine lv_lload_n hx hb dX6_judge_39 rfl (lv_at hl 2 rfl) ?_
        refine lv_lconst (v := (0 : Int64)) hx hb dX6_judge_40 (by decide) ?_
        refine W.lcmp hx hb dX6_judge_41 ?_
        refine lv_if_lt (tgt := 56) hx hb dX6_judge_42 (by decide) (fun c_13 => ?_) (fun c_13 => ?_)
        · have hf := hf.1 c_13
          refine lv_bipush (v := (-2 : Int32)) hx hb dX6_judge_56 (by decide) ?_
          exact W.iret (v := (-2 : Int32)) hx hb hr (fun t ht hW => ⟨⟨(-2 : Int32), (S, a), rfl, hf, P_heap ht hP⟩, hS.F ht⟩) hS.2.2 dX6_judge_58
        · have hf := hf.2 c_13
          refine lv_lload_n hx hb dX6_judge_45 rfl (lv_at hl 2 rfl) ?_
          refine lv_lload hx hb dX6_judge_46 (lv_at hl 3 rfl) ?_
          obtain ⟨hz_14, hf⟩ := hf
          refine lv_ldiv hx hb dX6_judge_48 hz_14 ?_
          refine lv_ldc2 (v := (10000 : Int64)) hx hb hown (ht _ tw_523) dX6_judge_49 ?_
          refine W.lcmp hx hb dX6_judge_52 ?_
          refine lv_if_lt (tgt := 59) hx hb dX6_judge_53 (by decide) (fun c_15 => ?_) (fun c_15 => ?_)
          · have hf := hf.1 c_15
            refine lv_aload_n hx hb dX6_judge_59 rfl (lv_at hl 0 rfl) ?_
            refine va_get (D := D) (ci := 4) (v := .ref (Z 5 0)) (C := RX6) (T := TX6) (N := 12) hx hb ht inX6 hown hK hP 0 eX_0 rfl 6 (by decide) (ht _ tw_159) (fun _ h9 => h9) rfl dX6_judge_60 ?_
            refine lv_aload_n hx hb dX6_judge_63 rfl (lv_at hl 0 rfl) ?_
            refine va_get (D := D) (ci := 4) (v := .ref (Z 4 0)) (C := RX6) (T := TX6) (N := 12) hx hb ht inX6 hown hK hP 0 eX_0 rfl 5 (by decide) (ht _ tw_158) (fun _ h9 => h9) rfl dX6_judge_64 ?_
            have hPc : va_P D classes (wW cI cZ (Z 5) (S 5) ++ wW cI cZ (Z 4) (S 4)) H := XP_5_4 hP
            have hDc : va_D A (wW cI cZ (Z 5) (S 5) ++ wW cI cZ (Z 4) (S 4)) := XD_5_4 hD
            have hFc := va_freeX hDc hS hA
            refine va_callv (va_runV (As := [.ref (Z 4 0)]) (rest := []) ⟨hx, hb, hml, hown, hts⟩ (c_X5_copyFrom l D cI cZ cW (Z 5) (Z 4) H.size (S 5) (S 4) _ hf) ⟨callB_of 1 hts (gA tw_362) rfl rfl rfl (ht _ tw_4) (ht _ tw_501) hd_X5_copyFrom ⟨Nat.le_of_ble_eq_true rfl, Nat.le_of_ble_eq_true rfl⟩, ht _ tw_360, ht _ tw_361⟩ ⟨PW_blind, va_recv hK hP (ci := 3) (q0 := 26) rfl eX_26, fun U hU hW => PW_mk hPc hDc hK hU hW⟩ rfl rfl hl.1 rfl (lv_room (Nat.le_of_ble_eq_true rfl)) dX6_judge_67 ⟨Nat.zero_le _, Nat.zero_le _⟩) hS (fun q _ h => hFc q h) hFc (fun u t H1 locs ht1 hvm hf hB hz1 hk1 hS => ?_)
            obtain ⟨s_16, s_17⟩ := u
            dsimp only at hf hB
            rw [ht1] at hB
            have hP := XJ_5_4 hP hD hk1 hB
            generalize H1 = H at hP hS ⊢
            obtain ⟨S_18, eS_18⟩ : ∃ y : Nat → CS, y = va_up (va_up S 5 s_16) 4 s_17 := ⟨_, rfl⟩
            have hf := hf S_18 eS_18
            have hP : va_P D classes (XW cI cZ cW Z Y (Z 1 0) (Z 2 0) S_18 a) H := by rw [eS_18]; exact hP
            have hD := hDk S_18 a
            refine lv_lload_n hx hb dX6_judge_70 rfl (lv_at hl 2 rfl) ?_
            refine lv_lstore (lv' := [(6, .long x2), (0, .ref (Z 0 0)), (1, .int x1), (2, .long x2), (4, .long x4)]) hx hb dX6_judge_71 hl (by decide) rfl (fun ls hl => ?_)
            refine lv_iconst (v := (0 : Int32)) hx hb dX6_judge_73 (by decide) ?_
            refine lv_istore (lv' := [(8, .int (0 : Int32)), (6, .long x2), (0, .ref (Z 0 0)), (1, .int x1), (2, .long x2), (4, .long x4)]) hx hb dX6_judge_74 hl (by decide) rfl (fun ls hl => ?_)
            exact k_76 x1 x4 x2 (0 : Int32) S_18 a H locs ls hf hP hD hS (lv_sub hl [2, 3, 5, 1, 0] rfl)
          · have hf := hf.2 c_15
            refine lv_bipush (v := (-2 : Int32)) hx hb dX6_judge_56 (by decide) ?_
            exact W.iret (v := (-2 : Int32)) hx hb hr (fun t ht hW => ⟨⟨(-2 : Int32), (S, a), rfl, hf, P_heap ht hP⟩, hS.F ht⟩) hS.2.2 dX6_judge_58
      · have hf := hf.2 c_12
        refine lv_lload hx hb dX6_judge_25 (lv_at hl 3 rfl) ?_
        refine lv_ldc2 (v := (10000 : Int64)) hx hb hown (ht _ tw_523) dX6_judge_27 ?_
        refine lv_lmul hx hb dX6_judge_30 ?_
        refine lv_topl (fun x4_19 ex4_19 => ?_)
        have hf := hf x4_19 ex4_19
        refine lv_lstore (lv' := [(4, .long x4_19), (0, .ref (Z 0 0)), (1, .int x1), (2, .long x2), (6, .int x6)]) hx hb dX6_judge_31 hl (by decide) rfl (fun ls hl => ?_)
        obtain ⟨x6_20, ex6_20⟩ : ∃ y : Int32, y = x6 + (1 : Int32) := ⟨_, rfl⟩
        have hf := hf x6_20 ex6_20
        refine lv_iinc (v := x6_20) (lv' := [(6, .int x6_20), (4, .long x4_19), (0, .ref (Z 0 0)), (1, .int x1), (2, .long x2)]) hx hb dX6_judge_33 hl (k := 4) rfl (by rw [ex6_20]; rfl) (by decide) rfl (fun ls hl => ?_)
        refine lv_goto (tgt := 19) hx hb dX6_judge_36 (by decide) ?_
        exact hG_19 x1 x2 x4_19 x6_20 S a H locs ls hf hP hD hS (lv_sub hl [2, 3, 4, 1, 0] rfl)
    exact main_19 n0_19 x1 x2 x4 x6 S a H locs ls hI0_19 hP hD hS hl
  have start : ∀ (H : Heap) (locs : List Loc), va_P D classes (XW cI cZ cW Z Y (Z 1 0) (Z 2 0) S a) H → va_D A (XW cI cZ cW Z Y (Z 1 0) (Z 2 0) S a) → va_S A s.heap H locs → W p l e (headSpec (wsA yX6_judge cX6_judge 10 (some .int)) ({ frames := 6, cells := 0, slots := 0, locals := 139 })).room s m (#[.ref (Z 0 0), .int p0, .long p1] : Array Value) below meth c H locs 0 0 (MQ below (va_Qi (fun (r : Int32) (u : (Nat → CS) × AS) => Q r u.1 u.2) (fun u t => va_P D classes (XW cI cZ cW Z Y (Z 1 0) (Z 2 0) u.1 u.2) t.heap) A) (#[.ref (Z 0 0), .int p0, .long p1] : Array Value) s 0 0 A) (F0 m 0 ls []) := by
    intro H locs hP hD hS
    refine lv_iload_n hx hb dX6_judge_0 rfl (lv_at hl 1 rfl) ?_
    refine lv_iconst (v := (1 : Int32)) hx hb dX6_judge_1 (by decide) ?_
    refine lv_icmp_lt (tgt := 10) hx hb dX6_judge_2 (by decide) (fun c_21 => ?_) (fun c_21 => ?_)
    · have hf := hf.1 c_21
      refine lv_bipush (v := (-2 : Int32)) hx hb dX6_judge_10 (by decide) ?_
      exact W.iret (v := (-2 : Int32)) hx hb hr (fun t ht hW => ⟨⟨(-2 : Int32), (S, a), rfl, hf, P_heap ht hP⟩, hS.F ht⟩) hS.2.2 dX6_judge_12
    · have hf := hf.2 c_21
      refine lv_iload_n hx hb dX6_judge_5 rfl (lv_at hl 1 rfl) ?_
      refine lv_iconst (v := (3 : Int32)) hx hb dX6_judge_6 (by decide) ?_
      refine lv_icmp_le (tgt := 13) hx hb dX6_judge_7 (by decide) (fun c_22 => ?_) (fun c_22 => ?_)
      · have hf := hf.1 c_22
        refine lv_lconst (v := (1 : Int64)) hx hb dX6_judge_13 (by decide) ?_
        refine lv_lstore (lv' := [(4, .long (1 : Int64)), (0, .ref (Z 0 0)), (1, .int p0), (2, .long p1)]) hx hb dX6_judge_14 hl (by decide) rfl (fun ls hl => ?_)
        refine lv_iconst (v := (1 : Int32)) hx hb dX6_judge_16 (by decide) ?_
        refine lv_istore (lv' := [(6, .int (1 : Int32)), (4, .long (1 : Int64)), (0, .ref (Z 0 0)), (1, .int p0), (2, .long p1)]) hx hb dX6_judge_17 hl (by decide) rfl (fun ls hl => ?_)
        exact k_19 p0 p1 (1 : Int64) (1 : Int32) S a H locs ls hf hP hD hS (lv_sub hl [2, 3, 4, 1, 0] rfl)
      · have hf := hf.2 c_22
        refine lv_bipush (v := (-2 : Int32)) hx hb dX6_judge_10 (by decide) ?_
        exact W.iret (v := (-2 : Int32)) hx hb hr (fun t ht hW => ⟨⟨(-2 : Int32), (S, a), rfl, hf, P_heap ht hP⟩, hS.F ht⟩) hS.2.2 dX6_judge_12
  exact start s.heap [] hP hD hS
