theorem dX7_canLet_0 : decode cX7_canLet 0 = .ok (.bipush 35, 2) := by decide +kernel
theorem dX7_canLet_2 : decode cX7_canLet 2 = .ok (.iload_n 1, 1) := by decide +kernel
theorem dX7_canLet_3 : decode cX7_canLet 3 = .ok (.imul, 1) := by decide +kernel
theorem dX7_canLet_4 : decode cX7_canLet 4 = .ok (.istore 4, 2) := by decide +kernel
theorem dX7_canLet_6 : decode cX7_canLet 6 = .ok (.aload_n 0, 1) := by decide +kernel
theorem dX7_canLet_7 : decode cX7_canLet 7 = .ok (.iload_n 2, 1) := by decide +kernel
theorem dX7_canLet_8 : decode cX7_canLet 8 = .ok (.invokevirtual 163, 3) := by decide +kernel
theorem dX7_canLet_11 : decode cX7_canLet 11 = .ok (.ifCond .eq 64, 3) := by decide +kernel
theorem dX7_canLet_14 : decode cX7_canLet 14 = .ok (.aload_n 0, 1) := by decide +kernel
theorem dX7_canLet_15 : decode cX7_canLet 15 = .ok (.iload_n 3, 1) := by decide +kernel
theorem dX7_canLet_16 : decode cX7_canLet 16 = .ok (.invokevirtual 157, 3) := by decide +kernel
theorem dX7_canLet_19 : decode cX7_canLet 19 = .ok (.ifCond .eq 56, 3) := by decide +kernel
theorem dX7_canLet_22 : decode cX7_canLet 22 = .ok (.aload_n 0, 1) := by decide +kernel
theorem dX7_canLet_23 : decode cX7_canLet 23 = .ok (.getfield 19, 3) := by decide +kernel
theorem dX7_canLet_26 : decode cX7_canLet 26 = .ok (.iload 4, 2) := by decide +kernel
theorem dX7_canLet_28 : decode cX7_canLet 28 = .ok (.bipush 20, 2) := by decide +kernel
theorem dX7_canLet_30 : decode cX7_canLet 30 = .ok (.iadd, 1) := by decide +kernel
theorem dX7_canLet_31 : decode cX7_canLet 31 = .ok (.iload_n 2, 1) := by decide +kernel
theorem dX7_canLet_32 : decode cX7_canLet 32 = .ok (.iadd, 1) := by decide +kernel
theorem dX7_canLet_33 : decode cX7_canLet 33 = .ok (.iaload, 1) := by decide +kernel
theorem dX7_canLet_34 : decode cX7_canLet 34 = .ok (.bipush (-9), 2) := by decide +kernel
theorem dX7_canLet_36 : decode cX7_canLet 36 = .ok (.if_icmp .eq 39, 3) := by decide +kernel
theorem dX7_canLet_39 : decode cX7_canLet 39 = .ok (.aload_n 0, 1) := by decide +kernel
theorem dX7_canLet_40 : decode cX7_canLet 40 = .ok (.getfield 19, 3) := by decide +kernel
theorem dX7_canLet_43 : decode cX7_canLet 43 = .ok (.iload 4, 2) := by decide +kernel
theorem dX7_canLet_45 : decode cX7_canLet 45 = .ok (.bipush 20, 2) := by decide +kernel
theorem dX7_canLet_47 : decode cX7_canLet 47 = .ok (.iadd, 1) := by decide +kernel
theorem dX7_canLet_48 : decode cX7_canLet 48 = .ok (.iload_n 2, 1) := by decide +kernel
theorem dX7_canLet_49 : decode cX7_canLet 49 = .ok (.iadd, 1) := by decide +kernel
theorem dX7_canLet_50 : decode cX7_canLet 50 = .ok (.iaload, 1) := by decide +kernel
theorem dX7_canLet_51 : decode cX7_canLet 51 = .ok (.iload_n 3, 1) := by decide +kernel
theorem dX7_canLet_52 : decode cX7_canLet 52 = .ok (.if_icmp .eq 23, 3) := by decide +kernel
theorem dX7_canLet_55 : decode cX7_canLet 55 = .ok (.aload_n 0, 1) := by decide +kernel
theorem dX7_canLet_56 : decode cX7_canLet 56 = .ok (.getfield 19, 3) := by decide +kernel
theorem dX7_canLet_59 : decode cX7_canLet 59 = .ok (.iload 4, 2) := by decide +kernel
theorem dX7_canLet_61 : decode cX7_canLet 61 = .ok (.bipush 25, 2) := by decide +kernel
theorem dX7_canLet_63 : decode cX7_canLet 63 = .ok (.iadd, 1) := by decide +kernel
theorem dX7_canLet_64 : decode cX7_canLet 64 = .ok (.iload_n 2, 1) := by decide +kernel
theorem dX7_canLet_65 : decode cX7_canLet 65 = .ok (.iadd, 1) := by decide +kernel
theorem dX7_canLet_66 : decode cX7_canLet 66 = .ok (.iaload, 1) := by decide +kernel
theorem dX7_canLet_67 : decode cX7_canLet 67 = .ok (.iload_n 3, 1) := by decide +kernel
theorem dX7_canLet_68 : decode cX7_canLet 68 = .ok (.if_icmp .eq 7, 3) := by decide +kernel
theorem dX7_canLet_71 : decode cX7_canLet 71 = .ok (.iconst 1, 1) := by decide +kernel
theorem dX7_canLet_72 : decode cX7_canLet 72 = .ok (.goto 4, 3) := by decide +kernel
theorem dX7_canLet_75 : decode cX7_canLet 75 = .ok (.iconst 0, 1) := by decide +kernel
theorem dX7_canLet_76 : decode cX7_canLet 76 = .ok (.ireturn, 1) := by decide +kernel
theorem dX7_let_0 : decode cX7_let 0 = .ok (.aload_n 0, 1) := by decide +kernel
theorem dX7_let_1 : decode cX7_let 1 = .ok (.iload_n 1, 1) := by decide +kernel
theorem dX7_let_2 : decode cX7_let 2 = .ok (.invokevirtual 163, 3) := by decide +kernel
theorem dX7_let_5 : decode cX7_let 5 = .ok (.ifCond .eq 11, 3) := by decide +kernel
theorem dX7_let_8 : decode cX7_let 8 = .ok (.aload_n 0, 1) := by decide +kernel
theorem dX7_let_9 : decode cX7_let 9 = .ok (.iload_n 2, 1) := by decide +kernel
theorem dX7_let_10 : decode cX7_let 10 = .ok (.invokevirtual 157, 3) := by decide +kernel
theorem dX7_let_13 : decode cX7_let 13 = .ok (.ifCond .ne 5, 3) := by decide +kernel
theorem dX7_let_16 : decode cX7_let 16 = .ok (.iconst (-1), 1) := by decide +kernel
theorem dX7_let_17 : decode cX7_let 17 = .ok (.ireturn, 1) := by decide +kernel
theorem dX7_let_18 : decode cX7_let 18 = .ok (.aload_n 0, 1) := by decide +kernel
theorem dX7_let_19 : decode cX7_let 19 = .ok (.iconst 0, 1) := by decide +kernel
theorem dX7_let_20 : decode cX7_let 20 = .ok (.iload_n 1, 1) := by decide +kernel
theorem dX7_let_21 : decode cX7_let 21 = .ok (.iload_n 2, 1) := by decide +kernel
theorem dX7_let_22 : decode cX7_let 22 = .ok (.invokevirtual 185, 3) := by decide +kernel
theorem dX7_let_25 : decode cX7_let 25 = .ok (.ifCond .ne 6, 3) := by decide +kernel
theorem dX7_let_28 : decode cX7_let 28 = .ok (.bipush (-3), 2) := by decide +kernel
theorem dX7_let_30 : decode cX7_let 30 = .ok (.ireturn, 1) := by decide +kernel
theorem dX7_let_31 : decode cX7_let 31 = .ok (.aload_n 0, 1) := by decide +kernel
theorem dX7_let_32 : decode cX7_let 32 = .ok (.invokevirtual 172, 3) := by decide +kernel
theorem dX7_let_35 : decode cX7_let 35 = .ok (.aload_n 0, 1) := by decide +kernel
theorem dX7_let_36 : decode cX7_let 36 = .ok (.getfield 19, 3) := by decide +kernel
theorem dX7_let_39 : decode cX7_let 39 = .ok (.bipush 25, 2) := by decide +kernel
theorem dX7_let_41 : decode cX7_let 41 = .ok (.iload_n 1, 1) := by decide +kernel
theorem dX7_let_42 : decode cX7_let 42 = .ok (.iadd, 1) := by decide +kernel
theorem dX7_let_43 : decode cX7_let 43 = .ok (.iaload, 1) := by decide +kernel
theorem dX7_let_44 : decode cX7_let 44 = .ok (.istore_n 3, 1) := by decide +kernel
theorem dX7_let_45 : decode cX7_let 45 = .ok (.aload_n 0, 1) := by decide +kernel
theorem dX7_let_46 : decode cX7_let 46 = .ok (.getfield 19, 3) := by decide +kernel
theorem dX7_let_49 : decode cX7_let 49 = .ok (.bipush 25, 2) := by decide +kernel
theorem dX7_let_51 : decode cX7_let 51 = .ok (.iload_n 1, 1) := by decide +kernel
theorem dX7_let_52 : decode cX7_let 52 = .ok (.iadd, 1) := by decide +kernel
theorem dX7_let_53 : decode cX7_let 53 = .ok (.iload_n 2, 1) := by decide +kernel
theorem dX7_let_54 : decode cX7_let 54 = .ok (.iastore, 1) := by decide +kernel
theorem dX7_let_55 : decode cX7_let 55 = .ok (.iload_n 3, 1) := by decide +kernel
theorem dX7_let_56 : decode cX7_let 56 = .ok (.ireturn, 1) := by decide +kernel
theorem dX7_canSell_0 : decode cX7_canSell 0 = .ok (.bipush 35, 2) := by decide +kernel
theorem dX7_canSell_2 : decode cX7_canSell 2 = .ok (.iload_n 1, 1) := by decide +kernel
theorem dX7_canSell_3 : decode cX7_canSell 3 = .ok (.imul, 1) := by decide +kernel
theorem dX7_canSell_4 : decode cX7_canSell 4 = .ok (.istore 4, 2) := by decide +kernel
theorem dX7_canSell_6 : decode cX7_canSell 6 = .ok (.aload_n 0, 1) := by decide +kernel
theorem dX7_canSell_7 : decode cX7_canSell 7 = .ok (.iload_n 2, 1) := by decide +kernel
theorem dX7_canSell_8 : decode cX7_canSell 8 = .ok (.invokevirtual 163, 3) := by decide +kernel
theorem dX7_canSell_11 : decode cX7_canSell 11 = .ok (.ifCond .eq 48, 3) := by decide +kernel
theorem dX7_canSell_14 : decode cX7_canSell 14 = .ok (.aload_n 0, 1) := by decide +kernel
theorem dX7_canSell_15 : decode cX7_canSell 15 = .ok (.iload_n 3, 1) := by decide +kernel
theorem dX7_canSell_16 : decode cX7_canSell 16 = .ok (.invokevirtual 157, 3) := by decide +kernel
theorem dX7_canSell_19 : decode cX7_canSell 19 = .ok (.ifCond .eq 40, 3) := by decide +kernel
theorem dX7_canSell_22 : decode cX7_canSell 22 = .ok (.aload_n 0, 1) := by decide +kernel
theorem dX7_canSell_23 : decode cX7_canSell 23 = .ok (.getfield 19, 3) := by decide +kernel
theorem dX7_canSell_26 : decode cX7_canSell 26 = .ok (.iload 4, 2) := by decide +kernel
theorem dX7_canSell_28 : decode cX7_canSell 28 = .ok (.bipush 20, 2) := by decide +kernel
theorem dX7_canSell_30 : decode cX7_canSell 30 = .ok (.iadd, 1) := by decide +kernel
theorem dX7_canSell_31 : decode cX7_canSell 31 = .ok (.iload_n 2, 1) := by decide +kernel
theorem dX7_canSell_32 : decode cX7_canSell 32 = .ok (.iadd, 1) := by decide +kernel
theorem dX7_canSell_33 : decode cX7_canSell 33 = .ok (.iaload, 1) := by decide +kernel
theorem dX7_canSell_34 : decode cX7_canSell 34 = .ok (.bipush (-9), 2) := by decide +kernel
theorem dX7_canSell_36 : decode cX7_canSell 36 = .ok (.if_icmp .eq 23, 3) := by decide +kernel
theorem dX7_canSell_39 : decode cX7_canSell 39 = .ok (.aload_n 0, 1) := by decide +kernel
theorem dX7_canSell_40 : decode cX7_canSell 40 = .ok (.getfield 19, 3) := by decide +kernel
theorem dX7_canSell_43 : decode cX7_canSell 43 = .ok (.iload 4, 2) := by decide +kernel
theorem dX7_canSell_45 : decode cX7_canSell 45 = .ok (.bipush 20, 2) := by decide +kernel
theorem dX7_canSell_47 : decode cX7_canSell 47 = .ok (.iadd, 1) := by decide +kernel
theorem dX7_canSell_48 : decode cX7_canSell 48 = .ok (.iload_n 2, 1) := by decide +kernel
theorem dX7_canSell_49 : decode cX7_canSell 49 = .ok (.iadd, 1) := by decide +kernel
theorem dX7_canSell_50 : decode cX7_canSell 50 = .ok (.iaload, 1) := by decide +kernel
theorem dX7_canSell_51 : decode cX7_canSell 51 = .ok (.iload_n 3, 1) := by decide +kernel
theorem dX7_canSell_52 : decode cX7_canSell 52 = .ok (.if_icmp .eq 7, 3) := by decide +kernel
theorem dX7_canSell_55 : decode cX7_canSell 55 = .ok (.iconst 1, 1) := by decide +kernel
theorem dX7_canSell_56 : decode cX7_canSell 56 = .ok (.goto 4, 3) := by decide +kernel
theorem dX7_canSell_59 : decode cX7_canSell 59 = .ok (.iconst 0, 1) := by decide +kernel
theorem dX7_canSell_60 : decode cX7_canSell 60 = .ok (.ireturn, 1) := by decide +kernel
theorem dX7_sellOn_0 : decode cX7_sellOn 0 = .ok (.bipush 35, 2) := by decide +kernel
theorem dX7_sellOn_2 : decode cX7_sellOn 2 = .ok (.iload_n 1, 1) := by decide +kernel
theorem dX7_sellOn_3 : decode cX7_sellOn 3 = .ok (.imul, 1) := by decide +kernel
theorem dX7_sellOn_4 : decode cX7_sellOn 4 = .ok (.istore 4, 2) := by decide +kernel
theorem dX7_sellOn_6 : decode cX7_sellOn 6 = .ok (.aload_n 0, 1) := by decide +kernel
theorem dX7_sellOn_7 : decode cX7_sellOn 7 = .ok (.iload_n 1, 1) := by decide +kernel
theorem dX7_sellOn_8 : decode cX7_sellOn 8 = .ok (.iload_n 2, 1) := by decide +kernel
theorem dX7_sellOn_9 : decode cX7_sellOn 9 = .ok (.invokevirtual 119, 3) := by decide +kernel
theorem dX7_sellOn_12 : decode cX7_sellOn 12 = .ok (.invokestatic 137, 3) := by decide +kernel
theorem dX7_sellOn_15 : decode cX7_sellOn 15 = .ok (.istore 5, 2) := by decide +kernel
theorem dX7_sellOn_17 : decode cX7_sellOn 17 = .ok (.aload_n 0, 1) := by decide +kernel
theorem dX7_sellOn_18 : decode cX7_sellOn 18 = .ok (.iload_n 1, 1) := by decide +kernel
theorem dX7_sellOn_19 : decode cX7_sellOn 19 = .ok (.iload_n 3, 1) := by decide +kernel
theorem dX7_sellOn_20 : decode cX7_sellOn 20 = .ok (.aload_n 0, 1) := by decide +kernel
theorem dX7_sellOn_21 : decode cX7_sellOn 21 = .ok (.getfield 19, 3) := by decide +kernel
theorem dX7_sellOn_24 : decode cX7_sellOn 24 = .ok (.iload 4, 2) := by decide +kernel
theorem dX7_sellOn_26 : decode cX7_sellOn 26 = .ok (.bipush 20, 2) := by decide +kernel
theorem dX7_sellOn_28 : decode cX7_sellOn 28 = .ok (.iadd, 1) := by decide +kernel
theorem dX7_sellOn_29 : decode cX7_sellOn 29 = .ok (.iload_n 2, 1) := by decide +kernel
theorem dX7_sellOn_30 : decode cX7_sellOn 30 = .ok (.iadd, 1) := by decide +kernel
theorem dX7_sellOn_31 : decode cX7_sellOn 31 = .ok (.iaload, 1) := by decide +kernel
theorem dX7_sellOn_32 : decode cX7_sellOn 32 = .ok (.iload 5, 2) := by decide +kernel
theorem dX7_sellOn_34 : decode cX7_sellOn 34 = .ok (.invokevirtual 133, 3) := by decide +kernel
theorem dX7_sellOn_37 : decode cX7_sellOn 37 = .ok (.aload_n 0, 1) := by decide +kernel
theorem dX7_sellOn_38 : decode cX7_sellOn 38 = .ok (.getfield 19, 3) := by decide +kernel
theorem dX7_sellOn_41 : decode cX7_sellOn 41 = .ok (.iload 4, 2) := by decide +kernel
theorem dX7_sellOn_43 : decode cX7_sellOn 43 = .ok (.bipush 20, 2) := by decide +kernel
theorem dX7_sellOn_45 : decode cX7_sellOn 45 = .ok (.iadd, 1) := by decide +kernel
theorem dX7_sellOn_46 : decode cX7_sellOn 46 = .ok (.iload_n 2, 1) := by decide +kernel
theorem dX7_sellOn_47 : decode cX7_sellOn 47 = .ok (.iadd, 1) := by decide +kernel
theorem dX7_sellOn_48 : decode cX7_sellOn 48 = .ok (.iload_n 3, 1) := by decide +kernel
theorem dX7_sellOn_49 : decode cX7_sellOn 49 = .ok (.iastore, 1) := by decide +kernel
theorem dX7_sellOn_50 : decode cX7_sellOn 50 = .ok (.aload_n 0, 1) := by decide +kernel
theorem dX7_sellOn_51 : decode cX7_sellOn 51 = .ok (.getfield 19, 3) := by decide +kernel
theorem dX7_sellOn_54 : decode cX7_sellOn 54 = .ok (.iload 4, 2) := by decide +kernel
theorem dX7_sellOn_56 : decode cX7_sellOn 56 = .ok (.bipush 25, 2) := by decide +kernel
theorem dX7_sellOn_58 : decode cX7_sellOn 58 = .ok (.iadd, 1) := by decide +kernel
theorem dX7_sellOn_59 : decode cX7_sellOn 59 = .ok (.iload_n 2, 1) := by decide +kernel
theorem dX7_sellOn_60 : decode cX7_sellOn 60 = .ok (.iadd, 1) := by decide +kernel
theorem dX7_sellOn_61 : decode cX7_sellOn 61 = .ok (.aload_n 0, 1) := by decide +kernel
theorem dX7_sellOn_62 : decode cX7_sellOn 62 = .ok (.getfield 19, 3) := by decide +kernel
theorem dX7_sellOn_65 : decode cX7_sellOn 65 = .ok (.iload 4, 2) := by decide +kernel
theorem dX7_sellOn_67 : decode cX7_sellOn 67 = .ok (.bipush 25, 2) := by decide +kernel
theorem dX7_sellOn_69 : decode cX7_sellOn 69 = .ok (.iadd, 1) := by decide +kernel
theorem dX7_sellOn_70 : decode cX7_sellOn 70 = .ok (.iload_n 2, 1) := by decide +kernel
theorem dX7_sellOn_71 : decode cX7_sellOn 71 = .ok (.iadd, 1) := by decide +kernel
theorem dX7_sellOn_72 : decode cX7_sellOn 72 = .ok (.iaload, 1) := by decide +kernel
theorem dX7_sellOn_73 : decode cX7_sellOn 73 = .ok (.iload_n 3, 1) := by decide +kernel
theorem dX7_sellOn_74 : decode cX7_sellOn 74 = .ok (.if_icmp .ne 8, 3) := by decide +kernel
theorem dX7_sellOn_77 : decode cX7_sellOn 77 = .ok (.bipush (-9), 2) := by decide +kernel
theorem dX7_sellOn_79 : decode cX7_sellOn 79 = .ok (.goto 15, 3) := by decide +kernel
theorem dX7_sellOn_82 : decode cX7_sellOn 82 = .ok (.aload_n 0, 1) := by decide +kernel
theorem dX7_sellOn_83 : decode cX7_sellOn 83 = .ok (.getfield 19, 3) := by decide +kernel
theorem dX7_sellOn_86 : decode cX7_sellOn 86 = .ok (.iload 4, 2) := by decide +kernel
theorem dX7_sellOn_88 : decode cX7_sellOn 88 = .ok (.bipush 25, 2) := by decide +kernel
theorem dX7_sellOn_90 : decode cX7_sellOn 90 = .ok (.iadd, 1) := by decide +kernel
theorem dX7_sellOn_91 : decode cX7_sellOn 91 = .ok (.iload_n 2, 1) := by decide +kernel
theorem dX7_sellOn_92 : decode cX7_sellOn 92 = .ok (.iadd, 1) := by decide +kernel
theorem dX7_sellOn_93 : decode cX7_sellOn 93 = .ok (.iaload, 1) := by decide +kernel
theorem dX7_sellOn_94 : decode cX7_sellOn 94 = .ok (.iastore, 1) := by decide +kernel
theorem dX7_sellOn_95 : decode cX7_sellOn 95 = .ok (.iload 5, 2) := by decide +kernel
theorem dX7_sellOn_97 : decode cX7_sellOn 97 = .ok (.ireturn, 1) := by decide +kernel
theorem dX7_sell_0 : decode cX7_sell 0 = .ok (.aload_n 0, 1) := by decide +kernel
theorem dX7_sell_1 : decode cX7_sell 1 = .ok (.iload_n 1, 1) := by decide +kernel
theorem dX7_sell_2 : decode cX7_sell 2 = .ok (.invokevirtual 163, 3) := by decide +kernel
theorem dX7_sell_5 : decode cX7_sell 5 = .ok (.ifCond .eq 11, 3) := by decide +kernel
theorem dX7_sell_8 : decode cX7_sell 8 = .ok (.aload_n 0, 1) := by decide +kernel
theorem dX7_sell_9 : decode cX7_sell 9 = .ok (.iload_n 2, 1) := by decide +kernel
theorem dX7_sell_10 : decode cX7_sell 10 = .ok (.invokevirtual 157, 3) := by decide +kernel
theorem dX7_sell_13 : decode cX7_sell 13 = .ok (.ifCond .ne 5, 3) := by decide +kernel
theorem dX7_sell_16 : decode cX7_sell 16 = .ok (.iconst (-1), 1) := by decide +kernel
theorem dX7_sell_17 : decode cX7_sell 17 = .ok (.ireturn, 1) := by decide +kernel
theorem dX7_sell_18 : decode cX7_sell 18 = .ok (.aload_n 0, 1) := by decide +kernel
theorem dX7_sell_19 : decode cX7_sell 19 = .ok (.iconst 0, 1) := by decide +kernel
theorem dX7_sell_20 : decode cX7_sell 20 = .ok (.iload_n 1, 1) := by decide +kernel
theorem dX7_sell_21 : decode cX7_sell 21 = .ok (.iload_n 2, 1) := by decide +kernel
theorem dX7_sell_22 : decode cX7_sell 22 = .ok (.invokevirtual 188, 3) := by decide +kernel
theorem dX7_sell_25 : decode cX7_sell 25 = .ok (.ifCond .ne 6, 3) := by decide +kernel
theorem dX7_sell_28 : decode cX7_sell 28 = .ok (.bipush (-3), 2) := by decide +kernel
theorem dX7_sell_30 : decode cX7_sell 30 = .ok (.ireturn, 1) := by decide +kernel
theorem dX7_sell_31 : decode cX7_sell 31 = .ok (.aload_n 0, 1) := by decide +kernel
theorem dX7_sell_32 : decode cX7_sell 32 = .ok (.invokevirtual 172, 3) := by decide +kernel
theorem dX7_sell_35 : decode cX7_sell 35 = .ok (.aload_n 0, 1) := by decide +kernel
theorem dX7_sell_36 : decode cX7_sell 36 = .ok (.iconst 0, 1) := by decide +kernel
theorem dX7_sell_37 : decode cX7_sell 37 = .ok (.iload_n 1, 1) := by decide +kernel
theorem dX7_sell_38 : decode cX7_sell 38 = .ok (.iload_n 2, 1) := by decide +kernel
theorem dX7_sell_39 : decode cX7_sell 39 = .ok (.invokevirtual 191, 3) := by decide +kernel
theorem dX7_sell_42 : decode cX7_sell 42 = .ok (.ireturn, 1) := by decide +kernel
theorem dX7_undo_0 : decode cX7_undo 0 = .ok (.aload_n 0, 1) := by decide +kernel
theorem dX7_undo_1 : decode cX7_undo 1 = .ok (.getfield 109, 3) := by decide +kernel
theorem dX7_undo_4 : decode cX7_undo 4 = .ok (.ifCond .ne 6, 3) := by decide +kernel
theorem dX7_undo_7 : decode cX7_undo 7 = .ok (.bipush (-3), 2) := by decide +kernel
theorem dX7_undo_9 : decode cX7_undo 9 = .ok (.ireturn, 1) := by decide +kernel
theorem dX7_undo_10 : decode cX7_undo 10 = .ok (.aload_n 0, 1) := by decide +kernel
theorem dX7_undo_11 : decode cX7_undo 11 = .ok (.dup, 1) := by decide +kernel
theorem dX7_undo_12 : decode cX7_undo 12 = .ok (.getfield 109, 3) := by decide +kernel
theorem dX7_undo_15 : decode cX7_undo 15 = .ok (.iconst 1, 1) := by decide +kernel
theorem dX7_undo_16 : decode cX7_undo 16 = .ok (.isub, 1) := by decide +kernel
theorem dX7_undo_17 : decode cX7_undo 17 = .ok (.putfield 109, 3) := by decide +kernel
theorem dX7_undo_20 : decode cX7_undo 20 = .ok (.aload_n 0, 1) := by decide +kernel
theorem dX7_undo_21 : decode cX7_undo 21 = .ok (.aload_n 0, 1) := by decide +kernel
theorem dX7_undo_22 : decode cX7_undo 22 = .ok (.getfield 169, 3) := by decide +kernel
theorem dX7_undo_25 : decode cX7_undo 25 = .ok (.bipush 13, 2) := by decide +kernel
theorem dX7_undo_27 : decode cX7_undo 27 = .ok (.iadd, 1) := by decide +kernel
theorem dX7_undo_28 : decode cX7_undo 28 = .ok (.bipush 14, 2) := by decide +kernel
theorem dX7_undo_30 : decode cX7_undo 30 = .ok (.irem, 1) := by decide +kernel
theorem dX7_undo_31 : decode cX7_undo 31 = .ok (.putfield 169, 3) := by decide +kernel
theorem dX7_undo_34 : decode cX7_undo 34 = .ok (.iconst 0, 1) := by decide +kernel
theorem dX7_undo_35 : decode cX7_undo 35 = .ok (.istore_n 1, 1) := by decide +kernel
theorem dX7_undo_36 : decode cX7_undo 36 = .ok (.iload_n 1, 1) := by decide +kernel
theorem dX7_undo_37 : decode cX7_undo 37 = .ok (.bipush 35, 2) := by decide +kernel
theorem dX7_undo_39 : decode cX7_undo 39 = .ok (.if_icmp .ge 29, 3) := by decide +kernel
theorem dX7_undo_42 : decode cX7_undo 42 = .ok (.aload_n 0, 1) := by decide +kernel
theorem dX7_undo_43 : decode cX7_undo 43 = .ok (.getfield 19, 3) := by decide +kernel
theorem dX7_undo_46 : decode cX7_undo 46 = .ok (.iload_n 1, 1) := by decide +kernel
theorem dX7_undo_47 : decode cX7_undo 47 = .ok (.aload_n 0, 1) := by decide +kernel
theorem dX7_undo_48 : decode cX7_undo 48 = .ok (.getfield 34, 3) := by decide +kernel
theorem dX7_undo_51 : decode cX7_undo 51 = .ok (.bipush 35, 2) := by decide +kernel
theorem dX7_undo_53 : decode cX7_undo 53 = .ok (.aload_n 0, 1) := by decide +kernel
theorem dX7_undo_54 : decode cX7_undo 54 = .ok (.getfield 169, 3) := by decide +kernel
theorem dX7_undo_57 : decode cX7_undo 57 = .ok (.imul, 1) := by decide +kernel
theorem dX7_undo_58 : decode cX7_undo 58 = .ok (.iload_n 1, 1) := by decide +kernel
theorem dX7_undo_59 : decode cX7_undo 59 = .ok (.iadd, 1) := by decide +kernel
theorem dX7_undo_60 : decode cX7_undo 60 = .ok (.iaload, 1) := by decide +kernel
theorem dX7_undo_61 : decode cX7_undo 61 = .ok (.iastore, 1) := by decide +kernel
theorem dX7_undo_62 : decode cX7_undo 62 = .ok (.iinc 1 1, 3) := by decide +kernel
theorem dX7_undo_65 : decode cX7_undo 65 = .ok (.goto (-29), 3) := by decide +kernel
theorem dX7_undo_68 : decode cX7_undo 68 = .ok (.aload_n 0, 1) := by decide +kernel
theorem dX7_undo_69 : decode cX7_undo 69 = .ok (.getfield 109, 3) := by decide +kernel
theorem dX7_undo_72 : decode cX7_undo 72 = .ok (.ireturn, 1) := by decide +kernel
theorem dX7_stepsBy_0 : decode cX7_stepsBy 0 = .ok (.iconst 1, 1) := by decide +kernel
theorem dX7_stepsBy_1 : decode cX7_stepsBy 1 = .ok (.iload_n 0, 1) := by decide +kernel
theorem dX7_stepsBy_2 : decode cX7_stepsBy 2 = .ok (.ishl, 1) := by decide +kernel
theorem dX7_stepsBy_3 : decode cX7_stepsBy 3 = .ok (.iload_n 2, 1) := by decide +kernel
theorem dX7_stepsBy_4 : decode cX7_stepsBy 4 = .ok (.iand, 1) := by decide +kernel
theorem dX7_stepsBy_5 : decode cX7_stepsBy 5 = .ok (.istore_n 3, 1) := by decide +kernel
theorem dX7_stepsBy_6 : decode cX7_stepsBy 6 = .ok (.iconst 0, 1) := by decide +kernel
theorem dX7_stepsBy_7 : decode cX7_stepsBy 7 = .ok (.istore 4, 2) := by decide +kernel
theorem dX7_stepsBy_9 : decode cX7_stepsBy 9 = .ok (.iload 4, 2) := by decide +kernel
theorem dX7_stepsBy_11 : decode cX7_stepsBy 11 = .ok (.bipush 20, 2) := by decide +kernel
theorem dX7_stepsBy_13 : decode cX7_stepsBy 13 = .ok (.if_icmp .ge 29, 3) := by decide +kernel
theorem dX7_stepsBy_16 : decode cX7_stepsBy 16 = .ok (.iload_n 3, 1) := by decide +kernel
theorem dX7_stepsBy_17 : decode cX7_stepsBy 17 = .ok (.iload_n 1, 1) := by decide +kernel
theorem dX7_stepsBy_18 : decode cX7_stepsBy 18 = .ok (.invokestatic 74, 3) := by decide +kernel
theorem dX7_stepsBy_21 : decode cX7_stepsBy 21 = .ok (.ifCond .eq 6, 3) := by decide +kernel
theorem dX7_stepsBy_24 : decode cX7_stepsBy 24 = .ok (.iload 4, 2) := by decide +kernel
theorem dX7_stepsBy_26 : decode cX7_stepsBy 26 = .ok (.ireturn, 1) := by decide +kernel
theorem dX7_stepsBy_27 : decode cX7_stepsBy 27 = .ok (.iload_n 3, 1) := by decide +kernel
theorem dX7_stepsBy_28 : decode cX7_stepsBy 28 = .ok (.iload_n 3, 1) := by decide +kernel
theorem dX7_stepsBy_29 : decode cX7_stepsBy 29 = .ok (.invokestatic 112, 3) := by decide +kernel
theorem dX7_stepsBy_32 : decode cX7_stepsBy 32 = .ok (.iload_n 2, 1) := by decide +kernel
theorem dX7_stepsBy_33 : decode cX7_stepsBy 33 = .ok (.iand, 1) := by decide +kernel
theorem dX7_stepsBy_34 : decode cX7_stepsBy 34 = .ok (.ior, 1) := by decide +kernel
theorem dX7_stepsBy_35 : decode cX7_stepsBy 35 = .ok (.istore_n 3, 1) := by decide +kernel
theorem dX7_stepsBy_36 : decode cX7_stepsBy 36 = .ok (.iinc 4 1, 3) := by decide +kernel
theorem dX7_stepsBy_39 : decode cX7_stepsBy 39 = .ok (.goto (-30), 3) := by decide +kernel
theorem dX7_stepsBy_42 : decode cX7_stepsBy 42 = .ok (.bipush (-9), 2) := by decide +kernel
theorem dX7_stepsBy_44 : decode cX7_stepsBy 44 = .ok (.ireturn, 1) := by decide +kernel
theorem dX7_way_0 : decode cX7_way 0 = .ok (.iload_n 1, 1) := by decide +kernel
theorem dX7_way_1 : decode cX7_way 1 = .ok (.invokestatic 166, 3) := by decide +kernel
theorem dX7_way_4 : decode cX7_way 4 = .ok (.ifCond .eq 10, 3) := by decide +kernel
theorem dX7_way_7 : decode cX7_way 7 = .ok (.iload_n 2, 1) := by decide +kernel
theorem dX7_way_8 : decode cX7_way 8 = .ok (.invokestatic 166, 3) := by decide +kernel
theorem dX7_way_11 : decode cX7_way 11 = .ok (.ifCond .ne 5, 3) := by decide +kernel
theorem dX7_way_14 : decode cX7_way 14 = .ok (.iconst (-1), 1) := by decide +kernel
theorem dX7_way_15 : decode cX7_way 15 = .ok (.ireturn, 1) := by decide +kernel
theorem dX7_way_16 : decode cX7_way 16 = .ok (.iload_n 1, 1) := by decide +kernel
theorem dX7_way_17 : decode cX7_way 17 = .ok (.iload_n 2, 1) := by decide +kernel
theorem dX7_way_18 : decode cX7_way 18 = .ok (.if_icmp .ne 7, 3) := by decide +kernel
theorem dX7_way_21 : decode cX7_way 21 = .ok (.iconst 0, 1) := by decide +kernel
theorem dX7_way_22 : decode cX7_way 22 = .ok (.goto 20, 3) := by decide +kernel
theorem dX7_way_25 : decode cX7_way 25 = .ok (.iload_n 1, 1) := by decide +kernel
theorem dX7_way_26 : decode cX7_way 26 = .ok (.iload_n 2, 1) := by decide +kernel
theorem dX7_way_27 : decode cX7_way 27 = .ok (.ldc 98, 2) := by decide +kernel
theorem dX7_way_29 : decode cX7_way 29 = .ok (.aload_n 0, 1) := by decide +kernel
theorem dX7_way_30 : decode cX7_way 30 = .ok (.iconst 0, 1) := by decide +kernel
theorem dX7_way_31 : decode cX7_way 31 = .ok (.bipush 7, 2) := by decide +kernel
theorem dX7_way_33 : decode cX7_way 33 = .ok (.invokevirtual 119, 3) := by decide +kernel
theorem dX7_way_36 : decode cX7_way 36 = .ok (.iconst (-1), 1) := by decide +kernel
theorem dX7_way_37 : decode cX7_way 37 = .ok (.ixor, 1) := by decide +kernel
theorem dX7_way_38 : decode cX7_way 38 = .ok (.iand, 1) := by decide +kernel
theorem dX7_way_39 : decode cX7_way 39 = .ok (.invokestatic 194, 3) := by decide +kernel
theorem dX7_way_42 : decode cX7_way 42 = .ok (.ireturn, 1) := by decide +kernel
theorem dX7_costOf_0 : decode cX7_costOf 0 = .ok (.aload_n 0, 1) := by decide +kernel
theorem dX7_costOf_1 : decode cX7_costOf 1 = .ok (.getfield 19, 3) := by decide +kernel
theorem dX7_costOf_4 : decode cX7_costOf 4 = .ok (.iload_n 1, 1) := by decide +kernel
theorem dX7_costOf_5 : decode cX7_costOf 5 = .ok (.iaload, 1) := by decide +kernel
theorem dX7_costOf_6 : decode cX7_costOf 6 = .ok (.bipush 7, 2) := by decide +kernel
theorem dX7_costOf_8 : decode cX7_costOf 8 = .ok (.if_icmp .eq 7, 3) := by decide +kernel
theorem dX7_costOf_11 : decode cX7_costOf 11 = .ok (.iconst 0, 1) := by decide +kernel
theorem dX7_costOf_12 : decode cX7_costOf 12 = .ok (.goto 17, 3) := by decide +kernel
theorem dX7_costOf_15 : decode cX7_costOf 15 = .ok (.aload_n 0, 1) := by decide +kernel
theorem dX7_costOf_16 : decode cX7_costOf 16 = .ok (.iload_n 1, 1) := by decide +kernel
theorem dX7_costOf_17 : decode cX7_costOf 17 = .ok (.invokevirtual 122, 3) := by decide +kernel
theorem dX7_costOf_20 : decode cX7_costOf 20 = .ok (.ifCond .eq 8, 3) := by decide +kernel
theorem dX7_costOf_23 : decode cX7_costOf 23 = .ok (.bipush (-9), 2) := by decide +kernel
theorem dX7_costOf_25 : decode cX7_costOf 25 = .ok (.goto 4, 3) := by decide +kernel
theorem dX7_costOf_28 : decode cX7_costOf 28 = .ok (.iconst 1, 1) := by decide +kernel
theorem dX7_costOf_29 : decode cX7_costOf 29 = .ok (.ireturn, 1) := by decide +kernel
def wp_X7_canLet (p0 : Int32) (p1 : Int32) (p2 : Int32) (s0 : CS) (Q : Int32 → Prop) : Prop := ∀ x4_1 : Int32, x4_1 = ((35 : Int32) * p0) → wp_X7_isHole p1 s0 (fun r_2 => ((r_2 = 0 → Q (0 : Int32)) ∧ (¬ r_2 = 0 → wp_X7_isOwner p2 s0 (fun r_4 => ((r_4 = 0 → Q (0 : Int32)) ∧ (¬ r_4 = 0 → vp_in ((x4_1 + (20 : Int32)) + p1) 70 ∧ ((((s0.2.1 5) ((x4_1 + (20 : Int32)) + p1).toNatClampNeg) = (-9 : Int32) → Q (0 : Int32)) ∧ (¬ ((s0.2.1 5) ((x4_1 + (20 : Int32)) + p1).toNatClampNeg) = (-9 : Int32) → vp_in ((x4_1 + (20 : Int32)) + p1) 70 ∧ ((((s0.2.1 5) ((x4_1 + (20 : Int32)) + p1).toNatClampNeg) = p2 → Q (0 : Int32)) ∧ (¬ ((s0.2.1 5) ((x4_1 + (20 : Int32)) + p1).toNatClampNeg) = p2 → vp_in ((x4_1 + (25 : Int32)) + p1) 70 ∧ ((((s0.2.1 5) ((x4_1 + (25 : Int32)) + p1).toNatClampNeg) = p2 → Q (0 : Int32)) ∧ (¬ ((s0.2.1 5) ((x4_1 + (25 : Int32)) + p1).toNatClampNeg) = p2 → Q (1 : Int32)))))))))))))
set_option maxHeartbeats 4000000 in
set_option maxRecDepth 100000 in
theorem c_X7_canLet (l : Launch) (D : va_G) (cI cZ cW : ClassId) (q0 : Nat → Nat) (p0 : Int32) (p1 : Int32) (p2 : Int32) (s0 : CS) (Q : Int32 → Prop) (hf : wp_X7_canLet p0 p1 p2 s0 Q) : Met l yX7_canLet (wsA yX7_canLet cX7_canLet 5 (some .boolean)) ({ frames := 2, cells := 0, slots := 0, locals := 46 }) (PR D cI cZ cW [.ref (q0 0), .int p0, .int p1, .int p2] (wM cI cZ q0 s0)) (vp_Si Q) 0 0 (fun _ => False) := by
  refine Met.ofW (cc := cX7_canLet) (maxL := 5) (ret := (some .boolean)) (by decide) rfl ?_
  intro p e s m args below meth c s₁ B hml hv
  obtain ⟨rfl, hP, hK⟩ := hv
  have hx := B.exec
  have hb := B.bytes
  have hr := B.returns
  have hts := atoms_spec (ws := (wsA yX7_canLet cX7_canLet 5 (some .boolean))) B.pre
  have ht : ∀ w ∈ lw_g, w.before _ s = true := fun w h => hts w (List.mem_cons_of_mem _ h)
  have hown : s.vm.findClass RX7 = some m.cls := findClass_of_methodNamed B.named
  have hlocks := B.notSynchronized
  have hl := lv_entry ([.ref (q0 0), .int p0, .int p1, .int p2]) (n := 5) (Nat.le_of_ble_eq_true rfl)
  rw [lg_entry_eq]
  generalize (lg_sl ([.ref (q0 0), .int p0, .int p1, .int p2]) ++ List.replicate (5 - (lg_sl ([.ref (q0 0), .int p0, .int p1, .int p2])).length) Slot.unset).toArray = ls at hl ⊢
  have hl : lv_has ls 5 [(0, .ref (q0 0)), (1, .int p0), (2, .int p1), (3, .int p2)] := hl
  unfold wp_X7_canLet at hf
  refine lv_bipush (v := (35 : Int32)) hx hb dX7_canLet_0 (by decide) ?_
  refine lv_iload_n hx hb dX7_canLet_2 rfl (lv_at hl 1 rfl) ?_
  refine lv_imul hx hb dX7_canLet_3 ?_
  refine lv_topi (fun x4_1 ex4_1 => ?_)
  have hf := hf x4_1 ex4_1
  refine lv_istore (lv' := [(4, .int x4_1), (0, .ref (q0 0)), (1, .int p0), (2, .int p1), (3, .int p2)]) hx hb dX7_canLet_4 hl (by decide) rfl (fun ls hl => ?_)
  refine lv_aload_n hx hb dX7_canLet_6 rfl (lv_at hl 1 rfl) ?_
  refine lv_iload_n hx hb dX7_canLet_7 rfl (lv_at hl 3 rfl) ?_
  have hPc : va_P D classes (wM cI cZ q0 s0) s.heap := hP
  refine vp_callSi (W.runV (As := [.int p1]) (rest := []) ⟨hx, hb, hml, hown, hts⟩ (c_X7_isHole l D cI cZ cW q0 p1 s0 _ hf) ⟨callB_of 1 hts (gA tw_803) rfl rfl rfl (ht _ tw_7) (ht _ tw_800) hd_X7_isHole ⟨Nat.le_of_ble_eq_true rfl, Nat.le_of_ble_eq_true rfl⟩, ht _ tw_802, ht _ twp_24⟩ ⟨PR_blind, va_recv hK hP (ci := 5) (q0 := 0) rfl eM_0, fun U hU hW => PR_mk hPc hK hU hW⟩ rfl rfl hl.1 rfl (lv_room (Nat.le_of_ble_eq_true rfl)) dX7_canLet_8 ⟨Nat.zero_le _, Nat.zero_le _⟩) (fun r_2 hf => ?_)
  refine lv_if_eq (tgt := 75) hx hb dX7_canLet_11 (by decide) (fun c_3 => ?_) (fun c_3 => ?_)
  · have hf := hf.1 c_3
    refine lv_iconst (v := (0 : Int32)) hx hb dX7_canLet_75 (by decide) ?_
    exact W.zret (v := (0 : Int32)) hx hb hr rfl (fun t ht hW => ⟨(0 : Int32), rfl, hf, ht⟩) (fun q h => absurd h List.not_mem_nil) dX7_canLet_76
  · have hf := hf.2 c_3
    refine lv_aload_n hx hb dX7_canLet_14 rfl (lv_at hl 1 rfl) ?_
    refine lv_iload_n hx hb dX7_canLet_15 rfl (lv_at hl 4 rfl) ?_
    have hPc : va_P D classes (wM cI cZ q0 s0) s.heap := hP
    refine vp_callSi (W.runV (As := [.int p2]) (rest := []) ⟨hx, hb, hml, hown, hts⟩ (c_X7_isOwner l D cI cZ cW q0 p2 s0 _ hf) ⟨callB_of 1 hts (gA tw_784) rfl rfl rfl (ht _ tw_7) (ht _ tw_781) hd_X7_isOwner ⟨Nat.le_of_ble_eq_true rfl, Nat.le_of_ble_eq_true rfl⟩, ht _ tw_783, ht _ twp_21⟩ ⟨PR_blind, va_recv hK hP (ci := 5) (q0 := 0) rfl eM_0, fun U hU hW => PR_mk hPc hK hU hW⟩ rfl rfl hl.1 rfl (lv_room (Nat.le_of_ble_eq_true rfl)) dX7_canLet_16 ⟨Nat.zero_le _, Nat.zero_le _⟩) (fun r_4 hf => ?_)
    refine lv_if_eq (tgt := 75) hx hb dX7_canLet_19 (by decide) (fun c_5 => ?_) (fun c_5 => ?_)
    · have hf := hf.1 c_5
      refine lv_iconst (v := (0 : Int32)) hx hb dX7_canLet_75 (by decide) ?_
      exact W.zret (v := (0 : Int32)) hx hb hr rfl (fun t ht hW => ⟨(0 : Int32), rfl, hf, ht⟩) (fun q h => absurd h List.not_mem_nil) dX7_canLet_76
    · have hf := hf.2 c_5
      refine lv_aload_n hx hb dX7_canLet_22 rfl (lv_at hl 1 rfl) ?_
      refine va_get (D := D) (ci := 5) (v := .ref (q0 4)) (C := RX7) (T := TX7) (N := 28) hx hb ht inX7 hown hK hP 0 eM_0 rfl 5 (by decide) (ht _ tw_660) (fun _ h9 => h9) rfl dX7_canLet_23 ?_
      refine lv_iload hx hb dX7_canLet_26 (lv_at hl 0 rfl) ?_
      refine lv_bipush (v := (20 : Int32)) hx hb dX7_canLet_28 (by decide) ?_
      refine lv_iadd hx hb dX7_canLet_30 ?_
      refine lv_iload_n hx hb dX7_canLet_31 rfl (lv_at hl 3 rfl) ?_
      refine lv_iadd hx hb dX7_canLet_32 ?_
      obtain ⟨hi_6, hf⟩ := hf
      refine va_iald hx hb hK hP 4 0 eM_4 rfl hi_6 dX7_canLet_33 ?_
      refine lv_bipush (v := (-9 : Int32)) hx hb dX7_canLet_34 (by decide) ?_
      refine lv_icmp_eq (tgt := 75) hx hb dX7_canLet_36 (by decide) (fun c_7 => ?_) (fun c_7 => ?_)
      · have hf := hf.1 c_7
        refine lv_iconst (v := (0 : Int32)) hx hb dX7_canLet_75 (by decide) ?_
        exact W.zret (v := (0 : Int32)) hx hb hr rfl (fun t ht hW => ⟨(0 : Int32), rfl, hf, ht⟩) (fun q h => absurd h List.not_mem_nil) dX7_canLet_76
      · have hf := hf.2 c_7
        refine lv_aload_n hx hb dX7_canLet_39 rfl (lv_at hl 1 rfl) ?_
        refine va_get (D := D) (ci := 5) (v := .ref (q0 4)) (C := RX7) (T := TX7) (N := 28) hx hb ht inX7 hown hK hP 0 eM_0 rfl 5 (by decide) (ht _ tw_660) (fun _ h9 => h9) rfl dX7_canLet_40 ?_
        refine lv_iload hx hb dX7_canLet_43 (lv_at hl 0 rfl) ?_
        refine lv_bipush (v := (20 : Int32)) hx hb dX7_canLet_45 (by decide) ?_
        refine lv_iadd hx hb dX7_canLet_47 ?_
        refine lv_iload_n hx hb dX7_canLet_48 rfl (lv_at hl 3 rfl) ?_
        refine lv_iadd hx hb dX7_canLet_49 ?_
        obtain ⟨hi_8, hf⟩ := hf
        refine va_iald hx hb hK hP 4 0 eM_4 rfl hi_8 dX7_canLet_50 ?_
        refine lv_iload_n hx hb dX7_canLet_51 rfl (lv_at hl 4 rfl) ?_
        refine lv_icmp_eq (tgt := 75) hx hb dX7_canLet_52 (by decide) (fun c_9 => ?_) (fun c_9 => ?_)
        · have hf := hf.1 c_9
          refine lv_iconst (v := (0 : Int32)) hx hb dX7_canLet_75 (by decide) ?_
          exact W.zret (v := (0 : Int32)) hx hb hr rfl (fun t ht hW => ⟨(0 : Int32), rfl, hf, ht⟩) (fun q h => absurd h List.not_mem_nil) dX7_canLet_76
        · have hf := hf.2 c_9
          refine lv_aload_n hx hb dX7_canLet_55 rfl (lv_at hl 1 rfl) ?_
          refine va_get (D := D) (ci := 5) (v := .ref (q0 4)) (C := RX7) (T := TX7) (N := 28) hx hb ht inX7 hown hK hP 0 eM_0 rfl 5 (by decide) (ht _ tw_660) (fun _ h9 => h9) rfl dX7_canLet_56 ?_
          refine lv_iload hx hb dX7_canLet_59 (lv_at hl 0 rfl) ?_
          refine lv_bipush (v := (25 : Int32)) hx hb dX7_canLet_61 (by decide) ?_
          refine lv_iadd hx hb dX7_canLet_63 ?_
          refine lv_iload_n hx hb dX7_canLet_64 rfl (lv_at hl 3 rfl) ?_
          refine lv_iadd hx hb dX7_canLet_65 ?_
          obtain ⟨hi_10, hf⟩ := hf
          refine va_iald hx hb hK hP 4 0 eM_4 rfl hi_10 dX7_canLet_66 ?_
          refine lv_iload_n hx hb dX7_canLet_67 rfl (lv_at hl 4 rfl) ?_
          refine lv_icmp_eq (tgt := 75) hx hb dX7_canLet_68 (by decide) (fun c_11 => ?_) (fun c_11 => ?_)
          · have hf := hf.1 c_11
            refine lv_iconst (v := (0 : Int32)) hx hb dX7_canLet_75 (by decide) ?_
            exact W.zret (v := (0 : Int32)) hx hb hr rfl (fun t ht hW => ⟨(0 : Int32), rfl, hf, ht⟩) (fun q h => absurd h List.not_mem_nil) dX7_canLet_76
          · have hf := hf.2 c_11
            refine lv_iconst (v := (1 : Int32)) hx hb dX7_canLet_71 (by decide) ?_
            refine lv_goto (tgt := 76) hx hb dX7_canLet_72 (by decide) ?_
            exact W.zret (v := (1 : Int32)) hx hb hr rfl (fun t ht hW => ⟨(1 : Int32), rfl, hf, ht⟩) (fun q h => absurd h List.not_mem_nil) dX7_canLet_76
def wp_X7_let (p0 : Int32) (p1 : Int32) (s0 : CS) (Q : Int32 → CS → Prop) : Prop := wp_X7_isHole p0 s0 (fun r_1 => ((r_1 = 0 → Q (-1 : Int32) s0) ∧ (¬ r_1 = 0 → wp_X7_isOwner p1 s0 (fun r_3 => ((¬ r_3 = 0 → wp_X7_canLet (0 : Int32) p0 p1 s0 (fun r_5 => ((¬ r_5 = 0 → wp_X7_keepAct s0 (fun s0_7 => vp_in ((25 : Int32) + p0) 70 ∧ ∀ x3_9 : Int32, x3_9 = ((s0_7.2.1 5) ((25 : Int32) + p0).toNatClampNeg) → vp_in ((25 : Int32) + p0) 70 ∧ ∀ s0_11 : CS, s0_11 = sA s0_7 5 ((25 : Int32) + p0).toNatClampNeg p1 → Q x3_9 s0_11)) ∧ (r_5 = 0 → Q (-3 : Int32) s0)))) ∧ (r_3 = 0 → Q (-1 : Int32) s0))))))
set_option maxHeartbeats 4000000 in
set_option maxRecDepth 100000 in
theorem c_X7_let (l : Launch) (D : va_G) (cI cZ cW : ClassId) (q0 : Nat → Nat) (sz : Nat) (p0 : Int32) (p1 : Int32) (s0 : CS) (Q : Int32 → CS → Prop) (hf : wp_X7_let p0 p1 s0 Q) : Met l yX7_let (wsA yX7_let cX7_let 4 (some .int)) ({ frames := 3, cells := 0, slots := 0, locals := 70 }) (PW D cI cZ cW [.ref (q0 0), .int p0, .int p1] (wM cI cZ q0 s0) sz) (va_Qi (fun (r : Int32) (u : CS) => Q r u) (fun u t => va_P D classes (wM cI cZ q0 u) t.heap) (va_A (wM cI cZ q0 s0) sz)) 0 0 (va_A (wM cI cZ q0 s0) sz) := by
  refine Met.ofW (cc := cX7_let) (maxL := 4) (ret := (some .int)) (by decide) rfl ?_
  intro p e s m args below meth c s₁ B hml hv
  obtain ⟨rfl, hsz, hP, hK, hD0⟩ := hv
  have hx := B.exec
  have hb := B.bytes
  have hr := B.returns
  have hts := atoms_spec (ws := (wsA yX7_let cX7_let 4 (some .int))) B.pre
  have ht : ∀ w ∈ lw_g, w.before _ s = true := fun w h => hts w (List.mem_cons_of_mem _ h)
  have hown : s.vm.findClass RX7 = some m.cls := findClass_of_methodNamed B.named
  have hlocks := B.notSynchronized
  subst hsz
  have hD := hD0.self (sz := s.heap.size)
  generalize hAe : va_A (wM cI cZ q0 s0) s.heap.size = A at hD ⊢
  have hA : ∀ q : Nat, s.heap.size ≤ q → A q := fun q h => by rw [← hAe]; exact Or.inr h
  have hS : va_S A s.heap s.heap [] := va_S.rf
  have hDk : ∀ w : CS, va_D A (wM cI cZ q0 w) := fun w => D_M hD
  have hl := lv_entry ([.ref (q0 0), .int p0, .int p1]) (n := 4) (Nat.le_of_ble_eq_true rfl)
  rw [lg_entry_eq]
  generalize (lg_sl ([.ref (q0 0), .int p0, .int p1]) ++ List.replicate (4 - (lg_sl ([.ref (q0 0), .int p0, .int p1])).length) Slot.unset).toArray = ls at hl ⊢
  have hl : lv_has ls 4 [(0, .ref (q0 0)), (1, .int p0), (2, .int p1)] := hl
  unfold wp_X7_let at hf
  have start : ∀ (H : Heap) (locs : List Loc), va_P D classes (wM cI cZ q0 s0) H → va_D A (wM cI cZ q0 s0) → va_S A s.heap H locs → W p l e (headSpec (wsA yX7_let cX7_let 4 (some .int)) ({ frames := 3, cells := 0, slots := 0, locals := 70 })).room s m (#[.ref (q0 0), .int p0, .int p1] : Array Value) below meth c H locs 0 0 (MQ below (va_Qi (fun (r : Int32) (u : CS) => Q r u) (fun u t => va_P D classes (wM cI cZ q0 u) t.heap) A) (#[.ref (q0 0), .int p0, .int p1] : Array Value) s 0 0 A) (F0 m 0 ls []) := by
    intro H locs hP hD hS
    refine lv_aload_n hx hb dX7_let_0 rfl (lv_at hl 0 rfl) ?_
    refine lv_iload_n hx hb dX7_let_1 rfl (lv_at hl 1 rfl) ?_
    have hPc : va_P D classes (wM cI cZ q0 s0) H := hP
    refine vp_callSi (W.runV (As := [.int p0]) (rest := []) ⟨hx, hb, hml, hown, hts⟩ (c_X7_isHole l D cI cZ cW q0 p0 s0 _ hf) ⟨callB_of 1 hts (gA tw_803) rfl rfl rfl (ht _ tw_7) (ht _ tw_800) hd_X7_isHole ⟨Nat.le_of_ble_eq_true rfl, Nat.le_of_ble_eq_true rfl⟩, ht _ tw_802, ht _ twp_24⟩ ⟨PR_blind, va_recv hK hP (ci := 5) (q0 := 0) rfl eM_0, fun U hU hW => PR_mk hPc hK hU hW⟩ rfl rfl hl.1 rfl (lv_room (Nat.le_of_ble_eq_true rfl)) dX7_let_2 ⟨Nat.zero_le _, Nat.zero_le _⟩) (fun r_1 hf => ?_)
    refine lv_if_eq (tgt := 16) hx hb dX7_let_5 (by decide) (fun c_2 => ?_) (fun c_2 => ?_)
    · have hf := hf.1 c_2
      refine lv_iconst (v := (-1 : Int32)) hx hb dX7_let_16 (by decide) ?_
      exact W.iret (v := (-1 : Int32)) hx hb hr (fun t ht hW => ⟨⟨(-1 : Int32), s0, rfl, hf, P_heap ht hP⟩, hS.F ht⟩) hS.2.2 dX7_let_17
    · have hf := hf.2 c_2
      refine lv_aload_n hx hb dX7_let_8 rfl (lv_at hl 0 rfl) ?_
      refine lv_iload_n hx hb dX7_let_9 rfl (lv_at hl 2 rfl) ?_
      have hPc : va_P D classes (wM cI cZ q0 s0) H := hP
      refine vp_callSi (W.runV (As := [.int p1]) (rest := []) ⟨hx, hb, hml, hown, hts⟩ (c_X7_isOwner l D cI cZ cW q0 p1 s0 _ hf) ⟨callB_of 1 hts (gA tw_784) rfl rfl rfl (ht _ tw_7) (ht _ tw_781) hd_X7_isOwner ⟨Nat.le_of_ble_eq_true rfl, Nat.le_of_ble_eq_true rfl⟩, ht _ tw_783, ht _ twp_21⟩ ⟨PR_blind, va_recv hK hP (ci := 5) (q0 := 0) rfl eM_0, fun U hU hW => PR_mk hPc hK hU hW⟩ rfl rfl hl.1 rfl (lv_room (Nat.le_of_ble_eq_true rfl)) dX7_let_10 ⟨Nat.zero_le _, Nat.zero_le _⟩) (fun r_3 hf => ?_)
      refine lv_if_ne (tgt := 18) hx hb dX7_let_13 (by decide) (fun c_4 => ?_) (fun c_4 => ?_)
      · have hf := hf.1 c_4
        refine lv_aload_n hx hb dX7_let_18 rfl (lv_at hl 0 rfl) ?_
        refine lv_iconst (v := (0 : Int32)) hx hb dX7_let_19 (by decide) ?_
        refine lv_iload_n hx hb dX7_let_20 rfl (lv_at hl 1 rfl) ?_
        refine lv_iload_n hx hb dX7_let_21 rfl (lv_at hl 2 rfl) ?_
        have hPc : va_P D classes (wM cI cZ q0 s0) H := hP
        refine vp_callSi (W.runV (As := [.int (0 : Int32), .int p0, .int p1]) (rest := []) ⟨hx, hb, hml, hown, hts⟩ (c_X7_canLet l D cI cZ cW q0 (0 : Int32) p0 p1 s0 _ hf) ⟨callB_of 3 hts (gA tw_884) rfl rfl rfl (ht _ tw_7) (ht _ tw_881) hd_X7_canLet ⟨Nat.le_of_ble_eq_true rfl, Nat.le_of_ble_eq_true rfl⟩, ht _ tw_883, ht _ twp_38⟩ ⟨PR_blind, va_recv hK hP (ci := 5) (q0 := 0) rfl eM_0, fun U hU hW => PR_mk hPc hK hU hW⟩ rfl rfl hl.1 rfl (lv_room (Nat.le_of_ble_eq_true rfl)) dX7_let_22 ⟨Nat.zero_le _, Nat.zero_le _⟩) (fun r_5 hf => ?_)
        refine lv_if_ne (tgt := 31) hx hb dX7_let_25 (by decide) (fun c_6 => ?_) (fun c_6 => ?_)
        · have hf := hf.1 c_6
          refine lv_aload_n hx hb dX7_let_31 rfl (lv_at hl 0 rfl) ?_
          have hPc : va_P D classes (wM cI cZ q0 s0) H := hP
          have hDc : va_D A (wM cI cZ q0 s0) := hD
          have hFc := va_free (wc := (wM cI cZ q0 s0)) hD hS hA [0, 1, 2, 3, 4, 5, 6, 7, 8, 9, 10, 11, 12, 13, 14, 15] rfl
          refine va_callv (va_runV (As := []) (rest := []) ⟨hx, hb, hml, hown, hts⟩ (c_X7_keepAct l D cI cZ cW q0 H.size s0 _ hf) ⟨callB_of 0 hts (gA tw_822) rfl rfl rfl (ht _ tw_7) (ht _ tw_819) hd_X7_keepAct ⟨Nat.le_of_ble_eq_true rfl, Nat.le_of_ble_eq_true rfl⟩, ht _ tw_821, ht _ twp_26⟩ ⟨PW_blind, va_recv hK hP (ci := 5) (q0 := 0) rfl eM_0, fun U hU hW => PW_mk hPc hDc hK hU hW⟩ rfl rfl hl.1 rfl (lv_room (Nat.le_of_ble_eq_true rfl)) dX7_let_32 ⟨Nat.zero_le _, Nat.zero_le _⟩) hS (fun q _ h => hFc q h) hFc (fun u t H1 locs ht1 hvm hf hB hz1 hk1 hS => ?_)
          obtain ⟨s0_7, rfl⟩ : ∃ z, z = u := ⟨_, rfl⟩
          rw [ht1] at hB
          have hP := hB
          have hD := hDk s0_7
          generalize H1 = H at hP hS ⊢
          have hP : va_P D classes (wM cI cZ q0 s0_7) H := hP
          have hD : va_D A (wM cI cZ q0 s0_7) := hD
          refine lv_aload_n hx hb dX7_let_35 rfl (lv_at hl 0 rfl) ?_
          refine va_get (D := D) (ci := 5) (v := .ref (q0 4)) (C := RX7) (T := TX7) (N := 28) hx hb ht inX7 hown hK hP 0 eM_0 rfl 5 (by decide) (ht _ tw_660) (fun _ h9 => h9) rfl dX7_let_36 ?_
          refine lv_bipush (v := (25 : Int32)) hx hb dX7_let_39 (by decide) ?_
          refine lv_iload_n hx hb dX7_let_41 rfl (lv_at hl 1 rfl) ?_
          refine lv_iadd hx hb dX7_let_42 ?_
          obtain ⟨hi_8, hf⟩ := hf
          refine va_iald hx hb hK hP 4 0 eM_4 rfl hi_8 dX7_let_43 ?_
          refine lv_topi (fun x3_9 ex3_9 => ?_)
          have hf := hf x3_9 ex3_9
          refine lv_istore_n (lv' := [(3, .int x3_9), (0, .ref (q0 0)), (1, .int p0), (2, .int p1)]) hx hb dX7_let_44 rfl hl (by decide) rfl (fun ls hl => ?_)
          refine lv_aload_n hx hb dX7_let_45 rfl (lv_at hl 1 rfl) ?_
          refine va_get (D := D) (ci := 5) (v := .ref (q0 4)) (C := RX7) (T := TX7) (N := 28) hx hb ht inX7 hown hK hP 0 eM_0 rfl 5 (by decide) (ht _ tw_660) (fun _ h9 => h9) rfl dX7_let_46 ?_
          refine lv_bipush (v := (25 : Int32)) hx hb dX7_let_49 (by decide) ?_
          refine lv_iload_n hx hb dX7_let_51 rfl (lv_at hl 2 rfl) ?_
          refine lv_iadd hx hb dX7_let_52 ?_
          refine lv_iload_n hx hb dX7_let_53 rfl (lv_at hl 3 rfl) ?_
          obtain ⟨hi_10, hf⟩ := hf
          refine va_iast hx hb hK hP hD hS 4 0 eM_4 rfl hi_10 dX7_let_54 (fun H locs hP hD hS => ?_)
          obtain ⟨s0_11, es0_11⟩ : ∃ y : CS, y = sA s0_7 5 ((25 : Int32) + p0).toNatClampNeg p1 := ⟨_, rfl⟩
          have hf := hf s0_11 es0_11
          have hD := hDk s0_11
          have hP : va_P D classes (wM cI cZ q0 s0_11) H := by rw [es0_11]; exact PM_F5 hP
          refine lv_iload_n hx hb dX7_let_55 rfl (lv_at hl 0 rfl) ?_
          exact W.iret (v := x3_9) hx hb hr (fun t ht hW => ⟨⟨x3_9, s0_11, rfl, hf, P_heap ht hP⟩, hS.F ht⟩) hS.2.2 dX7_let_56
        · have hf := hf.2 c_6
          refine lv_bipush (v := (-3 : Int32)) hx hb dX7_let_28 (by decide) ?_
          exact W.iret (v := (-3 : Int32)) hx hb hr (fun t ht hW => ⟨⟨(-3 : Int32), s0, rfl, hf, P_heap ht hP⟩, hS.F ht⟩) hS.2.2 dX7_let_30
      · have hf := hf.2 c_4
        refine lv_iconst (v := (-1 : Int32)) hx hb dX7_let_16 (by decide) ?_
        exact W.iret (v := (-1 : Int32)) hx hb hr (fun t ht hW => ⟨⟨(-1 : Int32), s0, rfl, hf, P_heap ht hP⟩, hS.F ht⟩) hS.2.2 dX7_let_17
  exact start s.heap [] hP hD hS
def wp_X7_canSell (p0 : Int32) (p1 : Int32) (p2 : Int32) (s0 : CS) (Q : Int32 → Prop) : Prop := ∀ x4_1 : Int32, x4_1 = ((35 : Int32) * p0) → wp_X7_isHole p1 s0 (fun r_2 => ((r_2 = 0 → Q (0 : Int32)) ∧ (¬ r_2 = 0 → wp_X7_isOwner p2 s0 (fun r_4 => ((r_4 = 0 → Q (0 : Int32)) ∧ (¬ r_4 = 0 → vp_in ((x4_1 + (20 : Int32)) + p1) 70 ∧ ((((s0.2.1 5) ((x4_1 + (20 : Int32)) + p1).toNatClampNeg) = (-9 : Int32) → Q (0 : Int32)) ∧ (¬ ((s0.2.1 5) ((x4_1 + (20 : Int32)) + p1).toNatClampNeg) = (-9 : Int32) → vp_in ((x4_1 + (20 : Int32)) + p1) 70 ∧ ((((s0.2.1 5) ((x4_1 + (20 : Int32)) + p1).toNatClampNeg) = p2 → Q (0 : Int32)) ∧ (¬ ((s0.2.1 5) ((x4_1 + (20 : Int32)) + p1).toNatClampNeg) = p2 → Q (1 : Int32)))))))))))
set_option maxHeartbeats 4000000 in
set_option maxRecDepth 100000 in
theorem c_X7_canSell (l : Launch) (D : va_G) (cI cZ cW : ClassId) (q0 : Nat → Nat) (p0 : Int32) (p1 : Int32) (p2 : Int32) (s0 : CS) (Q : Int32 → Prop) (hf : wp_X7_canSell p0 p1 p2 s0 Q) : Met l yX7_canSell (wsA yX7_canSell cX7_canSell 5 (some .boolean)) ({ frames := 2, cells := 0, slots := 0, locals := 46 }) (PR D cI cZ cW [.ref (q0 0), .int p0, .int p1, .int p2] (wM cI cZ q0 s0)) (vp_Si Q) 0 0 (fun _ => False) := by
  refine Met.ofW (cc := cX7_canSell) (maxL := 5) (ret := (some .boolean)) (by decide) rfl ?_
  intro p e s m args below meth c s₁ B hml hv
  obtain ⟨rfl, hP, hK⟩ := hv
  have hx := B.exec
  have hb := B.bytes
  have hr := B.returns
  have hts := atoms_spec (ws := (wsA yX7_canSell cX7_canSell 5 (some .boolean))) B.pre
  have ht : ∀ w ∈ lw_g, w.before _ s = true := fun w h => hts w (List.mem_cons_of_mem _ h)
  have hown : s.vm.findClass RX7 = some m.cls := findClass_of_methodNamed B.named
  have hlocks := B.notSynchronized
  have hl := lv_entry ([.ref (q0 0), .int p0, .int p1, .int p2]) (n := 5) (Nat.le_of_ble_eq_true rfl)
  rw [lg_entry_eq]
  generalize (lg_sl ([.ref (q0 0), .int p0, .int p1, .int p2]) ++ List.replicate (5 - (lg_sl ([.ref (q0 0), .int p0, .int p1, .int p2])).length) Slot.unset).toArray = ls at hl ⊢
  have hl : lv_has ls 5 [(0, .ref (q0 0)), (1, .int p0), (2, .int p1), (3, .int p2)] := hl
  unfold wp_X7_canSell at hf
  refine lv_bipush (v := (35 : Int32)) hx hb dX7_canSell_0 (by decide) ?_
  refine lv_iload_n hx hb dX7_canSell_2 rfl (lv_at hl 1 rfl) ?_
  refine lv_imul hx hb dX7_canSell_3 ?_
  refine lv_topi (fun x4_1 ex4_1 => ?_)
  have hf := hf x4_1 ex4_1
  refine lv_istore (lv' := [(4, .int x4_1), (0, .ref (q0 0)), (1, .int p0), (2, .int p1), (3, .int p2)]) hx hb dX7_canSell_4 hl (by decide) rfl (fun ls hl => ?_)
  refine lv_aload_n hx hb dX7_canSell_6 rfl (lv_at hl 1 rfl) ?_
  refine lv_iload_n hx hb dX7_canSell_7 rfl (lv_at hl 3 rfl) ?_
  have hPc : va_P D classes (wM cI cZ q0 s0) s.heap := hP
  refine vp_callSi (W.runV (As := [.int p1]) (rest := []) ⟨hx, hb, hml, hown, hts⟩ (c_X7_isHole l D cI cZ cW q0 p1 s0 _ hf) ⟨callB_of 1 hts (gA tw_803) rfl rfl rfl (ht _ tw_7) (ht _ tw_800) hd_X7_isHole ⟨Nat.le_of_ble_eq_true rfl, Nat.le_of_ble_eq_true rfl⟩, ht _ tw_802, ht _ twp_24⟩ ⟨PR_blind, va_recv hK hP (ci := 5) (q0 := 0) rfl eM_0, fun U hU hW => PR_mk hPc hK hU hW⟩ rfl rfl hl.1 rfl (lv_room (Nat.le_of_ble_eq_true rfl)) dX7_canSell_8 ⟨Nat.zero_le _, Nat.zero_le _⟩) (fun r_2 hf => ?_)
  refine lv_if_eq (tgt := 59) hx hb dX7_canSell_11 (by decide) (fun c_3 => ?_) (fun c_3 => ?_)
  · have hf := hf.1 c_3
    refine lv_iconst (v := (0 : Int32)) hx hb dX7_canSell_59 (by decide) ?_
    exact W.zret (v := (0 : Int32)) hx hb hr rfl (fun t ht hW => ⟨(0 : Int32), rfl, hf, ht⟩) (fun q h => absurd h List.not_mem_nil) dX7_canSell_60
  · have hf := hf.2 c_3
    refine lv_aload_n hx hb dX7_canSell_14 rfl (lv_at hl 1 rfl) ?_
    refine lv_iload_n hx hb dX7_canSell_15 rfl (lv_at hl 4 rfl) ?_
    have hPc : va_P D classes (wM cI cZ q0 s0) s.heap := hP
    refine vp_callSi (W.runV (As := [.int p2]) (rest := []) ⟨hx, hb, hml, hown, hts⟩ (c_X7_isOwner l D cI cZ cW q0 p2 s0 _ hf) ⟨callB_of 1 hts (gA tw_784) rfl rfl rfl (ht _ tw_7) (ht _ tw_781) hd_X7_isOwner ⟨Nat.le_of_ble_eq_true rfl, Nat.le_of_ble_eq_true rfl⟩, ht _ tw_783, ht _ twp_21⟩ ⟨PR_blind, va_recv hK hP (ci := 5) (q0 := 0) rfl eM_0, fun U hU hW => PR_mk hPc hK hU hW⟩ rfl rfl hl.1 rfl (lv_room (Nat.le_of_ble_eq_true rfl)) dX7_canSell_16 ⟨Nat.zero_le _, Nat.zero_le _⟩) (fun r_4 hf => ?_)
    refine lv_if_eq (tgt := 59) hx hb dX7_canSell_19 (by decide) (fun c_5 => ?_) (fun c_5 => ?_)
    · have hf := hf.1 c_5
      refine lv_iconst (v := (0 : Int32)) hx hb dX7_canSell_59 (by decide) ?_
      exact W.zret (v := (0 : Int32)) hx hb hr rfl (fun t ht hW => ⟨(0 : Int32), rfl, hf, ht⟩) (fun q h => absurd h List.not_mem_nil) dX7_canSell_60
    · have hf := hf.2 c_5
      refine lv_aload_n hx hb dX7_canSell_22 rfl (lv_at hl 1 rfl) ?_
      refine va_get (D := D) (ci := 5) (v := .ref (q0 4)) (C := RX7) (T := TX7) (N := 28) hx hb ht inX7 hown hK hP 0 eM_0 rfl 5 (by decide) (ht _ tw_660) (fun _ h9 => h9) rfl dX7_canSell_23 ?_
      refine lv_iload hx hb dX7_canSell_26 (lv_at hl 0 rfl) ?_
      refine lv_bipush (v := (20 : Int32)) hx hb dX7_canSell_28 (by decide) ?_
      refine lv_iadd hx hb dX7_canSell_30 ?_
      refine lv_iload_n hx hb dX7_canSell_31 rfl (lv_at hl 3 rfl) ?_
      refine lv_iadd hx hb dX7_canSell_32 ?_
      obtain ⟨hi_6, hf⟩ := hf
      refine va_iald hx hb hK hP 4 0 eM_4 rfl hi_6 dX7_canSell_33 ?_
      refine lv_bipush (v := (-9 : Int32)) hx hb dX7_canSell_34 (by decide) ?_
      refine lv_icmp_eq (tgt := 59) hx hb dX7_canSell_36 (by decide) (fun c_7 => ?_) (fun c_7 => ?_)
      · have hf := hf.1 c_7
        refine lv_iconst (v := (0 : Int32)) hx hb dX7_canSell_59 (by decide) ?_
        exact W.zret (v := (0 : Int32)) hx hb hr rfl (fun t ht hW => ⟨(0 : Int32), rfl, hf, ht⟩) (fun q h => absurd h List.not_mem_nil) dX7_canSell_60
      · have hf := hf.2 c_7
        refine lv_aload_n hx hb dX7_canSell_39 rfl (lv_at hl 1 rfl) ?_
        refine va_get (D := D) (ci := 5) (v := .ref (q0 4)) (C := RX7) (T := TX7) (N := 28) hx hb ht inX7 hown hK hP 0 eM_0 rfl 5 (by decide) (ht _ tw_660) (fun _ h9 => h9) rfl dX7_canSell_40 ?_
        refine lv_iload hx hb dX7_canSell_43 (lv_at hl 0 rfl) ?_
        refine lv_bipush (v := (20 : Int32)) hx hb dX7_canSell_45 (by decide) ?_
        refine lv_iadd hx hb dX7_canSell_47 ?_
        refine lv_iload_n hx hb dX7_canSell_48 rfl (lv_at hl 3 rfl) ?_
        refine lv_iadd hx hb dX7_canSell_49 ?_
        obtain ⟨hi_8, hf⟩ := hf
        refine va_iald hx hb hK hP 4 0 eM_4 rfl hi_8 dX7_canSell_50 ?_
        refine lv_iload_n hx hb dX7_canSell_51 rfl (lv_at hl 4 rfl) ?_
        refine lv_icmp_eq (tgt := 59) hx hb dX7_canSell_52 (by decide) (fun c_9 => ?_) (fun c_9 => ?_)
        · have hf := hf.1 c_9
          refine lv_iconst (v := (0 : Int32)) hx hb dX7_canSell_59 (by decide) ?_
          exact W.zret (v := (0 : Int32)) hx hb hr rfl (fun t ht hW => ⟨(0 : Int32), rfl, hf, ht⟩) (fun q h => absurd h List.not_mem_nil) dX7_canSell_60
        · have hf := hf.2 c_9
          refine lv_iconst (v := (1 : Int32)) hx hb dX7_canSell_55 (by decide) ?_
          refine lv_goto (tgt := 60) hx hb dX7_canSell_56 (by decide) ?_
          exact W.zret (v := (1 : Int32)) hx hb hr rfl (fun t ht hW => ⟨(1 : Int32), rfl, hf, ht⟩) (fun q h => absurd h List.not_mem_nil) dX7_canSell_60
def B_X7_sellOn_94  (x5 : Int32) (t0 : Int32) (t1 : Int32) (s0 : CS) (Q : Int32 → CS → Prop) : Prop := vp_in t1 70 ∧ ∀ s0_2 : CS, s0_2 = sA s0 5 t1.toNatClampNeg t0 → Q x5 s0_2
def wp_X7_sellOn (p0 : Int32) (p1 : Int32) (p2 : Int32) (s0 : CS) (Q : Int32 → CS → Prop) : Prop := ∀ x4_3 : Int32, x4_3 = ((35 : Int32) * p0) → wp_X7_of p0 p1 s0 (fun r_4 => wp_X7_ones r_4 (fun r_5 => vp_in ((x4_3 + (20 : Int32)) + p1) 70 ∧ wp_X7_pay p0 p2 ((s0.2.1 5) ((x4_3 + (20 : Int32)) + p1).toNatClampNeg) r_5 s0 (fun s0_7 => vp_in ((x4_3 + (20 : Int32)) + p1) 70 ∧ ∀ s0_9 : CS, s0_9 = sA s0_7 5 ((x4_3 + (20 : Int32)) + p1).toNatClampNeg p2 → vp_in ((x4_3 + (25 : Int32)) + p1) 70 ∧ ((¬ ((s0_9.2.1 5) ((x4_3 + (25 : Int32)) + p1).toNatClampNeg) = p2 → vp_in ((x4_3 + (25 : Int32)) + p1) 70 ∧ B_X7_sellOn_94  r_5 ((s0_9.2.1 5) ((x4_3 + (25 : Int32)) + p1).toNatClampNeg) ((x4_3 + (25 : Int32)) + p1) s0_9 Q) ∧ (((s0_9.2.1 5) ((x4_3 + (25 : Int32)) + p1).toNatClampNeg) = p2 → B_X7_sellOn_94  r_5 (-9 : Int32) ((x4_3 + (25 : Int32)) + p1) s0_9 Q)))))
set_option maxHeartbeats 4000000 in
set_option maxRecDepth 100000 in
theorem c_X7_sellOn (l : Launch) (D : va_G) (cI cZ cW : ClassId) (q0 : Nat → Nat) (sz : Nat) (p0 : Int32) (p1 : Int32) (p2 : Int32) (s0 : CS) (Q : Int32 → CS → Prop) (hf : wp_X7_sellOn p0 p1 p2 s0 Q) : Met l yX7_sellOn (wsA yX7_sellOn cX7_sellOn 6 (some .int)) ({ frames := 1, cells := 0, slots := 0, locals := 24 }) (PW D cI cZ cW [.ref (q0 0), .int p0, .int p1, .int p2] (wM cI cZ q0 s0) sz) (va_Qi (fun (r : Int32) (u : CS) => Q r u) (fun u t => va_P D classes (wM cI cZ q0 u) t.heap) (va_A (wM cI cZ q0 s0) sz)) 0 0 (va_A (wM cI cZ q0 s0) sz) := by
  refine Met.ofW (cc := cX7_sellOn) (maxL := 6) (ret := (some .int)) (by decide) rfl ?_
  intro p e s m args below meth c s₁ B hml hv
  obtain ⟨rfl, hsz, hP, hK, hD0⟩ := hv
  have hx := B.exec
  have hb := B.bytes
  have hr := B.returns
  have hts := atoms_spec (ws := (wsA yX7_sellOn cX7_sellOn 6 (some .int))) B.pre
  have ht : ∀ w ∈ lw_g, w.before _ s = true := fun w h => hts w (List.mem_cons_of_mem _ h)
  have hown : s.vm.findClass RX7 = some m.cls := findClass_of_methodNamed B.named
  have hlocks := B.notSynchronized
  subst hsz
  have hD := hD0.self (sz := s.heap.size)
  generalize hAe : va_A (wM cI cZ q0 s0) s.heap.size = A at hD ⊢
  have hA : ∀ q : Nat, s.heap.size ≤ q → A q := fun q h => by rw [← hAe]; exact Or.inr h
  have hS : va_S A s.heap s.heap [] := va_S.rf
  have hDk : ∀ w : CS, va_D A (wM cI cZ q0 w) := fun w => D_M hD
  have hl := lv_entry ([.ref (q0 0), .int p0, .int p1, .int p2]) (n := 6) (Nat.le_of_ble_eq_true rfl)
  rw [lg_entry_eq]
  generalize (lg_sl ([.ref (q0 0), .int p0, .int p1, .int p2]) ++ List.replicate (6 - (lg_sl ([.ref (q0 0), .int p0, .int p1, .int p2])).length) Slot.unset).toArray = ls at hl ⊢
  have hl : lv_has ls 6 [(0, .ref (q0 0)), (1, .int p0), (2, .int p1), (3, .int p2)] := hl
  unfold wp_X7_sellOn at hf
  have k_94 : ∀ (x5 : Int32) (t0 : Int32) (t1 : Int32) (s0 : CS) (H : Heap) (locs : List Loc) (ls : Array Slot), B_X7_sellOn_94  x5 t0 t1 s0 Q → va_P D classes (wM cI cZ q0 s0) H → va_D A (wM cI cZ q0 s0) → va_S A s.heap H locs → lv_has ls 6 [(5, .int x5)] → W p l e (headSpec (wsA yX7_sellOn cX7_sellOn 6 (some .int)) ({ frames := 1, cells := 0, slots := 0, locals := 24 })).room s m (#[.ref (q0 0), .int p0, .int p1, .int p2] : Array Value) below meth c H locs 0 0 (MQ below (va_Qi (fun (r : Int32) (u : CS) => Q r u) (fun u t => va_P D classes (wM cI cZ q0 u) t.heap) A) (#[.ref (q0 0), .int p0, .int p1, .int p2] : Array Value) s 0 0 A) (F0 m 94 ls [.int t0, .int t1, .ref (q0 4)]) := by
    intro x5 t0 t1 s0 H locs ls hf hP hD hS hl
    unfold B_X7_sellOn_94 at hf
    obtain ⟨hi_1, hf⟩ := hf
    refine va_iast hx hb hK hP hD hS 4 0 eM_4 rfl hi_1 dX7_sellOn_94 (fun H locs hP hD hS => ?_)
    obtain ⟨s0_2, es0_2⟩ : ∃ y : CS, y = sA s0 5 t1.toNatClampNeg t0 := ⟨_, rfl⟩
    have hf := hf s0_2 es0_2
    have hD := hDk s0_2
    have hP : va_P D classes (wM cI cZ q0 s0_2) H := by rw [es0_2]; exact PM_F5 hP
    refine lv_iload hx hb dX7_sellOn_95 (lv_at hl 0 rfl) ?_
    exact W.iret (v := x5) hx hb hr (fun t ht hW => ⟨⟨x5, s0_2, rfl, hf, P_heap ht hP⟩, hS.F ht⟩) hS.2.2 dX7_sellOn_97
  have start : ∀ (H : Heap) (locs : List Loc), va_P D classes (wM cI cZ q0 s0) H → va_D A (wM cI cZ q0 s0) → va_S A s.heap H locs → W p l e (headSpec (wsA yX7_sellOn cX7_sellOn 6 (some .int)) ({ frames := 1, cells := 0, slots := 0, locals := 24 })).room s m (#[.ref (q0 0), .int p0, .int p1, .int p2] : Array Value) below meth c H locs 0 0 (MQ below (va_Qi (fun (r : Int32) (u : CS) => Q r u) (fun u t => va_P D classes (wM cI cZ q0 u) t.heap) A) (#[.ref (q0 0), .int p0, .int p1, .int p2] : Array Value) s 0 0 A) (F0 m 0 ls []) := by
    intro H locs hP hD hS
    refine lv_bipush (v := (35 : Int32)) hx hb dX7_sellOn_0 (by decide) ?_
    refine lv_iload_n hx hb dX7_sellOn_2 rfl (lv_at hl 1 rfl) ?_
    refine lv_imul hx hb dX7_sellOn_3 ?_
    refine lv_topi (fun x4_3 ex4_3 => ?_)
    have hf := hf x4_3 ex4_3
    refine lv_istore (lv' := [(4, .int x4_3), (0, .ref (q0 0)), (1, .int p0), (2, .int p1), (3, .int p2)]) hx hb dX7_sellOn_4 hl (by decide) rfl (fun ls hl => ?_)
    refine lv_aload_n hx hb dX7_sellOn_6 rfl (lv_at hl 1 rfl) ?_
    refine lv_iload_n hx hb dX7_sellOn_7 rfl (lv_at hl 2 rfl) ?_
    refine lv_iload_n hx hb dX7_sellOn_8 rfl (lv_at hl 3 rfl) ?_
    have hPc : va_P D classes (wM cI cZ q0 s0) H := hP
    refine vp_callSi (W.runV (As := [.int p0, .int p1]) (rest := []) ⟨hx, hb, hml, hown, hts⟩ (c_X7_of l D cI cZ cW q0 p0 p1 s0 _ hf) ⟨callB_of 2 hts (gA tw_807) rfl rfl rfl (ht _ tw_7) (ht _ tw_804) hd_X7_of ⟨Nat.le_of_ble_eq_true rfl, Nat.le_of_ble_eq_true rfl⟩, ht _ tw_806, ht _ twp_25⟩ ⟨PR_blind, va_recv hK hP (ci := 5) (q0 := 0) rfl eM_0, fun U hU hW => PR_mk hPc hK hU hW⟩ rfl rfl hl.1 rfl (lv_room (Nat.le_of_ble_eq_true rfl)) dX7_sellOn_9 ⟨Nat.zero_le _, Nat.zero_le _⟩) (fun r_4 hf => ?_)
    have hPc : va_P D classes ([] : va_W) H := hP.sub [] rfl
    refine vp_callSi (W.runS (As := [.int r_4]) (rest := []) ⟨hx, hb, hml, hown, hts⟩ (c_X7_ones l D cI cZ cW  r_4 _ hf) ⟨callB_of 1 hts (gA tw_795) rfl rfl rfl (ht _ tw_7) (ht _ tw_793) hd_X7_ones ⟨Nat.le_of_ble_eq_true rfl, Nat.le_of_ble_eq_true rfl⟩, ht _ tw_794⟩ ⟨PR_blind, fun U hU hW => PR_mk hPc hK hU hW⟩ rfl rfl hl.1 rfl (lv_room (Nat.le_of_ble_eq_true rfl)) dX7_sellOn_12 ⟨Nat.zero_le _, Nat.zero_le _⟩) (fun r_5 hf => ?_)
    refine lv_istore (lv' := [(5, .int r_5), (4, .int x4_3), (0, .ref (q0 0)), (1, .int p0), (2, .int p1), (3, .int p2)]) hx hb dX7_sellOn_15 hl (by decide) rfl (fun ls hl => ?_)
    refine lv_aload_n hx hb dX7_sellOn_17 rfl (lv_at hl 2 rfl) ?_
    refine lv_iload_n hx hb dX7_sellOn_18 rfl (lv_at hl 3 rfl) ?_
    refine lv_iload_n hx hb dX7_sellOn_19 rfl (lv_at hl 5 rfl) ?_
    refine lv_aload_n hx hb dX7_sellOn_20 rfl (lv_at hl 2 rfl) ?_
    refine va_get (D := D) (ci := 5) (v := .ref (q0 4)) (C := RX7) (T := TX7) (N := 28) hx hb ht inX7 hown hK hP 0 eM_0 rfl 5 (by decide) (ht _ tw_660) (fun _ h9 => h9) rfl dX7_sellOn_21 ?_
    refine lv_iload hx hb dX7_sellOn_24 (lv_at hl 1 rfl) ?_
    refine lv_bipush (v := (20 : Int32)) hx hb dX7_sellOn_26 (by decide) ?_
    refine lv_iadd hx hb dX7_sellOn_28 ?_
    refine lv_iload_n hx hb dX7_sellOn_29 rfl (lv_at hl 4 rfl) ?_
    refine lv_iadd hx hb dX7_sellOn_30 ?_
    obtain ⟨hi_6, hf⟩ := hf
    refine va_iald hx hb hK hP 4 0 eM_4 rfl hi_6 dX7_sellOn_31 ?_
    refine lv_iload hx hb dX7_sellOn_32 (lv_at hl 0 rfl) ?_
    have hPc : va_P D classes (wM cI cZ q0 s0) H := hP
    have hDc : va_D A (wM cI cZ q0 s0) := hD
    have hFc := va_free (wc := (wM cI cZ q0 s0)) hD hS hA [0, 1, 2, 3, 4, 5, 6, 7, 8, 9, 10, 11, 12, 13, 14, 15] rfl
    refine va_callv (va_runV (As := [.int p0, .int p2, .int ((s0.2.1 5) ((x4_3 + (20 : Int32)) + p1).toNatClampNeg), .int r_5]) (rest := []) ⟨hx, hb, hml, hown, hts⟩ (c_X7_pay l D cI cZ cW q0 H.size p0 p2 ((s0.2.1 5) ((x4_3 + (20 : Int32)) + p1).toNatClampNeg) r_5 s0 _ hf) ⟨callB_of 4 hts (gA tw_852) rfl rfl rfl (ht _ tw_7) (ht _ tw_849) hd_X7_pay ⟨Nat.le_of_ble_eq_true rfl, Nat.le_of_ble_eq_true rfl⟩, ht _ tw_851, ht _ twp_32⟩ ⟨PW_blind, va_recv hK hP (ci := 5) (q0 := 0) rfl eM_0, fun U hU hW => PW_mk hPc hDc hK hU hW⟩ rfl rfl hl.1 rfl (lv_room (Nat.le_of_ble_eq_true rfl)) dX7_sellOn_34 ⟨Nat.zero_le _, Nat.zero_le _⟩) hS (fun q _ h => hFc q h) hFc (fun u t H1 locs ht1 hvm hf hB hz1 hk1 hS => ?_)
    obtain ⟨s0_7, rfl⟩ : ∃ z, z = u := ⟨_, rfl⟩
    rw [ht1] at hB
    have hP := hB
    have hD := hDk s0_7
    generalize H1 = H at hP hS ⊢
    have hP : va_P D classes (wM cI cZ q0 s0_7) H := hP
    have hD : va_D A (wM cI cZ q0 s0_7) := hD
    refine lv_aload_n hx hb dX7_sellOn_37 rfl (lv_at hl 2 rfl) ?_
    refine va_get (D := D) (ci := 5) (v := .ref (q0 4)) (C := RX7) (T := TX7) (N := 28) hx hb ht inX7 hown hK hP 0 eM_0 rfl 5 (by decide) (ht _ tw_660) (fun _ h9 => h9) rfl dX7_sellOn_38 ?_
    refine lv_iload hx hb dX7_sellOn_41 (lv_at hl 1 rfl) ?_
    refine lv_bipush (v := (20 : Int32)) hx hb dX7_sellOn_43 (by decide) ?_
    refine lv_iadd hx hb dX7_sellOn_45 ?_
    refine lv_iload_n hx hb dX7_sellOn_46 rfl (lv_at hl 4 rfl) ?_
    refine lv_iadd hx hb dX7_sellOn_47 ?_
    refine lv_iload_n hx hb dX7_sellOn_48 rfl (lv_at hl 5 rfl) ?_
    obtain ⟨hi_8, hf⟩ := hf
    refine va_iast hx hb hK hP hD hS 4 0 eM_4 rfl hi_8 dX7_sellOn_49 (fun H locs hP hD hS => ?_)
    obtain ⟨s0_9, es0_9⟩ : ∃ y : CS, y = sA s0_7 5 ((x4_3 + (20 : Int32)) + p1).toNatClampNeg p2 := ⟨_, rfl⟩
    have hf := hf s0_9 es0_9
    have hD := hDk s0_9
    have hP : va_P D classes (wM cI cZ q0 s0_9) H := by rw [es0_9]; exact PM_F5 hP
    refine lv_aload_n hx hb dX7_sellOn_50 rfl (lv_at hl 2 rfl) ?_
    refine va_get (D := D) (ci := 5) (v := .ref (q0 4)) (C := RX7) (T := TX7) (N := 28) hx hb ht inX7 hown hK hP 0 eM_0 rfl 5 (by decide) (ht _ tw_660) (fun _ h9 => h9) rfl dX7_sellOn_51 ?_
    refine lv_iload hx hb dX7_sellOn_54 (lv_at hl 1 rfl) ?_
    refine lv_bipush (v := (25 : Int32)) hx hb dX7_sellOn_56 (by decide) ?_
    refine lv_iadd hx hb dX7_sellOn_58 ?_
    refine lv_iload_n hx hb dX7_sellOn_59 rfl (lv_at hl 4 rfl) ?_
    refine lv_iadd hx hb dX7_sellOn_60 ?_
    refine lv_aload_n hx hb dX7_sellOn_61 rfl (lv_at hl 2 rfl) ?_
    refine va_get (D := D) (ci := 5) (v := .ref (q0 4)) (C := RX7) (T := TX7) (N := 28) hx hb ht inX7 hown hK hP 0 eM_0 rfl 5 (by decide) (ht _ tw_660) (fun _ h9 => h9) rfl dX7_sellOn_62 ?_
    refine lv_iload hx hb dX7_sellOn_65 (lv_at hl 1 rfl) ?_
    refine lv_bipush (v := (25 : Int32)) hx hb dX7_sellOn_67 (by decide) ?_
    refine lv_iadd hx hb dX7_sellOn_69 ?_
    refine lv_iload_n hx hb dX7_sellOn_70 rfl (lv_at hl 4 rfl) ?_
    refine lv_iadd hx hb dX7_sellOn_71 ?_
    obtain ⟨hi_10, hf⟩ := hf
    refine va_iald hx hb hK hP 4 0 eM_4 rfl hi_10 dX7_sellOn_72 ?_
    refine lv_iload_n hx hb dX7_sellOn_73 rfl (lv_at hl 5 rfl) ?_
    refine lv_icmp_ne (tgt := 82) hx hb dX7_sellOn_74 (by decide) (fun c_11 => ?_) (fun c_11 => ?_)
    · have hf := hf.1 c_11
      refine lv_aload_n hx hb dX7_sellOn_82 rfl (lv_at hl 2 rfl) ?_
      refine va_get (D := D) (ci := 5) (v := .ref (q0 4)) (C := RX7) (T := TX7) (N := 28) hx hb ht inX7 hown hK hP 0 eM_0 rfl 5 (by decide) (ht _ tw_660) (fun _ h9 => h9) rfl dX7_sellOn_83 ?_
      refine lv_iload hx hb dX7_sellOn_86 (lv_at hl 1 rfl) ?_
      refine lv_bipush (v := (25 : Int32)) hx hb dX7_sellOn_88 (by decide) ?_
      refine lv_iadd hx hb dX7_sellOn_90 ?_
      refine lv_iload_n hx hb dX7_sellOn_91 rfl (lv_at hl 4 rfl) ?_
      refine lv_iadd hx hb dX7_sellOn_92 ?_
      obtain ⟨hi_12, hf⟩ := hf
      refine va_iald hx hb hK hP 4 0 eM_4 rfl hi_12 dX7_sellOn_93 ?_
      exact k_94 r_5 ((s0_9.2.1 5) ((x4_3 + (25 : Int32)) + p1).toNatClampNeg) ((x4_3 + (25 : Int32)) + p1) s0_9 H locs ls hf hP hD hS (lv_sub hl [0] rfl)
    · have hf := hf.2 c_11
      refine lv_bipush (v := (-9 : Int32)) hx hb dX7_sellOn_77 (by decide) ?_
      refine lv_goto (tgt := 94) hx hb dX7_sellOn_79 (by decide) ?_
      exact k_94 r_5 (-9 : Int32) ((x4_3 + (25 : Int32)) + p1) s0_9 H locs ls hf hP hD hS (lv_sub hl [0] rfl)
  exact start s.heap [] hP hD hS
def wp_X7_sell (p0 : Int32) (p1 : Int32) (s0 : CS) (Q : Int32 → CS → Prop) : Prop := wp_X7_isHole p0 s0 (fun r_1 => ((r_1 = 0 → Q (-1 : Int32) s0) ∧ (¬ r_1 = 0 → wp_X7_isOwner p1 s0 (fun r_3 => ((¬ r_3 = 0 → wp_X7_canSell (0 : Int32) p0 p1 s0 (fun r_5 => ((¬ r_5 = 0 → wp_X7_keepAct s0 (fun s0_7 => wp_X7_sellOn (0 : Int32) p0 p1 s0_7 (fun r_9 s0_8 => Q r_9 s0_8))) ∧ (r_5 = 0 → Q (-3 : Int32) s0)))) ∧ (r_3 = 0 → Q (-1 : Int32) s0))))))
set_option maxHeartbeats 4000000 in
set_option maxRecDepth 100000 in
theorem c_X7_sell (l : Launch) (D : va_G) (cI cZ cW : ClassId) (q0 : Nat → Nat) (sz : Nat) (p0 : Int32) (p1 : Int32) (s0 : CS) (Q : Int32 → CS → Prop) (hf : wp_X7_sell p0 p1 s0 Q) : Met l yX7_sell (wsA yX7_sell cX7_sell 3 (some .int)) ({ frames := 3, cells := 0, slots := 0, locals := 70 }) (PW D cI cZ cW [.ref (q0 0), .int p0, .int p1] (wM cI cZ q0 s0) sz) (va_Qi (fun (r : Int32) (u : CS) => Q r u) (fun u t => va_P D classes (wM cI cZ q0 u) t.heap) (va_A (wM cI cZ q0 s0) sz)) 0 0 (va_A (wM cI cZ q0 s0) sz) := by
  refine Met.ofW (cc := cX7_sell) (maxL := 3) (ret := (some .int)) (by decide) rfl ?_
  intro p e s m args below meth c s₁ B hml hv
  obtain ⟨rfl, hsz, hP, hK, hD0⟩ := hv
  have hx := B.exec
  have hb := B.bytes
  have hr := B.returns
  have hts := atoms_spec (ws := (wsA yX7_sell cX7_sell 3 (some .int))) B.pre
  have ht : ∀ w ∈ lw_g, w.before _ s = true := fun w h => hts w (List.mem_cons_of_mem _ h)
  have hown : s.vm.findClass RX7 = some m.cls := findClass_of_methodNamed B.named
  have hlocks := B.notSynchronized
  subst hsz
  have hD := hD0.self (sz := s.heap.size)
  generalize hAe : va_A (wM cI cZ q0 s0) s.heap.size = A at hD ⊢
  have hA : ∀ q : Nat, s.heap.size ≤ q → A q := fun q h => by rw [← hAe]; exact Or.inr h
  have hS : va_S A s.heap s.heap [] := va_S.rf
  have hDk : ∀ w : CS, va_D A (wM cI cZ q0 w) := fun w => D_M hD
  have hl := lv_entry ([.ref (q0 0), .int p0, .int p1]) (n := 3) (Nat.le_of_ble_eq_true rfl)
  rw [lg_entry_eq]
  generalize (lg_sl ([.ref (q0 0), .int p0, .int p1]) ++ List.replicate (3 - (lg_sl ([.ref (q0 0), .int p0, .int p1])).length) Slot.unset).toArray = ls at hl ⊢
  have hl : lv_has ls 3 [(0, .ref (q0 0)), (1, .int p0), (2, .int p1)] := hl
  unfold wp_X7_sell at hf
  have start : ∀ (H : Heap) (locs : List Loc), va_P D classes (wM cI cZ q0 s0) H → va_D A (wM cI cZ q0 s0) → va_S A s.heap H locs → W p l e (headSpec (wsA yX7_sell cX7_sell 3 (some .int)) ({ frames := 3, cells := 0, slots := 0, locals := 70 })).room s m (#[.ref (q0 0), .int p0, .int p1] : Array Value) below meth c H locs 0 0 (MQ below (va_Qi (fun (r : Int32) (u : CS) => Q r u) (fun u t => va_P D classes (wM cI cZ q0 u) t.heap) A) (#[.ref (q0 0), .int p0, .int p1] : Array Value) s 0 0 A) (F0 m 0 ls []) := by
    intro H locs hP hD hS
    refine lv_aload_n hx hb dX7_sell_0 rfl (lv_at hl 0 rfl) ?_
    refine lv_iload_n hx hb dX7_sell_1 rfl (lv_at hl 1 rfl) ?_
    have hPc : va_P D classes (wM cI cZ q0 s0) H := hP
    refine vp_callSi (W.runV (As := [.int p0]) (rest := []) ⟨hx, hb, hml, hown, hts⟩ (c_X7_isHole l D cI cZ cW q0 p0 s0 _ hf) ⟨callB_of 1 hts (gA tw_803) rfl rfl rfl (ht _ tw_7) (ht _ tw_800) hd_X7_isHole ⟨Nat.le_of_ble_eq_true rfl, Nat.le_of_ble_eq_true rfl⟩, ht _ tw_802, ht _ twp_24⟩ ⟨PR_blind, va_recv hK hP (ci := 5) (q0 := 0) rfl eM_0, fun U hU hW => PR_mk hPc hK hU hW⟩ rfl rfl hl.1 rfl (lv_room (Nat.le_of_ble_eq_true rfl)) dX7_sell_2 ⟨Nat.zero_le _, Nat.zero_le _⟩) (fun r_1 hf => ?_)
    refine lv_if_eq (tgt := 16) hx hb dX7_sell_5 (by decide) (fun c_2 => ?_) (fun c_2 => ?_)
    · have hf := hf.1 c_2
      refine lv_iconst (v := (-1 : Int32)) hx hb dX7_sell_16 (by decide) ?_
      exact W.iret (v := (-1 : Int32)) hx hb hr (fun t ht hW => ⟨⟨(-1 : Int32), s0, rfl, hf, P_heap ht hP⟩, hS.F ht⟩) hS.2.2 dX7_sell_17
    · have hf := hf.2 c_2
      refine lv_aload_n hx hb dX7_sell_8 rfl (lv_at hl 0 rfl) ?_
      refine lv_iload_n hx hb dX7_sell_9 rfl (lv_at hl 2 rfl) ?_
      have hPc : va_P D classes (wM cI cZ q0 s0) H := hP
      refine vp_callSi (W.runV (As := [.int p1]) (rest := []) ⟨hx, hb, hml, hown, hts⟩ (c_X7_isOwner l D cI cZ cW q0 p1 s0 _ hf) ⟨callB_of 1 hts (gA tw_784) rfl rfl rfl (ht _ tw_7) (ht _ tw_781) hd_X7_isOwner ⟨Nat.le_of_ble_eq_true rfl, Nat.le_of_ble_eq_true rfl⟩, ht _ tw_783, ht _ twp_21⟩ ⟨PR_blind, va_recv hK hP (ci := 5) (q0 := 0) rfl eM_0, fun U hU hW => PR_mk hPc hK hU hW⟩ rfl rfl hl.1 rfl (lv_room (Nat.le_of_ble_eq_true rfl)) dX7_sell_10 ⟨Nat.zero_le _, Nat.zero_le _⟩) (fun r_3 hf => ?_)
      refine lv_if_ne (tgt := 18) hx hb dX7_sell_13 (by decide) (fun c_4 => ?_) (fun c_4 => ?_)
      · have hf := hf.1 c_4
        refine lv_aload_n hx hb dX7_sell_18 rfl (lv_at hl 0 rfl) ?_
        refine lv_iconst (v := (0 : Int32)) hx hb dX7_sell_19 (by decide) ?_
        refine lv_iload_n hx hb dX7_sell_20 rfl (lv_at hl 1 rfl) ?_
        refine lv_iload_n hx hb dX7_sell_21 rfl (lv_at hl 2 rfl) ?_
        have hPc : va_P D classes (wM cI cZ q0 s0) H := hP
        refine vp_callSi (W.runV (As := [.int (0 : Int32), .int p0, .int p1]) (rest := []) ⟨hx, hb, hml, hown, hts⟩ (c_X7_canSell l D cI cZ cW q0 (0 : Int32) p0 p1 s0 _ hf) ⟨callB_of 3 hts (gA tw_892) rfl rfl rfl (ht _ tw_7) (ht _ tw_889) hd_X7_canSell ⟨Nat.le_of_ble_eq_true rfl, Nat.le_of_ble_eq_true rfl⟩, ht _ tw_891, ht _ twp_39⟩ ⟨PR_blind, va_recv hK hP (ci := 5) (q0 := 0) rfl eM_0, fun U hU hW => PR_mk hPc hK hU hW⟩ rfl rfl hl.1 rfl (lv_room (Nat.le_of_ble_eq_true rfl)) dX7_sell_22 ⟨Nat.zero_le _, Nat.zero_le _⟩) (fun r_5 hf => ?_)
        refine lv_if_ne (tgt := 31) hx hb dX7_sell_25 (by decide) (fun c_6 => ?_) (fun c_6 => ?_)
        · have hf := hf.1 c_6
          refine lv_aload_n hx hb dX7_sell_31 rfl (lv_at hl 0 rfl) ?_
          have hPc : va_P D classes (wM cI cZ q0 s0) H := hP
          have hDc : va_D A (wM cI cZ q0 s0) := hD
          have hFc := va_free (wc := (wM cI cZ q0 s0)) hD hS hA [0, 1, 2, 3, 4, 5, 6, 7, 8, 9, 10, 11, 12, 13, 14, 15] rfl
          refine va_callv (va_runV (As := []) (rest := []) ⟨hx, hb, hml, hown, hts⟩ (c_X7_keepAct l D cI cZ cW q0 H.size s0 _ hf) ⟨callB_of 0 hts (gA tw_822) rfl rfl rfl (ht _ tw_7) (ht _ tw_819) hd_X7_keepAct ⟨Nat.le_of_ble_eq_true rfl, Nat.le_of_ble_eq_true rfl⟩, ht _ tw_821, ht _ twp_26⟩ ⟨PW_blind, va_recv hK hP (ci := 5) (q0 := 0) rfl eM_0, fun U hU hW => PW_mk hPc hDc hK hU hW⟩ rfl rfl hl.1 rfl (lv_room (Nat.le_of_ble_eq_true rfl)) dX7_sell_32 ⟨Nat.zero_le _, Nat.zero_le _⟩) hS (fun q _ h => hFc q h) hFc (fun u t H1 locs ht1 hvm hf hB hz1 hk1 hS => ?_)
          obtain ⟨s0_7, rfl⟩ : ∃ z, z = u := ⟨_, rfl⟩
          rw [ht1] at hB
          have hP := hB
          have hD := hDk s0_7
          generalize H1 = H at hP hS ⊢
          have hP : va_P D classes (wM cI cZ q0 s0_7) H := hP
          have hD : va_D A (wM cI cZ q0 s0_7) := hD
          refine lv_aload_n hx hb dX7_sell_35 rfl (lv_at hl 0 rfl) ?_
          refine lv_iconst (v := (0 : Int32)) hx hb dX7_sell_36 (by decide) ?_
          refine lv_iload_n hx hb dX7_sell_37 rfl (lv_at hl 1 rfl) ?_
          refine lv_iload_n hx hb dX7_sell_38 rfl (lv_at hl 2 rfl) ?_
          have hPc : va_P D classes (wM cI cZ q0 s0_7) H := hP
          have hDc : va_D A (wM cI cZ q0 s0_7) := hD
          have hFc := va_free (wc := (wM cI cZ q0 s0_7)) hD hS hA [0, 1, 2, 3, 4, 5, 6, 7, 8, 9, 10, 11, 12, 13, 14, 15] rfl
          refine va_calli (va_runV (As := [.int (0 : Int32), .int p0, .int p1]) (rest := []) ⟨hx, hb, hml, hown, hts⟩ (c_X7_sellOn l D cI cZ cW q0 H.size (0 : Int32) p0 p1 s0_7 _ hf) ⟨callB_of 3 hts (gA tw_896) rfl rfl rfl (ht _ tw_7) (ht _ tw_893) hd_X7_sellOn ⟨Nat.le_of_ble_eq_true rfl, Nat.le_of_ble_eq_true rfl⟩, ht _ tw_895, ht _ twp_40⟩ ⟨PW_blind, va_recv hK hP (ci := 5) (q0 := 0) rfl eM_0, fun U hU hW => PW_mk hPc hDc hK hU hW⟩ rfl rfl hl.1 rfl (lv_room (Nat.le_of_ble_eq_true rfl)) dX7_sell_39 ⟨Nat.zero_le _, Nat.zero_le _⟩) hS (fun q _ h => hFc q h) hFc (fun r_9 u t H1 locs ht1 hvm hf hB hz1 hk1 hS => ?_)
          obtain ⟨s0_8, rfl⟩ : ∃ z, z = u := ⟨_, rfl⟩
          rw [ht1] at hB
          have hP := hB
          have hD := hDk s0_8
          generalize H1 = H at hP hS ⊢
          have hP : va_P D classes (wM cI cZ q0 s0_8) H := hP
          have hD : va_D A (wM cI cZ q0 s0_8) := hD
          exact W.iret (v := r_9) hx hb hr (fun t ht hW => ⟨⟨r_9, s0_8, rfl, hf, P_heap ht hP⟩, hS.F ht⟩) hS.2.2 dX7_sell_42
        · have hf := hf.2 c_6
          refine lv_bipush (v := (-3 : Int32)) hx hb dX7_sell_28 (by decide) ?_
          exact W.iret (v := (-3 : Int32)) hx hb hr (fun t ht hW => ⟨⟨(-3 : Int32), s0, rfl, hf, P_heap ht hP⟩, hS.F ht⟩) hS.2.2 dX7_sell_30
      · have hf := hf.2 c_4
        refine lv_iconst (v := (-1 : Int32)) hx hb dX7_sell_16 (by decide) ?_
        exact W.iret (v := (-1 : Int32)) hx hb hr (fun t ht hW => ⟨⟨(-1 : Int32), s0, rfl, hf, P_heap ht hP⟩, hS.F ht⟩) hS.2.2 dX7_sell_17
  exact start s.heap [] hP hD hS
def LB_X7_undo_36 (G36 : (Int32 × CS) → Prop)  (x1 : Int32) (s0 : CS) (Q : Int32 → CS → Prop) : Prop := (((35 : Int32) ≤ x1 → Q (s0.1 17) s0) ∧ (¬ (35 : Int32) ≤ x1 → vp_in (((35 : Int32) * (s0.1 18)) + x1) 490 ∧ vp_in x1 70 ∧ ∀ s0_4 : CS, s0_4 = sA s0 5 x1.toNatClampNeg ((s0.2.1 19) (((35 : Int32) * (s0.1 18)) + x1).toNatClampNeg) → ∀ x1_5 : Int32, x1_5 = x1 + (1 : Int32) → G36 (x1_5, s0_4)))
def B_X7_undo_36  (x1 : Int32) (s0 : CS) (Q : Int32 → CS → Prop) : Prop := LOOP (fun (G36 : (Int32 × CS) → Prop) z => LB_X7_undo_36 G36  z.1 z.2 Q) (x1, s0)
def wp_X7_undo (s0 : CS) (Q : Int32 → CS → Prop) : Prop := ((¬ (s0.1 17) = 0 → ∀ s0_7 : CS, s0_7 = sI s0 17 ((s0.1 17) - (1 : Int32)) → ∀ s0_8 : CS, s0_8 = sI s0_7 18 (((s0_7.1 18) + (13 : Int32)) - ((s0_7.1 18) + (13 : Int32)) / (14 : Int32) * (14 : Int32)) → B_X7_undo_36  (0 : Int32) s0_8 Q) ∧ ((s0.1 17) = 0 → Q (-3 : Int32) s0))
set_option maxHeartbeats 4000000 in
set_option maxRecDepth 100000 in
theorem c_X7_undo (l : Launch) (D : va_G) (cI cZ cW : ClassId) (q0 : Nat → Nat) (sz : Nat) (s0 : CS) (Q : Int32 → CS → Prop) (hf : wp_X7_undo s0 Q) : Met l yX7_undo (wsA yX7_undo cX7_undo 2 (some .int)) ({ frames := 0, cells := 0, slots := 0, locals := 0 }) (PW D cI cZ cW [.ref (q0 0)] (wM cI cZ q0 s0) sz) (va_Qi (fun (r : Int32) (u : CS) => Q r u) (fun u t => va_P D classes (wM cI cZ q0 u) t.heap) (va_A (wM cI cZ q0 s0) sz)) 0 0 (va_A (wM cI cZ q0 s0) sz) := by
  refine Met.ofW (cc := cX7_undo) (maxL := 2) (ret := (some .int)) (by decide) rfl ?_
  intro p e s m args below meth c s₁ B hml hv
  obtain ⟨rfl, hsz, hP, hK, hD0⟩ := hv
  have hx := B.exec
  have hb := B.bytes
  have hr := B.returns
  have hts := atoms_spec (ws := (wsA yX7_undo cX7_undo 2 (some .int))) B.pre
  have ht : ∀ w ∈ lw_g, w.before _ s = true := fun w h => hts w (List.mem_cons_of_mem _ h)
  have hown : s.vm.findClass RX7 = some m.cls := findClass_of_methodNamed B.named
  have hlocks := B.notSynchronized
  subst hsz
  have hD := hD0.self (sz := s.heap.size)
  generalize hAe : va_A (wM cI cZ q0 s0) s.heap.size = A at hD ⊢
  have hA : ∀ q : Nat, s.heap.size ≤ q → A q := fun q h => by rw [← hAe]; exact Or.inr h
  have hS : va_S A s.heap s.heap [] := va_S.rf
  have hDk : ∀ w : CS, va_D A (wM cI cZ q0 w) := fun w => D_M hD
  have hl := lv_entry ([.ref (q0 0)]) (n := 2) (Nat.le_of_ble_eq_true rfl)
  rw [lg_entry_eq]
  generalize (lg_sl ([.ref (q0 0)]) ++ List.replicate (2 - (lg_sl ([.ref (q0 0)])).length) Slot.unset).toArray = ls at hl ⊢
  have hl : lv_has ls 2 [(0, .ref (q0 0))] := hl
  unfold wp_X7_undo at hf
  have k_36 : ∀ (x1 : Int32) (s0 : CS) (H : Heap) (locs : List Loc) (ls : Array Slot), B_X7_undo_36  x1 s0 Q → va_P D classes (wM cI cZ q0 s0) H → va_D A (wM cI cZ q0 s0) → va_S A s.heap H locs → lv_has ls 2 [(0, .ref (q0 0)), (1, .int x1)] → W p l e (headSpec (wsA yX7_undo cX7_undo 2 (some .int)) ({ frames := 0, cells := 0, slots := 0, locals := 0 })).room s m (#[.ref (q0 0)] : Array Value) below meth c H locs 0 0 (MQ below (va_Qi (fun (r : Int32) (u : CS) => Q r u) (fun u t => va_P D classes (wM cI cZ q0 u) t.heap) A) (#[.ref (q0 0)] : Array Value) s 0 0 A) (F0 m 36 ls []) := by
    intro x1 s0 H locs ls hf hP hD hS hl
    unfold B_X7_undo_36 at hf
    obtain ⟨I_36, ⟨n0_36, hI0_36⟩, hst_36⟩ := hf
    have main_36 : ∀ (n : Nat) (x1 : Int32) (s0 : CS) (H : Heap) (locs : List Loc) (ls : Array Slot), I_36 n (x1, s0) → va_P D classes (wM cI cZ q0 s0) H → va_D A (wM cI cZ q0 s0) → va_S A s.heap H locs → lv_has ls 2 [(0, .ref (q0 0)), (1, .int x1)] → W p l e (headSpec (wsA yX7_undo cX7_undo 2 (some .int)) ({ frames := 0, cells := 0, slots := 0, locals := 0 })).room s m (#[.ref (q0 0)] : Array Value) below meth c H locs 0 0 (MQ below (va_Qi (fun (r : Int32) (u : CS) => Q r u) (fun u t => va_P D classes (wM cI cZ q0 u) t.heap) A) (#[.ref (q0 0)] : Array Value) s 0 0 A) (F0 m 36 ls []) := by
      intro n
      induction n using Nat.strongRecOn with
      | _ n_36 ih_36 =>
      intro x1 s0 H locs ls hI hP hD hS hl
      have hf : LB_X7_undo_36 (fun z => ∃ k, k < n_36 ∧ I_36 k z)  x1 s0 Q := hst_36 n_36 (x1, s0) hI
      have hG_36 : ∀ (x1 : Int32) (s0 : CS) (H : Heap) (locs : List Loc) (ls : Array Slot), (∃ k, k < n_36 ∧ I_36 k (x1, s0)) → va_P D classes (wM cI cZ q0 s0) H → va_D A (wM cI cZ q0 s0) → va_S A s.heap H locs → lv_has ls 2 [(0, .ref (q0 0)), (1, .int x1)] → W p l e (headSpec (wsA yX7_undo cX7_undo 2 (some .int)) ({ frames := 0, cells := 0, slots := 0, locals := 0 })).room s m (#[.ref (q0 0)] : Array Value) below meth c H locs 0 0 (MQ below (va_Qi (fun (r : Int32) (u : CS) => Q r u) (fun u t => va_P D classes (wM cI cZ q0 u) t.heap) A) (#[.ref (q0 0)] : Array Value) s 0 0 A) (F0 m 36 ls []) := by
        rintro x1 s0 H locs ls ⟨k, hk, hI⟩ hP hD hS hl
        exact ih_36 k hk x1 s0 H locs ls hI hP hD hS hl
      unfold LB_X7_undo_36 at hf
      refine lv_iload_n hx hb dX7_undo_36 rfl (lv_at hl 1 rfl) ?_
      refine lv_bipush (v := (35 : Int32)) hx hb dX7_undo_37 (by decide) ?_
      refine lv_icmp_ge (tgt := 68) hx hb dX7_undo_39 (by decide) (fun c_1 => ?_) (fun c_1 => ?_)
      · have hf := hf.1 c_1
        refine lv_aload_n hx hb dX7_undo_68 rfl (lv_at hl 0 rfl) ?_
        refine va_get (D := D) (ci := 5) (v := .int (s0.1 17)) (C := RX7) (T := TX7) (N := 28) hx hb ht inX7 hown hK hP 0 eM_0 rfl 17 (by decide) (ht _ tw_672) (fun _ h9 => h9) rfl dX7_undo_69 ?_
        exact W.iret (v := (s0.1 17)) hx hb hr (fun t ht hW => ⟨⟨(s0.1 17), s0, rfl, hf, P_heap ht hP⟩, hS.F ht⟩) hS.2.2 dX7_undo_72
      · have hf := hf.2 c_1
        refine lv_aload_n hx hb dX7_undo_42 rfl (lv_at hl 0 rfl) ?_
        refine va_get (D := D) (ci := 5) (v := .ref (q0 4)) (C := RX7) (T := TX7) (N := 28) hx hb ht inX7 hown hK hP 0 eM_0 rfl 5 (by decide) (ht _ tw_660) (fun _ h9 => h9) rfl dX7_undo_43 ?_
        refine lv_iload_n hx hb dX7_undo_46 rfl (lv_at hl 1 rfl) ?_
        refine lv_aload_n hx hb dX7_undo_47 rfl (lv_at hl 0 rfl) ?_
        refine va_get (D := D) (ci := 5) (v := .ref (q0 9)) (C := RX7) (T := TX7) (N := 28) hx hb ht inX7 hown hK hP 0 eM_0 rfl 19 (by decide) (ht _ tw_674) (fun _ h9 => h9) rfl dX7_undo_48 ?_
        refine lv_bipush (v := (35 : Int32)) hx hb dX7_undo_51 (by decide) ?_
        refine lv_aload_n hx hb dX7_undo_53 rfl (lv_at hl 0 rfl) ?_
        refine va_get (D := D) (ci := 5) (v := .int (s0.1 18)) (C := RX7) (T := TX7) (N := 28) hx hb ht inX7 hown hK hP 0 eM_0 rfl 18 (by decide) (ht _ tw_673) (fun _ h9 => h9) rfl dX7_undo_54 ?_
        refine lv_imul hx hb dX7_undo_57 ?_
        refine lv_iload_n hx hb dX7_undo_58 rfl (lv_at hl 1 rfl) ?_
        refine lv_iadd hx hb dX7_undo_59 ?_
        obtain ⟨hi_2, hf⟩ := hf
        refine va_iald hx hb hK hP 9 0 eM_9 rfl hi_2 dX7_undo_60 ?_
        obtain ⟨hi_3, hf⟩ := hf
        refine va_iast hx hb hK hP hD hS 4 0 eM_4 rfl hi_3 dX7_undo_61 (fun H locs hP hD hS => ?_)
        obtain ⟨s0_4, es0_4⟩ : ∃ y : CS, y = sA s0 5 x1.toNatClampNeg ((s0.2.1 19) (((35 : Int32) * (s0.1 18)) + x1).toNatClampNeg) := ⟨_, rfl⟩
        have hf := hf s0_4 es0_4
        have hD := hDk s0_4
        have hP : va_P D classes (wM cI cZ q0 s0_4) H := by rw [es0_4]; exact PM_F5 hP
        obtain ⟨x1_5, ex1_5⟩ : ∃ y : Int32, y = x1 + (1 : Int32) := ⟨_, rfl⟩
        have hf := hf x1_5 ex1_5
        refine lv_iinc (v := x1_5) (lv' := [(1, .int x1_5), (0, .ref (q0 0))]) hx hb dX7_undo_62 hl (k := 1) rfl (by rw [ex1_5]; rfl) (by decide) rfl (fun ls hl => ?_)
        refine lv_goto (tgt := 36) hx hb dX7_undo_65 (by decide) ?_
        exact hG_36 x1_5 s0_4 H locs ls hf hP hD hS (lv_sub hl [1, 0] rfl)
    exact main_36 n0_36 x1 s0 H locs ls hI0_36 hP hD hS hl
  have start : ∀ (H : Heap) (locs : List Loc), va_P D classes (wM cI cZ q0 s0) H → va_D A (wM cI cZ q0 s0) → va_S A s.heap H locs → W p l e (headSpec (wsA yX7_undo cX7_undo 2 (some .int)) ({ frames := 0, cells := 0, slots := 0, locals := 0 })).room s m (#[.ref (q0 0)] : Array Value) below meth c H locs 0 0 (MQ below (va_Qi (fun (r : Int32) (u : CS) => Q r u) (fun u t => va_P D classes (wM cI cZ q0 u) t.heap) A) (#[.ref (q0 0)] : Array Value) s 0 0 A) (F0 m 0 ls []) := by
    intro H locs hP hD hS
    refine lv_aload_n hx hb dX7_undo_0 rfl (lv_at hl 0 rfl) ?_
    refine va_get (D := D) (ci := 5) (v := .int (s0.1 17)) (C := RX7) (T := TX7) (N := 28) hx hb ht inX7 hown hK hP 0 eM_0 rfl 17 (by decide) (ht _ tw_672) (fun _ h9 => h9) rfl dX7_undo_1 ?_
    refine lv_if_ne (tgt := 10) hx hb dX7_undo_4 (by decide) (fun c_6 => ?_) (fun c_6 => ?_)
    · have hf := hf.1 c_6
      refine lv_aload_n hx hb dX7_undo_10 rfl (lv_at hl 0 rfl) ?_
      refine lv_dup hx hb dX7_undo_11 rfl ?_
      refine va_get (D := D) (ci := 5) (v := .int (s0.1 17)) (C := RX7) (T := TX7) (N := 28) hx hb ht inX7 hown hK hP 0 eM_0 rfl 17 (by decide) (ht _ tw_672) (fun _ h9 => h9) rfl dX7_undo_12 ?_
      refine lv_iconst (v := (1 : Int32)) hx hb dX7_undo_15 (by decide) ?_
      refine lv_isub hx hb dX7_undo_16 ?_
      refine va_put (D := D) (ci := 5) (v := .int ((s0.1 17) - (1 : Int32))) (ty := .int) (C := RX7) (T := TX7) (N := 28) hx hb ht inX7 tyX7 tyX7_ok nmX7 hown hK hP hD hS 0 eM_0 rfl 17 (by decide) (ht _ tw_672) (fun _ h9 => h9) rfl pf_I rfl rfl (Nat.le_of_ble_eq_true rfl) dX7_undo_17 (fun H locs hP hD hS => ?_)
      obtain ⟨s0_7, es0_7⟩ : ∃ y : CS, y = sI s0 17 ((s0.1 17) - (1 : Int32)) := ⟨_, rfl⟩
      have hf := hf s0_7 es0_7
      have hD := hDk s0_7
      have hP : va_P D classes (wM cI cZ q0 s0_7) H := by rw [es0_7]; exact PM_I17 hP
      refine lv_aload_n hx hb dX7_undo_20 rfl (lv_at hl 0 rfl) ?_
      refine lv_aload_n hx hb dX7_undo_21 rfl (lv_at hl 0 rfl) ?_
      refine va_get (D := D) (ci := 5) (v := .int (s0_7.1 18)) (C := RX7) (T := TX7) (N := 28) hx hb ht inX7 hown hK hP 0 eM_0 rfl 18 (by decide) (ht _ tw_673) (fun _ h9 => h9) rfl dX7_undo_22 ?_
      refine lv_bipush (v := (13 : Int32)) hx hb dX7_undo_25 (by decide) ?_
      refine lv_iadd hx hb dX7_undo_27 ?_
      refine lv_bipush (v := (14 : Int32)) hx hb dX7_undo_28 (by decide) ?_
      refine lv_irem hx hb dX7_undo_30 (by decide) ?_
      refine va_put (D := D) (ci := 5) (v := .int (((s0_7.1 18) + (13 : Int32)) - ((s0_7.1 18) + (13 : Int32)) / (14 : Int32) * (14 : Int32))) (ty := .int) (C := RX7) (T := TX7) (N := 28) hx hb ht inX7 tyX7 tyX7_ok nmX7 hown hK hP hD hS 0 eM_0 rfl 18 (by decide) (ht _ tw_673) (fun _ h9 => h9) rfl pf_I rfl rfl (Nat.le_of_ble_eq_true rfl) dX7_undo_31 (fun H locs hP hD hS => ?_)
      obtain ⟨s0_8, es0_8⟩ : ∃ y : CS, y = sI s0_7 18 (((s0_7.1 18) + (13 : Int32)) - ((s0_7.1 18) + (13 : Int32)) / (14 : Int32) * (14 : Int32)) := ⟨_, rfl⟩
      have hf := hf s0_8 es0_8
      have hD := hDk s0_8
      have hP : va_P D classes (wM cI cZ q0 s0_8) H := by rw [es0_8]; exact PM_I18 hP
      refine lv_iconst (v := (0 : Int32)) hx hb dX7_undo_34 (by decide) ?_
      refine lv_istore_n (lv' := [(1, .int (0 : Int32)), (0, .ref (q0 0))]) hx hb dX7_undo_35 rfl hl (by decide) rfl (fun ls hl => ?_)
      exact k_36 (0 : Int32) s0_8 H locs ls hf hP hD hS (lv_sub hl [1, 0] rfl)
    · have hf := hf.2 c_6
      refine lv_bipush (v := (-3 : Int32)) hx hb dX7_undo_7 (by decide) ?_
      exact W.iret (v := (-3 : Int32)) hx hb hr (fun t ht hW => ⟨⟨(-3 : Int32), s0, rfl, hf, P_heap ht hP⟩, hS.F ht⟩) hS.2.2 dX7_undo_9
  exact start s.heap [] hP hD hS
def LB_X7_stepsBy_9 (G9 : (Int32 × Int32 × Int32 × Int32) → Prop)  (x1 : Int32) (x2 : Int32) (x3 : Int32) (x4 : Int32) (Q : Int32 → Prop) : Prop := (((20 : Int32) ≤ x4 → Q (-9 : Int32)) ∧ (¬ (20 : Int32) ≤ x4 → wp_X7_has x3 x1 (fun r_2 => ((r_2 = 0 → wp_X7_beside x3 (fun r_4 => ∀ x3_5 : Int32, x3_5 = (x3 ||| (r_4 &&& x2)) → ∀ x4_6 : Int32, x4_6 = x4 + (1 : Int32) → G9 (x1, x2, x3_5, x4_6))) ∧ (¬ r_2 = 0 → Q x4)))))
def B_X7_stepsBy_9  (x1 : Int32) (x2 : Int32) (x3 : Int32) (x4 : Int32) (Q : Int32 → Prop) : Prop := LOOP (fun (G9 : (Int32 × Int32 × Int32 × Int32) → Prop) z => LB_X7_stepsBy_9 G9  z.1 z.2.1 z.2.2.1 z.2.2.2 Q) (x1, x2, x3, x4)
def wp_X7_stepsBy (p0 : Int32) (p1 : Int32) (p2 : Int32) (Q : Int32 → Prop) : Prop := ∀ x3_7 : Int32, x3_7 = (((1 : Int32) <<< (p0 &&& 31)) &&& p2) → B_X7_stepsBy_9  p1 p2 x3_7 (0 : Int32) Q
set_option maxHeartbeats 4000000 in
set_option maxRecDepth 100000 in
theorem c_X7_stepsBy (l : Launch) (D : va_G) (cI cZ cW : ClassId)  (p0 : Int32) (p1 : Int32) (p2 : Int32) (Q : Int32 → Prop) (hf : wp_X7_stepsBy p0 p1 p2 Q) : Met l yX7_stepsBy (wsA yX7_stepsBy cX7_stepsBy 5 (some .int)) ({ frames := 1, cells := 0, slots := 0, locals := 23 }) (PR D cI cZ cW [.int p0, .int p1, .int p2] ([] : va_W)) (vp_Si Q) 0 0 (fun _ => False) := by
  refine Met.ofW (cc := cX7_stepsBy) (maxL := 5) (ret := (some .int)) (by decide) rfl ?_
  intro p e s m args below meth c s₁ B hml hv
  obtain ⟨rfl, hP, hK⟩ := hv
  have hx := B.exec
  have hb := B.bytes
  have hr := B.returns
  have hts := atoms_spec (ws := (wsA yX7_stepsBy cX7_stepsBy 5 (some .int))) B.pre
  have ht : ∀ w ∈ lw_g, w.before _ s = true := fun w h => hts w (List.mem_cons_of_mem _ h)
  have hown : s.vm.findClass RX7 = some m.cls := findClass_of_methodNamed B.named
  have hlocks := B.notSynchronized
  have hl := lv_entry ([.int p0, .int p1, .int p2]) (n := 5) (Nat.le_of_ble_eq_true rfl)
  rw [lg_entry_eq]
  generalize (lg_sl ([.int p0, .int p1, .int p2]) ++ List.replicate (5 - (lg_sl ([.int p0, .int p1, .int p2])).length) Slot.unset).toArray = ls at hl ⊢
  have hl : lv_has ls 5 [(0, .int p0), (1, .int p1), (2, .int p2)] := hl
  unfold wp_X7_stepsBy at hf
  have k_9 : ∀ (x1 : Int32) (x2 : Int32) (x3 : Int32) (x4 : Int32) (ls : Array Slot), B_X7_stepsBy_9  x1 x2 x3 x4 Q → lv_has ls 5 [(1, .int x1), (2, .int x2), (3, .int x3), (4, .int x4)] → W p l e (headSpec (wsA yX7_stepsBy cX7_stepsBy 5 (some .int)) ({ frames := 1, cells := 0, slots := 0, locals := 23 })).room s m (#[.int p0, .int p1, .int p2] : Array Value) below meth c s.heap [] 0 0 (MQ below (vp_Si Q) (#[.int p0, .int p1, .int p2] : Array Value) s 0 0 (fun _ => False)) (F0 m 9 ls []) := by
    intro x1 x2 x3 x4 ls hf hl
    unfold B_X7_stepsBy_9 at hf
    obtain ⟨I_9, ⟨n0_9, hI0_9⟩, hst_9⟩ := hf
    have main_9 : ∀ (n : Nat) (x1 : Int32) (x2 : Int32) (x3 : Int32) (x4 : Int32) (ls : Array Slot), I_9 n (x1, x2, x3, x4) → lv_has ls 5 [(1, .int x1), (2, .int x2), (3, .int x3), (4, .int x4)] → W p l e (headSpec (wsA yX7_stepsBy cX7_stepsBy 5 (some .int)) ({ frames := 1, cells := 0, slots := 0, locals := 23 })).room s m (#[.int p0, .int p1, .int p2] : Array Value) below meth c s.heap [] 0 0 (MQ below (vp_Si Q) (#[.int p0, .int p1, .int p2] : Array Value) s 0 0 (fun _ => False)) (F0 m 9 ls []) := by
      intro n
      induction n using Nat.strongRecOn with
      | _ n_9 ih_9 =>
      intro x1 x2 x3 x4 ls hI hl
      have hf : LB_X7_stepsBy_9 (fun z => ∃ k, k < n_9 ∧ I_9 k z)  x1 x2 x3 x4 Q := hst_9 n_9 (x1, x2, x3, x4) hI
      have hG_9 : ∀ (x1 : Int32) (x2 : Int32) (x3 : Int32) (x4 : Int32) (ls : Array Slot), (∃ k, k < n_9 ∧ I_9 k (x1, x2, x3, x4)) → lv_has ls 5 [(1, .int x1), (2, .int x2), (3, .int x3), (4, .int x4)] → W p l e (headSpec (wsA yX7_stepsBy cX7_stepsBy 5 (some .int)) ({ frames := 1, cells := 0, slots := 0, locals := 23 })).room s m (#[.int p0, .int p1, .int p2] : Array Value) below meth c s.heap [] 0 0 (MQ below (vp_Si Q) (#[.int p0, .int p1, .int p2] : Array Value) s 0 0 (fun _ => False)) (F0 m 9 ls []) := by
        rintro x1 x2 x3 x4 ls ⟨k, hk, hI⟩ hl
        exact ih_9 k hk x1 x2 x3 x4 ls hI hl
      unfold LB_X7_stepsBy_9 at hf
      refine lv_iload hx hb dX7_stepsBy_9 (lv_at hl 3 rfl) ?_
      refine lv_bipush (v := (20 : Int32)) hx hb dX7_stepsBy_11 (by decide) ?_
      refine lv_icmp_ge (tgt := 42) hx hb dX7_stepsBy_13 (by decide) (fun c_1 => ?_) (fun c_1 => ?_)
      · have hf := hf.1 c_1
        refine lv_bipush (v := (-9 : Int32)) hx hb dX7_stepsBy_42 (by decide) ?_
        exact W.iret (v := (-9 : Int32)) hx hb hr (fun t ht hW => ⟨(-9 : Int32), rfl, hf, ht⟩) (fun q h => absurd h List.not_mem_nil) dX7_stepsBy_44
      · have hf := hf.2 c_1
        refine lv_iload_n hx hb dX7_stepsBy_16 rfl (lv_at hl 2 rfl) ?_
        refine lv_iload_n hx hb dX7_stepsBy_17 rfl (lv_at hl 0 rfl) ?_
        have hPc : va_P D classes ([] : va_W) s.heap := hP
        refine vp_callSi (W.runS (As := [.int x3, .int x1]) (rest := []) ⟨hx, hb, hml, hown, hts⟩ (c_X7_has l D cI cZ cW  x3 x1 _ hf) ⟨callB_of 2 hts (gA tw_771) rfl rfl rfl (ht _ tw_7) (ht _ tw_769) hd_X7_has ⟨Nat.le_of_ble_eq_true rfl, Nat.le_of_ble_eq_true rfl⟩, ht _ tw_770⟩ ⟨PR_blind, fun U hU hW => PR_mk hPc hK hU hW⟩ rfl rfl hl.1 rfl (lv_room (Nat.le_of_ble_eq_true rfl)) dX7_stepsBy_18 ⟨Nat.zero_le _, Nat.zero_le _⟩) (fun r_2 hf => ?_)
        refine lv_if_eq (tgt := 27) hx hb dX7_stepsBy_21 (by decide) (fun c_3 => ?_) (fun c_3 => ?_)
        · have hf := hf.1 c_3
          refine lv_iload_n hx hb dX7_stepsBy_27 rfl (lv_at hl 2 rfl) ?_
          refine lv_iload_n hx hb dX7_stepsBy_28 rfl (lv_at hl 2 rfl) ?_
          have hPc : va_P D classes ([] : va_W) s.heap := hP
          refine vp_callSi (W.runS (As := [.int x3]) (rest := [.int x3]) ⟨hx, hb, hml, hown, hts⟩ (c_X7_beside l D cI cZ cW  x3 _ hf) ⟨callB_of 1 hts (gA tw_845) rfl rfl rfl (ht _ tw_7) (ht _ tw_843) hd_X7_beside ⟨Nat.le_of_ble_eq_true rfl, Nat.le_of_ble_eq_true rfl⟩, ht _ tw_844⟩ ⟨PR_blind, fun U hU hW => PR_mk hPc hK hU hW⟩ rfl rfl hl.1 rfl (lv_room (Nat.le_of_ble_eq_true rfl)) dX7_stepsBy_29 ⟨Nat.zero_le _, Nat.zero_le _⟩) (fun r_4 hf => ?_)
          refine lv_iload_n hx hb dX7_stepsBy_32 rfl (lv_at hl 1 rfl) ?_
          refine lv_iand hx hb dX7_stepsBy_33 ?_
          refine lv_ior hx hb dX7_stepsBy_34 ?_
          refine lv_topi (fun x3_5 ex3_5 => ?_)
          have hf := hf x3_5 ex3_5
          refine lv_istore_n (lv' := [(3, .int x3_5), (1, .int x1), (2, .int x2), (4, .int x4)]) hx hb dX7_stepsBy_35 rfl hl (by decide) rfl (fun ls hl => ?_)
          obtain ⟨x4_6, ex4_6⟩ : ∃ y : Int32, y = x4 + (1 : Int32) := ⟨_, rfl⟩
          have hf := hf x4_6 ex4_6
          refine lv_iinc (v := x4_6) (lv' := [(4, .int x4_6), (3, .int x3_5), (1, .int x1), (2, .int x2)]) hx hb dX7_stepsBy_36 hl (k := 3) rfl (by rw [ex4_6]; rfl) (by decide) rfl (fun ls hl => ?_)
          refine lv_goto (tgt := 9) hx hb dX7_stepsBy_39 (by decide) ?_
          exact hG_9 x1 x2 x3_5 x4_6 ls hf (lv_sub hl [2, 3, 1, 0] rfl)
        · have hf := hf.2 c_3
          refine lv_iload hx hb dX7_stepsBy_24 (lv_at hl 3 rfl) ?_
          exact W.iret (v := x4) hx hb hr (fun t ht hW => ⟨x4, rfl, hf, ht⟩) (fun q h => absurd h List.not_mem_nil) dX7_stepsBy_26
    exact main_9 n0_9 x1 x2 x3 x4 ls hI0_9 hl
  refine lv_iconst (v := (1 : Int32)) hx hb dX7_stepsBy_0 (by decide) ?_
  refine lv_iload_n hx hb dX7_stepsBy_1 rfl (lv_at hl 0 rfl) ?_
  refine lv_ishl hx hb dX7_stepsBy_2 ?_
  refine lv_iload_n hx hb dX7_stepsBy_3 rfl (lv_at hl 2 rfl) ?_
  refine lv_iand hx hb dX7_stepsBy_4 ?_
  refine lv_topi (fun x3_7 ex3_7 => ?_)
  have hf := hf x3_7 ex3_7
  refine lv_istore_n (lv' := [(3, .int x3_7), (0, .int p0), (1, .int p1), (2, .int p2)]) hx hb dX7_stepsBy_5 rfl hl (by decide) rfl (fun ls hl => ?_)
  refine lv_iconst (v := (0 : Int32)) hx hb dX7_stepsBy_6 (by decide) ?_
  refine lv_istore (lv' := [(4, .int (0 : Int32)), (3, .int x3_7), (0, .int p0), (1, .int p1), (2, .int p2)]) hx hb dX7_stepsBy_7 hl (by decide) rfl (fun ls hl => ?_)
  exact k_9 p1 p2 x3_7 (0 : Int32) ls hf (lv_sub hl [3, 4, 1, 0] rfl)
def wp_X7_way (p0 : Int32) (p1 : Int32) (s0 : CS) (Q : Int32 → Prop) : Prop := wp_X7_isCell p0 (fun r_1 => ((r_1 = 0 → Q (-1 : Int32)) ∧ (¬ r_1 = 0 → wp_X7_isCell p1 (fun r_3 => ((¬ r_3 = 0 → ((¬ p0 = p1 → wp_X7_of (0 : Int32) (7 : Int32) s0 (fun r_6 => wp_X7_stepsBy p0 p1 ((1048575 : Int32) &&& (r_6 ^^^ (-1 : Int32))) (fun r_7 => Q r_7))) ∧ (p0 = p1 → Q (0 : Int32)))) ∧ (r_3 = 0 → Q (-1 : Int32)))))))
set_option maxHeartbeats 4000000 in
set_option maxRecDepth 100000 in
theorem c_X7_way (l : Launch) (D : va_G) (cI cZ cW : ClassId) (q0 : Nat → Nat) (p0 : Int32) (p1 : Int32) (s0 : CS) (Q : Int32 → Prop) (hf : wp_X7_way p0 p1 s0 Q) : Met l yX7_way (wsA yX7_way cX7_way 3 (some .int)) ({ frames := 2, cells := 0, slots := 0, locals := 47 }) (PR D cI cZ cW [.ref (q0 0), .int p0, .int p1] (wM cI cZ q0 s0)) (vp_Si Q) 0 0 (fun _ => False) := by
  refine Met.ofW (cc := cX7_way) (maxL := 3) (ret := (some .int)) (by decide) rfl ?_
  intro p e s m args below meth c s₁ B hml hv
  obtain ⟨rfl, hP, hK⟩ := hv
  have hx := B.exec
  have hb := B.bytes
  have hr := B.returns
  have hts := atoms_spec (ws := (wsA yX7_way cX7_way 3 (some .int))) B.pre
  have ht : ∀ w ∈ lw_g, w.before _ s = true := fun w h => hts w (List.mem_cons_of_mem _ h)
  have hown : s.vm.findClass RX7 = some m.cls := findClass_of_methodNamed B.named
  have hlocks := B.notSynchronized
  have hl := lv_entry ([.ref (q0 0), .int p0, .int p1]) (n := 3) (Nat.le_of_ble_eq_true rfl)
  rw [lg_entry_eq]
  generalize (lg_sl ([.ref (q0 0), .int p0, .int p1]) ++ List.replicate (3 - (lg_sl ([.ref (q0 0), .int p0, .int p1])).length) Slot.unset).toArray = ls at hl ⊢
  have hl : lv_has ls 3 [(0, .ref (q0 0)), (1, .int p0), (2, .int p1)] := hl
  unfold wp_X7_way at hf
  refine lv_iload_n hx hb dX7_way_0 rfl (lv_at hl 1 rfl) ?_
  have hPc : va_P D classes ([] : va_W) s.heap := hP.sub [] rfl
  refine vp_callSi (W.runS (As := [.int p0]) (rest := []) ⟨hx, hb, hml, hown, hts⟩ (c_X7_isCell l D cI cZ cW  p0 _ hf) ⟨callB_of 1 hts (gA tw_814) rfl rfl rfl (ht _ tw_7) (ht _ tw_812) hd_X7_isCell ⟨Nat.le_of_ble_eq_true rfl, Nat.le_of_ble_eq_true rfl⟩, ht _ tw_813⟩ ⟨PR_blind, fun U hU hW => PR_mk hPc hK hU hW⟩ rfl rfl hl.1 rfl (lv_room (Nat.le_of_ble_eq_true rfl)) dX7_way_1 ⟨Nat.zero_le _, Nat.zero_le _⟩) (fun r_1 hf => ?_)
  refine lv_if_eq (tgt := 14) hx hb dX7_way_4 (by decide) (fun c_2 => ?_) (fun c_2 => ?_)
  · have hf := hf.1 c_2
    refine lv_iconst (v := (-1 : Int32)) hx hb dX7_way_14 (by decide) ?_
    exact W.iret (v := (-1 : Int32)) hx hb hr (fun t ht hW => ⟨(-1 : Int32), rfl, hf, ht⟩) (fun q h => absurd h List.not_mem_nil) dX7_way_15
  · have hf := hf.2 c_2
    refine lv_iload_n hx hb dX7_way_7 rfl (lv_at hl 2 rfl) ?_
    have hPc : va_P D classes ([] : va_W) s.heap := hP.sub [] rfl
    refine vp_callSi (W.runS (As := [.int p1]) (rest := []) ⟨hx, hb, hml, hown, hts⟩ (c_X7_isCell l D cI cZ cW  p1 _ hf) ⟨callB_of 1 hts (gA tw_814) rfl rfl rfl (ht _ tw_7) (ht _ tw_812) hd_X7_isCell ⟨Nat.le_of_ble_eq_true rfl, Nat.le_of_ble_eq_true rfl⟩, ht _ tw_813⟩ ⟨PR_blind, fun U hU hW => PR_mk hPc hK hU hW⟩ rfl rfl hl.1 rfl (lv_room (Nat.le_of_ble_eq_true rfl)) dX7_way_8 ⟨Nat.zero_le _, Nat.zero_le _⟩) (fun r_3 hf => ?_)
    refine lv_if_ne (tgt := 16) hx hb dX7_way_11 (by decide) (fun c_4 => ?_) (fun c_4 => ?_)
    · have hf := hf.1 c_4
      refine lv_iload_n hx hb dX7_way_16 rfl (lv_at hl 1 rfl) ?_
      refine lv_iload_n hx hb dX7_way_17 rfl (lv_at hl 2 rfl) ?_
      refine lv_icmp_ne (tgt := 25) hx hb dX7_way_18 (by decide) (fun c_5 => ?_) (fun c_5 => ?_)
      · have hf := hf.1 c_5
        refine lv_iload_n hx hb dX7_way_25 rfl (lv_at hl 1 rfl) ?_
        refine lv_iload_n hx hb dX7_way_26 rfl (lv_at hl 2 rfl) ?_
        refine lv_ldc (v := (1048575 : Int32)) hx hb hown (ht _ tw_772) dX7_way_27 ?_
        refine lv_aload_n hx hb dX7_way_29 rfl (lv_at hl 0 rfl) ?_
        refine lv_iconst (v := (0 : Int32)) hx hb dX7_way_30 (by decide) ?_
        refine lv_bipush (v := (7 : Int32)) hx hb dX7_way_31 (by decide) ?_
        have hPc : va_P D classes (wM cI cZ q0 s0) s.heap := hP
        refine vp_callSi (W.runV (As := [.int (0 : Int32), .int (7 : Int32)]) (rest := [.int (1048575 : Int32), .int p1, .int p0]) ⟨hx, hb, hml, hown, hts⟩ (c_X7_of l D cI cZ cW q0 (0 : Int32) (7 : Int32) s0 _ hf) ⟨callB_of 2 hts (gA tw_807) rfl rfl rfl (ht _ tw_7) (ht _ tw_804) hd_X7_of ⟨Nat.le_of_ble_eq_true rfl, Nat.le_of_ble_eq_true rfl⟩, ht _ tw_806, ht _ twp_25⟩ ⟨PR_blind, va_recv hK hP (ci := 5) (q0 := 0) rfl eM_0, fun U hU hW => PR_mk hPc hK hU hW⟩ rfl rfl hl.1 rfl (lv_room (Nat.le_of_ble_eq_true rfl)) dX7_way_33 ⟨Nat.zero_le _, Nat.zero_le _⟩) (fun r_6 hf => ?_)
        refine lv_iconst (v := (-1 : Int32)) hx hb dX7_way_36 (by decide) ?_
        refine lv_ixor hx hb dX7_way_37 ?_
        refine lv_iand hx hb dX7_way_38 ?_
        have hPc : va_P D classes ([] : va_W) s.heap := hP.sub [] rfl
        refine vp_callSi (W.runS (As := [.int p0, .int p1, .int ((1048575 : Int32) &&& (r_6 ^^^ (-1 : Int32)))]) (rest := []) ⟨hx, hb, hml, hown, hts⟩ (c_X7_stepsBy l D cI cZ cW  p0 p1 ((1048575 : Int32) &&& (r_6 ^^^ (-1 : Int32))) _ hf) ⟨callB_of 3 hts (gA tw_907) rfl rfl rfl (ht _ tw_7) (ht _ tw_905) hd_X7_stepsBy ⟨Nat.le_of_ble_eq_true rfl, Nat.le_of_ble_eq_true rfl⟩, ht _ tw_906⟩ ⟨PR_blind, fun U hU hW => PR_mk hPc hK hU hW⟩ rfl rfl hl.1 rfl (lv_room (Nat.le_of_ble_eq_true rfl)) dX7_way_39 ⟨Nat.zero_le _, Nat.zero_le _⟩) (fun r_7 hf => ?_)
        exact W.iret (v := r_7) hx hb hr (fun t ht hW => ⟨r_7, rfl, hf, ht⟩) (fun q h => absurd h List.not_mem_nil) dX7_way_42
      · have hf := hf.2 c_5
        refine lv_iconst (v := (0 : Int32)) hx hb dX7_way_21 (by decide) ?_
        refine lv_goto (tgt := 42) hx hb dX7_way_22 (by decide) ?_
        exact W.iret (v := (0 : Int32)) hx hb hr (fun t ht hW => ⟨(0 : Int32), rfl, hf, ht⟩) (fun q h => absurd h List.not_mem_nil) dX7_way_42
    · have hf := hf.2 c_4
      refine lv_iconst (v := (-1 : Int32)) hx hb dX7_way_14 (by decide) ?_
      exact W.iret (v := (-1 : Int32)) hx hb hr (fun t ht hW => ⟨(-1 : Int32), rfl, hf, ht⟩) (fun q h => absurd h List.not_mem_nil) dX7_way_15
def wp_X7_costOf (p0 : Int32) (s0 : CS) (Q : Int32 → Prop) : Prop := vp_in p0 70 ∧ ((((s0.2.1 5) p0.toNatClampNeg) = (7 : Int32) → wp_X7_isMonks p0 s0 (fun r_3 => ((r_3 = 0 → Q (1 : Int32)) ∧ (¬ r_3 = 0 → Q (-9 : Int32))))) ∧ (¬ ((s0.2.1 5) p0.toNatClampNeg) = (7 : Int32) → Q (0 : Int32)))
set_option maxHeartbeats 4000000 in
set_option maxRecDepth 100000 in
theorem c_X7_costOf (l : Launch) (D : va_G) (cI cZ cW : ClassId) (q0 : Nat → Nat) (p0 : Int32) (s0 : CS) (Q : Int32 → Prop) (hf : wp_X7_costOf p0 s0 Q) : Met l yX7_costOf (wsA yX7_costOf cX7_costOf 2 (some .int)) ({ frames := 1, cells := 0, slots := 0, locals := 22 }) (PR D cI cZ cW [.ref (q0 0), .int p0] (wM cI cZ q0 s0)) (vp_Si Q) 0 0 (fun _ => False) := by
  refine Met.ofW (cc := cX7_costOf) (maxL := 2) (ret := (some .int)) (by decide) rfl ?_
  intro p e s m args below meth c s₁ B hml hv
  obtain ⟨rfl, hP, hK⟩ := hv
  have hx := B.exec
  have hb := B.bytes
  have hr := B.returns
  have hts := atoms_spec (ws := (wsA yX7_costOf cX7_costOf 2 (some .int))) B.pre
  have ht : ∀ w ∈ lw_g, w.before _ s = true := fun w h => hts w (List.mem_cons_of_mem _ h)
  have hown : s.vm.findClass RX7 = some m.cls := findClass_of_methodNamed B.named
  have hlocks := B.notSynchronized
  have hl := lv_entry ([.ref (q0 0), .int p0]) (n := 2) (Nat.le_of_ble_eq_true rfl)
  rw [lg_entry_eq]
  generalize (lg_sl ([.ref (q0 0), .int p0]) ++ List.replicate (2 - (lg_sl ([.ref (q0 0), .int p0])).length) Slot.unset).toArray = ls at hl ⊢
  have hl : lv_has ls 2 [(0, .ref (q0 0)), (1, .int p0)] := hl
  unfold wp_X7_costOf at hf
  refine lv_aload_n hx hb dX7_costOf_0 rfl (lv_at hl 0 rfl) ?_
  refine va_get (D := D) (ci := 5) (v := .ref (q0 4)) (C := RX7) (T := TX7) (N := 28) hx hb ht inX7 hown hK hP 0 eM_0 rfl 5 (by decide) (ht _ tw_660) (fun _ h9 => h9) rfl dX7_costOf_1 ?_
  refine lv_iload_n hx hb dX7_costOf_4 rfl (lv_at hl 1 rfl) ?_
  obtain ⟨hi_1, hf⟩ := hf
  refine va_iald hx hb hK hP 4 0 eM_4 rfl hi_1 dX7_costOf_5 ?_
  refine lv_bipush (v := (7 : Int32)) hx hb dX7_costOf_6 (by decide) ?_
  refine lv_icmp_eq (tgt := 15) hx hb dX7_costOf_8 (by decide) (fun c_2 => ?_) (fun c_2 => ?_)
  · have hf := hf.1 c_2
    refine lv_aload_n hx hb dX7_costOf_15 rfl (lv_at hl 0 rfl) ?_
    refine lv_iload_n hx hb dX7_costOf_16 rfl (lv_at hl 1 rfl) ?_
    have hPc : va_P D classes (wM cI cZ q0 s0) s.heap := hP
    refine vp_callSi (W.runV (As := [.int p0]) (rest := []) ⟨hx, hb, hml, hown, hts⟩ (c_X7_isMonks l D cI cZ cW q0 p0 s0 _ hf) ⟨callB_of 1 hts (gA tw_838) rfl rfl rfl (ht _ tw_7) (ht _ tw_835) hd_X7_isMonks ⟨Nat.le_of_ble_eq_true rfl, Nat.le_of_ble_eq_true rfl⟩, ht _ tw_837, ht _ twp_30⟩ ⟨PR_blind, va_recv hK hP (ci := 5) (q0 := 0) rfl eM_0, fun U hU hW => PR_mk hPc hK hU hW⟩ rfl rfl hl.1 rfl (lv_room (Nat.le_of_ble_eq_true rfl)) dX7_costOf_17 ⟨Nat.zero_le _, Nat.zero_le _⟩) (fun r_3 hf => ?_)
    refine lv_if_eq (tgt := 28) hx hb dX7_costOf_20 (by decide) (fun c_4 => ?_) (fun c_4 => ?_)
    · have hf := hf.1 c_4
      refine lv_iconst (v := (1 : Int32)) hx hb dX7_costOf_28 (by decide) ?_
      exact W.iret (v := (1 : Int32)) hx hb hr (fun t ht hW => ⟨(1 : Int32), rfl, hf, ht⟩) (fun q h => absurd h List.not_mem_nil) dX7_costOf_29
    · have hf := hf.2 c_4
      refine lv_bipush (v := (-9 : Int32)) hx hb dX7_costOf_23 (by decide) ?_
      refine lv_goto (tgt := 29) hx hb dX7_costOf_25 (by decide) ?_
      exact W.iret (v := (-9 : Int32)) hx hb hr (fun t ht hW => ⟨(-9 : Int32), rfl, hf, ht⟩) (fun q h => absurd h List.not_mem_nil) dX7_costOf_29
  · have hf := hf.2 c_2
    refine lv_iconst (v := (0 : Int32)) hx hb dX7_costOf_11 (by decide) ?_
    refine lv_goto (tgt := 29) hx hb dX7_costOf_12 (by decide) ?_
    exact W.iret (v := (0 : Int32)) hx hb hr (fun t ht hW => ⟨(0 : Int32), rfl, hf, ht⟩) (fun q h => absurd h List.not_mem_nil) dX7_costOf_29
