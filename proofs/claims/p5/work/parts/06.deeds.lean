theorem dX1_hasOwner_0 : decode cX1_hasOwner 0 = .ok (.iload_n 1, 1) := by decide +kernel
theorem dX1_hasOwner_1 : decode cX1_hasOwner 1 = .ok (.ifCond .lt 15, 3) := by decide +kernel
theorem dX1_hasOwner_4 : decode cX1_hasOwner 4 = .ok (.iload_n 1, 1) := by decide +kernel
theorem dX1_hasOwner_5 : decode cX1_hasOwner 5 = .ok (.aload_n 0, 1) := by decide +kernel
theorem dX1_hasOwner_6 : decode cX1_hasOwner 6 = .ok (.getfield 9, 3) := by decide +kernel
theorem dX1_hasOwner_9 : decode cX1_hasOwner 9 = .ok (.if_icmp .ge 7, 3) := by decide +kernel
theorem dX1_hasOwner_12 : decode cX1_hasOwner 12 = .ok (.iconst 1, 1) := by decide +kernel
theorem dX1_hasOwner_13 : decode cX1_hasOwner 13 = .ok (.goto 4, 3) := by decide +kernel
theorem dX1_hasOwner_16 : decode cX1_hasOwner 16 = .ok (.iconst 0, 1) := by decide +kernel
theorem dX1_hasOwner_17 : decode cX1_hasOwner 17 = .ok (.ireturn, 1) := by decide +kernel
theorem dX1_hasHole_0 : decode cX1_hasHole 0 = .ok (.iload_n 1, 1) := by decide +kernel
theorem dX1_hasHole_1 : decode cX1_hasHole 1 = .ok (.ifCond .lt 15, 3) := by decide +kernel
theorem dX1_hasHole_4 : decode cX1_hasHole 4 = .ok (.iload_n 1, 1) := by decide +kernel
theorem dX1_hasHole_5 : decode cX1_hasHole 5 = .ok (.aload_n 0, 1) := by decide +kernel
theorem dX1_hasHole_6 : decode cX1_hasHole 6 = .ok (.getfield 15, 3) := by decide +kernel
theorem dX1_hasHole_9 : decode cX1_hasHole 9 = .ok (.if_icmp .ge 7, 3) := by decide +kernel
theorem dX1_hasHole_12 : decode cX1_hasHole 12 = .ok (.iconst 1, 1) := by decide +kernel
theorem dX1_hasHole_13 : decode cX1_hasHole 13 = .ok (.goto 4, 3) := by decide +kernel
theorem dX1_hasHole_16 : decode cX1_hasHole 16 = .ok (.iconst 0, 1) := by decide +kernel
theorem dX1_hasHole_17 : decode cX1_hasHole 17 = .ok (.ireturn, 1) := by decide +kernel
theorem dX1_rowsOf_0 : decode cX1_rowsOf 0 = .ok (.iconst 0, 1) := by decide +kernel
theorem dX1_rowsOf_1 : decode cX1_rowsOf 1 = .ok (.istore_n 2, 1) := by decide +kernel
theorem dX1_rowsOf_2 : decode cX1_rowsOf 2 = .ok (.iconst 0, 1) := by decide +kernel
theorem dX1_rowsOf_3 : decode cX1_rowsOf 3 = .ok (.istore_n 3, 1) := by decide +kernel
theorem dX1_rowsOf_4 : decode cX1_rowsOf 4 = .ok (.iload_n 3, 1) := by decide +kernel
theorem dX1_rowsOf_5 : decode cX1_rowsOf 5 = .ok (.iconst 4, 1) := by decide +kernel
theorem dX1_rowsOf_6 : decode cX1_rowsOf 6 = .ok (.if_icmp .ge 25, 3) := by decide +kernel
theorem dX1_rowsOf_9 : decode cX1_rowsOf 9 = .ok (.aload_n 0, 1) := by decide +kernel
theorem dX1_rowsOf_10 : decode cX1_rowsOf 10 = .ok (.getfield 22, 3) := by decide +kernel
theorem dX1_rowsOf_13 : decode cX1_rowsOf 13 = .ok (.iload_n 3, 1) := by decide +kernel
theorem dX1_rowsOf_14 : decode cX1_rowsOf 14 = .ok (.iaload, 1) := by decide +kernel
theorem dX1_rowsOf_15 : decode cX1_rowsOf 15 = .ok (.iload_n 1, 1) := by decide +kernel
theorem dX1_rowsOf_16 : decode cX1_rowsOf 16 = .ok (.if_icmp .ne 9, 3) := by decide +kernel
theorem dX1_rowsOf_19 : decode cX1_rowsOf 19 = .ok (.iload_n 2, 1) := by decide +kernel
theorem dX1_rowsOf_20 : decode cX1_rowsOf 20 = .ok (.iconst 1, 1) := by decide +kernel
theorem dX1_rowsOf_21 : decode cX1_rowsOf 21 = .ok (.iload_n 3, 1) := by decide +kernel
theorem dX1_rowsOf_22 : decode cX1_rowsOf 22 = .ok (.ishl, 1) := by decide +kernel
theorem dX1_rowsOf_23 : decode cX1_rowsOf 23 = .ok (.ior, 1) := by decide +kernel
theorem dX1_rowsOf_24 : decode cX1_rowsOf 24 = .ok (.istore_n 2, 1) := by decide +kernel
theorem dX1_rowsOf_25 : decode cX1_rowsOf 25 = .ok (.iinc 3 1, 3) := by decide +kernel
theorem dX1_rowsOf_28 : decode cX1_rowsOf 28 = .ok (.goto (-24), 3) := by decide +kernel
theorem dX1_rowsOf_31 : decode cX1_rowsOf 31 = .ok (.iload_n 2, 1) := by decide +kernel
theorem dX1_rowsOf_32 : decode cX1_rowsOf 32 = .ok (.ireturn, 1) := by decide +kernel
theorem dX1_rowCellsOf_0 : decode cX1_rowCellsOf 0 = .ok (.iconst 0, 1) := by decide +kernel
theorem dX1_rowCellsOf_1 : decode cX1_rowCellsOf 1 = .ok (.istore_n 2, 1) := by decide +kernel
theorem dX1_rowCellsOf_2 : decode cX1_rowCellsOf 2 = .ok (.iconst 0, 1) := by decide +kernel
theorem dX1_rowCellsOf_3 : decode cX1_rowCellsOf 3 = .ok (.istore_n 3, 1) := by decide +kernel
theorem dX1_rowCellsOf_4 : decode cX1_rowCellsOf 4 = .ok (.iload_n 3, 1) := by decide +kernel
theorem dX1_rowCellsOf_5 : decode cX1_rowCellsOf 5 = .ok (.iconst 4, 1) := by decide +kernel
theorem dX1_rowCellsOf_6 : decode cX1_rowCellsOf 6 = .ok (.if_icmp .ge 42, 3) := by decide +kernel
theorem dX1_rowCellsOf_9 : decode cX1_rowCellsOf 9 = .ok (.aload_n 0, 1) := by decide +kernel
theorem dX1_rowCellsOf_10 : decode cX1_rowCellsOf 10 = .ok (.getfield 22, 3) := by decide +kernel
theorem dX1_rowCellsOf_13 : decode cX1_rowCellsOf 13 = .ok (.iload_n 3, 1) := by decide +kernel
theorem dX1_rowCellsOf_14 : decode cX1_rowCellsOf 14 = .ok (.iaload, 1) := by decide +kernel
theorem dX1_rowCellsOf_15 : decode cX1_rowCellsOf 15 = .ok (.istore 4, 2) := by decide +kernel
theorem dX1_rowCellsOf_17 : decode cX1_rowCellsOf 17 = .ok (.aload_n 0, 1) := by decide +kernel
theorem dX1_rowCellsOf_18 : decode cX1_rowCellsOf 18 = .ok (.iload 4, 2) := by decide +kernel
theorem dX1_rowCellsOf_20 : decode cX1_rowCellsOf 20 = .ok (.invokevirtual 61, 3) := by decide +kernel
theorem dX1_rowCellsOf_23 : decode cX1_rowCellsOf 23 = .ok (.ifCond .eq 19, 3) := by decide +kernel
theorem dX1_rowCellsOf_26 : decode cX1_rowCellsOf 26 = .ok (.iload_n 1, 1) := by decide +kernel
theorem dX1_rowCellsOf_27 : decode cX1_rowCellsOf 27 = .ok (.iconst 1, 1) := by decide +kernel
theorem dX1_rowCellsOf_28 : decode cX1_rowCellsOf 28 = .ok (.iload 4, 2) := by decide +kernel
theorem dX1_rowCellsOf_30 : decode cX1_rowCellsOf 30 = .ok (.ishl, 1) := by decide +kernel
theorem dX1_rowCellsOf_31 : decode cX1_rowCellsOf 31 = .ok (.iand, 1) := by decide +kernel
theorem dX1_rowCellsOf_32 : decode cX1_rowCellsOf 32 = .ok (.ifCond .eq 10, 3) := by decide +kernel
theorem dX1_rowCellsOf_35 : decode cX1_rowCellsOf 35 = .ok (.iload_n 2, 1) := by decide +kernel
theorem dX1_rowCellsOf_36 : decode cX1_rowCellsOf 36 = .ok (.iload_n 3, 1) := by decide +kernel
theorem dX1_rowCellsOf_37 : decode cX1_rowCellsOf 37 = .ok (.invokestatic 65, 3) := by decide +kernel
theorem dX1_rowCellsOf_40 : decode cX1_rowCellsOf 40 = .ok (.ior, 1) := by decide +kernel
theorem dX1_rowCellsOf_41 : decode cX1_rowCellsOf 41 = .ok (.istore_n 2, 1) := by decide +kernel
theorem dX1_rowCellsOf_42 : decode cX1_rowCellsOf 42 = .ok (.iinc 3 1, 3) := by decide +kernel
theorem dX1_rowCellsOf_45 : decode cX1_rowCellsOf 45 = .ok (.goto (-41), 3) := by decide +kernel
theorem dX1_rowCellsOf_48 : decode cX1_rowCellsOf 48 = .ok (.iload_n 2, 1) := by decide +kernel
theorem dX1_rowCellsOf_49 : decode cX1_rowCellsOf 49 = .ok (.ireturn, 1) := by decide +kernel
theorem dX1_turnsOf_0 : decode cX1_turnsOf 0 = .ok (.aload_n 0, 1) := by decide +kernel
theorem dX1_turnsOf_1 : decode cX1_turnsOf 1 = .ok (.iload_n 1, 1) := by decide +kernel
theorem dX1_turnsOf_2 : decode cX1_turnsOf 2 = .ok (.invokevirtual 71, 3) := by decide +kernel
theorem dX1_turnsOf_5 : decode cX1_turnsOf 5 = .ok (.ifCond .ne 5, 3) := by decide +kernel
theorem dX1_turnsOf_8 : decode cX1_turnsOf 8 = .ok (.iconst 0, 1) := by decide +kernel
theorem dX1_turnsOf_9 : decode cX1_turnsOf 9 = .ok (.ireturn, 1) := by decide +kernel
theorem dX1_turnsOf_10 : decode cX1_turnsOf 10 = .ok (.aload_n 0, 1) := by decide +kernel
theorem dX1_turnsOf_11 : decode cX1_turnsOf 11 = .ok (.getfield 25, 3) := by decide +kernel
theorem dX1_turnsOf_14 : decode cX1_turnsOf 14 = .ok (.iload_n 1, 1) := by decide +kernel
theorem dX1_turnsOf_15 : decode cX1_turnsOf 15 = .ok (.invokestatic 74, 3) := by decide +kernel
theorem dX1_turnsOf_18 : decode cX1_turnsOf 18 = .ok (.lookupswitch 30 #[(1, 26), (2, 28)], 26) := by decide +kernel
theorem dX1_turnsOf_44 : decode cX1_turnsOf 44 = .ok (.iconst 2, 1) := by decide +kernel
theorem dX1_turnsOf_45 : decode cX1_turnsOf 45 = .ok (.ireturn, 1) := by decide +kernel
theorem dX1_turnsOf_46 : decode cX1_turnsOf 46 = .ok (.iconst 0, 1) := by decide +kernel
theorem dX1_turnsOf_47 : decode cX1_turnsOf 47 = .ok (.ireturn, 1) := by decide +kernel
theorem dX1_turnsOf_48 : decode cX1_turnsOf 48 = .ok (.iconst 1, 1) := by decide +kernel
theorem dX1_turnsOf_49 : decode cX1_turnsOf 49 = .ok (.ireturn, 1) := by decide +kernel
theorem dX1_forget_0 : decode cX1_forget 0 = .ok (.aload_n 0, 1) := by decide +kernel
theorem dX1_forget_1 : decode cX1_forget 1 = .ok (.iconst 0, 1) := by decide +kernel
theorem dX1_forget_2 : decode cX1_forget 2 = .ok (.putfield 9, 3) := by decide +kernel
theorem dX1_forget_5 : decode cX1_forget 5 = .ok (.aload_n 0, 1) := by decide +kernel
theorem dX1_forget_6 : decode cX1_forget 6 = .ok (.iconst 0, 1) := by decide +kernel
theorem dX1_forget_7 : decode cX1_forget 7 = .ok (.putfield 15, 3) := by decide +kernel
theorem dX1_forget_10 : decode cX1_forget 10 = .ok (.aload_n 0, 1) := by decide +kernel
theorem dX1_forget_11 : decode cX1_forget 11 = .ok (.getfield 22, 3) := by decide +kernel
theorem dX1_forget_14 : decode cX1_forget 14 = .ok (.bipush (-9), 2) := by decide +kernel
theorem dX1_forget_16 : decode cX1_forget 16 = .ok (.invokestatic 55, 3) := by decide +kernel
theorem dX1_forget_19 : decode cX1_forget 19 = .ok (.aload_n 0, 1) := by decide +kernel
theorem dX1_forget_20 : decode cX1_forget 20 = .ok (.getfield 28, 3) := by decide +kernel
theorem dX1_forget_23 : decode cX1_forget 23 = .ok (.bipush (-9), 2) := by decide +kernel
theorem dX1_forget_25 : decode cX1_forget 25 = .ok (.invokestatic 55, 3) := by decide +kernel
theorem dX1_forget_28 : decode cX1_forget 28 = .ok (.aload_n 0, 1) := by decide +kernel
theorem dX1_forget_29 : decode cX1_forget 29 = .ok (.iconst 0, 1) := by decide +kernel
theorem dX1_forget_30 : decode cX1_forget 30 = .ok (.putfield 34, 3) := by decide +kernel
theorem dX1_forget_33 : decode cX1_forget 33 = .ok (.aload_n 0, 1) := by decide +kernel
theorem dX1_forget_34 : decode cX1_forget 34 = .ok (.iconst 0, 1) := by decide +kernel
theorem dX1_forget_35 : decode cX1_forget 35 = .ok (.putfield 37, 3) := by decide +kernel
theorem dX1_forget_38 : decode cX1_forget 38 = .ok (.aload_n 0, 1) := by decide +kernel
theorem dX1_forget_39 : decode cX1_forget 39 = .ok (.iconst 0, 1) := by decide +kernel
theorem dX1_forget_40 : decode cX1_forget 40 = .ok (.putfield 40, 3) := by decide +kernel
theorem dX1_forget_43 : decode cX1_forget 43 = .ok (.aload_n 0, 1) := by decide +kernel
theorem dX1_forget_44 : decode cX1_forget 44 = .ok (.iconst 0, 1) := by decide +kernel
theorem dX1_forget_45 : decode cX1_forget 45 = .ok (.putfield 43, 3) := by decide +kernel
theorem dX1_forget_48 : decode cX1_forget 48 = .ok (.aload_n 0, 1) := by decide +kernel
theorem dX1_forget_49 : decode cX1_forget 49 = .ok (.iconst 0, 1) := by decide +kernel
theorem dX1_forget_50 : decode cX1_forget 50 = .ok (.putfield 46, 3) := by decide +kernel
theorem dX1_forget_53 : decode cX1_forget 53 = .ok (.return_, 1) := by decide +kernel
theorem dX1_addHole_0 : decode cX1_addHole 0 = .ok (.aload_n 0, 1) := by decide +kernel
theorem dX1_addHole_1 : decode cX1_addHole 1 = .ok (.getfield 31, 3) := by decide +kernel
theorem dX1_addHole_4 : decode cX1_addHole 4 = .ok (.aload_n 0, 1) := by decide +kernel
theorem dX1_addHole_5 : decode cX1_addHole 5 = .ok (.getfield 15, 3) := by decide +kernel
theorem dX1_addHole_8 : decode cX1_addHole 8 = .ok (.iload_n 1, 1) := by decide +kernel
theorem dX1_addHole_9 : decode cX1_addHole 9 = .ok (.invokestatic 102, 3) := by decide +kernel
theorem dX1_addHole_12 : decode cX1_addHole 12 = .ok (.aload_n 0, 1) := by decide +kernel
theorem dX1_addHole_13 : decode cX1_addHole 13 = .ok (.getfield 28, 3) := by decide +kernel
theorem dX1_addHole_16 : decode cX1_addHole 16 = .ok (.aload_n 0, 1) := by decide +kernel
theorem dX1_addHole_17 : decode cX1_addHole 17 = .ok (.getfield 15, 3) := by decide +kernel
theorem dX1_addHole_20 : decode cX1_addHole 20 = .ok (.iload_n 2, 1) := by decide +kernel
theorem dX1_addHole_21 : decode cX1_addHole 21 = .ok (.invokestatic 102, 3) := by decide +kernel
theorem dX1_addHole_24 : decode cX1_addHole 24 = .ok (.aload_n 0, 1) := by decide +kernel
theorem dX1_addHole_25 : decode cX1_addHole 25 = .ok (.getfield 25, 3) := by decide +kernel
theorem dX1_addHole_28 : decode cX1_addHole 28 = .ok (.aload_n 0, 1) := by decide +kernel
theorem dX1_addHole_29 : decode cX1_addHole 29 = .ok (.getfield 15, 3) := by decide +kernel
theorem dX1_addHole_32 : decode cX1_addHole 32 = .ok (.iload_n 3, 1) := by decide +kernel
theorem dX1_addHole_33 : decode cX1_addHole 33 = .ok (.invokestatic 102, 3) := by decide +kernel
theorem dX1_addHole_36 : decode cX1_addHole 36 = .ok (.aload_n 0, 1) := by decide +kernel
theorem dX1_addHole_37 : decode cX1_addHole 37 = .ok (.dup, 1) := by decide +kernel
theorem dX1_addHole_38 : decode cX1_addHole 38 = .ok (.getfield 40, 3) := by decide +kernel
theorem dX1_addHole_41 : decode cX1_addHole 41 = .ok (.iload_n 1, 1) := by decide +kernel
theorem dX1_addHole_42 : decode cX1_addHole 42 = .ok (.invokestatic 109, 3) := by decide +kernel
theorem dX1_addHole_45 : decode cX1_addHole 45 = .ok (.ior, 1) := by decide +kernel
theorem dX1_addHole_46 : decode cX1_addHole 46 = .ok (.putfield 40, 3) := by decide +kernel
theorem dX1_addHole_49 : decode cX1_addHole 49 = .ok (.aload_n 0, 1) := by decide +kernel
theorem dX1_addHole_50 : decode cX1_addHole 50 = .ok (.dup, 1) := by decide +kernel
theorem dX1_addHole_51 : decode cX1_addHole 51 = .ok (.getfield 15, 3) := by decide +kernel
theorem dX1_addHole_54 : decode cX1_addHole 54 = .ok (.iconst 1, 1) := by decide +kernel
theorem dX1_addHole_55 : decode cX1_addHole 55 = .ok (.iadd, 1) := by decide +kernel
theorem dX1_addHole_56 : decode cX1_addHole 56 = .ok (.putfield 15, 3) := by decide +kernel
theorem dX1_addHole_59 : decode cX1_addHole 59 = .ok (.return_, 1) := by decide +kernel
theorem dX1_tellLoneHole_0 : decode cX1_tellLoneHole 0 = .ok (.aload_n 0, 1) := by decide +kernel
theorem dX1_tellLoneHole_1 : decode cX1_tellLoneHole 1 = .ok (.invokevirtual 80, 3) := by decide +kernel
theorem dX1_tellLoneHole_4 : decode cX1_tellLoneHole 4 = .ok (.aload_n 0, 1) := by decide +kernel
theorem dX1_tellLoneHole_5 : decode cX1_tellLoneHole 5 = .ok (.iconst 0, 1) := by decide +kernel
theorem dX1_tellLoneHole_6 : decode cX1_tellLoneHole 6 = .ok (.bipush (-9), 2) := by decide +kernel
theorem dX1_tellLoneHole_8 : decode cX1_tellLoneHole 8 = .ok (.iload_n 1, 1) := by decide +kernel
theorem dX1_tellLoneHole_9 : decode cX1_tellLoneHole 9 = .ok (.invokevirtual 83, 3) := by decide +kernel
theorem dX1_tellLoneHole_12 : decode cX1_tellLoneHole 12 = .ok (.return_, 1) := by decide +kernel
theorem dX1_opensPart_0 : decode cX1_opensPart 0 = .ok (.iload_n 1, 1) := by decide +kernel
theorem dX1_opensPart_1 : decode cX1_opensPart 1 = .ok (.lookupswitch 92 #[(72, 71), (79, 35), (82, 49)], 35) := by decide +kernel
theorem dX1_opensPart_36 : decode cX1_opensPart 36 = .ok (.aload_n 0, 1) := by decide +kernel
theorem dX1_opensPart_37 : decode cX1_opensPart 37 = .ok (.getfield 9, 3) := by decide +kernel
theorem dX1_opensPart_40 : decode cX1_opensPart 40 = .ok (.iconst 4, 1) := by decide +kernel
theorem dX1_opensPart_41 : decode cX1_opensPart 41 = .ok (.if_icmp .ge 7, 3) := by decide +kernel
theorem dX1_opensPart_44 : decode cX1_opensPart 44 = .ok (.iconst 1, 1) := by decide +kernel
theorem dX1_opensPart_45 : decode cX1_opensPart 45 = .ok (.goto 4, 3) := by decide +kernel
theorem dX1_opensPart_48 : decode cX1_opensPart 48 = .ok (.iconst 0, 1) := by decide +kernel
theorem dX1_opensPart_49 : decode cX1_opensPart 49 = .ok (.ireturn, 1) := by decide +kernel
theorem dX1_opensPart_50 : decode cX1_opensPart 50 = .ok (.aload_n 0, 1) := by decide +kernel
theorem dX1_opensPart_51 : decode cX1_opensPart 51 = .ok (.getfield 9, 3) := by decide +kernel
theorem dX1_opensPart_54 : decode cX1_opensPart 54 = .ok (.ifCond .le 16, 3) := by decide +kernel
theorem dX1_opensPart_57 : decode cX1_opensPart 57 = .ok (.aload_n 0, 1) := by decide +kernel
theorem dX1_opensPart_58 : decode cX1_opensPart 58 = .ok (.getfield 37, 3) := by decide +kernel
theorem dX1_opensPart_61 : decode cX1_opensPart 61 = .ok (.bipush 15, 2) := by decide +kernel
theorem dX1_opensPart_63 : decode cX1_opensPart 63 = .ok (.if_icmp .eq 7, 3) := by decide +kernel
theorem dX1_opensPart_66 : decode cX1_opensPart 66 = .ok (.iconst 1, 1) := by decide +kernel
theorem dX1_opensPart_67 : decode cX1_opensPart 67 = .ok (.goto 4, 3) := by decide +kernel
theorem dX1_opensPart_70 : decode cX1_opensPart 70 = .ok (.iconst 0, 1) := by decide +kernel
theorem dX1_opensPart_71 : decode cX1_opensPart 71 = .ok (.ireturn, 1) := by decide +kernel
theorem dX1_opensPart_72 : decode cX1_opensPart 72 = .ok (.aload_n 0, 1) := by decide +kernel
theorem dX1_opensPart_73 : decode cX1_opensPart 73 = .ok (.getfield 9, 3) := by decide +kernel
theorem dX1_opensPart_76 : decode cX1_opensPart 76 = .ok (.ifCond .le 15, 3) := by decide +kernel
theorem dX1_opensPart_79 : decode cX1_opensPart 79 = .ok (.aload_n 0, 1) := by decide +kernel
theorem dX1_opensPart_80 : decode cX1_opensPart 80 = .ok (.getfield 15, 3) := by decide +kernel
theorem dX1_opensPart_83 : decode cX1_opensPart 83 = .ok (.iconst 5, 1) := by decide +kernel
theorem dX1_opensPart_84 : decode cX1_opensPart 84 = .ok (.if_icmp .ge 7, 3) := by decide +kernel
theorem dX1_opensPart_87 : decode cX1_opensPart 87 = .ok (.iconst 1, 1) := by decide +kernel
theorem dX1_opensPart_88 : decode cX1_opensPart 88 = .ok (.goto 4, 3) := by decide +kernel
theorem dX1_opensPart_91 : decode cX1_opensPart 91 = .ok (.iconst 0, 1) := by decide +kernel
theorem dX1_opensPart_92 : decode cX1_opensPart 92 = .ok (.ireturn, 1) := by decide +kernel
theorem dX1_opensPart_93 : decode cX1_opensPart 93 = .ok (.iconst 0, 1) := by decide +kernel
theorem dX1_opensPart_94 : decode cX1_opensPart 94 = .ok (.ireturn, 1) := by decide +kernel
theorem dX1_readsOwner_0 : decode cX1_readsOwner 0 = .ok (.iload_n 1, 1) := by decide +kernel
theorem dX1_readsOwner_1 : decode cX1_readsOwner 1 = .ok (.ifCond .lt 8, 3) := by decide +kernel
theorem dX1_readsOwner_4 : decode cX1_readsOwner 4 = .ok (.iload_n 1, 1) := by decide +kernel
theorem dX1_readsOwner_5 : decode cX1_readsOwner 5 = .ok (.iconst 4, 1) := by decide +kernel
theorem dX1_readsOwner_6 : decode cX1_readsOwner 6 = .ok (.if_icmp .lt 5, 3) := by decide +kernel
theorem dX1_readsOwner_9 : decode cX1_readsOwner 9 = .ok (.iconst 0, 1) := by decide +kernel
theorem dX1_readsOwner_10 : decode cX1_readsOwner 10 = .ok (.ireturn, 1) := by decide +kernel
theorem dX1_readsOwner_11 : decode cX1_readsOwner 11 = .ok (.aload_n 0, 1) := by decide +kernel
theorem dX1_readsOwner_12 : decode cX1_readsOwner 12 = .ok (.getfield 18, 3) := by decide +kernel
theorem dX1_readsOwner_15 : decode cX1_readsOwner 15 = .ok (.aload_n 0, 1) := by decide +kernel
theorem dX1_readsOwner_16 : decode cX1_readsOwner 16 = .ok (.getfield 9, 3) := by decide +kernel
theorem dX1_readsOwner_19 : decode cX1_readsOwner 19 = .ok (.iload_n 1, 1) := by decide +kernel
theorem dX1_readsOwner_20 : decode cX1_readsOwner 20 = .ok (.invokestatic 102, 3) := by decide +kernel
theorem dX1_readsOwner_23 : decode cX1_readsOwner 23 = .ok (.aload_n 0, 1) := by decide +kernel
theorem dX1_readsOwner_24 : decode cX1_readsOwner 24 = .ok (.dup, 1) := by decide +kernel
theorem dX1_readsOwner_25 : decode cX1_readsOwner 25 = .ok (.getfield 9, 3) := by decide +kernel
theorem dX1_readsOwner_28 : decode cX1_readsOwner 28 = .ok (.iconst 1, 1) := by decide +kernel
theorem dX1_readsOwner_29 : decode cX1_readsOwner 29 = .ok (.iadd, 1) := by decide +kernel
theorem dX1_readsOwner_30 : decode cX1_readsOwner 30 = .ok (.putfield 9, 3) := by decide +kernel
theorem dX1_readsOwner_33 : decode cX1_readsOwner 33 = .ok (.aload_n 0, 1) := by decide +kernel
theorem dX1_readsOwner_34 : decode cX1_readsOwner 34 = .ok (.bipush 68, 2) := by decide +kernel
theorem dX1_readsOwner_36 : decode cX1_readsOwner 36 = .ok (.putfield 43, 3) := by decide +kernel
theorem dX1_readsOwner_39 : decode cX1_readsOwner 39 = .ok (.iconst 1, 1) := by decide +kernel
theorem dX1_readsOwner_40 : decode cX1_readsOwner 40 = .ok (.ireturn, 1) := by decide +kernel
theorem dX1_readsRow_0 : decode cX1_readsRow 0 = .ok (.aload_n 0, 1) := by decide +kernel
theorem dX1_readsRow_1 : decode cX1_readsRow 1 = .ok (.getfield 46, 3) := by decide +kernel
theorem dX1_readsRow_4 : decode cX1_readsRow 4 = .ok (.ifCond .ne 39, 3) := by decide +kernel
theorem dX1_readsRow_7 : decode cX1_readsRow 7 = .ok (.aload_n 0, 1) := by decide +kernel
theorem dX1_readsRow_8 : decode cX1_readsRow 8 = .ok (.iconst 1, 1) := by decide +kernel
theorem dX1_readsRow_9 : decode cX1_readsRow 9 = .ok (.putfield 46, 3) := by decide +kernel
theorem dX1_readsRow_12 : decode cX1_readsRow 12 = .ok (.aload_n 0, 1) := by decide +kernel
theorem dX1_readsRow_13 : decode cX1_readsRow 13 = .ok (.iload_n 1, 1) := by decide +kernel
theorem dX1_readsRow_14 : decode cX1_readsRow 14 = .ok (.putfield 49, 3) := by decide +kernel
theorem dX1_readsRow_17 : decode cX1_readsRow 17 = .ok (.iload_n 1, 1) := by decide +kernel
theorem dX1_readsRow_18 : decode cX1_readsRow 18 = .ok (.ifCond .lt 23, 3) := by decide +kernel
theorem dX1_readsRow_21 : decode cX1_readsRow 21 = .ok (.iload_n 1, 1) := by decide +kernel
theorem dX1_readsRow_22 : decode cX1_readsRow 22 = .ok (.iconst 4, 1) := by decide +kernel
theorem dX1_readsRow_23 : decode cX1_readsRow 23 = .ok (.if_icmp .ge 18, 3) := by decide +kernel
theorem dX1_readsRow_26 : decode cX1_readsRow 26 = .ok (.aload_n 0, 1) := by decide +kernel
theorem dX1_readsRow_27 : decode cX1_readsRow 27 = .ok (.getfield 37, 3) := by decide +kernel
theorem dX1_readsRow_30 : decode cX1_readsRow 30 = .ok (.iconst 1, 1) := by decide +kernel
theorem dX1_readsRow_31 : decode cX1_readsRow 31 = .ok (.iload_n 1, 1) := by decide +kernel
theorem dX1_readsRow_32 : decode cX1_readsRow 32 = .ok (.ishl, 1) := by decide +kernel
theorem dX1_readsRow_33 : decode cX1_readsRow 33 = .ok (.iand, 1) := by decide +kernel
theorem dX1_readsRow_34 : decode cX1_readsRow 34 = .ok (.ifCond .ne 7, 3) := by decide +kernel
theorem dX1_readsRow_37 : decode cX1_readsRow 37 = .ok (.iconst 1, 1) := by decide +kernel
theorem dX1_readsRow_38 : decode cX1_readsRow 38 = .ok (.goto 4, 3) := by decide +kernel
theorem dX1_readsRow_41 : decode cX1_readsRow 41 = .ok (.iconst 0, 1) := by decide +kernel
theorem dX1_readsRow_42 : decode cX1_readsRow 42 = .ok (.ireturn, 1) := by decide +kernel
theorem dX1_readsRow_43 : decode cX1_readsRow 43 = .ok (.aload_n 0, 1) := by decide +kernel
theorem dX1_readsRow_44 : decode cX1_readsRow 44 = .ok (.iload_n 1, 1) := by decide +kernel
theorem dX1_readsRow_45 : decode cX1_readsRow 45 = .ok (.invokevirtual 61, 3) := by decide +kernel
theorem dX1_readsRow_48 : decode cX1_readsRow 48 = .ok (.ifCond .ne 5, 3) := by decide +kernel
theorem dX1_readsRow_51 : decode cX1_readsRow 51 = .ok (.iconst 0, 1) := by decide +kernel
theorem dX1_readsRow_52 : decode cX1_readsRow 52 = .ok (.ireturn, 1) := by decide +kernel
theorem dX1_readsRow_53 : decode cX1_readsRow 53 = .ok (.aload_n 0, 1) := by decide +kernel
theorem dX1_readsRow_54 : decode cX1_readsRow 54 = .ok (.getfield 22, 3) := by decide +kernel
theorem dX1_readsRow_57 : decode cX1_readsRow 57 = .ok (.aload_n 0, 1) := by decide +kernel
theorem dX1_readsRow_58 : decode cX1_readsRow 58 = .ok (.getfield 49, 3) := by decide +kernel
theorem dX1_readsRow_61 : decode cX1_readsRow 61 = .ok (.iload_n 1, 1) := by decide +kernel
theorem dX1_readsRow_62 : decode cX1_readsRow 62 = .ok (.invokestatic 102, 3) := by decide +kernel
theorem dX1_readsRow_65 : decode cX1_readsRow 65 = .ok (.aload_n 0, 1) := by decide +kernel
theorem dX1_readsRow_66 : decode cX1_readsRow 66 = .ok (.dup, 1) := by decide +kernel
theorem dX1_readsRow_67 : decode cX1_readsRow 67 = .ok (.getfield 37, 3) := by decide +kernel
theorem dX1_readsRow_70 : decode cX1_readsRow 70 = .ok (.iconst 1, 1) := by decide +kernel
theorem dX1_readsRow_71 : decode cX1_readsRow 71 = .ok (.aload_n 0, 1) := by decide +kernel
theorem dX1_readsRow_72 : decode cX1_readsRow 72 = .ok (.getfield 49, 3) := by decide +kernel
theorem dX1_readsRow_75 : decode cX1_readsRow 75 = .ok (.ishl, 1) := by decide +kernel
theorem dX1_readsRow_76 : decode cX1_readsRow 76 = .ok (.ior, 1) := by decide +kernel
theorem dX1_readsRow_77 : decode cX1_readsRow 77 = .ok (.putfield 37, 3) := by decide +kernel
theorem dX1_readsRow_80 : decode cX1_readsRow 80 = .ok (.aload_n 0, 1) := by decide +kernel
theorem dX1_readsRow_81 : decode cX1_readsRow 81 = .ok (.getfield 18, 3) := by decide +kernel
theorem dX1_readsRow_84 : decode cX1_readsRow 84 = .ok (.iload_n 1, 1) := by decide +kernel
theorem dX1_readsRow_85 : decode cX1_readsRow 85 = .ok (.invokestatic 74, 3) := by decide +kernel
theorem dX1_readsRow_88 : decode cX1_readsRow 88 = .ok (.iconst 1, 1) := by decide +kernel
theorem dX1_readsRow_89 : decode cX1_readsRow 89 = .ok (.if_icmp .ne 19, 3) := by decide +kernel
theorem dX1_readsRow_92 : decode cX1_readsRow 92 = .ok (.aload_n 0, 1) := by decide +kernel
theorem dX1_readsRow_93 : decode cX1_readsRow 93 = .ok (.dup, 1) := by decide +kernel
theorem dX1_readsRow_94 : decode cX1_readsRow 94 = .ok (.getfield 34, 3) := by decide +kernel
theorem dX1_readsRow_97 : decode cX1_readsRow 97 = .ok (.aload_n 0, 1) := by decide +kernel
theorem dX1_readsRow_98 : decode cX1_readsRow 98 = .ok (.getfield 49, 3) := by decide +kernel
theorem dX1_readsRow_101 : decode cX1_readsRow 101 = .ok (.invokestatic 65, 3) := by decide +kernel
theorem dX1_readsRow_104 : decode cX1_readsRow 104 = .ok (.ior, 1) := by decide +kernel
theorem dX1_readsRow_105 : decode cX1_readsRow 105 = .ok (.putfield 34, 3) := by decide +kernel
theorem dX1_readsRow_108 : decode cX1_readsRow 108 = .ok (.aload_n 0, 1) := by decide +kernel
theorem dX1_readsRow_109 : decode cX1_readsRow 109 = .ok (.bipush 68, 2) := by decide +kernel
theorem dX1_readsRow_111 : decode cX1_readsRow 111 = .ok (.putfield 43, 3) := by decide +kernel
theorem dX1_readsRow_114 : decode cX1_readsRow 114 = .ok (.iconst 1, 1) := by decide +kernel
theorem dX1_readsRow_115 : decode cX1_readsRow 115 = .ok (.ireturn, 1) := by decide +kernel
theorem dX1_readsHole_0 : decode cX1_readsHole 0 = .ok (.iload_n 1, 1) := by decide +kernel
theorem dX1_readsHole_1 : decode cX1_readsHole 1 = .ok (.bipush 48, 2) := by decide +kernel
theorem dX1_readsHole_3 : decode cX1_readsHole 3 = .ok (.isub, 1) := by decide +kernel
theorem dX1_readsHole_4 : decode cX1_readsHole 4 = .ok (.istore_n 2, 1) := by decide +kernel
theorem dX1_readsHole_5 : decode cX1_readsHole 5 = .ok (.aload_n 0, 1) := by decide +kernel
theorem dX1_readsHole_6 : decode cX1_readsHole 6 = .ok (.getfield 46, 3) := by decide +kernel
theorem dX1_readsHole_9 : decode cX1_readsHole 9 = .ok (.lookupswitch 87 #[(0, 27), (1, 71)], 27) := by decide +kernel
theorem dX1_readsHole_36 : decode cX1_readsHole 36 = .ok (.aload_n 0, 1) := by decide +kernel
theorem dX1_readsHole_37 : decode cX1_readsHole 37 = .ok (.iconst 1, 1) := by decide +kernel
theorem dX1_readsHole_38 : decode cX1_readsHole 38 = .ok (.putfield 46, 3) := by decide +kernel
theorem dX1_readsHole_41 : decode cX1_readsHole 41 = .ok (.aload_n 0, 1) := by decide +kernel
theorem dX1_readsHole_42 : decode cX1_readsHole 42 = .ok (.iload_n 1, 1) := by decide +kernel
theorem dX1_readsHole_43 : decode cX1_readsHole 43 = .ok (.bipush 97, 2) := by decide +kernel
theorem dX1_readsHole_45 : decode cX1_readsHole 45 = .ok (.isub, 1) := by decide +kernel
theorem dX1_readsHole_46 : decode cX1_readsHole 46 = .ok (.putfield 49, 3) := by decide +kernel
theorem dX1_readsHole_49 : decode cX1_readsHole 49 = .ok (.aload_n 0, 1) := by decide +kernel
theorem dX1_readsHole_50 : decode cX1_readsHole 50 = .ok (.getfield 49, 3) := by decide +kernel
theorem dX1_readsHole_53 : decode cX1_readsHole 53 = .ok (.invokestatic 106, 3) := by decide +kernel
theorem dX1_readsHole_56 : decode cX1_readsHole 56 = .ok (.ifCond .eq 22, 3) := by decide +kernel
theorem dX1_readsHole_59 : decode cX1_readsHole 59 = .ok (.aload_n 0, 1) := by decide +kernel
theorem dX1_readsHole_60 : decode cX1_readsHole 60 = .ok (.getfield 40, 3) := by decide +kernel
theorem dX1_readsHole_63 : decode cX1_readsHole 63 = .ok (.aload_n 0, 1) := by decide +kernel
theorem dX1_readsHole_64 : decode cX1_readsHole 64 = .ok (.getfield 49, 3) := by decide +kernel
theorem dX1_readsHole_67 : decode cX1_readsHole 67 = .ok (.invokestatic 109, 3) := by decide +kernel
theorem dX1_readsHole_70 : decode cX1_readsHole 70 = .ok (.iand, 1) := by decide +kernel
theorem dX1_readsHole_71 : decode cX1_readsHole 71 = .ok (.ifCond .ne 7, 3) := by decide +kernel
theorem dX1_readsHole_74 : decode cX1_readsHole 74 = .ok (.iconst 1, 1) := by decide +kernel
theorem dX1_readsHole_75 : decode cX1_readsHole 75 = .ok (.goto 4, 3) := by decide +kernel
theorem dX1_readsHole_78 : decode cX1_readsHole 78 = .ok (.iconst 0, 1) := by decide +kernel
theorem dX1_readsHole_79 : decode cX1_readsHole 79 = .ok (.ireturn, 1) := by decide +kernel
theorem dX1_readsHole_80 : decode cX1_readsHole 80 = .ok (.aload_n 0, 1) := by decide +kernel
theorem dX1_readsHole_81 : decode cX1_readsHole 81 = .ok (.iconst 2, 1) := by decide +kernel
theorem dX1_readsHole_82 : decode cX1_readsHole 82 = .ok (.putfield 46, 3) := by decide +kernel
theorem dX1_readsHole_85 : decode cX1_readsHole 85 = .ok (.aload_n 0, 1) := by decide +kernel
theorem dX1_readsHole_86 : decode cX1_readsHole 86 = .ok (.iload_n 2, 1) := by decide +kernel
theorem dX1_readsHole_87 : decode cX1_readsHole 87 = .ok (.putfield 52, 3) := by decide +kernel
theorem dX1_readsHole_90 : decode cX1_readsHole 90 = .ok (.aload_n 0, 1) := by decide +kernel
theorem dX1_readsHole_91 : decode cX1_readsHole 91 = .ok (.iload_n 2, 1) := by decide +kernel
theorem dX1_readsHole_92 : decode cX1_readsHole 92 = .ok (.invokevirtual 61, 3) := by decide +kernel
theorem dX1_readsHole_95 : decode cX1_readsHole 95 = .ok (.ireturn, 1) := by decide +kernel
theorem dX1_readsHole_96 : decode cX1_readsHole 96 = .ok (.iload_n 2, 1) := by decide +kernel
theorem dX1_readsHole_97 : decode cX1_readsHole 97 = .ok (.ifCond .lt 8, 3) := by decide +kernel
theorem dX1_readsHole_100 : decode cX1_readsHole 100 = .ok (.iload_n 2, 1) := by decide +kernel
theorem dX1_readsHole_101 : decode cX1_readsHole 101 = .ok (.iconst 4, 1) := by decide +kernel
theorem dX1_readsHole_102 : decode cX1_readsHole 102 = .ok (.if_icmp .lt 5, 3) := by decide +kernel
theorem dX1_readsHole_105 : decode cX1_readsHole 105 = .ok (.iconst 0, 1) := by decide +kernel
theorem dX1_readsHole_106 : decode cX1_readsHole 106 = .ok (.ireturn, 1) := by decide +kernel
theorem dX1_readsHole_107 : decode cX1_readsHole 107 = .ok (.aload_n 0, 1) := by decide +kernel
theorem dX1_readsHole_108 : decode cX1_readsHole 108 = .ok (.aload_n 0, 1) := by decide +kernel
theorem dX1_readsHole_109 : decode cX1_readsHole 109 = .ok (.getfield 49, 3) := by decide +kernel
theorem dX1_readsHole_112 : decode cX1_readsHole 112 = .ok (.aload_n 0, 1) := by decide +kernel
theorem dX1_readsHole_113 : decode cX1_readsHole 113 = .ok (.getfield 52, 3) := by decide +kernel
theorem dX1_readsHole_116 : decode cX1_readsHole 116 = .ok (.iload_n 2, 1) := by decide +kernel
theorem dX1_readsHole_117 : decode cX1_readsHole 117 = .ok (.invokevirtual 83, 3) := by decide +kernel
theorem dX1_readsHole_120 : decode cX1_readsHole 120 = .ok (.aload_n 0, 1) := by decide +kernel
theorem dX1_readsHole_121 : decode cX1_readsHole 121 = .ok (.bipush 68, 2) := by decide +kernel
theorem dX1_readsHole_123 : decode cX1_readsHole 123 = .ok (.putfield 43, 3) := by decide +kernel
theorem dX1_readsHole_126 : decode cX1_readsHole 126 = .ok (.iconst 1, 1) := by decide +kernel
theorem dX1_readsHole_127 : decode cX1_readsHole 127 = .ok (.ireturn, 1) := by decide +kernel
theorem dX1_reads_0 : decode cX1_reads 0 = .ok (.aload_n 0, 1) := by decide +kernel
theorem dX1_reads_1 : decode cX1_reads 1 = .ok (.getfield 43, 3) := by decide +kernel
theorem dX1_reads_4 : decode cX1_reads 4 = .ok (.lookupswitch 96 #[(0, 44), (68, 62), (79, 78), (82, 87)], 44) := by decide +kernel
theorem dX1_reads_48 : decode cX1_reads 48 = .ok (.aload_n 0, 1) := by decide +kernel
theorem dX1_reads_49 : decode cX1_reads 49 = .ok (.bipush 68, 2) := by decide +kernel
theorem dX1_reads_51 : decode cX1_reads 51 = .ok (.putfield 43, 3) := by decide +kernel
theorem dX1_reads_54 : decode cX1_reads 54 = .ok (.iload_n 1, 1) := by decide +kernel
theorem dX1_reads_55 : decode cX1_reads 55 = .ok (.bipush 68, 2) := by decide +kernel
theorem dX1_reads_57 : decode cX1_reads 57 = .ok (.if_icmp .ne 7, 3) := by decide +kernel
theorem dX1_reads_60 : decode cX1_reads 60 = .ok (.iconst 1, 1) := by decide +kernel
theorem dX1_reads_61 : decode cX1_reads 61 = .ok (.goto 4, 3) := by decide +kernel
theorem dX1_reads_64 : decode cX1_reads 64 = .ok (.iconst 0, 1) := by decide +kernel
theorem dX1_reads_65 : decode cX1_reads 65 = .ok (.ireturn, 1) := by decide +kernel
theorem dX1_reads_66 : decode cX1_reads 66 = .ok (.aload_n 0, 1) := by decide +kernel
theorem dX1_reads_67 : decode cX1_reads 67 = .ok (.iload_n 1, 1) := by decide +kernel
theorem dX1_reads_68 : decode cX1_reads 68 = .ok (.putfield 43, 3) := by decide +kernel
theorem dX1_reads_71 : decode cX1_reads 71 = .ok (.aload_n 0, 1) := by decide +kernel
theorem dX1_reads_72 : decode cX1_reads 72 = .ok (.iconst 0, 1) := by decide +kernel
theorem dX1_reads_73 : decode cX1_reads 73 = .ok (.putfield 46, 3) := by decide +kernel
theorem dX1_reads_76 : decode cX1_reads 76 = .ok (.aload_n 0, 1) := by decide +kernel
theorem dX1_reads_77 : decode cX1_reads 77 = .ok (.iload_n 1, 1) := by decide +kernel
theorem dX1_reads_78 : decode cX1_reads 78 = .ok (.invokevirtual 90, 3) := by decide +kernel
theorem dX1_reads_81 : decode cX1_reads 81 = .ok (.ireturn, 1) := by decide +kernel
theorem dX1_reads_82 : decode cX1_reads 82 = .ok (.aload_n 0, 1) := by decide +kernel
theorem dX1_reads_83 : decode cX1_reads 83 = .ok (.iload_n 1, 1) := by decide +kernel
theorem dX1_reads_84 : decode cX1_reads 84 = .ok (.bipush 48, 2) := by decide +kernel
theorem dX1_reads_86 : decode cX1_reads 86 = .ok (.isub, 1) := by decide +kernel
theorem dX1_reads_87 : decode cX1_reads 87 = .ok (.invokevirtual 93, 3) := by decide +kernel
theorem dX1_reads_90 : decode cX1_reads 90 = .ok (.ireturn, 1) := by decide +kernel
theorem dX1_reads_91 : decode cX1_reads 91 = .ok (.aload_n 0, 1) := by decide +kernel
theorem dX1_reads_92 : decode cX1_reads 92 = .ok (.iload_n 1, 1) := by decide +kernel
theorem dX1_reads_93 : decode cX1_reads 93 = .ok (.bipush 48, 2) := by decide +kernel
theorem dX1_reads_95 : decode cX1_reads 95 = .ok (.isub, 1) := by decide +kernel
theorem dX1_reads_96 : decode cX1_reads 96 = .ok (.invokevirtual 96, 3) := by decide +kernel
theorem dX1_reads_99 : decode cX1_reads 99 = .ok (.ireturn, 1) := by decide +kernel
theorem dX1_reads_100 : decode cX1_reads 100 = .ok (.aload_n 0, 1) := by decide +kernel
theorem dX1_reads_101 : decode cX1_reads 101 = .ok (.iload_n 1, 1) := by decide +kernel
theorem dX1_reads_102 : decode cX1_reads 102 = .ok (.invokevirtual 99, 3) := by decide +kernel
theorem dX1_reads_105 : decode cX1_reads 105 = .ok (.ireturn, 1) := by decide +kernel
theorem dX1_readAll_0 : decode cX1_readAll 0 = .ok (.aload_n 0, 1) := by decide +kernel
theorem dX1_readAll_1 : decode cX1_readAll 1 = .ok (.invokevirtual 80, 3) := by decide +kernel
theorem dX1_readAll_4 : decode cX1_readAll 4 = .ok (.iconst 0, 1) := by decide +kernel
theorem dX1_readAll_5 : decode cX1_readAll 5 = .ok (.istore_n 3, 1) := by decide +kernel
theorem dX1_readAll_6 : decode cX1_readAll 6 = .ok (.iload_n 3, 1) := by decide +kernel
theorem dX1_readAll_7 : decode cX1_readAll 7 = .ok (.iload_n 2, 1) := by decide +kernel
theorem dX1_readAll_8 : decode cX1_readAll 8 = .ok (.if_icmp .ge 27, 3) := by decide +kernel
theorem dX1_readAll_11 : decode cX1_readAll 11 = .ok (.iload_n 3, 1) := by decide +kernel
theorem dX1_readAll_12 : decode cX1_readAll 12 = .ok (.aload_n 1, 1) := by decide +kernel
theorem dX1_readAll_13 : decode cX1_readAll 13 = .ok (.arraylength, 1) := by decide +kernel
theorem dX1_readAll_14 : decode cX1_readAll 14 = .ok (.if_icmp .ge 21, 3) := by decide +kernel
theorem dX1_readAll_17 : decode cX1_readAll 17 = .ok (.aload_n 0, 1) := by decide +kernel
theorem dX1_readAll_18 : decode cX1_readAll 18 = .ok (.aload_n 1, 1) := by decide +kernel
theorem dX1_readAll_19 : decode cX1_readAll 19 = .ok (.iload_n 3, 1) := by decide +kernel
theorem dX1_readAll_20 : decode cX1_readAll 20 = .ok (.iaload, 1) := by decide +kernel
theorem dX1_readAll_21 : decode cX1_readAll 21 = .ok (.invokevirtual 87, 3) := by decide +kernel
theorem dX1_readAll_24 : decode cX1_readAll 24 = .ok (.ifCond .ne 5, 3) := by decide +kernel
theorem dX1_readAll_27 : decode cX1_readAll 27 = .ok (.iload_n 3, 1) := by decide +kernel
theorem dX1_readAll_28 : decode cX1_readAll 28 = .ok (.ireturn, 1) := by decide +kernel
theorem dX1_readAll_29 : decode cX1_readAll 29 = .ok (.iinc 3 1, 3) := by decide +kernel
theorem dX1_readAll_32 : decode cX1_readAll 32 = .ok (.goto (-26), 3) := by decide +kernel
theorem dX1_readAll_35 : decode cX1_readAll 35 = .ok (.aload_n 0, 1) := by decide +kernel
theorem dX1_readAll_36 : decode cX1_readAll 36 = .ok (.getfield 43, 3) := by decide +kernel
theorem dX1_readAll_39 : decode cX1_readAll 39 = .ok (.bipush 68, 2) := by decide +kernel
theorem dX1_readAll_41 : decode cX1_readAll 41 = .ok (.if_icmp .ne 8, 3) := by decide +kernel
theorem dX1_readAll_44 : decode cX1_readAll 44 = .ok (.bipush (-9), 2) := by decide +kernel
theorem dX1_readAll_46 : decode cX1_readAll 46 = .ok (.goto 4, 3) := by decide +kernel
theorem dX1_readAll_49 : decode cX1_readAll 49 = .ok (.iload_n 2, 1) := by decide +kernel
theorem dX1_readAll_50 : decode cX1_readAll 50 = .ok (.ireturn, 1) := by decide +kernel
theorem dX4_addOne_0 : decode cX4_addOne 0 = .ok (.aload_n 0, 1) := by decide +kernel
theorem dX4_addOne_1 : decode cX4_addOne 1 = .ok (.getfield 22, 3) := by decide +kernel
theorem dX4_addOne_4 : decode cX4_addOne 4 = .ok (.ifCond .lt 52, 3) := by decide +kernel
theorem dX4_addOne_7 : decode cX4_addOne 7 = .ok (.aload_n 0, 1) := by decide +kernel
theorem dX4_addOne_8 : decode cX4_addOne 8 = .ok (.getfield 22, 3) := by decide +kernel
theorem dX4_addOne_11 : decode cX4_addOne 11 = .ok (.bipush 6, 2) := by decide +kernel
theorem dX4_addOne_13 : decode cX4_addOne 13 = .ok (.if_icmp .ge 43, 3) := by decide +kernel
theorem dX4_addOne_16 : decode cX4_addOne 16 = .ok (.aload_n 0, 1) := by decide +kernel
theorem dX4_addOne_17 : decode cX4_addOne 17 = .ok (.getfield 9, 3) := by decide +kernel
theorem dX4_addOne_20 : decode cX4_addOne 20 = .ok (.aload_n 0, 1) := by decide +kernel
theorem dX4_addOne_21 : decode cX4_addOne 21 = .ok (.getfield 22, 3) := by decide +kernel
theorem dX4_addOne_24 : decode cX4_addOne 24 = .ok (.iload_n 1, 1) := by decide +kernel
theorem dX4_addOne_25 : decode cX4_addOne 25 = .ok (.iastore, 1) := by decide +kernel
theorem dX4_addOne_26 : decode cX4_addOne 26 = .ok (.aload_n 0, 1) := by decide +kernel
theorem dX4_addOne_27 : decode cX4_addOne 27 = .ok (.getfield 15, 3) := by decide +kernel
theorem dX4_addOne_30 : decode cX4_addOne 30 = .ok (.aload_n 0, 1) := by decide +kernel
theorem dX4_addOne_31 : decode cX4_addOne 31 = .ok (.getfield 22, 3) := by decide +kernel
theorem dX4_addOne_34 : decode cX4_addOne 34 = .ok (.iload_n 2, 1) := by decide +kernel
theorem dX4_addOne_35 : decode cX4_addOne 35 = .ok (.iastore, 1) := by decide +kernel
theorem dX4_addOne_36 : decode cX4_addOne 36 = .ok (.aload_n 0, 1) := by decide +kernel
theorem dX4_addOne_37 : decode cX4_addOne 37 = .ok (.getfield 18, 3) := by decide +kernel
theorem dX4_addOne_40 : decode cX4_addOne 40 = .ok (.aload_n 0, 1) := by decide +kernel
theorem dX4_addOne_41 : decode cX4_addOne 41 = .ok (.getfield 22, 3) := by decide +kernel
theorem dX4_addOne_44 : decode cX4_addOne 44 = .ok (.iload_n 3, 1) := by decide +kernel
theorem dX4_addOne_45 : decode cX4_addOne 45 = .ok (.bastore, 1) := by decide +kernel
theorem dX4_addOne_46 : decode cX4_addOne 46 = .ok (.aload_n 0, 1) := by decide +kernel
theorem dX4_addOne_47 : decode cX4_addOne 47 = .ok (.dup, 1) := by decide +kernel
theorem dX4_addOne_48 : decode cX4_addOne 48 = .ok (.getfield 22, 3) := by decide +kernel
theorem dX4_addOne_51 : decode cX4_addOne 51 = .ok (.iconst 1, 1) := by decide +kernel
theorem dX4_addOne_52 : decode cX4_addOne 52 = .ok (.iadd, 1) := by decide +kernel
theorem dX4_addOne_53 : decode cX4_addOne 53 = .ok (.putfield 22, 3) := by decide +kernel
theorem dX4_addOne_56 : decode cX4_addOne 56 = .ok (.return_, 1) := by decide +kernel
theorem dX4_agrees_0 : decode cX4_agrees 0 = .ok (.iconst 0, 1) := by decide +kernel
theorem dX4_agrees_1 : decode cX4_agrees 1 = .ok (.istore_n 3, 1) := by decide +kernel
theorem dX4_agrees_2 : decode cX4_agrees 2 = .ok (.iload_n 3, 1) := by decide +kernel
theorem dX4_agrees_3 : decode cX4_agrees 3 = .ok (.bipush 6, 2) := by decide +kernel
theorem dX4_agrees_5 : decode cX4_agrees 5 = .ok (.if_icmp .ge 61, 3) := by decide +kernel
theorem dX4_agrees_8 : decode cX4_agrees 8 = .ok (.iload_n 3, 1) := by decide +kernel
theorem dX4_agrees_9 : decode cX4_agrees 9 = .ok (.aload_n 0, 1) := by decide +kernel
theorem dX4_agrees_10 : decode cX4_agrees 10 = .ok (.getfield 22, 3) := by decide +kernel
theorem dX4_agrees_13 : decode cX4_agrees 13 = .ok (.if_icmp .ge 53, 3) := by decide +kernel
theorem dX4_agrees_16 : decode cX4_agrees 16 = .ok (.iload_n 2, 1) := by decide +kernel
theorem dX4_agrees_17 : decode cX4_agrees 17 = .ok (.aload_n 0, 1) := by decide +kernel
theorem dX4_agrees_18 : decode cX4_agrees 18 = .ok (.getfield 9, 3) := by decide +kernel
theorem dX4_agrees_21 : decode cX4_agrees 21 = .ok (.iload_n 3, 1) := by decide +kernel
theorem dX4_agrees_22 : decode cX4_agrees 22 = .ok (.iaload, 1) := by decide +kernel
theorem dX4_agrees_23 : decode cX4_agrees 23 = .ok (.invokestatic 26, 3) := by decide +kernel
theorem dX4_agrees_26 : decode cX4_agrees 26 = .ok (.iand, 1) := by decide +kernel
theorem dX4_agrees_27 : decode cX4_agrees 27 = .ok (.ifCond .eq 7, 3) := by decide +kernel
theorem dX4_agrees_30 : decode cX4_agrees 30 = .ok (.iconst 1, 1) := by decide +kernel
theorem dX4_agrees_31 : decode cX4_agrees 31 = .ok (.goto 4, 3) := by decide +kernel
theorem dX4_agrees_34 : decode cX4_agrees 34 = .ok (.iconst 0, 1) := by decide +kernel
theorem dX4_agrees_35 : decode cX4_agrees 35 = .ok (.istore 4, 2) := by decide +kernel
theorem dX4_agrees_37 : decode cX4_agrees 37 = .ok (.aload_n 0, 1) := by decide +kernel
theorem dX4_agrees_38 : decode cX4_agrees 38 = .ok (.getfield 15, 3) := by decide +kernel
theorem dX4_agrees_41 : decode cX4_agrees 41 = .ok (.iload_n 3, 1) := by decide +kernel
theorem dX4_agrees_42 : decode cX4_agrees 42 = .ok (.iaload, 1) := by decide +kernel
theorem dX4_agrees_43 : decode cX4_agrees 43 = .ok (.iload_n 1, 1) := by decide +kernel
theorem dX4_agrees_44 : decode cX4_agrees 44 = .ok (.if_icmp .ne 16, 3) := by decide +kernel
theorem dX4_agrees_47 : decode cX4_agrees 47 = .ok (.iload 4, 2) := by decide +kernel
theorem dX4_agrees_49 : decode cX4_agrees 49 = .ok (.aload_n 0, 1) := by decide +kernel
theorem dX4_agrees_50 : decode cX4_agrees 50 = .ok (.getfield 18, 3) := by decide +kernel
theorem dX4_agrees_53 : decode cX4_agrees 53 = .ok (.iload_n 3, 1) := by decide +kernel
theorem dX4_agrees_54 : decode cX4_agrees 54 = .ok (.baload, 1) := by decide +kernel
theorem dX4_agrees_55 : decode cX4_agrees 55 = .ok (.if_icmp .eq 5, 3) := by decide +kernel
theorem dX4_agrees_58 : decode cX4_agrees 58 = .ok (.iconst 0, 1) := by decide +kernel
theorem dX4_agrees_59 : decode cX4_agrees 59 = .ok (.ireturn, 1) := by decide +kernel
theorem dX4_agrees_60 : decode cX4_agrees 60 = .ok (.iinc 3 1, 3) := by decide +kernel
theorem dX4_agrees_63 : decode cX4_agrees 63 = .ok (.goto (-61), 3) := by decide +kernel
theorem dX4_agrees_66 : decode cX4_agrees 66 = .ok (.iconst 1, 1) := by decide +kernel
theorem dX4_agrees_67 : decode cX4_agrees 67 = .ok (.ireturn, 1) := by decide +kernel
def wp_X1_hasOwner (p0 : Int32) (s0 : CS) (Q : Int32 → Prop) : Prop := ((p0 < 0 → Q (0 : Int32)) ∧ (¬ p0 < 0 → (((s0.1 0) ≤ p0 → Q (0 : Int32)) ∧ (¬ (s0.1 0) ≤ p0 → Q (1 : Int32)))))
set_option maxHeartbeats 4000000 in
set_option maxRecDepth 100000 in
theorem c_X1_hasOwner (l : Launch) (D : va_G) (cI cZ cW : ClassId) (q0 : Nat → Nat) (p0 : Int32) (s0 : CS) (Q : Int32 → Prop) (hf : wp_X1_hasOwner p0 s0 Q) : Met l yX1_hasOwner (wsA yX1_hasOwner cX1_hasOwner 2 (some .boolean)) ({ frames := 0, cells := 0, slots := 0, locals := 0 }) (PR D cI cZ cW [.ref (q0 0), .int p0] (wD cI cZ q0 s0)) (vp_Si Q) 0 0 (fun _ => False) := by
  refine Met.ofW (cc := cX1_hasOwner) (maxL := 2) (ret := (some .boolean)) (by decide) rfl ?_
  intro p e s m args below meth c s₁ B hml hv
  obtain ⟨rfl, hP, hK⟩ := hv
  have hx := B.exec
  have hb := B.bytes
  have hr := B.returns
  have hts := atoms_spec (ws := (wsA yX1_hasOwner cX1_hasOwner 2 (some .boolean))) B.pre
  have ht : ∀ w ∈ lw_g, w.before _ s = true := fun w h => hts w (List.mem_cons_of_mem _ h)
  have hown : s.vm.findClass RX1 = some m.cls := findClass_of_methodNamed B.named
  have hlocks := B.notSynchronized
  have hl := lv_entry ([.ref (q0 0), .int p0]) (n := 2) (Nat.le_of_ble_eq_true rfl)
  rw [lg_entry_eq]
  generalize (lg_sl ([.ref (q0 0), .int p0]) ++ List.replicate (2 - (lg_sl ([.ref (q0 0), .int p0])).length) Slot.unset).toArray = ls at hl ⊢
  have hl : lv_has ls 2 [(0, .ref (q0 0)), (1, .int p0)] := hl
  unfold wp_X1_hasOwner at hf
  refine lv_iload_n hx hb dX1_hasOwner_0 rfl (lv_at hl 1 rfl) ?_
  refine lv_if_lt (tgt := 16) hx hb dX1_hasOwner_1 (by decide) (fun c_1 => ?_) (fun c_1 => ?_)
  · have hf := hf.1 c_1
    refine lv_iconst (v := (0 : Int32)) hx hb dX1_hasOwner_16 (by decide) ?_
    exact W.zret (v := (0 : Int32)) hx hb hr rfl (fun t ht hW => ⟨(0 : Int32), rfl, hf, ht⟩) (fun q h => absurd h List.not_mem_nil) dX1_hasOwner_17
  · have hf := hf.2 c_1
    refine lv_iload_n hx hb dX1_hasOwner_4 rfl (lv_at hl 1 rfl) ?_
    refine lv_aload_n hx hb dX1_hasOwner_5 rfl (lv_at hl 0 rfl) ?_
    refine va_get (D := D) (ci := 1) (v := .int (s0.1 0)) (C := RX1) (T := TX1) (N := 14) hx hb ht inX1 hown hK hP 0 rfl rfl 0 (by decide) (ht _ tw_30) (fun _ h9 => h9) rfl dX1_hasOwner_6 ?_
    refine lv_icmp_ge (tgt := 16) hx hb dX1_hasOwner_9 (by decide) (fun c_2 => ?_) (fun c_2 => ?_)
    · have hf := hf.1 c_2
      refine lv_iconst (v := (0 : Int32)) hx hb dX1_hasOwner_16 (by decide) ?_
      exact W.zret (v := (0 : Int32)) hx hb hr rfl (fun t ht hW => ⟨(0 : Int32), rfl, hf, ht⟩) (fun q h => absurd h List.not_mem_nil) dX1_hasOwner_17
    · have hf := hf.2 c_2
      refine lv_iconst (v := (1 : Int32)) hx hb dX1_hasOwner_12 (by decide) ?_
      refine lv_goto (tgt := 17) hx hb dX1_hasOwner_13 (by decide) ?_
      exact W.zret (v := (1 : Int32)) hx hb hr rfl (fun t ht hW => ⟨(1 : Int32), rfl, hf, ht⟩) (fun q h => absurd h List.not_mem_nil) dX1_hasOwner_17
def wp_X1_hasHole (p0 : Int32) (s0 : CS) (Q : Int32 → Prop) : Prop := ((p0 < 0 → Q (0 : Int32)) ∧ (¬ p0 < 0 → (((s0.1 1) ≤ p0 → Q (0 : Int32)) ∧ (¬ (s0.1 1) ≤ p0 → Q (1 : Int32)))))
set_option maxHeartbeats 4000000 in
set_option maxRecDepth 100000 in
theorem c_X1_hasHole (l : Launch) (D : va_G) (cI cZ cW : ClassId) (q0 : Nat → Nat) (p0 : Int32) (s0 : CS) (Q : Int32 → Prop) (hf : wp_X1_hasHole p0 s0 Q) : Met l yX1_hasHole (wsA yX1_hasHole cX1_hasHole 2 (some .boolean)) ({ frames := 0, cells := 0, slots := 0, locals := 0 }) (PR D cI cZ cW [.ref (q0 0), .int p0] (wD cI cZ q0 s0)) (vp_Si Q) 0 0 (fun _ => False) := by
  refine Met.ofW (cc := cX1_hasHole) (maxL := 2) (ret := (some .boolean)) (by decide) rfl ?_
  intro p e s m args below meth c s₁ B hml hv
  obtain ⟨rfl, hP, hK⟩ := hv
  have hx := B.exec
  have hb := B.bytes
  have hr := B.returns
  have hts := atoms_spec (ws := (wsA yX1_hasHole cX1_hasHole 2 (some .boolean))) B.pre
  have ht : ∀ w ∈ lw_g, w.before _ s = true := fun w h => hts w (List.mem_cons_of_mem _ h)
  have hown : s.vm.findClass RX1 = some m.cls := findClass_of_methodNamed B.named
  have hlocks := B.notSynchronized
  have hl := lv_entry ([.ref (q0 0), .int p0]) (n := 2) (Nat.le_of_ble_eq_true rfl)
  rw [lg_entry_eq]
  generalize (lg_sl ([.ref (q0 0), .int p0]) ++ List.replicate (2 - (lg_sl ([.ref (q0 0), .int p0])).length) Slot.unset).toArray = ls at hl ⊢
  have hl : lv_has ls 2 [(0, .ref (q0 0)), (1, .int p0)] := hl
  unfold wp_X1_hasHole at hf
  refine lv_iload_n hx hb dX1_hasHole_0 rfl (lv_at hl 1 rfl) ?_
  refine lv_if_lt (tgt := 16) hx hb dX1_hasHole_1 (by decide) (fun c_1 => ?_) (fun c_1 => ?_)
  · have hf := hf.1 c_1
    refine lv_iconst (v := (0 : Int32)) hx hb dX1_hasHole_16 (by decide) ?_
    exact W.zret (v := (0 : Int32)) hx hb hr rfl (fun t ht hW => ⟨(0 : Int32), rfl, hf, ht⟩) (fun q h => absurd h List.not_mem_nil) dX1_hasHole_17
  · have hf := hf.2 c_1
    refine lv_iload_n hx hb dX1_hasHole_4 rfl (lv_at hl 1 rfl) ?_
    refine lv_aload_n hx hb dX1_hasHole_5 rfl (lv_at hl 0 rfl) ?_
    refine va_get (D := D) (ci := 1) (v := .int (s0.1 1)) (C := RX1) (T := TX1) (N := 14) hx hb ht inX1 hown hK hP 0 rfl rfl 1 (by decide) (ht _ tw_32) (fun _ h9 => h9) rfl dX1_hasHole_6 ?_
    refine lv_icmp_ge (tgt := 16) hx hb dX1_hasHole_9 (by decide) (fun c_2 => ?_) (fun c_2 => ?_)
    · have hf := hf.1 c_2
      refine lv_iconst (v := (0 : Int32)) hx hb dX1_hasHole_16 (by decide) ?_
      exact W.zret (v := (0 : Int32)) hx hb hr rfl (fun t ht hW => ⟨(0 : Int32), rfl, hf, ht⟩) (fun q h => absurd h List.not_mem_nil) dX1_hasHole_17
    · have hf := hf.2 c_2
      refine lv_iconst (v := (1 : Int32)) hx hb dX1_hasHole_12 (by decide) ?_
      refine lv_goto (tgt := 17) hx hb dX1_hasHole_13 (by decide) ?_
      exact W.zret (v := (1 : Int32)) hx hb hr rfl (fun t ht hW => ⟨(1 : Int32), rfl, hf, ht⟩) (fun q h => absurd h List.not_mem_nil) dX1_hasHole_17
def B_X1_rowsOf_25 (G4 : (Int32 × Int32 × Int32) → Prop) (s0 : CS) (x1 : Int32) (x2 : Int32) (x3 : Int32) (Q : Int32 → Prop) : Prop := ∀ x3_1 : Int32, x3_1 = x3 + (1 : Int32) → G4 (x1, x2, x3_1)
def LB_X1_rowsOf_4 (G4 : (Int32 × Int32 × Int32) → Prop) (s0 : CS) (x1 : Int32) (x2 : Int32) (x3 : Int32) (Q : Int32 → Prop) : Prop := (((4 : Int32) ≤ x3 → Q x2) ∧ (¬ (4 : Int32) ≤ x3 → vp_in x3 4 ∧ ((¬ ((s0.2.1 3) x3.toNatClampNeg) = x1 → B_X1_rowsOf_25 G4 s0 x1 x2 x3 Q) ∧ (((s0.2.1 3) x3.toNatClampNeg) = x1 → ∀ x2_5 : Int32, x2_5 = (x2 ||| ((1 : Int32) <<< (x3 &&& 31))) → B_X1_rowsOf_25 G4 s0 x1 x2_5 x3 Q))))
def B_X1_rowsOf_4 (s0 : CS) (x1 : Int32) (x2 : Int32) (x3 : Int32) (Q : Int32 → Prop) : Prop := LOOP (fun (G4 : (Int32 × Int32 × Int32) → Prop) z => LB_X1_rowsOf_4 G4 s0 z.1 z.2.1 z.2.2 Q) (x1, x2, x3)
def wp_X1_rowsOf (p0 : Int32) (s0 : CS) (Q : Int32 → Prop) : Prop := B_X1_rowsOf_4 s0 p0 (0 : Int32) (0 : Int32) Q
set_option maxHeartbeats 4000000 in
set_option maxRecDepth 100000 in
theorem c_X1_rowsOf (l : Launch) (D : va_G) (cI cZ cW : ClassId) (q0 : Nat → Nat) (p0 : Int32) (s0 : CS) (Q : Int32 → Prop) (hf : wp_X1_rowsOf p0 s0 Q) : Met l yX1_rowsOf (wsA yX1_rowsOf cX1_rowsOf 4 (some .int)) ({ frames := 0, cells := 0, slots := 0, locals := 0 }) (PR D cI cZ cW [.ref (q0 0), .int p0] (wD cI cZ q0 s0)) (vp_Si Q) 0 0 (fun _ => False) := by
  refine Met.ofW (cc := cX1_rowsOf) (maxL := 4) (ret := (some .int)) (by decide) rfl ?_
  intro p e s m args below meth c s₁ B hml hv
  obtain ⟨rfl, hP, hK⟩ := hv
  have hx := B.exec
  have hb := B.bytes
  have hr := B.returns
  have hts := atoms_spec (ws := (wsA yX1_rowsOf cX1_rowsOf 4 (some .int))) B.pre
  have ht : ∀ w ∈ lw_g, w.before _ s = true := fun w h => hts w (List.mem_cons_of_mem _ h)
  have hown : s.vm.findClass RX1 = some m.cls := findClass_of_methodNamed B.named
  have hlocks := B.notSynchronized
  have hl := lv_entry ([.ref (q0 0), .int p0]) (n := 4) (Nat.le_of_ble_eq_true rfl)
  rw [lg_entry_eq]
  generalize (lg_sl ([.ref (q0 0), .int p0]) ++ List.replicate (4 - (lg_sl ([.ref (q0 0), .int p0])).length) Slot.unset).toArray = ls at hl ⊢
  have hl : lv_has ls 4 [(0, .ref (q0 0)), (1, .int p0)] := hl
  unfold wp_X1_rowsOf at hf
  have k_4 : ∀ (x1 : Int32) (x2 : Int32) (x3 : Int32) (ls : Array Slot), B_X1_rowsOf_4 s0 x1 x2 x3 Q → lv_has ls 4 [(0, .ref (q0 0)), (1, .int x1), (2, .int x2), (3, .int x3)] → W p l e (headSpec (wsA yX1_rowsOf cX1_rowsOf 4 (some .int)) ({ frames := 0, cells := 0, slots := 0, locals := 0 })).room s m (#[.ref (q0 0), .int p0] : Array Value) below meth c s.heap [] 0 0 (MQ below (vp_Si Q) (#[.ref (q0 0), .int p0] : Array Value) s 0 0 (fun _ => False)) (F0 m 4 ls []) := by
    intro x1 x2 x3 ls hf hl
    unfold B_X1_rowsOf_4 at hf
    obtain ⟨I_4, ⟨n0_4, hI0_4⟩, hst_4⟩ := hf
    have main_4 : ∀ (n : Nat) (x1 : Int32) (x2 : Int32) (x3 : Int32) (ls : Array Slot), I_4 n (x1, x2, x3) → lv_has ls 4 [(0, .ref (q0 0)), (1, .int x1), (2, .int x2), (3, .int x3)] → W p l e (headSpec (wsA yX1_rowsOf cX1_rowsOf 4 (some .int)) ({ frames := 0, cells := 0, slots := 0, locals := 0 })).room s m (#[.ref (q0 0), .int p0] : Array Value) below meth c s.heap [] 0 0 (MQ below (vp_Si Q) (#[.ref (q0 0), .int p0] : Array Value) s 0 0 (fun _ => False)) (F0 m 4 ls []) := by
      intro n
      induction n using Nat.strongRecOn with
      | _ n_4 ih_4 =>
      intro x1 x2 x3 ls hI hl
      have hf : LB_X1_rowsOf_4 (fun z => ∃ k, k < n_4 ∧ I_4 k z) s0 x1 x2 x3 Q := hst_4 n_4 (x1, x2, x3) hI
      have hG_4 : ∀ (x1 : Int32) (x2 : Int32) (x3 : Int32) (ls : Array Slot), (∃ k, k < n_4 ∧ I_4 k (x1, x2, x3)) → lv_has ls 4 [(0, .ref (q0 0)), (1, .int x1), (2, .int x2), (3, .int x3)] → W p l e (headSpec (wsA yX1_rowsOf cX1_rowsOf 4 (some .int)) ({ frames := 0, cells := 0, slots := 0, locals := 0 })).room s m (#[.ref (q0 0), .int p0] : Array Value) below meth c s.heap [] 0 0 (MQ below (vp_Si Q) (#[.ref (q0 0), .int p0] : Array Value) s 0 0 (fun _ => False)) (F0 m 4 ls []) := by
        rintro x1 x2 x3 ls ⟨k, hk, hI⟩ hl
        exact ih_4 k hk x1 x2 x3 ls hI hl
      unfold LB_X1_rowsOf_4 at hf
      have k_25 : ∀ (x1 : Int32) (x2 : Int32) (x3 : Int32) (ls : Array Slot), B_X1_rowsOf_25 (fun z => ∃ k, k < n_4 ∧ I_4 k z) s0 x1 x2 x3 Q → lv_has ls 4 [(0, .ref (q0 0)), (1, .int x1), (2, .int x2), (3, .int x3)] → W p l e (headSpec (wsA yX1_rowsOf cX1_rowsOf 4 (some .int)) ({ frames := 0, cells := 0, slots := 0, locals := 0 })).room s m (#[.ref (q0 0), .int p0] : Array Value) below meth c s.heap [] 0 0 (MQ below (vp_Si Q) (#[.ref (q0 0), .int p0] : Array Value) s 0 0 (fun _ => False)) (F0 m 25 ls []) := by
        intro x1 x2 x3 ls hf hl
        unfold B_X1_rowsOf_25 at hf
        obtain ⟨x3_1, ex3_1⟩ : ∃ y : Int32, y = x3 + (1 : Int32) := ⟨_, rfl⟩
        have hf := hf x3_1 ex3_1
        refine lv_iinc (v := x3_1) (lv' := [(3, .int x3_1), (0, .ref (q0 0)), (1, .int x1), (2, .int x2)]) hx hb dX1_rowsOf_25 hl (k := 3) rfl (by rw [ex3_1]; rfl) (by decide) rfl (fun ls hl => ?_)
        refine lv_goto (tgt := 4) hx hb dX1_rowsOf_28 (by decide) ?_
        exact hG_4 x1 x2 x3_1 ls hf (lv_sub hl [1, 2, 3, 0] rfl)
      refine lv_iload_n hx hb dX1_rowsOf_4 rfl (lv_at hl 3 rfl) ?_
      refine lv_iconst (v := (4 : Int32)) hx hb dX1_rowsOf_5 (by decide) ?_
      refine lv_icmp_ge (tgt := 31) hx hb dX1_rowsOf_6 (by decide) (fun c_2 => ?_) (fun c_2 => ?_)
      · have hf := hf.1 c_2
        refine lv_iload_n hx hb dX1_rowsOf_31 rfl (lv_at hl 2 rfl) ?_
        exact W.iret (v := x2) hx hb hr (fun t ht hW => ⟨x2, rfl, hf, ht⟩) (fun q h => absurd h List.not_mem_nil) dX1_rowsOf_32
      · have hf := hf.2 c_2
        refine lv_aload_n hx hb dX1_rowsOf_9 rfl (lv_at hl 0 rfl) ?_
        refine va_get (D := D) (ci := 1) (v := .ref (q0 2)) (C := RX1) (T := TX1) (N := 14) hx hb ht inX1 hown hK hP 0 rfl rfl 3 (by decide) (ht _ tw_37) (fun _ h9 => h9) rfl dX1_rowsOf_10 ?_
        refine lv_iload_n hx hb dX1_rowsOf_13 rfl (lv_at hl 3 rfl) ?_
        obtain ⟨hi_3, hf⟩ := hf
        refine va_iald hx hb hK hP 2 0 rfl rfl hi_3 dX1_rowsOf_14 ?_
        refine lv_iload_n hx hb dX1_rowsOf_15 rfl (lv_at hl 1 rfl) ?_
        refine lv_icmp_ne (tgt := 25) hx hb dX1_rowsOf_16 (by decide) (fun c_4 => ?_) (fun c_4 => ?_)
        · have hf := hf.1 c_4
          exact k_25 x1 x2 x3 ls hf (lv_sub hl [0, 1, 2, 3] rfl)
        · have hf := hf.2 c_4
          refine lv_iload_n hx hb dX1_rowsOf_19 rfl (lv_at hl 2 rfl) ?_
          refine lv_iconst (v := (1 : Int32)) hx hb dX1_rowsOf_20 (by decide) ?_
          refine lv_iload_n hx hb dX1_rowsOf_21 rfl (lv_at hl 3 rfl) ?_
          refine lv_ishl hx hb dX1_rowsOf_22 ?_
          refine lv_ior hx hb dX1_rowsOf_23 ?_
          refine lv_topi (fun x2_5 ex2_5 => ?_)
          have hf := hf x2_5 ex2_5
          refine lv_istore_n (lv' := [(2, .int x2_5), (0, .ref (q0 0)), (1, .int x1), (3, .int x3)]) hx hb dX1_rowsOf_24 rfl hl (by decide) rfl (fun ls hl => ?_)
          exact k_25 x1 x2_5 x3 ls hf (lv_sub hl [1, 2, 0, 3] rfl)
    exact main_4 n0_4 x1 x2 x3 ls hI0_4 hl
  refine lv_iconst (v := (0 : Int32)) hx hb dX1_rowsOf_0 (by decide) ?_
  refine lv_istore_n (lv' := [(2, .int (0 : Int32)), (0, .ref (q0 0)), (1, .int p0)]) hx hb dX1_rowsOf_1 rfl hl (by decide) rfl (fun ls hl => ?_)
  refine lv_iconst (v := (0 : Int32)) hx hb dX1_rowsOf_2 (by decide) ?_
  refine lv_istore_n (lv' := [(3, .int (0 : Int32)), (2, .int (0 : Int32)), (0, .ref (q0 0)), (1, .int p0)]) hx hb dX1_rowsOf_3 rfl hl (by decide) rfl (fun ls hl => ?_)
  exact k_4 p0 (0 : Int32) (0 : Int32) ls hf (lv_sub hl [2, 3, 1, 0] rfl)
def B_X1_rowCellsOf_42 (G4 : (Int32 × Int32 × Int32) → Prop) (s0 : CS) (x1 : Int32) (x2 : Int32) (x3 : Int32) (Q : Int32 → Prop) : Prop := ∀ x3_1 : Int32, x3_1 = x3 + (1 : Int32) → G4 (x1, x2, x3_1)
def LB_X1_rowCellsOf_4 (G4 : (Int32 × Int32 × Int32) → Prop) (s0 : CS) (x1 : Int32) (x2 : Int32) (x3 : Int32) (Q : Int32 → Prop) : Prop := (((4 : Int32) ≤ x3 → Q x2) ∧ (¬ (4 : Int32) ≤ x3 → vp_in x3 4 ∧ ∀ x4_4 : Int32, x4_4 = ((s0.2.1 3) x3.toNatClampNeg) → wp_X1_hasOwner x4_4 s0 (fun r_5 => ((r_5 = 0 → B_X1_rowCellsOf_42 G4 s0 x1 x2 x3 Q) ∧ (¬ r_5 = 0 → (((x1 &&& ((1 : Int32) <<< (x4_4 &&& 31))) = 0 → B_X1_rowCellsOf_42 G4 s0 x1 x2 x3 Q) ∧ (¬ (x1 &&& ((1 : Int32) <<< (x4_4 &&& 31))) = 0 → wp_X2_rowCells x3 (fun r_8 => ∀ x2_9 : Int32, x2_9 = (x2 ||| r_8) → B_X1_rowCellsOf_42 G4 s0 x1 x2_9 x3 Q))))))))
def B_X1_rowCellsOf_4 (s0 : CS) (x1 : Int32) (x2 : Int32) (x3 : Int32) (Q : Int32 → Prop) : Prop := LOOP (fun (G4 : (Int32 × Int32 × Int32) → Prop) z => LB_X1_rowCellsOf_4 G4 s0 z.1 z.2.1 z.2.2 Q) (x1, x2, x3)
def wp_X1_rowCellsOf (p0 : Int32) (s0 : CS) (Q : Int32 → Prop) : Prop := B_X1_rowCellsOf_4 s0 p0 (0 : Int32) (0 : Int32) Q
set_option maxHeartbeats 4000000 in
set_option maxRecDepth 100000 in
theorem c_X1_rowCellsOf (l : Launch) (D : va_G) (cI cZ cW : ClassId) (q0 : Nat → Nat) (p0 : Int32) (s0 : CS) (Q : Int32 → Prop) (hf : wp_X1_rowCellsOf p0 s0 Q) : Met l yX1_rowCellsOf (wsA yX1_rowCellsOf cX1_rowCellsOf 5 (some .int)) ({ frames := 1, cells := 0, slots := 0, locals := 21 }) (PR D cI cZ cW [.ref (q0 0), .int p0] (wD cI cZ q0 s0)) (vp_Si Q) 0 0 (fun _ => False) := by
  refine Met.ofW (cc := cX1_rowCellsOf) (maxL := 5) (ret := (some .int)) (by decide) rfl ?_
  intro p e s m args below meth c s₁ B hml hv
  obtain ⟨rfl, hP, hK⟩ := hv
  have hx := B.exec
  have hb := B.bytes
  have hr := B.returns
  have hts := atoms_spec (ws := (wsA yX1_rowCellsOf cX1_rowCellsOf 5 (some .int))) B.pre
  have ht : ∀ w ∈ lw_g, w.before _ s = true := fun w h => hts w (List.mem_cons_of_mem _ h)
  have hown : s.vm.findClass RX1 = some m.cls := findClass_of_methodNamed B.named
  have hlocks := B.notSynchronized
  have hl := lv_entry ([.ref (q0 0), .int p0]) (n := 5) (Nat.le_of_ble_eq_true rfl)
  rw [lg_entry_eq]
  generalize (lg_sl ([.ref (q0 0), .int p0]) ++ List.replicate (5 - (lg_sl ([.ref (q0 0), .int p0])).length) Slot.unset).toArray = ls at hl ⊢
  have hl : lv_has ls 5 [(0, .ref (q0 0)), (1, .int p0)] := hl
  unfold wp_X1_rowCellsOf at hf
  have k_4 : ∀ (x1 : Int32) (x2 : Int32) (x3 : Int32) (ls : Array Slot), B_X1_rowCellsOf_4 s0 x1 x2 x3 Q → lv_has ls 5 [(0, .ref (q0 0)), (1, .int x1), (2, .int x2), (3, .int x3)] → W p l e (headSpec (wsA yX1_rowCellsOf cX1_rowCellsOf 5 (some .int)) ({ frames := 1, cells := 0, slots := 0, locals := 21 })).room s m (#[.ref (q0 0), .int p0] : Array Value) below meth c s.heap [] 0 0 (MQ below (vp_Si Q) (#[.ref (q0 0), .int p0] : Array Value) s 0 0 (fun _ => False)) (F0 m 4 ls []) := by
    intro x1 x2 x3 ls hf hl
    unfold B_X1_rowCellsOf_4 at hf
    obtain ⟨I_4, ⟨n0_4, hI0_4⟩, hst_4⟩ := hf
    have main_4 : ∀ (n : Nat) (x1 : Int32) (x2 : Int32) (x3 : Int32) (ls : Array Slot), I_4 n (x1, x2, x3) → lv_has ls 5 [(0, .ref (q0 0)), (1, .int x1), (2, .int x2), (3, .int x3)] → W p l e (headSpec (wsA yX1_rowCellsOf cX1_rowCellsOf 5 (some .int)) ({ frames := 1, cells := 0, slots := 0, locals := 21 })).room s m (#[.ref (q0 0), .int p0] : Array Value) below meth c s.heap [] 0 0 (MQ below (vp_Si Q) (#[.ref (q0 0), .int p0] : Array Value) s 0 0 (fun _ => False)) (F0 m 4 ls []) := by
      intro n
      induction n using Nat.strongRecOn with
      | _ n_4 ih_4 =>
      intro x1 x2 x3 ls hI hl
      have hf : LB_X1_rowCellsOf_4 (fun z => ∃ k, k < n_4 ∧ I_4 k z) s0 x1 x2 x3 Q := hst_4 n_4 (x1, x2, x3) hI
      have hG_4 : ∀ (x1 : Int32) (x2 : Int32) (x3 : Int32) (ls : Array Slot), (∃ k, k < n_4 ∧ I_4 k (x1, x2, x3)) → lv_has ls 5 [(0, .ref (q0 0)), (1, .int x1), (2, .int x2), (3, .int x3)] → W p l e (headSpec (wsA yX1_rowCellsOf cX1_rowCellsOf 5 (some .int)) ({ frames := 1, cells := 0, slots := 0, locals := 21 })).room s m (#[.ref (q0 0), .int p0] : Array Value) below meth c s.heap [] 0 0 (MQ below (vp_Si Q) (#[.ref (q0 0), .int p0] : Array Value) s 0 0 (fun _ => False)) (F0 m 4 ls []) := by
        rintro x1 x2 x3 ls ⟨k, hk, hI⟩ hl
        exact ih_4 k hk x1 x2 x3 ls hI hl
      unfold LB_X1_rowCellsOf_4 at hf
      have k_42 : ∀ (x1 : Int32) (x2 : Int32) (x3 : Int32) (ls : Array Slot), B_X1_rowCellsOf_42 (fun z => ∃ k, k < n_4 ∧ I_4 k z) s0 x1 x2 x3 Q → lv_has ls 5 [(0, .ref (q0 0)), (1, .int x1), (2, .int x2), (3, .int x3)] → W p l e (headSpec (wsA yX1_rowCellsOf cX1_rowCellsOf 5 (some .int)) ({ frames := 1, cells := 0, slots := 0, locals := 21 })).room s m (#[.ref (q0 0), .int p0] : Array Value) below meth c s.heap [] 0 0 (MQ below (vp_Si Q) (#[.ref (q0 0), .int p0] : Array Value) s 0 0 (fun _ => False)) (F0 m 42 ls []) := by
        intro x1 x2 x3 ls hf hl
        unfold B_X1_rowCellsOf_42 at hf
        obtain ⟨x3_1, ex3_1⟩ : ∃ y : Int32, y = x3 + (1 : Int32) := ⟨_, rfl⟩
        have hf := hf x3_1 ex3_1
        refine lv_iinc (v := x3_1) (lv' := [(3, .int x3_1), (0, .ref (q0 0)), (1, .int x1), (2, .int x2)]) hx hb dX1_rowCellsOf_42 hl (k := 3) rfl (by rw [ex3_1]; rfl) (by decide) rfl (fun ls hl => ?_)
        refine lv_goto (tgt := 4) hx hb dX1_rowCellsOf_45 (by decide) ?_
        exact hG_4 x1 x2 x3_1 ls hf (lv_sub hl [1, 2, 3, 0] rfl)
      refine lv_iload_n hx hb dX1_rowCellsOf_4 rfl (lv_at hl 3 rfl) ?_
      refine lv_iconst (v := (4 : Int32)) hx hb dX1_rowCellsOf_5 (by decide) ?_
      refine lv_icmp_ge (tgt := 48) hx hb dX1_rowCellsOf_6 (by decide) (fun c_2 => ?_) (fun c_2 => ?_)
      · have hf := hf.1 c_2
        refine lv_iload_n hx hb dX1_rowCellsOf_48 rfl (lv_at hl 2 rfl) ?_
        exact W.iret (v := x2) hx hb hr (fun t ht hW => ⟨x2, rfl, hf, ht⟩) (fun q h => absurd h List.not_mem_nil) dX1_rowCellsOf_49
      · have hf := hf.2 c_2
        refine lv_aload_n hx hb dX1_rowCellsOf_9 rfl (lv_at hl 0 rfl) ?_
        refine va_get (D := D) (ci := 1) (v := .ref (q0 2)) (C := RX1) (T := TX1) (N := 14) hx hb ht inX1 hown hK hP 0 rfl rfl 3 (by decide) (ht _ tw_37) (fun _ h9 => h9) rfl dX1_rowCellsOf_10 ?_
        refine lv_iload_n hx hb dX1_rowCellsOf_13 rfl (lv_at hl 3 rfl) ?_
        obtain ⟨hi_3, hf⟩ := hf
        refine va_iald hx hb hK hP 2 0 rfl rfl hi_3 dX1_rowCellsOf_14 ?_
        refine lv_topi (fun x4_4 ex4_4 => ?_)
        have hf := hf x4_4 ex4_4
        refine lv_istore (lv' := [(4, .int x4_4), (0, .ref (q0 0)), (1, .int x1), (2, .int x2), (3, .int x3)]) hx hb dX1_rowCellsOf_15 hl (by decide) rfl (fun ls hl => ?_)
        refine lv_aload_n hx hb dX1_rowCellsOf_17 rfl (lv_at hl 1 rfl) ?_
        refine lv_iload hx hb dX1_rowCellsOf_18 (lv_at hl 0 rfl) ?_
        have hPc : va_P D classes (wD cI cZ q0 s0) s.heap := hP
        refine vp_callSi (W.runV (As := [.int x4_4]) (rest := []) ⟨hx, hb, hml, hown, hts⟩ (c_X1_hasOwner l D cI cZ cW q0 x4_4 s0 _ hf) ⟨callB_of 1 hts (gA tw_232) rfl rfl rfl (ht _ tw_2) (ht _ tw_229) hd_X1_hasOwner ⟨Nat.le_of_ble_eq_true rfl, Nat.le_of_ble_eq_true rfl⟩, ht _ tw_230, ht _ tw_231⟩ ⟨PR_blind, va_recv hK hP (ci := 1) (q0 := 0) rfl rfl, fun U hU hW => PR_mk hPc hK hU hW⟩ rfl rfl hl.1 rfl (lv_room (Nat.le_of_ble_eq_true rfl)) dX1_rowCellsOf_20 ⟨Nat.zero_le _, Nat.zero_le _⟩) (fun r_5 hf => ?_)
        refine lv_if_eq (tgt := 42) hx hb dX1_rowCellsOf_23 (by decide) (fun c_6 => ?_) (fun c_6 => ?_)
        · have hf := hf.1 c_6
          exact k_42 x1 x2 x3 ls hf (lv_sub hl [1, 2, 3, 4] rfl)
        · have hf := hf.2 c_6
          refine lv_iload_n hx hb dX1_rowCellsOf_26 rfl (lv_at hl 2 rfl) ?_
          refine lv_iconst (v := (1 : Int32)) hx hb dX1_rowCellsOf_27 (by decide) ?_
          refine lv_iload hx hb dX1_rowCellsOf_28 (lv_at hl 0 rfl) ?_
          refine lv_ishl hx hb dX1_rowCellsOf_30 ?_
          refine lv_iand hx hb dX1_rowCellsOf_31 ?_
          refine lv_if_eq (tgt := 42) hx hb dX1_rowCellsOf_32 (by decide) (fun c_7 => ?_) (fun c_7 => ?_)
          · have hf := hf.1 c_7
            exact k_42 x1 x2 x3 ls hf (lv_sub hl [1, 2, 3, 4] rfl)
          · have hf := hf.2 c_7
            refine lv_iload_n hx hb dX1_rowCellsOf_35 rfl (lv_at hl 3 rfl) ?_
            refine lv_iload_n hx hb dX1_rowCellsOf_36 rfl (lv_at hl 4 rfl) ?_
            have hPc : va_P D classes ([] : va_W) s.heap := hP.sub [] rfl
            refine vp_callSi (W.runS (As := [.int x3]) (rest := [.int x2]) ⟨hx, hb, hml, hown, hts⟩ (c_X2_rowCells l D cI cZ cW  x3 _ hf) ⟨callB_of 1 hts (gA tw_238) rfl rfl rfl (ht _ tw_9) (ht _ tw_236) hd_X2_rowCells ⟨Nat.le_of_ble_eq_true rfl, Nat.le_of_ble_eq_true rfl⟩, ht _ tw_237⟩ ⟨PR_blind, fun U hU hW => PR_mk hPc hK hU hW⟩ rfl rfl hl.1 rfl (lv_room (Nat.le_of_ble_eq_true rfl)) dX1_rowCellsOf_37 ⟨Nat.zero_le _, Nat.zero_le _⟩) (fun r_8 hf => ?_)
            refine lv_ior hx hb dX1_rowCellsOf_40 ?_
            refine lv_topi (fun x2_9 ex2_9 => ?_)
            have hf := hf x2_9 ex2_9
            refine lv_istore_n (lv' := [(2, .int x2_9), (4, .int x4_4), (0, .ref (q0 0)), (1, .int x1), (3, .int x3)]) hx hb dX1_rowCellsOf_41 rfl hl (by decide) rfl (fun ls hl => ?_)
            exact k_42 x1 x2_9 x3 ls hf (lv_sub hl [2, 3, 0, 4] rfl)
    exact main_4 n0_4 x1 x2 x3 ls hI0_4 hl
  refine lv_iconst (v := (0 : Int32)) hx hb dX1_rowCellsOf_0 (by decide) ?_
  refine lv_istore_n (lv' := [(2, .int (0 : Int32)), (0, .ref (q0 0)), (1, .int p0)]) hx hb dX1_rowCellsOf_1 rfl hl (by decide) rfl (fun ls hl => ?_)
  refine lv_iconst (v := (0 : Int32)) hx hb dX1_rowCellsOf_2 (by decide) ?_
  refine lv_istore_n (lv' := [(3, .int (0 : Int32)), (2, .int (0 : Int32)), (0, .ref (q0 0)), (1, .int p0)]) hx hb dX1_rowCellsOf_3 rfl hl (by decide) rfl (fun ls hl => ?_)
  exact k_4 p0 (0 : Int32) (0 : Int32) ls hf (lv_sub hl [2, 3, 1, 0] rfl)
def wp_X1_turnsOf (p0 : Int32) (s0 : CS) (Q : Int32 → Prop) : Prop := wp_X1_hasHole p0 s0 (fun r_1 => ((¬ r_1 = 0 → wp_X3_get p0 5 (s0.2.1 4) (fun r_3 => ((r_3 = (1 : Int32) → Q (2 : Int32)) ∧ (¬ r_3 = (1 : Int32) → ((r_3 = (2 : Int32) → Q (0 : Int32)) ∧ (¬ r_3 = (2 : Int32) → Q (1 : Int32))))))) ∧ (r_1 = 0 → Q (0 : Int32))))
set_option maxHeartbeats 4000000 in
set_option maxRecDepth 100000 in
theorem c_X1_turnsOf (l : Launch) (D : va_G) (cI cZ cW : ClassId) (q0 : Nat → Nat) (p0 : Int32) (s0 : CS) (Q : Int32 → Prop) (hf : wp_X1_turnsOf p0 s0 Q) : Met l yX1_turnsOf (wsA yX1_turnsOf cX1_turnsOf 2 (some .int)) ({ frames := 1, cells := 0, slots := 0, locals := 21 }) (PR D cI cZ cW [.ref (q0 0), .int p0] (wD cI cZ q0 s0)) (vp_Si Q) 0 0 (fun _ => False) := by
  refine Met.ofW (cc := cX1_turnsOf) (maxL := 2) (ret := (some .int)) (by decide) rfl ?_
  intro p e s m args below meth c s₁ B hml hv
  obtain ⟨rfl, hP, hK⟩ := hv
  have hx := B.exec
  have hb := B.bytes
  have hr := B.returns
  have hts := atoms_spec (ws := (wsA yX1_turnsOf cX1_turnsOf 2 (some .int))) B.pre
  have ht : ∀ w ∈ lw_g, w.before _ s = true := fun w h => hts w (List.mem_cons_of_mem _ h)
  have hown : s.vm.findClass RX1 = some m.cls := findClass_of_methodNamed B.named
  have hlocks := B.notSynchronized
  have hl := lv_entry ([.ref (q0 0), .int p0]) (n := 2) (Nat.le_of_ble_eq_true rfl)
  rw [lg_entry_eq]
  generalize (lg_sl ([.ref (q0 0), .int p0]) ++ List.replicate (2 - (lg_sl ([.ref (q0 0), .int p0])).length) Slot.unset).toArray = ls at hl ⊢
  have hl : lv_has ls 2 [(0, .ref (q0 0)), (1, .int p0)] := hl
  unfold wp_X1_turnsOf at hf
  refine lv_aload_n hx hb dX1_turnsOf_0 rfl (lv_at hl 0 rfl) ?_
  refine lv_iload_n hx hb dX1_turnsOf_1 rfl (lv_at hl 1 rfl) ?_
  have hPc : va_P D classes (wD cI cZ q0 s0) s.heap := hP
  refine vp_callSi (W.runV (As := [.int p0]) (rest := []) ⟨hx, hb, hml, hown, hts⟩ (c_X1_hasHole l D cI cZ cW q0 p0 s0 _ hf) ⟨callB_of 1 hts (gA tw_265) rfl rfl rfl (ht _ tw_2) (ht _ tw_374) hd_X1_hasHole ⟨Nat.le_of_ble_eq_true rfl, Nat.le_of_ble_eq_true rfl⟩, ht _ tw_263, ht _ tw_264⟩ ⟨PR_blind, va_recv hK hP (ci := 1) (q0 := 0) rfl rfl, fun U hU hW => PR_mk hPc hK hU hW⟩ rfl rfl hl.1 rfl (lv_room (Nat.le_of_ble_eq_true rfl)) dX1_turnsOf_2 ⟨Nat.zero_le _, Nat.zero_le _⟩) (fun r_1 hf => ?_)
  refine lv_if_ne (tgt := 10) hx hb dX1_turnsOf_5 (by decide) (fun c_2 => ?_) (fun c_2 => ?_)
  · have hf := hf.1 c_2
    refine lv_aload_n hx hb dX1_turnsOf_10 rfl (lv_at hl 0 rfl) ?_
    refine va_get (D := D) (ci := 1) (v := .ref (q0 3)) (C := RX1) (T := TX1) (N := 14) hx hb ht inX1 hown hK hP 0 rfl rfl 4 (by decide) (ht _ tw_39) (fun _ h9 => h9) rfl dX1_turnsOf_11 ?_
    refine lv_iload_n hx hb dX1_turnsOf_14 rfl (lv_at hl 1 rfl) ?_
    have hPc : va_P D classes (wI cI (q0 3) 5 (s0.2.1 4)) s.heap := hP.sub [3] rfl
    refine vp_callSi (W.runS (As := [.ref (q0 3), .int p0]) (rest := []) ⟨hx, hb, hml, hown, hts⟩ (c_X3_get l D cI cZ cW (q0 3) p0 5 (s0.2.1 4) _ hf) ⟨callB_of 2 hts (gA tw_235) rfl rfl rfl (ht _ tw_8) (ht _ tw_233) hd_X3_get ⟨Nat.le_of_ble_eq_true rfl, Nat.le_of_ble_eq_true rfl⟩, ht _ tw_234⟩ ⟨PR_blind, fun U hU hW => PR_mk hPc hK hU hW⟩ rfl rfl hl.1 rfl (lv_room (Nat.le_of_ble_eq_true rfl)) dX1_turnsOf_15 ⟨Nat.zero_le _, Nat.zero_le _⟩) (fun r_3 hf => ?_)
    by_cases c_4 : r_3 = (1 : Int32)
    · have hf := hf.1 c_4
      refine lv_lookup (off := 26) (tgt := 44) hx hb dX1_turnsOf_18 (by decide) (by rw [c_4]; first | done | rfl) (by decide) ?_
      refine lv_iconst (v := (2 : Int32)) hx hb dX1_turnsOf_44 (by decide) ?_
      exact W.iret (v := (2 : Int32)) hx hb hr (fun t ht hW => ⟨(2 : Int32), rfl, hf, ht⟩) (fun q h => absurd h List.not_mem_nil) dX1_turnsOf_45
    · have hf := hf.2 c_4
      by_cases c_5 : r_3 = (2 : Int32)
      · have hf := hf.1 c_5
        refine lv_lookup (off := 28) (tgt := 46) hx hb dX1_turnsOf_18 (by decide) (by rw [c_5]; first | done | rfl) (by decide) ?_
        refine lv_iconst (v := (0 : Int32)) hx hb dX1_turnsOf_46 (by decide) ?_
        exact W.iret (v := (0 : Int32)) hx hb hr (fun t ht hW => ⟨(0 : Int32), rfl, hf, ht⟩) (fun q h => absurd h List.not_mem_nil) dX1_turnsOf_47
      · have hf := hf.2 c_5
        refine lv_lookup (off := 30) (tgt := 48) hx hb dX1_turnsOf_18 (by decide) (by show Op.lookupswitch.offset _ _ _ = _; rw [lv_osw c_4 (a := 1) (by decide), lv_osw c_5 (a := 2) (by decide)]; first | done | rfl) (by decide) ?_
        refine lv_iconst (v := (1 : Int32)) hx hb dX1_turnsOf_48 (by decide) ?_
        exact W.iret (v := (1 : Int32)) hx hb hr (fun t ht hW => ⟨(1 : Int32), rfl, hf, ht⟩) (fun q h => absurd h List.not_mem_nil) dX1_turnsOf_49
  · have hf := hf.2 c_2
    refine lv_iconst (v := (0 : Int32)) hx hb dX1_turnsOf_8 (by decide) ?_
    exact W.iret (v := (0 : Int32)) hx hb hr (fun t ht hW => ⟨(0 : Int32), rfl, hf, ht⟩) (fun q h => absurd h List.not_mem_nil) dX1_turnsOf_9
def wp_X1_forget (s0 : CS) (Q : CS → Prop) : Prop := ∀ s0_1 : CS, s0_1 = sI s0 0 (0 : Int32) → ∀ s0_2 : CS, s0_2 = sI s0_1 1 (0 : Int32) → wp_J7_fill_53178 (-9 : Int32) 4 (s0_2.2.1 3) (fun f_3 => ∀ s0_4 : CS, s0_4 = sF s0_2 3 f_3 → wp_J7_fill_53178 (-9 : Int32) 5 (s0_4.2.1 5) (fun f_5 => ∀ s0_6 : CS, s0_6 = sF s0_4 5 f_5 → ∀ s0_7 : CS, s0_7 = sI s0_6 7 (0 : Int32) → ∀ s0_8 : CS, s0_8 = sI s0_7 8 (0 : Int32) → ∀ s0_9 : CS, s0_9 = sI s0_8 9 (0 : Int32) → ∀ s0_10 : CS, s0_10 = sI s0_9 10 (0 : Int32) → ∀ s0_11 : CS, s0_11 = sI s0_10 11 (0 : Int32) → Q s0_11))
set_option maxHeartbeats 4000000 in
set_option maxRecDepth 100000 in
theorem c_X1_forget (l : Launch) (D : va_G) (cI cZ cW : ClassId) (q0 : Nat → Nat) (sz : Nat) (s0 : CS) (Q : CS → Prop) (hf : wp_X1_forget s0 Q) : Met l yX1_forget (wsA yX1_forget cX1_forget 1 none) ({ frames := 1, cells := 0, slots := 0, locals := 23 }) (PW D cI cZ cW [.ref (q0 0)] (wD cI cZ q0 s0) sz) (va_Qv (fun (u : CS) => Q u) (fun u t => va_P D classes (wD cI cZ q0 u) t.heap) (va_A (wD cI cZ q0 s0) sz)) 0 0 (va_A (wD cI cZ q0 s0) sz) := by
  refine Met.ofW (cc := cX1_forget) (maxL := 1) (ret := none) (by decide) rfl ?_
  intro p e s m args below meth c s₁ B hml hv
  obtain ⟨rfl, hsz, hP, hK, hD0⟩ := hv
  have hx := B.exec
  have hb := B.bytes
  have hr := B.returns
  have hts := atoms_spec (ws := (wsA yX1_forget cX1_forget 1 none)) B.pre
  have ht : ∀ w ∈ lw_g, w.before _ s = true := fun w h => hts w (List.mem_cons_of_mem _ h)
  have hown : s.vm.findClass RX1 = some m.cls := findClass_of_methodNamed B.named
  have hlocks := B.notSynchronized
  subst hsz
  have hD := hD0.self (sz := s.heap.size)
  generalize hAe : va_A (wD cI cZ q0 s0) s.heap.size = A at hD ⊢
  have hA : ∀ q : Nat, s.heap.size ≤ q → A q := fun q h => by rw [← hAe]; exact Or.inr h
  have hS : va_S A s.heap s.heap [] := va_S.rf
  have hl := lv_entry ([.ref (q0 0)]) (n := 1) (Nat.le_of_ble_eq_true rfl)
  rw [lg_entry_eq]
  generalize (lg_sl ([.ref (q0 0)]) ++ List.replicate (1 - (lg_sl ([.ref (q0 0)])).length) Slot.unset).toArray = ls at hl ⊢
  have hl : lv_has ls 1 [(0, .ref (q0 0))] := hl
  unfold wp_X1_forget at hf
  have start : ∀ (H : Heap) (locs : List Loc), va_P D classes (wD cI cZ q0 s0) H → va_D A (wD cI cZ q0 s0) → va_S A s.heap H locs → W p l e (headSpec (wsA yX1_forget cX1_forget 1 none) ({ frames := 1, cells := 0, slots := 0, locals := 23 })).room s m (#[.ref (q0 0)] : Array Value) below meth c H locs 0 0 (MQ below (va_Qv (fun (u : CS) => Q u) (fun u t => va_P D classes (wD cI cZ q0 u) t.heap) A) (#[.ref (q0 0)] : Array Value) s 0 0 A) (F0 m 0 ls []) := by
    intro H locs hP hD hS
    refine lv_aload_n hx hb dX1_forget_0 rfl (lv_at hl 0 rfl) ?_
    refine lv_iconst (v := (0 : Int32)) hx hb dX1_forget_1 (by decide) ?_
    refine va_put (D := D) (ci := 1) (v := .int (0 : Int32)) (ty := .int) (C := RX1) (T := TX1) (N := 14) hx hb ht inX1 tyX1 tyX1_ok nmX1 hown hK hP hD hS 0 rfl rfl 0 (by decide) (ht _ tw_30) (fun _ h9 => h9) rfl pf_I rfl rfl (Nat.le_of_ble_eq_true rfl) dX1_forget_2 (fun H locs hP hD hS => ?_)
    obtain ⟨s0_1, es0_1⟩ : ∃ y : CS, y = sI s0 0 (0 : Int32) := ⟨_, rfl⟩
    have hf := hf s0_1 es0_1
    have hP : va_P D classes (wD cI cZ q0 s0_1) H := by rw [es0_1]; exact hP
    have hD : va_D A (wD cI cZ q0 s0_1) := by rw [es0_1]; exact hD
    refine lv_aload_n hx hb dX1_forget_5 rfl (lv_at hl 0 rfl) ?_
    refine lv_iconst (v := (0 : Int32)) hx hb dX1_forget_6 (by decide) ?_
    refine va_put (D := D) (ci := 1) (v := .int (0 : Int32)) (ty := .int) (C := RX1) (T := TX1) (N := 14) hx hb ht inX1 tyX1 tyX1_ok nmX1 hown hK hP hD hS 0 rfl rfl 1 (by decide) (ht _ tw_32) (fun _ h9 => h9) rfl pf_I rfl rfl (Nat.le_of_ble_eq_true rfl) dX1_forget_7 (fun H locs hP hD hS => ?_)
    obtain ⟨s0_2, es0_2⟩ : ∃ y : CS, y = sI s0_1 1 (0 : Int32) := ⟨_, rfl⟩
    have hf := hf s0_2 es0_2
    have hP : va_P D classes (wD cI cZ q0 s0_2) H := by rw [es0_2]; exact hP
    have hD : va_D A (wD cI cZ q0 s0_2) := by rw [es0_2]; exact hD
    refine lv_aload_n hx hb dX1_forget_10 rfl (lv_at hl 0 rfl) ?_
    refine va_get (D := D) (ci := 1) (v := .ref (q0 2)) (C := RX1) (T := TX1) (N := 14) hx hb ht inX1 hown hK hP 0 rfl rfl 3 (by decide) (ht _ tw_37) (fun _ h9 => h9) rfl dX1_forget_11 ?_
    refine lv_bipush (v := (-9 : Int32)) hx hb dX1_forget_14 (by decide) ?_
    have hPc : va_P D classes (wI cI (q0 2) 4 (s0_2.2.1 3)) H := hP.sub [2] rfl
    have hDc : va_D A (wI cI (q0 2) 4 (s0_2.2.1 3)) := hD.sub [2] (by decide) rfl
    have hFc := va_free (wc := (wI cI (q0 2) 4 (s0_2.2.1 3))) hD hS hA [2] rfl
    refine va_callv (va_runS (As := [.ref (q0 2), .int (-9 : Int32)]) (rest := []) ⟨hx, hb, hml, hown, hts⟩ (c_J7_fill_53178 l D cI cZ cW (q0 2) H.size (-9 : Int32) 4 (s0_2.2.1 3) _ hf) ⟨callB_of 2 hts (gA tw_29) rfl rfl rfl (ht _ tw_3) (ht _ tw_27) hd_J7_fill_53178 ⟨Nat.le_of_ble_eq_true rfl, Nat.le_of_ble_eq_true rfl⟩, ht _ tw_28⟩ ⟨PW_blind, fun U hU hW => PW_mk hPc hDc hK hU hW⟩ rfl rfl hl.1 rfl (lv_room (Nat.le_of_ble_eq_true rfl)) dX1_forget_16 ⟨Nat.zero_le _, Nat.zero_le _⟩) hS (fun q _ h => hFc q h) hFc (fun u t H1 locs ht1 hvm hf hB hz1 hk1 hS => ?_)
    obtain ⟨f_3, rfl⟩ : ∃ z, z = u := ⟨_, rfl⟩
    rw [ht1] at hB
    obtain ⟨hP, hD⟩ := cj [2] (wI cI (q0 2) 4 (s0_2.2.1 3)) (wI cI (q0 2) 4 f_3) hP hD rfl rfl hk1 hB
    generalize H1 = H at hP hS ⊢
    obtain ⟨s0_4, es0_4⟩ : ∃ y : CS, y = sF s0_2 3 f_3 := ⟨_, rfl⟩
    have hf := hf s0_4 es0_4
    have hP : va_P D classes (wD cI cZ q0 s0_4) H := by rw [es0_4]; exact hP
    have hD : va_D A (wD cI cZ q0 s0_4) := by rw [es0_4]; exact hD
    refine lv_aload_n hx hb dX1_forget_19 rfl (lv_at hl 0 rfl) ?_
    refine va_get (D := D) (ci := 1) (v := .ref (q0 4)) (C := RX1) (T := TX1) (N := 14) hx hb ht inX1 hown hK hP 0 rfl rfl 5 (by decide) (ht _ tw_42) (fun _ h9 => h9) rfl dX1_forget_20 ?_
    refine lv_bipush (v := (-9 : Int32)) hx hb dX1_forget_23 (by decide) ?_
    have hPc : va_P D classes (wI cI (q0 4) 5 (s0_4.2.1 5)) H := hP.sub [4] rfl
    have hDc : va_D A (wI cI (q0 4) 5 (s0_4.2.1 5)) := hD.sub [4] (by decide) rfl
    have hFc := va_free (wc := (wI cI (q0 4) 5 (s0_4.2.1 5))) hD hS hA [4] rfl
    refine va_callv (va_runS (As := [.ref (q0 4), .int (-9 : Int32)]) (rest := []) ⟨hx, hb, hml, hown, hts⟩ (c_J7_fill_53178 l D cI cZ cW (q0 4) H.size (-9 : Int32) 5 (s0_4.2.1 5) _ hf) ⟨callB_of 2 hts (gA tw_29) rfl rfl rfl (ht _ tw_3) (ht _ tw_27) hd_J7_fill_53178 ⟨Nat.le_of_ble_eq_true rfl, Nat.le_of_ble_eq_true rfl⟩, ht _ tw_28⟩ ⟨PW_blind, fun U hU hW => PW_mk hPc hDc hK hU hW⟩ rfl rfl hl.1 rfl (lv_room (Nat.le_of_ble_eq_true rfl)) dX1_forget_25 ⟨Nat.zero_le _, Nat.zero_le _⟩) hS (fun q _ h => hFc q h) hFc (fun u t H1 locs ht1 hvm hf hB hz1 hk1 hS => ?_)
    obtain ⟨f_5, rfl⟩ : ∃ z, z = u := ⟨_, rfl⟩
    rw [ht1] at hB
    obtain ⟨hP, hD⟩ := cj [4] (wI cI (q0 4) 5 (s0_4.2.1 5)) (wI cI (q0 4) 5 f_5) hP hD rfl rfl hk1 hB
    generalize H1 = H at hP hS ⊢
    obtain ⟨s0_6, es0_6⟩ : ∃ y : CS, y = sF s0_4 5 f_5 := ⟨_, rfl⟩
    have hf := hf s0_6 es0_6
    have hP : va_P D classes (wD cI cZ q0 s0_6) H := by rw [es0_6]; exact hP
    have hD : va_D A (wD cI cZ q0 s0_6) := by rw [es0_6]; exact hD
    refine lv_aload_n hx hb dX1_forget_28 rfl (lv_at hl 0 rfl) ?_
    refine lv_iconst (v := (0 : Int32)) hx hb dX1_forget_29 (by decide) ?_
    refine va_put (D := D) (ci := 1) (v := .int (0 : Int32)) (ty := .int) (C := RX1) (T := TX1) (N := 14) hx hb ht inX1 tyX1 tyX1_ok nmX1 hown hK hP hD hS 0 rfl rfl 7 (by decide) (ht _ tw_46) (fun _ h9 => h9) rfl pf_I rfl rfl (Nat.le_of_ble_eq_true rfl) dX1_forget_30 (fun H locs hP hD hS => ?_)
    obtain ⟨s0_7, es0_7⟩ : ∃ y : CS, y = sI s0_6 7 (0 : Int32) := ⟨_, rfl⟩
    have hf := hf s0_7 es0_7
    have hP : va_P D classes (wD cI cZ q0 s0_7) H := by rw [es0_7]; exact hP
    have hD : va_D A (wD cI cZ q0 s0_7) := by rw [es0_7]; exact hD
    refine lv_aload_n hx hb dX1_forget_33 rfl (lv_at hl 0 rfl) ?_
    refine lv_iconst (v := (0 : Int32)) hx hb dX1_forget_34 (by decide) ?_
    refine va_put (D := D) (ci := 1) (v := .int (0 : Int32)) (ty := .int) (C := RX1) (T := TX1) (N := 14) hx hb ht inX1 tyX1 tyX1_ok nmX1 hown hK hP hD hS 0 rfl rfl 8 (by decide) (ht _ tw_48) (fun _ h9 => h9) rfl pf_I rfl rfl (Nat.le_of_ble_eq_true rfl) dX1_forget_35 (fun H locs hP hD hS => ?_)
    obtain ⟨s0_8, es0_8⟩ : ∃ y : CS, y = sI s0_7 8 (0 : Int32) := ⟨_, rfl⟩
    have hf := hf s0_8 es0_8
    have hP : va_P D classes (wD cI cZ q0 s0_8) H := by rw [es0_8]; exact hP
    have hD : va_D A (wD cI cZ q0 s0_8) := by rw [es0_8]; exact hD
    refine lv_aload_n hx hb dX1_forget_38 rfl (lv_at hl 0 rfl) ?_
    refine lv_iconst (v := (0 : Int32)) hx hb dX1_forget_39 (by decide) ?_
    refine va_put (D := D) (ci := 1) (v := .int (0 : Int32)) (ty := .int) (C := RX1) (T := TX1) (N := 14) hx hb ht inX1 tyX1 tyX1_ok nmX1 hown hK hP hD hS 0 rfl rfl 9 (by decide) (ht _ tw_49) (fun _ h9 => h9) rfl pf_I rfl rfl (Nat.le_of_ble_eq_true rfl) dX1_forget_40 (fun H locs hP hD hS => ?_)
    obtain ⟨s0_9, es0_9⟩ : ∃ y : CS, y = sI s0_8 9 (0 : Int32) := ⟨_, rfl⟩
    have hf := hf s0_9 es0_9
    have hP : va_P D classes (wD cI cZ q0 s0_9) H := by rw [es0_9]; exact hP
    have hD : va_D A (wD cI cZ q0 s0_9) := by rw [es0_9]; exact hD
    refine lv_aload_n hx hb dX1_forget_43 rfl (lv_at hl 0 rfl) ?_
    refine lv_iconst (v := (0 : Int32)) hx hb dX1_forget_44 (by decide) ?_
    refine va_put (D := D) (ci := 1) (v := .int (0 : Int32)) (ty := .int) (C := RX1) (T := TX1) (N := 14) hx hb ht inX1 tyX1 tyX1_ok nmX1 hown hK hP hD hS 0 rfl rfl 10 (by decide) (ht _ tw_50) (fun _ h9 => h9) rfl pf_I rfl rfl (Nat.le_of_ble_eq_true rfl) dX1_forget_45 (fun H locs hP hD hS => ?_)
    obtain ⟨s0_10, es0_10⟩ : ∃ y : CS, y = sI s0_9 10 (0 : Int32) := ⟨_, rfl⟩
    have hf := hf s0_10 es0_10
    have hP : va_P D classes (wD cI cZ q0 s0_10) H := by rw [es0_10]; exact hP
    have hD : va_D A (wD cI cZ q0 s0_10) := by rw [es0_10]; exact hD
    refine lv_aload_n hx hb dX1_forget_48 rfl (lv_at hl 0 rfl) ?_
    refine lv_iconst (v := (0 : Int32)) hx hb dX1_forget_49 (by decide) ?_
    refine va_put (D := D) (ci := 1) (v := .int (0 : Int32)) (ty := .int) (C := RX1) (T := TX1) (N := 14) hx hb ht inX1 tyX1 tyX1_ok nmX1 hown hK hP hD hS 0 rfl rfl 11 (by decide) (ht _ tw_51) (fun _ h9 => h9) rfl pf_I rfl rfl (Nat.le_of_ble_eq_true rfl) dX1_forget_50 (fun H locs hP hD hS => ?_)
    obtain ⟨s0_11, es0_11⟩ : ∃ y : CS, y = sI s0_10 11 (0 : Int32) := ⟨_, rfl⟩
    have hf := hf s0_11 es0_11
    have hP : va_P D classes (wD cI cZ q0 s0_11) H := by rw [es0_11]; exact hP
    have hD : va_D A (wD cI cZ q0 s0_11) := by rw [es0_11]; exact hD
    exact W.vret hx hb hr (fun t ht hW => ⟨⟨s0_11, rfl, hf, P_heap ht hP⟩, hS.F ht⟩) hS.2.2 dX1_forget_53
  exact start s.heap [] hP hD hS
def wp_X1_addHole (p0 : Int32) (p1 : Int32) (p2 : Int32) (s0 : CS) (Q : CS → Prop) : Prop := wp_X3_put (s0.1 1) p0 5 (s0.2.1 6) (fun f_1 => ∀ s0_2 : CS, s0_2 = sF s0 6 f_1 → wp_X3_put (s0_2.1 1) p1 5 (s0_2.2.1 5) (fun f_3 => ∀ s0_4 : CS, s0_4 = sF s0_2 5 f_3 → wp_X3_put (s0_4.1 1) p2 5 (s0_4.2.1 4) (fun f_5 => ∀ s0_6 : CS, s0_6 = sF s0_4 4 f_5 → wp_X2_bitOf p0 (fun r_7 => ∀ s0_8 : CS, s0_8 = sI s0_6 9 ((s0_6.1 9) ||| r_7) → ∀ s0_9 : CS, s0_9 = sI s0_8 1 ((s0_8.1 1) + (1 : Int32)) → Q s0_9))))
set_option maxHeartbeats 4000000 in
set_option maxRecDepth 100000 in
theorem c_X1_addHole (l : Launch) (D : va_G) (cI cZ cW : ClassId) (q0 : Nat → Nat) (sz : Nat) (p0 : Int32) (p1 : Int32) (p2 : Int32) (s0 : CS) (Q : CS → Prop) (hf : wp_X1_addHole p0 p1 p2 s0 Q) : Met l yX1_addHole (wsA yX1_addHole cX1_addHole 4 none) ({ frames := 2, cells := 0, slots := 0, locals := 40 }) (PW D cI cZ cW [.ref (q0 0), .int p0, .int p1, .int p2] (wD cI cZ q0 s0) sz) (va_Qv (fun (u : CS) => Q u) (fun u t => va_P D classes (wD cI cZ q0 u) t.heap) (va_A (wD cI cZ q0 s0) sz)) 0 0 (va_A (wD cI cZ q0 s0) sz) := by
  refine Met.ofW (cc := cX1_addHole) (maxL := 4) (ret := none) (by decide) rfl ?_
  intro p e s m args below meth c s₁ B hml hv
  obtain ⟨rfl, hsz, hP, hK, hD0⟩ := hv
  have hx := B.exec
  have hb := B.bytes
  have hr := B.returns
  have hts := atoms_spec (ws := (wsA yX1_addHole cX1_addHole 4 none)) B.pre
  have ht : ∀ w ∈ lw_g, w.before _ s = true := fun w h => hts w (List.mem_cons_of_mem _ h)
  have hown : s.vm.findClass RX1 = some m.cls := findClass_of_methodNamed B.named
  have hlocks := B.notSynchronized
  subst hsz
  have hD := hD0.self (sz := s.heap.size)
  generalize hAe : va_A (wD cI cZ q0 s0) s.heap.size = A at hD ⊢
  have hA : ∀ q : Nat, s.heap.size ≤ q → A q := fun q h => by rw [← hAe]; exact Or.inr h
  have hS : va_S A s.heap s.heap [] := va_S.rf
  have hl := lv_entry ([.ref (q0 0), .int p0, .int p1, .int p2]) (n := 4) (Nat.le_of_ble_eq_true rfl)
  rw [lg_entry_eq]
  generalize (lg_sl ([.ref (q0 0), .int p0, .int p1, .int p2]) ++ List.replicate (4 - (lg_sl ([.ref (q0 0), .int p0, .int p1, .int p2])).length) Slot.unset).toArray = ls at hl ⊢
  have hl : lv_has ls 4 [(0, .ref (q0 0)), (1, .int p0), (2, .int p1), (3, .int p2)] := hl
  unfold wp_X1_addHole at hf
  have start : ∀ (H : Heap) (locs : List Loc), va_P D classes (wD cI cZ q0 s0) H → va_D A (wD cI cZ q0 s0) → va_S A s.heap H locs → W p l e (headSpec (wsA yX1_addHole cX1_addHole 4 none) ({ frames := 2, cells := 0, slots := 0, locals := 40 })).room s m (#[.ref (q0 0), .int p0, .int p1, .int p2] : Array Value) below meth c H locs 0 0 (MQ below (va_Qv (fun (u : CS) => Q u) (fun u t => va_P D classes (wD cI cZ q0 u) t.heap) A) (#[.ref (q0 0), .int p0, .int p1, .int p2] : Array Value) s 0 0 A) (F0 m 0 ls []) := by
    intro H locs hP hD hS
    refine lv_aload_n hx hb dX1_addHole_0 rfl (lv_at hl 0 rfl) ?_
    refine va_get (D := D) (ci := 1) (v := .ref (q0 5)) (C := RX1) (T := TX1) (N := 14) hx hb ht inX1 hown hK hP 0 rfl rfl 6 (by decide) (ht _ tw_44) (fun _ h9 => h9) rfl dX1_addHole_1 ?_
    refine lv_aload_n hx hb dX1_addHole_4 rfl (lv_at hl 0 rfl) ?_
    refine va_get (D := D) (ci := 1) (v := .int (s0.1 1)) (C := RX1) (T := TX1) (N := 14) hx hb ht inX1 hown hK hP 0 rfl rfl 1 (by decide) (ht _ tw_32) (fun _ h9 => h9) rfl dX1_addHole_5 ?_
    refine lv_iload_n hx hb dX1_addHole_8 rfl (lv_at hl 1 rfl) ?_
    have hPc : va_P D classes (wI cI (q0 5) 5 (s0.2.1 6)) H := hP.sub [5] rfl
    have hDc : va_D A (wI cI (q0 5) 5 (s0.2.1 6)) := hD.sub [5] (by decide) rfl
    have hFc := va_free (wc := (wI cI (q0 5) 5 (s0.2.1 6))) hD hS hA [5] rfl
    refine va_callv (va_runS (As := [.ref (q0 5), .int (s0.1 1), .int p0]) (rest := []) ⟨hx, hb, hml, hown, hts⟩ (c_X3_put l D cI cZ cW (q0 5) H.size (s0.1 1) p0 5 (s0.2.1 6) _ hf) ⟨callB_of 3 hts (gA tw_224) rfl rfl rfl (ht _ tw_8) (ht _ tw_222) hd_X3_put ⟨Nat.le_of_ble_eq_true rfl, Nat.le_of_ble_eq_true rfl⟩, ht _ tw_223⟩ ⟨PW_blind, fun U hU hW => PW_mk hPc hDc hK hU hW⟩ rfl rfl hl.1 rfl (lv_room (Nat.le_of_ble_eq_true rfl)) dX1_addHole_9 ⟨Nat.zero_le _, Nat.zero_le _⟩) hS (fun q _ h => hFc q h) hFc (fun u t H1 locs ht1 hvm hf hB hz1 hk1 hS => ?_)
    obtain ⟨f_1, rfl⟩ : ∃ z, z = u := ⟨_, rfl⟩
    rw [ht1] at hB
    obtain ⟨hP, hD⟩ := cj [5] (wI cI (q0 5) 5 (s0.2.1 6)) (wI cI (q0 5) 5 f_1) hP hD rfl rfl hk1 hB
    generalize H1 = H at hP hS ⊢
    obtain ⟨s0_2, es0_2⟩ : ∃ y : CS, y = sF s0 6 f_1 := ⟨_, rfl⟩
    have hf := hf s0_2 es0_2
    have hP : va_P D classes (wD cI cZ q0 s0_2) H := by rw [es0_2]; exact hP
    have hD : va_D A (wD cI cZ q0 s0_2) := by rw [es0_2]; exact hD
    refine lv_aload_n hx hb dX1_addHole_12 rfl (lv_at hl 0 rfl) ?_
    refine va_get (D := D) (ci := 1) (v := .ref (q0 4)) (C := RX1) (T := TX1) (N := 14) hx hb ht inX1 hown hK hP 0 rfl rfl 5 (by decide) (ht _ tw_42) (fun _ h9 => h9) rfl dX1_addHole_13 ?_
    refine lv_aload_n hx hb dX1_addHole_16 rfl (lv_at hl 0 rfl) ?_
    refine va_get (D := D) (ci := 1) (v := .int (s0_2.1 1)) (C := RX1) (T := TX1) (N := 14) hx hb ht inX1 hown hK hP 0 rfl rfl 1 (by decide) (ht _ tw_32) (fun _ h9 => h9) rfl dX1_addHole_17 ?_
    refine lv_iload_n hx hb dX1_addHole_20 rfl (lv_at hl 2 rfl) ?_
    have hPc : va_P D classes (wI cI (q0 4) 5 (s0_2.2.1 5)) H := hP.sub [4] rfl
    have hDc : va_D A (wI cI (q0 4) 5 (s0_2.2.1 5)) := hD.sub [4] (by decide) rfl
    have hFc := va_free (wc := (wI cI (q0 4) 5 (s0_2.2.1 5))) hD hS hA [4] rfl
    refine va_callv (va_runS (As := [.ref (q0 4), .int (s0_2.1 1), .int p1]) (rest := []) ⟨hx, hb, hml, hown, hts⟩ (c_X3_put l D cI cZ cW (q0 4) H.size (s0_2.1 1) p1 5 (s0_2.2.1 5) _ hf) ⟨callB_of 3 hts (gA tw_224) rfl rfl rfl (ht _ tw_8) (ht _ tw_222) hd_X3_put ⟨Nat.le_of_ble_eq_true rfl, Nat.le_of_ble_eq_true rfl⟩, ht _ tw_223⟩ ⟨PW_blind, fun U hU hW => PW_mk hPc hDc hK hU hW⟩ rfl rfl hl.1 rfl (lv_room (Nat.le_of_ble_eq_true rfl)) dX1_addHole_21 ⟨Nat.zero_le _, Nat.zero_le _⟩) hS (fun q _ h => hFc q h) hFc (fun u t H1 locs ht1 hvm hf hB hz1 hk1 hS => ?_)
    obtain ⟨f_3, rfl⟩ : ∃ z, z = u := ⟨_, rfl⟩
    rw [ht1] at hB
    obtain ⟨hP, hD⟩ := cj [4] (wI cI (q0 4) 5 (s0_2.2.1 5)) (wI cI (q0 4) 5 f_3) hP hD rfl rfl hk1 hB
    generalize H1 = H at hP hS ⊢
    obtain ⟨s0_4, es0_4⟩ : ∃ y : CS, y = sF s0_2 5 f_3 := ⟨_, rfl⟩
    have hf := hf s0_4 es0_4
    have hP : va_P D classes (wD cI cZ q0 s0_4) H := by rw [es0_4]; exact hP
    have hD : va_D A (wD cI cZ q0 s0_4) := by rw [es0_4]; exact hD
    refine lv_aload_n hx hb dX1_addHole_24 rfl (lv_at hl 0 rfl) ?_
    refine va_get (D := D) (ci := 1) (v := .ref (q0 3)) (C := RX1) (T := TX1) (N := 14) hx hb ht inX1 hown hK hP 0 rfl rfl 4 (by decide) (ht _ tw_39) (fun _ h9 => h9) rfl dX1_addHole_25 ?_
    refine lv_aload_n hx hb dX1_addHole_28 rfl (lv_at hl 0 rfl) ?_
    refine va_get (D := D) (ci := 1) (v := .int (s0_4.1 1)) (C := RX1) (T := TX1) (N := 14) hx hb ht inX1 hown hK hP 0 rfl rfl 1 (by decide) (ht _ tw_32) (fun _ h9 => h9) rfl dX1_addHole_29 ?_
    refine lv_iload_n hx hb dX1_addHole_32 rfl (lv_at hl 3 rfl) ?_
    have hPc : va_P D classes (wI cI (q0 3) 5 (s0_4.2.1 4)) H := hP.sub [3] rfl
    have hDc : va_D A (wI cI (q0 3) 5 (s0_4.2.1 4)) := hD.sub [3] (by decide) rfl
    have hFc := va_free (wc := (wI cI (q0 3) 5 (s0_4.2.1 4))) hD hS hA [3] rfl
    refine va_callv (va_runS (As := [.ref (q0 3), .int (s0_4.1 1), .int p2]) (rest := []) ⟨hx, hb, hml, hown, hts⟩ (c_X3_put l D cI cZ cW (q0 3) H.size (s0_4.1 1) p2 5 (s0_4.2.1 4) _ hf) ⟨callB_of 3 hts (gA tw_224) rfl rfl rfl (ht _ tw_8) (ht _ tw_222) hd_X3_put ⟨Nat.le_of_ble_eq_true rfl, Nat.le_of_ble_eq_true rfl⟩, ht _ tw_223⟩ ⟨PW_blind, fun U hU hW => PW_mk hPc hDc hK hU hW⟩ rfl rfl hl.1 rfl (lv_room (Nat.le_of_ble_eq_true rfl)) dX1_addHole_33 ⟨Nat.zero_le _, Nat.zero_le _⟩) hS (fun q _ h => hFc q h) hFc (fun u t H1 locs ht1 hvm hf hB hz1 hk1 hS => ?_)
    obtain ⟨f_5, rfl⟩ : ∃ z, z = u := ⟨_, rfl⟩
    rw [ht1] at hB
    obtain ⟨hP, hD⟩ := cj [3] (wI cI (q0 3) 5 (s0_4.2.1 4)) (wI cI (q0 3) 5 f_5) hP hD rfl rfl hk1 hB
    generalize H1 = H at hP hS ⊢
    obtain ⟨s0_6, es0_6⟩ : ∃ y : CS, y = sF s0_4 4 f_5 := ⟨_, rfl⟩
    have hf := hf s0_6 es0_6
    have hP : va_P D classes (wD cI cZ q0 s0_6) H := by rw [es0_6]; exact hP
    have hD : va_D A (wD cI cZ q0 s0_6) := by rw [es0_6]; exact hD
    refine lv_aload_n hx hb dX1_addHole_36 rfl (lv_at hl 0 rfl) ?_
    refine lv_dup hx hb dX1_addHole_37 rfl ?_
    refine va_get (D := D) (ci := 1) (v := .int (s0_6.1 9)) (C := RX1) (T := TX1) (N := 14) hx hb ht inX1 hown hK hP 0 rfl rfl 9 (by decide) (ht _ tw_49) (fun _ h9 => h9) rfl dX1_addHole_38 ?_
    refine lv_iload_n hx hb dX1_addHole_41 rfl (lv_at hl 1 rfl) ?_
    have hPc : va_P D classes ([] : va_W) H := hP.sub [] rfl
    refine vp_callSi (W.runS (As := [.int p0]) (rest := [.int (s0_6.1 9), .ref (q0 0)]) ⟨hx, hb, hml, hown, hts⟩ (c_X2_bitOf l D cI cZ cW  p0 _ hf) ⟨callB_of 1 hts (gA tw_248) rfl rfl rfl (ht _ tw_9) (ht _ tw_246) hd_X2_bitOf ⟨Nat.le_of_ble_eq_true rfl, Nat.le_of_ble_eq_true rfl⟩, ht _ tw_247⟩ ⟨PR_blind, fun U hU hW => PR_mk hPc hK hU hW⟩ rfl rfl hl.1 rfl (lv_room (Nat.le_of_ble_eq_true rfl)) dX1_addHole_42 ⟨Nat.zero_le _, Nat.zero_le _⟩) (fun r_7 hf => ?_)
    refine lv_ior hx hb dX1_addHole_45 ?_
    refine va_put (D := D) (ci := 1) (v := .int ((s0_6.1 9) ||| r_7)) (ty := .int) (C := RX1) (T := TX1) (N := 14) hx hb ht inX1 tyX1 tyX1_ok nmX1 hown hK hP hD hS 0 rfl rfl 9 (by decide) (ht _ tw_49) (fun _ h9 => h9) rfl pf_I rfl rfl (Nat.le_of_ble_eq_true rfl) dX1_addHole_46 (fun H locs hP hD hS => ?_)
    obtain ⟨s0_8, es0_8⟩ : ∃ y : CS, y = sI s0_6 9 ((s0_6.1 9) ||| r_7) := ⟨_, rfl⟩
    have hf := hf s0_8 es0_8
    have hP : va_P D classes (wD cI cZ q0 s0_8) H := by rw [es0_8]; exact hP
    have hD : va_D A (wD cI cZ q0 s0_8) := by rw [es0_8]; exact hD
    refine lv_aload_n hx hb dX1_addHole_49 rfl (lv_at hl 0 rfl) ?_
    refine lv_dup hx hb dX1_addHole_50 rfl ?_
    refine va_get (D := D) (ci := 1) (v := .int (s0_8.1 1)) (C := RX1) (T := TX1) (N := 14) hx hb ht inX1 hown hK hP 0 rfl rfl 1 (by decide) (ht _ tw_32) (fun _ h9 => h9) rfl dX1_addHole_51 ?_
    refine lv_iconst (v := (1 : Int32)) hx hb dX1_addHole_54 (by decide) ?_
    refine lv_iadd hx hb dX1_addHole_55 ?_
    refine va_put (D := D) (ci := 1) (v := .int ((s0_8.1 1) + (1 : Int32))) (ty := .int) (C := RX1) (T := TX1) (N := 14) hx hb ht inX1 tyX1 tyX1_ok nmX1 hown hK hP hD hS 0 rfl rfl 1 (by decide) (ht _ tw_32) (fun _ h9 => h9) rfl pf_I rfl rfl (Nat.le_of_ble_eq_true rfl) dX1_addHole_56 (fun H locs hP hD hS => ?_)
    obtain ⟨s0_9, es0_9⟩ : ∃ y : CS, y = sI s0_8 1 ((s0_8.1 1) + (1 : Int32)) := ⟨_, rfl⟩
    have hf := hf s0_9 es0_9
    have hP : va_P D classes (wD cI cZ q0 s0_9) H := by rw [es0_9]; exact hP
    have hD : va_D A (wD cI cZ q0 s0_9) := by rw [es0_9]; exact hD
    exact W.vret hx hb hr (fun t ht hW => ⟨⟨s0_9, rfl, hf, P_heap ht hP⟩, hS.F ht⟩) hS.2.2 dX1_addHole_59
  exact start s.heap [] hP hD hS
def wp_X1_tellLoneHole (p0 : Int32) (s0 : CS) (Q : CS → Prop) : Prop := wp_X1_forget s0 (fun s0_1 => wp_X1_addHole (0 : Int32) (-9 : Int32) p0 s0_1 (fun s0_2 => Q s0_2))
set_option maxHeartbeats 4000000 in
set_option maxRecDepth 100000 in
theorem c_X1_tellLoneHole (l : Launch) (D : va_G) (cI cZ cW : ClassId) (q0 : Nat → Nat) (sz : Nat) (p0 : Int32) (s0 : CS) (Q : CS → Prop) (hf : wp_X1_tellLoneHole p0 s0 Q) : Met l yX1_tellLoneHole (wsA yX1_tellLoneHole cX1_tellLoneHole 2 none) ({ frames := 3, cells := 0, slots := 0, locals := 63 }) (PW D cI cZ cW [.ref (q0 0), .int p0] (wD cI cZ q0 s0) sz) (va_Qv (fun (u : CS) => Q u) (fun u t => va_P D classes (wD cI cZ q0 u) t.heap) (va_A (wD cI cZ q0 s0) sz)) 0 0 (va_A (wD cI cZ q0 s0) sz) := by
  refine Met.ofW (cc := cX1_tellLoneHole) (maxL := 2) (ret := none) (by decide) rfl ?_
  intro p e s m args below meth c s₁ B hml hv
  obtain ⟨rfl, hsz, hP, hK, hD0⟩ := hv
  have hx := B.exec
  have hb := B.bytes
  have hr := B.returns
  have hts := atoms_spec (ws := (wsA yX1_tellLoneHole cX1_tellLoneHole 2 none)) B.pre
  have ht : ∀ w ∈ lw_g, w.before _ s = true := fun w h => hts w (List.mem_cons_of_mem _ h)
  have hown : s.vm.findClass RX1 = some m.cls := findClass_of_methodNamed B.named
  have hlocks := B.notSynchronized
  subst hsz
  have hD := hD0.self (sz := s.heap.size)
  generalize hAe : va_A (wD cI cZ q0 s0) s.heap.size = A at hD ⊢
  have hA : ∀ q : Nat, s.heap.size ≤ q → A q := fun q h => by rw [← hAe]; exact Or.inr h
  have hS : va_S A s.heap s.heap [] := va_S.rf
  have hl := lv_entry ([.ref (q0 0), .int p0]) (n := 2) (Nat.le_of_ble_eq_true rfl)
  rw [lg_entry_eq]
  generalize (lg_sl ([.ref (q0 0), .int p0]) ++ List.replicate (2 - (lg_sl ([.ref (q0 0), .int p0])).length) Slot.unset).toArray = ls at hl ⊢
  have hl : lv_has ls 2 [(0, .ref (q0 0)), (1, .int p0)] := hl
  unfold wp_X1_tellLoneHole at hf
  have start : ∀ (H : Heap) (locs : List Loc), va_P D classes (wD cI cZ q0 s0) H → va_D A (wD cI cZ q0 s0) → va_S A s.heap H locs → W p l e (headSpec (wsA yX1_tellLoneHole cX1_tellLoneHole 2 none) ({ frames := 3, cells := 0, slots := 0, locals := 63 })).room s m (#[.ref (q0 0), .int p0] : Array Value) below meth c H locs 0 0 (MQ below (va_Qv (fun (u : CS) => Q u) (fun u t => va_P D classes (wD cI cZ q0 u) t.heap) A) (#[.ref (q0 0), .int p0] : Array Value) s 0 0 A) (F0 m 0 ls []) := by
    intro H locs hP hD hS
    refine lv_aload_n hx hb dX1_tellLoneHole_0 rfl (lv_at hl 0 rfl) ?_
    have hPc : va_P D classes (wD cI cZ q0 s0) H := hP
    have hDc : va_D A (wD cI cZ q0 s0) := hD
    have hFc := va_free (wc := (wD cI cZ q0 s0)) hD hS hA [0, 1, 2, 3, 4, 5] rfl
    refine va_callv (va_runV (As := []) (rest := []) ⟨hx, hb, hml, hown, hts⟩ (c_X1_forget l D cI cZ cW q0 H.size s0 _ hf) ⟨callB_of 0 hts (gA tw_209) rfl rfl rfl (ht _ tw_2) (ht _ tw_206) hd_X1_forget ⟨Nat.le_of_ble_eq_true rfl, Nat.le_of_ble_eq_true rfl⟩, ht _ tw_208, ht _ twp_0⟩ ⟨PW_blind, va_recv hK hP (ci := 1) (q0 := 0) rfl rfl, fun U hU hW => PW_mk hPc hDc hK hU hW⟩ rfl rfl hl.1 rfl (lv_room (Nat.le_of_ble_eq_true rfl)) dX1_tellLoneHole_1 ⟨Nat.zero_le _, Nat.zero_le _⟩) hS (fun q _ h => hFc q h) hFc (fun u t H1 locs ht1 hvm hf hB hz1 hk1 hS => ?_)
    obtain ⟨s0_1, rfl⟩ : ∃ z, z = u := ⟨_, rfl⟩
    rw [ht1] at hB
    obtain ⟨hP, hD⟩ := cj [0, 1, 2, 3, 4, 5] (wD cI cZ q0 s0) (wD cI cZ q0 s0_1) hP hD rfl rfl hk1 hB
    generalize H1 = H at hP hS ⊢
    have hP : va_P D classes (wD cI cZ q0 s0_1) H := hP
    have hD : va_D A (wD cI cZ q0 s0_1) := hD
    refine lv_aload_n hx hb dX1_tellLoneHole_4 rfl (lv_at hl 0 rfl) ?_
    refine lv_iconst (v := (0 : Int32)) hx hb dX1_tellLoneHole_5 (by decide) ?_
    refine lv_bipush (v := (-9 : Int32)) hx hb dX1_tellLoneHole_6 (by decide) ?_
    refine lv_iload_n hx hb dX1_tellLoneHole_8 rfl (lv_at hl 1 rfl) ?_
    have hPc : va_P D classes (wD cI cZ q0 s0_1) H := hP
    have hDc : va_D A (wD cI cZ q0 s0_1) := hD
    have hFc := va_free (wc := (wD cI cZ q0 s0_1)) hD hS hA [0, 1, 2, 3, 4, 5] rfl
    refine va_callv (va_runV (As := [.int (0 : Int32), .int (-9 : Int32), .int p0]) (rest := []) ⟨hx, hb, hml, hown, hts⟩ (c_X1_addHole l D cI cZ cW q0 H.size (0 : Int32) (-9 : Int32) p0 s0_1 _ hf) ⟨callB_of 3 hts (gA tw_253) rfl rfl rfl (ht _ tw_2) (ht _ tw_250) hd_X1_addHole ⟨Nat.le_of_ble_eq_true rfl, Nat.le_of_ble_eq_true rfl⟩, ht _ tw_252, ht _ twp_6⟩ ⟨PW_blind, va_recv hK hP (ci := 1) (q0 := 0) rfl rfl, fun U hU hW => PW_mk hPc hDc hK hU hW⟩ rfl rfl hl.1 rfl (lv_room (Nat.le_of_ble_eq_true rfl)) dX1_tellLoneHole_9 ⟨Nat.zero_le _, Nat.zero_le _⟩) hS (fun q _ h => hFc q h) hFc (fun u t H1 locs ht1 hvm hf hB hz1 hk1 hS => ?_)
    obtain ⟨s0_2, rfl⟩ : ∃ z, z = u := ⟨_, rfl⟩
    rw [ht1] at hB
    obtain ⟨hP, hD⟩ := cj [0, 1, 2, 3, 4, 5] (wD cI cZ q0 s0_1) (wD cI cZ q0 s0_2) hP hD rfl rfl hk1 hB
    generalize H1 = H at hP hS ⊢
    have hP : va_P D classes (wD cI cZ q0 s0_2) H := hP
    have hD : va_D A (wD cI cZ q0 s0_2) := hD
    exact W.vret hx hb hr (fun t ht hW => ⟨⟨s0_2, rfl, hf, P_heap ht hP⟩, hS.F ht⟩) hS.2.2 dX1_tellLoneHole_12
  exact start s.heap [] hP hD hS
def wp_X1_opensPart (p0 : Int32) (s0 : CS) (Q : Int32 → Prop) : Prop := ((p0 = (72 : Int32) → (((s0.1 0) ≤ 0 → Q (0 : Int32)) ∧ (¬ (s0.1 0) ≤ 0 → (((5 : Int32) ≤ (s0.1 1) → Q (0 : Int32)) ∧ (¬ (5 : Int32) ≤ (s0.1 1) → Q (1 : Int32)))))) ∧ (¬ p0 = (72 : Int32) → ((p0 = (79 : Int32) → (((4 : Int32) ≤ (s0.1 0) → Q (0 : Int32)) ∧ (¬ (4 : Int32) ≤ (s0.1 0) → Q (1 : Int32)))) ∧ (¬ p0 = (79 : Int32) → ((p0 = (82 : Int32) → (((s0.1 0) ≤ 0 → Q (0 : Int32)) ∧ (¬ (s0.1 0) ≤ 0 → (((s0.1 8) = (15 : Int32) → Q (0 : Int32)) ∧ (¬ (s0.1 8) = (15 : Int32) → Q (1 : Int32)))))) ∧ (¬ p0 = (82 : Int32) → Q (0 : Int32)))))))
set_option maxHeartbeats 4000000 in
set_option maxRecDepth 100000 in
theorem c_X1_opensPart (l : Launch) (D : va_G) (cI cZ cW : ClassId) (q0 : Nat → Nat) (p0 : Int32) (s0 : CS) (Q : Int32 → Prop) (hf : wp_X1_opensPart p0 s0 Q) : Met l yX1_opensPart (wsA yX1_opensPart cX1_opensPart 2 (some .boolean)) ({ frames := 0, cells := 0, slots := 0, locals := 0 }) (PR D cI cZ cW [.ref (q0 0), .int p0] (wD cI cZ q0 s0)) (vp_Si Q) 0 0 (fun _ => False) := by
  refine Met.ofW (cc := cX1_opensPart) (maxL := 2) (ret := (some .boolean)) (by decide) rfl ?_
  intro p e s m args below meth c s₁ B hml hv
  obtain ⟨rfl, hP, hK⟩ := hv
  have hx := B.exec
  have hb := B.bytes
  have hr := B.returns
  have hts := atoms_spec (ws := (wsA yX1_opensPart cX1_opensPart 2 (some .boolean))) B.pre
  have ht : ∀ w ∈ lw_g, w.before _ s = true := fun w h => hts w (List.mem_cons_of_mem _ h)
  have hown : s.vm.findClass RX1 = some m.cls := findClass_of_methodNamed B.named
  have hlocks := B.notSynchronized
  have hl := lv_entry ([.ref (q0 0), .int p0]) (n := 2) (Nat.le_of_ble_eq_true rfl)
  rw [lg_entry_eq]
  generalize (lg_sl ([.ref (q0 0), .int p0]) ++ List.replicate (2 - (lg_sl ([.ref (q0 0), .int p0])).length) Slot.unset).toArray = ls at hl ⊢
  have hl : lv_has ls 2 [(0, .ref (q0 0)), (1, .int p0)] := hl
  unfold wp_X1_opensPart at hf
  refine lv_iload_n hx hb dX1_opensPart_0 rfl (lv_at hl 1 rfl) ?_
  by_cases c_1 : p0 = (72 : Int32)
  · have hf := hf.1 c_1
    refine lv_lookup (off := 71) (tgt := 72) hx hb dX1_opensPart_1 (by decide) (by rw [c_1]; first | done | rfl) (by decide) ?_
    refine lv_aload_n hx hb dX1_opensPart_72 rfl (lv_at hl 0 rfl) ?_
    refine va_get (D := D) (ci := 1) (v := .int (s0.1 0)) (C := RX1) (T := TX1) (N := 14) hx hb ht inX1 hown hK hP 0 rfl rfl 0 (by decide) (ht _ tw_30) (fun _ h9 => h9) rfl dX1_opensPart_73 ?_
    refine lv_if_le (tgt := 91) hx hb dX1_opensPart_76 (by decide) (fun c_2 => ?_) (fun c_2 => ?_)
    · have hf := hf.1 c_2
      refine lv_iconst (v := (0 : Int32)) hx hb dX1_opensPart_91 (by decide) ?_
      exact W.zret (v := (0 : Int32)) hx hb hr rfl (fun t ht hW => ⟨(0 : Int32), rfl, hf, ht⟩) (fun q h => absurd h List.not_mem_nil) dX1_opensPart_92
    · have hf := hf.2 c_2
      refine lv_aload_n hx hb dX1_opensPart_79 rfl (lv_at hl 0 rfl) ?_
      refine va_get (D := D) (ci := 1) (v := .int (s0.1 1)) (C := RX1) (T := TX1) (N := 14) hx hb ht inX1 hown hK hP 0 rfl rfl 1 (by decide) (ht _ tw_32) (fun _ h9 => h9) rfl dX1_opensPart_80 ?_
      refine lv_iconst (v := (5 : Int32)) hx hb dX1_opensPart_83 (by decide) ?_
      refine lv_icmp_ge (tgt := 91) hx hb dX1_opensPart_84 (by decide) (fun c_3 => ?_) (fun c_3 => ?_)
      · have hf := hf.1 c_3
        refine lv_iconst (v := (0 : Int32)) hx hb dX1_opensPart_91 (by decide) ?_
        exact W.zret (v := (0 : Int32)) hx hb hr rfl (fun t ht hW => ⟨(0 : Int32), rfl, hf, ht⟩) (fun q h => absurd h List.not_mem_nil) dX1_opensPart_92
      · have hf := hf.2 c_3
        refine lv_iconst (v := (1 : Int32)) hx hb dX1_opensPart_87 (by decide) ?_
        refine lv_goto (tgt := 92) hx hb dX1_opensPart_88 (by decide) ?_
        exact W.zret (v := (1 : Int32)) hx hb hr rfl (fun t ht hW => ⟨(1 : Int32), rfl, hf, ht⟩) (fun q h => absurd h List.not_mem_nil) dX1_opensPart_92
  · have hf := hf.2 c_1
    by_cases c_4 : p0 = (79 : Int32)
    · have hf := hf.1 c_4
      refine lv_lookup (off := 35) (tgt := 36) hx hb dX1_opensPart_1 (by decide) (by rw [c_4]; first | done | rfl) (by decide) ?_
      refine lv_aload_n hx hb dX1_opensPart_36 rfl (lv_at hl 0 rfl) ?_
      refine va_get (D := D) (ci := 1) (v := .int (s0.1 0)) (C := RX1) (T := TX1) (N := 14) hx hb ht inX1 hown hK hP 0 rfl rfl 0 (by decide) (ht _ tw_30) (fun _ h9 => h9) rfl dX1_opensPart_37 ?_
      refine lv_iconst (v := (4 : Int32)) hx hb dX1_opensPart_40 (by decide) ?_
      refine lv_icmp_ge (tgt := 48) hx hb dX1_opensPart_41 (by decide) (fun c_5 => ?_) (fun c_5 => ?_)
      · have hf := hf.1 c_5
        refine lv_iconst (v := (0 : Int32)) hx hb dX1_opensPart_48 (by decide) ?_
        exact W.zret (v := (0 : Int32)) hx hb hr rfl (fun t ht hW => ⟨(0 : Int32), rfl, hf, ht⟩) (fun q h => absurd h List.not_mem_nil) dX1_opensPart_49
      · have hf := hf.2 c_5
        refine lv_iconst (v := (1 : Int32)) hx hb dX1_opensPart_44 (by decide) ?_
        refine lv_goto (tgt := 49) hx hb dX1_opensPart_45 (by decide) ?_
        exact W.zret (v := (1 : Int32)) hx hb hr rfl (fun t ht hW => ⟨(1 : Int32), rfl, hf, ht⟩) (fun q h => absurd h List.not_mem_nil) dX1_opensPart_49
    · have hf := hf.2 c_4
      by_cases c_6 : p0 = (82 : Int32)
      · have hf := hf.1 c_6
        refine lv_lookup (off := 49) (tgt := 50) hx hb dX1_opensPart_1 (by decide) (by rw [c_6]; first | done | rfl) (by decide) ?_
        refine lv_aload_n hx hb dX1_opensPart_50 rfl (lv_at hl 0 rfl) ?_
        refine va_get (D := D) (ci := 1) (v := .int (s0.1 0)) (C := RX1) (T := TX1) (N := 14) hx hb ht inX1 hown hK hP 0 rfl rfl 0 (by decide) (ht _ tw_30) (fun _ h9 => h9) rfl dX1_opensPart_51 ?_
        refine lv_if_le (tgt := 70) hx hb dX1_opensPart_54 (by decide) (fun c_7 => ?_) (fun c_7 => ?_)
        · have hf := hf.1 c_7
          refine lv_iconst (v := (0 : Int32)) hx hb dX1_opensPart_70 (by decide) ?_
          exact W.zret (v := (0 : Int32)) hx hb hr rfl (fun t ht hW => ⟨(0 : Int32), rfl, hf, ht⟩) (fun q h => absurd h List.not_mem_nil) dX1_opensPart_71
        · have hf := hf.2 c_7
          refine lv_aload_n hx hb dX1_opensPart_57 rfl (lv_at hl 0 rfl) ?_
          refine va_get (D := D) (ci := 1) (v := .int (s0.1 8)) (C := RX1) (T := TX1) (N := 14) hx hb ht inX1 hown hK hP 0 rfl rfl 8 (by decide) (ht _ tw_48) (fun _ h9 => h9) rfl dX1_opensPart_58 ?_
          refine lv_bipush (v := (15 : Int32)) hx hb dX1_opensPart_61 (by decide) ?_
          refine lv_icmp_eq (tgt := 70) hx hb dX1_opensPart_63 (by decide) (fun c_8 => ?_) (fun c_8 => ?_)
          · have hf := hf.1 c_8
            refine lv_iconst (v := (0 : Int32)) hx hb dX1_opensPart_70 (by decide) ?_
            exact W.zret (v := (0 : Int32)) hx hb hr rfl (fun t ht hW => ⟨(0 : Int32), rfl, hf, ht⟩) (fun q h => absurd h List.not_mem_nil) dX1_opensPart_71
          · have hf := hf.2 c_8
            refine lv_iconst (v := (1 : Int32)) hx hb dX1_opensPart_66 (by decide) ?_
            refine lv_goto (tgt := 71) hx hb dX1_opensPart_67 (by decide) ?_
            exact W.zret (v := (1 : Int32)) hx hb hr rfl (fun t ht hW => ⟨(1 : Int32), rfl, hf, ht⟩) (fun q h => absurd h List.not_mem_nil) dX1_opensPart_71
      · have hf := hf.2 c_6
        refine lv_lookup (off := 92) (tgt := 93) hx hb dX1_opensPart_1 (by decide) (by show Op.lookupswitch.offset _ _ _ = _; rw [lv_osw c_1 (a := 72) (by decide), lv_osw c_4 (a := 79) (by decide), lv_osw c_6 (a := 82) (by decide)]; first | done | rfl) (by decide) ?_
        refine lv_iconst (v := (0 : Int32)) hx hb dX1_opensPart_93 (by decide) ?_
        exact W.zret (v := (0 : Int32)) hx hb hr rfl (fun t ht hW => ⟨(0 : Int32), rfl, hf, ht⟩) (fun q h => absurd h List.not_mem_nil) dX1_opensPart_94
def wp_X1_readsOwner (p0 : Int32) (s0 : CS) (Q : Int32 → CS → Prop) : Prop := ((p0 < 0 → Q (0 : Int32) s0) ∧ (¬ p0 < 0 → ((p0 < (4 : Int32) → wp_X3_put (s0.1 0) p0 4 (s0.2.1 2) (fun f_3 => ∀ s0_4 : CS, s0_4 = sF s0 2 f_3 → ∀ s0_5 : CS, s0_5 = sI s0_4 0 ((s0_4.1 0) + (1 : Int32)) → ∀ s0_6 : CS, s0_6 = sI s0_5 10 (68 : Int32) → Q (1 : Int32) s0_6)) ∧ (¬ p0 < (4 : Int32) → Q (0 : Int32) s0))))
set_option maxHeartbeats 4000000 in
set_option maxRecDepth 100000 in
theorem c_X1_readsOwner (l : Launch) (D : va_G) (cI cZ cW : ClassId) (q0 : Nat → Nat) (sz : Nat) (p0 : Int32) (s0 : CS) (Q : Int32 → CS → Prop) (hf : wp_X1_readsOwner p0 s0 Q) : Met l yX1_readsOwner (wsA yX1_readsOwner cX1_readsOwner 2 (some .boolean)) ({ frames := 1, cells := 0, slots := 0, locals := 22 }) (PW D cI cZ cW [.ref (q0 0), .int p0] (wD cI cZ q0 s0) sz) (va_Qi (fun (r : Int32) (u : CS) => Q r u) (fun u t => va_P D classes (wD cI cZ q0 u) t.heap) (va_A (wD cI cZ q0 s0) sz)) 0 0 (va_A (wD cI cZ q0 s0) sz) := by
  refine Met.ofW (cc := cX1_readsOwner) (maxL := 2) (ret := (some .boolean)) (by decide) rfl ?_
  intro p e s m args below meth c s₁ B hml hv
  obtain ⟨rfl, hsz, hP, hK, hD0⟩ := hv
  have hx := B.exec
  have hb := B.bytes
  have hr := B.returns
  have hts := atoms_spec (ws := (wsA yX1_readsOwner cX1_readsOwner 2 (some .boolean))) B.pre
  have ht : ∀ w ∈ lw_g, w.before _ s = true := fun w h => hts w (List.mem_cons_of_mem _ h)
  have hown : s.vm.findClass RX1 = some m.cls := findClass_of_methodNamed B.named
  have hlocks := B.notSynchronized
  subst hsz
  have hD := hD0.self (sz := s.heap.size)
  generalize hAe : va_A (wD cI cZ q0 s0) s.heap.size = A at hD ⊢
  have hA : ∀ q : Nat, s.heap.size ≤ q → A q := fun q h => by rw [← hAe]; exact Or.inr h
  have hS : va_S A s.heap s.heap [] := va_S.rf
  have hl := lv_entry ([.ref (q0 0), .int p0]) (n := 2) (Nat.le_of_ble_eq_true rfl)
  rw [lg_entry_eq]
  generalize (lg_sl ([.ref (q0 0), .int p0]) ++ List.replicate (2 - (lg_sl ([.ref (q0 0), .int p0])).length) Slot.unset).toArray = ls at hl ⊢
  have hl : lv_has ls 2 [(0, .ref (q0 0)), (1, .int p0)] := hl
  unfold wp_X1_readsOwner at hf
  have start : ∀ (H : Heap) (locs : List Loc), va_P D classes (wD cI cZ q0 s0) H → va_D A (wD cI cZ q0 s0) → va_S A s.heap H locs → W p l e (headSpec (wsA yX1_readsOwner cX1_readsOwner 2 (some .boolean)) ({ frames := 1, cells := 0, slots := 0, locals := 22 })).room s m (#[.ref (q0 0), .int p0] : Array Value) below meth c H locs 0 0 (MQ below (va_Qi (fun (r : Int32) (u : CS) => Q r u) (fun u t => va_P D classes (wD cI cZ q0 u) t.heap) A) (#[.ref (q0 0), .int p0] : Array Value) s 0 0 A) (F0 m 0 ls []) := by
    intro H locs hP hD hS
    refine lv_iload_n hx hb dX1_readsOwner_0 rfl (lv_at hl 1 rfl) ?_
    refine lv_if_lt (tgt := 9) hx hb dX1_readsOwner_1 (by decide) (fun c_1 => ?_) (fun c_1 => ?_)
    · have hf := hf.1 c_1
      refine lv_iconst (v := (0 : Int32)) hx hb dX1_readsOwner_9 (by decide) ?_
      exact W.zret (v := (0 : Int32)) hx hb hr rfl (fun t ht hW => ⟨⟨(0 : Int32), s0, rfl, hf, P_heap ht hP⟩, hS.F ht⟩) hS.2.2 dX1_readsOwner_10
    · have hf := hf.2 c_1
      refine lv_iload_n hx hb dX1_readsOwner_4 rfl (lv_at hl 1 rfl) ?_
      refine lv_iconst (v := (4 : Int32)) hx hb dX1_readsOwner_5 (by decide) ?_
      refine lv_icmp_lt (tgt := 11) hx hb dX1_readsOwner_6 (by decide) (fun c_2 => ?_) (fun c_2 => ?_)
      · have hf := hf.1 c_2
        refine lv_aload_n hx hb dX1_readsOwner_11 rfl (lv_at hl 0 rfl) ?_
        refine va_get (D := D) (ci := 1) (v := .ref (q0 1)) (C := RX1) (T := TX1) (N := 14) hx hb ht inX1 hown hK hP 0 rfl rfl 2 (by decide) (ht _ tw_34) (fun _ h9 => h9) rfl dX1_readsOwner_12 ?_
        refine lv_aload_n hx hb dX1_readsOwner_15 rfl (lv_at hl 0 rfl) ?_
        refine va_get (D := D) (ci := 1) (v := .int (s0.1 0)) (C := RX1) (T := TX1) (N := 14) hx hb ht inX1 hown hK hP 0 rfl rfl 0 (by decide) (ht _ tw_30) (fun _ h9 => h9) rfl dX1_readsOwner_16 ?_
        refine lv_iload_n hx hb dX1_readsOwner_19 rfl (lv_at hl 1 rfl) ?_
        have hPc : va_P D classes (wI cI (q0 1) 4 (s0.2.1 2)) H := hP.sub [1] rfl
        have hDc : va_D A (wI cI (q0 1) 4 (s0.2.1 2)) := hD.sub [1] (by decide) rfl
        have hFc := va_free (wc := (wI cI (q0 1) 4 (s0.2.1 2))) hD hS hA [1] rfl
        refine va_callv (va_runS (As := [.ref (q0 1), .int (s0.1 0), .int p0]) (rest := []) ⟨hx, hb, hml, hown, hts⟩ (c_X3_put l D cI cZ cW (q0 1) H.size (s0.1 0) p0 4 (s0.2.1 2) _ hf) ⟨callB_of 3 hts (gA tw_224) rfl rfl rfl (ht _ tw_8) (ht _ tw_222) hd_X3_put ⟨Nat.le_of_ble_eq_true rfl, Nat.le_of_ble_eq_true rfl⟩, ht _ tw_223⟩ ⟨PW_blind, fun U hU hW => PW_mk hPc hDc hK hU hW⟩ rfl rfl hl.1 rfl (lv_room (Nat.le_of_ble_eq_true rfl)) dX1_readsOwner_20 ⟨Nat.zero_le _, Nat.zero_le _⟩) hS (fun q _ h => hFc q h) hFc (fun u t H1 locs ht1 hvm hf hB hz1 hk1 hS => ?_)
        obtain ⟨f_3, rfl⟩ : ∃ z, z = u := ⟨_, rfl⟩
        rw [ht1] at hB
        obtain ⟨hP, hD⟩ := cj [1] (wI cI (q0 1) 4 (s0.2.1 2)) (wI cI (q0 1) 4 f_3) hP hD rfl rfl hk1 hB
        generalize H1 = H at hP hS ⊢
        obtain ⟨s0_4, es0_4⟩ : ∃ y : CS, y = sF s0 2 f_3 := ⟨_, rfl⟩
        have hf := hf s0_4 es0_4
        have hP : va_P D classes (wD cI cZ q0 s0_4) H := by rw [es0_4]; exact hP
        have hD : va_D A (wD cI cZ q0 s0_4) := by rw [es0_4]; exact hD
        refine lv_aload_n hx hb dX1_readsOwner_23 rfl (lv_at hl 0 rfl) ?_
        refine lv_dup hx hb dX1_readsOwner_24 rfl ?_
        refine va_get (D := D) (ci := 1) (v := .int (s0_4.1 0)) (C := RX1) (T := TX1) (N := 14) hx hb ht inX1 hown hK hP 0 rfl rfl 0 (by decide) (ht _ tw_30) (fun _ h9 => h9) rfl dX1_readsOwner_25 ?_
        refine lv_iconst (v := (1 : Int32)) hx hb dX1_readsOwner_28 (by decide) ?_
        refine lv_iadd hx hb dX1_readsOwner_29 ?_
        refine va_put (D := D) (ci := 1) (v := .int ((s0_4.1 0) + (1 : Int32))) (ty := .int) (C := RX1) (T := TX1) (N := 14) hx hb ht inX1 tyX1 tyX1_ok nmX1 hown hK hP hD hS 0 rfl rfl 0 (by decide) (ht _ tw_30) (fun _ h9 => h9) rfl pf_I rfl rfl (Nat.le_of_ble_eq_true rfl) dX1_readsOwner_30 (fun H locs hP hD hS => ?_)
        obtain ⟨s0_5, es0_5⟩ : ∃ y : CS, y = sI s0_4 0 ((s0_4.1 0) + (1 : Int32)) := ⟨_, rfl⟩
        have hf := hf s0_5 es0_5
        have hP : va_P D classes (wD cI cZ q0 s0_5) H := by rw [es0_5]; exact hP
        have hD : va_D A (wD cI cZ q0 s0_5) := by rw [es0_5]; exact hD
        refine lv_aload_n hx hb dX1_readsOwner_33 rfl (lv_at hl 0 rfl) ?_
        refine lv_bipush (v := (68 : Int32)) hx hb dX1_readsOwner_34 (by decide) ?_
        refine va_put (D := D) (ci := 1) (v := .int (68 : Int32)) (ty := .int) (C := RX1) (T := TX1) (N := 14) hx hb ht inX1 tyX1 tyX1_ok nmX1 hown hK hP hD hS 0 rfl rfl 10 (by decide) (ht _ tw_50) (fun _ h9 => h9) rfl pf_I rfl rfl (Nat.le_of_ble_eq_true rfl) dX1_readsOwner_36 (fun H locs hP hD hS => ?_)
        obtain ⟨s0_6, es0_6⟩ : ∃ y : CS, y = sI s0_5 10 (68 : Int32) := ⟨_, rfl⟩
        have hf := hf s0_6 es0_6
        have hP : va_P D classes (wD cI cZ q0 s0_6) H := by rw [es0_6]; exact hP
        have hD : va_D A (wD cI cZ q0 s0_6) := by rw [es0_6]; exact hD
        refine lv_iconst (v := (1 : Int32)) hx hb dX1_readsOwner_39 (by decide) ?_
        exact W.zret (v := (1 : Int32)) hx hb hr rfl (fun t ht hW => ⟨⟨(1 : Int32), s0_6, rfl, hf, P_heap ht hP⟩, hS.F ht⟩) hS.2.2 dX1_readsOwner_40
      · have hf := hf.2 c_2
        refine lv_iconst (v := (0 : Int32)) hx hb dX1_readsOwner_9 (by decide) ?_
        exact W.zret (v := (0 : Int32)) hx hb hr rfl (fun t ht hW => ⟨⟨(0 : Int32), s0, rfl, hf, P_heap ht hP⟩, hS.F ht⟩) hS.2.2 dX1_readsOwner_10
  exact start s.heap [] hP hD hS
def B_X1_readsRow_108  (s0 : CS) (Q : Int32 → CS → Prop) : Prop := ∀ s0_1 : CS, s0_1 = sI s0 10 (68 : Int32) → Q (1 : Int32) s0_1
def wp_X1_readsRow (p0 : Int32) (s0 : CS) (Q : Int32 → CS → Prop) : Prop := ((¬ (s0.1 11) = 0 → wp_X1_hasOwner p0 s0 (fun r_3 => ((¬ r_3 = 0 → wp_X3_put (s0.1 12) p0 4 (s0.2.1 3) (fun f_5 => ∀ s0_6 : CS, s0_6 = sF s0 3 f_5 → ∀ s0_7 : CS, s0_7 = sI s0_6 8 ((s0_6.1 8) ||| ((1 : Int32) <<< ((s0_6.1 12) &&& 31))) → wp_X3_get p0 4 (s0_7.2.1 2) (fun r_8 => ((¬ r_8 = (1 : Int32) → B_X1_readsRow_108  s0_7 Q) ∧ (r_8 = (1 : Int32) → wp_X2_rowCells (s0_7.1 12) (fun r_10 => ∀ s0_11 : CS, s0_11 = sI s0_7 7 ((s0_7.1 7) ||| r_10) → B_X1_readsRow_108  s0_11 Q)))))) ∧ (r_3 = 0 → Q (0 : Int32) s0)))) ∧ ((s0.1 11) = 0 → ∀ s0_12 : CS, s0_12 = sI s0 11 (1 : Int32) → ∀ s0_13 : CS, s0_13 = sI s0_12 12 p0 → ((p0 < 0 → Q (0 : Int32) s0_13) ∧ (¬ p0 < 0 → (((4 : Int32) ≤ p0 → Q (0 : Int32) s0_13) ∧ (¬ (4 : Int32) ≤ p0 → ((¬ ((s0_13.1 8) &&& ((1 : Int32) <<< (p0 &&& 31))) = 0 → Q (0 : Int32) s0_13) ∧ (((s0_13.1 8) &&& ((1 : Int32) <<< (p0 &&& 31))) = 0 → Q (1 : Int32) s0_13))))))))
set_option maxHeartbeats 4000000 in
set_option maxRecDepth 100000 in
theorem c_X1_readsRow (l : Launch) (D : va_G) (cI cZ cW : ClassId) (q0 : Nat → Nat) (sz : Nat) (p0 : Int32) (s0 : CS) (Q : Int32 → CS → Prop) (hf : wp_X1_readsRow p0 s0 Q) : Met l yX1_readsRow (wsA yX1_readsRow cX1_readsRow 2 (some .boolean)) ({ frames := 1, cells := 0, slots := 0, locals := 22 }) (PW D cI cZ cW [.ref (q0 0), .int p0] (wD cI cZ q0 s0) sz) (va_Qi (fun (r : Int32) (u : CS) => Q r u) (fun u t => va_P D classes (wD cI cZ q0 u) t.heap) (va_A (wD cI cZ q0 s0) sz)) 0 0 (va_A (wD cI cZ q0 s0) sz) := by
  refine Met.ofW (cc := cX1_readsRow) (maxL := 2) (ret := (some .boolean)) (by decide) rfl ?_
  intro p e s m args below meth c s₁ B hml hv
  obtain ⟨rfl, hsz, hP, hK, hD0⟩ := hv
  have hx := B.exec
  have hb := B.bytes
  have hr := B.returns
  have hts := atoms_spec (ws := (wsA yX1_readsRow cX1_readsRow 2 (some .boolean))) B.pre
  have ht : ∀ w ∈ lw_g, w.before _ s = true := fun w h => hts w (List.mem_cons_of_mem _ h)
  have hown : s.vm.findClass RX1 = some m.cls := findClass_of_methodNamed B.named
  have hlocks := B.notSynchronized
  subst hsz
  have hD := hD0.self (sz := s.heap.size)
  generalize hAe : va_A (wD cI cZ q0 s0) s.heap.size = A at hD ⊢
  have hA : ∀ q : Nat, s.heap.size ≤ q → A q := fun q h => by rw [← hAe]; exact Or.inr h
  have hS : va_S A s.heap s.heap [] := va_S.rf
  have hl := lv_entry ([.ref (q0 0), .int p0]) (n := 2) (Nat.le_of_ble_eq_true rfl)
  rw [lg_entry_eq]
  generalize (lg_sl ([.ref (q0 0), .int p0]) ++ List.replicate (2 - (lg_sl ([.ref (q0 0), .int p0])).length) Slot.unset).toArray = ls at hl ⊢
  have hl : lv_has ls 2 [(0, .ref (q0 0)), (1, .int p0)] := hl
  unfold wp_X1_readsRow at hf
  have k_108 : ∀ (s0 : CS) (H : Heap) (locs : List Loc) (ls : Array Slot), B_X1_readsRow_108  s0 Q → va_P D classes (wD cI cZ q0 s0) H → va_D A (wD cI cZ q0 s0) → va_S A s.heap H locs → lv_has ls 2 [(0, .ref (q0 0))] → W p l e (headSpec (wsA yX1_readsRow cX1_readsRow 2 (some .boolean)) ({ frames := 1, cells := 0, slots := 0, locals := 22 })).room s m (#[.ref (q0 0), .int p0] : Array Value) below meth c H locs 0 0 (MQ below (va_Qi (fun (r : Int32) (u : CS) => Q r u) (fun u t => va_P D classes (wD cI cZ q0 u) t.heap) A) (#[.ref (q0 0), .int p0] : Array Value) s 0 0 A) (F0 m 108 ls []) := by
    intro s0 H locs ls hf hP hD hS hl
    unfold B_X1_readsRow_108 at hf
    refine lv_aload_n hx hb dX1_readsRow_108 rfl (lv_at hl 0 rfl) ?_
    refine lv_bipush (v := (68 : Int32)) hx hb dX1_readsRow_109 (by decide) ?_
    refine va_put (D := D) (ci := 1) (v := .int (68 : Int32)) (ty := .int) (C := RX1) (T := TX1) (N := 14) hx hb ht inX1 tyX1 tyX1_ok nmX1 hown hK hP hD hS 0 rfl rfl 10 (by decide) (ht _ tw_50) (fun _ h9 => h9) rfl pf_I rfl rfl (Nat.le_of_ble_eq_true rfl) dX1_readsRow_111 (fun H locs hP hD hS => ?_)
    obtain ⟨s0_1, es0_1⟩ : ∃ y : CS, y = sI s0 10 (68 : Int32) := ⟨_, rfl⟩
    have hf := hf s0_1 es0_1
    have hP : va_P D classes (wD cI cZ q0 s0_1) H := by rw [es0_1]; exact hP
    have hD : va_D A (wD cI cZ q0 s0_1) := by rw [es0_1]; exact hD
    refine lv_iconst (v := (1 : Int32)) hx hb dX1_readsRow_114 (by decide) ?_
    exact W.zret (v := (1 : Int32)) hx hb hr rfl (fun t ht hW => ⟨⟨(1 : Int32), s0_1, rfl, hf, P_heap ht hP⟩, hS.F ht⟩) hS.2.2 dX1_readsRow_115
  have start : ∀ (H : Heap) (locs : List Loc), va_P D classes (wD cI cZ q0 s0) H → va_D A (wD cI cZ q0 s0) → va_S A s.heap H locs → W p l e (headSpec (wsA yX1_readsRow cX1_readsRow 2 (some .boolean)) ({ frames := 1, cells := 0, slots := 0, locals := 22 })).room s m (#[.ref (q0 0), .int p0] : Array Value) below meth c H locs 0 0 (MQ below (va_Qi (fun (r : Int32) (u : CS) => Q r u) (fun u t => va_P D classes (wD cI cZ q0 u) t.heap) A) (#[.ref (q0 0), .int p0] : Array Value) s 0 0 A) (F0 m 0 ls []) := by
    intro H locs hP hD hS
    refine lv_aload_n hx hb dX1_readsRow_0 rfl (lv_at hl 0 rfl) ?_
    refine va_get (D := D) (ci := 1) (v := .int (s0.1 11)) (C := RX1) (T := TX1) (N := 14) hx hb ht inX1 hown hK hP 0 rfl rfl 11 (by decide) (ht _ tw_51) (fun _ h9 => h9) rfl dX1_readsRow_1 ?_
    refine lv_if_ne (tgt := 43) hx hb dX1_readsRow_4 (by decide) (fun c_2 => ?_) (fun c_2 => ?_)
    · have hf := hf.1 c_2
      refine lv_aload_n hx hb dX1_readsRow_43 rfl (lv_at hl 0 rfl) ?_
      refine lv_iload_n hx hb dX1_readsRow_44 rfl (lv_at hl 1 rfl) ?_
      have hPc : va_P D classes (wD cI cZ q0 s0) H := hP
      refine vp_callSi (W.runV (As := [.int p0]) (rest := []) ⟨hx, hb, hml, hown, hts⟩ (c_X1_hasOwner l D cI cZ cW q0 p0 s0 _ hf) ⟨callB_of 1 hts (gA tw_232) rfl rfl rfl (ht _ tw_2) (ht _ tw_229) hd_X1_hasOwner ⟨Nat.le_of_ble_eq_true rfl, Nat.le_of_ble_eq_true rfl⟩, ht _ tw_230, ht _ tw_231⟩ ⟨PR_blind, va_recv hK hP (ci := 1) (q0 := 0) rfl rfl, fun U hU hW => PR_mk hPc hK hU hW⟩ rfl rfl hl.1 rfl (lv_room (Nat.le_of_ble_eq_true rfl)) dX1_readsRow_45 ⟨Nat.zero_le _, Nat.zero_le _⟩) (fun r_3 hf => ?_)
      refine lv_if_ne (tgt := 53) hx hb dX1_readsRow_48 (by decide) (fun c_4 => ?_) (fun c_4 => ?_)
      · have hf := hf.1 c_4
        refine lv_aload_n hx hb dX1_readsRow_53 rfl (lv_at hl 0 rfl) ?_
        refine va_get (D := D) (ci := 1) (v := .ref (q0 2)) (C := RX1) (T := TX1) (N := 14) hx hb ht inX1 hown hK hP 0 rfl rfl 3 (by decide) (ht _ tw_37) (fun _ h9 => h9) rfl dX1_readsRow_54 ?_
        refine lv_aload_n hx hb dX1_readsRow_57 rfl (lv_at hl 0 rfl) ?_
        refine va_get (D := D) (ci := 1) (v := .int (s0.1 12)) (C := RX1) (T := TX1) (N := 14) hx hb ht inX1 hown hK hP 0 rfl rfl 12 (by decide) (ht _ tw_52) (fun _ h9 => h9) rfl dX1_readsRow_58 ?_
        refine lv_iload_n hx hb dX1_readsRow_61 rfl (lv_at hl 1 rfl) ?_
        have hPc : va_P D classes (wI cI (q0 2) 4 (s0.2.1 3)) H := hP.sub [2] rfl
        have hDc : va_D A (wI cI (q0 2) 4 (s0.2.1 3)) := hD.sub [2] (by decide) rfl
        have hFc := va_free (wc := (wI cI (q0 2) 4 (s0.2.1 3))) hD hS hA [2] rfl
        refine va_callv (va_runS (As := [.ref (q0 2), .int (s0.1 12), .int p0]) (rest := []) ⟨hx, hb, hml, hown, hts⟩ (c_X3_put l D cI cZ cW (q0 2) H.size (s0.1 12) p0 4 (s0.2.1 3) _ hf) ⟨callB_of 3 hts (gA tw_224) rfl rfl rfl (ht _ tw_8) (ht _ tw_222) hd_X3_put ⟨Nat.le_of_ble_eq_true rfl, Nat.le_of_ble_eq_true rfl⟩, ht _ tw_223⟩ ⟨PW_blind, fun U hU hW => PW_mk hPc hDc hK hU hW⟩ rfl rfl hl.1 rfl (lv_room (Nat.le_of_ble_eq_true rfl)) dX1_readsRow_62 ⟨Nat.zero_le _, Nat.zero_le _⟩) hS (fun q _ h => hFc q h) hFc (fun u t H1 locs ht1 hvm hf hB hz1 hk1 hS => ?_)
        obtain ⟨f_5, rfl⟩ : ∃ z, z = u := ⟨_, rfl⟩
        rw [ht1] at hB
        obtain ⟨hP, hD⟩ := cj [2] (wI cI (q0 2) 4 (s0.2.1 3)) (wI cI (q0 2) 4 f_5) hP hD rfl rfl hk1 hB
        generalize H1 = H at hP hS ⊢
        obtain ⟨s0_6, es0_6⟩ : ∃ y : CS, y = sF s0 3 f_5 := ⟨_, rfl⟩
        have hf := hf s0_6 es0_6
        have hP : va_P D classes (wD cI cZ q0 s0_6) H := by rw [es0_6]; exact hP
        have hD : va_D A (wD cI cZ q0 s0_6) := by rw [es0_6]; exact hD
        refine lv_aload_n hx hb dX1_readsRow_65 rfl (lv_at hl 0 rfl) ?_
        refine lv_dup hx hb dX1_readsRow_66 rfl ?_
        refine va_get (D := D) (ci := 1) (v := .int (s0_6.1 8)) (C := RX1) (T := TX1) (N := 14) hx hb ht inX1 hown hK hP 0 rfl rfl 8 (by decide) (ht _ tw_48) (fun _ h9 => h9) rfl dX1_readsRow_67 ?_
        refine lv_iconst (v := (1 : Int32)) hx hb dX1_readsRow_70 (by decide) ?_
        refine lv_aload_n hx hb dX1_readsRow_71 rfl (lv_at hl 0 rfl) ?_
        refine va_get (D := D) (ci := 1) (v := .int (s0_6.1 12)) (C := RX1) (T := TX1) (N := 14) hx hb ht inX1 hown hK hP 0 rfl rfl 12 (by decide) (ht _ tw_52) (fun _ h9 => h9) rfl dX1_readsRow_72 ?_
        refine lv_ishl hx hb dX1_readsRow_75 ?_
        refine lv_ior hx hb dX1_readsRow_76 ?_
        refine va_put (D := D) (ci := 1) (v := .int ((s0_6.1 8) ||| ((1 : Int32) <<< ((s0_6.1 12) &&& 31)))) (ty := .int) (C := RX1) (T := TX1) (N := 14) hx hb ht inX1 tyX1 tyX1_ok nmX1 hown hK hP hD hS 0 rfl rfl 8 (by decide) (ht _ tw_48) (fun _ h9 => h9) rfl pf_I rfl rfl (Nat.le_of_ble_eq_true rfl) dX1_readsRow_77 (fun H locs hP hD hS => ?_)
        obtain ⟨s0_7, es0_7⟩ : ∃ y : CS, y = sI s0_6 8 ((s0_6.1 8) ||| ((1 : Int32) <<< ((s0_6.1 12) &&& 31))) := ⟨_, rfl⟩
        have hf := hf s0_7 es0_7
        have hP : va_P D classes (wD cI cZ q0 s0_7) H := by rw [es0_7]; exact hP
        have hD : va_D A (wD cI cZ q0 s0_7) := by rw [es0_7]; exact hD
        refine lv_aload_n hx hb dX1_readsRow_80 rfl (lv_at hl 0 rfl) ?_
        refine va_get (D := D) (ci := 1) (v := .ref (q0 1)) (C := RX1) (T := TX1) (N := 14) hx hb ht inX1 hown hK hP 0 rfl rfl 2 (by decide) (ht _ tw_34) (fun _ h9 => h9) rfl dX1_readsRow_81 ?_
        refine lv_iload_n hx hb dX1_readsRow_84 rfl (lv_at hl 1 rfl) ?_
        have hPc : va_P D classes (wI cI (q0 1) 4 (s0_7.2.1 2)) H := hP.sub [1] rfl
        refine vp_callSi (W.runS (As := [.ref (q0 1), .int p0]) (rest := []) ⟨hx, hb, hml, hown, hts⟩ (c_X3_get l D cI cZ cW (q0 1) p0 4 (s0_7.2.1 2) _ hf) ⟨callB_of 2 hts (gA tw_235) rfl rfl rfl (ht _ tw_8) (ht _ tw_233) hd_X3_get ⟨Nat.le_of_ble_eq_true rfl, Nat.le_of_ble_eq_true rfl⟩, ht _ tw_234⟩ ⟨PR_blind, fun U hU hW => PR_mk hPc hK hU hW⟩ rfl rfl hl.1 rfl (lv_room (Nat.le_of_ble_eq_true rfl)) dX1_readsRow_85 ⟨Nat.zero_le _, Nat.zero_le _⟩) (fun r_8 hf => ?_)
        refine lv_iconst (v := (1 : Int32)) hx hb dX1_readsRow_88 (by decide) ?_
        refine lv_icmp_ne (tgt := 108) hx hb dX1_readsRow_89 (by decide) (fun c_9 => ?_) (fun c_9 => ?_)
        · have hf := hf.1 c_9
          exact k_108 s0_7 H locs ls hf hP hD hS (lv_sub hl [0] rfl)
        · have hf := hf.2 c_9
          refine lv_aload_n hx hb dX1_readsRow_92 rfl (lv_at hl 0 rfl) ?_
          refine lv_dup hx hb dX1_readsRow_93 rfl ?_
          refine va_get (D := D) (ci := 1) (v := .int (s0_7.1 7)) (C := RX1) (T := TX1) (N := 14) hx hb ht inX1 hown hK hP 0 rfl rfl 7 (by decide) (ht _ tw_46) (fun _ h9 => h9) rfl dX1_readsRow_94 ?_
          refine lv_aload_n hx hb dX1_readsRow_97 rfl (lv_at hl 0 rfl) ?_
          refine va_get (D := D) (ci := 1) (v := .int (s0_7.1 12)) (C := RX1) (T := TX1) (N := 14) hx hb ht inX1 hown hK hP 0 rfl rfl 12 (by decide) (ht _ tw_52) (fun _ h9 => h9) rfl dX1_readsRow_98 ?_
          have hPc : va_P D classes ([] : va_W) H := hP.sub [] rfl
          refine vp_callSi (W.runS (As := [.int (s0_7.1 12)]) (rest := [.int (s0_7.1 7), .ref (q0 0)]) ⟨hx, hb, hml, hown, hts⟩ (c_X2_rowCells l D cI cZ cW  (s0_7.1 12) _ hf) ⟨callB_of 1 hts (gA tw_238) rfl rfl rfl (ht _ tw_9) (ht _ tw_236) hd_X2_rowCells ⟨Nat.le_of_ble_eq_true rfl, Nat.le_of_ble_eq_true rfl⟩, ht _ tw_237⟩ ⟨PR_blind, fun U hU hW => PR_mk hPc hK hU hW⟩ rfl rfl hl.1 rfl (lv_room (Nat.le_of_ble_eq_true rfl)) dX1_readsRow_101 ⟨Nat.zero_le _, Nat.zero_le _⟩) (fun r_10 hf => ?_)
          refine lv_ior hx hb dX1_readsRow_104 ?_
          refine va_put (D := D) (ci := 1) (v := .int ((s0_7.1 7) ||| r_10)) (ty := .int) (C := RX1) (T := TX1) (N := 14) hx hb ht inX1 tyX1 tyX1_ok nmX1 hown hK hP hD hS 0 rfl rfl 7 (by decide) (ht _ tw_46) (fun _ h9 => h9) rfl pf_I rfl rfl (Nat.le_of_ble_eq_true rfl) dX1_readsRow_105 (fun H locs hP hD hS => ?_)
          obtain ⟨s0_11, es0_11⟩ : ∃ y : CS, y = sI s0_7 7 ((s0_7.1 7) ||| r_10) := ⟨_, rfl⟩
          have hf := hf s0_11 es0_11
          have hP : va_P D classes (wD cI cZ q0 s0_11) H := by rw [es0_11]; exact hP
          have hD : va_D A (wD cI cZ q0 s0_11) := by rw [es0_11]; exact hD
          exact k_108 s0_11 H locs ls hf hP hD hS (lv_sub hl [0] rfl)
      · have hf := hf.2 c_4
        refine lv_iconst (v := (0 : Int32)) hx hb dX1_readsRow_51 (by decide) ?_
        exact W.zret (v := (0 : Int32)) hx hb hr rfl (fun t ht hW => ⟨⟨(0 : Int32), s0, rfl, hf, P_heap ht hP⟩, hS.F ht⟩) hS.2.2 dX1_readsRow_52
    · have hf := hf.2 c_2
      refine lv_aload_n hx hb dX1_readsRow_7 rfl (lv_at hl 0 rfl) ?_
      refine lv_iconst (v := (1 : Int32)) hx hb dX1_readsRow_8 (by decide) ?_
      refine va_put (D := D) (ci := 1) (v := .int (1 : Int32)) (ty := .int) (C := RX1) (T := TX1) (N := 14) hx hb ht inX1 tyX1 tyX1_ok nmX1 hown hK hP hD hS 0 rfl rfl 11 (by decide) (ht _ tw_51) (fun _ h9 => h9) rfl pf_I rfl rfl (Nat.le_of_ble_eq_true rfl) dX1_readsRow_9 (fun H locs hP hD hS => ?_)
      obtain ⟨s0_12, es0_12⟩ : ∃ y : CS, y = sI s0 11 (1 : Int32) := ⟨_, rfl⟩
      have hf := hf s0_12 es0_12
      have hP : va_P D classes (wD cI cZ q0 s0_12) H := by rw [es0_12]; exact hP
      have hD : va_D A (wD cI cZ q0 s0_12) := by rw [es0_12]; exact hD
      refine lv_aload_n hx hb dX1_readsRow_12 rfl (lv_at hl 0 rfl) ?_
      refine lv_iload_n hx hb dX1_readsRow_13 rfl (lv_at hl 1 rfl) ?_
      refine va_put (D := D) (ci := 1) (v := .int p0) (ty := .int) (C := RX1) (T := TX1) (N := 14) hx hb ht inX1 tyX1 tyX1_ok nmX1 hown hK hP hD hS 0 rfl rfl 12 (by decide) (ht _ tw_52) (fun _ h9 => h9) rfl pf_I rfl rfl (Nat.le_of_ble_eq_true rfl) dX1_readsRow_14 (fun H locs hP hD hS => ?_)
      obtain ⟨s0_13, es0_13⟩ : ∃ y : CS, y = sI s0_12 12 p0 := ⟨_, rfl⟩
      have hf := hf s0_13 es0_13
      have hP : va_P D classes (wD cI cZ q0 s0_13) H := by rw [es0_13]; exact hP
      have hD : va_D A (wD cI cZ q0 s0_13) := by rw [es0_13]; exact hD
      refine lv_iload_n hx hb dX1_readsRow_17 rfl (lv_at hl 1 rfl) ?_
      refine lv_if_lt (tgt := 41) hx hb dX1_readsRow_18 (by decide) (fun c_14 => ?_) (fun c_14 => ?_)
      · have hf := hf.1 c_14
        refine lv_iconst (v := (0 : Int32)) hx hb dX1_readsRow_41 (by decide) ?_
        exact W.zret (v := (0 : Int32)) hx hb hr rfl (fun t ht hW => ⟨⟨(0 : Int32), s0_13, rfl, hf, P_heap ht hP⟩, hS.F ht⟩) hS.2.2 dX1_readsRow_42
      · have hf := hf.2 c_14
        refine lv_iload_n hx hb dX1_readsRow_21 rfl (lv_at hl 1 rfl) ?_
        refine lv_iconst (v := (4 : Int32)) hx hb dX1_readsRow_22 (by decide) ?_
        refine lv_icmp_ge (tgt := 41) hx hb dX1_readsRow_23 (by decide) (fun c_15 => ?_) (fun c_15 => ?_)
        · have hf := hf.1 c_15
          refine lv_iconst (v := (0 : Int32)) hx hb dX1_readsRow_41 (by decide) ?_
          exact W.zret (v := (0 : Int32)) hx hb hr rfl (fun t ht hW => ⟨⟨(0 : Int32), s0_13, rfl, hf, P_heap ht hP⟩, hS.F ht⟩) hS.2.2 dX1_readsRow_42
        · have hf := hf.2 c_15
          refine lv_aload_n hx hb dX1_readsRow_26 rfl (lv_at hl 0 rfl) ?_
          refine va_get (D := D) (ci := 1) (v := .int (s0_13.1 8)) (C := RX1) (T := TX1) (N := 14) hx hb ht inX1 hown hK hP 0 rfl rfl 8 (by decide) (ht _ tw_48) (fun _ h9 => h9) rfl dX1_readsRow_27 ?_
          refine lv_iconst (v := (1 : Int32)) hx hb dX1_readsRow_30 (by decide) ?_
          refine lv_iload_n hx hb dX1_readsRow_31 rfl (lv_at hl 1 rfl) ?_
          refine lv_ishl hx hb dX1_readsRow_32 ?_
          refine lv_iand hx hb dX1_readsRow_33 ?_
          refine lv_if_ne (tgt := 41) hx hb dX1_readsRow_34 (by decide) (fun c_16 => ?_) (fun c_16 => ?_)
          · have hf := hf.1 c_16
            refine lv_iconst (v := (0 : Int32)) hx hb dX1_readsRow_41 (by decide) ?_
            exact W.zret (v := (0 : Int32)) hx hb hr rfl (fun t ht hW => ⟨⟨(0 : Int32), s0_13, rfl, hf, P_heap ht hP⟩, hS.F ht⟩) hS.2.2 dX1_readsRow_42
          · have hf := hf.2 c_16
            refine lv_iconst (v := (1 : Int32)) hx hb dX1_readsRow_37 (by decide) ?_
            refine lv_goto (tgt := 42) hx hb dX1_readsRow_38 (by decide) ?_
            exact W.zret (v := (1 : Int32)) hx hb hr rfl (fun t ht hW => ⟨⟨(1 : Int32), s0_13, rfl, hf, P_heap ht hP⟩, hS.F ht⟩) hS.2.2 dX1_readsRow_42
  exact start s.heap [] hP hD hS
def wp_X1_readsHole (p0 : Int32) (s0 : CS) (Q : Int32 → CS → Prop) : Prop := ∀ x2_1 : Int32, x2_1 = (p0 - (48 : Int32)) → (((s0.1 11) = (0 : Int32) → ∀ s0_3 : CS, s0_3 = sI s0 11 (1 : Int32) → ∀ s0_4 : CS, s0_4 = sI s0_3 12 (p0 - (97 : Int32)) → wp_X2_hasCell (s0_4.1 12) (fun r_5 => ((r_5 = 0 → Q (0 : Int32) s0_4) ∧ (¬ r_5 = 0 → wp_X2_bitOf (s0_4.1 12) (fun r_7 => ((¬ ((s0_4.1 9) &&& r_7) = 0 → Q (0 : Int32) s0_4) ∧ (((s0_4.1 9) &&& r_7) = 0 → Q (1 : Int32) s0_4))))))) ∧ (¬ (s0.1 11) = (0 : Int32) → (((s0.1 11) = (1 : Int32) → ∀ s0_10 : CS, s0_10 = sI s0 11 (2 : Int32) → ∀ s0_11 : CS, s0_11 = sI s0_10 13 x2_1 → wp_X1_hasOwner x2_1 s0_11 (fun r_12 => narrow .boolean (.int r_12) = .int r_12 ∧ Q r_12 s0_11)) ∧ (¬ (s0.1 11) = (1 : Int32) → ((x2_1 < 0 → Q (0 : Int32) s0) ∧ (¬ x2_1 < 0 → ((x2_1 < (4 : Int32) → wp_X1_addHole (s0.1 12) (s0.1 13) x2_1 s0 (fun s0_15 => ∀ s0_16 : CS, s0_16 = sI s0_15 10 (68 : Int32) → Q (1 : Int32) s0_16)) ∧ (¬ x2_1 < (4 : Int32) → Q (0 : Int32) s0))))))))
set_option maxHeartbeats 4000000 in
set_option maxRecDepth 100000 in
theorem c_X1_readsHole (l : Launch) (D : va_G) (cI cZ cW : ClassId) (q0 : Nat → Nat) (sz : Nat) (p0 : Int32) (s0 : CS) (Q : Int32 → CS → Prop) (hf : wp_X1_readsHole p0 s0 Q) : Met l yX1_readsHole (wsA yX1_readsHole cX1_readsHole 3 (some .boolean)) ({ frames := 3, cells := 0, slots := 0, locals := 63 }) (PW D cI cZ cW [.ref (q0 0), .int p0] (wD cI cZ q0 s0) sz) (va_Qi (fun (r : Int32) (u : CS) => Q r u) (fun u t => va_P D classes (wD cI cZ q0 u) t.heap) (va_A (wD cI cZ q0 s0) sz)) 0 0 (va_A (wD cI cZ q0 s0) sz) := by
  refine Met.ofW (cc := cX1_readsHole) (maxL := 3) (ret := (some .boolean)) (by decide) rfl ?_
  intro p e s m args below meth c s₁ B hml hv
  obtain ⟨rfl, hsz, hP, hK, hD0⟩ := hv
  have hx := B.exec
  have hb := B.bytes
  have hr := B.returns
  have hts := atoms_spec (ws := (wsA yX1_readsHole cX1_readsHole 3 (some .boolean))) B.pre
  have ht : ∀ w ∈ lw_g, w.before _ s = true := fun w h => hts w (List.mem_cons_of_mem _ h)
  have hown : s.vm.findClass RX1 = some m.cls := findClass_of_methodNamed B.named
  have hlocks := B.notSynchronized
  subst hsz
  have hD := hD0.self (sz := s.heap.size)
  generalize hAe : va_A (wD cI cZ q0 s0) s.heap.size = A at hD ⊢
  have hA : ∀ q : Nat, s.heap.size ≤ q → A q := fun q h => by rw [← hAe]; exact Or.inr h
  have hS : va_S A s.heap s.heap [] := va_S.rf
  have hl := lv_entry ([.ref (q0 0), .int p0]) (n := 3) (Nat.le_of_ble_eq_true rfl)
  rw [lg_entry_eq]
  generalize (lg_sl ([.ref (q0 0), .int p0]) ++ List.replicate (3 - (lg_sl ([.ref (q0 0), .int p0])).length) Slot.unset).toArray = ls at hl ⊢
  have hl : lv_has ls 3 [(0, .ref (q0 0)), (1, .int p0)] := hl
  unfold wp_X1_readsHole at hf
  have start : ∀ (H : Heap) (locs : List Loc), va_P D classes (wD cI cZ q0 s0) H → va_D A (wD cI cZ q0 s0) → va_S A s.heap H locs → W p l e (headSpec (wsA yX1_readsHole cX1_readsHole 3 (some .boolean)) ({ frames := 3, cells := 0, slots := 0, locals := 63 })).room s m (#[.ref (q0 0), .int p0] : Array Value) below meth c H locs 0 0 (MQ below (va_Qi (fun (r : Int32) (u : CS) => Q r u) (fun u t => va_P D classes (wD cI cZ q0 u) t.heap) A) (#[.ref (q0 0), .int p0] : Array Value) s 0 0 A) (F0 m 0 ls []) := by
    intro H locs hP hD hS
    refine lv_iload_n hx hb dX1_readsHole_0 rfl (lv_at hl 1 rfl) ?_
    refine lv_bipush (v := (48 : Int32)) hx hb dX1_readsHole_1 (by decide) ?_
    refine lv_isub hx hb dX1_readsHole_3 ?_
    refine lv_topi (fun x2_1 ex2_1 => ?_)
    have hf := hf x2_1 ex2_1
    refine lv_istore_n (lv' := [(2, .int x2_1), (0, .ref (q0 0)), (1, .int p0)]) hx hb dX1_readsHole_4 rfl hl (by decide) rfl (fun ls hl => ?_)
    refine lv_aload_n hx hb dX1_readsHole_5 rfl (lv_at hl 1 rfl) ?_
    refine va_get (D := D) (ci := 1) (v := .int (s0.1 11)) (C := RX1) (T := TX1) (N := 14) hx hb ht inX1 hown hK hP 0 rfl rfl 11 (by decide) (ht _ tw_51) (fun _ h9 => h9) rfl dX1_readsHole_6 ?_
    by_cases c_2 : (s0.1 11) = (0 : Int32)
    · have hf := hf.1 c_2
      refine lv_lookup (off := 27) (tgt := 36) hx hb dX1_readsHole_9 (by decide) (by rw [c_2]; first | done | rfl) (by decide) ?_
      refine lv_aload_n hx hb dX1_readsHole_36 rfl (lv_at hl 1 rfl) ?_
      refine lv_iconst (v := (1 : Int32)) hx hb dX1_readsHole_37 (by decide) ?_
      refine va_put (D := D) (ci := 1) (v := .int (1 : Int32)) (ty := .int) (C := RX1) (T := TX1) (N := 14) hx hb ht inX1 tyX1 tyX1_ok nmX1 hown hK hP hD hS 0 rfl rfl 11 (by decide) (ht _ tw_51) (fun _ h9 => h9) rfl pf_I rfl rfl (Nat.le_of_ble_eq_true rfl) dX1_readsHole_38 (fun H locs hP hD hS => ?_)
      obtain ⟨s0_3, es0_3⟩ : ∃ y : CS, y = sI s0 11 (1 : Int32) := ⟨_, rfl⟩
      have hf := hf s0_3 es0_3
      have hP : va_P D classes (wD cI cZ q0 s0_3) H := by rw [es0_3]; exact hP
      have hD : va_D A (wD cI cZ q0 s0_3) := by rw [es0_3]; exact hD
      refine lv_aload_n hx hb dX1_readsHole_41 rfl (lv_at hl 1 rfl) ?_
      refine lv_iload_n hx hb dX1_readsHole_42 rfl (lv_at hl 2 rfl) ?_
      refine lv_bipush (v := (97 : Int32)) hx hb dX1_readsHole_43 (by decide) ?_
      refine lv_isub hx hb dX1_readsHole_45 ?_
      refine va_put (D := D) (ci := 1) (v := .int (p0 - (97 : Int32))) (ty := .int) (C := RX1) (T := TX1) (N := 14) hx hb ht inX1 tyX1 tyX1_ok nmX1 hown hK hP hD hS 0 rfl rfl 12 (by decide) (ht _ tw_52) (fun _ h9 => h9) rfl pf_I rfl rfl (Nat.le_of_ble_eq_true rfl) dX1_readsHole_46 (fun H locs hP hD hS => ?_)
      obtain ⟨s0_4, es0_4⟩ : ∃ y : CS, y = sI s0_3 12 (p0 - (97 : Int32)) := ⟨_, rfl⟩
      have hf := hf s0_4 es0_4
      have hP : va_P D classes (wD cI cZ q0 s0_4) H := by rw [es0_4]; exact hP
      have hD : va_D A (wD cI cZ q0 s0_4) := by rw [es0_4]; exact hD
      refine lv_aload_n hx hb dX1_readsHole_49 rfl (lv_at hl 1 rfl) ?_
      refine va_get (D := D) (ci := 1) (v := .int (s0_4.1 12)) (C := RX1) (T := TX1) (N := 14) hx hb ht inX1 hown hK hP 0 rfl rfl 12 (by decide) (ht _ tw_52) (fun _ h9 => h9) rfl dX1_readsHole_50 ?_
      have hPc : va_P D classes ([] : va_W) H := hP.sub [] rfl
      refine vp_callSi (W.runS (As := [.int (s0_4.1 12)]) (rest := []) ⟨hx, hb, hml, hown, hts⟩ (c_X2_hasCell l D cI cZ cW  (s0_4.1 12) _ hf) ⟨callB_of 1 hts (gA tw_245) rfl rfl rfl (ht _ tw_9) (ht _ tw_243) hd_X2_hasCell ⟨Nat.le_of_ble_eq_true rfl, Nat.le_of_ble_eq_true rfl⟩, ht _ tw_244⟩ ⟨PR_blind, fun U hU hW => PR_mk hPc hK hU hW⟩ rfl rfl hl.1 rfl (lv_room (Nat.le_of_ble_eq_true rfl)) dX1_readsHole_53 ⟨Nat.zero_le _, Nat.zero_le _⟩) (fun r_5 hf => ?_)
      refine lv_if_eq (tgt := 78) hx hb dX1_readsHole_56 (by decide) (fun c_6 => ?_) (fun c_6 => ?_)
      · have hf := hf.1 c_6
        refine lv_iconst (v := (0 : Int32)) hx hb dX1_readsHole_78 (by decide) ?_
        exact W.zret (v := (0 : Int32)) hx hb hr rfl (fun t ht hW => ⟨⟨(0 : Int32), s0_4, rfl, hf, P_heap ht hP⟩, hS.F ht⟩) hS.2.2 dX1_readsHole_79
      · have hf := hf.2 c_6
        refine lv_aload_n hx hb dX1_readsHole_59 rfl (lv_at hl 1 rfl) ?_
        refine va_get (D := D) (ci := 1) (v := .int (s0_4.1 9)) (C := RX1) (T := TX1) (N := 14) hx hb ht inX1 hown hK hP 0 rfl rfl 9 (by decide) (ht _ tw_49) (fun _ h9 => h9) rfl dX1_readsHole_60 ?_
        refine lv_aload_n hx hb dX1_readsHole_63 rfl (lv_at hl 1 rfl) ?_
        refine va_get (D := D) (ci := 1) (v := .int (s0_4.1 12)) (C := RX1) (T := TX1) (N := 14) hx hb ht inX1 hown hK hP 0 rfl rfl 12 (by decide) (ht _ tw_52) (fun _ h9 => h9) rfl dX1_readsHole_64 ?_
        have hPc : va_P D classes ([] : va_W) H := hP.sub [] rfl
        refine vp_callSi (W.runS (As := [.int (s0_4.1 12)]) (rest := [.int (s0_4.1 9)]) ⟨hx, hb, hml, hown, hts⟩ (c_X2_bitOf l D cI cZ cW  (s0_4.1 12) _ hf) ⟨callB_of 1 hts (gA tw_248) rfl rfl rfl (ht _ tw_9) (ht _ tw_246) hd_X2_bitOf ⟨Nat.le_of_ble_eq_true rfl, Nat.le_of_ble_eq_true rfl⟩, ht _ tw_247⟩ ⟨PR_blind, fun U hU hW => PR_mk hPc hK hU hW⟩ rfl rfl hl.1 rfl (lv_room (Nat.le_of_ble_eq_true rfl)) dX1_readsHole_67 ⟨Nat.zero_le _, Nat.zero_le _⟩) (fun r_7 hf => ?_)
        refine lv_iand hx hb dX1_readsHole_70 ?_
        refine lv_if_ne (tgt := 78) hx hb dX1_readsHole_71 (by decide) (fun c_8 => ?_) (fun c_8 => ?_)
        · have hf := hf.1 c_8
          refine lv_iconst (v := (0 : Int32)) hx hb dX1_readsHole_78 (by decide) ?_
          exact W.zret (v := (0 : Int32)) hx hb hr rfl (fun t ht hW => ⟨⟨(0 : Int32), s0_4, rfl, hf, P_heap ht hP⟩, hS.F ht⟩) hS.2.2 dX1_readsHole_79
        · have hf := hf.2 c_8
          refine lv_iconst (v := (1 : Int32)) hx hb dX1_readsHole_74 (by decide) ?_
          refine lv_goto (tgt := 79) hx hb dX1_readsHole_75 (by decide) ?_
          exact W.zret (v := (1 : Int32)) hx hb hr rfl (fun t ht hW => ⟨⟨(1 : Int32), s0_4, rfl, hf, P_heap ht hP⟩, hS.F ht⟩) hS.2.2 dX1_readsHole_79
    · have hf := hf.2 c_2
      by_cases c_9 : (s0.1 11) = (1 : Int32)
      · have hf := hf.1 c_9
        refine lv_lookup (off := 71) (tgt := 80) hx hb dX1_readsHole_9 (by decide) (by rw [c_9]; first | done | rfl) (by decide) ?_
        refine lv_aload_n hx hb dX1_readsHole_80 rfl (lv_at hl 1 rfl) ?_
        refine lv_iconst (v := (2 : Int32)) hx hb dX1_readsHole_81 (by decide) ?_
        refine va_put (D := D) (ci := 1) (v := .int (2 : Int32)) (ty := .int) (C := RX1) (T := TX1) (N := 14) hx hb ht inX1 tyX1 tyX1_ok nmX1 hown hK hP hD hS 0 rfl rfl 11 (by decide) (ht _ tw_51) (fun _ h9 => h9) rfl pf_I rfl rfl (Nat.le_of_ble_eq_true rfl) dX1_readsHole_82 (fun H locs hP hD hS => ?_)
        obtain ⟨s0_10, es0_10⟩ : ∃ y : CS, y = sI s0 11 (2 : Int32) := ⟨_, rfl⟩
        have hf := hf s0_10 es0_10
        have hP : va_P D classes (wD cI cZ q0 s0_10) H := by rw [es0_10]; exact hP
        have hD : va_D A (wD cI cZ q0 s0_10) := by rw [es0_10]; exact hD
        refine lv_aload_n hx hb dX1_readsHole_85 rfl (lv_at hl 1 rfl) ?_
        refine lv_iload_n hx hb dX1_readsHole_86 rfl (lv_at hl 0 rfl) ?_
        refine va_put (D := D) (ci := 1) (v := .int x2_1) (ty := .int) (C := RX1) (T := TX1) (N := 14) hx hb ht inX1 tyX1 tyX1_ok nmX1 hown hK hP hD hS 0 rfl rfl 13 (by decide) (ht _ tw_53) (fun _ h9 => h9) rfl pf_I rfl rfl (Nat.le_of_ble_eq_true rfl) dX1_readsHole_87 (fun H locs hP hD hS => ?_)
        obtain ⟨s0_11, es0_11⟩ : ∃ y : CS, y = sI s0_10 13 x2_1 := ⟨_, rfl⟩
        have hf := hf s0_11 es0_11
        have hP : va_P D classes (wD cI cZ q0 s0_11) H := by rw [es0_11]; exact hP
        have hD : va_D A (wD cI cZ q0 s0_11) := by rw [es0_11]; exact hD
        refine lv_aload_n hx hb dX1_readsHole_90 rfl (lv_at hl 1 rfl) ?_
        refine lv_iload_n hx hb dX1_readsHole_91 rfl (lv_at hl 0 rfl) ?_
        have hPc : va_P D classes (wD cI cZ q0 s0_11) H := hP
        refine vp_callSi (W.runV (As := [.int x2_1]) (rest := []) ⟨hx, hb, hml, hown, hts⟩ (c_X1_hasOwner l D cI cZ cW q0 x2_1 s0_11 _ hf) ⟨callB_of 1 hts (gA tw_232) rfl rfl rfl (ht _ tw_2) (ht _ tw_229) hd_X1_hasOwner ⟨Nat.le_of_ble_eq_true rfl, Nat.le_of_ble_eq_true rfl⟩, ht _ tw_230, ht _ tw_231⟩ ⟨PR_blind, va_recv hK hP (ci := 1) (q0 := 0) rfl rfl, fun U hU hW => PR_mk hPc hK hU hW⟩ rfl rfl hl.1 rfl (lv_room (Nat.le_of_ble_eq_true rfl)) dX1_readsHole_92 ⟨Nat.zero_le _, Nat.zero_le _⟩) (fun r_12 hf => ?_)
        obtain ⟨hn, hf⟩ := hf
        exact W.zret (v := r_12) hx hb hr hn (fun t ht hW => ⟨⟨r_12, s0_11, rfl, hf, P_heap ht hP⟩, hS.F ht⟩) hS.2.2 dX1_readsHole_95
      · have hf := hf.2 c_9
        refine lv_lookup (off := 87) (tgt := 96) hx hb dX1_readsHole_9 (by decide) (by show Op.lookupswitch.offset _ _ _ = _; rw [lv_osw c_2 (a := 0) (by decide), lv_osw c_9 (a := 1) (by decide)]; first | done | rfl) (by decide) ?_
        refine lv_iload_n hx hb dX1_readsHole_96 rfl (lv_at hl 0 rfl) ?_
        refine lv_if_lt (tgt := 105) hx hb dX1_readsHole_97 (by decide) (fun c_13 => ?_) (fun c_13 => ?_)
        · have hf := hf.1 c_13
          refine lv_iconst (v := (0 : Int32)) hx hb dX1_readsHole_105 (by decide) ?_
          exact W.zret (v := (0 : Int32)) hx hb hr rfl (fun t ht hW => ⟨⟨(0 : Int32), s0, rfl, hf, P_heap ht hP⟩, hS.F ht⟩) hS.2.2 dX1_readsHole_106
        · have hf := hf.2 c_13
          refine lv_iload_n hx hb dX1_readsHole_100 rfl (lv_at hl 0 rfl) ?_
          refine lv_iconst (v := (4 : Int32)) hx hb dX1_readsHole_101 (by decide) ?_
          refine lv_icmp_lt (tgt := 107) hx hb dX1_readsHole_102 (by decide) (fun c_14 => ?_) (fun c_14 => ?_)
          · have hf := hf.1 c_14
            refine lv_aload_n hx hb dX1_readsHole_107 rfl (lv_at hl 1 rfl) ?_
            refine lv_aload_n hx hb dX1_readsHole_108 rfl (lv_at hl 1 rfl) ?_
            refine va_get (D := D) (ci := 1) (v := .int (s0.1 12)) (C := RX1) (T := TX1) (N := 14) hx hb ht inX1 hown hK hP 0 rfl rfl 12 (by decide) (ht _ tw_52) (fun _ h9 => h9) rfl dX1_readsHole_109 ?_
            refine lv_aload_n hx hb dX1_readsHole_112 rfl (lv_at hl 1 rfl) ?_
            refine va_get (D := D) (ci := 1) (v := .int (s0.1 13)) (C := RX1) (T := TX1) (N := 14) hx hb ht inX1 hown hK hP 0 rfl rfl 13 (by decide) (ht _ tw_53) (fun _ h9 => h9) rfl dX1_readsHole_113 ?_
            refine lv_iload_n hx hb dX1_readsHole_116 rfl (lv_at hl 0 rfl) ?_
            have hPc : va_P D classes (wD cI cZ q0 s0) H := hP
            have hDc : va_D A (wD cI cZ q0 s0) := hD
            have hFc := va_free (wc := (wD cI cZ q0 s0)) hD hS hA [0, 1, 2, 3, 4, 5] rfl
            refine va_callv (va_runV (As := [.int (s0.1 12), .int (s0.1 13), .int x2_1]) (rest := []) ⟨hx, hb, hml, hown, hts⟩ (c_X1_addHole l D cI cZ cW q0 H.size (s0.1 12) (s0.1 13) x2_1 s0 _ hf) ⟨callB_of 3 hts (gA tw_253) rfl rfl rfl (ht _ tw_2) (ht _ tw_250) hd_X1_addHole ⟨Nat.le_of_ble_eq_true rfl, Nat.le_of_ble_eq_true rfl⟩, ht _ tw_252, ht _ twp_6⟩ ⟨PW_blind, va_recv hK hP (ci := 1) (q0 := 0) rfl rfl, fun U hU hW => PW_mk hPc hDc hK hU hW⟩ rfl rfl hl.1 rfl (lv_room (Nat.le_of_ble_eq_true rfl)) dX1_readsHole_117 ⟨Nat.zero_le _, Nat.zero_le _⟩) hS (fun q _ h => hFc q h) hFc (fun u t H1 locs ht1 hvm hf hB hz1 hk1 hS => ?_)
            obtain ⟨s0_15, rfl⟩ : ∃ z, z = u := ⟨_, rfl⟩
            rw [ht1] at hB
            obtain ⟨hP, hD⟩ := cj [0, 1, 2, 3, 4, 5] (wD cI cZ q0 s0) (wD cI cZ q0 s0_15) hP hD rfl rfl hk1 hB
            generalize H1 = H at hP hS ⊢
            have hP : va_P D classes (wD cI cZ q0 s0_15) H := hP
            have hD : va_D A (wD cI cZ q0 s0_15) := hD
            refine lv_aload_n hx hb dX1_readsHole_120 rfl (lv_at hl 1 rfl) ?_
            refine lv_bipush (v := (68 : Int32)) hx hb dX1_readsHole_121 (by decide) ?_
            refine va_put (D := D) (ci := 1) (v := .int (68 : Int32)) (ty := .int) (C := RX1) (T := TX1) (N := 14) hx hb ht inX1 tyX1 tyX1_ok nmX1 hown hK hP hD hS 0 rfl rfl 10 (by decide) (ht _ tw_50) (fun _ h9 => h9) rfl pf_I rfl rfl (Nat.le_of_ble_eq_true rfl) dX1_readsHole_123 (fun H locs hP hD hS => ?_)
            obtain ⟨s0_16, es0_16⟩ : ∃ y : CS, y = sI s0_15 10 (68 : Int32) := ⟨_, rfl⟩
            have hf := hf s0_16 es0_16
            have hP : va_P D classes (wD cI cZ q0 s0_16) H := by rw [es0_16]; exact hP
            have hD : va_D A (wD cI cZ q0 s0_16) := by rw [es0_16]; exact hD
            refine lv_iconst (v := (1 : Int32)) hx hb dX1_readsHole_126 (by decide) ?_
            exact W.zret (v := (1 : Int32)) hx hb hr rfl (fun t ht hW => ⟨⟨(1 : Int32), s0_16, rfl, hf, P_heap ht hP⟩, hS.F ht⟩) hS.2.2 dX1_readsHole_127
          · have hf := hf.2 c_14
            refine lv_iconst (v := (0 : Int32)) hx hb dX1_readsHole_105 (by decide) ?_
            exact W.zret (v := (0 : Int32)) hx hb hr rfl (fun t ht hW => ⟨⟨(0 : Int32), s0, rfl, hf, P_heap ht hP⟩, hS.F ht⟩) hS.2.2 dX1_readsHole_106
  exact start s.heap [] hP hD hS
def wp_X1_reads (p0 : Int32) (s0 : CS) (Q : Int32 → CS → Prop) : Prop := (((s0.1 10) = (0 : Int32) → ∀ s0_2 : CS, s0_2 = sI s0 10 (68 : Int32) → ((¬ p0 = (68 : Int32) → Q (0 : Int32) s0_2) ∧ (p0 = (68 : Int32) → Q (1 : Int32) s0_2))) ∧ (¬ (s0.1 10) = (0 : Int32) → (((s0.1 10) = (68 : Int32) → ∀ s0_5 : CS, s0_5 = sI s0 10 p0 → ∀ s0_6 : CS, s0_6 = sI s0_5 11 (0 : Int32) → wp_X1_opensPart p0 s0_6 (fun r_7 => narrow .boolean (.int r_7) = .int r_7 ∧ Q r_7 s0_6)) ∧ (¬ (s0.1 10) = (68 : Int32) → (((s0.1 10) = (79 : Int32) → wp_X1_readsOwner (p0 - (48 : Int32)) s0 (fun r_10 s0_9 => narrow .boolean (.int r_10) = .int r_10 ∧ Q r_10 s0_9)) ∧ (¬ (s0.1 10) = (79 : Int32) → (((s0.1 10) = (82 : Int32) → wp_X1_readsRow (p0 - (48 : Int32)) s0 (fun r_13 s0_12 => narrow .boolean (.int r_13) = .int r_13 ∧ Q r_13 s0_12)) ∧ (¬ (s0.1 10) = (82 : Int32) → wp_X1_readsHole p0 s0 (fun r_15 s0_14 => narrow .boolean (.int r_15) = .int r_15 ∧ Q r_15 s0_14)))))))))
set_option maxHeartbeats 4000000 in
set_option maxRecDepth 100000 in
theorem c_X1_reads (l : Launch) (D : va_G) (cI cZ cW : ClassId) (q0 : Nat → Nat) (sz : Nat) (p0 : Int32) (s0 : CS) (Q : Int32 → CS → Prop) (hf : wp_X1_reads p0 s0 Q) : Met l yX1_reads (wsA yX1_reads cX1_reads 2 (some .boolean)) ({ frames := 4, cells := 0, slots := 0, locals := 85 }) (PW D cI cZ cW [.ref (q0 0), .int p0] (wD cI cZ q0 s0) sz) (va_Qi (fun (r : Int32) (u : CS) => Q r u) (fun u t => va_P D classes (wD cI cZ q0 u) t.heap) (va_A (wD cI cZ q0 s0) sz)) 0 0 (va_A (wD cI cZ q0 s0) sz) := by
  refine Met.ofW (cc := cX1_reads) (maxL := 2) (ret := (some .boolean)) (by decide) rfl ?_
  intro p e s m args below meth c s₁ B hml hv
  obtain ⟨rfl, hsz, hP, hK, hD0⟩ := hv
  have hx := B.exec
  have hb := B.bytes
  have hr := B.returns
  have hts := atoms_spec (ws := (wsA yX1_reads cX1_reads 2 (some .boolean))) B.pre
  have ht : ∀ w ∈ lw_g, w.before _ s = true := fun w h => hts w (List.mem_cons_of_mem _ h)
  have hown : s.vm.findClass RX1 = some m.cls := findClass_of_methodNamed B.named
  have hlocks := B.notSynchronized
  subst hsz
  have hD := hD0.self (sz := s.heap.size)
  generalize hAe : va_A (wD cI cZ q0 s0) s.heap.size = A at hD ⊢
  have hA : ∀ q : Nat, s.heap.size ≤ q → A q := fun q h => by rw [← hAe]; exact Or.inr h
  have hS : va_S A s.heap s.heap [] := va_S.rf
  have hl := lv_entry ([.ref (q0 0), .int p0]) (n := 2) (Nat.le_of_ble_eq_true rfl)
  rw [lg_entry_eq]
  generalize (lg_sl ([.ref (q0 0), .int p0]) ++ List.replicate (2 - (lg_sl ([.ref (q0 0), .int p0])).length) Slot.unset).toArray = ls at hl ⊢
  have hl : lv_has ls 2 [(0, .ref (q0 0)), (1, .int p0)] := hl
  unfold wp_X1_reads at hf
  have start : ∀ (H : Heap) (locs : List Loc), va_P D classes (wD cI cZ q0 s0) H → va_D A (wD cI cZ q0 s0) → va_S A s.heap H locs → W p l e (headSpec (wsA yX1_reads cX1_reads 2 (some .boolean)) ({ frames := 4, cells := 0, slots := 0, locals := 85 })).room s m (#[.ref (q0 0), .int p0] : Array Value) below meth c H locs 0 0 (MQ below (va_Qi (fun (r : Int32) (u : CS) => Q r u) (fun u t => va_P D classes (wD cI cZ q0 u) t.heap) A) (#[.ref (q0 0), .int p0] : Array Value) s 0 0 A) (F0 m 0 ls []) := by
    intro H locs hP hD hS
    refine lv_aload_n hx hb dX1_reads_0 rfl (lv_at hl 0 rfl) ?_
    refine va_get (D := D) (ci := 1) (v := .int (s0.1 10)) (C := RX1) (T := TX1) (N := 14) hx hb ht inX1 hown hK hP 0 rfl rfl 10 (by decide) (ht _ tw_50) (fun _ h9 => h9) rfl dX1_reads_1 ?_
    by_cases c_1 : (s0.1 10) = (0 : Int32)
    · have hf := hf.1 c_1
      refine lv_lookup (off := 44) (tgt := 48) hx hb dX1_reads_4 (by decide) (by rw [c_1]; first | done | rfl) (by decide) ?_
      refine lv_aload_n hx hb dX1_reads_48 rfl (lv_at hl 0 rfl) ?_
      refine lv_bipush (v := (68 : Int32)) hx hb dX1_reads_49 (by decide) ?_
      refine va_put (D := D) (ci := 1) (v := .int (68 : Int32)) (ty := .int) (C := RX1) (T := TX1) (N := 14) hx hb ht inX1 tyX1 tyX1_ok nmX1 hown hK hP hD hS 0 rfl rfl 10 (by decide) (ht _ tw_50) (fun _ h9 => h9) rfl pf_I rfl rfl (Nat.le_of_ble_eq_true rfl) dX1_reads_51 (fun H locs hP hD hS => ?_)
      obtain ⟨s0_2, es0_2⟩ : ∃ y : CS, y = sI s0 10 (68 : Int32) := ⟨_, rfl⟩
      have hf := hf s0_2 es0_2
      have hP : va_P D classes (wD cI cZ q0 s0_2) H := by rw [es0_2]; exact hP
      have hD : va_D A (wD cI cZ q0 s0_2) := by rw [es0_2]; exact hD
      refine lv_iload_n hx hb dX1_reads_54 rfl (lv_at hl 1 rfl) ?_
      refine lv_bipush (v := (68 : Int32)) hx hb dX1_reads_55 (by decide) ?_
      refine lv_icmp_ne (tgt := 64) hx hb dX1_reads_57 (by decide) (fun c_3 => ?_) (fun c_3 => ?_)
      · have hf := hf.1 c_3
        refine lv_iconst (v := (0 : Int32)) hx hb dX1_reads_64 (by decide) ?_
        exact W.zret (v := (0 : Int32)) hx hb hr rfl (fun t ht hW => ⟨⟨(0 : Int32), s0_2, rfl, hf, P_heap ht hP⟩, hS.F ht⟩) hS.2.2 dX1_reads_65
      · have hf := hf.2 c_3
        refine lv_iconst (v := (1 : Int32)) hx hb dX1_reads_60 (by decide) ?_
        refine lv_goto (tgt := 65) hx hb dX1_reads_61 (by decide) ?_
        exact W.zret (v := (1 : Int32)) hx hb hr rfl (fun t ht hW => ⟨⟨(1 : Int32), s0_2, rfl, hf, P_heap ht hP⟩, hS.F ht⟩) hS.2.2 dX1_reads_65
    · have hf := hf.2 c_1
      by_cases c_4 : (s0.1 10) = (68 : Int32)
      · have hf := hf.1 c_4
        refine lv_lookup (off := 62) (tgt := 66) hx hb dX1_reads_4 (by decide) (by rw [c_4]; first | done | rfl) (by decide) ?_
        refine lv_aload_n hx hb dX1_reads_66 rfl (lv_at hl 0 rfl) ?_
        refine lv_iload_n hx hb dX1_reads_67 rfl (lv_at hl 1 rfl) ?_
        refine va_put (D := D) (ci := 1) (v := .int p0) (ty := .int) (C := RX1) (T := TX1) (N := 14) hx hb ht inX1 tyX1 tyX1_ok nmX1 hown hK hP hD hS 0 rfl rfl 10 (by decide) (ht _ tw_50) (fun _ h9 => h9) rfl pf_I rfl rfl (Nat.le_of_ble_eq_true rfl) dX1_reads_68 (fun H locs hP hD hS => ?_)
        obtain ⟨s0_5, es0_5⟩ : ∃ y : CS, y = sI s0 10 p0 := ⟨_, rfl⟩
        have hf := hf s0_5 es0_5
        have hP : va_P D classes (wD cI cZ q0 s0_5) H := by rw [es0_5]; exact hP
        have hD : va_D A (wD cI cZ q0 s0_5) := by rw [es0_5]; exact hD
        refine lv_aload_n hx hb dX1_reads_71 rfl (lv_at hl 0 rfl) ?_
        refine lv_iconst (v := (0 : Int32)) hx hb dX1_reads_72 (by decide) ?_
        refine va_put (D := D) (ci := 1) (v := .int (0 : Int32)) (ty := .int) (C := RX1) (T := TX1) (N := 14) hx hb ht inX1 tyX1 tyX1_ok nmX1 hown hK hP hD hS 0 rfl rfl 11 (by decide) (ht _ tw_51) (fun _ h9 => h9) rfl pf_I rfl rfl (Nat.le_of_ble_eq_true rfl) dX1_reads_73 (fun H locs hP hD hS => ?_)
        obtain ⟨s0_6, es0_6⟩ : ∃ y : CS, y = sI s0_5 11 (0 : Int32) := ⟨_, rfl⟩
        have hf := hf s0_6 es0_6
        have hP : va_P D classes (wD cI cZ q0 s0_6) H := by rw [es0_6]; exact hP
        have hD : va_D A (wD cI cZ q0 s0_6) := by rw [es0_6]; exact hD
        refine lv_aload_n hx hb dX1_reads_76 rfl (lv_at hl 0 rfl) ?_
        refine lv_iload_n hx hb dX1_reads_77 rfl (lv_at hl 1 rfl) ?_
        have hPc : va_P D classes (wD cI cZ q0 s0_6) H := hP
        refine vp_callSi (W.runV (As := [.int p0]) (rest := []) ⟨hx, hb, hml, hown, hts⟩ (c_X1_opensPart l D cI cZ cW q0 p0 s0_6 _ hf) ⟨callB_of 1 hts (gA tw_217) rfl rfl rfl (ht _ tw_2) (ht _ tw_214) hd_X1_opensPart ⟨Nat.le_of_ble_eq_true rfl, Nat.le_of_ble_eq_true rfl⟩, ht _ tw_216, ht _ twp_2⟩ ⟨PR_blind, va_recv hK hP (ci := 1) (q0 := 0) rfl rfl, fun U hU hW => PR_mk hPc hK hU hW⟩ rfl rfl hl.1 rfl (lv_room (Nat.le_of_ble_eq_true rfl)) dX1_reads_78 ⟨Nat.zero_le _, Nat.zero_le _⟩) (fun r_7 hf => ?_)
        obtain ⟨hn, hf⟩ := hf
        exact W.zret (v := r_7) hx hb hr hn (fun t ht hW => ⟨⟨r_7, s0_6, rfl, hf, P_heap ht hP⟩, hS.F ht⟩) hS.2.2 dX1_reads_81
      · have hf := hf.2 c_4
        by_cases c_8 : (s0.1 10) = (79 : Int32)
        · have hf := hf.1 c_8
          refine lv_lookup (off := 78) (tgt := 82) hx hb dX1_reads_4 (by decide) (by rw [c_8]; first | done | rfl) (by decide) ?_
          refine lv_aload_n hx hb dX1_reads_82 rfl (lv_at hl 0 rfl) ?_
          refine lv_iload_n hx hb dX1_reads_83 rfl (lv_at hl 1 rfl) ?_
          refine lv_bipush (v := (48 : Int32)) hx hb dX1_reads_84 (by decide) ?_
          refine lv_isub hx hb dX1_reads_86 ?_
          have hPc : va_P D classes (wD cI cZ q0 s0) H := hP
          have hDc : va_D A (wD cI cZ q0 s0) := hD
          have hFc := va_free (wc := (wD cI cZ q0 s0)) hD hS hA [0, 1, 2, 3, 4, 5] rfl
          refine va_calli (va_runV (As := [.int (p0 - (48 : Int32))]) (rest := []) ⟨hx, hb, hml, hown, hts⟩ (c_X1_readsOwner l D cI cZ cW q0 H.size (p0 - (48 : Int32)) s0 _ hf) ⟨callB_of 1 hts (gA tw_221) rfl rfl rfl (ht _ tw_2) (ht _ tw_218) hd_X1_readsOwner ⟨Nat.le_of_ble_eq_true rfl, Nat.le_of_ble_eq_true rfl⟩, ht _ tw_220, ht _ twp_3⟩ ⟨PW_blind, va_recv hK hP (ci := 1) (q0 := 0) rfl rfl, fun U hU hW => PW_mk hPc hDc hK hU hW⟩ rfl rfl hl.1 rfl (lv_room (Nat.le_of_ble_eq_true rfl)) dX1_reads_87 ⟨Nat.zero_le _, Nat.zero_le _⟩) hS (fun q _ h => hFc q h) hFc (fun r_10 u t H1 locs ht1 hvm hf hB hz1 hk1 hS => ?_)
          obtain ⟨s0_9, rfl⟩ : ∃ z, z = u := ⟨_, rfl⟩
          rw [ht1] at hB
          obtain ⟨hP, hD⟩ := cj [0, 1, 2, 3, 4, 5] (wD cI cZ q0 s0) (wD cI cZ q0 s0_9) hP hD rfl rfl hk1 hB
          generalize H1 = H at hP hS ⊢
          have hP : va_P D classes (wD cI cZ q0 s0_9) H := hP
          have hD : va_D A (wD cI cZ q0 s0_9) := hD
          obtain ⟨hn, hf⟩ := hf
          exact W.zret (v := r_10) hx hb hr hn (fun t ht hW => ⟨⟨r_10, s0_9, rfl, hf, P_heap ht hP⟩, hS.F ht⟩) hS.2.2 dX1_reads_90
        · have hf := hf.2 c_8
          by_cases c_11 : (s0.1 10) = (82 : Int32)
          · have hf := hf.1 c_11
            refine lv_lookup (off := 87) (tgt := 91) hx hb dX1_reads_4 (by decide) (by rw [c_11]; first | done | rfl) (by decide) ?_
            refine lv_aload_n hx hb dX1_reads_91 rfl (lv_at hl 0 rfl) ?_
            refine lv_iload_n hx hb dX1_reads_92 rfl (lv_at hl 1 rfl) ?_
            refine lv_bipush (v := (48 : Int32)) hx hb dX1_reads_93 (by decide) ?_
            refine lv_isub hx hb dX1_reads_95 ?_
            have hPc : va_P D classes (wD cI cZ q0 s0) H := hP
            have hDc : va_D A (wD cI cZ q0 s0) := hD
            have hFc := va_free (wc := (wD cI cZ q0 s0)) hD hS hA [0, 1, 2, 3, 4, 5] rfl
            refine va_calli (va_runV (As := [.int (p0 - (48 : Int32))]) (rest := []) ⟨hx, hb, hml, hown, hts⟩ (c_X1_readsRow l D cI cZ cW q0 H.size (p0 - (48 : Int32)) s0 _ hf) ⟨callB_of 1 hts (gA tw_228) rfl rfl rfl (ht _ tw_2) (ht _ tw_225) hd_X1_readsRow ⟨Nat.le_of_ble_eq_true rfl, Nat.le_of_ble_eq_true rfl⟩, ht _ tw_227, ht _ twp_4⟩ ⟨PW_blind, va_recv hK hP (ci := 1) (q0 := 0) rfl rfl, fun U hU hW => PW_mk hPc hDc hK hU hW⟩ rfl rfl hl.1 rfl (lv_room (Nat.le_of_ble_eq_true rfl)) dX1_reads_96 ⟨Nat.zero_le _, Nat.zero_le _⟩) hS (fun q _ h => hFc q h) hFc (fun r_13 u t H1 locs ht1 hvm hf hB hz1 hk1 hS => ?_)
            obtain ⟨s0_12, rfl⟩ : ∃ z, z = u := ⟨_, rfl⟩
            rw [ht1] at hB
            obtain ⟨hP, hD⟩ := cj [0, 1, 2, 3, 4, 5] (wD cI cZ q0 s0) (wD cI cZ q0 s0_12) hP hD rfl rfl hk1 hB
            generalize H1 = H at hP hS ⊢
            have hP : va_P D classes (wD cI cZ q0 s0_12) H := hP
            have hD : va_D A (wD cI cZ q0 s0_12) := hD
            obtain ⟨hn, hf⟩ := hf
            exact W.zret (v := r_13) hx hb hr hn (fun t ht hW => ⟨⟨r_13, s0_12, rfl, hf, P_heap ht hP⟩, hS.F ht⟩) hS.2.2 dX1_reads_99
          · have hf := hf.2 c_11
            refine lv_lookup (off := 96) (tgt := 100) hx hb dX1_reads_4 (by decide) (by show Op.lookupswitch.offset _ _ _ = _; rw [lv_osw c_1 (a := 0) (by decide), lv_osw c_4 (a := 68) (by decide), lv_osw c_8 (a := 79) (by decide), lv_osw c_11 (a := 82) (by decide)]; first | done | rfl) (by decide) ?_
            refine lv_aload_n hx hb dX1_reads_100 rfl (lv_at hl 0 rfl) ?_
            refine lv_iload_n hx hb dX1_reads_101 rfl (lv_at hl 1 rfl) ?_
            have hPc : va_P D classes (wD cI cZ q0 s0) H := hP
            have hDc : va_D A (wD cI cZ q0 s0) := hD
            have hFc := va_free (wc := (wD cI cZ q0 s0)) hD hS hA [0, 1, 2, 3, 4, 5] rfl
            refine va_calli (va_runV (As := [.int p0]) (rest := []) ⟨hx, hb, hml, hown, hts⟩ (c_X1_readsHole l D cI cZ cW q0 H.size p0 s0 _ hf) ⟨callB_of 1 hts (gA tw_242) rfl rfl rfl (ht _ tw_2) (ht _ tw_239) hd_X1_readsHole ⟨Nat.le_of_ble_eq_true rfl, Nat.le_of_ble_eq_true rfl⟩, ht _ tw_241, ht _ twp_5⟩ ⟨PW_blind, va_recv hK hP (ci := 1) (q0 := 0) rfl rfl, fun U hU hW => PW_mk hPc hDc hK hU hW⟩ rfl rfl hl.1 rfl (lv_room (Nat.le_of_ble_eq_true rfl)) dX1_reads_102 ⟨Nat.zero_le _, Nat.zero_le _⟩) hS (fun q _ h => hFc q h) hFc (fun r_15 u t H1 locs ht1 hvm hf hB hz1 hk1 hS => ?_)
            obtain ⟨s0_14, rfl⟩ : ∃ z, z = u := ⟨_, rfl⟩
            rw [ht1] at hB
            obtain ⟨hP, hD⟩ := cj [0, 1, 2, 3, 4, 5] (wD cI cZ q0 s0) (wD cI cZ q0 s0_14) hP hD rfl rfl hk1 hB
            generalize H1 = H at hP hS ⊢
            have hP : va_P D classes (wD cI cZ q0 s0_14) H := hP
            have hD : va_D A (wD cI cZ q0 s0_14) := hD
            obtain ⟨hn, hf⟩ := hf
            exact W.zret (v := r_15) hx hb hr hn (fun t ht hW => ⟨⟨r_15, s0_14, rfl, hf, P_heap ht hP⟩, hS.F ht⟩) hS.2.2 dX1_reads_105
  exact start s.heap [] hP hD hS
def B_X1_readAll_35 (n1 : Nat) (x2 : Int32) (s0 : CS) (s1 : FA) (Q : Int32 → CS → FA → Prop) : Prop := ((¬ (s0.1 10) = (68 : Int32) → Q x2 s0 s1) ∧ ((s0.1 10) = (68 : Int32) → Q (-9 : Int32) s0 s1))
def LB_X1_readAll_6 (G6 : (Int32 × Int32 × CS × FA) → Prop) (n1 : Nat) (x2 : Int32) (x3 : Int32) (s0 : CS) (s1 : FA) (Q : Int32 → CS → FA → Prop) : Prop := ((x2 ≤ x3 → B_X1_readAll_35 n1 x2 s0 s1 Q) ∧ (¬ x2 ≤ x3 → (((nI n1) ≤ x3 → B_X1_readAll_35 n1 x2 s0 s1 Q) ∧ (¬ (nI n1) ≤ x3 → vp_in x3 n1 ∧ wp_X1_reads (s1 x3.toNatClampNeg) s0 (fun r_6 s0_5 => ((¬ r_6 = 0 → ∀ x3_8 : Int32, x3_8 = x3 + (1 : Int32) → G6 (x2, x3_8, s0_5, s1)) ∧ (r_6 = 0 → Q x3 s0_5 s1)))))))
def B_X1_readAll_6 (n1 : Nat) (x2 : Int32) (x3 : Int32) (s0 : CS) (s1 : FA) (Q : Int32 → CS → FA → Prop) : Prop := LOOP (fun (G6 : (Int32 × Int32 × CS × FA) → Prop) z => LB_X1_readAll_6 G6 n1 z.1 z.2.1 z.2.2.1 z.2.2.2 Q) (x2, x3, s0, s1)
def wp_X1_readAll (p1 : Int32) (n1 : Nat) (s0 : CS) (s1 : FA) (Q : Int32 → CS → FA → Prop) : Prop := wp_X1_forget s0 (fun s0_9 => B_X1_readAll_6 n1 p1 (0 : Int32) s0_9 s1 Q)
set_option maxHeartbeats 4000000 in
set_option maxRecDepth 100000 in
theorem c_X1_readAll (l : Launch) (D : va_G) (cI cZ cW : ClassId) (q0 : Nat → Nat) (a1 : Nat) (sz : Nat) (p1 : Int32) (n1 : Nat) (s0 : CS) (s1 : FA) (Q : Int32 → CS → FA → Prop) (hf : wp_X1_readAll p1 n1 s0 s1 Q) : Met l yX1_readAll (wsA yX1_readAll cX1_readAll 4 (some .int)) ({ frames := 5, cells := 0, slots := 0, locals := 106 }) (PW D cI cZ cW [.ref (q0 0), .ref a1, .int p1] (wD cI cZ q0 s0 ++ wI cI a1 n1 s1) sz) (va_Qi (fun (r : Int32) (u : CS × FA) => Q r u.1 u.2) (fun u t => va_P D classes (wD cI cZ q0 u.1 ++ wI cI a1 n1 u.2) t.heap) (va_A (wD cI cZ q0 s0 ++ wI cI a1 n1 s1) sz)) 0 0 (va_A (wD cI cZ q0 s0 ++ wI cI a1 n1 s1) sz) := by
  refine Met.ofW (cc := cX1_readAll) (maxL := 4) (ret := (some .int)) (by decide) rfl ?_
  intro p e s m args below meth c s₁ B hml hv
  obtain ⟨rfl, hsz, hP, hK, hD0⟩ := hv
  have hx := B.exec
  have hb := B.bytes
  have hr := B.returns
  have hts := atoms_spec (ws := (wsA yX1_readAll cX1_readAll 4 (some .int))) B.pre
  have ht : ∀ w ∈ lw_g, w.before _ s = true := fun w h => hts w (List.mem_cons_of_mem _ h)
  have hown : s.vm.findClass RX1 = some m.cls := findClass_of_methodNamed B.named
  have hlocks := B.notSynchronized
  subst hsz
  have hD := hD0.self (sz := s.heap.size)
  generalize hAe : va_A (wD cI cZ q0 s0 ++ wI cI a1 n1 s1) s.heap.size = A at hD ⊢
  have hA : ∀ q : Nat, s.heap.size ≤ q → A q := fun q h => by rw [← hAe]; exact Or.inr h
  have hS : va_S A s.heap s.heap [] := va_S.rf
  have hl := lv_entry ([.ref (q0 0), .ref a1, .int p1]) (n := 4) (Nat.le_of_ble_eq_true rfl)
  rw [lg_entry_eq]
  generalize (lg_sl ([.ref (q0 0), .ref a1, .int p1]) ++ List.replicate (4 - (lg_sl ([.ref (q0 0), .ref a1, .int p1])).length) Slot.unset).toArray = ls at hl ⊢
  have hl : lv_has ls 4 [(0, .ref (q0 0)), (1, .ref a1), (2, .int p1)] := hl
  unfold wp_X1_readAll at hf
  have k_35 : ∀ (x2 : Int32) (s0 : CS) (s1 : FA) (H : Heap) (locs : List Loc) (ls : Array Slot), B_X1_readAll_35 n1 x2 s0 s1 Q → va_P D classes (wD cI cZ q0 s0 ++ wI cI a1 n1 s1) H → va_D A (wD cI cZ q0 s0 ++ wI cI a1 n1 s1) → va_S A s.heap H locs → lv_has ls 4 [(0, .ref (q0 0)), (2, .int x2)] → W p l e (headSpec (wsA yX1_readAll cX1_readAll 4 (some .int)) ({ frames := 5, cells := 0, slots := 0, locals := 106 })).room s m (#[.ref (q0 0), .ref a1, .int p1] : Array Value) below meth c H locs 0 0 (MQ below (va_Qi (fun (r : Int32) (u : CS × FA) => Q r u.1 u.2) (fun u t => va_P D classes (wD cI cZ q0 u.1 ++ wI cI a1 n1 u.2) t.heap) A) (#[.ref (q0 0), .ref a1, .int p1] : Array Value) s 0 0 A) (F0 m 35 ls []) := by
    intro x2 s0 s1 H locs ls hf hP hD hS hl
    unfold B_X1_readAll_35 at hf
    refine lv_aload_n hx hb dX1_readAll_35 rfl (lv_at hl 0 rfl) ?_
    refine va_get (D := D) (ci := 1) (v := .int (s0.1 10)) (C := RX1) (T := TX1) (N := 14) hx hb ht inX1 hown hK hP 0 rfl rfl 10 (by decide) (ht _ tw_50) (fun _ h9 => h9) rfl dX1_readAll_36 ?_
    refine lv_bipush (v := (68 : Int32)) hx hb dX1_readAll_39 (by decide) ?_
    refine lv_icmp_ne (tgt := 49) hx hb dX1_readAll_41 (by decide) (fun c_1 => ?_) (fun c_1 => ?_)
    · have hf := hf.1 c_1
      refine lv_iload_n hx hb dX1_readAll_49 rfl (lv_at hl 1 rfl) ?_
      exact W.iret (v := x2) hx hb hr (fun t ht hW => ⟨⟨x2, (s0, s1), rfl, hf, P_heap ht hP⟩, hS.F ht⟩) hS.2.2 dX1_readAll_50
    · have hf := hf.2 c_1
      refine lv_bipush (v := (-9 : Int32)) hx hb dX1_readAll_44 (by decide) ?_
      refine lv_goto (tgt := 50) hx hb dX1_readAll_46 (by decide) ?_
      exact W.iret (v := (-9 : Int32)) hx hb hr (fun t ht hW => ⟨⟨(-9 : Int32), (s0, s1), rfl, hf, P_heap ht hP⟩, hS.F ht⟩) hS.2.2 dX1_readAll_50
  have k_6 : ∀ (x2 : Int32) (x3 : Int32) (s0 : CS) (s1 : FA) (H : Heap) (locs : List Loc) (ls : Array Slot), B_X1_readAll_6 n1 x2 x3 s0 s1 Q → va_P D classes (wD cI cZ q0 s0 ++ wI cI a1 n1 s1) H → va_D A (wD cI cZ q0 s0 ++ wI cI a1 n1 s1) → va_S A s.heap H locs → lv_has ls 4 [(0, .ref (q0 0)), (1, .ref a1), (2, .int x2), (3, .int x3)] → W p l e (headSpec (wsA yX1_readAll cX1_readAll 4 (some .int)) ({ frames := 5, cells := 0, slots := 0, locals := 106 })).room s m (#[.ref (q0 0), .ref a1, .int p1] : Array Value) below meth c H locs 0 0 (MQ below (va_Qi (fun (r : Int32) (u : CS × FA) => Q r u.1 u.2) (fun u t => va_P D classes (wD cI cZ q0 u.1 ++ wI cI a1 n1 u.2) t.heap) A) (#[.ref (q0 0), .ref a1, .int p1] : Array Value) s 0 0 A) (F0 m 6 ls []) := by
    intro x2 x3 s0 s1 H locs ls hf hP hD hS hl
    unfold B_X1_readAll_6 at hf
    obtain ⟨I_6, ⟨n0_6, hI0_6⟩, hst_6⟩ := hf
    have main_6 : ∀ (n : Nat) (x2 : Int32) (x3 : Int32) (s0 : CS) (s1 : FA) (H : Heap) (locs : List Loc) (ls : Array Slot), I_6 n (x2, x3, s0, s1) → va_P D classes (wD cI cZ q0 s0 ++ wI cI a1 n1 s1) H → va_D A (wD cI cZ q0 s0 ++ wI cI a1 n1 s1) → va_S A s.heap H locs → lv_has ls 4 [(0, .ref (q0 0)), (1, .ref a1), (2, .int x2), (3, .int x3)] → W p l e (headSpec (wsA yX1_readAll cX1_readAll 4 (some .int)) ({ frames := 5, cells := 0, slots := 0, locals := 106 })).room s m (#[.ref (q0 0), .ref a1, .int p1] : Array Value) below meth c H locs 0 0 (MQ below (va_Qi (fun (r : Int32) (u : CS × FA) => Q r u.1 u.2) (fun u t => va_P D classes (wD cI cZ q0 u.1 ++ wI cI a1 n1 u.2) t.heap) A) (#[.ref (q0 0), .ref a1, .int p1] : Array Value) s 0 0 A) (F0 m 6 ls []) := by
      intro n
      induction n using Nat.strongRecOn with
      | _ n_6 ih_6 =>
      intro x2 x3 s0 s1 H locs ls hI hP hD hS hl
      have hf : LB_X1_readAll_6 (fun z => ∃ k, k < n_6 ∧ I_6 k z) n1 x2 x3 s0 s1 Q := hst_6 n_6 (x2, x3, s0, s1) hI
      have hG_6 : ∀ (x2 : Int32) (x3 : Int32) (s0 : CS) (s1 : FA) (H : Heap) (locs : List Loc) (ls : Array Slot), (∃ k, k < n_6 ∧ I_6 k (x2, x3, s0, s1)) → va_P D classes (wD cI cZ q0 s0 ++ wI cI a1 n1 s1) H → va_D A (wD cI cZ q0 s0 ++ wI cI a1 n1 s1) → va_S A s.heap H locs → lv_has ls 4 [(0, .ref (q0 0)), (1, .ref a1), (2, .int x2), (3, .int x3)] → W p l e (headSpec (wsA yX1_readAll cX1_readAll 4 (some .int)) ({ frames := 5, cells := 0, slots := 0, locals := 106 })).room s m (#[.ref (q0 0), .ref a1, .int p1] : Array Value) below meth c H locs 0 0 (MQ below (va_Qi (fun (r : Int32) (u : CS × FA) => Q r u.1 u.2) (fun u t => va_P D classes (wD cI cZ q0 u.1 ++ wI cI a1 n1 u.2) t.heap) A) (#[.ref (q0 0), .ref a1, .int p1] : Array Value) s 0 0 A) (F0 m 6 ls []) := by
        rintro x2 x3 s0 s1 H locs ls ⟨k, hk, hI⟩ hP hD hS hl
        exact ih_6 k hk x2 x3 s0 s1 H locs ls hI hP hD hS hl
      unfold LB_X1_readAll_6 at hf
      refine lv_iload_n hx hb dX1_readAll_6 rfl (lv_at hl 3 rfl) ?_
      refine lv_iload_n hx hb dX1_readAll_7 rfl (lv_at hl 2 rfl) ?_
      refine lv_icmp_ge (tgt := 35) hx hb dX1_readAll_8 (by decide) (fun c_2 => ?_) (fun c_2 => ?_)
      · have hf := hf.1 c_2
        exact k_35 x2 s0 s1 H locs ls hf hP hD hS (lv_sub hl [0, 2] rfl)
      · have hf := hf.2 c_2
        refine lv_iload_n hx hb dX1_readAll_11 rfl (lv_at hl 3 rfl) ?_
        refine lv_aload_n hx hb dX1_readAll_12 rfl (lv_at hl 1 rfl) ?_
        refine va_alen (v := (nI n1)) hx hb hK hP 6 0 rfl rfl rfl dX1_readAll_13 ?_
        refine lv_icmp_ge (tgt := 35) hx hb dX1_readAll_14 (by decide) (fun c_3 => ?_) (fun c_3 => ?_)
        · have hf := hf.1 c_3
          exact k_35 x2 s0 s1 H locs ls hf hP hD hS (lv_sub hl [0, 2] rfl)
        · have hf := hf.2 c_3
          refine lv_aload_n hx hb dX1_readAll_17 rfl (lv_at hl 0 rfl) ?_
          refine lv_aload_n hx hb dX1_readAll_18 rfl (lv_at hl 1 rfl) ?_
          refine lv_iload_n hx hb dX1_readAll_19 rfl (lv_at hl 3 rfl) ?_
          obtain ⟨hi_4, hf⟩ := hf
          refine va_iald hx hb hK hP 6 0 rfl rfl hi_4 dX1_readAll_20 ?_
          have hPc : va_P D classes (wD cI cZ q0 s0) H := hP.sub [0, 1, 2, 3, 4, 5] rfl
          have hDc : va_D A (wD cI cZ q0 s0) := hD.sub [0, 1, 2, 3, 4, 5] (by decide) rfl
          have hFc := va_free (wc := (wD cI cZ q0 s0)) hD hS hA [0, 1, 2, 3, 4, 5] rfl
          refine va_calli (va_runV (As := [.int (s1 x3.toNatClampNeg)]) (rest := []) ⟨hx, hb, hml, hown, hts⟩ (c_X1_reads l D cI cZ cW q0 H.size (s1 x3.toNatClampNeg) s0 _ hf) ⟨callB_of 1 hts (gA tw_213) rfl rfl rfl (ht _ tw_2) (ht _ tw_210) hd_X1_reads ⟨Nat.le_of_ble_eq_true rfl, Nat.le_of_ble_eq_true rfl⟩, ht _ tw_212, ht _ twp_1⟩ ⟨PW_blind, va_recv hK hP (ci := 1) (q0 := 0) rfl rfl, fun U hU hW => PW_mk hPc hDc hK hU hW⟩ rfl rfl hl.1 rfl (lv_room (Nat.le_of_ble_eq_true rfl)) dX1_readAll_21 ⟨Nat.zero_le _, Nat.zero_le _⟩) hS (fun q _ h => hFc q h) hFc (fun r_6 u t H1 locs ht1 hvm hf hB hz1 hk1 hS => ?_)
          obtain ⟨s0_5, rfl⟩ : ∃ z, z = u := ⟨_, rfl⟩
          rw [ht1] at hB
          obtain ⟨hP, hD⟩ := cj [0, 1, 2, 3, 4, 5] (wD cI cZ q0 s0) (wD cI cZ q0 s0_5) hP hD rfl rfl hk1 hB
          generalize H1 = H at hP hS ⊢
          have hP : va_P D classes (wD cI cZ q0 s0_5 ++ wI cI a1 n1 s1) H := hP
          have hD : va_D A (wD cI cZ q0 s0_5 ++ wI cI a1 n1 s1) := hD
          refine lv_if_ne (tgt := 29) hx hb dX1_readAll_24 (by decide) (fun c_7 => ?_) (fun c_7 => ?_)
          · have hf := hf.1 c_7
            obtain ⟨x3_8, ex3_8⟩ : ∃ y : Int32, y = x3 + (1 : Int32) := ⟨_, rfl⟩
            have hf := hf x3_8 ex3_8
            refine lv_iinc (v := x3_8) (lv' := [(3, .int x3_8), (0, .ref (q0 0)), (1, .ref a1), (2, .int x2)]) hx hb dX1_readAll_29 hl (k := 3) rfl (by rw [ex3_8]; rfl) (by decide) rfl (fun ls hl => ?_)
            refine lv_goto (tgt := 6) hx hb dX1_readAll_32 (by decide) ?_
            exact hG_6 x2 x3_8 s0_5 s1 H locs ls hf hP hD hS (lv_sub hl [1, 2, 3, 0] rfl)
          · have hf := hf.2 c_7
            refine lv_iload_n hx hb dX1_readAll_27 rfl (lv_at hl 3 rfl) ?_
            exact W.iret (v := x3) hx hb hr (fun t ht hW => ⟨⟨x3, (s0_5, s1), rfl, hf, P_heap ht hP⟩, hS.F ht⟩) hS.2.2 dX1_readAll_28
    exact main_6 n0_6 x2 x3 s0 s1 H locs ls hI0_6 hP hD hS hl
  have start : ∀ (H : Heap) (locs : List Loc), va_P D classes (wD cI cZ q0 s0 ++ wI cI a1 n1 s1) H → va_D A (wD cI cZ q0 s0 ++ wI cI a1 n1 s1) → va_S A s.heap H locs → W p l e (headSpec (wsA yX1_readAll cX1_readAll 4 (some .int)) ({ frames := 5, cells := 0, slots := 0, locals := 106 })).room s m (#[.ref (q0 0), .ref a1, .int p1] : Array Value) below meth c H locs 0 0 (MQ below (va_Qi (fun (r : Int32) (u : CS × FA) => Q r u.1 u.2) (fun u t => va_P D classes (wD cI cZ q0 u.1 ++ wI cI a1 n1 u.2) t.heap) A) (#[.ref (q0 0), .ref a1, .int p1] : Array Value) s 0 0 A) (F0 m 0 ls []) := by
    intro H locs hP hD hS
    refine lv_aload_n hx hb dX1_readAll_0 rfl (lv_at hl 0 rfl) ?_
    have hPc : va_P D classes (wD cI cZ q0 s0) H := hP.sub [0, 1, 2, 3, 4, 5] rfl
    have hDc : va_D A (wD cI cZ q0 s0) := hD.sub [0, 1, 2, 3, 4, 5] (by decide) rfl
    have hFc := va_free (wc := (wD cI cZ q0 s0)) hD hS hA [0, 1, 2, 3, 4, 5] rfl
    refine va_callv (va_runV (As := []) (rest := []) ⟨hx, hb, hml, hown, hts⟩ (c_X1_forget l D cI cZ cW q0 H.size s0 _ hf) ⟨callB_of 0 hts (gA tw_209) rfl rfl rfl (ht _ tw_2) (ht _ tw_206) hd_X1_forget ⟨Nat.le_of_ble_eq_true rfl, Nat.le_of_ble_eq_true rfl⟩, ht _ tw_208, ht _ twp_0⟩ ⟨PW_blind, va_recv hK hP (ci := 1) (q0 := 0) rfl rfl, fun U hU hW => PW_mk hPc hDc hK hU hW⟩ rfl rfl hl.1 rfl (lv_room (Nat.le_of_ble_eq_true rfl)) dX1_readAll_1 ⟨Nat.zero_le _, Nat.zero_le _⟩) hS (fun q _ h => hFc q h) hFc (fun u t H1 locs ht1 hvm hf hB hz1 hk1 hS => ?_)
    obtain ⟨s0_9, rfl⟩ : ∃ z, z = u := ⟨_, rfl⟩
    rw [ht1] at hB
    obtain ⟨hP, hD⟩ := cj [0, 1, 2, 3, 4, 5] (wD cI cZ q0 s0) (wD cI cZ q0 s0_9) hP hD rfl rfl hk1 hB
    generalize H1 = H at hP hS ⊢
    have hP : va_P D classes (wD cI cZ q0 s0_9 ++ wI cI a1 n1 s1) H := hP
    have hD : va_D A (wD cI cZ q0 s0_9 ++ wI cI a1 n1 s1) := hD
    refine lv_iconst (v := (0 : Int32)) hx hb dX1_readAll_4 (by decide) ?_
    refine lv_istore_n (lv' := [(3, .int (0 : Int32)), (0, .ref (q0 0)), (1, .ref a1), (2, .int p1)]) hx hb dX1_readAll_5 rfl hl (by decide) rfl (fun ls hl => ?_)
    exact k_6 p1 (0 : Int32) s0_9 s1 H locs ls hf hP hD hS (lv_sub hl [1, 2, 3, 0] rfl)
  exact start s.heap [] hP hD hS
def wp_X4_addOne (p0 : Int32) (p1 : Int32) (p2 : Int32) (s0 : CS) (Q : CS → Prop) : Prop := (((s0.1 3) < 0 → Q s0) ∧ (¬ (s0.1 3) < 0 → (((6 : Int32) ≤ (s0.1 3) → Q s0) ∧ (¬ (6 : Int32) ≤ (s0.1 3) → vp_in (s0.1 3) 6 ∧ ∀ s0_4 : CS, s0_4 = sA s0 0 (s0.1 3).toNatClampNeg p0 → vp_in (s0_4.1 3) 6 ∧ ∀ s0_6 : CS, s0_6 = sA s0_4 1 (s0_4.1 3).toNatClampNeg p1 → vp_in (s0_6.1 3) 6 ∧ ∀ s0_8 : CS, s0_8 = sA s0_6 2 (s0_6.1 3).toNatClampNeg (vp_nar .boolean p2) → ∀ s0_9 : CS, s0_9 = sI s0_8 3 ((s0_8.1 3) + (1 : Int32)) → Q s0_9))))
set_option maxHeartbeats 4000000 in
set_option maxRecDepth 100000 in
theorem c_X4_addOne (l : Launch) (D : va_G) (cI cZ cW : ClassId) (q0 : Nat → Nat) (sz : Nat) (p0 : Int32) (p1 : Int32) (p2 : Int32) (s0 : CS) (Q : CS → Prop) (hf : wp_X4_addOne p0 p1 p2 s0 Q) : Met l yX4_addOne (wsA yX4_addOne cX4_addOne 4 none) ({ frames := 0, cells := 0, slots := 0, locals := 0 }) (PW D cI cZ cW [.ref (q0 0), .int p0, .int p1, .int p2] (wT cI cZ q0 s0) sz) (va_Qv (fun (u : CS) => Q u) (fun u t => va_P D classes (wT cI cZ q0 u) t.heap) (va_A (wT cI cZ q0 s0) sz)) 0 0 (va_A (wT cI cZ q0 s0) sz) := by
  refine Met.ofW (cc := cX4_addOne) (maxL := 4) (ret := none) (by decide) rfl ?_
  intro p e s m args below meth c s₁ B hml hv
  obtain ⟨rfl, hsz, hP, hK, hD0⟩ := hv
  have hx := B.exec
  have hb := B.bytes
  have hr := B.returns
  have hts := atoms_spec (ws := (wsA yX4_addOne cX4_addOne 4 none)) B.pre
  have ht : ∀ w ∈ lw_g, w.before _ s = true := fun w h => hts w (List.mem_cons_of_mem _ h)
  have hown : s.vm.findClass RX4 = some m.cls := findClass_of_methodNamed B.named
  have hlocks := B.notSynchronized
  subst hsz
  have hD := hD0.self (sz := s.heap.size)
  generalize hAe : va_A (wT cI cZ q0 s0) s.heap.size = A at hD ⊢
  have hA : ∀ q : Nat, s.heap.size ≤ q → A q := fun q h => by rw [← hAe]; exact Or.inr h
  have hS : va_S A s.heap s.heap [] := va_S.rf
  have hl := lv_entry ([.ref (q0 0), .int p0, .int p1, .int p2]) (n := 4) (Nat.le_of_ble_eq_true rfl)
  rw [lg_entry_eq]
  generalize (lg_sl ([.ref (q0 0), .int p0, .int p1, .int p2]) ++ List.replicate (4 - (lg_sl ([.ref (q0 0), .int p0, .int p1, .int p2])).length) Slot.unset).toArray = ls at hl ⊢
  have hl : lv_has ls 4 [(0, .ref (q0 0)), (1, .int p0), (2, .int p1), (3, .int p2)] := hl
  unfold wp_X4_addOne at hf
  have start : ∀ (H : Heap) (locs : List Loc), va_P D classes (wT cI cZ q0 s0) H → va_D A (wT cI cZ q0 s0) → va_S A s.heap H locs → W p l e (headSpec (wsA yX4_addOne cX4_addOne 4 none) ({ frames := 0, cells := 0, slots := 0, locals := 0 })).room s m (#[.ref (q0 0), .int p0, .int p1, .int p2] : Array Value) below meth c H locs 0 0 (MQ below (va_Qv (fun (u : CS) => Q u) (fun u t => va_P D classes (wT cI cZ q0 u) t.heap) A) (#[.ref (q0 0), .int p0, .int p1, .int p2] : Array Value) s 0 0 A) (F0 m 0 ls []) := by
    intro H locs hP hD hS
    refine lv_aload_n hx hb dX4_addOne_0 rfl (lv_at hl 0 rfl) ?_
    refine va_get (D := D) (ci := 2) (v := .int (s0.1 3)) (C := RX4) (T := TX4) (N := 4) hx hb ht inX4 hown hK hP 0 rfl rfl 3 (by decide) (ht _ tw_141) (fun _ h9 => h9) rfl dX4_addOne_1 ?_
    refine lv_if_lt (tgt := 56) hx hb dX4_addOne_4 (by decide) (fun c_1 => ?_) (fun c_1 => ?_)
    · have hf := hf.1 c_1
      exact W.vret hx hb hr (fun t ht hW => ⟨⟨s0, rfl, hf, P_heap ht hP⟩, hS.F ht⟩) hS.2.2 dX4_addOne_56
    · have hf := hf.2 c_1
      refine lv_aload_n hx hb dX4_addOne_7 rfl (lv_at hl 0 rfl) ?_
      refine va_get (D := D) (ci := 2) (v := .int (s0.1 3)) (C := RX4) (T := TX4) (N := 4) hx hb ht inX4 hown hK hP 0 rfl rfl 3 (by decide) (ht _ tw_141) (fun _ h9 => h9) rfl dX4_addOne_8 ?_
      refine lv_bipush (v := (6 : Int32)) hx hb dX4_addOne_11 (by decide) ?_
      refine lv_icmp_ge (tgt := 56) hx hb dX4_addOne_13 (by decide) (fun c_2 => ?_) (fun c_2 => ?_)
      · have hf := hf.1 c_2
        exact W.vret hx hb hr (fun t ht hW => ⟨⟨s0, rfl, hf, P_heap ht hP⟩, hS.F ht⟩) hS.2.2 dX4_addOne_56
      · have hf := hf.2 c_2
        refine lv_aload_n hx hb dX4_addOne_16 rfl (lv_at hl 0 rfl) ?_
        refine va_get (D := D) (ci := 2) (v := .ref (q0 1)) (C := RX4) (T := TX4) (N := 4) hx hb ht inX4 hown hK hP 0 rfl rfl 0 (by decide) (ht _ tw_138) (fun _ h9 => h9) rfl dX4_addOne_17 ?_
        refine lv_aload_n hx hb dX4_addOne_20 rfl (lv_at hl 0 rfl) ?_
        refine va_get (D := D) (ci := 2) (v := .int (s0.1 3)) (C := RX4) (T := TX4) (N := 4) hx hb ht inX4 hown hK hP 0 rfl rfl 3 (by decide) (ht _ tw_141) (fun _ h9 => h9) rfl dX4_addOne_21 ?_
        refine lv_iload_n hx hb dX4_addOne_24 rfl (lv_at hl 1 rfl) ?_
        obtain ⟨hi_3, hf⟩ := hf
        refine va_iast hx hb hK hP hD hS 1 0 rfl rfl hi_3 dX4_addOne_25 (fun H locs hP hD hS => ?_)
        obtain ⟨s0_4, es0_4⟩ : ∃ y : CS, y = sA s0 0 (s0.1 3).toNatClampNeg p0 := ⟨_, rfl⟩
        have hf := hf s0_4 es0_4
        have hP : va_P D classes (wT cI cZ q0 s0_4) H := by rw [es0_4]; exact hP
        have hD : va_D A (wT cI cZ q0 s0_4) := by rw [es0_4]; exact hD
        refine lv_aload_n hx hb dX4_addOne_26 rfl (lv_at hl 0 rfl) ?_
        refine va_get (D := D) (ci := 2) (v := .ref (q0 2)) (C := RX4) (T := TX4) (N := 4) hx hb ht inX4 hown hK hP 0 rfl rfl 1 (by decide) (ht _ tw_139) (fun _ h9 => h9) rfl dX4_addOne_27 ?_
        refine lv_aload_n hx hb dX4_addOne_30 rfl (lv_at hl 0 rfl) ?_
        refine va_get (D := D) (ci := 2) (v := .int (s0_4.1 3)) (C := RX4) (T := TX4) (N := 4) hx hb ht inX4 hown hK hP 0 rfl rfl 3 (by decide) (ht _ tw_141) (fun _ h9 => h9) rfl dX4_addOne_31 ?_
        refine lv_iload_n hx hb dX4_addOne_34 rfl (lv_at hl 2 rfl) ?_
        obtain ⟨hi_5, hf⟩ := hf
        refine va_iast hx hb hK hP hD hS 2 0 rfl rfl hi_5 dX4_addOne_35 (fun H locs hP hD hS => ?_)
        obtain ⟨s0_6, es0_6⟩ : ∃ y : CS, y = sA s0_4 1 (s0_4.1 3).toNatClampNeg p1 := ⟨_, rfl⟩
        have hf := hf s0_6 es0_6
        have hP : va_P D classes (wT cI cZ q0 s0_6) H := by rw [es0_6]; exact hP
        have hD : va_D A (wT cI cZ q0 s0_6) := by rw [es0_6]; exact hD
        refine lv_aload_n hx hb dX4_addOne_36 rfl (lv_at hl 0 rfl) ?_
        refine va_get (D := D) (ci := 2) (v := .ref (q0 3)) (C := RX4) (T := TX4) (N := 4) hx hb ht inX4 hown hK hP 0 rfl rfl 2 (by decide) (ht _ tw_140) (fun _ h9 => h9) rfl dX4_addOne_37 ?_
        refine lv_aload_n hx hb dX4_addOne_40 rfl (lv_at hl 0 rfl) ?_
        refine va_get (D := D) (ci := 2) (v := .int (s0_6.1 3)) (C := RX4) (T := TX4) (N := 4) hx hb ht inX4 hown hK hP 0 rfl rfl 3 (by decide) (ht _ tw_141) (fun _ h9 => h9) rfl dX4_addOne_41 ?_
        refine lv_iload_n hx hb dX4_addOne_44 rfl (lv_at hl 3 rfl) ?_
        obtain ⟨hi_7, hf⟩ := hf
        refine va_zast hx hb hK hP hD hS 3 1 rfl rfl hi_7 dX4_addOne_45 (fun H locs hP hD hS => ?_)
        obtain ⟨s0_8, es0_8⟩ : ∃ y : CS, y = sA s0_6 2 (s0_6.1 3).toNatClampNeg (vp_nar .boolean p2) := ⟨_, rfl⟩
        have hf := hf s0_8 es0_8
        have hP : va_P D classes (wT cI cZ q0 s0_8) H := by rw [es0_8]; exact hP
        have hD : va_D A (wT cI cZ q0 s0_8) := by rw [es0_8]; exact hD
        refine lv_aload_n hx hb dX4_addOne_46 rfl (lv_at hl 0 rfl) ?_
        refine lv_dup hx hb dX4_addOne_47 rfl ?_
        refine va_get (D := D) (ci := 2) (v := .int (s0_8.1 3)) (C := RX4) (T := TX4) (N := 4) hx hb ht inX4 hown hK hP 0 rfl rfl 3 (by decide) (ht _ tw_141) (fun _ h9 => h9) rfl dX4_addOne_48 ?_
        refine lv_iconst (v := (1 : Int32)) hx hb dX4_addOne_51 (by decide) ?_
        refine lv_iadd hx hb dX4_addOne_52 ?_
        refine va_put (D := D) (ci := 2) (v := .int ((s0_8.1 3) + (1 : Int32))) (ty := .int) (C := RX4) (T := TX4) (N := 4) hx hb ht inX4 tyX4 tyX4_ok nmX4 hown hK hP hD hS 0 rfl rfl 3 (by decide) (ht _ tw_141) (fun _ h9 => h9) rfl pf_I rfl rfl (Nat.le_of_ble_eq_true rfl) dX4_addOne_53 (fun H locs hP hD hS => ?_)
        obtain ⟨s0_9, es0_9⟩ : ∃ y : CS, y = sI s0_8 3 ((s0_8.1 3) + (1 : Int32)) := ⟨_, rfl⟩
        have hf := hf s0_9 es0_9
        have hP : va_P D classes (wT cI cZ q0 s0_9) H := by rw [es0_9]; exact hP
        have hD : va_D A (wT cI cZ q0 s0_9) := by rw [es0_9]; exact hD
        exact W.vret hx hb hr (fun t ht hW => ⟨⟨s0_9, rfl, hf, P_heap ht hP⟩, hS.F ht⟩) hS.2.2 dX4_addOne_56
  exact start s.heap [] hP hD hS
def B_X4_agrees_60 (G2 : (Int32 × Int32 × Int32) → Prop) (s0 : CS) (x1 : Int32) (x2 : Int32) (x3 : Int32) (Q : Int32 → Prop) : Prop := ∀ x3_1 : Int32, x3_1 = x3 + (1 : Int32) → G2 (x1, x2, x3_1)
def B_X4_agrees_35 (G2 : (Int32 × Int32 × Int32) → Prop) (s0 : CS) (x1 : Int32) (x2 : Int32) (x3 : Int32) (t0 : Int32) (Q : Int32 → Prop) : Prop := vp_in x3 6 ∧ ((¬ ((s0.2.1 1) x3.toNatClampNeg) = x1 → B_X4_agrees_60 G2 s0 x1 x2 x3 Q) ∧ (((s0.2.1 1) x3.toNatClampNeg) = x1 → vp_in x3 6 ∧ ((t0 = ((s0.2.1 2) x3.toNatClampNeg) → B_X4_agrees_60 G2 s0 x1 x2 x3 Q) ∧ (¬ t0 = ((s0.2.1 2) x3.toNatClampNeg) → Q (0 : Int32)))))
def LB_X4_agrees_2 (G2 : (Int32 × Int32 × Int32) → Prop) (s0 : CS) (x1 : Int32) (x2 : Int32) (x3 : Int32) (Q : Int32 → Prop) : Prop := (((6 : Int32) ≤ x3 → Q (1 : Int32)) ∧ (¬ (6 : Int32) ≤ x3 → (((s0.1 3) ≤ x3 → Q (1 : Int32)) ∧ (¬ (s0.1 3) ≤ x3 → vp_in x3 6 ∧ wp_X2_bitOf ((s0.2.1 0) x3.toNatClampNeg) (fun r_9 => (((x2 &&& r_9) = 0 → B_X4_agrees_35 G2 s0 x1 x2 x3 (0 : Int32) Q) ∧ (¬ (x2 &&& r_9) = 0 → B_X4_agrees_35 G2 s0 x1 x2 x3 (1 : Int32) Q)))))))
def B_X4_agrees_2 (s0 : CS) (x1 : Int32) (x2 : Int32) (x3 : Int32) (Q : Int32 → Prop) : Prop := LOOP (fun (G2 : (Int32 × Int32 × Int32) → Prop) z => LB_X4_agrees_2 G2 s0 z.1 z.2.1 z.2.2 Q) (x1, x2, x3)
def wp_X4_agrees (p0 : Int32) (p1 : Int32) (s0 : CS) (Q : Int32 → Prop) : Prop := B_X4_agrees_2 s0 p0 p1 (0 : Int32) Q
set_option maxHeartbeats 4000000 in
set_option maxRecDepth 100000 in
theorem c_X4_agrees (l : Launch) (D : va_G) (cI cZ cW : ClassId) (q0 : Nat → Nat) (p0 : Int32) (p1 : Int32) (s0 : CS) (Q : Int32 → Prop) (hf : wp_X4_agrees p0 p1 s0 Q) : Met l yX4_agrees (wsA yX4_agrees cX4_agrees 5 (some .boolean)) ({ frames := 2, cells := 0, slots := 0, locals := 40 }) (PR D cI cZ cW [.ref (q0 0), .int p0, .int p1] (wT cI cZ q0 s0)) (vp_Si Q) 0 0 (fun _ => False) := by
  refine Met.ofW (cc := cX4_agrees) (maxL := 5) (ret := (some .boolean)) (by decide) rfl ?_
  intro p e s m args below meth c s₁ B hml hv
  obtain ⟨rfl, hP, hK⟩ := hv
  have hx := B.exec
  have hb := B.bytes
  have hr := B.returns
  have hts := atoms_spec (ws := (wsA yX4_agrees cX4_agrees 5 (some .boolean))) B.pre
  have ht : ∀ w ∈ lw_g, w.before _ s = true := fun w h => hts w (List.mem_cons_of_mem _ h)
  have hown : s.vm.findClass RX4 = some m.cls := findClass_of_methodNamed B.named
  have hlocks := B.notSynchronized
  have hl := lv_entry ([.ref (q0 0), .int p0, .int p1]) (n := 5) (Nat.le_of_ble_eq_true rfl)
  rw [lg_entry_eq]
  generalize (lg_sl ([.ref (q0 0), .int p0, .int p1]) ++ List.replicate (5 - (lg_sl ([.ref (q0 0), .int p0, .int p1])).length) Slot.unset).toArray = ls at hl ⊢
  have hl : lv_has ls 5 [(0, .ref (q0 0)), (1, .int p0), (2, .int p1)] := hl
  unfold wp_X4_agrees at hf
  have k_2 : ∀ (x1 : Int32) (x2 : Int32) (x3 : Int32) (ls : Array Slot), B_X4_agrees_2 s0 x1 x2 x3 Q → lv_has ls 5 [(0, .ref (q0 0)), (1, .int x1), (2, .int x2), (3, .int x3)] → W p l e (headSpec (wsA yX4_agrees cX4_agrees 5 (some .boolean)) ({ frames := 2, cells := 0, slots := 0, locals := 40 })).room s m (#[.ref (q0 0), .int p0, .int p1] : Array Value) below meth c s.heap [] 0 0 (MQ below (vp_Si Q) (#[.ref (q0 0), .int p0, .int p1] : Array Value) s 0 0 (fun _ => False)) (F0 m 2 ls []) := by
    intro x1 x2 x3 ls hf hl
    unfold B_X4_agrees_2 at hf
    obtain ⟨I_2, ⟨n0_2, hI0_2⟩, hst_2⟩ := hf
    have main_2 : ∀ (n : Nat) (x1 : Int32) (x2 : Int32) (x3 : Int32) (ls : Array Slot), I_2 n (x1, x2, x3) → lv_has ls 5 [(0, .ref (q0 0)), (1, .int x1), (2, .int x2), (3, .int x3)] → W p l e (headSpec (wsA yX4_agrees cX4_agrees 5 (some .boolean)) ({ frames := 2, cells := 0, slots := 0, locals := 40 })).room s m (#[.ref (q0 0), .int p0, .int p1] : Array Value) below meth c s.heap [] 0 0 (MQ below (vp_Si Q) (#[.ref (q0 0), .int p0, .int p1] : Array Value) s 0 0 (fun _ => False)) (F0 m 2 ls []) := by
      intro n
      induction n using Nat.strongRecOn with
      | _ n_2 ih_2 =>
      intro x1 x2 x3 ls hI hl
      have hf : LB_X4_agrees_2 (fun z => ∃ k, k < n_2 ∧ I_2 k z) s0 x1 x2 x3 Q := hst_2 n_2 (x1, x2, x3) hI
      have hG_2 : ∀ (x1 : Int32) (x2 : Int32) (x3 : Int32) (ls : Array Slot), (∃ k, k < n_2 ∧ I_2 k (x1, x2, x3)) → lv_has ls 5 [(0, .ref (q0 0)), (1, .int x1), (2, .int x2), (3, .int x3)] → W p l e (headSpec (wsA yX4_agrees cX4_agrees 5 (some .boolean)) ({ frames := 2, cells := 0, slots := 0, locals := 40 })).room s m (#[.ref (q0 0), .int p0, .int p1] : Array Value) below meth c s.heap [] 0 0 (MQ below (vp_Si Q) (#[.ref (q0 0), .int p0, .int p1] : Array Value) s 0 0 (fun _ => False)) (F0 m 2 ls []) := by
        rintro x1 x2 x3 ls ⟨k, hk, hI⟩ hl
        exact ih_2 k hk x1 x2 x3 ls hI hl
      unfold LB_X4_agrees_2 at hf
      have k_60 : ∀ (x1 : Int32) (x2 : Int32) (x3 : Int32) (ls : Array Slot), B_X4_agrees_60 (fun z => ∃ k, k < n_2 ∧ I_2 k z) s0 x1 x2 x3 Q → lv_has ls 5 [(0, .ref (q0 0)), (1, .int x1), (2, .int x2), (3, .int x3)] → W p l e (headSpec (wsA yX4_agrees cX4_agrees 5 (some .boolean)) ({ frames := 2, cells := 0, slots := 0, locals := 40 })).room s m (#[.ref (q0 0), .int p0, .int p1] : Array Value) below meth c s.heap [] 0 0 (MQ below (vp_Si Q) (#[.ref (q0 0), .int p0, .int p1] : Array Value) s 0 0 (fun _ => False)) (F0 m 60 ls []) := by
        intro x1 x2 x3 ls hf hl
        unfold B_X4_agrees_60 at hf
        obtain ⟨x3_1, ex3_1⟩ : ∃ y : Int32, y = x3 + (1 : Int32) := ⟨_, rfl⟩
        have hf := hf x3_1 ex3_1
        refine lv_iinc (v := x3_1) (lv' := [(3, .int x3_1), (0, .ref (q0 0)), (1, .int x1), (2, .int x2)]) hx hb dX4_agrees_60 hl (k := 3) rfl (by rw [ex3_1]; rfl) (by decide) rfl (fun ls hl => ?_)
        refine lv_goto (tgt := 2) hx hb dX4_agrees_63 (by decide) ?_
        exact hG_2 x1 x2 x3_1 ls hf (lv_sub hl [1, 2, 3, 0] rfl)
      have k_35 : ∀ (x1 : Int32) (x2 : Int32) (x3 : Int32) (t0 : Int32) (ls : Array Slot), B_X4_agrees_35 (fun z => ∃ k, k < n_2 ∧ I_2 k z) s0 x1 x2 x3 t0 Q → lv_has ls 5 [(0, .ref (q0 0)), (1, .int x1), (2, .int x2), (3, .int x3)] → W p l e (headSpec (wsA yX4_agrees cX4_agrees 5 (some .boolean)) ({ frames := 2, cells := 0, slots := 0, locals := 40 })).room s m (#[.ref (q0 0), .int p0, .int p1] : Array Value) below meth c s.heap [] 0 0 (MQ below (vp_Si Q) (#[.ref (q0 0), .int p0, .int p1] : Array Value) s 0 0 (fun _ => False)) (F0 m 35 ls [.int t0]) := by
        intro x1 x2 x3 t0 ls hf hl
        unfold B_X4_agrees_35 at hf
        refine lv_istore (lv' := [(4, .int t0), (0, .ref (q0 0)), (1, .int x1), (2, .int x2), (3, .int x3)]) hx hb dX4_agrees_35 hl (by decide) rfl (fun ls hl => ?_)
        refine lv_aload_n hx hb dX4_agrees_37 rfl (lv_at hl 1 rfl) ?_
        refine va_get (D := D) (ci := 2) (v := .ref (q0 2)) (C := RX4) (T := TX4) (N := 4) hx hb ht inX4 hown hK hP 0 rfl rfl 1 (by decide) (ht _ tw_139) (fun _ h9 => h9) rfl dX4_agrees_38 ?_
        refine lv_iload_n hx hb dX4_agrees_41 rfl (lv_at hl 4 rfl) ?_
        obtain ⟨hi_2, hf⟩ := hf
        refine va_iald hx hb hK hP 2 0 rfl rfl hi_2 dX4_agrees_42 ?_
        refine lv_iload_n hx hb dX4_agrees_43 rfl (lv_at hl 2 rfl) ?_
        refine lv_icmp_ne (tgt := 60) hx hb dX4_agrees_44 (by decide) (fun c_3 => ?_) (fun c_3 => ?_)
        · have hf := hf.1 c_3
          exact k_60 x1 x2 x3 ls hf (lv_sub hl [1, 2, 3, 4] rfl)
        · have hf := hf.2 c_3
          refine lv_iload hx hb dX4_agrees_47 (lv_at hl 0 rfl) ?_
          refine lv_aload_n hx hb dX4_agrees_49 rfl (lv_at hl 1 rfl) ?_
          refine va_get (D := D) (ci := 2) (v := .ref (q0 3)) (C := RX4) (T := TX4) (N := 4) hx hb ht inX4 hown hK hP 0 rfl rfl 2 (by decide) (ht _ tw_140) (fun _ h9 => h9) rfl dX4_agrees_50 ?_
          refine lv_iload_n hx hb dX4_agrees_53 rfl (lv_at hl 4 rfl) ?_
          obtain ⟨hi_4, hf⟩ := hf
          refine va_zald hx hb hK hP 3 1 rfl rfl hi_4 dX4_agrees_54 ?_
          refine lv_icmp_eq (tgt := 60) hx hb dX4_agrees_55 (by decide) (fun c_5 => ?_) (fun c_5 => ?_)
          · have hf := hf.1 c_5
            exact k_60 x1 x2 x3 ls hf (lv_sub hl [1, 2, 3, 4] rfl)
          · have hf := hf.2 c_5
            refine lv_iconst (v := (0 : Int32)) hx hb dX4_agrees_58 (by decide) ?_
            exact W.zret (v := (0 : Int32)) hx hb hr rfl (fun t ht hW => ⟨(0 : Int32), rfl, hf, ht⟩) (fun q h => absurd h List.not_mem_nil) dX4_agrees_59
      refine lv_iload_n hx hb dX4_agrees_2 rfl (lv_at hl 3 rfl) ?_
      refine lv_bipush (v := (6 : Int32)) hx hb dX4_agrees_3 (by decide) ?_
      refine lv_icmp_ge (tgt := 66) hx hb dX4_agrees_5 (by decide) (fun c_6 => ?_) (fun c_6 => ?_)
      · have hf := hf.1 c_6
        refine lv_iconst (v := (1 : Int32)) hx hb dX4_agrees_66 (by decide) ?_
        exact W.zret (v := (1 : Int32)) hx hb hr rfl (fun t ht hW => ⟨(1 : Int32), rfl, hf, ht⟩) (fun q h => absurd h List.not_mem_nil) dX4_agrees_67
      · have hf := hf.2 c_6
        refine lv_iload_n hx hb dX4_agrees_8 rfl (lv_at hl 3 rfl) ?_
        refine lv_aload_n hx hb dX4_agrees_9 rfl (lv_at hl 0 rfl) ?_
        refine va_get (D := D) (ci := 2) (v := .int (s0.1 3)) (C := RX4) (T := TX4) (N := 4) hx hb ht inX4 hown hK hP 0 rfl rfl 3 (by decide) (ht _ tw_141) (fun _ h9 => h9) rfl dX4_agrees_10 ?_
        refine lv_icmp_ge (tgt := 66) hx hb dX4_agrees_13 (by decide) (fun c_7 => ?_) (fun c_7 => ?_)
        · have hf := hf.1 c_7
          refine lv_iconst (v := (1 : Int32)) hx hb dX4_agrees_66 (by decide) ?_
          exact W.zret (v := (1 : Int32)) hx hb hr rfl (fun t ht hW => ⟨(1 : Int32), rfl, hf, ht⟩) (fun q h => absurd h List.not_mem_nil) dX4_agrees_67
        · have hf := hf.2 c_7
          refine lv_iload_n hx hb dX4_agrees_16 rfl (lv_at hl 2 rfl) ?_
          refine lv_aload_n hx hb dX4_agrees_17 rfl (lv_at hl 0 rfl) ?_
          refine va_get (D := D) (ci := 2) (v := .ref (q0 1)) (C := RX4) (T := TX4) (N := 4) hx hb ht inX4 hown hK hP 0 rfl rfl 0 (by decide) (ht _ tw_138) (fun _ h9 => h9) rfl dX4_agrees_18 ?_
          refine lv_iload_n hx hb dX4_agrees_21 rfl (lv_at hl 3 rfl) ?_
          obtain ⟨hi_8, hf⟩ := hf
          refine va_iald hx hb hK hP 1 0 rfl rfl hi_8 dX4_agrees_22 ?_
          have hPc : va_P D classes ([] : va_W) s.heap := hP.sub [] rfl
          refine vp_callSi (W.runS (As := [.int ((s0.2.1 0) x3.toNatClampNeg)]) (rest := [.int x2]) ⟨hx, hb, hml, hown, hts⟩ (c_X2_bitOf l D cI cZ cW  ((s0.2.1 0) x3.toNatClampNeg) _ hf) ⟨callB_of 1 hts (gA tw_248) rfl rfl rfl (ht _ tw_9) (ht _ tw_567) hd_X2_bitOf ⟨Nat.le_of_ble_eq_true rfl, Nat.le_of_ble_eq_true rfl⟩, ht _ tw_247⟩ ⟨PR_blind, fun U hU hW => PR_mk hPc hK hU hW⟩ rfl rfl hl.1 rfl (lv_room (Nat.le_of_ble_eq_true rfl)) dX4_agrees_23 ⟨Nat.zero_le _, Nat.zero_le _⟩) (fun r_9 hf => ?_)
          refine lv_iand hx hb dX4_agrees_26 ?_
          refine lv_if_eq (tgt := 34) hx hb dX4_agrees_27 (by decide) (fun c_10 => ?_) (fun c_10 => ?_)
          · have hf := hf.1 c_10
            refine lv_iconst (v := (0 : Int32)) hx hb dX4_agrees_34 (by decide) ?_
            exact k_35 x1 x2 x3 (0 : Int32) ls hf (lv_sub hl [0, 1, 2, 3] rfl)
          · have hf := hf.2 c_10
            refine lv_iconst (v := (1 : Int32)) hx hb dX4_agrees_30 (by decide) ?_
            refine lv_goto (tgt := 35) hx hb dX4_agrees_31 (by decide) ?_
            exact k_35 x1 x2 x3 (1 : Int32) ls hf (lv_sub hl [0, 1, 2, 3] rfl)
    exact main_2 n0_2 x1 x2 x3 ls hI0_2 hl
  refine lv_iconst (v := (0 : Int32)) hx hb dX4_agrees_0 (by decide) ?_
  refine lv_istore_n (lv' := [(3, .int (0 : Int32)), (0, .ref (q0 0)), (1, .int p0), (2, .int p1)]) hx hb dX4_agrees_1 rfl hl (by decide) rfl (fun ls hl => ?_)
  exact k_2 p0 p1 (0 : Int32) ls hf (lv_sub hl [1, 2, 3, 0] rfl)
