theorem dX2_hasCell_0 : decode cX2_hasCell 0 = .ok (.iload_n 0, 1) := by decide +kernel
theorem dX2_hasCell_1 : decode cX2_hasCell 1 = .ok (.ifCond .lt 13, 3) := by decide +kernel
theorem dX2_hasCell_4 : decode cX2_hasCell 4 = .ok (.iload_n 0, 1) := by decide +kernel
theorem dX2_hasCell_5 : decode cX2_hasCell 5 = .ok (.bipush 20, 2) := by decide +kernel
theorem dX2_hasCell_7 : decode cX2_hasCell 7 = .ok (.if_icmp .ge 7, 3) := by decide +kernel
theorem dX2_hasCell_10 : decode cX2_hasCell 10 = .ok (.iconst 1, 1) := by decide +kernel
theorem dX2_hasCell_11 : decode cX2_hasCell 11 = .ok (.goto 4, 3) := by decide +kernel
theorem dX2_hasCell_14 : decode cX2_hasCell 14 = .ok (.iconst 0, 1) := by decide +kernel
theorem dX2_hasCell_15 : decode cX2_hasCell 15 = .ok (.ireturn, 1) := by decide +kernel
theorem dX2_bitOf_0 : decode cX2_bitOf 0 = .ok (.iload_n 0, 1) := by decide +kernel
theorem dX2_bitOf_1 : decode cX2_bitOf 1 = .ok (.invokestatic 11, 3) := by decide +kernel
theorem dX2_bitOf_4 : decode cX2_bitOf 4 = .ok (.ifCond .eq 9, 3) := by decide +kernel
theorem dX2_bitOf_7 : decode cX2_bitOf 7 = .ok (.iconst 1, 1) := by decide +kernel
theorem dX2_bitOf_8 : decode cX2_bitOf 8 = .ok (.iload_n 0, 1) := by decide +kernel
theorem dX2_bitOf_9 : decode cX2_bitOf 9 = .ok (.ishl, 1) := by decide +kernel
theorem dX2_bitOf_10 : decode cX2_bitOf 10 = .ok (.goto 4, 3) := by decide +kernel
theorem dX2_bitOf_13 : decode cX2_bitOf 13 = .ok (.iconst 0, 1) := by decide +kernel
theorem dX2_bitOf_14 : decode cX2_bitOf 14 = .ok (.ireturn, 1) := by decide +kernel
theorem dX2_rowCells_0 : decode cX2_rowCells 0 = .ok (.iload_n 0, 1) := by decide +kernel
theorem dX2_rowCells_1 : decode cX2_rowCells 1 = .ok (.ifCond .lt 17, 3) := by decide +kernel
theorem dX2_rowCells_4 : decode cX2_rowCells 4 = .ok (.iload_n 0, 1) := by decide +kernel
theorem dX2_rowCells_5 : decode cX2_rowCells 5 = .ok (.iconst 4, 1) := by decide +kernel
theorem dX2_rowCells_6 : decode cX2_rowCells 6 = .ok (.if_icmp .ge 12, 3) := by decide +kernel
theorem dX2_rowCells_9 : decode cX2_rowCells 9 = .ok (.bipush 31, 2) := by decide +kernel
theorem dX2_rowCells_11 : decode cX2_rowCells 11 = .ok (.iconst 5, 1) := by decide +kernel
theorem dX2_rowCells_12 : decode cX2_rowCells 12 = .ok (.iload_n 0, 1) := by decide +kernel
theorem dX2_rowCells_13 : decode cX2_rowCells 13 = .ok (.imul, 1) := by decide +kernel
theorem dX2_rowCells_14 : decode cX2_rowCells 14 = .ok (.ishl, 1) := by decide +kernel
theorem dX2_rowCells_15 : decode cX2_rowCells 15 = .ok (.goto 4, 3) := by decide +kernel
theorem dX2_rowCells_18 : decode cX2_rowCells 18 = .ok (.iconst 0, 1) := by decide +kernel
theorem dX2_rowCells_19 : decode cX2_rowCells 19 = .ok (.ireturn, 1) := by decide +kernel
theorem dX2_cellsLeftOf_0 : decode cX2_cellsLeftOf 0 = .ok (.iconst 0, 1) := by decide +kernel
theorem dX2_cellsLeftOf_1 : decode cX2_cellsLeftOf 1 = .ok (.istore_n 1, 1) := by decide +kernel
theorem dX2_cellsLeftOf_2 : decode cX2_cellsLeftOf 2 = .ok (.iconst 0, 1) := by decide +kernel
theorem dX2_cellsLeftOf_3 : decode cX2_cellsLeftOf 3 = .ok (.istore_n 2, 1) := by decide +kernel
theorem dX2_cellsLeftOf_4 : decode cX2_cellsLeftOf 4 = .ok (.iload_n 2, 1) := by decide +kernel
theorem dX2_cellsLeftOf_5 : decode cX2_cellsLeftOf 5 = .ok (.iconst 5, 1) := by decide +kernel
theorem dX2_cellsLeftOf_6 : decode cX2_cellsLeftOf 6 = .ok (.if_icmp .ge 21, 3) := by decide +kernel
theorem dX2_cellsLeftOf_9 : decode cX2_cellsLeftOf 9 = .ok (.iload_n 2, 1) := by decide +kernel
theorem dX2_cellsLeftOf_10 : decode cX2_cellsLeftOf 10 = .ok (.iload_n 0, 1) := by decide +kernel
theorem dX2_cellsLeftOf_11 : decode cX2_cellsLeftOf 11 = .ok (.if_icmp .ge 10, 3) := by decide +kernel
theorem dX2_cellsLeftOf_14 : decode cX2_cellsLeftOf 14 = .ok (.iload_n 1, 1) := by decide +kernel
theorem dX2_cellsLeftOf_15 : decode cX2_cellsLeftOf 15 = .ok (.ldc 15, 2) := by decide +kernel
theorem dX2_cellsLeftOf_17 : decode cX2_cellsLeftOf 17 = .ok (.iload_n 2, 1) := by decide +kernel
theorem dX2_cellsLeftOf_18 : decode cX2_cellsLeftOf 18 = .ok (.ishl, 1) := by decide +kernel
theorem dX2_cellsLeftOf_19 : decode cX2_cellsLeftOf 19 = .ok (.ior, 1) := by decide +kernel
theorem dX2_cellsLeftOf_20 : decode cX2_cellsLeftOf 20 = .ok (.istore_n 1, 1) := by decide +kernel
theorem dX2_cellsLeftOf_21 : decode cX2_cellsLeftOf 21 = .ok (.iinc 2 1, 3) := by decide +kernel
theorem dX2_cellsLeftOf_24 : decode cX2_cellsLeftOf 24 = .ok (.goto (-20), 3) := by decide +kernel
theorem dX2_cellsLeftOf_27 : decode cX2_cellsLeftOf 27 = .ok (.iload_n 1, 1) := by decide +kernel
theorem dX2_cellsLeftOf_28 : decode cX2_cellsLeftOf 28 = .ok (.ireturn, 1) := by decide +kernel
theorem dX2_leastOf_0 : decode cX2_leastOf 0 = .ok (.iload_n 0, 1) := by decide +kernel
theorem dX2_leastOf_1 : decode cX2_leastOf 1 = .ok (.iload_n 0, 1) := by decide +kernel
theorem dX2_leastOf_2 : decode cX2_leastOf 2 = .ok (.ineg, 1) := by decide +kernel
theorem dX2_leastOf_3 : decode cX2_leastOf 3 = .ok (.iand, 1) := by decide +kernel
theorem dX2_leastOf_4 : decode cX2_leastOf 4 = .ok (.ireturn, 1) := by decide +kernel
theorem dX2_beside_0 : decode cX2_beside 0 = .ok (.iload_n 0, 1) := by decide +kernel
theorem dX2_beside_1 : decode cX2_beside 1 = .ok (.iconst 5, 1) := by decide +kernel
theorem dX2_beside_2 : decode cX2_beside 2 = .ok (.ishl, 1) := by decide +kernel
theorem dX2_beside_3 : decode cX2_beside 3 = .ok (.iload_n 0, 1) := by decide +kernel
theorem dX2_beside_4 : decode cX2_beside 4 = .ok (.iconst 5, 1) := by decide +kernel
theorem dX2_beside_5 : decode cX2_beside 5 = .ok (.iushr, 1) := by decide +kernel
theorem dX2_beside_6 : decode cX2_beside 6 = .ok (.ior, 1) := by decide +kernel
theorem dX2_beside_7 : decode cX2_beside 7 = .ok (.istore_n 1, 1) := by decide +kernel
theorem dX2_beside_8 : decode cX2_beside 8 = .ok (.iload_n 0, 1) := by decide +kernel
theorem dX2_beside_9 : decode cX2_beside 9 = .ok (.ldc 16, 2) := by decide +kernel
theorem dX2_beside_11 : decode cX2_beside 11 = .ok (.iand, 1) := by decide +kernel
theorem dX2_beside_12 : decode cX2_beside 12 = .ok (.iconst 1, 1) := by decide +kernel
theorem dX2_beside_13 : decode cX2_beside 13 = .ok (.ishl, 1) := by decide +kernel
theorem dX2_beside_14 : decode cX2_beside 14 = .ok (.istore_n 2, 1) := by decide +kernel
theorem dX2_beside_15 : decode cX2_beside 15 = .ok (.iload_n 0, 1) := by decide +kernel
theorem dX2_beside_16 : decode cX2_beside 16 = .ok (.ldc 17, 2) := by decide +kernel
theorem dX2_beside_18 : decode cX2_beside 18 = .ok (.iand, 1) := by decide +kernel
theorem dX2_beside_19 : decode cX2_beside 19 = .ok (.iconst 1, 1) := by decide +kernel
theorem dX2_beside_20 : decode cX2_beside 20 = .ok (.iushr, 1) := by decide +kernel
theorem dX2_beside_21 : decode cX2_beside 21 = .ok (.istore_n 3, 1) := by decide +kernel
theorem dX2_beside_22 : decode cX2_beside 22 = .ok (.iload_n 1, 1) := by decide +kernel
theorem dX2_beside_23 : decode cX2_beside 23 = .ok (.iload_n 2, 1) := by decide +kernel
theorem dX2_beside_24 : decode cX2_beside 24 = .ok (.ior, 1) := by decide +kernel
theorem dX2_beside_25 : decode cX2_beside 25 = .ok (.iload_n 3, 1) := by decide +kernel
theorem dX2_beside_26 : decode cX2_beside 26 = .ok (.ior, 1) := by decide +kernel
theorem dX2_beside_27 : decode cX2_beside 27 = .ok (.ldc 18, 2) := by decide +kernel
theorem dX2_beside_29 : decode cX2_beside 29 = .ok (.iand, 1) := by decide +kernel
theorem dX2_beside_30 : decode cX2_beside 30 = .ok (.ireturn, 1) := by decide +kernel
theorem dX2_columnsOf_0 : decode cX2_columnsOf 0 = .ok (.iconst 0, 1) := by decide +kernel
theorem dX2_columnsOf_1 : decode cX2_columnsOf 1 = .ok (.istore_n 1, 1) := by decide +kernel
theorem dX2_columnsOf_2 : decode cX2_columnsOf 2 = .ok (.iconst 0, 1) := by decide +kernel
theorem dX2_columnsOf_3 : decode cX2_columnsOf 3 = .ok (.istore_n 2, 1) := by decide +kernel
theorem dX2_columnsOf_4 : decode cX2_columnsOf 4 = .ok (.iload_n 2, 1) := by decide +kernel
theorem dX2_columnsOf_5 : decode cX2_columnsOf 5 = .ok (.iconst 5, 1) := by decide +kernel
theorem dX2_columnsOf_6 : decode cX2_columnsOf 6 = .ok (.if_icmp .ge 24, 3) := by decide +kernel
theorem dX2_columnsOf_9 : decode cX2_columnsOf 9 = .ok (.ldc 15, 2) := by decide +kernel
theorem dX2_columnsOf_11 : decode cX2_columnsOf 11 = .ok (.iload_n 2, 1) := by decide +kernel
theorem dX2_columnsOf_12 : decode cX2_columnsOf 12 = .ok (.ishl, 1) := by decide +kernel
theorem dX2_columnsOf_13 : decode cX2_columnsOf 13 = .ok (.istore_n 3, 1) := by decide +kernel
theorem dX2_columnsOf_14 : decode cX2_columnsOf 14 = .ok (.iload_n 0, 1) := by decide +kernel
theorem dX2_columnsOf_15 : decode cX2_columnsOf 15 = .ok (.iload_n 3, 1) := by decide +kernel
theorem dX2_columnsOf_16 : decode cX2_columnsOf 16 = .ok (.iand, 1) := by decide +kernel
theorem dX2_columnsOf_17 : decode cX2_columnsOf 17 = .ok (.ifCond .eq 7, 3) := by decide +kernel
theorem dX2_columnsOf_20 : decode cX2_columnsOf 20 = .ok (.iload_n 1, 1) := by decide +kernel
theorem dX2_columnsOf_21 : decode cX2_columnsOf 21 = .ok (.iload_n 3, 1) := by decide +kernel
theorem dX2_columnsOf_22 : decode cX2_columnsOf 22 = .ok (.ior, 1) := by decide +kernel
theorem dX2_columnsOf_23 : decode cX2_columnsOf 23 = .ok (.istore_n 1, 1) := by decide +kernel
theorem dX2_columnsOf_24 : decode cX2_columnsOf 24 = .ok (.iinc 2 1, 3) := by decide +kernel
theorem dX2_columnsOf_27 : decode cX2_columnsOf 27 = .ok (.goto (-23), 3) := by decide +kernel
theorem dX2_columnsOf_30 : decode cX2_columnsOf 30 = .ok (.iload_n 1, 1) := by decide +kernel
theorem dX2_columnsOf_31 : decode cX2_columnsOf 31 = .ok (.ireturn, 1) := by decide +kernel
theorem dX2_flood_0 : decode cX2_flood 0 = .ok (.iload_n 0, 1) := by decide +kernel
theorem dX2_flood_1 : decode cX2_flood 1 = .ok (.istore_n 2, 1) := by decide +kernel
theorem dX2_flood_2 : decode cX2_flood 2 = .ok (.iconst 0, 1) := by decide +kernel
theorem dX2_flood_3 : decode cX2_flood 3 = .ok (.istore_n 3, 1) := by decide +kernel
theorem dX2_flood_4 : decode cX2_flood 4 = .ok (.iload_n 3, 1) := by decide +kernel
theorem dX2_flood_5 : decode cX2_flood 5 = .ok (.bipush 20, 2) := by decide +kernel
theorem dX2_flood_7 : decode cX2_flood 7 = .ok (.if_icmp .ge 30, 3) := by decide +kernel
theorem dX2_flood_10 : decode cX2_flood 10 = .ok (.iload_n 2, 1) := by decide +kernel
theorem dX2_flood_11 : decode cX2_flood 11 = .ok (.iload_n 2, 1) := by decide +kernel
theorem dX2_flood_12 : decode cX2_flood 12 = .ok (.invokestatic 19, 3) := by decide +kernel
theorem dX2_flood_15 : decode cX2_flood 15 = .ok (.iload_n 1, 1) := by decide +kernel
theorem dX2_flood_16 : decode cX2_flood 16 = .ok (.iand, 1) := by decide +kernel
theorem dX2_flood_17 : decode cX2_flood 17 = .ok (.ior, 1) := by decide +kernel
theorem dX2_flood_18 : decode cX2_flood 18 = .ok (.istore 4, 2) := by decide +kernel
theorem dX2_flood_20 : decode cX2_flood 20 = .ok (.iload 4, 2) := by decide +kernel
theorem dX2_flood_22 : decode cX2_flood 22 = .ok (.iload_n 2, 1) := by decide +kernel
theorem dX2_flood_23 : decode cX2_flood 23 = .ok (.if_icmp .ne 5, 3) := by decide +kernel
theorem dX2_flood_26 : decode cX2_flood 26 = .ok (.iload_n 2, 1) := by decide +kernel
theorem dX2_flood_27 : decode cX2_flood 27 = .ok (.ireturn, 1) := by decide +kernel
theorem dX2_flood_28 : decode cX2_flood 28 = .ok (.iload 4, 2) := by decide +kernel
theorem dX2_flood_30 : decode cX2_flood 30 = .ok (.istore_n 2, 1) := by decide +kernel
theorem dX2_flood_31 : decode cX2_flood 31 = .ok (.iinc 3 1, 3) := by decide +kernel
theorem dX2_flood_34 : decode cX2_flood 34 = .ok (.goto (-30), 3) := by decide +kernel
theorem dX2_flood_37 : decode cX2_flood 37 = .ok (.iload_n 2, 1) := by decide +kernel
theorem dX2_flood_38 : decode cX2_flood 38 = .ok (.ireturn, 1) := by decide +kernel
theorem dJ6_bitCount_0f7a4_0 : decode cJ6_bitCount_0f7a4 0 = .ok (.iload_n 0, 1) := by decide +kernel
theorem dJ6_bitCount_0f7a4_1 : decode cJ6_bitCount_0f7a4 1 = .ok (.iload_n 0, 1) := by decide +kernel
theorem dJ6_bitCount_0f7a4_2 : decode cJ6_bitCount_0f7a4 2 = .ok (.iconst 1, 1) := by decide +kernel
theorem dJ6_bitCount_0f7a4_3 : decode cJ6_bitCount_0f7a4 3 = .ok (.iushr, 1) := by decide +kernel
theorem dJ6_bitCount_0f7a4_4 : decode cJ6_bitCount_0f7a4 4 = .ok (.ldc_w 265, 3) := by decide +kernel
theorem dJ6_bitCount_0f7a4_7 : decode cJ6_bitCount_0f7a4 7 = .ok (.iand, 1) := by decide +kernel
theorem dJ6_bitCount_0f7a4_8 : decode cJ6_bitCount_0f7a4 8 = .ok (.isub, 1) := by decide +kernel
theorem dJ6_bitCount_0f7a4_9 : decode cJ6_bitCount_0f7a4 9 = .ok (.istore_n 0, 1) := by decide +kernel
theorem dJ6_bitCount_0f7a4_10 : decode cJ6_bitCount_0f7a4 10 = .ok (.iload_n 0, 1) := by decide +kernel
theorem dJ6_bitCount_0f7a4_11 : decode cJ6_bitCount_0f7a4 11 = .ok (.ldc_w 266, 3) := by decide +kernel
theorem dJ6_bitCount_0f7a4_14 : decode cJ6_bitCount_0f7a4 14 = .ok (.iand, 1) := by decide +kernel
theorem dJ6_bitCount_0f7a4_15 : decode cJ6_bitCount_0f7a4 15 = .ok (.iload_n 0, 1) := by decide +kernel
theorem dJ6_bitCount_0f7a4_16 : decode cJ6_bitCount_0f7a4 16 = .ok (.iconst 2, 1) := by decide +kernel
theorem dJ6_bitCount_0f7a4_17 : decode cJ6_bitCount_0f7a4 17 = .ok (.iushr, 1) := by decide +kernel
theorem dJ6_bitCount_0f7a4_18 : decode cJ6_bitCount_0f7a4 18 = .ok (.ldc_w 266, 3) := by decide +kernel
theorem dJ6_bitCount_0f7a4_21 : decode cJ6_bitCount_0f7a4 21 = .ok (.iand, 1) := by decide +kernel
theorem dJ6_bitCount_0f7a4_22 : decode cJ6_bitCount_0f7a4 22 = .ok (.iadd, 1) := by decide +kernel
theorem dJ6_bitCount_0f7a4_23 : decode cJ6_bitCount_0f7a4 23 = .ok (.istore_n 0, 1) := by decide +kernel
theorem dJ6_bitCount_0f7a4_24 : decode cJ6_bitCount_0f7a4 24 = .ok (.iload_n 0, 1) := by decide +kernel
theorem dJ6_bitCount_0f7a4_25 : decode cJ6_bitCount_0f7a4 25 = .ok (.iload_n 0, 1) := by decide +kernel
theorem dJ6_bitCount_0f7a4_26 : decode cJ6_bitCount_0f7a4 26 = .ok (.iconst 4, 1) := by decide +kernel
theorem dJ6_bitCount_0f7a4_27 : decode cJ6_bitCount_0f7a4 27 = .ok (.iushr, 1) := by decide +kernel
theorem dJ6_bitCount_0f7a4_28 : decode cJ6_bitCount_0f7a4 28 = .ok (.iadd, 1) := by decide +kernel
theorem dJ6_bitCount_0f7a4_29 : decode cJ6_bitCount_0f7a4 29 = .ok (.ldc_w 267, 3) := by decide +kernel
theorem dJ6_bitCount_0f7a4_32 : decode cJ6_bitCount_0f7a4 32 = .ok (.iand, 1) := by decide +kernel
theorem dJ6_bitCount_0f7a4_33 : decode cJ6_bitCount_0f7a4 33 = .ok (.istore_n 0, 1) := by decide +kernel
theorem dJ6_bitCount_0f7a4_34 : decode cJ6_bitCount_0f7a4 34 = .ok (.iload_n 0, 1) := by decide +kernel
theorem dJ6_bitCount_0f7a4_35 : decode cJ6_bitCount_0f7a4 35 = .ok (.iload_n 0, 1) := by decide +kernel
theorem dJ6_bitCount_0f7a4_36 : decode cJ6_bitCount_0f7a4 36 = .ok (.bipush 8, 2) := by decide +kernel
theorem dJ6_bitCount_0f7a4_38 : decode cJ6_bitCount_0f7a4 38 = .ok (.iushr, 1) := by decide +kernel
theorem dJ6_bitCount_0f7a4_39 : decode cJ6_bitCount_0f7a4 39 = .ok (.iadd, 1) := by decide +kernel
theorem dJ6_bitCount_0f7a4_40 : decode cJ6_bitCount_0f7a4 40 = .ok (.istore_n 0, 1) := by decide +kernel
theorem dJ6_bitCount_0f7a4_41 : decode cJ6_bitCount_0f7a4 41 = .ok (.iload_n 0, 1) := by decide +kernel
theorem dJ6_bitCount_0f7a4_42 : decode cJ6_bitCount_0f7a4 42 = .ok (.iload_n 0, 1) := by decide +kernel
theorem dJ6_bitCount_0f7a4_43 : decode cJ6_bitCount_0f7a4 43 = .ok (.bipush 16, 2) := by decide +kernel
theorem dJ6_bitCount_0f7a4_45 : decode cJ6_bitCount_0f7a4 45 = .ok (.iushr, 1) := by decide +kernel
theorem dJ6_bitCount_0f7a4_46 : decode cJ6_bitCount_0f7a4 46 = .ok (.iadd, 1) := by decide +kernel
theorem dJ6_bitCount_0f7a4_47 : decode cJ6_bitCount_0f7a4 47 = .ok (.istore_n 0, 1) := by decide +kernel
theorem dJ6_bitCount_0f7a4_48 : decode cJ6_bitCount_0f7a4 48 = .ok (.iload_n 0, 1) := by decide +kernel
theorem dJ6_bitCount_0f7a4_49 : decode cJ6_bitCount_0f7a4 49 = .ok (.bipush 63, 2) := by decide +kernel
theorem dJ6_bitCount_0f7a4_51 : decode cJ6_bitCount_0f7a4 51 = .ok (.iand, 1) := by decide +kernel
theorem dJ6_bitCount_0f7a4_52 : decode cJ6_bitCount_0f7a4 52 = .ok (.ireturn, 1) := by decide +kernel
theorem dX2_largestPatch_0 : decode cX2_largestPatch 0 = .ok (.iload_n 0, 1) := by decide +kernel
theorem dX2_largestPatch_1 : decode cX2_largestPatch 1 = .ok (.istore_n 1, 1) := by decide +kernel
theorem dX2_largestPatch_2 : decode cX2_largestPatch 2 = .ok (.iconst 0, 1) := by decide +kernel
theorem dX2_largestPatch_3 : decode cX2_largestPatch 3 = .ok (.istore_n 2, 1) := by decide +kernel
theorem dX2_largestPatch_4 : decode cX2_largestPatch 4 = .ok (.iconst 0, 1) := by decide +kernel
theorem dX2_largestPatch_5 : decode cX2_largestPatch 5 = .ok (.istore_n 3, 1) := by decide +kernel
theorem dX2_largestPatch_6 : decode cX2_largestPatch 6 = .ok (.iload_n 3, 1) := by decide +kernel
theorem dX2_largestPatch_7 : decode cX2_largestPatch 7 = .ok (.bipush 20, 2) := by decide +kernel
theorem dX2_largestPatch_9 : decode cX2_largestPatch 9 = .ok (.if_icmp .ge 40, 3) := by decide +kernel
theorem dX2_largestPatch_12 : decode cX2_largestPatch 12 = .ok (.iload_n 1, 1) := by decide +kernel
theorem dX2_largestPatch_13 : decode cX2_largestPatch 13 = .ok (.ifCond .eq 36, 3) := by decide +kernel
theorem dX2_largestPatch_16 : decode cX2_largestPatch 16 = .ok (.iload_n 1, 1) := by decide +kernel
theorem dX2_largestPatch_17 : decode cX2_largestPatch 17 = .ok (.invokestatic 23, 3) := by decide +kernel
theorem dX2_largestPatch_20 : decode cX2_largestPatch 20 = .ok (.iload_n 1, 1) := by decide +kernel
theorem dX2_largestPatch_21 : decode cX2_largestPatch 21 = .ok (.invokestatic 26, 3) := by decide +kernel
theorem dX2_largestPatch_24 : decode cX2_largestPatch 24 = .ok (.istore 4, 2) := by decide +kernel
theorem dX2_largestPatch_26 : decode cX2_largestPatch 26 = .ok (.iload_n 2, 1) := by decide +kernel
theorem dX2_largestPatch_27 : decode cX2_largestPatch 27 = .ok (.iload 4, 2) := by decide +kernel
theorem dX2_largestPatch_29 : decode cX2_largestPatch 29 = .ok (.invokestatic 30, 3) := by decide +kernel
theorem dX2_largestPatch_32 : decode cX2_largestPatch 32 = .ok (.invokestatic 35, 3) := by decide +kernel
theorem dX2_largestPatch_35 : decode cX2_largestPatch 35 = .ok (.istore_n 2, 1) := by decide +kernel
theorem dX2_largestPatch_36 : decode cX2_largestPatch 36 = .ok (.iload_n 1, 1) := by decide +kernel
theorem dX2_largestPatch_37 : decode cX2_largestPatch 37 = .ok (.iload 4, 2) := by decide +kernel
theorem dX2_largestPatch_39 : decode cX2_largestPatch 39 = .ok (.iconst (-1), 1) := by decide +kernel
theorem dX2_largestPatch_40 : decode cX2_largestPatch 40 = .ok (.ixor, 1) := by decide +kernel
theorem dX2_largestPatch_41 : decode cX2_largestPatch 41 = .ok (.iand, 1) := by decide +kernel
theorem dX2_largestPatch_42 : decode cX2_largestPatch 42 = .ok (.istore_n 1, 1) := by decide +kernel
theorem dX2_largestPatch_43 : decode cX2_largestPatch 43 = .ok (.iinc 3 1, 3) := by decide +kernel
theorem dX2_largestPatch_46 : decode cX2_largestPatch 46 = .ok (.goto (-40), 3) := by decide +kernel
theorem dX2_largestPatch_49 : decode cX2_largestPatch 49 = .ok (.iload_n 2, 1) := by decide +kernel
theorem dX2_largestPatch_50 : decode cX2_largestPatch 50 = .ok (.ireturn, 1) := by decide +kernel
theorem dX2_steps_0 : decode cX2_steps 0 = .ok (.iload_n 0, 1) := by decide +kernel
theorem dX2_steps_1 : decode cX2_steps 1 = .ok (.iload_n 1, 1) := by decide +kernel
theorem dX2_steps_2 : decode cX2_steps 2 = .ok (.if_icmp .ne 5, 3) := by decide +kernel
theorem dX2_steps_5 : decode cX2_steps 5 = .ok (.iconst 0, 1) := by decide +kernel
theorem dX2_steps_6 : decode cX2_steps 6 = .ok (.ireturn, 1) := by decide +kernel
theorem dX2_steps_7 : decode cX2_steps 7 = .ok (.iload_n 1, 1) := by decide +kernel
theorem dX2_steps_8 : decode cX2_steps 8 = .ok (.invokestatic 40, 3) := by decide +kernel
theorem dX2_steps_11 : decode cX2_steps 11 = .ok (.istore_n 3, 1) := by decide +kernel
theorem dX2_steps_12 : decode cX2_steps 12 = .ok (.iload_n 0, 1) := by decide +kernel
theorem dX2_steps_13 : decode cX2_steps 13 = .ok (.invokestatic 40, 3) := by decide +kernel
theorem dX2_steps_16 : decode cX2_steps 16 = .ok (.iload_n 2, 1) := by decide +kernel
theorem dX2_steps_17 : decode cX2_steps 17 = .ok (.iand, 1) := by decide +kernel
theorem dX2_steps_18 : decode cX2_steps 18 = .ok (.istore 4, 2) := by decide +kernel
theorem dX2_steps_20 : decode cX2_steps 20 = .ok (.iconst 1, 1) := by decide +kernel
theorem dX2_steps_21 : decode cX2_steps 21 = .ok (.istore 5, 2) := by decide +kernel
theorem dX2_steps_23 : decode cX2_steps 23 = .ok (.iload 5, 2) := by decide +kernel
theorem dX2_steps_25 : decode cX2_steps 25 = .ok (.bipush 20, 2) := by decide +kernel
theorem dX2_steps_27 : decode cX2_steps 27 = .ok (.if_icmp .ge 31, 3) := by decide +kernel
theorem dX2_steps_30 : decode cX2_steps 30 = .ok (.iload 4, 2) := by decide +kernel
theorem dX2_steps_32 : decode cX2_steps 32 = .ok (.iload 4, 2) := by decide +kernel
theorem dX2_steps_34 : decode cX2_steps 34 = .ok (.invokestatic 19, 3) := by decide +kernel
theorem dX2_steps_37 : decode cX2_steps 37 = .ok (.iload_n 2, 1) := by decide +kernel
theorem dX2_steps_38 : decode cX2_steps 38 = .ok (.iand, 1) := by decide +kernel
theorem dX2_steps_39 : decode cX2_steps 39 = .ok (.ior, 1) := by decide +kernel
theorem dX2_steps_40 : decode cX2_steps 40 = .ok (.istore 4, 2) := by decide +kernel
theorem dX2_steps_42 : decode cX2_steps 42 = .ok (.iload 4, 2) := by decide +kernel
theorem dX2_steps_44 : decode cX2_steps 44 = .ok (.iload_n 3, 1) := by decide +kernel
theorem dX2_steps_45 : decode cX2_steps 45 = .ok (.iand, 1) := by decide +kernel
theorem dX2_steps_46 : decode cX2_steps 46 = .ok (.ifCond .eq 6, 3) := by decide +kernel
theorem dX2_steps_49 : decode cX2_steps 49 = .ok (.iload 5, 2) := by decide +kernel
theorem dX2_steps_51 : decode cX2_steps 51 = .ok (.ireturn, 1) := by decide +kernel
theorem dX2_steps_52 : decode cX2_steps 52 = .ok (.iinc 5 1, 3) := by decide +kernel
theorem dX2_steps_55 : decode cX2_steps 55 = .ok (.goto (-32), 3) := by decide +kernel
theorem dX2_steps_58 : decode cX2_steps 58 = .ok (.bipush (-9), 2) := by decide +kernel
theorem dX2_steps_60 : decode cX2_steps 60 = .ok (.ireturn, 1) := by decide +kernel
theorem dX2_fewestGnawed_0 : decode cX2_fewestGnawed 0 = .ok (.iload_n 0, 1) := by decide +kernel
theorem dX2_fewestGnawed_1 : decode cX2_fewestGnawed 1 = .ok (.iload_n 1, 1) := by decide +kernel
theorem dX2_fewestGnawed_2 : decode cX2_fewestGnawed 2 = .ok (.if_icmp .ne 5, 3) := by decide +kernel
theorem dX2_fewestGnawed_5 : decode cX2_fewestGnawed 5 = .ok (.iconst 0, 1) := by decide +kernel
theorem dX2_fewestGnawed_6 : decode cX2_fewestGnawed 6 = .ok (.ireturn, 1) := by decide +kernel
theorem dX2_fewestGnawed_7 : decode cX2_fewestGnawed 7 = .ok (.iload_n 1, 1) := by decide +kernel
theorem dX2_fewestGnawed_8 : decode cX2_fewestGnawed 8 = .ok (.invokestatic 40, 3) := by decide +kernel
theorem dX2_fewestGnawed_11 : decode cX2_fewestGnawed 11 = .ok (.istore 4, 2) := by decide +kernel
theorem dX2_fewestGnawed_13 : decode cX2_fewestGnawed 13 = .ok (.iload_n 0, 1) := by decide +kernel
theorem dX2_fewestGnawed_14 : decode cX2_fewestGnawed 14 = .ok (.invokestatic 40, 3) := by decide +kernel
theorem dX2_fewestGnawed_17 : decode cX2_fewestGnawed 17 = .ok (.iload_n 2, 1) := by decide +kernel
theorem dX2_fewestGnawed_18 : decode cX2_fewestGnawed 18 = .ok (.iand, 1) := by decide +kernel
theorem dX2_fewestGnawed_19 : decode cX2_fewestGnawed 19 = .ok (.istore 5, 2) := by decide +kernel
theorem dX2_fewestGnawed_21 : decode cX2_fewestGnawed 21 = .ok (.iconst 0, 1) := by decide +kernel
theorem dX2_fewestGnawed_22 : decode cX2_fewestGnawed 22 = .ok (.istore 6, 2) := by decide +kernel
theorem dX2_fewestGnawed_24 : decode cX2_fewestGnawed 24 = .ok (.iload 6, 2) := by decide +kernel
theorem dX2_fewestGnawed_26 : decode cX2_fewestGnawed 26 = .ok (.bipush 20, 2) := by decide +kernel
theorem dX2_fewestGnawed_28 : decode cX2_fewestGnawed 28 = .ok (.if_icmp .gt 45, 3) := by decide +kernel
theorem dX2_fewestGnawed_31 : decode cX2_fewestGnawed 31 = .ok (.iload 5, 2) := by decide +kernel
theorem dX2_fewestGnawed_33 : decode cX2_fewestGnawed 33 = .ok (.iload_n 2, 1) := by decide +kernel
theorem dX2_fewestGnawed_34 : decode cX2_fewestGnawed 34 = .ok (.invokestatic 26, 3) := by decide +kernel
theorem dX2_fewestGnawed_37 : decode cX2_fewestGnawed 37 = .ok (.istore 5, 2) := by decide +kernel
theorem dX2_fewestGnawed_39 : decode cX2_fewestGnawed 39 = .ok (.iload 5, 2) := by decide +kernel
theorem dX2_fewestGnawed_41 : decode cX2_fewestGnawed 41 = .ok (.iload 4, 2) := by decide +kernel
theorem dX2_fewestGnawed_43 : decode cX2_fewestGnawed 43 = .ok (.iand, 1) := by decide +kernel
theorem dX2_fewestGnawed_44 : decode cX2_fewestGnawed 44 = .ok (.ifCond .eq 6, 3) := by decide +kernel
theorem dX2_fewestGnawed_47 : decode cX2_fewestGnawed 47 = .ok (.iload 6, 2) := by decide +kernel
theorem dX2_fewestGnawed_49 : decode cX2_fewestGnawed 49 = .ok (.ireturn, 1) := by decide +kernel
theorem dX2_fewestGnawed_50 : decode cX2_fewestGnawed 50 = .ok (.iload 5, 2) := by decide +kernel
theorem dX2_fewestGnawed_52 : decode cX2_fewestGnawed 52 = .ok (.iload 5, 2) := by decide +kernel
theorem dX2_fewestGnawed_54 : decode cX2_fewestGnawed 54 = .ok (.invokestatic 19, 3) := by decide +kernel
theorem dX2_fewestGnawed_57 : decode cX2_fewestGnawed 57 = .ok (.iload_n 0, 1) := by decide +kernel
theorem dX2_fewestGnawed_58 : decode cX2_fewestGnawed 58 = .ok (.invokestatic 40, 3) := by decide +kernel
theorem dX2_fewestGnawed_61 : decode cX2_fewestGnawed 61 = .ok (.ior, 1) := by decide +kernel
theorem dX2_fewestGnawed_62 : decode cX2_fewestGnawed 62 = .ok (.iload_n 3, 1) := by decide +kernel
theorem dX2_fewestGnawed_63 : decode cX2_fewestGnawed 63 = .ok (.iand, 1) := by decide +kernel
theorem dX2_fewestGnawed_64 : decode cX2_fewestGnawed 64 = .ok (.ior, 1) := by decide +kernel
theorem dX2_fewestGnawed_65 : decode cX2_fewestGnawed 65 = .ok (.istore 5, 2) := by decide +kernel
theorem dX2_fewestGnawed_67 : decode cX2_fewestGnawed 67 = .ok (.iinc 6 1, 3) := by decide +kernel
theorem dX2_fewestGnawed_70 : decode cX2_fewestGnawed 70 = .ok (.goto (-46), 3) := by decide +kernel
theorem dX2_fewestGnawed_73 : decode cX2_fewestGnawed 73 = .ok (.bipush (-9), 2) := by decide +kernel
theorem dX2_fewestGnawed_75 : decode cX2_fewestGnawed 75 = .ok (.ireturn, 1) := by decide +kernel
theorem dX3_get_0 : decode cX3_get 0 = .ok (.iload_n 1, 1) := by decide +kernel
theorem dX3_get_1 : decode cX3_get 1 = .ok (.ifCond .lt 15, 3) := by decide +kernel
theorem dX3_get_4 : decode cX3_get 4 = .ok (.iload_n 1, 1) := by decide +kernel
theorem dX3_get_5 : decode cX3_get 5 = .ok (.aload_n 0, 1) := by decide +kernel
theorem dX3_get_6 : decode cX3_get 6 = .ok (.arraylength, 1) := by decide +kernel
theorem dX3_get_7 : decode cX3_get 7 = .ok (.if_icmp .ge 9, 3) := by decide +kernel
theorem dX3_get_10 : decode cX3_get 10 = .ok (.aload_n 0, 1) := by decide +kernel
theorem dX3_get_11 : decode cX3_get 11 = .ok (.iload_n 1, 1) := by decide +kernel
theorem dX3_get_12 : decode cX3_get 12 = .ok (.iaload, 1) := by decide +kernel
theorem dX3_get_13 : decode cX3_get 13 = .ok (.goto 5, 3) := by decide +kernel
theorem dX3_get_16 : decode cX3_get 16 = .ok (.bipush (-9), 2) := by decide +kernel
theorem dX3_get_18 : decode cX3_get 18 = .ok (.ireturn, 1) := by decide +kernel
theorem dX3_put_0 : decode cX3_put 0 = .ok (.iload_n 1, 1) := by decide +kernel
theorem dX3_put_1 : decode cX3_put 1 = .ok (.ifCond .lt 13, 3) := by decide +kernel
theorem dX3_put_4 : decode cX3_put 4 = .ok (.iload_n 1, 1) := by decide +kernel
theorem dX3_put_5 : decode cX3_put 5 = .ok (.aload_n 0, 1) := by decide +kernel
theorem dX3_put_6 : decode cX3_put 6 = .ok (.arraylength, 1) := by decide +kernel
theorem dX3_put_7 : decode cX3_put 7 = .ok (.if_icmp .ge 7, 3) := by decide +kernel
theorem dX3_put_10 : decode cX3_put 10 = .ok (.aload_n 0, 1) := by decide +kernel
theorem dX3_put_11 : decode cX3_put 11 = .ok (.iload_n 1, 1) := by decide +kernel
theorem dX3_put_12 : decode cX3_put 12 = .ok (.iload_n 2, 1) := by decide +kernel
theorem dX3_put_13 : decode cX3_put 13 = .ok (.iastore, 1) := by decide +kernel
theorem dX3_put_14 : decode cX3_put 14 = .ok (.return_, 1) := by decide +kernel
theorem dX3_add_0 : decode cX3_add 0 = .ok (.iload_n 1, 1) := by decide +kernel
theorem dX3_add_1 : decode cX3_add 1 = .ok (.ifCond .lt 16, 3) := by decide +kernel
theorem dX3_add_4 : decode cX3_add 4 = .ok (.iload_n 1, 1) := by decide +kernel
theorem dX3_add_5 : decode cX3_add 5 = .ok (.aload_n 0, 1) := by decide +kernel
theorem dX3_add_6 : decode cX3_add 6 = .ok (.arraylength, 1) := by decide +kernel
theorem dX3_add_7 : decode cX3_add 7 = .ok (.if_icmp .ge 10, 3) := by decide +kernel
theorem dX3_add_10 : decode cX3_add 10 = .ok (.aload_n 0, 1) := by decide +kernel
theorem dX3_add_11 : decode cX3_add 11 = .ok (.iload_n 1, 1) := by decide +kernel
theorem dX3_add_12 : decode cX3_add 12 = .ok (.dup2, 1) := by decide +kernel
theorem dX3_add_13 : decode cX3_add 13 = .ok (.iaload, 1) := by decide +kernel
theorem dX3_add_14 : decode cX3_add 14 = .ok (.iload_n 2, 1) := by decide +kernel
theorem dX3_add_15 : decode cX3_add 15 = .ok (.iadd, 1) := by decide +kernel
theorem dX3_add_16 : decode cX3_add 16 = .ok (.iastore, 1) := by decide +kernel
theorem dX3_add_17 : decode cX3_add 17 = .ok (.return_, 1) := by decide +kernel
theorem dJ7_fill_53178_0 : decode cJ7_fill_53178 0 = .ok (.iconst 0, 1) := by decide +kernel
theorem dJ7_fill_53178_1 : decode cJ7_fill_53178 1 = .ok (.istore_n 2, 1) := by decide +kernel
theorem dJ7_fill_53178_2 : decode cJ7_fill_53178 2 = .ok (.aload_n 0, 1) := by decide +kernel
theorem dJ7_fill_53178_3 : decode cJ7_fill_53178 3 = .ok (.arraylength, 1) := by decide +kernel
theorem dJ7_fill_53178_4 : decode cJ7_fill_53178 4 = .ok (.istore_n 3, 1) := by decide +kernel
theorem dJ7_fill_53178_5 : decode cJ7_fill_53178 5 = .ok (.iload_n 2, 1) := by decide +kernel
theorem dJ7_fill_53178_6 : decode cJ7_fill_53178 6 = .ok (.iload_n 3, 1) := by decide +kernel
theorem dJ7_fill_53178_7 : decode cJ7_fill_53178 7 = .ok (.if_icmp .ge 13, 3) := by decide +kernel
theorem dJ7_fill_53178_10 : decode cJ7_fill_53178 10 = .ok (.aload_n 0, 1) := by decide +kernel
theorem dJ7_fill_53178_11 : decode cJ7_fill_53178 11 = .ok (.iload_n 2, 1) := by decide +kernel
theorem dJ7_fill_53178_12 : decode cJ7_fill_53178 12 = .ok (.iload_n 1, 1) := by decide +kernel
theorem dJ7_fill_53178_13 : decode cJ7_fill_53178 13 = .ok (.iastore, 1) := by decide +kernel
theorem dJ7_fill_53178_14 : decode cJ7_fill_53178 14 = .ok (.iinc 2 1, 3) := by decide +kernel
theorem dJ7_fill_53178_17 : decode cJ7_fill_53178 17 = .ok (.goto (-12), 3) := by decide +kernel
theorem dJ7_fill_53178_20 : decode cJ7_fill_53178 20 = .ok (.return_, 1) := by decide +kernel
def wp_X2_hasCell (p0 : Int32) (Q : Int32 → Prop) : Prop := ((p0 < 0 → Q (0 : Int32)) ∧ (¬ p0 < 0 → (((20 : Int32) ≤ p0 → Q (0 : Int32)) ∧ (¬ (20 : Int32) ≤ p0 → Q (1 : Int32)))))
set_option maxHeartbeats 4000000 in
set_option maxRecDepth 100000 in
theorem c_X2_hasCell (l : Launch) (D : va_G) (cI cZ cW : ClassId)  (p0 : Int32) (Q : Int32 → Prop) (hf : wp_X2_hasCell p0 Q) : Met l yX2_hasCell (wsA yX2_hasCell cX2_hasCell 1 (some .boolean)) ({ frames := 0, cells := 0, slots := 0, locals := 0 }) (PR D cI cZ cW [.int p0] ([] : va_W)) (vp_Si Q) 0 0 (fun _ => False) := by
  refine Met.ofW (cc := cX2_hasCell) (maxL := 1) (ret := (some .boolean)) (by decide) rfl ?_
  intro p e s m args below meth c s₁ B hml hv
  obtain ⟨rfl, hP, hK⟩ := hv
  have hx := B.exec
  have hb := B.bytes
  have hr := B.returns
  have hts := atoms_spec (ws := (wsA yX2_hasCell cX2_hasCell 1 (some .boolean))) B.pre
  have ht : ∀ w ∈ lw_g, w.before _ s = true := fun w h => hts w (List.mem_cons_of_mem _ h)
  have hown : s.vm.findClass RX2 = some m.cls := findClass_of_methodNamed B.named
  have hlocks := B.notSynchronized
  have hl := lv_entry ([.int p0]) (n := 1) (Nat.le_of_ble_eq_true rfl)
  rw [lg_entry_eq]
  generalize (lg_sl ([.int p0]) ++ List.replicate (1 - (lg_sl ([.int p0])).length) Slot.unset).toArray = ls at hl ⊢
  have hl : lv_has ls 1 [(0, .int p0)] := hl
  unfold wp_X2_hasCell at hf
  refine lv_iload_n hx hb dX2_hasCell_0 rfl (lv_at hl 0 rfl) ?_
  refine lv_if_lt (tgt := 14) hx hb dX2_hasCell_1 (by decide) (fun c_1 => ?_) (fun c_1 => ?_)
  · have hf := hf.1 c_1
    refine lv_iconst (v := (0 : Int32)) hx hb dX2_hasCell_14 (by decide) ?_
    exact W.zret (v := (0 : Int32)) hx hb hr rfl (fun t ht hW => ⟨(0 : Int32), rfl, hf, ht⟩) (fun q h => absurd h List.not_mem_nil) dX2_hasCell_15
  · have hf := hf.2 c_1
    refine lv_iload_n hx hb dX2_hasCell_4 rfl (lv_at hl 0 rfl) ?_
    refine lv_bipush (v := (20 : Int32)) hx hb dX2_hasCell_5 (by decide) ?_
    refine lv_icmp_ge (tgt := 14) hx hb dX2_hasCell_7 (by decide) (fun c_2 => ?_) (fun c_2 => ?_)
    · have hf := hf.1 c_2
      refine lv_iconst (v := (0 : Int32)) hx hb dX2_hasCell_14 (by decide) ?_
      exact W.zret (v := (0 : Int32)) hx hb hr rfl (fun t ht hW => ⟨(0 : Int32), rfl, hf, ht⟩) (fun q h => absurd h List.not_mem_nil) dX2_hasCell_15
    · have hf := hf.2 c_2
      refine lv_iconst (v := (1 : Int32)) hx hb dX2_hasCell_10 (by decide) ?_
      refine lv_goto (tgt := 15) hx hb dX2_hasCell_11 (by decide) ?_
      exact W.zret (v := (1 : Int32)) hx hb hr rfl (fun t ht hW => ⟨(1 : Int32), rfl, hf, ht⟩) (fun q h => absurd h List.not_mem_nil) dX2_hasCell_15
def wp_X2_bitOf (p0 : Int32) (Q : Int32 → Prop) : Prop := wp_X2_hasCell p0 (fun r_1 => ((r_1 = 0 → Q (0 : Int32)) ∧ (¬ r_1 = 0 → Q ((1 : Int32) <<< (p0 &&& 31)))))
set_option maxHeartbeats 4000000 in
set_option maxRecDepth 100000 in
theorem c_X2_bitOf (l : Launch) (D : va_G) (cI cZ cW : ClassId)  (p0 : Int32) (Q : Int32 → Prop) (hf : wp_X2_bitOf p0 Q) : Met l yX2_bitOf (wsA yX2_bitOf cX2_bitOf 1 (some .int)) ({ frames := 1, cells := 0, slots := 0, locals := 20 }) (PR D cI cZ cW [.int p0] ([] : va_W)) (vp_Si Q) 0 0 (fun _ => False) := by
  refine Met.ofW (cc := cX2_bitOf) (maxL := 1) (ret := (some .int)) (by decide) rfl ?_
  intro p e s m args below meth c s₁ B hml hv
  obtain ⟨rfl, hP, hK⟩ := hv
  have hx := B.exec
  have hb := B.bytes
  have hr := B.returns
  have hts := atoms_spec (ws := (wsA yX2_bitOf cX2_bitOf 1 (some .int))) B.pre
  have ht : ∀ w ∈ lw_g, w.before _ s = true := fun w h => hts w (List.mem_cons_of_mem _ h)
  have hown : s.vm.findClass RX2 = some m.cls := findClass_of_methodNamed B.named
  have hlocks := B.notSynchronized
  have hl := lv_entry ([.int p0]) (n := 1) (Nat.le_of_ble_eq_true rfl)
  rw [lg_entry_eq]
  generalize (lg_sl ([.int p0]) ++ List.replicate (1 - (lg_sl ([.int p0])).length) Slot.unset).toArray = ls at hl ⊢
  have hl : lv_has ls 1 [(0, .int p0)] := hl
  unfold wp_X2_bitOf at hf
  refine lv_iload_n hx hb dX2_bitOf_0 rfl (lv_at hl 0 rfl) ?_
  have hPc : va_P D classes ([] : va_W) s.heap := hP
  refine vp_callSi (W.runS (As := [.int p0]) (rest := []) ⟨hx, hb, hml, hown, hts⟩ (c_X2_hasCell l D cI cZ cW  p0 _ hf) ⟨callB_of 1 hts (gA tw_245) rfl rfl rfl (ht _ tw_9) (ht _ tw_249) hd_X2_hasCell ⟨Nat.le_of_ble_eq_true rfl, Nat.le_of_ble_eq_true rfl⟩, ht _ tw_244⟩ ⟨PR_blind, fun U hU hW => PR_mk hPc hK hU hW⟩ rfl rfl hl.1 rfl (lv_room (Nat.le_of_ble_eq_true rfl)) dX2_bitOf_1 ⟨Nat.zero_le _, Nat.zero_le _⟩) (fun r_1 hf => ?_)
  refine lv_if_eq (tgt := 13) hx hb dX2_bitOf_4 (by decide) (fun c_2 => ?_) (fun c_2 => ?_)
  · have hf := hf.1 c_2
    refine lv_iconst (v := (0 : Int32)) hx hb dX2_bitOf_13 (by decide) ?_
    exact W.iret (v := (0 : Int32)) hx hb hr (fun t ht hW => ⟨(0 : Int32), rfl, hf, ht⟩) (fun q h => absurd h List.not_mem_nil) dX2_bitOf_14
  · have hf := hf.2 c_2
    refine lv_iconst (v := (1 : Int32)) hx hb dX2_bitOf_7 (by decide) ?_
    refine lv_iload_n hx hb dX2_bitOf_8 rfl (lv_at hl 0 rfl) ?_
    refine lv_ishl hx hb dX2_bitOf_9 ?_
    refine lv_goto (tgt := 14) hx hb dX2_bitOf_10 (by decide) ?_
    exact W.iret (v := ((1 : Int32) <<< (p0 &&& 31))) hx hb hr (fun t ht hW => ⟨((1 : Int32) <<< (p0 &&& 31)), rfl, hf, ht⟩) (fun q h => absurd h List.not_mem_nil) dX2_bitOf_14
def wp_X2_rowCells (p0 : Int32) (Q : Int32 → Prop) : Prop := ((p0 < 0 → Q (0 : Int32)) ∧ (¬ p0 < 0 → (((4 : Int32) ≤ p0 → Q (0 : Int32)) ∧ (¬ (4 : Int32) ≤ p0 → Q ((31 : Int32) <<< (((5 : Int32) * p0) &&& 31))))))
set_option maxHeartbeats 4000000 in
set_option maxRecDepth 100000 in
theorem c_X2_rowCells (l : Launch) (D : va_G) (cI cZ cW : ClassId)  (p0 : Int32) (Q : Int32 → Prop) (hf : wp_X2_rowCells p0 Q) : Met l yX2_rowCells (wsA yX2_rowCells cX2_rowCells 1 (some .int)) ({ frames := 0, cells := 0, slots := 0, locals := 0 }) (PR D cI cZ cW [.int p0] ([] : va_W)) (vp_Si Q) 0 0 (fun _ => False) := by
  refine Met.ofW (cc := cX2_rowCells) (maxL := 1) (ret := (some .int)) (by decide) rfl ?_
  intro p e s m args below meth c s₁ B hml hv
  obtain ⟨rfl, hP, hK⟩ := hv
  have hx := B.exec
  have hb := B.bytes
  have hr := B.returns
  have hts := atoms_spec (ws := (wsA yX2_rowCells cX2_rowCells 1 (some .int))) B.pre
  have ht : ∀ w ∈ lw_g, w.before _ s = true := fun w h => hts w (List.mem_cons_of_mem _ h)
  have hown : s.vm.findClass RX2 = some m.cls := findClass_of_methodNamed B.named
  have hlocks := B.notSynchronized
  have hl := lv_entry ([.int p0]) (n := 1) (Nat.le_of_ble_eq_true rfl)
  rw [lg_entry_eq]
  generalize (lg_sl ([.int p0]) ++ List.replicate (1 - (lg_sl ([.int p0])).length) Slot.unset).toArray = ls at hl ⊢
  have hl : lv_has ls 1 [(0, .int p0)] := hl
  unfold wp_X2_rowCells at hf
  refine lv_iload_n hx hb dX2_rowCells_0 rfl (lv_at hl 0 rfl) ?_
  refine lv_if_lt (tgt := 18) hx hb dX2_rowCells_1 (by decide) (fun c_1 => ?_) (fun c_1 => ?_)
  · have hf := hf.1 c_1
    refine lv_iconst (v := (0 : Int32)) hx hb dX2_rowCells_18 (by decide) ?_
    exact W.iret (v := (0 : Int32)) hx hb hr (fun t ht hW => ⟨(0 : Int32), rfl, hf, ht⟩) (fun q h => absurd h List.not_mem_nil) dX2_rowCells_19
  · have hf := hf.2 c_1
    refine lv_iload_n hx hb dX2_rowCells_4 rfl (lv_at hl 0 rfl) ?_
    refine lv_iconst (v := (4 : Int32)) hx hb dX2_rowCells_5 (by decide) ?_
    refine lv_icmp_ge (tgt := 18) hx hb dX2_rowCells_6 (by decide) (fun c_2 => ?_) (fun c_2 => ?_)
    · have hf := hf.1 c_2
      refine lv_iconst (v := (0 : Int32)) hx hb dX2_rowCells_18 (by decide) ?_
      exact W.iret (v := (0 : Int32)) hx hb hr (fun t ht hW => ⟨(0 : Int32), rfl, hf, ht⟩) (fun q h => absurd h List.not_mem_nil) dX2_rowCells_19
    · have hf := hf.2 c_2
      refine lv_bipush (v := (31 : Int32)) hx hb dX2_rowCells_9 (by decide) ?_
      refine lv_iconst (v := (5 : Int32)) hx hb dX2_rowCells_11 (by decide) ?_
      refine lv_iload_n hx hb dX2_rowCells_12 rfl (lv_at hl 0 rfl) ?_
      refine lv_imul hx hb dX2_rowCells_13 ?_
      refine lv_ishl hx hb dX2_rowCells_14 ?_
      refine lv_goto (tgt := 19) hx hb dX2_rowCells_15 (by decide) ?_
      exact W.iret (v := ((31 : Int32) <<< (((5 : Int32) * p0) &&& 31))) hx hb hr (fun t ht hW => ⟨((31 : Int32) <<< (((5 : Int32) * p0) &&& 31)), rfl, hf, ht⟩) (fun q h => absurd h List.not_mem_nil) dX2_rowCells_19
def B_X2_cellsLeftOf_21 (G4 : (Int32 × Int32 × Int32) → Prop)  (x0 : Int32) (x1 : Int32) (x2 : Int32) (Q : Int32 → Prop) : Prop := ∀ x2_1 : Int32, x2_1 = x2 + (1 : Int32) → G4 (x0, x1, x2_1)
def LB_X2_cellsLeftOf_4 (G4 : (Int32 × Int32 × Int32) → Prop)  (x0 : Int32) (x1 : Int32) (x2 : Int32) (Q : Int32 → Prop) : Prop := (((5 : Int32) ≤ x2 → Q x1) ∧ (¬ (5 : Int32) ≤ x2 → ((x0 ≤ x2 → B_X2_cellsLeftOf_21 G4  x0 x1 x2 Q) ∧ (¬ x0 ≤ x2 → ∀ x1_4 : Int32, x1_4 = (x1 ||| ((33825 : Int32) <<< (x2 &&& 31))) → B_X2_cellsLeftOf_21 G4  x0 x1_4 x2 Q))))
def B_X2_cellsLeftOf_4  (x0 : Int32) (x1 : Int32) (x2 : Int32) (Q : Int32 → Prop) : Prop := LOOP (fun (G4 : (Int32 × Int32 × Int32) → Prop) z => LB_X2_cellsLeftOf_4 G4  z.1 z.2.1 z.2.2 Q) (x0, x1, x2)
def wp_X2_cellsLeftOf (p0 : Int32) (Q : Int32 → Prop) : Prop := B_X2_cellsLeftOf_4  p0 (0 : Int32) (0 : Int32) Q
set_option maxHeartbeats 4000000 in
set_option maxRecDepth 100000 in
theorem c_X2_cellsLeftOf (l : Launch) (D : va_G) (cI cZ cW : ClassId)  (p0 : Int32) (Q : Int32 → Prop) (hf : wp_X2_cellsLeftOf p0 Q) : Met l yX2_cellsLeftOf (wsA yX2_cellsLeftOf cX2_cellsLeftOf 3 (some .int)) ({ frames := 0, cells := 0, slots := 0, locals := 0 }) (PR D cI cZ cW [.int p0] ([] : va_W)) (vp_Si Q) 0 0 (fun _ => False) := by
  refine Met.ofW (cc := cX2_cellsLeftOf) (maxL := 3) (ret := (some .int)) (by decide) rfl ?_
  intro p e s m args below meth c s₁ B hml hv
  obtain ⟨rfl, hP, hK⟩ := hv
  have hx := B.exec
  have hb := B.bytes
  have hr := B.returns
  have hts := atoms_spec (ws := (wsA yX2_cellsLeftOf cX2_cellsLeftOf 3 (some .int))) B.pre
  have ht : ∀ w ∈ lw_g, w.before _ s = true := fun w h => hts w (List.mem_cons_of_mem _ h)
  have hown : s.vm.findClass RX2 = some m.cls := findClass_of_methodNamed B.named
  have hlocks := B.notSynchronized
  have hl := lv_entry ([.int p0]) (n := 3) (Nat.le_of_ble_eq_true rfl)
  rw [lg_entry_eq]
  generalize (lg_sl ([.int p0]) ++ List.replicate (3 - (lg_sl ([.int p0])).length) Slot.unset).toArray = ls at hl ⊢
  have hl : lv_has ls 3 [(0, .int p0)] := hl
  unfold wp_X2_cellsLeftOf at hf
  have k_4 : ∀ (x0 : Int32) (x1 : Int32) (x2 : Int32) (ls : Array Slot), B_X2_cellsLeftOf_4  x0 x1 x2 Q → lv_has ls 3 [(0, .int x0), (1, .int x1), (2, .int x2)] → W p l e (headSpec (wsA yX2_cellsLeftOf cX2_cellsLeftOf 3 (some .int)) ({ frames := 0, cells := 0, slots := 0, locals := 0 })).room s m (#[.int p0] : Array Value) below meth c s.heap [] 0 0 (MQ below (vp_Si Q) (#[.int p0] : Array Value) s 0 0 (fun _ => False)) (F0 m 4 ls []) := by
    intro x0 x1 x2 ls hf hl
    unfold B_X2_cellsLeftOf_4 at hf
    obtain ⟨I_4, ⟨n0_4, hI0_4⟩, hst_4⟩ := hf
    have main_4 : ∀ (n : Nat) (x0 : Int32) (x1 : Int32) (x2 : Int32) (ls : Array Slot), I_4 n (x0, x1, x2) → lv_has ls 3 [(0, .int x0), (1, .int x1), (2, .int x2)] → W p l e (headSpec (wsA yX2_cellsLeftOf cX2_cellsLeftOf 3 (some .int)) ({ frames := 0, cells := 0, slots := 0, locals := 0 })).room s m (#[.int p0] : Array Value) below meth c s.heap [] 0 0 (MQ below (vp_Si Q) (#[.int p0] : Array Value) s 0 0 (fun _ => False)) (F0 m 4 ls []) := by
      intro n
      induction n using Nat.strongRecOn with
      | _ n_4 ih_4 =>
      intro x0 x1 x2 ls hI hl
      have hf : LB_X2_cellsLeftOf_4 (fun z => ∃ k, k < n_4 ∧ I_4 k z)  x0 x1 x2 Q := hst_4 n_4 (x0, x1, x2) hI
      have hG_4 : ∀ (x0 : Int32) (x1 : Int32) (x2 : Int32) (ls : Array Slot), (∃ k, k < n_4 ∧ I_4 k (x0, x1, x2)) → lv_has ls 3 [(0, .int x0), (1, .int x1), (2, .int x2)] → W p l e (headSpec (wsA yX2_cellsLeftOf cX2_cellsLeftOf 3 (some .int)) ({ frames := 0, cells := 0, slots := 0, locals := 0 })).room s m (#[.int p0] : Array Value) below meth c s.heap [] 0 0 (MQ below (vp_Si Q) (#[.int p0] : Array Value) s 0 0 (fun _ => False)) (F0 m 4 ls []) := by
        rintro x0 x1 x2 ls ⟨k, hk, hI⟩ hl
        exact ih_4 k hk x0 x1 x2 ls hI hl
      unfold LB_X2_cellsLeftOf_4 at hf
      have k_21 : ∀ (x0 : Int32) (x1 : Int32) (x2 : Int32) (ls : Array Slot), B_X2_cellsLeftOf_21 (fun z => ∃ k, k < n_4 ∧ I_4 k z)  x0 x1 x2 Q → lv_has ls 3 [(0, .int x0), (1, .int x1), (2, .int x2)] → W p l e (headSpec (wsA yX2_cellsLeftOf cX2_cellsLeftOf 3 (some .int)) ({ frames := 0, cells := 0, slots := 0, locals := 0 })).room s m (#[.int p0] : Array Value) below meth c s.heap [] 0 0 (MQ below (vp_Si Q) (#[.int p0] : Array Value) s 0 0 (fun _ => False)) (F0 m 21 ls []) := by
        intro x0 x1 x2 ls hf hl
        unfold B_X2_cellsLeftOf_21 at hf
        obtain ⟨x2_1, ex2_1⟩ : ∃ y : Int32, y = x2 + (1 : Int32) := ⟨_, rfl⟩
        have hf := hf x2_1 ex2_1
        refine lv_iinc (v := x2_1) (lv' := [(2, .int x2_1), (0, .int x0), (1, .int x1)]) hx hb dX2_cellsLeftOf_21 hl (k := 2) rfl (by rw [ex2_1]; rfl) (by decide) rfl (fun ls hl => ?_)
        refine lv_goto (tgt := 4) hx hb dX2_cellsLeftOf_24 (by decide) ?_
        exact hG_4 x0 x1 x2_1 ls hf (lv_sub hl [1, 2, 0] rfl)
      refine lv_iload_n hx hb dX2_cellsLeftOf_4 rfl (lv_at hl 2 rfl) ?_
      refine lv_iconst (v := (5 : Int32)) hx hb dX2_cellsLeftOf_5 (by decide) ?_
      refine lv_icmp_ge (tgt := 27) hx hb dX2_cellsLeftOf_6 (by decide) (fun c_2 => ?_) (fun c_2 => ?_)
      · have hf := hf.1 c_2
        refine lv_iload_n hx hb dX2_cellsLeftOf_27 rfl (lv_at hl 1 rfl) ?_
        exact W.iret (v := x1) hx hb hr (fun t ht hW => ⟨x1, rfl, hf, ht⟩) (fun q h => absurd h List.not_mem_nil) dX2_cellsLeftOf_28
      · have hf := hf.2 c_2
        refine lv_iload_n hx hb dX2_cellsLeftOf_9 rfl (lv_at hl 2 rfl) ?_
        refine lv_iload_n hx hb dX2_cellsLeftOf_10 rfl (lv_at hl 0 rfl) ?_
        refine lv_icmp_ge (tgt := 21) hx hb dX2_cellsLeftOf_11 (by decide) (fun c_3 => ?_) (fun c_3 => ?_)
        · have hf := hf.1 c_3
          exact k_21 x0 x1 x2 ls hf (lv_sub hl [0, 1, 2] rfl)
        · have hf := hf.2 c_3
          refine lv_iload_n hx hb dX2_cellsLeftOf_14 rfl (lv_at hl 1 rfl) ?_
          refine lv_ldc (v := (33825 : Int32)) hx hb hown (ht _ tw_382) dX2_cellsLeftOf_15 ?_
          refine lv_iload_n hx hb dX2_cellsLeftOf_17 rfl (lv_at hl 2 rfl) ?_
          refine lv_ishl hx hb dX2_cellsLeftOf_18 ?_
          refine lv_ior hx hb dX2_cellsLeftOf_19 ?_
          refine lv_topi (fun x1_4 ex1_4 => ?_)
          have hf := hf x1_4 ex1_4
          refine lv_istore_n (lv' := [(1, .int x1_4), (0, .int x0), (2, .int x2)]) hx hb dX2_cellsLeftOf_20 rfl hl (by decide) rfl (fun ls hl => ?_)
          exact k_21 x0 x1_4 x2 ls hf (lv_sub hl [1, 0, 2] rfl)
    exact main_4 n0_4 x0 x1 x2 ls hI0_4 hl
  refine lv_iconst (v := (0 : Int32)) hx hb dX2_cellsLeftOf_0 (by decide) ?_
  refine lv_istore_n (lv' := [(1, .int (0 : Int32)), (0, .int p0)]) hx hb dX2_cellsLeftOf_1 rfl hl (by decide) rfl (fun ls hl => ?_)
  refine lv_iconst (v := (0 : Int32)) hx hb dX2_cellsLeftOf_2 (by decide) ?_
  refine lv_istore_n (lv' := [(2, .int (0 : Int32)), (1, .int (0 : Int32)), (0, .int p0)]) hx hb dX2_cellsLeftOf_3 rfl hl (by decide) rfl (fun ls hl => ?_)
  exact k_4 p0 (0 : Int32) (0 : Int32) ls hf (lv_sub hl [2, 1, 0] rfl)
def wp_X2_leastOf (p0 : Int32) (Q : Int32 → Prop) : Prop := Q (p0 &&& (-p0))
set_option maxHeartbeats 4000000 in
set_option maxRecDepth 100000 in
theorem c_X2_leastOf (l : Launch) (D : va_G) (cI cZ cW : ClassId)  (p0 : Int32) (Q : Int32 → Prop) (hf : wp_X2_leastOf p0 Q) : Met l yX2_leastOf (wsA yX2_leastOf cX2_leastOf 1 (some .int)) ({ frames := 0, cells := 0, slots := 0, locals := 0 }) (PR D cI cZ cW [.int p0] ([] : va_W)) (vp_Si Q) 0 0 (fun _ => False) := by
  refine Met.ofW (cc := cX2_leastOf) (maxL := 1) (ret := (some .int)) (by decide) rfl ?_
  intro p e s m args below meth c s₁ B hml hv
  obtain ⟨rfl, hP, hK⟩ := hv
  have hx := B.exec
  have hb := B.bytes
  have hr := B.returns
  have hts := atoms_spec (ws := (wsA yX2_leastOf cX2_leastOf 1 (some .int))) B.pre
  have ht : ∀ w ∈ lw_g, w.before _ s = true := fun w h => hts w (List.mem_cons_of_mem _ h)
  have hown : s.vm.findClass RX2 = some m.cls := findClass_of_methodNamed B.named
  have hlocks := B.notSynchronized
  have hl := lv_entry ([.int p0]) (n := 1) (Nat.le_of_ble_eq_true rfl)
  rw [lg_entry_eq]
  generalize (lg_sl ([.int p0]) ++ List.replicate (1 - (lg_sl ([.int p0])).length) Slot.unset).toArray = ls at hl ⊢
  have hl : lv_has ls 1 [(0, .int p0)] := hl
  unfold wp_X2_leastOf at hf
  refine lv_iload_n hx hb dX2_leastOf_0 rfl (lv_at hl 0 rfl) ?_
  refine lv_iload_n hx hb dX2_leastOf_1 rfl (lv_at hl 0 rfl) ?_
  refine lv_ineg hx hb dX2_leastOf_2 ?_
  refine lv_iand hx hb dX2_leastOf_3 ?_
  exact W.iret (v := (p0 &&& (-p0))) hx hb hr (fun t ht hW => ⟨(p0 &&& (-p0)), rfl, hf, ht⟩) (fun q h => absurd h List.not_mem_nil) dX2_leastOf_4
def wp_X2_beside (p0 : Int32) (Q : Int32 → Prop) : Prop := ∀ x1_1 : Int32, x1_1 = ((p0 <<< ((5 : Int32) &&& 31)) ||| (p0.toUInt32 >>> ((5 : Int32).toUInt32 &&& Int32.toUInt32 31)).toInt32) → ∀ x2_2 : Int32, x2_2 = ((p0 &&& (-541201 : Int32)) <<< ((1 : Int32) &&& 31)) → ∀ x3_3 : Int32, x3_3 = ((p0 &&& (-33826 : Int32)).toUInt32 >>> ((1 : Int32).toUInt32 &&& Int32.toUInt32 31)).toInt32 → Q (((x1_1 ||| x2_2) ||| x3_3) &&& (1048575 : Int32))
set_option maxHeartbeats 4000000 in
set_option maxRecDepth 100000 in
theorem c_X2_beside (l : Launch) (D : va_G) (cI cZ cW : ClassId)  (p0 : Int32) (Q : Int32 → Prop) (hf : wp_X2_beside p0 Q) : Met l yX2_beside (wsA yX2_beside cX2_beside 4 (some .int)) ({ frames := 0, cells := 0, slots := 0, locals := 0 }) (PR D cI cZ cW [.int p0] ([] : va_W)) (vp_Si Q) 0 0 (fun _ => False) := by
  refine Met.ofW (cc := cX2_beside) (maxL := 4) (ret := (some .int)) (by decide) rfl ?_
  intro p e s m args below meth c s₁ B hml hv
  obtain ⟨rfl, hP, hK⟩ := hv
  have hx := B.exec
  have hb := B.bytes
  have hr := B.returns
  have hts := atoms_spec (ws := (wsA yX2_beside cX2_beside 4 (some .int))) B.pre
  have ht : ∀ w ∈ lw_g, w.before _ s = true := fun w h => hts w (List.mem_cons_of_mem _ h)
  have hown : s.vm.findClass RX2 = some m.cls := findClass_of_methodNamed B.named
  have hlocks := B.notSynchronized
  have hl := lv_entry ([.int p0]) (n := 4) (Nat.le_of_ble_eq_true rfl)
  rw [lg_entry_eq]
  generalize (lg_sl ([.int p0]) ++ List.replicate (4 - (lg_sl ([.int p0])).length) Slot.unset).toArray = ls at hl ⊢
  have hl : lv_has ls 4 [(0, .int p0)] := hl
  unfold wp_X2_beside at hf
  refine lv_iload_n hx hb dX2_beside_0 rfl (lv_at hl 0 rfl) ?_
  refine lv_iconst (v := (5 : Int32)) hx hb dX2_beside_1 (by decide) ?_
  refine lv_ishl hx hb dX2_beside_2 ?_
  refine lv_iload_n hx hb dX2_beside_3 rfl (lv_at hl 0 rfl) ?_
  refine lv_iconst (v := (5 : Int32)) hx hb dX2_beside_4 (by decide) ?_
  refine lv_iushr (v := (p0.toUInt32 >>> ((5 : Int32).toUInt32 &&& Int32.toUInt32 31)).toInt32) hx hb dX2_beside_5 rfl ?_
  refine lv_ior hx hb dX2_beside_6 ?_
  refine lv_topi (fun x1_1 ex1_1 => ?_)
  have hf := hf x1_1 ex1_1
  refine lv_istore_n (lv' := [(1, .int x1_1), (0, .int p0)]) hx hb dX2_beside_7 rfl hl (by decide) rfl (fun ls hl => ?_)
  refine lv_iload_n hx hb dX2_beside_8 rfl (lv_at hl 1 rfl) ?_
  refine lv_ldc (v := (-541201 : Int32)) hx hb hown (ht _ tw_386) dX2_beside_9 ?_
  refine lv_iand hx hb dX2_beside_11 ?_
  refine lv_iconst (v := (1 : Int32)) hx hb dX2_beside_12 (by decide) ?_
  refine lv_ishl hx hb dX2_beside_13 ?_
  refine lv_topi (fun x2_2 ex2_2 => ?_)
  have hf := hf x2_2 ex2_2
  refine lv_istore_n (lv' := [(2, .int x2_2), (1, .int x1_1), (0, .int p0)]) hx hb dX2_beside_14 rfl hl (by decide) rfl (fun ls hl => ?_)
  refine lv_iload_n hx hb dX2_beside_15 rfl (lv_at hl 2 rfl) ?_
  refine lv_ldc (v := (-33826 : Int32)) hx hb hown (ht _ tw_387) dX2_beside_16 ?_
  refine lv_iand hx hb dX2_beside_18 ?_
  refine lv_iconst (v := (1 : Int32)) hx hb dX2_beside_19 (by decide) ?_
  refine lv_iushr (v := ((p0 &&& (-33826 : Int32)).toUInt32 >>> ((1 : Int32).toUInt32 &&& Int32.toUInt32 31)).toInt32) hx hb dX2_beside_20 rfl ?_
  refine lv_topi (fun x3_3 ex3_3 => ?_)
  have hf := hf x3_3 ex3_3
  refine lv_istore_n (lv' := [(3, .int x3_3), (2, .int x2_2), (1, .int x1_1), (0, .int p0)]) hx hb dX2_beside_21 rfl hl (by decide) rfl (fun ls hl => ?_)
  refine lv_iload_n hx hb dX2_beside_22 rfl (lv_at hl 2 rfl) ?_
  refine lv_iload_n hx hb dX2_beside_23 rfl (lv_at hl 1 rfl) ?_
  refine lv_ior hx hb dX2_beside_24 ?_
  refine lv_iload_n hx hb dX2_beside_25 rfl (lv_at hl 0 rfl) ?_
  refine lv_ior hx hb dX2_beside_26 ?_
  refine lv_ldc (v := (1048575 : Int32)) hx hb hown (ht _ tw_388) dX2_beside_27 ?_
  refine lv_iand hx hb dX2_beside_29 ?_
  exact W.iret (v := (((x1_1 ||| x2_2) ||| x3_3) &&& (1048575 : Int32))) hx hb hr (fun t ht hW => ⟨(((x1_1 ||| x2_2) ||| x3_3) &&& (1048575 : Int32)), rfl, hf, ht⟩) (fun q h => absurd h List.not_mem_nil) dX2_beside_30
def B_X2_columnsOf_24 (G4 : (Int32 × Int32 × Int32) → Prop)  (x0 : Int32) (x1 : Int32) (x2 : Int32) (Q : Int32 → Prop) : Prop := ∀ x2_1 : Int32, x2_1 = x2 + (1 : Int32) → G4 (x0, x1, x2_1)
def LB_X2_columnsOf_4 (G4 : (Int32 × Int32 × Int32) → Prop)  (x0 : Int32) (x1 : Int32) (x2 : Int32) (Q : Int32 → Prop) : Prop := (((5 : Int32) ≤ x2 → Q x1) ∧ (¬ (5 : Int32) ≤ x2 → ∀ x3_3 : Int32, x3_3 = ((33825 : Int32) <<< (x2 &&& 31)) → (((x0 &&& x3_3) = 0 → B_X2_columnsOf_24 G4  x0 x1 x2 Q) ∧ (¬ (x0 &&& x3_3) = 0 → ∀ x1_5 : Int32, x1_5 = (x1 ||| x3_3) → B_X2_columnsOf_24 G4  x0 x1_5 x2 Q))))
def B_X2_columnsOf_4  (x0 : Int32) (x1 : Int32) (x2 : Int32) (Q : Int32 → Prop) : Prop := LOOP (fun (G4 : (Int32 × Int32 × Int32) → Prop) z => LB_X2_columnsOf_4 G4  z.1 z.2.1 z.2.2 Q) (x0, x1, x2)
def wp_X2_columnsOf (p0 : Int32) (Q : Int32 → Prop) : Prop := B_X2_columnsOf_4  p0 (0 : Int32) (0 : Int32) Q
set_option maxHeartbeats 4000000 in
set_option maxRecDepth 100000 in
theorem c_X2_columnsOf (l : Launch) (D : va_G) (cI cZ cW : ClassId)  (p0 : Int32) (Q : Int32 → Prop) (hf : wp_X2_columnsOf p0 Q) : Met l yX2_columnsOf (wsA yX2_columnsOf cX2_columnsOf 4 (some .int)) ({ frames := 0, cells := 0, slots := 0, locals := 0 }) (PR D cI cZ cW [.int p0] ([] : va_W)) (vp_Si Q) 0 0 (fun _ => False) := by
  refine Met.ofW (cc := cX2_columnsOf) (maxL := 4) (ret := (some .int)) (by decide) rfl ?_
  intro p e s m args below meth c s₁ B hml hv
  obtain ⟨rfl, hP, hK⟩ := hv
  have hx := B.exec
  have hb := B.bytes
  have hr := B.returns
  have hts := atoms_spec (ws := (wsA yX2_columnsOf cX2_columnsOf 4 (some .int))) B.pre
  have ht : ∀ w ∈ lw_g, w.before _ s = true := fun w h => hts w (List.mem_cons_of_mem _ h)
  have hown : s.vm.findClass RX2 = some m.cls := findClass_of_methodNamed B.named
  have hlocks := B.notSynchronized
  have hl := lv_entry ([.int p0]) (n := 4) (Nat.le_of_ble_eq_true rfl)
  rw [lg_entry_eq]
  generalize (lg_sl ([.int p0]) ++ List.replicate (4 - (lg_sl ([.int p0])).length) Slot.unset).toArray = ls at hl ⊢
  have hl : lv_has ls 4 [(0, .int p0)] := hl
  unfold wp_X2_columnsOf at hf
  have k_4 : ∀ (x0 : Int32) (x1 : Int32) (x2 : Int32) (ls : Array Slot), B_X2_columnsOf_4  x0 x1 x2 Q → lv_has ls 4 [(0, .int x0), (1, .int x1), (2, .int x2)] → W p l e (headSpec (wsA yX2_columnsOf cX2_columnsOf 4 (some .int)) ({ frames := 0, cells := 0, slots := 0, locals := 0 })).room s m (#[.int p0] : Array Value) below meth c s.heap [] 0 0 (MQ below (vp_Si Q) (#[.int p0] : Array Value) s 0 0 (fun _ => False)) (F0 m 4 ls []) := by
    intro x0 x1 x2 ls hf hl
    unfold B_X2_columnsOf_4 at hf
    obtain ⟨I_4, ⟨n0_4, hI0_4⟩, hst_4⟩ := hf
    have main_4 : ∀ (n : Nat) (x0 : Int32) (x1 : Int32) (x2 : Int32) (ls : Array Slot), I_4 n (x0, x1, x2) → lv_has ls 4 [(0, .int x0), (1, .int x1), (2, .int x2)] → W p l e (headSpec (wsA yX2_columnsOf cX2_columnsOf 4 (some .int)) ({ frames := 0, cells := 0, slots := 0, locals := 0 })).room s m (#[.int p0] : Array Value) below meth c s.heap [] 0 0 (MQ below (vp_Si Q) (#[.int p0] : Array Value) s 0 0 (fun _ => False)) (F0 m 4 ls []) := by
      intro n
      induction n using Nat.strongRecOn with
      | _ n_4 ih_4 =>
      intro x0 x1 x2 ls hI hl
      have hf : LB_X2_columnsOf_4 (fun z => ∃ k, k < n_4 ∧ I_4 k z)  x0 x1 x2 Q := hst_4 n_4 (x0, x1, x2) hI
      have hG_4 : ∀ (x0 : Int32) (x1 : Int32) (x2 : Int32) (ls : Array Slot), (∃ k, k < n_4 ∧ I_4 k (x0, x1, x2)) → lv_has ls 4 [(0, .int x0), (1, .int x1), (2, .int x2)] → W p l e (headSpec (wsA yX2_columnsOf cX2_columnsOf 4 (some .int)) ({ frames := 0, cells := 0, slots := 0, locals := 0 })).room s m (#[.int p0] : Array Value) below meth c s.heap [] 0 0 (MQ below (vp_Si Q) (#[.int p0] : Array Value) s 0 0 (fun _ => False)) (F0 m 4 ls []) := by
        rintro x0 x1 x2 ls ⟨k, hk, hI⟩ hl
        exact ih_4 k hk x0 x1 x2 ls hI hl
      unfold LB_X2_columnsOf_4 at hf
      have k_24 : ∀ (x0 : Int32) (x1 : Int32) (x2 : Int32) (ls : Array Slot), B_X2_columnsOf_24 (fun z => ∃ k, k < n_4 ∧ I_4 k z)  x0 x1 x2 Q → lv_has ls 4 [(0, .int x0), (1, .int x1), (2, .int x2)] → W p l e (headSpec (wsA yX2_columnsOf cX2_columnsOf 4 (some .int)) ({ frames := 0, cells := 0, slots := 0, locals := 0 })).room s m (#[.int p0] : Array Value) below meth c s.heap [] 0 0 (MQ below (vp_Si Q) (#[.int p0] : Array Value) s 0 0 (fun _ => False)) (F0 m 24 ls []) := by
        intro x0 x1 x2 ls hf hl
        unfold B_X2_columnsOf_24 at hf
        obtain ⟨x2_1, ex2_1⟩ : ∃ y : Int32, y = x2 + (1 : Int32) := ⟨_, rfl⟩
        have hf := hf x2_1 ex2_1
        refine lv_iinc (v := x2_1) (lv' := [(2, .int x2_1), (0, .int x0), (1, .int x1)]) hx hb dX2_columnsOf_24 hl (k := 2) rfl (by rw [ex2_1]; rfl) (by decide) rfl (fun ls hl => ?_)
        refine lv_goto (tgt := 4) hx hb dX2_columnsOf_27 (by decide) ?_
        exact hG_4 x0 x1 x2_1 ls hf (lv_sub hl [1, 2, 0] rfl)
      refine lv_iload_n hx hb dX2_columnsOf_4 rfl (lv_at hl 2 rfl) ?_
      refine lv_iconst (v := (5 : Int32)) hx hb dX2_columnsOf_5 (by decide) ?_
      refine lv_icmp_ge (tgt := 30) hx hb dX2_columnsOf_6 (by decide) (fun c_2 => ?_) (fun c_2 => ?_)
      · have hf := hf.1 c_2
        refine lv_iload_n hx hb dX2_columnsOf_30 rfl (lv_at hl 1 rfl) ?_
        exact W.iret (v := x1) hx hb hr (fun t ht hW => ⟨x1, rfl, hf, ht⟩) (fun q h => absurd h List.not_mem_nil) dX2_columnsOf_31
      · have hf := hf.2 c_2
        refine lv_ldc (v := (33825 : Int32)) hx hb hown (ht _ tw_382) dX2_columnsOf_9 ?_
        refine lv_iload_n hx hb dX2_columnsOf_11 rfl (lv_at hl 2 rfl) ?_
        refine lv_ishl hx hb dX2_columnsOf_12 ?_
        refine lv_topi (fun x3_3 ex3_3 => ?_)
        have hf := hf x3_3 ex3_3
        refine lv_istore_n (lv' := [(3, .int x3_3), (0, .int x0), (1, .int x1), (2, .int x2)]) hx hb dX2_columnsOf_13 rfl hl (by decide) rfl (fun ls hl => ?_)
        refine lv_iload_n hx hb dX2_columnsOf_14 rfl (lv_at hl 1 rfl) ?_
        refine lv_iload_n hx hb dX2_columnsOf_15 rfl (lv_at hl 0 rfl) ?_
        refine lv_iand hx hb dX2_columnsOf_16 ?_
        refine lv_if_eq (tgt := 24) hx hb dX2_columnsOf_17 (by decide) (fun c_4 => ?_) (fun c_4 => ?_)
        · have hf := hf.1 c_4
          exact k_24 x0 x1 x2 ls hf (lv_sub hl [1, 2, 3] rfl)
        · have hf := hf.2 c_4
          refine lv_iload_n hx hb dX2_columnsOf_20 rfl (lv_at hl 2 rfl) ?_
          refine lv_iload_n hx hb dX2_columnsOf_21 rfl (lv_at hl 0 rfl) ?_
          refine lv_ior hx hb dX2_columnsOf_22 ?_
          refine lv_topi (fun x1_5 ex1_5 => ?_)
          have hf := hf x1_5 ex1_5
          refine lv_istore_n (lv' := [(1, .int x1_5), (3, .int x3_3), (0, .int x0), (2, .int x2)]) hx hb dX2_columnsOf_23 rfl hl (by decide) rfl (fun ls hl => ?_)
          exact k_24 x0 x1_5 x2 ls hf (lv_sub hl [2, 0, 3] rfl)
    exact main_4 n0_4 x0 x1 x2 ls hI0_4 hl
  refine lv_iconst (v := (0 : Int32)) hx hb dX2_columnsOf_0 (by decide) ?_
  refine lv_istore_n (lv' := [(1, .int (0 : Int32)), (0, .int p0)]) hx hb dX2_columnsOf_1 rfl hl (by decide) rfl (fun ls hl => ?_)
  refine lv_iconst (v := (0 : Int32)) hx hb dX2_columnsOf_2 (by decide) ?_
  refine lv_istore_n (lv' := [(2, .int (0 : Int32)), (1, .int (0 : Int32)), (0, .int p0)]) hx hb dX2_columnsOf_3 rfl hl (by decide) rfl (fun ls hl => ?_)
  exact k_4 p0 (0 : Int32) (0 : Int32) ls hf (lv_sub hl [2, 1, 0] rfl)
def LB_X2_flood_4 (G4 : (Int32 × Int32 × Int32) → Prop)  (x1 : Int32) (x2 : Int32) (x3 : Int32) (Q : Int32 → Prop) : Prop := (((20 : Int32) ≤ x3 → Q x2) ∧ (¬ (20 : Int32) ≤ x3 → wp_X2_beside x2 (fun r_2 => ∀ x4_3 : Int32, x4_3 = (x2 ||| (r_2 &&& x1)) → ((¬ x4_3 = x2 → ∀ x3_5 : Int32, x3_5 = x3 + (1 : Int32) → G4 (x1, x4_3, x3_5)) ∧ (x4_3 = x2 → Q x2)))))
def B_X2_flood_4  (x1 : Int32) (x2 : Int32) (x3 : Int32) (Q : Int32 → Prop) : Prop := LOOP (fun (G4 : (Int32 × Int32 × Int32) → Prop) z => LB_X2_flood_4 G4  z.1 z.2.1 z.2.2 Q) (x1, x2, x3)
def wp_X2_flood (p0 : Int32) (p1 : Int32) (Q : Int32 → Prop) : Prop := B_X2_flood_4  p1 p0 (0 : Int32) Q
set_option maxHeartbeats 4000000 in
set_option maxRecDepth 100000 in
theorem c_X2_flood (l : Launch) (D : va_G) (cI cZ cW : ClassId)  (p0 : Int32) (p1 : Int32) (Q : Int32 → Prop) (hf : wp_X2_flood p0 p1 Q) : Met l yX2_flood (wsA yX2_flood cX2_flood 5 (some .int)) ({ frames := 1, cells := 0, slots := 0, locals := 23 }) (PR D cI cZ cW [.int p0, .int p1] ([] : va_W)) (vp_Si Q) 0 0 (fun _ => False) := by
  refine Met.ofW (cc := cX2_flood) (maxL := 5) (ret := (some .int)) (by decide) rfl ?_
  intro p e s m args below meth c s₁ B hml hv
  obtain ⟨rfl, hP, hK⟩ := hv
  have hx := B.exec
  have hb := B.bytes
  have hr := B.returns
  have hts := atoms_spec (ws := (wsA yX2_flood cX2_flood 5 (some .int))) B.pre
  have ht : ∀ w ∈ lw_g, w.before _ s = true := fun w h => hts w (List.mem_cons_of_mem _ h)
  have hown : s.vm.findClass RX2 = some m.cls := findClass_of_methodNamed B.named
  have hlocks := B.notSynchronized
  have hl := lv_entry ([.int p0, .int p1]) (n := 5) (Nat.le_of_ble_eq_true rfl)
  rw [lg_entry_eq]
  generalize (lg_sl ([.int p0, .int p1]) ++ List.replicate (5 - (lg_sl ([.int p0, .int p1])).length) Slot.unset).toArray = ls at hl ⊢
  have hl : lv_has ls 5 [(0, .int p0), (1, .int p1)] := hl
  unfold wp_X2_flood at hf
  have k_4 : ∀ (x1 : Int32) (x2 : Int32) (x3 : Int32) (ls : Array Slot), B_X2_flood_4  x1 x2 x3 Q → lv_has ls 5 [(1, .int x1), (2, .int x2), (3, .int x3)] → W p l e (headSpec (wsA yX2_flood cX2_flood 5 (some .int)) ({ frames := 1, cells := 0, slots := 0, locals := 23 })).room s m (#[.int p0, .int p1] : Array Value) below meth c s.heap [] 0 0 (MQ below (vp_Si Q) (#[.int p0, .int p1] : Array Value) s 0 0 (fun _ => False)) (F0 m 4 ls []) := by
    intro x1 x2 x3 ls hf hl
    unfold B_X2_flood_4 at hf
    obtain ⟨I_4, ⟨n0_4, hI0_4⟩, hst_4⟩ := hf
    have main_4 : ∀ (n : Nat) (x1 : Int32) (x2 : Int32) (x3 : Int32) (ls : Array Slot), I_4 n (x1, x2, x3) → lv_has ls 5 [(1, .int x1), (2, .int x2), (3, .int x3)] → W p l e (headSpec (wsA yX2_flood cX2_flood 5 (some .int)) ({ frames := 1, cells := 0, slots := 0, locals := 23 })).room s m (#[.int p0, .int p1] : Array Value) below meth c s.heap [] 0 0 (MQ below (vp_Si Q) (#[.int p0, .int p1] : Array Value) s 0 0 (fun _ => False)) (F0 m 4 ls []) := by
      intro n
      induction n using Nat.strongRecOn with
      | _ n_4 ih_4 =>
      intro x1 x2 x3 ls hI hl
      have hf : LB_X2_flood_4 (fun z => ∃ k, k < n_4 ∧ I_4 k z)  x1 x2 x3 Q := hst_4 n_4 (x1, x2, x3) hI
      have hG_4 : ∀ (x1 : Int32) (x2 : Int32) (x3 : Int32) (ls : Array Slot), (∃ k, k < n_4 ∧ I_4 k (x1, x2, x3)) → lv_has ls 5 [(1, .int x1), (2, .int x2), (3, .int x3)] → W p l e (headSpec (wsA yX2_flood cX2_flood 5 (some .int)) ({ frames := 1, cells := 0, slots := 0, locals := 23 })).room s m (#[.int p0, .int p1] : Array Value) below meth c s.heap [] 0 0 (MQ below (vp_Si Q) (#[.int p0, .int p1] : Array Value) s 0 0 (fun _ => False)) (F0 m 4 ls []) := by
        rintro x1 x2 x3 ls ⟨k, hk, hI⟩ hl
        exact ih_4 k hk x1 x2 x3 ls hI hl
      unfold LB_X2_flood_4 at hf
      refine lv_iload_n hx hb dX2_flood_4 rfl (lv_at hl 2 rfl) ?_
      refine lv_bipush (v := (20 : Int32)) hx hb dX2_flood_5 (by decide) ?_
      refine lv_icmp_ge (tgt := 37) hx hb dX2_flood_7 (by decide) (fun c_1 => ?_) (fun c_1 => ?_)
      · have hf := hf.1 c_1
        refine lv_iload_n hx hb dX2_flood_37 rfl (lv_at hl 1 rfl) ?_
        exact W.iret (v := x2) hx hb hr (fun t ht hW => ⟨x2, rfl, hf, ht⟩) (fun q h => absurd h List.not_mem_nil) dX2_flood_38
      · have hf := hf.2 c_1
        refine lv_iload_n hx hb dX2_flood_10 rfl (lv_at hl 1 rfl) ?_
        refine lv_iload_n hx hb dX2_flood_11 rfl (lv_at hl 1 rfl) ?_
        have hPc : va_P D classes ([] : va_W) s.heap := hP
        refine vp_callSi (W.runS (As := [.int x2]) (rest := [.int x2]) ⟨hx, hb, hml, hown, hts⟩ (c_X2_beside l D cI cZ cW  x2 _ hf) ⟨callB_of 1 hts (gA tw_385) rfl rfl rfl (ht _ tw_9) (ht _ tw_485) hd_X2_beside ⟨Nat.le_of_ble_eq_true rfl, Nat.le_of_ble_eq_true rfl⟩, ht _ tw_384⟩ ⟨PR_blind, fun U hU hW => PR_mk hPc hK hU hW⟩ rfl rfl hl.1 rfl (lv_room (Nat.le_of_ble_eq_true rfl)) dX2_flood_12 ⟨Nat.zero_le _, Nat.zero_le _⟩) (fun r_2 hf => ?_)
        refine lv_iload_n hx hb dX2_flood_15 rfl (lv_at hl 0 rfl) ?_
        refine lv_iand hx hb dX2_flood_16 ?_
        refine lv_ior hx hb dX2_flood_17 ?_
        refine lv_topi (fun x4_3 ex4_3 => ?_)
        have hf := hf x4_3 ex4_3
        refine lv_istore (lv' := [(4, .int x4_3), (1, .int x1), (2, .int x2), (3, .int x3)]) hx hb dX2_flood_18 hl (by decide) rfl (fun ls hl => ?_)
        refine lv_iload hx hb dX2_flood_20 (lv_at hl 0 rfl) ?_
        refine lv_iload_n hx hb dX2_flood_22 rfl (lv_at hl 2 rfl) ?_
        refine lv_icmp_ne (tgt := 28) hx hb dX2_flood_23 (by decide) (fun c_4 => ?_) (fun c_4 => ?_)
        · have hf := hf.1 c_4
          refine lv_iload hx hb dX2_flood_28 (lv_at hl 0 rfl) ?_
          refine lv_istore_n (lv' := [(2, .int x4_3), (4, .int x4_3), (1, .int x1), (3, .int x3)]) hx hb dX2_flood_30 rfl hl (by decide) rfl (fun ls hl => ?_)
          obtain ⟨x3_5, ex3_5⟩ : ∃ y : Int32, y = x3 + (1 : Int32) := ⟨_, rfl⟩
          have hf := hf x3_5 ex3_5
          refine lv_iinc (v := x3_5) (lv' := [(3, .int x3_5), (2, .int x4_3), (4, .int x4_3), (1, .int x1)]) hx hb dX2_flood_31 hl (k := 3) rfl (by rw [ex3_5]; rfl) (by decide) rfl (fun ls hl => ?_)
          refine lv_goto (tgt := 4) hx hb dX2_flood_34 (by decide) ?_
          exact hG_4 x1 x4_3 x3_5 ls hf (lv_sub hl [3, 1, 0] rfl)
        · have hf := hf.2 c_4
          refine lv_iload_n hx hb dX2_flood_26 rfl (lv_at hl 2 rfl) ?_
          exact W.iret (v := x2) hx hb hr (fun t ht hW => ⟨x2, rfl, hf, ht⟩) (fun q h => absurd h List.not_mem_nil) dX2_flood_27
    exact main_4 n0_4 x1 x2 x3 ls hI0_4 hl
  refine lv_iload_n hx hb dX2_flood_0 rfl (lv_at hl 0 rfl) ?_
  refine lv_istore_n (lv' := [(2, .int p0), (0, .int p0), (1, .int p1)]) hx hb dX2_flood_1 rfl hl (by decide) rfl (fun ls hl => ?_)
  refine lv_iconst (v := (0 : Int32)) hx hb dX2_flood_2 (by decide) ?_
  refine lv_istore_n (lv' := [(3, .int (0 : Int32)), (2, .int p0), (0, .int p0), (1, .int p1)]) hx hb dX2_flood_3 rfl hl (by decide) rfl (fun ls hl => ?_)
  exact k_4 p1 p0 (0 : Int32) ls hf (lv_sub hl [3, 1, 0] rfl)
def wp_J6_bitCount_0f7a4 (p0 : Int32) (Q : Int32 → Prop) : Prop := ∀ x0_1 : Int32, x0_1 = (p0 - ((p0.toUInt32 >>> ((1 : Int32).toUInt32 &&& Int32.toUInt32 31)).toInt32 &&& (1431655765 : Int32))) → ∀ x0_2 : Int32, x0_2 = ((x0_1 &&& (858993459 : Int32)) + ((x0_1.toUInt32 >>> ((2 : Int32).toUInt32 &&& Int32.toUInt32 31)).toInt32 &&& (858993459 : Int32))) → ∀ x0_3 : Int32, x0_3 = ((x0_2 + (x0_2.toUInt32 >>> ((4 : Int32).toUInt32 &&& Int32.toUInt32 31)).toInt32) &&& (252645135 : Int32)) → ∀ x0_4 : Int32, x0_4 = (x0_3 + (x0_3.toUInt32 >>> ((8 : Int32).toUInt32 &&& Int32.toUInt32 31)).toInt32) → ∀ x0_5 : Int32, x0_5 = (x0_4 + (x0_4.toUInt32 >>> ((16 : Int32).toUInt32 &&& Int32.toUInt32 31)).toInt32) → Q (x0_5 &&& (63 : Int32))
set_option maxHeartbeats 4000000 in
set_option maxRecDepth 100000 in
theorem c_J6_bitCount_0f7a4 (l : Launch) (D : va_G) (cI cZ cW : ClassId)  (p0 : Int32) (Q : Int32 → Prop) (hf : wp_J6_bitCount_0f7a4 p0 Q) : Met l yJ6_bitCount_0f7a4 (wsA yJ6_bitCount_0f7a4 cJ6_bitCount_0f7a4 1 (some .int)) ({ frames := 0, cells := 0, slots := 0, locals := 0 }) (PR D cI cZ cW [.int p0] ([] : va_W)) (vp_Si Q) 0 0 (fun _ => False) := by
  refine Met.ofW (cc := cJ6_bitCount_0f7a4) (maxL := 1) (ret := (some .int)) (by decide) rfl ?_
  intro p e s m args below meth c s₁ B hml hv
  obtain ⟨rfl, hP, hK⟩ := hv
  have hx := B.exec
  have hb := B.bytes
  have hr := B.returns
  have hts := atoms_spec (ws := (wsA yJ6_bitCount_0f7a4 cJ6_bitCount_0f7a4 1 (some .int))) B.pre
  have ht : ∀ w ∈ lw_g, w.before _ s = true := fun w h => hts w (List.mem_cons_of_mem _ h)
  have hown : s.vm.findClass RJ6 = some m.cls := findClass_of_methodNamed B.named
  have hlocks := B.notSynchronized
  have hl := lv_entry ([.int p0]) (n := 1) (Nat.le_of_ble_eq_true rfl)
  rw [lg_entry_eq]
  generalize (lg_sl ([.int p0]) ++ List.replicate (1 - (lg_sl ([.int p0])).length) Slot.unset).toArray = ls at hl ⊢
  have hl : lv_has ls 1 [(0, .int p0)] := hl
  unfold wp_J6_bitCount_0f7a4 at hf
  refine lv_iload_n hx hb dJ6_bitCount_0f7a4_0 rfl (lv_at hl 0 rfl) ?_
  refine lv_iload_n hx hb dJ6_bitCount_0f7a4_1 rfl (lv_at hl 0 rfl) ?_
  refine lv_iconst (v := (1 : Int32)) hx hb dJ6_bitCount_0f7a4_2 (by decide) ?_
  refine lv_iushr (v := (p0.toUInt32 >>> ((1 : Int32).toUInt32 &&& Int32.toUInt32 31)).toInt32) hx hb dJ6_bitCount_0f7a4_3 rfl ?_
  refine lv_ldcw (v := (1431655765 : Int32)) hx hb hown (ht _ tw_306) dJ6_bitCount_0f7a4_4 ?_
  refine lv_iand hx hb dJ6_bitCount_0f7a4_7 ?_
  refine lv_isub hx hb dJ6_bitCount_0f7a4_8 ?_
  refine lv_topi (fun x0_1 ex0_1 => ?_)
  have hf := hf x0_1 ex0_1
  refine lv_istore_n (lv' := [(0, .int x0_1)]) hx hb dJ6_bitCount_0f7a4_9 rfl hl (by decide) rfl (fun ls hl => ?_)
  refine lv_iload_n hx hb dJ6_bitCount_0f7a4_10 rfl (lv_at hl 0 rfl) ?_
  refine lv_ldcw (v := (858993459 : Int32)) hx hb hown (ht _ tw_307) dJ6_bitCount_0f7a4_11 ?_
  refine lv_iand hx hb dJ6_bitCount_0f7a4_14 ?_
  refine lv_iload_n hx hb dJ6_bitCount_0f7a4_15 rfl (lv_at hl 0 rfl) ?_
  refine lv_iconst (v := (2 : Int32)) hx hb dJ6_bitCount_0f7a4_16 (by decide) ?_
  refine lv_iushr (v := (x0_1.toUInt32 >>> ((2 : Int32).toUInt32 &&& Int32.toUInt32 31)).toInt32) hx hb dJ6_bitCount_0f7a4_17 rfl ?_
  refine lv_ldcw (v := (858993459 : Int32)) hx hb hown (ht _ tw_307) dJ6_bitCount_0f7a4_18 ?_
  refine lv_iand hx hb dJ6_bitCount_0f7a4_21 ?_
  refine lv_iadd hx hb dJ6_bitCount_0f7a4_22 ?_
  refine lv_topi (fun x0_2 ex0_2 => ?_)
  have hf := hf x0_2 ex0_2
  refine lv_istore_n (lv' := [(0, .int x0_2)]) hx hb dJ6_bitCount_0f7a4_23 rfl hl (by decide) rfl (fun ls hl => ?_)
  refine lv_iload_n hx hb dJ6_bitCount_0f7a4_24 rfl (lv_at hl 0 rfl) ?_
  refine lv_iload_n hx hb dJ6_bitCount_0f7a4_25 rfl (lv_at hl 0 rfl) ?_
  refine lv_iconst (v := (4 : Int32)) hx hb dJ6_bitCount_0f7a4_26 (by decide) ?_
  refine lv_iushr (v := (x0_2.toUInt32 >>> ((4 : Int32).toUInt32 &&& Int32.toUInt32 31)).toInt32) hx hb dJ6_bitCount_0f7a4_27 rfl ?_
  refine lv_iadd hx hb dJ6_bitCount_0f7a4_28 ?_
  refine lv_ldcw (v := (252645135 : Int32)) hx hb hown (ht _ tw_308) dJ6_bitCount_0f7a4_29 ?_
  refine lv_iand hx hb dJ6_bitCount_0f7a4_32 ?_
  refine lv_topi (fun x0_3 ex0_3 => ?_)
  have hf := hf x0_3 ex0_3
  refine lv_istore_n (lv' := [(0, .int x0_3)]) hx hb dJ6_bitCount_0f7a4_33 rfl hl (by decide) rfl (fun ls hl => ?_)
  refine lv_iload_n hx hb dJ6_bitCount_0f7a4_34 rfl (lv_at hl 0 rfl) ?_
  refine lv_iload_n hx hb dJ6_bitCount_0f7a4_35 rfl (lv_at hl 0 rfl) ?_
  refine lv_bipush (v := (8 : Int32)) hx hb dJ6_bitCount_0f7a4_36 (by decide) ?_
  refine lv_iushr (v := (x0_3.toUInt32 >>> ((8 : Int32).toUInt32 &&& Int32.toUInt32 31)).toInt32) hx hb dJ6_bitCount_0f7a4_38 rfl ?_
  refine lv_iadd hx hb dJ6_bitCount_0f7a4_39 ?_
  refine lv_topi (fun x0_4 ex0_4 => ?_)
  have hf := hf x0_4 ex0_4
  refine lv_istore_n (lv' := [(0, .int x0_4)]) hx hb dJ6_bitCount_0f7a4_40 rfl hl (by decide) rfl (fun ls hl => ?_)
  refine lv_iload_n hx hb dJ6_bitCount_0f7a4_41 rfl (lv_at hl 0 rfl) ?_
  refine lv_iload_n hx hb dJ6_bitCount_0f7a4_42 rfl (lv_at hl 0 rfl) ?_
  refine lv_bipush (v := (16 : Int32)) hx hb dJ6_bitCount_0f7a4_43 (by decide) ?_
  refine lv_iushr (v := (x0_4.toUInt32 >>> ((16 : Int32).toUInt32 &&& Int32.toUInt32 31)).toInt32) hx hb dJ6_bitCount_0f7a4_45 rfl ?_
  refine lv_iadd hx hb dJ6_bitCount_0f7a4_46 ?_
  refine lv_topi (fun x0_5 ex0_5 => ?_)
  have hf := hf x0_5 ex0_5
  refine lv_istore_n (lv' := [(0, .int x0_5)]) hx hb dJ6_bitCount_0f7a4_47 rfl hl (by decide) rfl (fun ls hl => ?_)
  refine lv_iload_n hx hb dJ6_bitCount_0f7a4_48 rfl (lv_at hl 0 rfl) ?_
  refine lv_bipush (v := (63 : Int32)) hx hb dJ6_bitCount_0f7a4_49 (by decide) ?_
  refine lv_iand hx hb dJ6_bitCount_0f7a4_51 ?_
  exact W.iret (v := (x0_5 &&& (63 : Int32))) hx hb hr (fun t ht hW => ⟨(x0_5 &&& (63 : Int32)), rfl, hf, ht⟩) (fun q h => absurd h List.not_mem_nil) dJ6_bitCount_0f7a4_52
def LB_X2_largestPatch_6 (G6 : (Int32 × Int32 × Int32) → Prop)  (x1 : Int32) (x2 : Int32) (x3 : Int32) (Q : Int32 → Prop) : Prop := (((20 : Int32) ≤ x3 → Q x2) ∧ (¬ (20 : Int32) ≤ x3 → ((x1 = 0 → Q x2) ∧ (¬ x1 = 0 → wp_X2_leastOf x1 (fun r_3 => wp_X2_flood r_3 x1 (fun r_4 => wp_J6_bitCount_0f7a4 r_4 (fun r_5 => ∀ x2_6 : Int32, x2_6 = (if x2 < r_5 then r_5 else x2) → ∀ x1_7 : Int32, x1_7 = (x1 &&& (r_4 ^^^ (-1 : Int32))) → ∀ x3_8 : Int32, x3_8 = x3 + (1 : Int32) → G6 (x1_7, x2_6, x3_8))))))))
def B_X2_largestPatch_6  (x1 : Int32) (x2 : Int32) (x3 : Int32) (Q : Int32 → Prop) : Prop := LOOP (fun (G6 : (Int32 × Int32 × Int32) → Prop) z => LB_X2_largestPatch_6 G6  z.1 z.2.1 z.2.2 Q) (x1, x2, x3)
def wp_X2_largestPatch (p0 : Int32) (Q : Int32 → Prop) : Prop := B_X2_largestPatch_6  p0 (0 : Int32) (0 : Int32) Q
set_option maxHeartbeats 4000000 in
set_option maxRecDepth 100000 in
theorem c_X2_largestPatch (l : Launch) (D : va_G) (cI cZ cW : ClassId)  (p0 : Int32) (Q : Int32 → Prop) (hf : wp_X2_largestPatch p0 Q) : Met l yX2_largestPatch (wsA yX2_largestPatch cX2_largestPatch 5 (some .int)) ({ frames := 2, cells := 0, slots := 0, locals := 47 }) (PR D cI cZ cW [.int p0] ([] : va_W)) (vp_Si Q) 0 0 (fun _ => False) := by
  refine Met.ofW (cc := cX2_largestPatch) (maxL := 5) (ret := (some .int)) (by decide) rfl ?_
  intro p e s m args below meth c s₁ B hml hv
  obtain ⟨rfl, hP, hK⟩ := hv
  have hx := B.exec
  have hb := B.bytes
  have hr := B.returns
  have hts := atoms_spec (ws := (wsA yX2_largestPatch cX2_largestPatch 5 (some .int))) B.pre
  have ht : ∀ w ∈ lw_g, w.before _ s = true := fun w h => hts w (List.mem_cons_of_mem _ h)
  have hown : s.vm.findClass RX2 = some m.cls := findClass_of_methodNamed B.named
  have hlocks := B.notSynchronized
  have hl := lv_entry ([.int p0]) (n := 5) (Nat.le_of_ble_eq_true rfl)
  rw [lg_entry_eq]
  generalize (lg_sl ([.int p0]) ++ List.replicate (5 - (lg_sl ([.int p0])).length) Slot.unset).toArray = ls at hl ⊢
  have hl : lv_has ls 5 [(0, .int p0)] := hl
  unfold wp_X2_largestPatch at hf
  have k_6 : ∀ (x1 : Int32) (x2 : Int32) (x3 : Int32) (ls : Array Slot), B_X2_largestPatch_6  x1 x2 x3 Q → lv_has ls 5 [(1, .int x1), (2, .int x2), (3, .int x3)] → W p l e (headSpec (wsA yX2_largestPatch cX2_largestPatch 5 (some .int)) ({ frames := 2, cells := 0, slots := 0, locals := 47 })).room s m (#[.int p0] : Array Value) below meth c s.heap [] 0 0 (MQ below (vp_Si Q) (#[.int p0] : Array Value) s 0 0 (fun _ => False)) (F0 m 6 ls []) := by
    intro x1 x2 x3 ls hf hl
    unfold B_X2_largestPatch_6 at hf
    obtain ⟨I_6, ⟨n0_6, hI0_6⟩, hst_6⟩ := hf
    have main_6 : ∀ (n : Nat) (x1 : Int32) (x2 : Int32) (x3 : Int32) (ls : Array Slot), I_6 n (x1, x2, x3) → lv_has ls 5 [(1, .int x1), (2, .int x2), (3, .int x3)] → W p l e (headSpec (wsA yX2_largestPatch cX2_largestPatch 5 (some .int)) ({ frames := 2, cells := 0, slots := 0, locals := 47 })).room s m (#[.int p0] : Array Value) below meth c s.heap [] 0 0 (MQ below (vp_Si Q) (#[.int p0] : Array Value) s 0 0 (fun _ => False)) (F0 m 6 ls []) := by
      intro n
      induction n using Nat.strongRecOn with
      | _ n_6 ih_6 =>
      intro x1 x2 x3 ls hI hl
      have hf : LB_X2_largestPatch_6 (fun z => ∃ k, k < n_6 ∧ I_6 k z)  x1 x2 x3 Q := hst_6 n_6 (x1, x2, x3) hI
      have hG_6 : ∀ (x1 : Int32) (x2 : Int32) (x3 : Int32) (ls : Array Slot), (∃ k, k < n_6 ∧ I_6 k (x1, x2, x3)) → lv_has ls 5 [(1, .int x1), (2, .int x2), (3, .int x3)] → W p l e (headSpec (wsA yX2_largestPatch cX2_largestPatch 5 (some .int)) ({ frames := 2, cells := 0, slots := 0, locals := 47 })).room s m (#[.int p0] : Array Value) below meth c s.heap [] 0 0 (MQ below (vp_Si Q) (#[.int p0] : Array Value) s 0 0 (fun _ => False)) (F0 m 6 ls []) := by
        rintro x1 x2 x3 ls ⟨k, hk, hI⟩ hl
        exact ih_6 k hk x1 x2 x3 ls hI hl
      unfold LB_X2_largestPatch_6 at hf
      refine lv_iload_n hx hb dX2_largestPatch_6 rfl (lv_at hl 2 rfl) ?_
      refine lv_bipush (v := (20 : Int32)) hx hb dX2_largestPatch_7 (by decide) ?_
      refine lv_icmp_ge (tgt := 49) hx hb dX2_largestPatch_9 (by decide) (fun c_1 => ?_) (fun c_1 => ?_)
      · have hf := hf.1 c_1
        refine lv_iload_n hx hb dX2_largestPatch_49 rfl (lv_at hl 1 rfl) ?_
        exact W.iret (v := x2) hx hb hr (fun t ht hW => ⟨x2, rfl, hf, ht⟩) (fun q h => absurd h List.not_mem_nil) dX2_largestPatch_50
      · have hf := hf.2 c_1
        refine lv_iload_n hx hb dX2_largestPatch_12 rfl (lv_at hl 0 rfl) ?_
        refine lv_if_eq (tgt := 49) hx hb dX2_largestPatch_13 (by decide) (fun c_2 => ?_) (fun c_2 => ?_)
        · have hf := hf.1 c_2
          refine lv_iload_n hx hb dX2_largestPatch_49 rfl (lv_at hl 1 rfl) ?_
          exact W.iret (v := x2) hx hb hr (fun t ht hW => ⟨x2, rfl, hf, ht⟩) (fun q h => absurd h List.not_mem_nil) dX2_largestPatch_50
        · have hf := hf.2 c_2
          refine lv_iload_n hx hb dX2_largestPatch_16 rfl (lv_at hl 0 rfl) ?_
          have hPc : va_P D classes ([] : va_W) s.heap := hP
          refine vp_callSi (W.runS (As := [.int x1]) (rest := []) ⟨hx, hb, hml, hown, hts⟩ (c_X2_leastOf l D cI cZ cW  x1 _ hf) ⟨callB_of 1 hts (gA tw_395) rfl rfl rfl (ht _ tw_9) (ht _ tw_581) hd_X2_leastOf ⟨Nat.le_of_ble_eq_true rfl, Nat.le_of_ble_eq_true rfl⟩, ht _ tw_394⟩ ⟨PR_blind, fun U hU hW => PR_mk hPc hK hU hW⟩ rfl rfl hl.1 rfl (lv_room (Nat.le_of_ble_eq_true rfl)) dX2_largestPatch_17 ⟨Nat.zero_le _, Nat.zero_le _⟩) (fun r_3 hf => ?_)
          refine lv_iload_n hx hb dX2_largestPatch_20 rfl (lv_at hl 0 rfl) ?_
          have hPc : va_P D classes ([] : va_W) s.heap := hP
          refine vp_callSi (W.runS (As := [.int r_3, .int x1]) (rest := []) ⟨hx, hb, hml, hown, hts⟩ (c_X2_flood l D cI cZ cW  r_3 x1 _ hf) ⟨callB_of 2 hts (gA tw_496) rfl rfl rfl (ht _ tw_9) (ht _ tw_494) hd_X2_flood ⟨Nat.le_of_ble_eq_true rfl, Nat.le_of_ble_eq_true rfl⟩, ht _ tw_495⟩ ⟨PR_blind, fun U hU hW => PR_mk hPc hK hU hW⟩ rfl rfl hl.1 rfl (lv_room (Nat.le_of_ble_eq_true rfl)) dX2_largestPatch_21 ⟨Nat.zero_le _, Nat.zero_le _⟩) (fun r_4 hf => ?_)
          refine lv_istore (lv' := [(4, .int r_4), (1, .int x1), (2, .int x2), (3, .int x3)]) hx hb dX2_largestPatch_24 hl (by decide) rfl (fun ls hl => ?_)
          refine lv_iload_n hx hb dX2_largestPatch_26 rfl (lv_at hl 2 rfl) ?_
          refine lv_iload hx hb dX2_largestPatch_27 (lv_at hl 0 rfl) ?_
          have hPc : va_P D classes ([] : va_W) s.heap := hP
          refine vp_callSi (W.runS (As := [.int r_4]) (rest := [.int x2]) ⟨hx, hb, hml, hown, hts⟩ (c_J6_bitCount_0f7a4 l D cI cZ cW  r_4 _ hf) ⟨callB_of 1 hts (gA tw_305) rfl rfl rfl (ht _ tw_10) (ht _ tw_582) hd_J6_bitCount_0f7a4 ⟨Nat.le_of_ble_eq_true rfl, Nat.le_of_ble_eq_true rfl⟩, ht _ tw_304⟩ ⟨PR_blind, fun U hU hW => PR_mk hPc hK hU hW⟩ rfl rfl hl.1 rfl (lv_room (Nat.le_of_ble_eq_true rfl)) dX2_largestPatch_29 ⟨Nat.zero_le _, Nat.zero_le _⟩) (fun r_5 hf => ?_)
          refine va_mmax hx hb (by rw [hml]; exact hl.1.symm) hown (ht _ tw_583) (ht _ tw_584) (ht _ tw_12) (ht _ tw_585) (Nat.le_of_ble_eq_true rfl) (Nat.le_of_ble_eq_true rfl) (Nat.zero_le _) (Nat.zero_le _) dX2_largestPatch_32 ?_
          refine lv_topi (fun x2_6 ex2_6 => ?_)
          have hf := hf x2_6 ex2_6
          refine lv_istore_n (lv' := [(2, .int x2_6), (4, .int r_4), (1, .int x1), (3, .int x3)]) hx hb dX2_largestPatch_35 rfl hl (by decide) rfl (fun ls hl => ?_)
          refine lv_iload_n hx hb dX2_largestPatch_36 rfl (lv_at hl 2 rfl) ?_
          refine lv_iload hx hb dX2_largestPatch_37 (lv_at hl 1 rfl) ?_
          refine lv_iconst (v := (-1 : Int32)) hx hb dX2_largestPatch_39 (by decide) ?_
          refine lv_ixor hx hb dX2_largestPatch_40 ?_
          refine lv_iand hx hb dX2_largestPatch_41 ?_
          refine lv_topi (fun x1_7 ex1_7 => ?_)
          have hf := hf x1_7 ex1_7
          refine lv_istore_n (lv' := [(1, .int x1_7), (2, .int x2_6), (4, .int r_4), (3, .int x3)]) hx hb dX2_largestPatch_42 rfl hl (by decide) rfl (fun ls hl => ?_)
          obtain ⟨x3_8, ex3_8⟩ : ∃ y : Int32, y = x3 + (1 : Int32) := ⟨_, rfl⟩
          have hf := hf x3_8 ex3_8
          refine lv_iinc (v := x3_8) (lv' := [(3, .int x3_8), (1, .int x1_7), (2, .int x2_6), (4, .int r_4)]) hx hb dX2_largestPatch_43 hl (k := 3) rfl (by rw [ex3_8]; rfl) (by decide) rfl (fun ls hl => ?_)
          refine lv_goto (tgt := 6) hx hb dX2_largestPatch_46 (by decide) ?_
          exact hG_6 x1_7 x2_6 x3_8 ls hf (lv_sub hl [1, 2, 0] rfl)
    exact main_6 n0_6 x1 x2 x3 ls hI0_6 hl
  refine lv_iload_n hx hb dX2_largestPatch_0 rfl (lv_at hl 0 rfl) ?_
  refine lv_istore_n (lv' := [(1, .int p0), (0, .int p0)]) hx hb dX2_largestPatch_1 rfl hl (by decide) rfl (fun ls hl => ?_)
  refine lv_iconst (v := (0 : Int32)) hx hb dX2_largestPatch_2 (by decide) ?_
  refine lv_istore_n (lv' := [(2, .int (0 : Int32)), (1, .int p0), (0, .int p0)]) hx hb dX2_largestPatch_3 rfl hl (by decide) rfl (fun ls hl => ?_)
  refine lv_iconst (v := (0 : Int32)) hx hb dX2_largestPatch_4 (by decide) ?_
  refine lv_istore_n (lv' := [(3, .int (0 : Int32)), (2, .int (0 : Int32)), (1, .int p0), (0, .int p0)]) hx hb dX2_largestPatch_5 rfl hl (by decide) rfl (fun ls hl => ?_)
  exact k_6 p0 (0 : Int32) (0 : Int32) ls hf (lv_sub hl [2, 1, 0] rfl)
def LB_X2_steps_23 (G23 : (Int32 × Int32 × Int32 × Int32) → Prop)  (x2 : Int32) (x3 : Int32) (x4 : Int32) (x5 : Int32) (Q : Int32 → Prop) : Prop := (((20 : Int32) ≤ x5 → Q (-9 : Int32)) ∧ (¬ (20 : Int32) ≤ x5 → wp_X2_beside x4 (fun r_2 => ∀ x4_3 : Int32, x4_3 = (x4 ||| (r_2 &&& x2)) → (((x4_3 &&& x3) = 0 → ∀ x5_5 : Int32, x5_5 = x5 + (1 : Int32) → G23 (x2, x3, x4_3, x5_5)) ∧ (¬ (x4_3 &&& x3) = 0 → Q x5)))))
def B_X2_steps_23  (x2 : Int32) (x3 : Int32) (x4 : Int32) (x5 : Int32) (Q : Int32 → Prop) : Prop := LOOP (fun (G23 : (Int32 × Int32 × Int32 × Int32) → Prop) z => LB_X2_steps_23 G23  z.1 z.2.1 z.2.2.1 z.2.2.2 Q) (x2, x3, x4, x5)
def wp_X2_steps (p0 : Int32) (p1 : Int32) (p2 : Int32) (Q : Int32 → Prop) : Prop := ((¬ p0 = p1 → wp_X2_bitOf p1 (fun r_7 => wp_X2_bitOf p0 (fun r_8 => ∀ x4_9 : Int32, x4_9 = (r_8 &&& p2) → B_X2_steps_23  p2 r_7 x4_9 (1 : Int32) Q))) ∧ (p0 = p1 → Q (0 : Int32)))
set_option maxHeartbeats 4000000 in
set_option maxRecDepth 100000 in
theorem c_X2_steps (l : Launch) (D : va_G) (cI cZ cW : ClassId)  (p0 : Int32) (p1 : Int32) (p2 : Int32) (Q : Int32 → Prop) (hf : wp_X2_steps p0 p1 p2 Q) : Met l yX2_steps (wsA yX2_steps cX2_steps 6 (some .int)) ({ frames := 2, cells := 0, slots := 0, locals := 40 }) (PR D cI cZ cW [.int p0, .int p1, .int p2] ([] : va_W)) (vp_Si Q) 0 0 (fun _ => False) := by
  refine Met.ofW (cc := cX2_steps) (maxL := 6) (ret := (some .int)) (by decide) rfl ?_
  intro p e s m args below meth c s₁ B hml hv
  obtain ⟨rfl, hP, hK⟩ := hv
  have hx := B.exec
  have hb := B.bytes
  have hr := B.returns
  have hts := atoms_spec (ws := (wsA yX2_steps cX2_steps 6 (some .int))) B.pre
  have ht : ∀ w ∈ lw_g, w.before _ s = true := fun w h => hts w (List.mem_cons_of_mem _ h)
  have hown : s.vm.findClass RX2 = some m.cls := findClass_of_methodNamed B.named
  have hlocks := B.notSynchronized
  have hl := lv_entry ([.int p0, .int p1, .int p2]) (n := 6) (Nat.le_of_ble_eq_true rfl)
  rw [lg_entry_eq]
  generalize (lg_sl ([.int p0, .int p1, .int p2]) ++ List.replicate (6 - (lg_sl ([.int p0, .int p1, .int p2])).length) Slot.unset).toArray = ls at hl ⊢
  have hl : lv_has ls 6 [(0, .int p0), (1, .int p1), (2, .int p2)] := hl
  unfold wp_X2_steps at hf
  have k_23 : ∀ (x2 : Int32) (x3 : Int32) (x4 : Int32) (x5 : Int32) (ls : Array Slot), B_X2_steps_23  x2 x3 x4 x5 Q → lv_has ls 6 [(2, .int x2), (3, .int x3), (4, .int x4), (5, .int x5)] → W p l e (headSpec (wsA yX2_steps cX2_steps 6 (some .int)) ({ frames := 2, cells := 0, slots := 0, locals := 40 })).room s m (#[.int p0, .int p1, .int p2] : Array Value) below meth c s.heap [] 0 0 (MQ below (vp_Si Q) (#[.int p0, .int p1, .int p2] : Array Value) s 0 0 (fun _ => False)) (F0 m 23 ls []) := by
    intro x2 x3 x4 x5 ls hf hl
    unfold B_X2_steps_23 at hf
    obtain ⟨I_23, ⟨n0_23, hI0_23⟩, hst_23⟩ := hf
    have main_23 : ∀ (n : Nat) (x2 : Int32) (x3 : Int32) (x4 : Int32) (x5 : Int32) (ls : Array Slot), I_23 n (x2, x3, x4, x5) → lv_has ls 6 [(2, .int x2), (3, .int x3), (4, .int x4), (5, .int x5)] → W p l e (headSpec (wsA yX2_steps cX2_steps 6 (some .int)) ({ frames := 2, cells := 0, slots := 0, locals := 40 })).room s m (#[.int p0, .int p1, .int p2] : Array Value) below meth c s.heap [] 0 0 (MQ below (vp_Si Q) (#[.int p0, .int p1, .int p2] : Array Value) s 0 0 (fun _ => False)) (F0 m 23 ls []) := by
      intro n
      induction n using Nat.strongRecOn with
      | _ n_23 ih_23 =>
      intro x2 x3 x4 x5 ls hI hl
      have hf : LB_X2_steps_23 (fun z => ∃ k, k < n_23 ∧ I_23 k z)  x2 x3 x4 x5 Q := hst_23 n_23 (x2, x3, x4, x5) hI
      have hG_23 : ∀ (x2 : Int32) (x3 : Int32) (x4 : Int32) (x5 : Int32) (ls : Array Slot), (∃ k, k < n_23 ∧ I_23 k (x2, x3, x4, x5)) → lv_has ls 6 [(2, .int x2), (3, .int x3), (4, .int x4), (5, .int x5)] → W p l e (headSpec (wsA yX2_steps cX2_steps 6 (some .int)) ({ frames := 2, cells := 0, slots := 0, locals := 40 })).room s m (#[.int p0, .int p1, .int p2] : Array Value) below meth c s.heap [] 0 0 (MQ below (vp_Si Q) (#[.int p0, .int p1, .int p2] : Array Value) s 0 0 (fun _ => False)) (F0 m 23 ls []) := by
        rintro x2 x3 x4 x5 ls ⟨k, hk, hI⟩ hl
        exact ih_23 k hk x2 x3 x4 x5 ls hI hl
      unfold LB_X2_steps_23 at hf
      refine lv_iload hx hb dX2_steps_23 (lv_at hl 3 rfl) ?_
      refine lv_bipush (v := (20 : Int32)) hx hb dX2_steps_25 (by decide) ?_
      refine lv_icmp_ge (tgt := 58) hx hb dX2_steps_27 (by decide) (fun c_1 => ?_) (fun c_1 => ?_)
      · have hf := hf.1 c_1
        refine lv_bipush (v := (-9 : Int32)) hx hb dX2_steps_58 (by decide) ?_
        exact W.iret (v := (-9 : Int32)) hx hb hr (fun t ht hW => ⟨(-9 : Int32), rfl, hf, ht⟩) (fun q h => absurd h List.not_mem_nil) dX2_steps_60
      · have hf := hf.2 c_1
        refine lv_iload hx hb dX2_steps_30 (lv_at hl 2 rfl) ?_
        refine lv_iload hx hb dX2_steps_32 (lv_at hl 2 rfl) ?_
        have hPc : va_P D classes ([] : va_W) s.heap := hP
        refine vp_callSi (W.runS (As := [.int x4]) (rest := [.int x4]) ⟨hx, hb, hml, hown, hts⟩ (c_X2_beside l D cI cZ cW  x4 _ hf) ⟨callB_of 1 hts (gA tw_385) rfl rfl rfl (ht _ tw_9) (ht _ tw_485) hd_X2_beside ⟨Nat.le_of_ble_eq_true rfl, Nat.le_of_ble_eq_true rfl⟩, ht _ tw_384⟩ ⟨PR_blind, fun U hU hW => PR_mk hPc hK hU hW⟩ rfl rfl hl.1 rfl (lv_room (Nat.le_of_ble_eq_true rfl)) dX2_steps_34 ⟨Nat.zero_le _, Nat.zero_le _⟩) (fun r_2 hf => ?_)
        refine lv_iload_n hx hb dX2_steps_37 rfl (lv_at hl 0 rfl) ?_
        refine lv_iand hx hb dX2_steps_38 ?_
        refine lv_ior hx hb dX2_steps_39 ?_
        refine lv_topi (fun x4_3 ex4_3 => ?_)
        have hf := hf x4_3 ex4_3
        refine lv_istore (lv' := [(4, .int x4_3), (2, .int x2), (3, .int x3), (5, .int x5)]) hx hb dX2_steps_40 hl (by decide) rfl (fun ls hl => ?_)
        refine lv_iload hx hb dX2_steps_42 (lv_at hl 0 rfl) ?_
        refine lv_iload_n hx hb dX2_steps_44 rfl (lv_at hl 2 rfl) ?_
        refine lv_iand hx hb dX2_steps_45 ?_
        refine lv_if_eq (tgt := 52) hx hb dX2_steps_46 (by decide) (fun c_4 => ?_) (fun c_4 => ?_)
        · have hf := hf.1 c_4
          obtain ⟨x5_5, ex5_5⟩ : ∃ y : Int32, y = x5 + (1 : Int32) := ⟨_, rfl⟩
          have hf := hf x5_5 ex5_5
          refine lv_iinc (v := x5_5) (lv' := [(5, .int x5_5), (4, .int x4_3), (2, .int x2), (3, .int x3)]) hx hb dX2_steps_52 hl (k := 3) rfl (by rw [ex5_5]; rfl) (by decide) rfl (fun ls hl => ?_)
          refine lv_goto (tgt := 23) hx hb dX2_steps_55 (by decide) ?_
          exact hG_23 x2 x3 x4_3 x5_5 ls hf (lv_sub hl [2, 3, 1, 0] rfl)
        · have hf := hf.2 c_4
          refine lv_iload hx hb dX2_steps_49 (lv_at hl 3 rfl) ?_
          exact W.iret (v := x5) hx hb hr (fun t ht hW => ⟨x5, rfl, hf, ht⟩) (fun q h => absurd h List.not_mem_nil) dX2_steps_51
    exact main_23 n0_23 x2 x3 x4 x5 ls hI0_23 hl
  refine lv_iload_n hx hb dX2_steps_0 rfl (lv_at hl 0 rfl) ?_
  refine lv_iload_n hx hb dX2_steps_1 rfl (lv_at hl 1 rfl) ?_
  refine lv_icmp_ne (tgt := 7) hx hb dX2_steps_2 (by decide) (fun c_6 => ?_) (fun c_6 => ?_)
  · have hf := hf.1 c_6
    refine lv_iload_n hx hb dX2_steps_7 rfl (lv_at hl 1 rfl) ?_
    have hPc : va_P D classes ([] : va_W) s.heap := hP
    refine vp_callSi (W.runS (As := [.int p1]) (rest := []) ⟨hx, hb, hml, hown, hts⟩ (c_X2_bitOf l D cI cZ cW  p1 _ hf) ⟨callB_of 1 hts (gA tw_248) rfl rfl rfl (ht _ tw_9) (ht _ tw_484) hd_X2_bitOf ⟨Nat.le_of_ble_eq_true rfl, Nat.le_of_ble_eq_true rfl⟩, ht _ tw_247⟩ ⟨PR_blind, fun U hU hW => PR_mk hPc hK hU hW⟩ rfl rfl hl.1 rfl (lv_room (Nat.le_of_ble_eq_true rfl)) dX2_steps_8 ⟨Nat.zero_le _, Nat.zero_le _⟩) (fun r_7 hf => ?_)
    refine lv_istore_n (lv' := [(3, .int r_7), (0, .int p0), (1, .int p1), (2, .int p2)]) hx hb dX2_steps_11 rfl hl (by decide) rfl (fun ls hl => ?_)
    refine lv_iload_n hx hb dX2_steps_12 rfl (lv_at hl 1 rfl) ?_
    have hPc : va_P D classes ([] : va_W) s.heap := hP
    refine vp_callSi (W.runS (As := [.int p0]) (rest := []) ⟨hx, hb, hml, hown, hts⟩ (c_X2_bitOf l D cI cZ cW  p0 _ hf) ⟨callB_of 1 hts (gA tw_248) rfl rfl rfl (ht _ tw_9) (ht _ tw_484) hd_X2_bitOf ⟨Nat.le_of_ble_eq_true rfl, Nat.le_of_ble_eq_true rfl⟩, ht _ tw_247⟩ ⟨PR_blind, fun U hU hW => PR_mk hPc hK hU hW⟩ rfl rfl hl.1 rfl (lv_room (Nat.le_of_ble_eq_true rfl)) dX2_steps_13 ⟨Nat.zero_le _, Nat.zero_le _⟩) (fun r_8 hf => ?_)
    refine lv_iload_n hx hb dX2_steps_16 rfl (lv_at hl 3 rfl) ?_
    refine lv_iand hx hb dX2_steps_17 ?_
    refine lv_topi (fun x4_9 ex4_9 => ?_)
    have hf := hf x4_9 ex4_9
    refine lv_istore (lv' := [(4, .int x4_9), (3, .int r_7), (0, .int p0), (1, .int p1), (2, .int p2)]) hx hb dX2_steps_18 hl (by decide) rfl (fun ls hl => ?_)
    refine lv_iconst (v := (1 : Int32)) hx hb dX2_steps_20 (by decide) ?_
    refine lv_istore (lv' := [(5, .int (1 : Int32)), (4, .int x4_9), (3, .int r_7), (0, .int p0), (1, .int p1), (2, .int p2)]) hx hb dX2_steps_21 hl (by decide) rfl (fun ls hl => ?_)
    exact k_23 p2 r_7 x4_9 (1 : Int32) ls hf (lv_sub hl [5, 2, 1, 0] rfl)
  · have hf := hf.2 c_6
    refine lv_iconst (v := (0 : Int32)) hx hb dX2_steps_5 (by decide) ?_
    exact W.iret (v := (0 : Int32)) hx hb hr (fun t ht hW => ⟨(0 : Int32), rfl, hf, ht⟩) (fun q h => absurd h List.not_mem_nil) dX2_steps_6
def LB_X2_fewestGnawed_24 (G24 : (Int32 × Int32 × Int32 × Int32 × Int32 × Int32) → Prop)  (x0 : Int32) (x2 : Int32) (x3 : Int32) (x4 : Int32) (x5 : Int32) (x6 : Int32) (Q : Int32 → Prop) : Prop := (((20 : Int32) < x6 → Q (-9 : Int32)) ∧ (¬ (20 : Int32) < x6 → wp_X2_flood x5 x2 (fun r_2 => (((r_2 &&& x4) = 0 → wp_X2_beside r_2 (fun r_4 => wp_X2_bitOf x0 (fun r_5 => ∀ x5_6 : Int32, x5_6 = (r_2 ||| ((r_4 ||| r_5) &&& x3)) → ∀ x6_7 : Int32, x6_7 = x6 + (1 : Int32) → G24 (x0, x2, x3, x4, x5_6, x6_7)))) ∧ (¬ (r_2 &&& x4) = 0 → Q x6)))))
def B_X2_fewestGnawed_24  (x0 : Int32) (x2 : Int32) (x3 : Int32) (x4 : Int32) (x5 : Int32) (x6 : Int32) (Q : Int32 → Prop) : Prop := LOOP (fun (G24 : (Int32 × Int32 × Int32 × Int32 × Int32 × Int32) → Prop) z => LB_X2_fewestGnawed_24 G24  z.1 z.2.1 z.2.2.1 z.2.2.2.1 z.2.2.2.2.1 z.2.2.2.2.2 Q) (x0, x2, x3, x4, x5, x6)
def wp_X2_fewestGnawed (p0 : Int32) (p1 : Int32) (p2 : Int32) (p3 : Int32) (Q : Int32 → Prop) : Prop := ((¬ p0 = p1 → wp_X2_bitOf p1 (fun r_9 => wp_X2_bitOf p0 (fun r_10 => ∀ x5_11 : Int32, x5_11 = (r_10 &&& p2) → B_X2_fewestGnawed_24  p0 p2 p3 r_9 x5_11 (0 : Int32) Q))) ∧ (p0 = p1 → Q (0 : Int32)))
set_option maxHeartbeats 4000000 in
set_option maxRecDepth 100000 in
theorem c_X2_fewestGnawed (l : Launch) (D : va_G) (cI cZ cW : ClassId)  (p0 : Int32) (p1 : Int32) (p2 : Int32) (p3 : Int32) (Q : Int32 → Prop) (hf : wp_X2_fewestGnawed p0 p1 p2 p3 Q) : Met l yX2_fewestGnawed (wsA yX2_fewestGnawed cX2_fewestGnawed 7 (some .int)) ({ frames := 2, cells := 0, slots := 0, locals := 47 }) (PR D cI cZ cW [.int p0, .int p1, .int p2, .int p3] ([] : va_W)) (vp_Si Q) 0 0 (fun _ => False) := by
  refine Met.ofW (cc := cX2_fewestGnawed) (maxL := 7) (ret := (some .int)) (by decide) rfl ?_
  intro p e s m args below meth c s₁ B hml hv
  obtain ⟨rfl, hP, hK⟩ := hv
  have hx := B.exec
  have hb := B.bytes
  have hr := B.returns
  have hts := atoms_spec (ws := (wsA yX2_fewestGnawed cX2_fewestGnawed 7 (some .int))) B.pre
  have ht : ∀ w ∈ lw_g, w.before _ s = true := fun w h => hts w (List.mem_cons_of_mem _ h)
  have hown : s.vm.findClass RX2 = some m.cls := findClass_of_methodNamed B.named
  have hlocks := B.notSynchronized
  have hl := lv_entry ([.int p0, .int p1, .int p2, .int p3]) (n := 7) (Nat.le_of_ble_eq_true rfl)
  rw [lg_entry_eq]
  generalize (lg_sl ([.int p0, .int p1, .int p2, .int p3]) ++ List.replicate (7 - (lg_sl ([.int p0, .int p1, .int p2, .int p3])).length) Slot.unset).toArray = ls at hl ⊢
  have hl : lv_has ls 7 [(0, .int p0), (1, .int p1), (2, .int p2), (3, .int p3)] := hl
  unfold wp_X2_fewestGnawed at hf
  have k_24 : ∀ (x0 : Int32) (x2 : Int32) (x3 : Int32) (x4 : Int32) (x5 : Int32) (x6 : Int32) (ls : Array Slot), B_X2_fewestGnawed_24  x0 x2 x3 x4 x5 x6 Q → lv_has ls 7 [(0, .int x0), (2, .int x2), (3, .int x3), (4, .int x4), (5, .int x5), (6, .int x6)] → W p l e (headSpec (wsA yX2_fewestGnawed cX2_fewestGnawed 7 (some .int)) ({ frames := 2, cells := 0, slots := 0, locals := 47 })).room s m (#[.int p0, .int p1, .int p2, .int p3] : Array Value) below meth c s.heap [] 0 0 (MQ below (vp_Si Q) (#[.int p0, .int p1, .int p2, .int p3] : Array Value) s 0 0 (fun _ => False)) (F0 m 24 ls []) := by
    intro x0 x2 x3 x4 x5 x6 ls hf hl
    unfold B_X2_fewestGnawed_24 at hf
    obtain ⟨I_24, ⟨n0_24, hI0_24⟩, hst_24⟩ := hf
    have main_24 : ∀ (n : Nat) (x0 : Int32) (x2 : Int32) (x3 : Int32) (x4 : Int32) (x5 : Int32) (x6 : Int32) (ls : Array Slot), I_24 n (x0, x2, x3, x4, x5, x6) → lv_has ls 7 [(0, .int x0), (2, .int x2), (3, .int x3), (4, .int x4), (5, .int x5), (6, .int x6)] → W p l e (headSpec (wsA yX2_fewestGnawed cX2_fewestGnawed 7 (some .int)) ({ frames := 2, cells := 0, slots := 0, locals := 47 })).room s m (#[.int p0, .int p1, .int p2, .int p3] : Array Value) below meth c s.heap [] 0 0 (MQ below (vp_Si Q) (#[.int p0, .int p1, .int p2, .int p3] : Array Value) s 0 0 (fun _ => False)) (F0 m 24 ls []) := by
      intro n
      induction n using Nat.strongRecOn with
      | _ n_24 ih_24 =>
      intro x0 x2 x3 x4 x5 x6 ls hI hl
      have hf : LB_X2_fewestGnawed_24 (fun z => ∃ k, k < n_24 ∧ I_24 k z)  x0 x2 x3 x4 x5 x6 Q := hst_24 n_24 (x0, x2, x3, x4, x5, x6) hI
      have hG_24 : ∀ (x0 : Int32) (x2 : Int32) (x3 : Int32) (x4 : Int32) (x5 : Int32) (x6 : Int32) (ls : Array Slot), (∃ k, k < n_24 ∧ I_24 k (x0, x2, x3, x4, x5, x6)) → lv_has ls 7 [(0, .int x0), (2, .int x2), (3, .int x3), (4, .int x4), (5, .int x5), (6, .int x6)] → W p l e (headSpec (wsA yX2_fewestGnawed cX2_fewestGnawed 7 (some .int)) ({ frames := 2, cells := 0, slots := 0, locals := 47 })).room s m (#[.int p0, .int p1, .int p2, .int p3] : Array Value) below meth c s.heap [] 0 0 (MQ below (vp_Si Q) (#[.int p0, .int p1, .int p2, .int p3] : Array Value) s 0 0 (fun _ => False)) (F0 m 24 ls []) := by
        rintro x0 x2 x3 x4 x5 x6 ls ⟨k, hk, hI⟩ hl
        exact ih_24 k hk x0 x2 x3 x4 x5 x6 ls hI hl
      unfold LB_X2_fewestGnawed_24 at hf
      refine lv_iload hx hb dX2_fewestGnawed_24 (lv_at hl 5 rfl) ?_
      refine lv_bipush (v := (20 : Int32)) hx hb dX2_fewestGnawed_26 (by decide) ?_
      refine lv_icmp_gt (tgt := 73) hx hb dX2_fewestGnawed_28 (by decide) (fun c_1 => ?_) (fun c_1 => ?_)
      · have hf := hf.1 c_1
        refine lv_bipush (v := (-9 : Int32)) hx hb dX2_fewestGnawed_73 (by decide) ?_
        exact W.iret (v := (-9 : Int32)) hx hb hr (fun t ht hW => ⟨(-9 : Int32), rfl, hf, ht⟩) (fun q h => absurd h List.not_mem_nil) dX2_fewestGnawed_75
      · have hf := hf.2 c_1
        refine lv_iload hx hb dX2_fewestGnawed_31 (lv_at hl 4 rfl) ?_
        refine lv_iload_n hx hb dX2_fewestGnawed_33 rfl (lv_at hl 1 rfl) ?_
        have hPc : va_P D classes ([] : va_W) s.heap := hP
        refine vp_callSi (W.runS (As := [.int x5, .int x2]) (rest := []) ⟨hx, hb, hml, hown, hts⟩ (c_X2_flood l D cI cZ cW  x5 x2 _ hf) ⟨callB_of 2 hts (gA tw_496) rfl rfl rfl (ht _ tw_9) (ht _ tw_494) hd_X2_flood ⟨Nat.le_of_ble_eq_true rfl, Nat.le_of_ble_eq_true rfl⟩, ht _ tw_495⟩ ⟨PR_blind, fun U hU hW => PR_mk hPc hK hU hW⟩ rfl rfl hl.1 rfl (lv_room (Nat.le_of_ble_eq_true rfl)) dX2_fewestGnawed_34 ⟨Nat.zero_le _, Nat.zero_le _⟩) (fun r_2 hf => ?_)
        refine lv_istore (lv' := [(5, .int r_2), (0, .int x0), (2, .int x2), (3, .int x3), (4, .int x4), (6, .int x6)]) hx hb dX2_fewestGnawed_37 hl (by decide) rfl (fun ls hl => ?_)
        refine lv_iload hx hb dX2_fewestGnawed_39 (lv_at hl 0 rfl) ?_
        refine lv_iload hx hb dX2_fewestGnawed_41 (lv_at hl 4 rfl) ?_
        refine lv_iand hx hb dX2_fewestGnawed_43 ?_
        refine lv_if_eq (tgt := 50) hx hb dX2_fewestGnawed_44 (by decide) (fun c_3 => ?_) (fun c_3 => ?_)
        · have hf := hf.1 c_3
          refine lv_iload hx hb dX2_fewestGnawed_50 (lv_at hl 0 rfl) ?_
          refine lv_iload hx hb dX2_fewestGnawed_52 (lv_at hl 0 rfl) ?_
          have hPc : va_P D classes ([] : va_W) s.heap := hP
          refine vp_callSi (W.runS (As := [.int r_2]) (rest := [.int r_2]) ⟨hx, hb, hml, hown, hts⟩ (c_X2_beside l D cI cZ cW  r_2 _ hf) ⟨callB_of 1 hts (gA tw_385) rfl rfl rfl (ht _ tw_9) (ht _ tw_485) hd_X2_beside ⟨Nat.le_of_ble_eq_true rfl, Nat.le_of_ble_eq_true rfl⟩, ht _ tw_384⟩ ⟨PR_blind, fun U hU hW => PR_mk hPc hK hU hW⟩ rfl rfl hl.1 rfl (lv_room (Nat.le_of_ble_eq_true rfl)) dX2_fewestGnawed_54 ⟨Nat.zero_le _, Nat.zero_le _⟩) (fun r_4 hf => ?_)
          refine lv_iload_n hx hb dX2_fewestGnawed_57 rfl (lv_at hl 1 rfl) ?_
          have hPc : va_P D classes ([] : va_W) s.heap := hP
          refine vp_callSi (W.runS (As := [.int x0]) (rest := [.int r_4, .int r_2]) ⟨hx, hb, hml, hown, hts⟩ (c_X2_bitOf l D cI cZ cW  x0 _ hf) ⟨callB_of 1 hts (gA tw_248) rfl rfl rfl (ht _ tw_9) (ht _ tw_484) hd_X2_bitOf ⟨Nat.le_of_ble_eq_true rfl, Nat.le_of_ble_eq_true rfl⟩, ht _ tw_247⟩ ⟨PR_blind, fun U hU hW => PR_mk hPc hK hU hW⟩ rfl rfl hl.1 rfl (lv_room (Nat.le_of_ble_eq_true rfl)) dX2_fewestGnawed_58 ⟨Nat.zero_le _, Nat.zero_le _⟩) (fun r_5 hf => ?_)
          refine lv_ior hx hb dX2_fewestGnawed_61 ?_
          refine lv_iload_n hx hb dX2_fewestGnawed_62 rfl (lv_at hl 3 rfl) ?_
          refine lv_iand hx hb dX2_fewestGnawed_63 ?_
          refine lv_ior hx hb dX2_fewestGnawed_64 ?_
          refine lv_topi (fun x5_6 ex5_6 => ?_)
          have hf := hf x5_6 ex5_6
          refine lv_istore (lv' := [(5, .int x5_6), (0, .int x0), (2, .int x2), (3, .int x3), (4, .int x4), (6, .int x6)]) hx hb dX2_fewestGnawed_65 hl (by decide) rfl (fun ls hl => ?_)
          obtain ⟨x6_7, ex6_7⟩ : ∃ y : Int32, y = x6 + (1 : Int32) := ⟨_, rfl⟩
          have hf := hf x6_7 ex6_7
          refine lv_iinc (v := x6_7) (lv' := [(6, .int x6_7), (5, .int x5_6), (0, .int x0), (2, .int x2), (3, .int x3), (4, .int x4)]) hx hb dX2_fewestGnawed_67 hl (k := 5) rfl (by rw [ex6_7]; rfl) (by decide) rfl (fun ls hl => ?_)
          refine lv_goto (tgt := 24) hx hb dX2_fewestGnawed_70 (by decide) ?_
          exact hG_24 x0 x2 x3 x4 x5_6 x6_7 ls hf (lv_sub hl [2, 3, 4, 5, 1, 0] rfl)
        · have hf := hf.2 c_3
          refine lv_iload hx hb dX2_fewestGnawed_47 (lv_at hl 5 rfl) ?_
          exact W.iret (v := x6) hx hb hr (fun t ht hW => ⟨x6, rfl, hf, ht⟩) (fun q h => absurd h List.not_mem_nil) dX2_fewestGnawed_49
    exact main_24 n0_24 x0 x2 x3 x4 x5 x6 ls hI0_24 hl
  refine lv_iload_n hx hb dX2_fewestGnawed_0 rfl (lv_at hl 0 rfl) ?_
  refine lv_iload_n hx hb dX2_fewestGnawed_1 rfl (lv_at hl 1 rfl) ?_
  refine lv_icmp_ne (tgt := 7) hx hb dX2_fewestGnawed_2 (by decide) (fun c_8 => ?_) (fun c_8 => ?_)
  · have hf := hf.1 c_8
    refine lv_iload_n hx hb dX2_fewestGnawed_7 rfl (lv_at hl 1 rfl) ?_
    have hPc : va_P D classes ([] : va_W) s.heap := hP
    refine vp_callSi (W.runS (As := [.int p1]) (rest := []) ⟨hx, hb, hml, hown, hts⟩ (c_X2_bitOf l D cI cZ cW  p1 _ hf) ⟨callB_of 1 hts (gA tw_248) rfl rfl rfl (ht _ tw_9) (ht _ tw_484) hd_X2_bitOf ⟨Nat.le_of_ble_eq_true rfl, Nat.le_of_ble_eq_true rfl⟩, ht _ tw_247⟩ ⟨PR_blind, fun U hU hW => PR_mk hPc hK hU hW⟩ rfl rfl hl.1 rfl (lv_room (Nat.le_of_ble_eq_true rfl)) dX2_fewestGnawed_8 ⟨Nat.zero_le _, Nat.zero_le _⟩) (fun r_9 hf => ?_)
    refine lv_istore (lv' := [(4, .int r_9), (0, .int p0), (1, .int p1), (2, .int p2), (3, .int p3)]) hx hb dX2_fewestGnawed_11 hl (by decide) rfl (fun ls hl => ?_)
    refine lv_iload_n hx hb dX2_fewestGnawed_13 rfl (lv_at hl 1 rfl) ?_
    have hPc : va_P D classes ([] : va_W) s.heap := hP
    refine vp_callSi (W.runS (As := [.int p0]) (rest := []) ⟨hx, hb, hml, hown, hts⟩ (c_X2_bitOf l D cI cZ cW  p0 _ hf) ⟨callB_of 1 hts (gA tw_248) rfl rfl rfl (ht _ tw_9) (ht _ tw_484) hd_X2_bitOf ⟨Nat.le_of_ble_eq_true rfl, Nat.le_of_ble_eq_true rfl⟩, ht _ tw_247⟩ ⟨PR_blind, fun U hU hW => PR_mk hPc hK hU hW⟩ rfl rfl hl.1 rfl (lv_room (Nat.le_of_ble_eq_true rfl)) dX2_fewestGnawed_14 ⟨Nat.zero_le _, Nat.zero_le _⟩) (fun r_10 hf => ?_)
    refine lv_iload_n hx hb dX2_fewestGnawed_17 rfl (lv_at hl 3 rfl) ?_
    refine lv_iand hx hb dX2_fewestGnawed_18 ?_
    refine lv_topi (fun x5_11 ex5_11 => ?_)
    have hf := hf x5_11 ex5_11
    refine lv_istore (lv' := [(5, .int x5_11), (4, .int r_9), (0, .int p0), (1, .int p1), (2, .int p2), (3, .int p3)]) hx hb dX2_fewestGnawed_19 hl (by decide) rfl (fun ls hl => ?_)
    refine lv_iconst (v := (0 : Int32)) hx hb dX2_fewestGnawed_21 (by decide) ?_
    refine lv_istore (lv' := [(6, .int (0 : Int32)), (5, .int x5_11), (4, .int r_9), (0, .int p0), (1, .int p1), (2, .int p2), (3, .int p3)]) hx hb dX2_fewestGnawed_22 hl (by decide) rfl (fun ls hl => ?_)
    exact k_24 p0 p2 p3 r_9 x5_11 (0 : Int32) ls hf (lv_sub hl [3, 5, 6, 2, 1, 0] rfl)
  · have hf := hf.2 c_8
    refine lv_iconst (v := (0 : Int32)) hx hb dX2_fewestGnawed_5 (by decide) ?_
    exact W.iret (v := (0 : Int32)) hx hb hr (fun t ht hW => ⟨(0 : Int32), rfl, hf, ht⟩) (fun q h => absurd h List.not_mem_nil) dX2_fewestGnawed_6
def wp_X3_get (p1 : Int32) (n0 : Nat) (s0 : FA) (Q : Int32 → Prop) : Prop := ((p1 < 0 → Q (-9 : Int32)) ∧ (¬ p1 < 0 → (((nI n0) ≤ p1 → Q (-9 : Int32)) ∧ (¬ (nI n0) ≤ p1 → vp_in p1 n0 ∧ Q (s0 p1.toNatClampNeg)))))
set_option maxHeartbeats 4000000 in
set_option maxRecDepth 100000 in
theorem c_X3_get (l : Launch) (D : va_G) (cI cZ cW : ClassId) (a0 : Nat) (p1 : Int32) (n0 : Nat) (s0 : FA) (Q : Int32 → Prop) (hf : wp_X3_get p1 n0 s0 Q) : Met l yX3_get (wsA yX3_get cX3_get 2 (some .int)) ({ frames := 0, cells := 0, slots := 0, locals := 0 }) (PR D cI cZ cW [.ref a0, .int p1] (wI cI a0 n0 s0)) (vp_Si Q) 0 0 (fun _ => False) := by
  refine Met.ofW (cc := cX3_get) (maxL := 2) (ret := (some .int)) (by decide) rfl ?_
  intro p e s m args below meth c s₁ B hml hv
  obtain ⟨rfl, hP, hK⟩ := hv
  have hx := B.exec
  have hb := B.bytes
  have hr := B.returns
  have hts := atoms_spec (ws := (wsA yX3_get cX3_get 2 (some .int))) B.pre
  have ht : ∀ w ∈ lw_g, w.before _ s = true := fun w h => hts w (List.mem_cons_of_mem _ h)
  have hown : s.vm.findClass RX3 = some m.cls := findClass_of_methodNamed B.named
  have hlocks := B.notSynchronized
  have hl := lv_entry ([.ref a0, .int p1]) (n := 2) (Nat.le_of_ble_eq_true rfl)
  rw [lg_entry_eq]
  generalize (lg_sl ([.ref a0, .int p1]) ++ List.replicate (2 - (lg_sl ([.ref a0, .int p1])).length) Slot.unset).toArray = ls at hl ⊢
  have hl : lv_has ls 2 [(0, .ref a0), (1, .int p1)] := hl
  unfold wp_X3_get at hf
  refine lv_iload_n hx hb dX3_get_0 rfl (lv_at hl 1 rfl) ?_
  refine lv_if_lt (tgt := 16) hx hb dX3_get_1 (by decide) (fun c_1 => ?_) (fun c_1 => ?_)
  · have hf := hf.1 c_1
    refine lv_bipush (v := (-9 : Int32)) hx hb dX3_get_16 (by decide) ?_
    exact W.iret (v := (-9 : Int32)) hx hb hr (fun t ht hW => ⟨(-9 : Int32), rfl, hf, ht⟩) (fun q h => absurd h List.not_mem_nil) dX3_get_18
  · have hf := hf.2 c_1
    refine lv_iload_n hx hb dX3_get_4 rfl (lv_at hl 1 rfl) ?_
    refine lv_aload_n hx hb dX3_get_5 rfl (lv_at hl 0 rfl) ?_
    refine va_alen (v := (nI n0)) hx hb hK hP 0 0 rfl rfl rfl dX3_get_6 ?_
    refine lv_icmp_ge (tgt := 16) hx hb dX3_get_7 (by decide) (fun c_2 => ?_) (fun c_2 => ?_)
    · have hf := hf.1 c_2
      refine lv_bipush (v := (-9 : Int32)) hx hb dX3_get_16 (by decide) ?_
      exact W.iret (v := (-9 : Int32)) hx hb hr (fun t ht hW => ⟨(-9 : Int32), rfl, hf, ht⟩) (fun q h => absurd h List.not_mem_nil) dX3_get_18
    · have hf := hf.2 c_2
      refine lv_aload_n hx hb dX3_get_10 rfl (lv_at hl 0 rfl) ?_
      refine lv_iload_n hx hb dX3_get_11 rfl (lv_at hl 1 rfl) ?_
      obtain ⟨hi_3, hf⟩ := hf
      refine va_iald hx hb hK hP 0 0 rfl rfl hi_3 dX3_get_12 ?_
      refine lv_goto (tgt := 18) hx hb dX3_get_13 (by decide) ?_
      exact W.iret (v := (s0 p1.toNatClampNeg)) hx hb hr (fun t ht hW => ⟨(s0 p1.toNatClampNeg), rfl, hf, ht⟩) (fun q h => absurd h List.not_mem_nil) dX3_get_18
def wp_X3_put (p1 : Int32) (p2 : Int32) (n0 : Nat) (s0 : FA) (Q : FA → Prop) : Prop := ((p1 < 0 → Q s0) ∧ (¬ p1 < 0 → (((nI n0) ≤ p1 → Q s0) ∧ (¬ (nI n0) ≤ p1 → vp_in p1 n0 ∧ ∀ s0_4 : FA, s0_4 = upd s0 p1.toNatClampNeg p2 → Q s0_4))))
set_option maxHeartbeats 4000000 in
set_option maxRecDepth 100000 in
theorem c_X3_put (l : Launch) (D : va_G) (cI cZ cW : ClassId) (a0 : Nat) (sz : Nat) (p1 : Int32) (p2 : Int32) (n0 : Nat) (s0 : FA) (Q : FA → Prop) (hf : wp_X3_put p1 p2 n0 s0 Q) : Met l yX3_put (wsA yX3_put cX3_put 3 none) ({ frames := 0, cells := 0, slots := 0, locals := 0 }) (PW D cI cZ cW [.ref a0, .int p1, .int p2] (wI cI a0 n0 s0) sz) (va_Qv (fun (u : FA) => Q u) (fun u t => va_P D classes (wI cI a0 n0 u) t.heap) (va_A (wI cI a0 n0 s0) sz)) 0 0 (va_A (wI cI a0 n0 s0) sz) := by
  refine Met.ofW (cc := cX3_put) (maxL := 3) (ret := none) (by decide) rfl ?_
  intro p e s m args below meth c s₁ B hml hv
  obtain ⟨rfl, hsz, hP, hK, hD0⟩ := hv
  have hx := B.exec
  have hb := B.bytes
  have hr := B.returns
  have hts := atoms_spec (ws := (wsA yX3_put cX3_put 3 none)) B.pre
  have ht : ∀ w ∈ lw_g, w.before _ s = true := fun w h => hts w (List.mem_cons_of_mem _ h)
  have hown : s.vm.findClass RX3 = some m.cls := findClass_of_methodNamed B.named
  have hlocks := B.notSynchronized
  subst hsz
  have hD := hD0.self (sz := s.heap.size)
  generalize hAe : va_A (wI cI a0 n0 s0) s.heap.size = A at hD ⊢
  have hA : ∀ q : Nat, s.heap.size ≤ q → A q := fun q h => by rw [← hAe]; exact Or.inr h
  have hS : va_S A s.heap s.heap [] := va_S.rf
  have hl := lv_entry ([.ref a0, .int p1, .int p2]) (n := 3) (Nat.le_of_ble_eq_true rfl)
  rw [lg_entry_eq]
  generalize (lg_sl ([.ref a0, .int p1, .int p2]) ++ List.replicate (3 - (lg_sl ([.ref a0, .int p1, .int p2])).length) Slot.unset).toArray = ls at hl ⊢
  have hl : lv_has ls 3 [(0, .ref a0), (1, .int p1), (2, .int p2)] := hl
  unfold wp_X3_put at hf
  have start : ∀ (H : Heap) (locs : List Loc), va_P D classes (wI cI a0 n0 s0) H → va_D A (wI cI a0 n0 s0) → va_S A s.heap H locs → W p l e (headSpec (wsA yX3_put cX3_put 3 none) ({ frames := 0, cells := 0, slots := 0, locals := 0 })).room s m (#[.ref a0, .int p1, .int p2] : Array Value) below meth c H locs 0 0 (MQ below (va_Qv (fun (u : FA) => Q u) (fun u t => va_P D classes (wI cI a0 n0 u) t.heap) A) (#[.ref a0, .int p1, .int p2] : Array Value) s 0 0 A) (F0 m 0 ls []) := by
    intro H locs hP hD hS
    refine lv_iload_n hx hb dX3_put_0 rfl (lv_at hl 1 rfl) ?_
    refine lv_if_lt (tgt := 14) hx hb dX3_put_1 (by decide) (fun c_1 => ?_) (fun c_1 => ?_)
    · have hf := hf.1 c_1
      exact W.vret hx hb hr (fun t ht hW => ⟨⟨s0, rfl, hf, P_heap ht hP⟩, hS.F ht⟩) hS.2.2 dX3_put_14
    · have hf := hf.2 c_1
      refine lv_iload_n hx hb dX3_put_4 rfl (lv_at hl 1 rfl) ?_
      refine lv_aload_n hx hb dX3_put_5 rfl (lv_at hl 0 rfl) ?_
      refine va_alen (v := (nI n0)) hx hb hK hP 0 0 rfl rfl rfl dX3_put_6 ?_
      refine lv_icmp_ge (tgt := 14) hx hb dX3_put_7 (by decide) (fun c_2 => ?_) (fun c_2 => ?_)
      · have hf := hf.1 c_2
        exact W.vret hx hb hr (fun t ht hW => ⟨⟨s0, rfl, hf, P_heap ht hP⟩, hS.F ht⟩) hS.2.2 dX3_put_14
      · have hf := hf.2 c_2
        refine lv_aload_n hx hb dX3_put_10 rfl (lv_at hl 0 rfl) ?_
        refine lv_iload_n hx hb dX3_put_11 rfl (lv_at hl 1 rfl) ?_
        refine lv_iload_n hx hb dX3_put_12 rfl (lv_at hl 2 rfl) ?_
        obtain ⟨hi_3, hf⟩ := hf
        refine va_iast hx hb hK hP hD hS 0 0 rfl rfl hi_3 dX3_put_13 (fun H locs hP hD hS => ?_)
        obtain ⟨s0_4, es0_4⟩ : ∃ y : FA, y = upd s0 p1.toNatClampNeg p2 := ⟨_, rfl⟩
        have hf := hf s0_4 es0_4
        have hP : va_P D classes (wI cI a0 n0 s0_4) H := by rw [es0_4]; exact hP
        have hD : va_D A (wI cI a0 n0 s0_4) := by rw [es0_4]; exact hD
        exact W.vret hx hb hr (fun t ht hW => ⟨⟨s0_4, rfl, hf, P_heap ht hP⟩, hS.F ht⟩) hS.2.2 dX3_put_14
  exact start s.heap [] hP hD hS
def wp_X3_add (p1 : Int32) (p2 : Int32) (n0 : Nat) (s0 : FA) (Q : FA → Prop) : Prop := ((p1 < 0 → Q s0) ∧ (¬ p1 < 0 → (((nI n0) ≤ p1 → Q s0) ∧ (¬ (nI n0) ≤ p1 → vp_in p1 n0 ∧ vp_in p1 n0 ∧ ∀ s0_5 : FA, s0_5 = upd s0 p1.toNatClampNeg ((s0 p1.toNatClampNeg) + p2) → Q s0_5))))
set_option maxHeartbeats 4000000 in
set_option maxRecDepth 100000 in
theorem c_X3_add (l : Launch) (D : va_G) (cI cZ cW : ClassId) (a0 : Nat) (sz : Nat) (p1 : Int32) (p2 : Int32) (n0 : Nat) (s0 : FA) (Q : FA → Prop) (hf : wp_X3_add p1 p2 n0 s0 Q) : Met l yX3_add (wsA yX3_add cX3_add 3 none) ({ frames := 0, cells := 0, slots := 0, locals := 0 }) (PW D cI cZ cW [.ref a0, .int p1, .int p2] (wI cI a0 n0 s0) sz) (va_Qv (fun (u : FA) => Q u) (fun u t => va_P D classes (wI cI a0 n0 u) t.heap) (va_A (wI cI a0 n0 s0) sz)) 0 0 (va_A (wI cI a0 n0 s0) sz) := by
  refine Met.ofW (cc := cX3_add) (maxL := 3) (ret := none) (by decide) rfl ?_
  intro p e s m args below meth c s₁ B hml hv
  obtain ⟨rfl, hsz, hP, hK, hD0⟩ := hv
  have hx := B.exec
  have hb := B.bytes
  have hr := B.returns
  have hts := atoms_spec (ws := (wsA yX3_add cX3_add 3 none)) B.pre
  have ht : ∀ w ∈ lw_g, w.before _ s = true := fun w h => hts w (List.mem_cons_of_mem _ h)
  have hown : s.vm.findClass RX3 = some m.cls := findClass_of_methodNamed B.named
  have hlocks := B.notSynchronized
  subst hsz
  have hD := hD0.self (sz := s.heap.size)
  generalize hAe : va_A (wI cI a0 n0 s0) s.heap.size = A at hD ⊢
  have hA : ∀ q : Nat, s.heap.size ≤ q → A q := fun q h => by rw [← hAe]; exact Or.inr h
  have hS : va_S A s.heap s.heap [] := va_S.rf
  have hl := lv_entry ([.ref a0, .int p1, .int p2]) (n := 3) (Nat.le_of_ble_eq_true rfl)
  rw [lg_entry_eq]
  generalize (lg_sl ([.ref a0, .int p1, .int p2]) ++ List.replicate (3 - (lg_sl ([.ref a0, .int p1, .int p2])).length) Slot.unset).toArray = ls at hl ⊢
  have hl : lv_has ls 3 [(0, .ref a0), (1, .int p1), (2, .int p2)] := hl
  unfold wp_X3_add at hf
  have start : ∀ (H : Heap) (locs : List Loc), va_P D classes (wI cI a0 n0 s0) H → va_D A (wI cI a0 n0 s0) → va_S A s.heap H locs → W p l e (headSpec (wsA yX3_add cX3_add 3 none) ({ frames := 0, cells := 0, slots := 0, locals := 0 })).room s m (#[.ref a0, .int p1, .int p2] : Array Value) below meth c H locs 0 0 (MQ below (va_Qv (fun (u : FA) => Q u) (fun u t => va_P D classes (wI cI a0 n0 u) t.heap) A) (#[.ref a0, .int p1, .int p2] : Array Value) s 0 0 A) (F0 m 0 ls []) := by
    intro H locs hP hD hS
    refine lv_iload_n hx hb dX3_add_0 rfl (lv_at hl 1 rfl) ?_
    refine lv_if_lt (tgt := 17) hx hb dX3_add_1 (by decide) (fun c_1 => ?_) (fun c_1 => ?_)
    · have hf := hf.1 c_1
      exact W.vret hx hb hr (fun t ht hW => ⟨⟨s0, rfl, hf, P_heap ht hP⟩, hS.F ht⟩) hS.2.2 dX3_add_17
    · have hf := hf.2 c_1
      refine lv_iload_n hx hb dX3_add_4 rfl (lv_at hl 1 rfl) ?_
      refine lv_aload_n hx hb dX3_add_5 rfl (lv_at hl 0 rfl) ?_
      refine va_alen (v := (nI n0)) hx hb hK hP 0 0 rfl rfl rfl dX3_add_6 ?_
      refine lv_icmp_ge (tgt := 17) hx hb dX3_add_7 (by decide) (fun c_2 => ?_) (fun c_2 => ?_)
      · have hf := hf.1 c_2
        exact W.vret hx hb hr (fun t ht hW => ⟨⟨s0, rfl, hf, P_heap ht hP⟩, hS.F ht⟩) hS.2.2 dX3_add_17
      · have hf := hf.2 c_2
        refine lv_aload_n hx hb dX3_add_10 rfl (lv_at hl 0 rfl) ?_
        refine lv_iload_n hx hb dX3_add_11 rfl (lv_at hl 1 rfl) ?_
        refine lv_dup2_11 hx hb dX3_add_12 rfl rfl ?_
        obtain ⟨hi_3, hf⟩ := hf
        refine va_iald hx hb hK hP 0 0 rfl rfl hi_3 dX3_add_13 ?_
        refine lv_iload_n hx hb dX3_add_14 rfl (lv_at hl 2 rfl) ?_
        refine lv_iadd hx hb dX3_add_15 ?_
        obtain ⟨hi_4, hf⟩ := hf
        refine va_iast hx hb hK hP hD hS 0 0 rfl rfl hi_4 dX3_add_16 (fun H locs hP hD hS => ?_)
        obtain ⟨s0_5, es0_5⟩ : ∃ y : FA, y = upd s0 p1.toNatClampNeg ((s0 p1.toNatClampNeg) + p2) := ⟨_, rfl⟩
        have hf := hf s0_5 es0_5
        have hP : va_P D classes (wI cI a0 n0 s0_5) H := by rw [es0_5]; exact hP
        have hD : va_D A (wI cI a0 n0 s0_5) := by rw [es0_5]; exact hD
        exact W.vret hx hb hr (fun t ht hW => ⟨⟨s0_5, rfl, hf, P_heap ht hP⟩, hS.F ht⟩) hS.2.2 dX3_add_17
  exact start s.heap [] hP hD hS
def LB_J7_fill_53178_5 (G5 : (Int32 × Int32 × Int32 × FA) → Prop) (n0 : Nat) (x1 : Int32) (x2 : Int32) (x3 : Int32) (s0 : FA) (Q : FA → Prop) : Prop := ((x3 ≤ x2 → Q s0) ∧ (¬ x3 ≤ x2 → vp_in x2 n0 ∧ ∀ s0_3 : FA, s0_3 = upd s0 x2.toNatClampNeg x1 → ∀ x2_4 : Int32, x2_4 = x2 + (1 : Int32) → G5 (x1, x2_4, x3, s0_3)))
def B_J7_fill_53178_5 (n0 : Nat) (x1 : Int32) (x2 : Int32) (x3 : Int32) (s0 : FA) (Q : FA → Prop) : Prop := LOOP (fun (G5 : (Int32 × Int32 × Int32 × FA) → Prop) z => LB_J7_fill_53178_5 G5 n0 z.1 z.2.1 z.2.2.1 z.2.2.2 Q) (x1, x2, x3, s0)
def wp_J7_fill_53178 (p1 : Int32) (n0 : Nat) (s0 : FA) (Q : FA → Prop) : Prop := ∀ x3_5 : Int32, x3_5 = (nI n0) → B_J7_fill_53178_5 n0 p1 (0 : Int32) x3_5 s0 Q
set_option maxHeartbeats 4000000 in
set_option maxRecDepth 100000 in
theorem c_J7_fill_53178 (l : Launch) (D : va_G) (cI cZ cW : ClassId) (a0 : Nat) (sz : Nat) (p1 : Int32) (n0 : Nat) (s0 : FA) (Q : FA → Prop) (hf : wp_J7_fill_53178 p1 n0 s0 Q) : Met l yJ7_fill_53178 (wsA yJ7_fill_53178 cJ7_fill_53178 4 none) ({ frames := 0, cells := 0, slots := 0, locals := 0 }) (PW D cI cZ cW [.ref a0, .int p1] (wI cI a0 n0 s0) sz) (va_Qv (fun (u : FA) => Q u) (fun u t => va_P D classes (wI cI a0 n0 u) t.heap) (va_A (wI cI a0 n0 s0) sz)) 0 0 (va_A (wI cI a0 n0 s0) sz) := by
  refine Met.ofW (cc := cJ7_fill_53178) (maxL := 4) (ret := none) (by decide) rfl ?_
  intro p e s m args below meth c s₁ B hml hv
  obtain ⟨rfl, hsz, hP, hK, hD0⟩ := hv
  have hx := B.exec
  have hb := B.bytes
  have hr := B.returns
  have hts := atoms_spec (ws := (wsA yJ7_fill_53178 cJ7_fill_53178 4 none)) B.pre
  have ht : ∀ w ∈ lw_g, w.before _ s = true := fun w h => hts w (List.mem_cons_of_mem _ h)
  have hown : s.vm.findClass RJ7 = some m.cls := findClass_of_methodNamed B.named
  have hlocks := B.notSynchronized
  subst hsz
  have hD := hD0.self (sz := s.heap.size)
  generalize hAe : va_A (wI cI a0 n0 s0) s.heap.size = A at hD ⊢
  have hA : ∀ q : Nat, s.heap.size ≤ q → A q := fun q h => by rw [← hAe]; exact Or.inr h
  have hS : va_S A s.heap s.heap [] := va_S.rf
  have hl := lv_entry ([.ref a0, .int p1]) (n := 4) (Nat.le_of_ble_eq_true rfl)
  rw [lg_entry_eq]
  generalize (lg_sl ([.ref a0, .int p1]) ++ List.replicate (4 - (lg_sl ([.ref a0, .int p1])).length) Slot.unset).toArray = ls at hl ⊢
  have hl : lv_has ls 4 [(0, .ref a0), (1, .int p1)] := hl
  unfold wp_J7_fill_53178 at hf
  have k_5 : ∀ (x1 : Int32) (x2 : Int32) (x3 : Int32) (s0 : FA) (H : Heap) (locs : List Loc) (ls : Array Slot), B_J7_fill_53178_5 n0 x1 x2 x3 s0 Q → va_P D classes (wI cI a0 n0 s0) H → va_D A (wI cI a0 n0 s0) → va_S A s.heap H locs → lv_has ls 4 [(0, .ref a0), (1, .int x1), (2, .int x2), (3, .int x3)] → W p l e (headSpec (wsA yJ7_fill_53178 cJ7_fill_53178 4 none) ({ frames := 0, cells := 0, slots := 0, locals := 0 })).room s m (#[.ref a0, .int p1] : Array Value) below meth c H locs 0 0 (MQ below (va_Qv (fun (u : FA) => Q u) (fun u t => va_P D classes (wI cI a0 n0 u) t.heap) A) (#[.ref a0, .int p1] : Array Value) s 0 0 A) (F0 m 5 ls []) := by
    intro x1 x2 x3 s0 H locs ls hf hP hD hS hl
    unfold B_J7_fill_53178_5 at hf
    obtain ⟨I_5, ⟨n0_5, hI0_5⟩, hst_5⟩ := hf
    have main_5 : ∀ (n : Nat) (x1 : Int32) (x2 : Int32) (x3 : Int32) (s0 : FA) (H : Heap) (locs : List Loc) (ls : Array Slot), I_5 n (x1, x2, x3, s0) → va_P D classes (wI cI a0 n0 s0) H → va_D A (wI cI a0 n0 s0) → va_S A s.heap H locs → lv_has ls 4 [(0, .ref a0), (1, .int x1), (2, .int x2), (3, .int x3)] → W p l e (headSpec (wsA yJ7_fill_53178 cJ7_fill_53178 4 none) ({ frames := 0, cells := 0, slots := 0, locals := 0 })).room s m (#[.ref a0, .int p1] : Array Value) below meth c H locs 0 0 (MQ below (va_Qv (fun (u : FA) => Q u) (fun u t => va_P D classes (wI cI a0 n0 u) t.heap) A) (#[.ref a0, .int p1] : Array Value) s 0 0 A) (F0 m 5 ls []) := by
      intro n
      induction n using Nat.strongRecOn with
      | _ n_5 ih_5 =>
      intro x1 x2 x3 s0 H locs ls hI hP hD hS hl
      have hf : LB_J7_fill_53178_5 (fun z => ∃ k, k < n_5 ∧ I_5 k z) n0 x1 x2 x3 s0 Q := hst_5 n_5 (x1, x2, x3, s0) hI
      have hG_5 : ∀ (x1 : Int32) (x2 : Int32) (x3 : Int32) (s0 : FA) (H : Heap) (locs : List Loc) (ls : Array Slot), (∃ k, k < n_5 ∧ I_5 k (x1, x2, x3, s0)) → va_P D classes (wI cI a0 n0 s0) H → va_D A (wI cI a0 n0 s0) → va_S A s.heap H locs → lv_has ls 4 [(0, .ref a0), (1, .int x1), (2, .int x2), (3, .int x3)] → W p l e (headSpec (wsA yJ7_fill_53178 cJ7_fill_53178 4 none) ({ frames := 0, cells := 0, slots := 0, locals := 0 })).room s m (#[.ref a0, .int p1] : Array Value) below meth c H locs 0 0 (MQ below (va_Qv (fun (u : FA) => Q u) (fun u t => va_P D classes (wI cI a0 n0 u) t.heap) A) (#[.ref a0, .int p1] : Array Value) s 0 0 A) (F0 m 5 ls []) := by
        rintro x1 x2 x3 s0 H locs ls ⟨k, hk, hI⟩ hP hD hS hl
        exact ih_5 k hk x1 x2 x3 s0 H locs ls hI hP hD hS hl
      unfold LB_J7_fill_53178_5 at hf
      refine lv_iload_n hx hb dJ7_fill_53178_5 rfl (lv_at hl 2 rfl) ?_
      refine lv_iload_n hx hb dJ7_fill_53178_6 rfl (lv_at hl 3 rfl) ?_
      refine lv_icmp_ge (tgt := 20) hx hb dJ7_fill_53178_7 (by decide) (fun c_1 => ?_) (fun c_1 => ?_)
      · have hf := hf.1 c_1
        exact W.vret hx hb hr (fun t ht hW => ⟨⟨s0, rfl, hf, P_heap ht hP⟩, hS.F ht⟩) hS.2.2 dJ7_fill_53178_20
      · have hf := hf.2 c_1
        refine lv_aload_n hx hb dJ7_fill_53178_10 rfl (lv_at hl 0 rfl) ?_
        refine lv_iload_n hx hb dJ7_fill_53178_11 rfl (lv_at hl 2 rfl) ?_
        refine lv_iload_n hx hb dJ7_fill_53178_12 rfl (lv_at hl 1 rfl) ?_
        obtain ⟨hi_2, hf⟩ := hf
        refine va_iast hx hb hK hP hD hS 0 0 rfl rfl hi_2 dJ7_fill_53178_13 (fun H locs hP hD hS => ?_)
        obtain ⟨s0_3, es0_3⟩ : ∃ y : FA, y = upd s0 x2.toNatClampNeg x1 := ⟨_, rfl⟩
        have hf := hf s0_3 es0_3
        have hP : va_P D classes (wI cI a0 n0 s0_3) H := by rw [es0_3]; exact hP
        have hD : va_D A (wI cI a0 n0 s0_3) := by rw [es0_3]; exact hD
        obtain ⟨x2_4, ex2_4⟩ : ∃ y : Int32, y = x2 + (1 : Int32) := ⟨_, rfl⟩
        have hf := hf x2_4 ex2_4
        refine lv_iinc (v := x2_4) (lv' := [(2, .int x2_4), (0, .ref a0), (1, .int x1), (3, .int x3)]) hx hb dJ7_fill_53178_14 hl (k := 2) rfl (by rw [ex2_4]; rfl) (by decide) rfl (fun ls hl => ?_)
        refine lv_goto (tgt := 5) hx hb dJ7_fill_53178_17 (by decide) ?_
        exact hG_5 x1 x2_4 x3 s0_3 H locs ls hf hP hD hS (lv_sub hl [1, 2, 0, 3] rfl)
    exact main_5 n0_5 x1 x2 x3 s0 H locs ls hI0_5 hP hD hS hl
  have start : ∀ (H : Heap) (locs : List Loc), va_P D classes (wI cI a0 n0 s0) H → va_D A (wI cI a0 n0 s0) → va_S A s.heap H locs → W p l e (headSpec (wsA yJ7_fill_53178 cJ7_fill_53178 4 none) ({ frames := 0, cells := 0, slots := 0, locals := 0 })).room s m (#[.ref a0, .int p1] : Array Value) below meth c H locs 0 0 (MQ below (va_Qv (fun (u : FA) => Q u) (fun u t => va_P D classes (wI cI a0 n0 u) t.heap) A) (#[.ref a0, .int p1] : Array Value) s 0 0 A) (F0 m 0 ls []) := by
    intro H locs hP hD hS
    refine lv_iconst (v := (0 : Int32)) hx hb dJ7_fill_53178_0 (by decide) ?_
    refine lv_istore_n (lv' := [(2, .int (0 : Int32)), (0, .ref a0), (1, .int p1)]) hx hb dJ7_fill_53178_1 rfl hl (by decide) rfl (fun ls hl => ?_)
    refine lv_aload_n hx hb dJ7_fill_53178_2 rfl (lv_at hl 1 rfl) ?_
    refine va_alen (v := (nI n0)) hx hb hK hP 0 0 rfl rfl rfl dJ7_fill_53178_3 ?_
    refine lv_topi (fun x3_5 ex3_5 => ?_)
    have hf := hf x3_5 ex3_5
    refine lv_istore_n (lv' := [(3, .int x3_5), (2, .int (0 : Int32)), (0, .ref a0), (1, .int p1)]) hx hb dJ7_fill_53178_4 rfl hl (by decide) rfl (fun ls hl => ?_)
    exact k_5 p1 (0 : Int32) x3_5 s0 H locs ls hf hP hD hS (lv_sub hl [2, 3, 1, 0] rfl)
  exact start s.heap [] hP hD hS
