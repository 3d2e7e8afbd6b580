theorem dX6_taste_0 : decode cX6_taste 0 = .ok (.iload_n 1, 1) := by decide +kernel
theorem dX6_taste_1 : decode cX6_taste 1 = .ok (.invokestatic 131, 3) := by decide +kernel
theorem dX6_taste_4 : decode cX6_taste 4 = .ok (.ifCond .ne 5, 3) := by decide +kernel
theorem dX6_taste_7 : decode cX6_taste 7 = .ok (.iconst (-1), 1) := by decide +kernel
theorem dX6_taste_8 : decode cX6_taste 8 = .ok (.ireturn, 1) := by decide +kernel
theorem dX6_taste_9 : decode cX6_taste 9 = .ok (.iload_n 2, 1) := by decide +kernel
theorem dX6_taste_10 : decode cX6_taste 10 = .ok (.ifCond .lt 18, 3) := by decide +kernel
theorem dX6_taste_13 : decode cX6_taste 13 = .ok (.iload_n 2, 1) := by decide +kernel
theorem dX6_taste_14 : decode cX6_taste 14 = .ok (.bipush 9, 2) := by decide +kernel
theorem dX6_taste_16 : decode cX6_taste 16 = .ok (.if_icmp .gt 12, 3) := by decide +kernel
theorem dX6_taste_19 : decode cX6_taste 19 = .ok (.iload_n 3, 1) := by decide +kernel
theorem dX6_taste_20 : decode cX6_taste 20 = .ok (.ifCond .lt 8, 3) := by decide +kernel
theorem dX6_taste_23 : decode cX6_taste 23 = .ok (.iload_n 3, 1) := by decide +kernel
theorem dX6_taste_24 : decode cX6_taste 24 = .ok (.iconst 1, 1) := by decide +kernel
theorem dX6_taste_25 : decode cX6_taste 25 = .ok (.if_icmp .le 6, 3) := by decide +kernel
theorem dX6_taste_28 : decode cX6_taste 28 = .ok (.bipush (-2), 2) := by decide +kernel
theorem dX6_taste_30 : decode cX6_taste 30 = .ok (.ireturn, 1) := by decide +kernel
theorem dX6_taste_31 : decode cX6_taste 31 = .ok (.aload_n 0, 1) := by decide +kernel
theorem dX6_taste_32 : decode cX6_taste 32 = .ok (.getfield 57, 3) := by decide +kernel
theorem dX6_taste_35 : decode cX6_taste 35 = .ok (.getfield 215, 3) := by decide +kernel
theorem dX6_taste_38 : decode cX6_taste 38 = .ok (.bipush 6, 2) := by decide +kernel
theorem dX6_taste_40 : decode cX6_taste 40 = .ok (.if_icmp .lt 6, 3) := by decide +kernel
theorem dX6_taste_43 : decode cX6_taste 43 = .ok (.bipush (-4), 2) := by decide +kernel
theorem dX6_taste_45 : decode cX6_taste 45 = .ok (.ireturn, 1) := by decide +kernel
theorem dX6_taste_46 : decode cX6_taste 46 = .ok (.aload_n 0, 1) := by decide +kernel
theorem dX6_taste_47 : decode cX6_taste 47 = .ok (.getfield 57, 3) := by decide +kernel
theorem dX6_taste_50 : decode cX6_taste 50 = .ok (.iload_n 1, 1) := by decide +kernel
theorem dX6_taste_51 : decode cX6_taste 51 = .ok (.iload_n 2, 1) := by decide +kernel
theorem dX6_taste_52 : decode cX6_taste 52 = .ok (.iload_n 3, 1) := by decide +kernel
theorem dX6_taste_53 : decode cX6_taste 53 = .ok (.iconst 1, 1) := by decide +kernel
theorem dX6_taste_54 : decode cX6_taste 54 = .ok (.if_icmp .ne 7, 3) := by decide +kernel
theorem dX6_taste_57 : decode cX6_taste 57 = .ok (.iconst 1, 1) := by decide +kernel
theorem dX6_taste_58 : decode cX6_taste 58 = .ok (.goto 4, 3) := by decide +kernel
theorem dX6_taste_61 : decode cX6_taste 61 = .ok (.iconst 0, 1) := by decide +kernel
theorem dX6_taste_62 : decode cX6_taste 62 = .ok (.invokevirtual 216, 3) := by decide +kernel
theorem dX6_taste_65 : decode cX6_taste 65 = .ok (.aload_n 0, 1) := by decide +kernel
theorem dX6_taste_66 : decode cX6_taste 66 = .ok (.getfield 57, 3) := by decide +kernel
theorem dX6_taste_69 : decode cX6_taste 69 = .ok (.getfield 215, 3) := by decide +kernel
theorem dX6_taste_72 : decode cX6_taste 72 = .ok (.ireturn, 1) := by decide +kernel
theorem dX6_rinse_0 : decode cX6_rinse 0 = .ok (.aload_n 0, 1) := by decide +kernel
theorem dX6_rinse_1 : decode cX6_rinse 1 = .ok (.getfield 57, 3) := by decide +kernel
theorem dX6_rinse_4 : decode cX6_rinse 4 = .ok (.getfield 215, 3) := by decide +kernel
theorem dX6_rinse_7 : decode cX6_rinse 7 = .ok (.istore_n 1, 1) := by decide +kernel
theorem dX6_rinse_8 : decode cX6_rinse 8 = .ok (.aload_n 0, 1) := by decide +kernel
theorem dX6_rinse_9 : decode cX6_rinse 9 = .ok (.getfield 57, 3) := by decide +kernel
theorem dX6_rinse_12 : decode cX6_rinse 12 = .ok (.iconst 0, 1) := by decide +kernel
theorem dX6_rinse_13 : decode cX6_rinse 13 = .ok (.putfield 215, 3) := by decide +kernel
theorem dX6_rinse_16 : decode cX6_rinse 16 = .ok (.iload_n 1, 1) := by decide +kernel
theorem dX6_rinse_17 : decode cX6_rinse 17 = .ok (.ireturn, 1) := by decide +kernel
theorem dX6_mayHaveBegun_0 : decode cX6_mayHaveBegun 0 = .ok (.aload_n 0, 1) := by decide +kernel
theorem dX6_mayHaveBegun_1 : decode cX6_mayHaveBegun 1 = .ok (.getfield 37, 3) := by decide +kernel
theorem dX6_mayHaveBegun_4 : decode cX6_mayHaveBegun 4 = .ok (.aload_n 0, 1) := by decide +kernel
theorem dX6_mayHaveBegun_5 : decode cX6_mayHaveBegun 5 = .ok (.getfield 27, 3) := by decide +kernel
theorem dX6_mayHaveBegun_8 : decode cX6_mayHaveBegun 8 = .ok (.invokevirtual 69, 3) := by decide +kernel
theorem dX6_mayHaveBegun_11 : decode cX6_mayHaveBegun 11 = .ok (.aload_n 0, 1) := by decide +kernel
theorem dX6_mayHaveBegun_12 : decode cX6_mayHaveBegun 12 = .ok (.getfield 37, 3) := by decide +kernel
theorem dX6_mayHaveBegun_15 : decode cX6_mayHaveBegun 15 = .ok (.iload_n 1, 1) := by decide +kernel
theorem dX6_mayHaveBegun_16 : decode cX6_mayHaveBegun 16 = .ok (.invokevirtual 227, 3) := by decide +kernel
theorem dX6_mayHaveBegun_19 : decode cX6_mayHaveBegun 19 = .ok (.iconst 0, 1) := by decide +kernel
theorem dX6_mayHaveBegun_20 : decode cX6_mayHaveBegun 20 = .ok (.istore_n 2, 1) := by decide +kernel
theorem dX6_mayHaveBegun_21 : decode cX6_mayHaveBegun 21 = .ok (.iload_n 2, 1) := by decide +kernel
theorem dX6_mayHaveBegun_22 : decode cX6_mayHaveBegun 22 = .ok (.bipush 9, 2) := by decide +kernel
theorem dX6_mayHaveBegun_24 : decode cX6_mayHaveBegun 24 = .ok (.if_icmp .gt 41, 3) := by decide +kernel
theorem dX6_mayHaveBegun_27 : decode cX6_mayHaveBegun 27 = .ok (.aload_n 0, 1) := by decide +kernel
theorem dX6_mayHaveBegun_28 : decode cX6_mayHaveBegun 28 = .ok (.getfield 57, 3) := by decide +kernel
theorem dX6_mayHaveBegun_31 : decode cX6_mayHaveBegun 31 = .ok (.iload_n 2, 1) := by decide +kernel
theorem dX6_mayHaveBegun_32 : decode cX6_mayHaveBegun 32 = .ok (.aload_n 0, 1) := by decide +kernel
theorem dX6_mayHaveBegun_33 : decode cX6_mayHaveBegun 33 = .ok (.getfield 37, 3) := by decide +kernel
theorem dX6_mayHaveBegun_36 : decode cX6_mayHaveBegun 36 = .ok (.invokevirtual 230, 3) := by decide +kernel
theorem dX6_mayHaveBegun_39 : decode cX6_mayHaveBegun 39 = .ok (.invokevirtual 233, 3) := by decide +kernel
theorem dX6_mayHaveBegun_42 : decode cX6_mayHaveBegun 42 = .ok (.ifCond .ne 5, 3) := by decide +kernel
theorem dX6_mayHaveBegun_45 : decode cX6_mayHaveBegun 45 = .ok (.iconst 0, 1) := by decide +kernel
theorem dX6_mayHaveBegun_46 : decode cX6_mayHaveBegun 46 = .ok (.ireturn, 1) := by decide +kernel
theorem dX6_mayHaveBegun_47 : decode cX6_mayHaveBegun 47 = .ok (.aload_n 0, 1) := by decide +kernel
theorem dX6_mayHaveBegun_48 : decode cX6_mayHaveBegun 48 = .ok (.getfield 37, 3) := by decide +kernel
theorem dX6_mayHaveBegun_51 : decode cX6_mayHaveBegun 51 = .ok (.aload_n 0, 1) := by decide +kernel
theorem dX6_mayHaveBegun_52 : decode cX6_mayHaveBegun 52 = .ok (.getfield 27, 3) := by decide +kernel
theorem dX6_mayHaveBegun_55 : decode cX6_mayHaveBegun 55 = .ok (.invokevirtual 149, 3) := by decide +kernel
theorem dX6_mayHaveBegun_58 : decode cX6_mayHaveBegun 58 = .ok (.pop, 1) := by decide +kernel
theorem dX6_mayHaveBegun_59 : decode cX6_mayHaveBegun 59 = .ok (.iinc 2 1, 3) := by decide +kernel
theorem dX6_mayHaveBegun_62 : decode cX6_mayHaveBegun 62 = .ok (.goto (-41), 3) := by decide +kernel
theorem dX6_mayHaveBegun_65 : decode cX6_mayHaveBegun 65 = .ok (.iconst 1, 1) := by decide +kernel
theorem dX6_mayHaveBegun_66 : decode cX6_mayHaveBegun 66 = .ok (.ireturn, 1) := by decide +kernel
theorem dX6_began_0 : decode cX6_began 0 = .ok (.iload_n 1, 1) := by decide +kernel
theorem dX6_began_1 : decode cX6_began 1 = .ok (.ifCond .lt 8, 3) := by decide +kernel
theorem dX6_began_4 : decode cX6_began 4 = .ok (.iload_n 1, 1) := by decide +kernel
theorem dX6_began_5 : decode cX6_began 5 = .ok (.iconst 4, 1) := by decide +kernel
theorem dX6_began_6 : decode cX6_began 6 = .ok (.if_icmp .lt 6, 3) := by decide +kernel
theorem dX6_began_9 : decode cX6_began 9 = .ok (.bipush (-2), 2) := by decide +kernel
theorem dX6_began_11 : decode cX6_began 11 = .ok (.ireturn, 1) := by decide +kernel
theorem dX6_began_12 : decode cX6_began 12 = .ok (.aload_n 0, 1) := by decide +kernel
theorem dX6_began_13 : decode cX6_began 13 = .ok (.getfield 27, 3) := by decide +kernel
theorem dX6_began_16 : decode cX6_began 16 = .ok (.iload_n 1, 1) := by decide +kernel
theorem dX6_began_17 : decode cX6_began 17 = .ok (.invokevirtual 220, 3) := by decide +kernel
theorem dX6_began_20 : decode cX6_began 20 = .ok (.iconst 0, 1) := by decide +kernel
theorem dX6_began_21 : decode cX6_began 21 = .ok (.istore_n 2, 1) := by decide +kernel
theorem dX6_began_22 : decode cX6_began 22 = .ok (.iconst 0, 1) := by decide +kernel
theorem dX6_began_23 : decode cX6_began 23 = .ok (.istore_n 3, 1) := by decide +kernel
theorem dX6_began_24 : decode cX6_began 24 = .ok (.iload_n 3, 1) := by decide +kernel
theorem dX6_began_25 : decode cX6_began 25 = .ok (.bipush 20, 2) := by decide +kernel
theorem dX6_began_27 : decode cX6_began 27 = .ok (.if_icmp .ge 23, 3) := by decide +kernel
theorem dX6_began_30 : decode cX6_began 30 = .ok (.aload_n 0, 1) := by decide +kernel
theorem dX6_began_31 : decode cX6_began 31 = .ok (.iload_n 3, 1) := by decide +kernel
theorem dX6_began_32 : decode cX6_began 32 = .ok (.invokevirtual 224, 3) := by decide +kernel
theorem dX6_began_35 : decode cX6_began 35 = .ok (.ifCond .eq 9, 3) := by decide +kernel
theorem dX6_began_38 : decode cX6_began 38 = .ok (.iload_n 2, 1) := by decide +kernel
theorem dX6_began_39 : decode cX6_began 39 = .ok (.iconst 1, 1) := by decide +kernel
theorem dX6_began_40 : decode cX6_began 40 = .ok (.iload_n 3, 1) := by decide +kernel
theorem dX6_began_41 : decode cX6_began 41 = .ok (.ishl, 1) := by decide +kernel
theorem dX6_began_42 : decode cX6_began 42 = .ok (.ior, 1) := by decide +kernel
theorem dX6_began_43 : decode cX6_began 43 = .ok (.istore_n 2, 1) := by decide +kernel
theorem dX6_began_44 : decode cX6_began 44 = .ok (.iinc 3 1, 3) := by decide +kernel
theorem dX6_began_47 : decode cX6_began 47 = .ok (.goto (-23), 3) := by decide +kernel
theorem dX6_began_50 : decode cX6_began 50 = .ok (.iload_n 2, 1) := by decide +kernel
theorem dX6_began_51 : decode cX6_began 51 = .ok (.ireturn, 1) := by decide +kernel
theorem dX6_largestEstate_0 : decode cX6_largestEstate 0 = .ok (.aload_n 0, 1) := by decide +kernel
theorem dX6_largestEstate_1 : decode cX6_largestEstate 1 = .ok (.getfield 33, 3) := by decide +kernel
theorem dX6_largestEstate_4 : decode cX6_largestEstate 4 = .ok (.aload_n 0, 1) := by decide +kernel
theorem dX6_largestEstate_5 : decode cX6_largestEstate 5 = .ok (.getfield 20, 3) := by decide +kernel
theorem dX6_largestEstate_8 : decode cX6_largestEstate 8 = .ok (.iload_n 1, 1) := by decide +kernel
theorem dX6_largestEstate_9 : decode cX6_largestEstate 9 = .ok (.invokevirtual 104, 3) := by decide +kernel
theorem dX6_largestEstate_12 : decode cX6_largestEstate 12 = .ok (.invokestatic 247, 3) := by decide +kernel
theorem dX6_largestEstate_15 : decode cX6_largestEstate 15 = .ok (.ireturn, 1) := by decide +kernel
theorem dX6_partOfFraction_0 : decode cX6_partOfFraction 0 = .ok (.iload_n 0, 1) := by decide +kernel
theorem dX6_partOfFraction_1 : decode cX6_partOfFraction 1 = .ok (.invokestatic 282, 3) := by decide +kernel
theorem dX6_partOfFraction_4 : decode cX6_partOfFraction 4 = .ok (.istore_n 3, 1) := by decide +kernel
theorem dX6_partOfFraction_5 : decode cX6_partOfFraction 5 = .ok (.iload_n 1, 1) := by decide +kernel
theorem dX6_partOfFraction_6 : decode cX6_partOfFraction 6 = .ok (.istore 4, 2) := by decide +kernel
theorem dX6_partOfFraction_8 : decode cX6_partOfFraction 8 = .ok (.iconst 0, 1) := by decide +kernel
theorem dX6_partOfFraction_9 : decode cX6_partOfFraction 9 = .ok (.istore 5, 2) := by decide +kernel
theorem dX6_partOfFraction_11 : decode cX6_partOfFraction 11 = .ok (.iload 5, 2) := by decide +kernel
theorem dX6_partOfFraction_13 : decode cX6_partOfFraction 13 = .ok (.bipush 64, 2) := by decide +kernel
theorem dX6_partOfFraction_15 : decode cX6_partOfFraction 15 = .ok (.if_icmp .ge 27, 3) := by decide +kernel
theorem dX6_partOfFraction_18 : decode cX6_partOfFraction 18 = .ok (.iload 4, 2) := by decide +kernel
theorem dX6_partOfFraction_20 : decode cX6_partOfFraction 20 = .ok (.ifCond .eq 22, 3) := by decide +kernel
theorem dX6_partOfFraction_23 : decode cX6_partOfFraction 23 = .ok (.iload_n 3, 1) := by decide +kernel
theorem dX6_partOfFraction_24 : decode cX6_partOfFraction 24 = .ok (.iload 4, 2) := by decide +kernel
theorem dX6_partOfFraction_26 : decode cX6_partOfFraction 26 = .ok (.irem, 1) := by decide +kernel
theorem dX6_partOfFraction_27 : decode cX6_partOfFraction 27 = .ok (.istore 6, 2) := by decide +kernel
theorem dX6_partOfFraction_29 : decode cX6_partOfFraction 29 = .ok (.iload 4, 2) := by decide +kernel
theorem dX6_partOfFraction_31 : decode cX6_partOfFraction 31 = .ok (.istore_n 3, 1) := by decide +kernel
theorem dX6_partOfFraction_32 : decode cX6_partOfFraction 32 = .ok (.iload 6, 2) := by decide +kernel
theorem dX6_partOfFraction_34 : decode cX6_partOfFraction 34 = .ok (.istore 4, 2) := by decide +kernel
theorem dX6_partOfFraction_36 : decode cX6_partOfFraction 36 = .ok (.iinc 5 1, 3) := by decide +kernel
theorem dX6_partOfFraction_39 : decode cX6_partOfFraction 39 = .ok (.goto (-28), 3) := by decide +kernel
theorem dX6_partOfFraction_42 : decode cX6_partOfFraction 42 = .ok (.iload_n 3, 1) := by decide +kernel
theorem dX6_partOfFraction_43 : decode cX6_partOfFraction 43 = .ok (.iconst 1, 1) := by decide +kernel
theorem dX6_partOfFraction_44 : decode cX6_partOfFraction 44 = .ok (.if_icmp .ge 7, 3) := by decide +kernel
theorem dX6_partOfFraction_47 : decode cX6_partOfFraction 47 = .ok (.iconst 1, 1) := by decide +kernel
theorem dX6_partOfFraction_48 : decode cX6_partOfFraction 48 = .ok (.goto 4, 3) := by decide +kernel
theorem dX6_partOfFraction_51 : decode cX6_partOfFraction 51 = .ok (.iload_n 3, 1) := by decide +kernel
theorem dX6_partOfFraction_52 : decode cX6_partOfFraction 52 = .ok (.istore 5, 2) := by decide +kernel
theorem dX6_partOfFraction_54 : decode cX6_partOfFraction 54 = .ok (.iload_n 2, 1) := by decide +kernel
theorem dX6_partOfFraction_55 : decode cX6_partOfFraction 55 = .ok (.ifCond .eq 10, 3) := by decide +kernel
theorem dX6_partOfFraction_58 : decode cX6_partOfFraction 58 = .ok (.iload_n 0, 1) := by decide +kernel
theorem dX6_partOfFraction_59 : decode cX6_partOfFraction 59 = .ok (.iload 5, 2) := by decide +kernel
theorem dX6_partOfFraction_61 : decode cX6_partOfFraction 61 = .ok (.idiv, 1) := by decide +kernel
theorem dX6_partOfFraction_62 : decode cX6_partOfFraction 62 = .ok (.goto 7, 3) := by decide +kernel
theorem dX6_partOfFraction_65 : decode cX6_partOfFraction 65 = .ok (.iload_n 1, 1) := by decide +kernel
theorem dX6_partOfFraction_66 : decode cX6_partOfFraction 66 = .ok (.iload 5, 2) := by decide +kernel
theorem dX6_partOfFraction_68 : decode cX6_partOfFraction 68 = .ok (.idiv, 1) := by decide +kernel
theorem dX6_partOfFraction_69 : decode cX6_partOfFraction 69 = .ok (.ireturn, 1) := by decide +kernel
theorem dX6_share_0 : decode cX6_share 0 = .ok (.aload_n 0, 1) := by decide +kernel
theorem dX6_share_1 : decode cX6_share 1 = .ok (.getfield 20, 3) := by decide +kernel
theorem dX6_share_4 : decode cX6_share 4 = .ok (.iload_n 1, 1) := by decide +kernel
theorem dX6_share_5 : decode cX6_share 5 = .ok (.invokevirtual 82, 3) := by decide +kernel
theorem dX6_share_8 : decode cX6_share 8 = .ok (.ifCond .ne 5, 3) := by decide +kernel
theorem dX6_share_11 : decode cX6_share 11 = .ok (.iconst (-1), 1) := by decide +kernel
theorem dX6_share_12 : decode cX6_share 12 = .ok (.ireturn, 1) := by decide +kernel
theorem dX6_share_13 : decode cX6_share 13 = .ok (.iconst 1, 1) := by decide +kernel
theorem dX6_share_14 : decode cX6_share 14 = .ok (.iload_n 1, 1) := by decide +kernel
theorem dX6_share_15 : decode cX6_share 15 = .ok (.ishl, 1) := by decide +kernel
theorem dX6_share_16 : decode cX6_share 16 = .ok (.istore_n 3, 1) := by decide +kernel
theorem dX6_share_17 : decode cX6_share 17 = .ok (.iconst 1, 1) := by decide +kernel
theorem dX6_share_18 : decode cX6_share 18 = .ok (.aload_n 0, 1) := by decide +kernel
theorem dX6_share_19 : decode cX6_share 19 = .ok (.getfield 20, 3) := by decide +kernel
theorem dX6_share_22 : decode cX6_share 22 = .ok (.getfield 76, 3) := by decide +kernel
theorem dX6_share_25 : decode cX6_share 25 = .ok (.ishl, 1) := by decide +kernel
theorem dX6_share_26 : decode cX6_share 26 = .ok (.iconst 1, 1) := by decide +kernel
theorem dX6_share_27 : decode cX6_share 27 = .ok (.isub, 1) := by decide +kernel
theorem dX6_share_28 : decode cX6_share 28 = .ok (.istore 4, 2) := by decide +kernel
theorem dX6_share_30 : decode cX6_share 30 = .ok (.iconst 0, 1) := by decide +kernel
theorem dX6_share_31 : decode cX6_share 31 = .ok (.istore 5, 2) := by decide +kernel
theorem dX6_share_33 : decode cX6_share 33 = .ok (.iconst 0, 1) := by decide +kernel
theorem dX6_share_34 : decode cX6_share 34 = .ok (.istore 6, 2) := by decide +kernel
theorem dX6_share_36 : decode cX6_share 36 = .ok (.iload 6, 2) := by decide +kernel
theorem dX6_share_38 : decode cX6_share 38 = .ok (.bipush 16, 2) := by decide +kernel
theorem dX6_share_40 : decode cX6_share 40 = .ok (.if_icmp .ge 85, 3) := by decide +kernel
theorem dX6_share_43 : decode cX6_share 43 = .ok (.iload 6, 2) := by decide +kernel
theorem dX6_share_45 : decode cX6_share 45 = .ok (.iload 4, 2) := by decide +kernel
theorem dX6_share_47 : decode cX6_share 47 = .ok (.iconst (-1), 1) := by decide +kernel
theorem dX6_share_48 : decode cX6_share 48 = .ok (.ixor, 1) := by decide +kernel
theorem dX6_share_49 : decode cX6_share 49 = .ok (.iand, 1) := by decide +kernel
theorem dX6_share_50 : decode cX6_share 50 = .ok (.ifCond .ne 69, 3) := by decide +kernel
theorem dX6_share_53 : decode cX6_share 53 = .ok (.iload 6, 2) := by decide +kernel
theorem dX6_share_55 : decode cX6_share 55 = .ok (.iload_n 3, 1) := by decide +kernel
theorem dX6_share_56 : decode cX6_share 56 = .ok (.iand, 1) := by decide +kernel
theorem dX6_share_57 : decode cX6_share 57 = .ok (.ifCond .ne 62, 3) := by decide +kernel
theorem dX6_share_60 : decode cX6_share 60 = .ok (.iload 6, 2) := by decide +kernel
theorem dX6_share_62 : decode cX6_share 62 = .ok (.invokestatic 108, 3) := by decide +kernel
theorem dX6_share_65 : decode cX6_share 65 = .ok (.istore 7, 2) := by decide +kernel
theorem dX6_share_67 : decode cX6_share 67 = .ok (.getstatic 237, 3) := by decide +kernel
theorem dX6_share_70 : decode cX6_share 70 = .ok (.iload 7, 2) := by decide +kernel
theorem dX6_share_72 : decode cX6_share 72 = .ok (.invokestatic 89, 3) := by decide +kernel
theorem dX6_share_75 : decode cX6_share 75 = .ok (.getstatic 237, 3) := by decide +kernel
theorem dX6_share_78 : decode cX6_share 78 = .ok (.aload_n 0, 1) := by decide +kernel
theorem dX6_share_79 : decode cX6_share 79 = .ok (.getfield 20, 3) := by decide +kernel
theorem dX6_share_82 : decode cX6_share 82 = .ok (.getfield 76, 3) := by decide +kernel
theorem dX6_share_85 : decode cX6_share 85 = .ok (.iconst 1, 1) := by decide +kernel
theorem dX6_share_86 : decode cX6_share 86 = .ok (.isub, 1) := by decide +kernel
theorem dX6_share_87 : decode cX6_share 87 = .ok (.iload 7, 2) := by decide +kernel
theorem dX6_share_89 : decode cX6_share 89 = .ok (.isub, 1) := by decide +kernel
theorem dX6_share_90 : decode cX6_share 90 = .ok (.invokestatic 89, 3) := by decide +kernel
theorem dX6_share_93 : decode cX6_share 93 = .ok (.imul, 1) := by decide +kernel
theorem dX6_share_94 : decode cX6_share 94 = .ok (.istore 8, 2) := by decide +kernel
theorem dX6_share_96 : decode cX6_share 96 = .ok (.iload 5, 2) := by decide +kernel
theorem dX6_share_98 : decode cX6_share 98 = .ok (.iload 8, 2) := by decide +kernel
theorem dX6_share_100 : decode cX6_share 100 = .ok (.aload_n 0, 1) := by decide +kernel
theorem dX6_share_101 : decode cX6_share 101 = .ok (.iload 6, 2) := by decide +kernel
theorem dX6_share_103 : decode cX6_share 103 = .ok (.iload_n 3, 1) := by decide +kernel
theorem dX6_share_104 : decode cX6_share 104 = .ok (.ior, 1) := by decide +kernel
theorem dX6_share_105 : decode cX6_share 105 = .ok (.invokevirtual 240, 3) := by decide +kernel
theorem dX6_share_108 : decode cX6_share 108 = .ok (.aload_n 0, 1) := by decide +kernel
theorem dX6_share_109 : decode cX6_share 109 = .ok (.iload 6, 2) := by decide +kernel
theorem dX6_share_111 : decode cX6_share 111 = .ok (.invokevirtual 240, 3) := by decide +kernel
theorem dX6_share_114 : decode cX6_share 114 = .ok (.isub, 1) := by decide +kernel
theorem dX6_share_115 : decode cX6_share 115 = .ok (.imul, 1) := by decide +kernel
theorem dX6_share_116 : decode cX6_share 116 = .ok (.iadd, 1) := by decide +kernel
theorem dX6_share_117 : decode cX6_share 117 = .ok (.istore 5, 2) := by decide +kernel
theorem dX6_share_119 : decode cX6_share 119 = .ok (.iinc 6 1, 3) := by decide +kernel
theorem dX6_share_122 : decode cX6_share 122 = .ok (.goto (-86), 3) := by decide +kernel
theorem dX6_share_125 : decode cX6_share 125 = .ok (.iload 5, 2) := by decide +kernel
theorem dX6_share_127 : decode cX6_share 127 = .ok (.getstatic 237, 3) := by decide +kernel
theorem dX6_share_130 : decode cX6_share 130 = .ok (.aload_n 0, 1) := by decide +kernel
theorem dX6_share_131 : decode cX6_share 131 = .ok (.getfield 20, 3) := by decide +kernel
theorem dX6_share_134 : decode cX6_share 134 = .ok (.getfield 76, 3) := by decide +kernel
theorem dX6_share_137 : decode cX6_share 137 = .ok (.invokestatic 89, 3) := by decide +kernel
theorem dX6_share_140 : decode cX6_share 140 = .ok (.iload_n 2, 1) := by decide +kernel
theorem dX6_share_141 : decode cX6_share 141 = .ok (.invokestatic 243, 3) := by decide +kernel
theorem dX6_share_144 : decode cX6_share 144 = .ok (.ireturn, 1) := by decide +kernel
theorem dX6_hasByAsking_0 : decode cX6_hasByAsking 0 = .ok (.iload_n 0, 1) := by decide +kernel
theorem dX6_hasByAsking_1 : decode cX6_hasByAsking 1 = .ok (.iload_n 1, 1) := by decide +kernel
theorem dX6_hasByAsking_2 : decode cX6_hasByAsking 2 = .ok (.if_icmp .ne 5, 3) := by decide +kernel
theorem dX6_hasByAsking_5 : decode cX6_hasByAsking 5 = .ok (.iload_n 0, 1) := by decide +kernel
theorem dX6_hasByAsking_6 : decode cX6_hasByAsking 6 = .ok (.ireturn, 1) := by decide +kernel
theorem dX6_hasByAsking_7 : decode cX6_hasByAsking 7 = .ok (.iload_n 0, 1) := by decide +kernel
theorem dX6_hasByAsking_8 : decode cX6_hasByAsking 8 = .ok (.iload_n 1, 1) := by decide +kernel
theorem dX6_hasByAsking_9 : decode cX6_hasByAsking 9 = .ok (.if_icmp .ge 7, 3) := by decide +kernel
theorem dX6_hasByAsking_12 : decode cX6_hasByAsking 12 = .ok (.iload_n 2, 1) := by decide +kernel
theorem dX6_hasByAsking_13 : decode cX6_hasByAsking 13 = .ok (.goto 4, 3) := by decide +kernel
theorem dX6_hasByAsking_16 : decode cX6_hasByAsking 16 = .ok (.iconst 0, 1) := by decide +kernel
theorem dX6_hasByAsking_17 : decode cX6_hasByAsking 17 = .ok (.ireturn, 1) := by decide +kernel
theorem dX6_isContent_0 : decode cX6_isContent 0 = .ok (.iconst 3, 1) := by decide +kernel
theorem dX6_isContent_1 : decode cX6_isContent 1 = .ok (.iload_n 0, 1) := by decide +kernel
theorem dX6_isContent_2 : decode cX6_isContent 2 = .ok (.isub, 1) := by decide +kernel
theorem dX6_isContent_3 : decode cX6_isContent 3 = .ok (.iload_n 1, 1) := by decide +kernel
theorem dX6_isContent_4 : decode cX6_isContent 4 = .ok (.iload_n 2, 1) := by decide +kernel
theorem dX6_isContent_5 : decode cX6_isContent 5 = .ok (.invokestatic 257, 3) := by decide +kernel
theorem dX6_isContent_8 : decode cX6_isContent 8 = .ok (.iload_n 0, 1) := by decide +kernel
theorem dX6_isContent_9 : decode cX6_isContent 9 = .ok (.iload_n 1, 1) := by decide +kernel
theorem dX6_isContent_10 : decode cX6_isContent 10 = .ok (.iload_n 2, 1) := by decide +kernel
theorem dX6_isContent_11 : decode cX6_isContent 11 = .ok (.invokestatic 257, 3) := by decide +kernel
theorem dX6_isContent_14 : decode cX6_isContent 14 = .ok (.if_icmp .gt 7, 3) := by decide +kernel
theorem dX6_isContent_17 : decode cX6_isContent 17 = .ok (.iconst 1, 1) := by decide +kernel
theorem dX6_isContent_18 : decode cX6_isContent 18 = .ok (.goto 4, 3) := by decide +kernel
theorem dX6_isContent_21 : decode cX6_isContent 21 = .ok (.iconst 0, 1) := by decide +kernel
theorem dX6_isContent_22 : decode cX6_isContent 22 = .ok (.ireturn, 1) := by decide +kernel
def B_X6_taste_62 (Z : Nat → Nat → Nat) (Y : Nat → Nat → Nat) (t0 : Int32) (t1 : Int32) (t2 : Int32) (S : Nat → CS) (a : AS) (Q : Int32 → (Nat → CS) → AS → Prop) : Prop := wp_X4_addOne t2 t1 t0 (S 6) (fun s_1 => ∀ S_2 : Nat → CS, S_2 = va_up S 6 s_1 → Q ((S_2 6).1 3) S_2 a)
def wp_X6_taste (p0 : Int32) (p1 : Int32) (p2 : Int32) (Z : Nat → Nat → Nat) (Y : Nat → Nat → Nat) (S : Nat → CS) (a : AS) (Q : Int32 → (Nat → CS) → AS → Prop) : Prop := wp_X2_hasCell p0 (fun r_3 => ((¬ r_3 = 0 → ((p1 < 0 → Q (-2 : Int32) S a) ∧ (¬ p1 < 0 → (((9 : Int32) < p1 → Q (-2 : Int32) S a) ∧ (¬ (9 : Int32) < p1 → ((p2 < 0 → Q (-2 : Int32) S a) ∧ (¬ p2 < 0 → ((p2 ≤ (1 : Int32) → ((((S 6).1 3) < (6 : Int32) → ((¬ p2 = (1 : Int32) → B_X6_taste_62 Z Y (0 : Int32) p1 p0 S a Q) ∧ (p2 = (1 : Int32) → B_X6_taste_62 Z Y (1 : Int32) p1 p0 S a Q))) ∧ (¬ ((S 6).1 3) < (6 : Int32) → Q (-4 : Int32) S a))) ∧ (¬ p2 ≤ (1 : Int32) → Q (-2 : Int32) S a))))))))) ∧ (r_3 = 0 → Q (-1 : Int32) S a)))
set_option maxHeartbeats 4000000 in
set_option maxRecDepth 100000 in
theorem c_X6_taste (l : Launch) (D : va_G) (cI cZ cW : ClassId) (Z : Nat → Nat → Nat) (Y : Nat → Nat → Nat) (sz : Nat) (p0 : Int32) (p1 : Int32) (p2 : Int32) (S : Nat → CS) (a : AS) (Q : Int32 → (Nat → CS) → AS → Prop) (hf : wp_X6_taste p0 p1 p2 Z Y S a Q) : Met l yX6_taste (wsA yX6_taste cX6_taste 4 (some .int)) ({ frames := 1, cells := 0, slots := 0, locals := 23 }) (PW D cI cZ cW [.ref (Z 0 0), .int p0, .int p1, .int p2] (XW cI cZ cW Z Y (Z 1 0) (Z 2 0) S a) sz) (va_Qi (fun (r : Int32) (u : (Nat → CS) × AS) => Q r u.1 u.2) (fun u t => va_P D classes (XW cI cZ cW Z Y (Z 1 0) (Z 2 0) u.1 u.2) t.heap) (va_A (XW cI cZ cW Z Y (Z 1 0) (Z 2 0) S a) sz)) 0 0 (va_A (XW cI cZ cW Z Y (Z 1 0) (Z 2 0) S a) sz) := by
  refine Met.ofW (cc := cX6_taste) (maxL := 4) (ret := (some .int)) (by decide) rfl ?_
  intro p e s m args below meth c s₁ B hml hv
  obtain ⟨rfl, hsz, hP, hK, hD0⟩ := hv
  have hx := B.exec
  have hb := B.bytes
  have hr := B.returns
  have hts := atoms_spec (ws := (wsA yX6_taste cX6_taste 4 (some .int))) B.pre
  have ht : ∀ w ∈ lw_g, w.before _ s = true := fun w h => hts w (List.mem_cons_of_mem _ h)
  have hown : s.vm.findClass RX6 = some m.cls := findClass_of_methodNamed B.named
  have hlocks := B.notSynchronized
  subst hsz
  have hD := hD0.self (sz := s.heap.size)
  generalize hAe : va_A (XW cI cZ cW Z Y (Z 1 0) (Z 2 0) S a) s.heap.size = A at hD ⊢
  have hA : ∀ q : Nat, s.heap.size ≤ q → A q := fun q h => by rw [← hAe]; exact Or.inr h
  have hS : va_S A s.heap s.heap [] := va_S.rf
  have hDk : ∀ (x : Nat → CS) (y : AS), va_D A (XW cI cZ cW Z Y (Z 1 0) (Z 2 0) x y) := fun x y => D_X hD
  have hl := lv_entry ([.ref (Z 0 0), .int p0, .int p1, .int p2]) (n := 4) (Nat.le_of_ble_eq_true rfl)
  rw [lg_entry_eq]
  generalize (lg_sl ([.ref (Z 0 0), .int p0, .int p1, .int p2]) ++ List.replicate (4 - (lg_sl ([.ref (Z 0 0), .int p0, .int p1, .int p2])).length) Slot.unset).toArray = ls at hl ⊢
  have hl : lv_has ls 4 [(0, .ref (Z 0 0)), (1, .int p0), (2, .int p1), (3, .int p2)] := hl
  unfold wp_X6_taste at hf
  have k_62 : ∀ (t0 : Int32) (t1 : Int32) (t2 : Int32) (S : Nat → CS) (a : AS) (H : Heap) (locs : List Loc) (ls : Array Slot), B_X6_taste_62 Z Y t0 t1 t2 S a Q → va_P D classes (XW cI cZ cW Z Y (Z 1 0) (Z 2 0) S a) H → va_D A (XW cI cZ cW Z Y (Z 1 0) (Z 2 0) S a) → va_S A s.heap H locs → lv_has ls 4 [(0, .ref (Z 0 0))] → W p l e (headSpec (wsA yX6_taste cX6_taste 4 (some .int)) ({ frames := 1, cells := 0, slots := 0, locals := 23 })).room s m (#[.ref (Z 0 0), .int p0, .int p1, .int p2] : Array Value) below meth c H locs 0 0 (MQ below (va_Qi (fun (r : Int32) (u : (Nat → CS) × AS) => Q r u.1 u.2) (fun u t => va_P D classes (XW cI cZ cW Z Y (Z 1 0) (Z 2 0) u.1 u.2) t.heap) A) (#[.ref (Z 0 0), .int p0, .int p1, .int p2] : Array Value) s 0 0 A) (F0 m 62 ls [.int t0, .int t1, .int t2, .ref (Z 6 0)]) := by
    intro t0 t1 t2 S a H locs ls hf hP hD hS hl
    unfold B_X6_taste_62 at hf
    have hPc : va_P D classes (wT cI cZ (Z 6) (S 6)) H := XP_6 hP
    have hDc : va_D A (wT cI cZ (Z 6) (S 6)) := XD_6 hD
    have hFc := va_freeX hDc hS hA
    refine va_callv (va_runV (As := [.int t2, .int t1, .int t0]) (rest := []) ⟨hx, hb, hml, hown, hts⟩ (c_X4_addOne l D cI cZ cW (Z 6) H.size t2 t1 t0 (S 6) _ hf) ⟨callB_of 3 hts (gA tw_541) rfl rfl rfl (ht _ tw_6) (ht _ tw_538) hd_X4_addOne ⟨Nat.le_of_ble_eq_true rfl, Nat.le_of_ble_eq_true rfl⟩, ht _ tw_539, ht _ tw_540⟩ ⟨PW_blind, va_recv hK hP (ci := 2) (q0 := 31) rfl eX_31, fun U hU hW => PW_mk hPc hDc hK hU hW⟩ rfl rfl hl.1 rfl (lv_room (Nat.le_of_ble_eq_true rfl)) dX6_taste_62 ⟨Nat.zero_le _, Nat.zero_le _⟩) hS (fun q _ h => hFc q h) hFc (fun u t H1 locs ht1 hvm hf hB hz1 hk1 hS => ?_)
    obtain ⟨s_1, rfl⟩ : ∃ z, z = u := ⟨_, rfl⟩
    rw [ht1] at hB
    have hP := XJ_6 hP hD hk1 hB
    generalize H1 = H at hP hS ⊢
    obtain ⟨S_2, eS_2⟩ : ∃ y : Nat → CS, y = va_up S 6 s_1 := ⟨_, rfl⟩
    have hf := hf S_2 eS_2
    have hP : va_P D classes (XW cI cZ cW Z Y (Z 1 0) (Z 2 0) S_2 a) H := by rw [eS_2]; exact hP
    have hD := hDk S_2 a
    refine lv_aload_n hx hb dX6_taste_65 rfl (lv_at hl 0 rfl) ?_
    refine va_get (D := D) (ci := 4) (v := .ref (Z 6 0)) (C := RX6) (T := TX6) (N := 12) hx hb ht inX6 hown hK hP 0 eX_0 rfl 10 (by decide) (ht _ tw_163) (fun _ h9 => h9) rfl dX6_taste_66 ?_
    refine va_get (D := D) (ci := 2) (v := .int ((S_2 6).1 3)) (C := RX4) (T := TX4) (N := 4) hx hb ht inX4 hown hK hP 31 eX_31 rfl 3 (by decide) (ht _ tw_142) (fun _ h9 => h9) rfl dX6_taste_69 ?_
    exact W.iret (v := ((S_2 6).1 3)) hx hb hr (fun t ht hW => ⟨⟨((S_2 6).1 3), (S_2, a), rfl, hf, P_heap ht hP⟩, hS.F ht⟩) hS.2.2 dX6_taste_72
  have start : ∀ (H : Heap) (locs : List Loc), va_P D classes (XW cI cZ cW Z Y (Z 1 0) (Z 2 0) S a) H → va_D A (XW cI cZ cW Z Y (Z 1 0) (Z 2 0) S a) → va_S A s.heap H locs → W p l e (headSpec (wsA yX6_taste cX6_taste 4 (some .int)) ({ frames := 1, cells := 0, slots := 0, locals := 23 })).room s m (#[.ref (Z 0 0), .int p0, .int p1, .int p2] : Array Value) below meth c H locs 0 0 (MQ below (va_Qi (fun (r : Int32) (u : (Nat → CS) × AS) => Q r u.1 u.2) (fun u t => va_P D classes (XW cI cZ cW Z Y (Z 1 0) (Z 2 0) u.1 u.2) t.heap) A) (#[.ref (Z 0 0), .int p0, .int p1, .int p2] : Array Value) s 0 0 A) (F0 m 0 ls []) := by
    intro H locs hP hD hS
    refine lv_iload_n hx hb dX6_taste_0 rfl (lv_at hl 1 rfl) ?_
    have hPc : va_P D classes ([] : va_W) H := fun k q h => by simp at h
    refine vp_callSi (W.runS (As := [.int p0]) (rest := []) ⟨hx, hb, hml, hown, hts⟩ (c_X2_hasCell l D cI cZ cW  p0 _ hf) ⟨callB_of 1 hts (gA tw_245) rfl rfl rfl (ht _ tw_9) (ht _ tw_328) hd_X2_hasCell ⟨Nat.le_of_ble_eq_true rfl, Nat.le_of_ble_eq_true rfl⟩, ht _ tw_244⟩ ⟨PR_blind, fun U hU hW => PR_mk hPc hK hU hW⟩ rfl rfl hl.1 rfl (lv_room (Nat.le_of_ble_eq_true rfl)) dX6_taste_1 ⟨Nat.zero_le _, Nat.zero_le _⟩) (fun r_3 hf => ?_)
    refine lv_if_ne (tgt := 9) hx hb dX6_taste_4 (by decide) (fun c_4 => ?_) (fun c_4 => ?_)
    · have hf := hf.1 c_4
      refine lv_iload_n hx hb dX6_taste_9 rfl (lv_at hl 2 rfl) ?_
      refine lv_if_lt (tgt := 28) hx hb dX6_taste_10 (by decide) (fun c_5 => ?_) (fun c_5 => ?_)
      · have hf := hf.1 c_5
        refine lv_bipush (v := (-2 : Int32)) hx hb dX6_taste_28 (by decide) ?_
        exact W.iret (v := (-2 : Int32)) hx hb hr (fun t ht hW => ⟨⟨(-2 : Int32), (S, a), rfl, hf, P_heap ht hP⟩, hS.F ht⟩) hS.2.2 dX6_taste_30
      · have hf := hf.2 c_5
        refine lv_iload_n hx hb dX6_taste_13 rfl (lv_at hl 2 rfl) ?_
        refine lv_bipush (v := (9 : Int32)) hx hb dX6_taste_14 (by decide) ?_
        refine lv_icmp_gt (tgt := 28) hx hb dX6_taste_16 (by decide) (fun c_6 => ?_) (fun c_6 => ?_)
        · have hf := hf.1 c_6
          refine lv_bipush (v := (-2 : Int32)) hx hb dX6_taste_28 (by decide) ?_
          exact W.iret (v := (-2 : Int32)) hx hb hr (fun t ht hW => ⟨⟨(-2 : Int32), (S, a), rfl, hf, P_heap ht hP⟩, hS.F ht⟩) hS.2.2 dX6_taste_30
        · have hf := hf.2 c_6
          refine lv_iload_n hx hb dX6_taste_19 rfl (lv_at hl 3 rfl) ?_
          refine lv_if_lt (tgt := 28) hx hb dX6_taste_20 (by decide) (fun c_7 => ?_) (fun c_7 => ?_)
          · have hf := hf.1 c_7
            refine lv_bipush (v := (-2 : Int32)) hx hb dX6_taste_28 (by decide) ?_
            exact W.iret (v := (-2 : Int32)) hx hb hr (fun t ht hW => ⟨⟨(-2 : Int32), (S, a), rfl, hf, P_heap ht hP⟩, hS.F ht⟩) hS.2.2 dX6_taste_30
          · have hf := hf.2 c_7
            refine lv_iload_n hx hb dX6_taste_23 rfl (lv_at hl 3 rfl) ?_
            refine lv_iconst (v := (1 : Int32)) hx hb dX6_taste_24 (by decide) ?_
            refine lv_icmp_le (tgt := 31) hx hb dX6_taste_25 (by decide) (fun c_8 => ?_) (fun c_8 => ?_)
            · have hf := hf.1 c_8
              refine lv_aload_n hx hb dX6_taste_31 rfl (lv_at hl 0 rfl) ?_
              refine va_get (D := D) (ci := 4) (v := .ref (Z 6 0)) (C := RX6) (T := TX6) (N := 12) hx hb ht inX6 hown hK hP 0 eX_0 rfl 10 (by decide) (ht _ tw_163) (fun _ h9 => h9) rfl dX6_taste_32 ?_
              refine va_get (D := D) (ci := 2) (v := .int ((S 6).1 3)) (C := RX4) (T := TX4) (N := 4) hx hb ht inX4 hown hK hP 31 eX_31 rfl 3 (by decide) (ht _ tw_142) (fun _ h9 => h9) rfl dX6_taste_35 ?_
              refine lv_bipush (v := (6 : Int32)) hx hb dX6_taste_38 (by decide) ?_
              refine lv_icmp_lt (tgt := 46) hx hb dX6_taste_40 (by decide) (fun c_9 => ?_) (fun c_9 => ?_)
              · have hf := hf.1 c_9
                refine lv_aload_n hx hb dX6_taste_46 rfl (lv_at hl 0 rfl) ?_
                refine va_get (D := D) (ci := 4) (v := .ref (Z 6 0)) (C := RX6) (T := TX6) (N := 12) hx hb ht inX6 hown hK hP 0 eX_0 rfl 10 (by decide) (ht _ tw_163) (fun _ h9 => h9) rfl dX6_taste_47 ?_
                refine lv_iload_n hx hb dX6_taste_50 rfl (lv_at hl 1 rfl) ?_
                refine lv_iload_n hx hb dX6_taste_51 rfl (lv_at hl 2 rfl) ?_
                refine lv_iload_n hx hb dX6_taste_52 rfl (lv_at hl 3 rfl) ?_
                refine lv_iconst (v := (1 : Int32)) hx hb dX6_taste_53 (by decide) ?_
                refine lv_icmp_ne (tgt := 61) hx hb dX6_taste_54 (by decide) (fun c_10 => ?_) (fun c_10 => ?_)
                · have hf := hf.1 c_10
                  refine lv_iconst (v := (0 : Int32)) hx hb dX6_taste_61 (by decide) ?_
                  exact k_62 (0 : Int32) p1 p0 S a H locs ls hf hP hD hS (lv_sub hl [0] rfl)
                · have hf := hf.2 c_10
                  refine lv_iconst (v := (1 : Int32)) hx hb dX6_taste_57 (by decide) ?_
                  refine lv_goto (tgt := 62) hx hb dX6_taste_58 (by decide) ?_
                  exact k_62 (1 : Int32) p1 p0 S a H locs ls hf hP hD hS (lv_sub hl [0] rfl)
              · have hf := hf.2 c_9
                refine lv_bipush (v := (-4 : Int32)) hx hb dX6_taste_43 (by decide) ?_
                exact W.iret (v := (-4 : Int32)) hx hb hr (fun t ht hW => ⟨⟨(-4 : Int32), (S, a), rfl, hf, P_heap ht hP⟩, hS.F ht⟩) hS.2.2 dX6_taste_45
            · have hf := hf.2 c_8
              refine lv_bipush (v := (-2 : Int32)) hx hb dX6_taste_28 (by decide) ?_
              exact W.iret (v := (-2 : Int32)) hx hb hr (fun t ht hW => ⟨⟨(-2 : Int32), (S, a), rfl, hf, P_heap ht hP⟩, hS.F ht⟩) hS.2.2 dX6_taste_30
    · have hf := hf.2 c_4
      refine lv_iconst (v := (-1 : Int32)) hx hb dX6_taste_7 (by decide) ?_
      exact W.iret (v := (-1 : Int32)) hx hb hr (fun t ht hW => ⟨⟨(-1 : Int32), (S, a), rfl, hf, P_heap ht hP⟩, hS.F ht⟩) hS.2.2 dX6_taste_8
  exact start s.heap [] hP hD hS
def wp_X6_rinse (Z : Nat → Nat → Nat) (Y : Nat → Nat → Nat) (S : Nat → CS) (a : AS) (Q : Int32 → (Nat → CS) → AS → Prop) : Prop := ∀ x1_1 : Int32, x1_1 = ((S 6).1 3) → ∀ S_2 : Nat → CS, S_2 = va_up S 6 (sI (S 6) 3 (0 : Int32)) → Q x1_1 S_2 a
set_option maxHeartbeats 4000000 in
set_option maxRecDepth 100000 in
theorem c_X6_rinse (l : Launch) (D : va_G) (cI cZ cW : ClassId) (Z : Nat → Nat → Nat) (Y : Nat → Nat → Nat) (sz : Nat) (S : Nat → CS) (a : AS) (Q : Int32 → (Nat → CS) → AS → Prop) (hf : wp_X6_rinse Z Y S a Q) : Met l yX6_rinse (wsA yX6_rinse cX6_rinse 2 (some .int)) ({ frames := 0, cells := 0, slots := 0, locals := 0 }) (PW D cI cZ cW [.ref (Z 0 0)] (XW cI cZ cW Z Y (Z 1 0) (Z 2 0) S a) sz) (va_Qi (fun (r : Int32) (u : (Nat → CS) × AS) => Q r u.1 u.2) (fun u t => va_P D classes (XW cI cZ cW Z Y (Z 1 0) (Z 2 0) u.1 u.2) t.heap) (va_A (XW cI cZ cW Z Y (Z 1 0) (Z 2 0) S a) sz)) 0 0 (va_A (XW cI cZ cW Z Y (Z 1 0) (Z 2 0) S a) sz) := by
  refine Met.ofW (cc := cX6_rinse) (maxL := 2) (ret := (some .int)) (by decide) rfl ?_
  intro p e s m args below meth c s₁ B hml hv
  obtain ⟨rfl, hsz, hP, hK, hD0⟩ := hv
  have hx := B.exec
  have hb := B.bytes
  have hr := B.returns
  have hts := atoms_spec (ws := (wsA yX6_rinse cX6_rinse 2 (some .int))) B.pre
  have ht : ∀ w ∈ lw_g, w.before _ s = true := fun w h => hts w (List.mem_cons_of_mem _ h)
  have hown : s.vm.findClass RX6 = some m.cls := findClass_of_methodNamed B.named
  have hlocks := B.notSynchronized
  subst hsz
  have hD := hD0.self (sz := s.heap.size)
  generalize hAe : va_A (XW cI cZ cW Z Y (Z 1 0) (Z 2 0) S a) s.heap.size = A at hD ⊢
  have hA : ∀ q : Nat, s.heap.size ≤ q → A q := fun q h => by rw [← hAe]; exact Or.inr h
  have hS : va_S A s.heap s.heap [] := va_S.rf
  have hDk : ∀ (x : Nat → CS) (y : AS), va_D A (XW cI cZ cW Z Y (Z 1 0) (Z 2 0) x y) := fun x y => D_X hD
  have hl := lv_entry ([.ref (Z 0 0)]) (n := 2) (Nat.le_of_ble_eq_true rfl)
  rw [lg_entry_eq]
  generalize (lg_sl ([.ref (Z 0 0)]) ++ List.replicate (2 - (lg_sl ([.ref (Z 0 0)])).length) Slot.unset).toArray = ls at hl ⊢
  have hl : lv_has ls 2 [(0, .ref (Z 0 0))] := hl
  unfold wp_X6_rinse at hf
  have start : ∀ (H : Heap) (locs : List Loc), va_P D classes (XW cI cZ cW Z Y (Z 1 0) (Z 2 0) S a) H → va_D A (XW cI cZ cW Z Y (Z 1 0) (Z 2 0) S a) → va_S A s.heap H locs → W p l e (headSpec (wsA yX6_rinse cX6_rinse 2 (some .int)) ({ frames := 0, cells := 0, slots := 0, locals := 0 })).room s m (#[.ref (Z 0 0)] : Array Value) below meth c H locs 0 0 (MQ below (va_Qi (fun (r : Int32) (u : (Nat → CS) × AS) => Q r u.1 u.2) (fun u t => va_P D classes (XW cI cZ cW Z Y (Z 1 0) (Z 2 0) u.1 u.2) t.heap) A) (#[.ref (Z 0 0)] : Array Value) s 0 0 A) (F0 m 0 ls []) := by
    intro H locs hP hD hS
    refine lv_aload_n hx hb dX6_rinse_0 rfl (lv_at hl 0 rfl) ?_
    refine va_get (D := D) (ci := 4) (v := .ref (Z 6 0)) (C := RX6) (T := TX6) (N := 12) hx hb ht inX6 hown hK hP 0 eX_0 rfl 10 (by decide) (ht _ tw_163) (fun _ h9 => h9) rfl dX6_rinse_1 ?_
    refine va_get (D := D) (ci := 2) (v := .int ((S 6).1 3)) (C := RX4) (T := TX4) (N := 4) hx hb ht inX4 hown hK hP 31 eX_31 rfl 3 (by decide) (ht _ tw_142) (fun _ h9 => h9) rfl dX6_rinse_4 ?_
    refine lv_topi (fun x1_1 ex1_1 => ?_)
    have hf := hf x1_1 ex1_1
    refine lv_istore_n (lv' := [(1, .int x1_1), (0, .ref (Z 0 0))]) hx hb dX6_rinse_7 rfl hl (by decide) rfl (fun ls hl => ?_)
    refine lv_aload_n hx hb dX6_rinse_8 rfl (lv_at hl 1 rfl) ?_
    refine va_get (D := D) (ci := 4) (v := .ref (Z 6 0)) (C := RX6) (T := TX6) (N := 12) hx hb ht inX6 hown hK hP 0 eX_0 rfl 10 (by decide) (ht _ tw_163) (fun _ h9 => h9) rfl dX6_rinse_9 ?_
    refine lv_iconst (v := (0 : Int32)) hx hb dX6_rinse_12 (by decide) ?_
    refine va_put (D := D) (ci := 2) (v := .int (0 : Int32)) (ty := .int) (C := RX4) (T := TX4) (N := 4) hx hb ht inX4 tyX4 tyX4_ok nmX4 hown hK hP hD hS 31 eX_31 rfl 3 (by decide) (ht _ tw_142) (fun _ h9 => h9) rfl pf_I rfl rfl (Nat.le_of_ble_eq_true rfl) dX6_rinse_13 (fun H locs hP hD hS => ?_)
    obtain ⟨S_2, eS_2⟩ : ∃ y : Nat → CS, y = va_up S 6 (sI (S 6) 3 (0 : Int32)) := ⟨_, rfl⟩
    have hf := hf S_2 eS_2
    have hP : va_P D classes (XW cI cZ cW Z Y (Z 1 0) (Z 2 0) S_2 a) H := by rw [eS_2]; exact PX_6_I3 hP
    have hD := hDk S_2 a
    refine lv_iload_n hx hb dX6_rinse_16 rfl (lv_at hl 0 rfl) ?_
    exact W.iret (v := x1_1) hx hb hr (fun t ht hW => ⟨⟨x1_1, (S_2, a), rfl, hf, P_heap ht hP⟩, hS.F ht⟩) hS.2.2 dX6_rinse_17
  exact start s.heap [] hP hD hS
def LB_X6_mayHaveBegun_21 (G21 : (Int32 × (Nat → CS) × AS) → Prop) (Z : Nat → Nat → Nat) (Y : Nat → Nat → Nat) (x2 : Int32) (S : Nat → CS) (a : AS) (Q : Int32 → (Nat → CS) → AS → Prop) : Prop := (((9 : Int32) < x2 → Q (1 : Int32) S a) ∧ (¬ (9 : Int32) < x2 → wp_X5_holeCells (S 5) (fun r_2 => wp_X4_agrees x2 r_2 (S 6) (fun r_3 => ((¬ r_3 = 0 → wp_X5_passDay (S 5) (S 3) (fun r_5 s_6 s_7 => ∀ S_8 : Nat → CS, S_8 = va_up (va_up S 5 s_6) 3 s_7 → ∀ x2_9 : Int32, x2_9 = x2 + (1 : Int32) → G21 (x2_9, S_8, a))) ∧ (r_3 = 0 → Q (0 : Int32) S a))))))
def B_X6_mayHaveBegun_21 (Z : Nat → Nat → Nat) (Y : Nat → Nat → Nat) (x2 : Int32) (S : Nat → CS) (a : AS) (Q : Int32 → (Nat → CS) → AS → Prop) : Prop := LOOP (fun (G21 : (Int32 × (Nat → CS) × AS) → Prop) z => LB_X6_mayHaveBegun_21 G21 Z Y z.1 z.2.1 z.2.2 Q) (x2, S, a)
def wp_X6_mayHaveBegun (p0 : Int32) (Z : Nat → Nat → Nat) (Y : Nat → Nat → Nat) (S : Nat → CS) (a : AS) (Q : Int32 → (Nat → CS) → AS → Prop) : Prop := wp_X5_beginWith (S 5) (S 3) (fun s_10 s_11 => ∀ S_12 : Nat → CS, S_12 = va_up (va_up S 5 s_10) 3 s_11 → wp_X5_putLoneHole p0 (S_12 5) (fun s_13 => ∀ S_14 : Nat → CS, S_14 = va_up S_12 5 s_13 → B_X6_mayHaveBegun_21 Z Y (0 : Int32) S_14 a Q))
set_option maxHeartbeats 4000000 in
set_option maxRecDepth 100000 in
theorem c_X6_mayHaveBegun (l : Launch) (D : va_G) (cI cZ cW : ClassId) (Z : Nat → Nat → Nat) (Y : Nat → Nat → Nat) (sz : Nat) (p0 : Int32) (S : Nat → CS) (a : AS) (Q : Int32 → (Nat → CS) → AS → Prop) (hf : wp_X6_mayHaveBegun p0 Z Y S a Q) : Met l yX6_mayHaveBegun (wsA yX6_mayHaveBegun cX6_mayHaveBegun 3 (some .boolean)) ({ frames := 5, cells := 0, slots := 0, locals := 115 }) (PW D cI cZ cW [.ref (Z 0 0), .int p0] (XW cI cZ cW Z Y (Z 1 0) (Z 2 0) S a) sz) (va_Qi (fun (r : Int32) (u : (Nat → CS) × AS) => Q r u.1 u.2) (fun u t => va_P D classes (XW cI cZ cW Z Y (Z 1 0) (Z 2 0) u.1 u.2) t.heap) (va_A (XW cI cZ cW Z Y (Z 1 0) (Z 2 0) S a) sz)) 0 0 (va_A (XW cI cZ cW Z Y (Z 1 0) (Z 2 0) S a) sz) := by
  refine Met.ofW (cc := cX6_mayHaveBegun) (maxL := 3) (ret := (some .boolean)) (by decide) rfl ?_
  intro p e s m args below meth c s₁ B hml hv
  obtain ⟨rfl, hsz, hP, hK, hD0⟩ := hv
  have hx := B.exec
  have hb := B.bytes
  have hr := B.returns
  have hts := atoms_spec (ws := (wsA yX6_mayHaveBegun cX6_mayHaveBegun 3 (some .boolean))) B.pre
  have ht : ∀ w ∈ lw_g, w.before _ s = true := fun w h => hts w (List.mem_cons_of_mem _ h)
  have hown : s.vm.findClass RX6 = some m.cls := findClass_of_methodNamed B.named
  have hlocks := B.notSynchronized
  subst hsz
  have hD := hD0.self (sz := s.heap.size)
  generalize hAe : va_A (XW cI cZ cW Z Y (Z 1 0) (Z 2 0) S a) s.heap.size = A at hD ⊢
  have hA : ∀ q : Nat, s.heap.size ≤ q → A q := fun q h => by rw [← hAe]; exact Or.inr h
  have hS : va_S A s.heap s.heap [] := va_S.rf
  have hDk : ∀ (x : Nat → CS) (y : AS), va_D A (XW cI cZ cW Z Y (Z 1 0) (Z 2 0) x y) := fun x y => D_X hD
  have hl := lv_entry ([.ref (Z 0 0), .int p0]) (n := 3) (Nat.le_of_ble_eq_true rfl)
  rw [lg_entry_eq]
  generalize (lg_sl ([.ref (Z 0 0), .int p0]) ++ List.replicate (3 - (lg_sl ([.ref (Z 0 0), .int p0])).length) Slot.unset).toArray = ls at hl ⊢
  have hl : lv_has ls 3 [(0, .ref (Z 0 0)), (1, .int p0)] := hl
  unfold wp_X6_mayHaveBegun at hf
  have k_21 : ∀ (x2 : Int32) (S : Nat → CS) (a : AS) (H : Heap) (locs : List Loc) (ls : Array Slot), B_X6_mayHaveBegun_21 Z Y x2 S a Q → va_P D classes (XW cI cZ cW Z Y (Z 1 0) (Z 2 0) S a) H → va_D A (XW cI cZ cW Z Y (Z 1 0) (Z 2 0) S a) → va_S A s.heap H locs → lv_has ls 3 [(0, .ref (Z 0 0)), (2, .int x2)] → W p l e (headSpec (wsA yX6_mayHaveBegun cX6_mayHaveBegun 3 (some .boolean)) ({ frames := 5, cells := 0, slots := 0, locals := 115 })).room s m (#[.ref (Z 0 0), .int p0] : Array Value) below meth c H locs 0 0 (MQ below (va_Qi (fun (r : Int32) (u : (Nat → CS) × AS) => Q r u.1 u.2) (fun u t => va_P D classes (XW cI cZ cW Z Y (Z 1 0) (Z 2 0) u.1 u.2) t.heap) A) (#[.ref (Z 0 0), .int p0] : Array Value) s 0 0 A) (F0 m 21 ls []) := by
    intro x2 S a H locs ls hf hP hD hS hl
    unfold B_X6_mayHaveBegun_21 at hf
    obtain ⟨I_21, ⟨n0_21, hI0_21⟩, hst_21⟩ := hf
    have main_21 : ∀ (n : Nat) (x2 : Int32) (S : Nat → CS) (a : AS) (H : Heap) (locs : List Loc) (ls : Array Slot), I_21 n (x2, S, a) → va_P D classes (XW cI cZ cW Z Y (Z 1 0) (Z 2 0) S a) H → va_D A (XW cI cZ cW Z Y (Z 1 0) (Z 2 0) S a) → va_S A s.heap H locs → lv_has ls 3 [(0, .ref (Z 0 0)), (2, .int x2)] → W p l e (headSpec (wsA yX6_mayHaveBegun cX6_mayHaveBegun 3 (some .boolean)) ({ frames := 5, cells := 0, slots := 0, locals := 115 })).room s m (#[.ref (Z 0 0), .int p0] : Array Value) below meth c H locs 0 0 (MQ below (va_Qi (fun (r : Int32) (u : (Nat → CS) × AS) => Q r u.1 u.2) (fun u t => va_P D classes (XW cI cZ cW Z Y (Z 1 0) (Z 2 0) u.1 u.2) t.heap) A) (#[.ref (Z 0 0), .int p0] : Array Value) s 0 0 A) (F0 m 21 ls []) := by
      intro n
      induction n using Nat.strongRecOn with
      | _ n_21 ih_21 =>
      intro x2 S a H locs ls hI hP hD hS hl
      have hf : LB_X6_mayHaveBegun_21 (fun z => ∃ k, k < n_21 ∧ I_21 k z) Z Y x2 S a Q := hst_21 n_21 (x2, S, a) hI
      have hG_21 : ∀ (x2 : Int32) (S : Nat → CS) (a : AS) (H : Heap) (locs : List Loc) (ls : Array Slot), (∃ k, k < n_21 ∧ I_21 k (x2, S, a)) → va_P D classes (XW cI cZ cW Z Y (Z 1 0) (Z 2 0) S a) H → va_D A (XW cI cZ cW Z Y (Z 1 0) (Z 2 0) S a) → va_S A s.heap H locs → lv_has ls 3 [(0, .ref (Z 0 0)), (2, .int x2)] → W p l e (headSpec (wsA yX6_mayHaveBegun cX6_mayHaveBegun 3 (some .boolean)) ({ frames := 5, cells := 0, slots := 0, locals := 115 })).room s m (#[.ref (Z 0 0), .int p0] : Array Value) below meth c H locs 0 0 (MQ below (va_Qi (fun (r : Int32) (u : (Nat → CS) × AS) => Q r u.1 u.2) (fun u t => va_P D classes (XW cI cZ cW Z Y (Z 1 0) (Z 2 0) u.1 u.2) t.heap) A) (#[.ref (Z 0 0), .int p0] : Array Value) s 0 0 A) (F0 m 21 ls []) := by
        rintro x2 S a H locs ls ⟨k, hk, hI⟩ hP hD hS hl
        exact ih_21 k hk x2 S a H locs ls hI hP hD hS hl
      unfold LB_X6_mayHaveBegun_21 at hf
      refine lv_iload_n hx hb dX6_mayHaveBegun_21 rfl (lv_at hl 1 rfl) ?_
      refine lv_bipush (v := (9 : Int32)) hx hb dX6_mayHaveBegun_22 (by decide) ?_
      refine lv_icmp_gt (tgt := 65) hx hb dX6_mayHaveBegun_24 (by decide) (fun c_1 => ?_) (fun c_1 => ?_)
      · have hf := hf.1 c_1
        refine lv_iconst (v := (1 : Int32)) hx hb dX6_mayHaveBegun_65 (by decide) ?_
        exact W.zret (v := (1 : Int32)) hx hb hr rfl (fun t ht hW => ⟨⟨(1 : Int32), (S, a), rfl, hf, P_heap ht hP⟩, hS.F ht⟩) hS.2.2 dX6_mayHaveBegun_66
      · have hf := hf.2 c_1
        refine lv_aload_n hx hb dX6_mayHaveBegun_27 rfl (lv_at hl 0 rfl) ?_
        refine va_get (D := D) (ci := 4) (v := .ref (Z 6 0)) (C := RX6) (T := TX6) (N := 12) hx hb ht inX6 hown hK hP 0 eX_0 rfl 10 (by decide) (ht _ tw_163) (fun _ h9 => h9) rfl dX6_mayHaveBegun_28 ?_
        refine lv_iload_n hx hb dX6_mayHaveBegun_31 rfl (lv_at hl 1 rfl) ?_
        refine lv_aload_n hx hb dX6_mayHaveBegun_32 rfl (lv_at hl 0 rfl) ?_
        refine va_get (D := D) (ci := 4) (v := .ref (Z 5 0)) (C := RX6) (T := TX6) (N := 12) hx hb ht inX6 hown hK hP 0 eX_0 rfl 6 (by decide) (ht _ tw_159) (fun _ h9 => h9) rfl dX6_mayHaveBegun_33 ?_
        have hPc : va_P D classes (wW cI cZ (Z 5) (S 5)) H := XP_5 hP
        refine vp_callSi (W.runV (As := []) (rest := [.int x2, .ref (Z 6 0)]) ⟨hx, hb, hml, hown, hts⟩ (c_X5_holeCells l D cI cZ cW (Z 5) (S 5) _ hf) ⟨callB_of 0 hts (gA tw_301) rfl rfl rfl (ht _ tw_4) (ht _ tw_562) hd_X5_holeCells ⟨Nat.le_of_ble_eq_true rfl, Nat.le_of_ble_eq_true rfl⟩, ht _ tw_299, ht _ tw_300⟩ ⟨PR_blind, va_recv hK hP (ci := 3) (q0 := 26) rfl eX_26, fun U hU hW => PR_mk hPc hK hU hW⟩ rfl rfl hl.1 rfl (lv_room (Nat.le_of_ble_eq_true rfl)) dX6_mayHaveBegun_36 ⟨Nat.zero_le _, Nat.zero_le _⟩) (fun r_2 hf => ?_)
        have hPc : va_P D classes (wT cI cZ (Z 6) (S 6)) H := XP_6 hP
        refine vp_callSi (W.runV (As := [.int x2, .int r_2]) (rest := []) ⟨hx, hb, hml, hown, hts⟩ (c_X4_agrees l D cI cZ cW (Z 6) x2 r_2 (S 6) _ hf) ⟨callB_of 2 hts (gA tw_566) rfl rfl rfl (ht _ tw_6) (ht _ tw_563) hd_X4_agrees ⟨Nat.le_of_ble_eq_true rfl, Nat.le_of_ble_eq_true rfl⟩, ht _ tw_564, ht _ tw_565⟩ ⟨PR_blind, va_recv hK hP (ci := 2) (q0 := 31) rfl eX_31, fun U hU hW => PR_mk hPc hK hU hW⟩ rfl rfl hl.1 rfl (lv_room (Nat.le_of_ble_eq_true rfl)) dX6_mayHaveBegun_39 ⟨Nat.zero_le _, Nat.zero_le _⟩) (fun r_3 hf => ?_)
        refine lv_if_ne (tgt := 47) hx hb dX6_mayHaveBegun_42 (by decide) (fun c_4 => ?_) (fun c_4 => ?_)
        · have hf := hf.1 c_4
          refine lv_aload_n hx hb dX6_mayHaveBegun_47 rfl (lv_at hl 0 rfl) ?_
          refine va_get (D := D) (ci := 4) (v := .ref (Z 5 0)) (C := RX6) (T := TX6) (N := 12) hx hb ht inX6 hown hK hP 0 eX_0 rfl 6 (by decide) (ht _ tw_159) (fun _ h9 => h9) rfl dX6_mayHaveBegun_48 ?_
          refine lv_aload_n hx hb dX6_mayHaveBegun_51 rfl (lv_at hl 0 rfl) ?_
          refine va_get (D := D) (ci := 4) (v := .ref (Z 3 0)) (C := RX6) (T := TX6) (N := 12) hx hb ht inX6 hown hK hP 0 eX_0 rfl 4 (by decide) (ht _ tw_157) (fun _ h9 => h9) rfl dX6_mayHaveBegun_52 ?_
          have hPc : va_P D classes (wW cI cZ (Z 5) (S 5) ++ wD cI cZ (Z 3) (S 3)) H := XP_5_3 hP
          have hDc : va_D A (wW cI cZ (Z 5) (S 5) ++ wD cI cZ (Z 3) (S 3)) := XD_5_3 hD
          have hFc := va_freeX hDc hS hA
          refine va_calli (va_runV (As := [.ref (Z 3 0)]) (rest := []) ⟨hx, hb, hml, hown, hts⟩ (c_X5_passDay l D cI cZ cW (Z 5) (Z 3) H.size (S 5) (S 3) _ hf) ⟨callB_of 1 hts (gA tw_369) rfl rfl rfl (ht _ tw_4) (ht _ tw_366) hd_X5_passDay ⟨Nat.le_of_ble_eq_true rfl, Nat.le_of_ble_eq_true rfl⟩, ht _ tw_367, ht _ tw_368⟩ ⟨PW_blind, va_recv hK hP (ci := 3) (q0 := 26) rfl eX_26, fun U hU hW => PW_mk hPc hDc hK hU hW⟩ rfl rfl hl.1 rfl (lv_room (Nat.le_of_ble_eq_true rfl)) dX6_mayHaveBegun_55 ⟨Nat.zero_le _, Nat.zero_le _⟩) hS (fun q _ h => hFc q h) hFc (fun r_5 u t H1 locs ht1 hvm hf hB hz1 hk1 hS => ?_)
          obtain ⟨s_6, s_7⟩ := u
          dsimp only at hf hB
          rw [ht1] at hB
          have hP := XJ_5_3 hP hD hk1 hB
          generalize H1 = H at hP hS ⊢
          obtain ⟨S_8, eS_8⟩ : ∃ y : Nat → CS, y = va_up (va_up S 5 s_6) 3 s_7 := ⟨_, rfl⟩
          have hf := hf S_8 eS_8
          have hP : va_P D classes (XW cI cZ cW Z Y (Z 1 0) (Z 2 0) S_8 a) H := by rw [eS_8]; exact hP
          have hD := hDk S_8 a
          refine lv_pop hx hb dX6_mayHaveBegun_58 rfl ?_
          obtain ⟨x2_9, ex2_9⟩ : ∃ y : Int32, y = x2 + (1 : Int32) := ⟨_, rfl⟩
          have hf := hf x2_9 ex2_9
          refine lv_iinc (v := x2_9) (lv' := [(2, .int x2_9), (0, .ref (Z 0 0))]) hx hb dX6_mayHaveBegun_59 hl (k := 1) rfl (by rw [ex2_9]; rfl) (by decide) rfl (fun ls hl => ?_)
          refine lv_goto (tgt := 21) hx hb dX6_mayHaveBegun_62 (by decide) ?_
          exact hG_21 x2_9 S_8 a H locs ls hf hP hD hS (lv_sub hl [1, 0] rfl)
        · have hf := hf.2 c_4
          refine lv_iconst (v := (0 : Int32)) hx hb dX6_mayHaveBegun_45 (by decide) ?_
          exact W.zret (v := (0 : Int32)) hx hb hr rfl (fun t ht hW => ⟨⟨(0 : Int32), (S, a), rfl, hf, P_heap ht hP⟩, hS.F ht⟩) hS.2.2 dX6_mayHaveBegun_46
    exact main_21 n0_21 x2 S a H locs ls hI0_21 hP hD hS hl
  have start : ∀ (H : Heap) (locs : List Loc), va_P D classes (XW cI cZ cW Z Y (Z 1 0) (Z 2 0) S a) H → va_D A (XW cI cZ cW Z Y (Z 1 0) (Z 2 0) S a) → va_S A s.heap H locs → W p l e (headSpec (wsA yX6_mayHaveBegun cX6_mayHaveBegun 3 (some .boolean)) ({ frames := 5, cells := 0, slots := 0, locals := 115 })).room s m (#[.ref (Z 0 0), .int p0] : Array Value) below meth c H locs 0 0 (MQ below (va_Qi (fun (r : Int32) (u : (Nat → CS) × AS) => Q r u.1 u.2) (fun u t => va_P D classes (XW cI cZ cW Z Y (Z 1 0) (Z 2 0) u.1 u.2) t.heap) A) (#[.ref (Z 0 0), .int p0] : Array Value) s 0 0 A) (F0 m 0 ls []) := by
    intro H locs hP hD hS
    refine lv_aload_n hx hb dX6_mayHaveBegun_0 rfl (lv_at hl 0 rfl) ?_
    refine va_get (D := D) (ci := 4) (v := .ref (Z 5 0)) (C := RX6) (T := TX6) (N := 12) hx hb ht inX6 hown hK hP 0 eX_0 rfl 6 (by decide) (ht _ tw_159) (fun _ h9 => h9) rfl dX6_mayHaveBegun_1 ?_
    refine lv_aload_n hx hb dX6_mayHaveBegun_4 rfl (lv_at hl 0 rfl) ?_
    refine va_get (D := D) (ci := 4) (v := .ref (Z 3 0)) (C := RX6) (T := TX6) (N := 12) hx hb ht inX6 hown hK hP 0 eX_0 rfl 4 (by decide) (ht _ tw_157) (fun _ h9 => h9) rfl dX6_mayHaveBegun_5 ?_
    have hPc : va_P D classes (wW cI cZ (Z 5) (S 5) ++ wD cI cZ (Z 3) (S 3)) H := XP_5_3 hP
    have hDc : va_D A (wW cI cZ (Z 5) (S 5) ++ wD cI cZ (Z 3) (S 3)) := XD_5_3 hD
    have hFc := va_freeX hDc hS hA
    refine va_callv (va_runV (As := [.ref (Z 3 0)]) (rest := []) ⟨hx, hb, hml, hown, hts⟩ (c_X5_beginWith l D cI cZ cW (Z 5) (Z 3) H.size (S 5) (S 3) _ hf) ⟨callB_of 1 hts (gA tw_261) rfl rfl rfl (ht _ tw_4) (ht _ tw_258) hd_X5_beginWith ⟨Nat.le_of_ble_eq_true rfl, Nat.le_of_ble_eq_true rfl⟩, ht _ tw_259, ht _ tw_260⟩ ⟨PW_blind, va_recv hK hP (ci := 3) (q0 := 26) rfl eX_26, fun U hU hW => PW_mk hPc hDc hK hU hW⟩ rfl rfl hl.1 rfl (lv_room (Nat.le_of_ble_eq_true rfl)) dX6_mayHaveBegun_8 ⟨Nat.zero_le _, Nat.zero_le _⟩) hS (fun q _ h => hFc q h) hFc (fun u t H1 locs ht1 hvm hf hB hz1 hk1 hS => ?_)
    obtain ⟨s_10, s_11⟩ := u
    dsimp only at hf hB
    rw [ht1] at hB
    have hP := XJ_5_3 hP hD hk1 hB
    generalize H1 = H at hP hS ⊢
    obtain ⟨S_12, eS_12⟩ : ∃ y : Nat → CS, y = va_up (va_up S 5 s_10) 3 s_11 := ⟨_, rfl⟩
    have hf := hf S_12 eS_12
    have hP : va_P D classes (XW cI cZ cW Z Y (Z 1 0) (Z 2 0) S_12 a) H := by rw [eS_12]; exact hP
    have hD := hDk S_12 a
    refine lv_aload_n hx hb dX6_mayHaveBegun_11 rfl (lv_at hl 0 rfl) ?_
    refine va_get (D := D) (ci := 4) (v := .ref (Z 5 0)) (C := RX6) (T := TX6) (N := 12) hx hb ht inX6 hown hK hP 0 eX_0 rfl 6 (by decide) (ht _ tw_159) (fun _ h9 => h9) rfl dX6_mayHaveBegun_12 ?_
    refine lv_iload_n hx hb dX6_mayHaveBegun_15 rfl (lv_at hl 1 rfl) ?_
    have hPc : va_P D classes (wW cI cZ (Z 5) (S_12 5)) H := XP_5 hP
    have hDc : va_D A (wW cI cZ (Z 5) (S_12 5)) := XD_5 hD
    have hFc := va_freeX hDc hS hA
    refine va_callv (va_runV (As := [.int p0]) (rest := []) ⟨hx, hb, hml, hown, hts⟩ (c_X5_putLoneHole l D cI cZ cW (Z 5) H.size p0 (S_12 5) _ hf) ⟨callB_of 1 hts (gA tw_561) rfl rfl rfl (ht _ tw_4) (ht _ tw_558) hd_X5_putLoneHole ⟨Nat.le_of_ble_eq_true rfl, Nat.le_of_ble_eq_true rfl⟩, ht _ tw_559, ht _ tw_560⟩ ⟨PW_blind, va_recv hK hP (ci := 3) (q0 := 26) rfl eX_26, fun U hU hW => PW_mk hPc hDc hK hU hW⟩ rfl rfl hl.1 rfl (lv_room (Nat.le_of_ble_eq_true rfl)) dX6_mayHaveBegun_16 ⟨Nat.zero_le _, Nat.zero_le _⟩) hS (fun q _ h => hFc q h) hFc (fun u t H1 locs ht1 hvm hf hB hz1 hk1 hS => ?_)
    obtain ⟨s_13, rfl⟩ : ∃ z, z = u := ⟨_, rfl⟩
    rw [ht1] at hB
    have hP := XJ_5 hP hD hk1 hB
    generalize H1 = H at hP hS ⊢
    obtain ⟨S_14, eS_14⟩ : ∃ y : Nat → CS, y = va_up S_12 5 s_13 := ⟨_, rfl⟩
    have hf := hf S_14 eS_14
    have hP : va_P D classes (XW cI cZ cW Z Y (Z 1 0) (Z 2 0) S_14 a) H := by rw [eS_14]; exact hP
    have hD := hDk S_14 a
    refine lv_iconst (v := (0 : Int32)) hx hb dX6_mayHaveBegun_19 (by decide) ?_
    refine lv_istore_n (lv' := [(2, .int (0 : Int32)), (0, .ref (Z 0 0)), (1, .int p0)]) hx hb dX6_mayHaveBegun_20 rfl hl (by decide) rfl (fun ls hl => ?_)
    exact k_21 (0 : Int32) S_14 a H locs ls hf hP hD hS (lv_sub hl [1, 0] rfl)
  exact start s.heap [] hP hD hS
def B_X6_began_44 (G24 : (Int32 × Int32 × (Nat → CS) × AS) → Prop) (Z : Nat → Nat → Nat) (Y : Nat → Nat → Nat) (x2 : Int32) (x3 : Int32) (S : Nat → CS) (a : AS) (Q : Int32 → (Nat → CS) → AS → Prop) : Prop := ∀ x3_1 : Int32, x3_1 = x3 + (1 : Int32) → G24 (x2, x3_1, S, a)
def LB_X6_began_24 (G24 : (Int32 × Int32 × (Nat → CS) × AS) → Prop) (Z : Nat → Nat → Nat) (Y : Nat → Nat → Nat) (x2 : Int32) (x3 : Int32) (S : Nat → CS) (a : AS) (Q : Int32 → (Nat → CS) → AS → Prop) : Prop := (((20 : Int32) ≤ x3 → Q x2 S a) ∧ (¬ (20 : Int32) ≤ x3 → wp_X6_mayHaveBegun x3 Z Y S a (fun r_3 S_4 a_5 => ((r_3 = 0 → B_X6_began_44 G24 Z Y x2 x3 S_4 a_5 Q) ∧ (¬ r_3 = 0 → ∀ x2_7 : Int32, x2_7 = (x2 ||| ((1 : Int32) <<< (x3 &&& 31))) → B_X6_began_44 G24 Z Y x2_7 x3 S_4 a_5 Q)))))
def B_X6_began_24 (Z : Nat → Nat → Nat) (Y : Nat → Nat → Nat) (x2 : Int32) (x3 : Int32) (S : Nat → CS) (a : AS) (Q : Int32 → (Nat → CS) → AS → Prop) : Prop := LOOP (fun (G24 : (Int32 × Int32 × (Nat → CS) × AS) → Prop) z => LB_X6_began_24 G24 Z Y z.1 z.2.1 z.2.2.1 z.2.2.2 Q) (x2, x3, S, a)
def wp_X6_began (p0 : Int32) (Z : Nat → Nat → Nat) (Y : Nat → Nat → Nat) (S : Nat → CS) (a : AS) (Q : Int32 → (Nat → CS) → AS → Prop) : Prop := ((p0 < 0 → Q (-2 : Int32) S a) ∧ (¬ p0 < 0 → ((p0 < (4 : Int32) → wp_X1_tellLoneHole p0 (S 3) (fun s_10 => ∀ S_11 : Nat → CS, S_11 = va_up S 3 s_10 → B_X6_began_24 Z Y (0 : Int32) (0 : Int32) S_11 a Q)) ∧ (¬ p0 < (4 : Int32) → Q (-2 : Int32) S a))))
set_option maxHeartbeats 4000000 in
set_option maxRecDepth 100000 in
theorem c_X6_began (l : Launch) (D : va_G) (cI cZ cW : ClassId) (Z : Nat → Nat → Nat) (Y : Nat → Nat → Nat) (sz : Nat) (p0 : Int32) (S : Nat → CS) (a : AS) (Q : Int32 → (Nat → CS) → AS → Prop) (hf : wp_X6_began p0 Z Y S a Q) : Met l yX6_began (wsA yX6_began cX6_began 4 (some .int)) ({ frames := 6, cells := 0, slots := 0, locals := 137 }) (PW D cI cZ cW [.ref (Z 0 0), .int p0] (XW cI cZ cW Z Y (Z 1 0) (Z 2 0) S a) sz) (va_Qi (fun (r : Int32) (u : (Nat → CS) × AS) => Q r u.1 u.2) (fun u t => va_P D classes (XW cI cZ cW Z Y (Z 1 0) (Z 2 0) u.1 u.2) t.heap) (va_A (XW cI cZ cW Z Y (Z 1 0) (Z 2 0) S a) sz)) 0 0 (va_A (XW cI cZ cW Z Y (Z 1 0) (Z 2 0) S a) sz) := by
  refine Met.ofW (cc := cX6_began) (maxL := 4) (ret := (some .int)) (by decide) rfl ?_
  intro p e s m args below meth c s₁ B hml hv
  obtain ⟨rfl, hsz, hP, hK, hD0⟩ := hv
  have hx := B.exec
  have hb := B.bytes
  have hr := B.returns
  have hts := atoms_spec (ws := (wsA yX6_began cX6_began 4 (some .int))) B.pre
  have ht : ∀ w ∈ lw_g, w.before _ s = true := fun w h => hts w (List.mem_cons_of_mem _ h)
  have hown : s.vm.findClass RX6 = some m.cls := findClass_of_methodNamed B.named
  have hlocks := B.notSynchronized
  subst hsz
  have hD := hD0.self (sz := s.heap.size)
  generalize hAe : va_A (XW cI cZ cW Z Y (Z 1 0) (Z 2 0) S a) s.heap.size = A at hD ⊢
  have hA : ∀ q : Nat, s.heap.size ≤ q → A q := fun q h => by rw [← hAe]; exact Or.inr h
  have hS : va_S A s.heap s.heap [] := va_S.rf
  have hDk : ∀ (x : Nat → CS) (y : AS), va_D A (XW cI cZ cW Z Y (Z 1 0) (Z 2 0) x y) := fun x y => D_X hD
  have hl := lv_entry ([.ref (Z 0 0), .int p0]) (n := 4) (Nat.le_of_ble_eq_true rfl)
  rw [lg_entry_eq]
  generalize (lg_sl ([.ref (Z 0 0), .int p0]) ++ List.replicate (4 - (lg_sl ([.ref (Z 0 0), .int p0])).length) Slot.unset).toArray = ls at hl ⊢
  have hl : lv_has ls 4 [(0, .ref (Z 0 0)), (1, .int p0)] := hl
  unfold wp_X6_began at hf
  have k_24 : ∀ (x2 : Int32) (x3 : Int32) (S : Nat → CS) (a : AS) (H : Heap) (locs : List Loc) (ls : Array Slot), B_X6_began_24 Z Y x2 x3 S a Q → va_P D classes (XW cI cZ cW Z Y (Z 1 0) (Z 2 0) S a) H → va_D A (XW cI cZ cW Z Y (Z 1 0) (Z 2 0) S a) → va_S A s.heap H locs → lv_has ls 4 [(0, .ref (Z 0 0)), (2, .int x2), (3, .int x3)] → W p l e (headSpec (wsA yX6_began cX6_began 4 (some .int)) ({ frames := 6, cells := 0, slots := 0, locals := 137 })).room s m (#[.ref (Z 0 0), .int p0] : Array Value) below meth c H locs 0 0 (MQ below (va_Qi (fun (r : Int32) (u : (Nat → CS) × AS) => Q r u.1 u.2) (fun u t => va_P D classes (XW cI cZ cW Z Y (Z 1 0) (Z 2 0) u.1 u.2) t.heap) A) (#[.ref (Z 0 0), .int p0] : Array Value) s 0 0 A) (F0 m 24 ls []) := by
    intro x2 x3 S a H locs ls hf hP hD hS hl
    unfold B_X6_began_24 at hf
    obtain ⟨I_24, ⟨n0_24, hI0_24⟩, hst_24⟩ := hf
    have main_24 : ∀ (n : Nat) (x2 : Int32) (x3 : Int32) (S : Nat → CS) (a : AS) (H : Heap) (locs : List Loc) (ls : Array Slot), I_24 n (x2, x3, S, a) → va_P D classes (XW cI cZ cW Z Y (Z 1 0) (Z 2 0) S a) H → va_D A (XW cI cZ cW Z Y (Z 1 0) (Z 2 0) S a) → va_S A s.heap H locs → lv_has ls 4 [(0, .ref (Z 0 0)), (2, .int x2), (3, .int x3)] → W p l e (headSpec (wsA yX6_began cX6_began 4 (some .int)) ({ frames := 6, cells := 0, slots := 0, locals := 137 })).room s m (#[.ref (Z 0 0), .int p0] : Array Value) below meth c H locs 0 0 (MQ below (va_Qi (fun (r : Int32) (u : (Nat → CS) × AS) => Q r u.1 u.2) (fun u t => va_P D classes (XW cI cZ cW Z Y (Z 1 0) (Z 2 0) u.1 u.2) t.heap) A) (#[.ref (Z 0 0), .int p0] : Array Value) s 0 0 A) (F0 m 24 ls []) := by
      intro n
      induction n using Nat.strongRecOn with
      | _ n_24 ih_24 =>
      intro x2 x3 S a H locs ls hI hP hD hS hl
      have hf : LB_X6_began_24 (fun z => ∃ k, k < n_24 ∧ I_24 k z) Z Y x2 x3 S a Q := hst_24 n_24 (x2, x3, S, a) hI
      have hG_24 : ∀ (x2 : Int32) (x3 : Int32) (S : Nat → CS) (a : AS) (H : Heap) (locs : List Loc) (ls : Array Slot), (∃ k, k < n_24 ∧ I_24 k (x2, x3, S, a)) → va_P D classes (XW cI cZ cW Z Y (Z 1 0) (Z 2 0) S a) H → va_D A (XW cI cZ cW Z Y (Z 1 0) (Z 2 0) S a) → va_S A s.heap H locs → lv_has ls 4 [(0, .ref (Z 0 0)), (2, .int x2), (3, .int x3)] → W p l e (headSpec (wsA yX6_began cX6_began 4 (some .int)) ({ frames := 6, cells := 0, slots := 0, locals := 137 })).room s m (#[.ref (Z 0 0), .int p0] : Array Value) below meth c H locs 0 0 (MQ below (va_Qi (fun (r : Int32) (u : (Nat → CS) × AS) => Q r u.1 u.2) (fun u t => va_P D classes (XW cI cZ cW Z Y (Z 1 0) (Z 2 0) u.1 u.2) t.heap) A) (#[.ref (Z 0 0), .int p0] : Array Value) s 0 0 A) (F0 m 24 ls []) := by
        rintro x2 x3 S a H locs ls ⟨k, hk, hI⟩ hP hD hS hl
        exact ih_24 k hk x2 x3 S a H locs ls hI hP hD hS hl
      unfold LB_X6_began_24 at hf
      have k_44 : ∀ (x2 : Int32) (x3 : Int32) (S : Nat → CS) (a : AS) (H : Heap) (locs : List Loc) (ls : Array Slot), B_X6_began_44 (fun z => ∃ k, k < n_24 ∧ I_24 k z) Z Y x2 x3 S a Q → va_P D classes (XW cI cZ cW Z Y (Z 1 0) (Z 2 0) S a) H → va_D A (XW cI cZ cW Z Y (Z 1 0) (Z 2 0) S a) → va_S A s.heap H locs → lv_has ls 4 [(0, .ref (Z 0 0)), (2, .int x2), (3, .int x3)] → W p l e (headSpec (wsA yX6_began cX6_began 4 (some .int)) ({ frames := 6, cells := 0, slots := 0, locals := 137 })).room s m (#[.ref (Z 0 0), .int p0] : Array Value) below meth c H locs 0 0 (MQ below (va_Qi (fun (r : Int32) (u : (Nat → CS) × AS) => Q r u.1 u.2) (fun u t => va_P D classes (XW cI cZ cW Z Y (Z 1 0) (Z 2 0) u.1 u.2) t.heap) A) (#[.ref (Z 0 0), .int p0] : Array Value) s 0 0 A) (F0 m 44 ls []) := by
        intro x2 x3 S a H locs ls hf hP hD hS hl
        unfold B_X6_began_44 at hf
        obtain ⟨x3_1, ex3_1⟩ : ∃ y : Int32, y = x3 + (1 : Int32) := ⟨_, rfl⟩
        have hf := hf x3_1 ex3_1
        refine lv_iinc (v := x3_1) (lv' := [(3, .int x3_1), (0, .ref (Z 0 0)), (2, .int x2)]) hx hb dX6_began_44 hl (k := 2) rfl (by rw [ex3_1]; rfl) (by decide) rfl (fun ls hl => ?_)
        refine lv_goto (tgt := 24) hx hb dX6_began_47 (by decide) ?_
        exact hG_24 x2 x3_1 S a H locs ls hf hP hD hS (lv_sub hl [1, 2, 0] rfl)
      refine lv_iload_n hx hb dX6_began_24 rfl (lv_at hl 2 rfl) ?_
      refine lv_bipush (v := (20 : Int32)) hx hb dX6_began_25 (by decide) ?_
      refine lv_icmp_ge (tgt := 50) hx hb dX6_began_27 (by decide) (fun c_2 => ?_) (fun c_2 => ?_)
      · have hf := hf.1 c_2
        refine lv_iload_n hx hb dX6_began_50 rfl (lv_at hl 1 rfl) ?_
        exact W.iret (v := x2) hx hb hr (fun t ht hW => ⟨⟨x2, (S, a), rfl, hf, P_heap ht hP⟩, hS.F ht⟩) hS.2.2 dX6_began_51
      · have hf := hf.2 c_2
        refine lv_aload_n hx hb dX6_began_30 rfl (lv_at hl 0 rfl) ?_
        refine lv_iload_n hx hb dX6_began_31 rfl (lv_at hl 2 rfl) ?_
        have hPc : va_P D classes (XW cI cZ cW Z Y (Z 1 0) (Z 2 0) S a) H := hP
        have hDc : va_D A (XW cI cZ cW Z Y (Z 1 0) (Z 2 0) S a) := hD
        have hFc := va_freeX hDc hS hA
        refine va_calli (va_runV (As := [.int x3]) (rest := []) ⟨hx, hb, hml, hown, hts⟩ (c_X6_mayHaveBegun l D cI cZ cW Z Y H.size x3 S a _ hf) ⟨callB_of 1 hts (gA tw_557) rfl rfl rfl (ht _ tw_1) (ht _ tw_554) hd_X6_mayHaveBegun ⟨Nat.le_of_ble_eq_true rfl, Nat.le_of_ble_eq_true rfl⟩, ht _ tw_556, ht _ twp_15⟩ ⟨PW_blind, va_recv hK hP (ci := 4) (q0 := 0) rfl eX_0, fun U hU hW => PW_mk hPc hDc hK hU hW⟩ rfl rfl hl.1 rfl (lv_room (Nat.le_of_ble_eq_true rfl)) dX6_began_32 ⟨Nat.zero_le _, Nat.zero_le _⟩) hS (fun q _ h => hFc q h) hFc (fun r_3 u t H1 locs ht1 hvm hf hB hz1 hk1 hS => ?_)
        obtain ⟨S_4, a_5⟩ := u
        dsimp only at hf hB
        rw [ht1] at hB
        have hP := hB
        generalize H1 = H at hP hS ⊢
        have hD := hDk S_4 a_5
        refine lv_if_eq (tgt := 44) hx hb dX6_began_35 (by decide) (fun c_6 => ?_) (fun c_6 => ?_)
        · have hf := hf.1 c_6
          exact k_44 x2 x3 S_4 a_5 H locs ls hf hP hD hS (lv_sub hl [0, 1, 2] rfl)
        · have hf := hf.2 c_6
          refine lv_iload_n hx hb dX6_began_38 rfl (lv_at hl 1 rfl) ?_
          refine lv_iconst (v := (1 : Int32)) hx hb dX6_began_39 (by decide) ?_
          refine lv_iload_n hx hb dX6_began_40 rfl (lv_at hl 2 rfl) ?_
          refine lv_ishl hx hb dX6_began_41 ?_
          refine lv_ior hx hb dX6_began_42 ?_
          refine lv_topi (fun x2_7 ex2_7 => ?_)
          have hf := hf x2_7 ex2_7
          refine lv_istore_n (lv' := [(2, .int x2_7), (0, .ref (Z 0 0)), (3, .int x3)]) hx hb dX6_began_43 rfl hl (by decide) rfl (fun ls hl => ?_)
          exact k_44 x2_7 x3 S_4 a_5 H locs ls hf hP hD hS (lv_sub hl [1, 0, 2] rfl)
    exact main_24 n0_24 x2 x3 S a H locs ls hI0_24 hP hD hS hl
  have start : ∀ (H : Heap) (locs : List Loc), va_P D classes (XW cI cZ cW Z Y (Z 1 0) (Z 2 0) S a) H → va_D A (XW cI cZ cW Z Y (Z 1 0) (Z 2 0) S a) → va_S A s.heap H locs → W p l e (headSpec (wsA yX6_began cX6_began 4 (some .int)) ({ frames := 6, cells := 0, slots := 0, locals := 137 })).room s m (#[.ref (Z 0 0), .int p0] : Array Value) below meth c H locs 0 0 (MQ below (va_Qi (fun (r : Int32) (u : (Nat → CS) × AS) => Q r u.1 u.2) (fun u t => va_P D classes (XW cI cZ cW Z Y (Z 1 0) (Z 2 0) u.1 u.2) t.heap) A) (#[.ref (Z 0 0), .int p0] : Array Value) s 0 0 A) (F0 m 0 ls []) := by
    intro H locs hP hD hS
    refine lv_iload_n hx hb dX6_began_0 rfl (lv_at hl 1 rfl) ?_
    refine lv_if_lt (tgt := 9) hx hb dX6_began_1 (by decide) (fun c_8 => ?_) (fun c_8 => ?_)
    · have hf := hf.1 c_8
      refine lv_bipush (v := (-2 : Int32)) hx hb dX6_began_9 (by decide) ?_
      exact W.iret (v := (-2 : Int32)) hx hb hr (fun t ht hW => ⟨⟨(-2 : Int32), (S, a), rfl, hf, P_heap ht hP⟩, hS.F ht⟩) hS.2.2 dX6_began_11
    · have hf := hf.2 c_8
      refine lv_iload_n hx hb dX6_began_4 rfl (lv_at hl 1 rfl) ?_
      refine lv_iconst (v := (4 : Int32)) hx hb dX6_began_5 (by decide) ?_
      refine lv_icmp_lt (tgt := 12) hx hb dX6_began_6 (by decide) (fun c_9 => ?_) (fun c_9 => ?_)
      · have hf := hf.1 c_9
        refine lv_aload_n hx hb dX6_began_12 rfl (lv_at hl 0 rfl) ?_
        refine va_get (D := D) (ci := 4) (v := .ref (Z 3 0)) (C := RX6) (T := TX6) (N := 12) hx hb ht inX6 hown hK hP 0 eX_0 rfl 4 (by decide) (ht _ tw_157) (fun _ h9 => h9) rfl dX6_began_13 ?_
        refine lv_iload_n hx hb dX6_began_16 rfl (lv_at hl 1 rfl) ?_
        have hPc : va_P D classes (wD cI cZ (Z 3) (S 3)) H := XP_3 hP
        have hDc : va_D A (wD cI cZ (Z 3) (S 3)) := XD_3 hD
        have hFc := va_freeX hDc hS hA
        refine va_callv (va_runV (As := [.int p0]) (rest := []) ⟨hx, hb, hml, hown, hts⟩ (c_X1_tellLoneHole l D cI cZ cW (Z 3) H.size p0 (S 3) _ hf) ⟨callB_of 1 hts (gA tw_553) rfl rfl rfl (ht _ tw_2) (ht _ tw_550) hd_X1_tellLoneHole ⟨Nat.le_of_ble_eq_true rfl, Nat.le_of_ble_eq_true rfl⟩, ht _ tw_551, ht _ tw_552⟩ ⟨PW_blind, va_recv hK hP (ci := 1) (q0 := 15) rfl eX_15, fun U hU hW => PW_mk hPc hDc hK hU hW⟩ rfl rfl hl.1 rfl (lv_room (Nat.le_of_ble_eq_true rfl)) dX6_began_17 ⟨Nat.zero_le _, Nat.zero_le _⟩) hS (fun q _ h => hFc q h) hFc (fun u t H1 locs ht1 hvm hf hB hz1 hk1 hS => ?_)
        obtain ⟨s_10, rfl⟩ : ∃ z, z = u := ⟨_, rfl⟩
        rw [ht1] at hB
        have hP := XJ_3 hP hD hk1 hB
        generalize H1 = H at hP hS ⊢
        obtain ⟨S_11, eS_11⟩ : ∃ y : Nat → CS, y = va_up S 3 s_10 := ⟨_, rfl⟩
        have hf := hf S_11 eS_11
        have hP : va_P D classes (XW cI cZ cW Z Y (Z 1 0) (Z 2 0) S_11 a) H := by rw [eS_11]; exact hP
        have hD := hDk S_11 a
        refine lv_iconst (v := (0 : Int32)) hx hb dX6_began_20 (by decide) ?_
        refine lv_istore_n (lv' := [(2, .int (0 : Int32)), (0, .ref (Z 0 0)), (1, .int p0)]) hx hb dX6_began_21 rfl hl (by decide) rfl (fun ls hl => ?_)
        refine lv_iconst (v := (0 : Int32)) hx hb dX6_began_22 (by decide) ?_
        refine lv_istore_n (lv' := [(3, .int (0 : Int32)), (2, .int (0 : Int32)), (0, .ref (Z 0 0)), (1, .int p0)]) hx hb dX6_began_23 rfl hl (by decide) rfl (fun ls hl => ?_)
        exact k_24 (0 : Int32) (0 : Int32) S_11 a H locs ls hf hP hD hS (lv_sub hl [2, 1, 0] rfl)
      · have hf := hf.2 c_9
        refine lv_bipush (v := (-2 : Int32)) hx hb dX6_began_9 (by decide) ?_
        exact W.iret (v := (-2 : Int32)) hx hb hr (fun t ht hW => ⟨⟨(-2 : Int32), (S, a), rfl, hf, P_heap ht hP⟩, hS.F ht⟩) hS.2.2 dX6_began_11
  exact start s.heap [] hP hD hS
def wp_X6_largestEstate (p0 : Int32) (Z : Nat → Nat → Nat) (Y : Nat → Nat → Nat) (S : Nat → CS) (a : AS) (Q : Int32 → Prop) : Prop := wp_X5_ownedBy p0 (S 4) (S 1) (fun r_1 => wp_X2_largestPatch r_1 (fun r_2 => Q r_2))
set_option maxHeartbeats 4000000 in
set_option maxRecDepth 100000 in
theorem c_X6_largestEstate (l : Launch) (D : va_G) (cI cZ cW : ClassId) (Z : Nat → Nat → Nat) (Y : Nat → Nat → Nat) (p0 : Int32) (S : Nat → CS) (a : AS) (Q : Int32 → Prop) (hf : wp_X6_largestEstate p0 Z Y S a Q) : Met l yX6_largestEstate (wsA yX6_largestEstate cX6_largestEstate 2 (some .int)) ({ frames := 3, cells := 0, slots := 0, locals := 71 }) (PR D cI cZ cW [.ref (Z 0 0), .int p0] (XW cI cZ cW Z Y (Z 1 0) (Z 2 0) S a)) (vp_Si Q) 0 0 (fun _ => False) := by
  refine Met.ofW (cc := cX6_largestEstate) (maxL := 2) (ret := (some .int)) (by decide) rfl ?_
  intro p e s m args below meth c s₁ B hml hv
  obtain ⟨rfl, hP, hK⟩ := hv
  have hx := B.exec
  have hb := B.bytes
  have hr := B.returns
  have hts := atoms_spec (ws := (wsA yX6_largestEstate cX6_largestEstate 2 (some .int))) B.pre
  have ht : ∀ w ∈ lw_g, w.before _ s = true := fun w h => hts w (List.mem_cons_of_mem _ h)
  have hown : s.vm.findClass RX6 = some m.cls := findClass_of_methodNamed B.named
  have hlocks := B.notSynchronized
  have hl := lv_entry ([.ref (Z 0 0), .int p0]) (n := 2) (Nat.le_of_ble_eq_true rfl)
  rw [lg_entry_eq]
  generalize (lg_sl ([.ref (Z 0 0), .int p0]) ++ List.replicate (2 - (lg_sl ([.ref (Z 0 0), .int p0])).length) Slot.unset).toArray = ls at hl ⊢
  have hl : lv_has ls 2 [(0, .ref (Z 0 0)), (1, .int p0)] := hl
  unfold wp_X6_largestEstate at hf
  refine lv_aload_n hx hb dX6_largestEstate_0 rfl (lv_at hl 0 rfl) ?_
  refine va_get (D := D) (ci := 4) (v := .ref (Z 4 0)) (C := RX6) (T := TX6) (N := 12) hx hb ht inX6 hown hK hP 0 eX_0 rfl 5 (by decide) (ht _ tw_158) (fun _ h9 => h9) rfl dX6_largestEstate_1 ?_
  refine lv_aload_n hx hb dX6_largestEstate_4 rfl (lv_at hl 0 rfl) ?_
  refine va_get (D := D) (ci := 4) (v := .ref (Z 1 0)) (C := RX6) (T := TX6) (N := 12) hx hb ht inX6 hown hK hP 0 eX_0 rfl 2 (by decide) (ht _ tw_155) (fun _ h9 => h9) rfl dX6_largestEstate_5 ?_
  refine lv_iload_n hx hb dX6_largestEstate_8 rfl (lv_at hl 1 rfl) ?_
  have hPc : va_P D classes (wW cI cZ (Z 4) (S 4) ++ wD cI cZ (Z 1) (S 1)) s.heap := XP_4_1 hP
  refine vp_callSi (W.runV (As := [.ref (Z 1 0), .int p0]) (rest := []) ⟨hx, hb, hml, hown, hts⟩ (c_X5_ownedBy l D cI cZ cW (Z 4) (Z 1) p0 (S 4) (S 1) _ hf) ⟨callB_of 2 hts (gA tw_288) rfl rfl rfl (ht _ tw_4) (ht _ tw_285) hd_X5_ownedBy ⟨Nat.le_of_ble_eq_true rfl, Nat.le_of_ble_eq_true rfl⟩, ht _ tw_286, ht _ tw_287⟩ ⟨PR_blind, va_recv hK hP (ci := 3) (q0 := 21) rfl eX_21, fun U hU hW => PR_mk hPc hK hU hW⟩ rfl rfl hl.1 rfl (lv_room (Nat.le_of_ble_eq_true rfl)) dX6_largestEstate_9 ⟨Nat.zero_le _, Nat.zero_le _⟩) (fun r_1 hf => ?_)
  have hPc : va_P D classes ([] : va_W) s.heap := fun k q h => by simp at h
  refine vp_callSi (W.runS (As := [.int r_1]) (rest := []) ⟨hx, hb, hml, hown, hts⟩ (c_X2_largestPatch l D cI cZ cW  r_1 _ hf) ⟨callB_of 1 hts (gA tw_580) rfl rfl rfl (ht _ tw_9) (ht _ tw_578) hd_X2_largestPatch ⟨Nat.le_of_ble_eq_true rfl, Nat.le_of_ble_eq_true rfl⟩, ht _ tw_579⟩ ⟨PR_blind, fun U hU hW => PR_mk hPc hK hU hW⟩ rfl rfl hl.1 rfl (lv_room (Nat.le_of_ble_eq_true rfl)) dX6_largestEstate_12 ⟨Nat.zero_le _, Nat.zero_le _⟩) (fun r_2 hf => ?_)
  exact W.iret (v := r_2) hx hb hr (fun t ht hW => ⟨r_2, rfl, hf, ht⟩) (fun q h => absurd h List.not_mem_nil) dX6_largestEstate_15
def B_X6_partOfFraction_52  (x0 : Int32) (x1 : Int32) (x2 : Int32) (t0 : Int32) (Q : Int32 → Prop) : Prop := ((x2 = 0 → ¬ t0 = 0 ∧ Q (x1 / t0)) ∧ (¬ x2 = 0 → ¬ t0 = 0 ∧ Q (x0 / t0)))
def B_X6_partOfFraction_42  (x0 : Int32) (x1 : Int32) (x2 : Int32) (x3 : Int32) (Q : Int32 → Prop) : Prop := (((1 : Int32) ≤ x3 → B_X6_partOfFraction_52  x0 x1 x2 x3 Q) ∧ (¬ (1 : Int32) ≤ x3 → B_X6_partOfFraction_52  x0 x1 x2 (1 : Int32) Q))
def LB_X6_partOfFraction_11 (G11 : (Int32 × Int32 × Int32 × Int32 × Int32 × Int32) → Prop)  (x0 : Int32) (x1 : Int32) (x2 : Int32) (x3 : Int32) (x4 : Int32) (x5 : Int32) (Q : Int32 → Prop) : Prop := (((64 : Int32) ≤ x5 → B_X6_partOfFraction_42  x0 x1 x2 x3 Q) ∧ (¬ (64 : Int32) ≤ x5 → ((x4 = 0 → B_X6_partOfFraction_42  x0 x1 x2 x3 Q) ∧ (¬ x4 = 0 → ¬ x4 = 0 ∧ ∀ x6_8 : Int32, x6_8 = (x3 - x3 / x4 * x4) → ∀ x5_9 : Int32, x5_9 = x5 + (1 : Int32) → G11 (x0, x1, x2, x4, x6_8, x5_9)))))
def B_X6_partOfFraction_11  (x0 : Int32) (x1 : Int32) (x2 : Int32) (x3 : Int32) (x4 : Int32) (x5 : Int32) (Q : Int32 → Prop) : Prop := LOOP (fun (G11 : (Int32 × Int32 × Int32 × Int32 × Int32 × Int32) → Prop) z => LB_X6_partOfFraction_11 G11  z.1 z.2.1 z.2.2.1 z.2.2.2.1 z.2.2.2.2.1 z.2.2.2.2.2 Q) (x0, x1, x2, x3, x4, x5)
def wp_X6_partOfFraction (p0 : Int32) (p1 : Int32) (p2 : Int32) (Q : Int32 → Prop) : Prop := ∀ x3_10 : Int32, x3_10 = (if 0 ≤ p0 then p0 else 0 - p0) → B_X6_partOfFraction_11  p0 p1 p2 x3_10 p1 (0 : Int32) Q
set_option maxHeartbeats 4000000 in
set_option maxRecDepth 100000 in
theorem c_X6_partOfFraction (l : Launch) (D : va_G) (cI cZ cW : ClassId)  (p0 : Int32) (p1 : Int32) (p2 : Int32) (Q : Int32 → Prop) (hf : wp_X6_partOfFraction p0 p1 p2 Q) : Met l yX6_partOfFraction (wsA yX6_partOfFraction cX6_partOfFraction 7 (some .int)) ({ frames := 1, cells := 0, slots := 0, locals := 21 }) (PR D cI cZ cW [.int p0, .int p1, .int p2] ([] : va_W)) (vp_Si Q) 0 0 (fun _ => False) := by
  refine Met.ofW (cc := cX6_partOfFraction) (maxL := 7) (ret := (some .int)) (by decide) rfl ?_
  intro p e s m args below meth c s₁ B hml hv
  obtain ⟨rfl, hP, hK⟩ := hv
  have hx := B.exec
  have hb := B.bytes
  have hr := B.returns
  have hts := atoms_spec (ws := (wsA yX6_partOfFraction cX6_partOfFraction 7 (some .int))) B.pre
  have ht : ∀ w ∈ lw_g, w.before _ s = true := fun w h => hts w (List.mem_cons_of_mem _ h)
  have hown : s.vm.findClass RX6 = some m.cls := findClass_of_methodNamed B.named
  have hlocks := B.notSynchronized
  have hl := lv_entry ([.int p0, .int p1, .int p2]) (n := 7) (Nat.le_of_ble_eq_true rfl)
  rw [lg_entry_eq]
  generalize (lg_sl ([.int p0, .int p1, .int p2]) ++ List.replicate (7 - (lg_sl ([.int p0, .int p1, .int p2])).length) Slot.unset).toArray = ls at hl ⊢
  have hl : lv_has ls 7 [(0, .int p0), (1, .int p1), (2, .int p2)] := hl
  unfold wp_X6_partOfFraction at hf
  have k_52 : ∀ (x0 : Int32) (x1 : Int32) (x2 : Int32) (t0 : Int32) (ls : Array Slot), B_X6_partOfFraction_52  x0 x1 x2 t0 Q → lv_has ls 7 [(0, .int x0), (1, .int x1), (2, .int x2)] → W p l e (headSpec (wsA yX6_partOfFraction cX6_partOfFraction 7 (some .int)) ({ frames := 1, cells := 0, slots := 0, locals := 21 })).room s m (#[.int p0, .int p1, .int p2] : Array Value) below meth c s.heap [] 0 0 (MQ below (vp_Si Q) (#[.int p0, .int p1, .int p2] : Array Value) s 0 0 (fun _ => False)) (F0 m 52 ls [.int t0]) := by
    intro x0 x1 x2 t0 ls hf hl
    unfold B_X6_partOfFraction_52 at hf
    refine lv_istore (lv' := [(5, .int t0), (0, .int x0), (1, .int x1), (2, .int x2)]) hx hb dX6_partOfFraction_52 hl (by decide) rfl (fun ls hl => ?_)
    refine lv_iload_n hx hb dX6_partOfFraction_54 rfl (lv_at hl 3 rfl) ?_
    refine lv_if_eq (tgt := 65) hx hb dX6_partOfFraction_55 (by decide) (fun c_1 => ?_) (fun c_1 => ?_)
    · have hf := hf.1 c_1
      refine lv_iload_n hx hb dX6_partOfFraction_65 rfl (lv_at hl 2 rfl) ?_
      refine lv_iload hx hb dX6_partOfFraction_66 (lv_at hl 0 rfl) ?_
      obtain ⟨hz_2, hf⟩ := hf
      refine lv_idiv hx hb dX6_partOfFraction_68 hz_2 ?_
      exact W.iret (v := (x1 / t0)) hx hb hr (fun t ht hW => ⟨(x1 / t0), rfl, hf, ht⟩) (fun q h => absurd h List.not_mem_nil) dX6_partOfFraction_69
    · have hf := hf.2 c_1
      refine lv_iload_n hx hb dX6_partOfFraction_58 rfl (lv_at hl 1 rfl) ?_
      refine lv_iload hx hb dX6_partOfFraction_59 (lv_at hl 0 rfl) ?_
      obtain ⟨hz_3, hf⟩ := hf
      refine lv_idiv hx hb dX6_partOfFraction_61 hz_3 ?_
      refine lv_goto (tgt := 69) hx hb dX6_partOfFraction_62 (by decide) ?_
      exact W.iret (v := (x0 / t0)) hx hb hr (fun t ht hW => ⟨(x0 / t0), rfl, hf, ht⟩) (fun q h => absurd h List.not_mem_nil) dX6_partOfFraction_69
  have k_42 : ∀ (x0 : Int32) (x1 : Int32) (x2 : Int32) (x3 : Int32) (ls : Array Slot), B_X6_partOfFraction_42  x0 x1 x2 x3 Q → lv_has ls 7 [(0, .int x0), (1, .int x1), (2, .int x2), (3, .int x3)] → W p l e (headSpec (wsA yX6_partOfFraction cX6_partOfFraction 7 (some .int)) ({ frames := 1, cells := 0, slots := 0, locals := 21 })).room s m (#[.int p0, .int p1, .int p2] : Array Value) below meth c s.heap [] 0 0 (MQ below (vp_Si Q) (#[.int p0, .int p1, .int p2] : Array Value) s 0 0 (fun _ => False)) (F0 m 42 ls []) := by
    intro x0 x1 x2 x3 ls hf hl
    unfold B_X6_partOfFraction_42 at hf
    refine lv_iload_n hx hb dX6_partOfFraction_42 rfl (lv_at hl 3 rfl) ?_
    refine lv_iconst (v := (1 : Int32)) hx hb dX6_partOfFraction_43 (by decide) ?_
    refine lv_icmp_ge (tgt := 51) hx hb dX6_partOfFraction_44 (by decide) (fun c_4 => ?_) (fun c_4 => ?_)
    · have hf := hf.1 c_4
      refine lv_iload_n hx hb dX6_partOfFraction_51 rfl (lv_at hl 3 rfl) ?_
      exact k_52 x0 x1 x2 x3 ls hf (lv_sub hl [0, 1, 2] rfl)
    · have hf := hf.2 c_4
      refine lv_iconst (v := (1 : Int32)) hx hb dX6_partOfFraction_47 (by decide) ?_
      refine lv_goto (tgt := 52) hx hb dX6_partOfFraction_48 (by decide) ?_
      exact k_52 x0 x1 x2 (1 : Int32) ls hf (lv_sub hl [0, 1, 2] rfl)
  have k_11 : ∀ (x0 : Int32) (x1 : Int32) (x2 : Int32) (x3 : Int32) (x4 : Int32) (x5 : Int32) (ls : Array Slot), B_X6_partOfFraction_11  x0 x1 x2 x3 x4 x5 Q → lv_has ls 7 [(0, .int x0), (1, .int x1), (2, .int x2), (3, .int x3), (4, .int x4), (5, .int x5)] → W p l e (headSpec (wsA yX6_partOfFraction cX6_partOfFraction 7 (some .int)) ({ frames := 1, cells := 0, slots := 0, locals := 21 })).room s m (#[.int p0, .int p1, .int p2] : Array Value) below meth c s.heap [] 0 0 (MQ below (vp_Si Q) (#[.int p0, .int p1, .int p2] : Array Value) s 0 0 (fun _ => False)) (F0 m 11 ls []) := by
    intro x0 x1 x2 x3 x4 x5 ls hf hl
    unfold B_X6_partOfFraction_11 at hf
    obtain ⟨I_11, ⟨n0_11, hI0_11⟩, hst_11⟩ := hf
    have main_11 : ∀ (n : Nat) (x0 : Int32) (x1 : Int32) (x2 : Int32) (x3 : Int32) (x4 : Int32) (x5 : Int32) (ls : Array Slot), I_11 n (x0, x1, x2, x3, x4, x5) → lv_has ls 7 [(0, .int x0), (1, .int x1), (2, .int x2), (3, .int x3), (4, .int x4), (5, .int x5)] → W p l e (headSpec (wsA yX6_partOfFraction cX6_partOfFraction 7 (some .int)) ({ frames := 1, cells := 0, slots := 0, locals := 21 })).room s m (#[.int p0, .int p1, .int p2] : Array Value) below meth c s.heap [] 0 0 (MQ below (vp_Si Q) (#[.int p0, .int p1, .int p2] : Array Value) s 0 0 (fun _ => False)) (F0 m 11 ls []) := by
      intro n
      induction n using Nat.strongRecOn with
      | _ n_11 ih_11 =>
      intro x0 x1 x2 x3 x4 x5 ls hI hl
      have hf : LB_X6_partOfFraction_11 (fun z => ∃ k, k < n_11 ∧ I_11 k z)  x0 x1 x2 x3 x4 x5 Q := hst_11 n_11 (x0, x1, x2, x3, x4, x5) hI
      have hG_11 : ∀ (x0 : Int32) (x1 : Int32) (x2 : Int32) (x3 : Int32) (x4 : Int32) (x5 : Int32) (ls : Array Slot), (∃ k, k < n_11 ∧ I_11 k (x0, x1, x2, x3, x4, x5)) → lv_has ls 7 [(0, .int x0), (1, .int x1), (2, .int x2), (3, .int x3), (4, .int x4), (5, .int x5)] → W p l e (headSpec (wsA yX6_partOfFraction cX6_partOfFraction 7 (some .int)) ({ frames := 1, cells := 0, slots := 0, locals := 21 })).room s m (#[.int p0, .int p1, .int p2] : Array Value) below meth c s.heap [] 0 0 (MQ below (vp_Si Q) (#[.int p0, .int p1, .int p2] : Array Value) s 0 0 (fun _ => False)) (F0 m 11 ls []) := by
        rintro x0 x1 x2 x3 x4 x5 ls ⟨k, hk, hI⟩ hl
        exact ih_11 k hk x0 x1 x2 x3 x4 x5 ls hI hl
      unfold LB_X6_partOfFraction_11 at hf
      refine lv_iload hx hb dX6_partOfFraction_11 (lv_at hl 5 rfl) ?_
      refine lv_bipush (v := (64 : Int32)) hx hb dX6_partOfFraction_13 (by decide) ?_
      refine lv_icmp_ge (tgt := 42) hx hb dX6_partOfFraction_15 (by decide) (fun c_5 => ?_) (fun c_5 => ?_)
      · have hf := hf.1 c_5
        exact k_42 x0 x1 x2 x3 ls hf (lv_sub hl [0, 1, 2, 3] rfl)
      · have hf := hf.2 c_5
        refine lv_iload hx hb dX6_partOfFraction_18 (lv_at hl 4 rfl) ?_
        refine lv_if_eq (tgt := 42) hx hb dX6_partOfFraction_20 (by decide) (fun c_6 => ?_) (fun c_6 => ?_)
        · have hf := hf.1 c_6
          exact k_42 x0 x1 x2 x3 ls hf (lv_sub hl [0, 1, 2, 3] rfl)
        · have hf := hf.2 c_6
          refine lv_iload_n hx hb dX6_partOfFraction_23 rfl (lv_at hl 3 rfl) ?_
          refine lv_iload hx hb dX6_partOfFraction_24 (lv_at hl 4 rfl) ?_
          obtain ⟨hz_7, hf⟩ := hf
          refine lv_irem hx hb dX6_partOfFraction_26 hz_7 ?_
          refine lv_topi (fun x6_8 ex6_8 => ?_)
          have hf := hf x6_8 ex6_8
          refine lv_istore (lv' := [(6, .int x6_8), (0, .int x0), (1, .int x1), (2, .int x2), (3, .int x3), (4, .int x4), (5, .int x5)]) hx hb dX6_partOfFraction_27 hl (by decide) rfl (fun ls hl => ?_)
          refine lv_iload hx hb dX6_partOfFraction_29 (lv_at hl 5 rfl) ?_
          refine lv_istore_n (lv' := [(3, .int x4), (6, .int x6_8), (0, .int x0), (1, .int x1), (2, .int x2), (4, .int x4), (5, .int x5)]) hx hb dX6_partOfFraction_31 rfl hl (by decide) rfl (fun ls hl => ?_)
          refine lv_iload hx hb dX6_partOfFraction_32 (lv_at hl 1 rfl) ?_
          refine lv_istore (lv' := [(4, .int x6_8), (3, .int x4), (6, .int x6_8), (0, .int x0), (1, .int x1), (2, .int x2), (5, .int x5)]) hx hb dX6_partOfFraction_34 hl (by decide) rfl (fun ls hl => ?_)
          obtain ⟨x5_9, ex5_9⟩ : ∃ y : Int32, y = x5 + (1 : Int32) := ⟨_, rfl⟩
          have hf := hf x5_9 ex5_9
          refine lv_iinc (v := x5_9) (lv' := [(5, .int x5_9), (4, .int x6_8), (3, .int x4), (6, .int x6_8), (0, .int x0), (1, .int x1), (2, .int x2)]) hx hb dX6_partOfFraction_36 hl (k := 6) rfl (by rw [ex5_9]; rfl) (by decide) rfl (fun ls hl => ?_)
          refine lv_goto (tgt := 11) hx hb dX6_partOfFraction_39 (by decide) ?_
          exact hG_11 x0 x1 x2 x4 x6_8 x5_9 ls hf (lv_sub hl [4, 5, 6, 2, 1, 0] rfl)
    exact main_11 n0_11 x0 x1 x2 x3 x4 x5 ls hI0_11 hl
  refine lv_iload_n hx hb dX6_partOfFraction_0 rfl (lv_at hl 0 rfl) ?_
  refine va_mabs hx hb (by rw [hml]; exact hl.1.symm) hown (ht _ tw_589) (ht _ tw_590) (ht _ tw_12) (ht _ tw_591) (Nat.le_of_ble_eq_true rfl) (Nat.le_of_ble_eq_true rfl) (Nat.zero_le _) (Nat.zero_le _) dX6_partOfFraction_1 ?_
  refine lv_topi (fun x3_10 ex3_10 => ?_)
  have hf := hf x3_10 ex3_10
  refine lv_istore_n (lv' := [(3, .int x3_10), (0, .int p0), (1, .int p1), (2, .int p2)]) hx hb dX6_partOfFraction_4 rfl hl (by decide) rfl (fun ls hl => ?_)
  refine lv_iload_n hx hb dX6_partOfFraction_5 rfl (lv_at hl 2 rfl) ?_
  refine lv_istore (lv' := [(4, .int p1), (3, .int x3_10), (0, .int p0), (1, .int p1), (2, .int p2)]) hx hb dX6_partOfFraction_6 hl (by decide) rfl (fun ls hl => ?_)
  refine lv_iconst (v := (0 : Int32)) hx hb dX6_partOfFraction_8 (by decide) ?_
  refine lv_istore (lv' := [(5, .int (0 : Int32)), (4, .int p1), (3, .int x3_10), (0, .int p0), (1, .int p1), (2, .int p2)]) hx hb dX6_partOfFraction_9 hl (by decide) rfl (fun ls hl => ?_)
  exact k_11 p0 p1 p2 x3_10 p1 (0 : Int32) ls hf (lv_sub hl [3, 4, 5, 2, 1, 0] rfl)
def B_X6_share_119 (G36 : (Int32 × Int32 × Int32 × Int32 × Int32) → Prop) (Z : Nat → Nat → Nat) (Y : Nat → Nat → Nat) (fF : FA) (S : Nat → CS) (a : AS) (x2 : Int32) (x3 : Int32) (x4 : Int32) (x5 : Int32) (x6 : Int32) (Q : Int32 → Prop) : Prop := ∀ x6_1 : Int32, x6_1 = x6 + (1 : Int32) → G36 (x2, x3, x4, x5, x6_1)
def LB_X6_share_36 (G36 : (Int32 × Int32 × Int32 × Int32 × Int32) → Prop) (Z : Nat → Nat → Nat) (Y : Nat → Nat → Nat) (fF : FA) (S : Nat → CS) (a : AS) (x2 : Int32) (x3 : Int32) (x4 : Int32) (x5 : Int32) (x6 : Int32) (Q : Int32 → Prop) : Prop := (((16 : Int32) ≤ x6 → wp_X3_get ((S 1).1 0) 5 fF (fun r_3 => wp_X6_partOfFraction x5 r_3 x2 (fun r_4 => Q r_4))) ∧ (¬ (16 : Int32) ≤ x6 → ((¬ (x6 &&& (x4 ^^^ (-1 : Int32))) = 0 → B_X6_share_119 G36 Z Y fF S a x2 x3 x4 x5 x6 Q) ∧ ((x6 &&& (x4 ^^^ (-1 : Int32))) = 0 → ((¬ (x6 &&& x3) = 0 → B_X6_share_119 G36 Z Y fF S a x2 x3 x4 x5 x6 Q) ∧ ((x6 &&& x3) = 0 → wp_J6_bitCount_0f7a4 x6 (fun r_7 => wp_X3_get r_7 5 fF (fun r_8 => wp_X3_get ((((S 1).1 0) - (1 : Int32)) - r_7) 5 fF (fun r_9 => ∀ x8_10 : Int32, x8_10 = (r_8 * r_9) → wp_X6_largestEstate (x6 ||| x3) Z Y S a (fun r_11 => wp_X6_largestEstate x6 Z Y S a (fun r_12 => ∀ x5_13 : Int32, x5_13 = (x5 + (x8_10 * (r_11 - r_12))) → B_X6_share_119 G36 Z Y fF S a x2 x3 x4 x5_13 x6 Q)))))))))))
def B_X6_share_36 (Z : Nat → Nat → Nat) (Y : Nat → Nat → Nat) (fF : FA) (S : Nat → CS) (a : AS) (x2 : Int32) (x3 : Int32) (x4 : Int32) (x5 : Int32) (x6 : Int32) (Q : Int32 → Prop) : Prop := LOOP (fun (G36 : (Int32 × Int32 × Int32 × Int32 × Int32) → Prop) z => LB_X6_share_36 G36 Z Y fF S a z.1 z.2.1 z.2.2.1 z.2.2.2.1 z.2.2.2.2 Q) (x2, x3, x4, x5, x6)
def wp_X6_share (p0 : Int32) (p1 : Int32) (Z : Nat → Nat → Nat) (Y : Nat → Nat → Nat) (fF : FA) (S : Nat → CS) (a : AS) (Q : Int32 → Prop) : Prop := wp_X1_hasOwner p0 (S 1) (fun r_14 => ((¬ r_14 = 0 → ∀ x3_16 : Int32, x3_16 = ((1 : Int32) <<< (p0 &&& 31)) → ∀ x4_17 : Int32, x4_17 = (((1 : Int32) <<< (((S 1).1 0) &&& 31)) - (1 : Int32)) → B_X6_share_36 Z Y fF S a p1 x3_16 x4_17 (0 : Int32) (0 : Int32) Q) ∧ (r_14 = 0 → Q (-1 : Int32))))
set_option maxHeartbeats 4000000 in
set_option maxRecDepth 100000 in
theorem c_X6_share (l : Launch) (D : va_G) (cI cZ cW : ClassId) (Z : Nat → Nat → Nat) (Y : Nat → Nat → Nat) (aF : Nat) (p0 : Int32) (p1 : Int32) (fF : FA) (S : Nat → CS) (a : AS) (Q : Int32 → Prop) (hf : wp_X6_share p0 p1 Z Y fF S a Q) : Met l yX6_share (wsA yX6_share cX6_share 9 (some .int)) ({ frames := 4, cells := 0, slots := 0, locals := 92 }) (PRF D cI cZ cW aF fF [.ref (Z 0 0), .int p0, .int p1] (XW cI cZ cW Z Y (Z 1 0) (Z 2 0) S a)) (vp_Si Q) 0 0 (fun _ => False) := by
  refine Met.ofW (cc := cX6_share) (maxL := 9) (ret := (some .int)) (by decide) rfl ?_
  intro p e s m args below meth c s₁ B hml hv
  obtain ⟨rfl, hP, hK, hPF, hZF⟩ := hv
  have hx := B.exec
  have hb := B.bytes
  have hr := B.returns
  have hts := atoms_spec (ws := (wsA yX6_share cX6_share 9 (some .int))) B.pre
  have ht : ∀ w ∈ lw_g, w.before _ s = true := fun w h => hts w (List.mem_cons_of_mem _ h)
  have hown : s.vm.findClass RX6 = some m.cls := findClass_of_methodNamed B.named
  have hlocks := B.notSynchronized
  have hl := lv_entry ([.ref (Z 0 0), .int p0, .int p1]) (n := 9) (Nat.le_of_ble_eq_true rfl)
  rw [lg_entry_eq]
  generalize (lg_sl ([.ref (Z 0 0), .int p0, .int p1]) ++ List.replicate (9 - (lg_sl ([.ref (Z 0 0), .int p0, .int p1])).length) Slot.unset).toArray = ls at hl ⊢
  have hl : lv_has ls 9 [(0, .ref (Z 0 0)), (1, .int p0), (2, .int p1)] := hl
  unfold wp_X6_share at hf
  have k_36 : ∀ (x2 : Int32) (x3 : Int32) (x4 : Int32) (x5 : Int32) (x6 : Int32) (ls : Array Slot), B_X6_share_36 Z Y fF S a x2 x3 x4 x5 x6 Q → lv_has ls 9 [(0, .ref (Z 0 0)), (2, .int x2), (3, .int x3), (4, .int x4), (5, .int x5), (6, .int x6)] → W p l e (headSpec (wsA yX6_share cX6_share 9 (some .int)) ({ frames := 4, cells := 0, slots := 0, locals := 92 })).room s m (#[.ref (Z 0 0), .int p0, .int p1] : Array Value) below meth c s.heap [] 0 0 (MQ below (vp_Si Q) (#[.ref (Z 0 0), .int p0, .int p1] : Array Value) s 0 0 (fun _ => False)) (F0 m 36 ls []) := by
    intro x2 x3 x4 x5 x6 ls hf hl
    unfold B_X6_share_36 at hf
    obtain ⟨I_36, ⟨n0_36, hI0_36⟩, hst_36⟩ := hf
    have main_36 : ∀ (n : Nat) (x2 : Int32) (x3 : Int32) (x4 : Int32) (x5 : Int32) (x6 : Int32) (ls : Array Slot), I_36 n (x2, x3, x4, x5, x6) → lv_has ls 9 [(0, .ref (Z 0 0)), (2, .int x2), (3, .int x3), (4, .int x4), (5, .int x5), (6, .int x6)] → W p l e (headSpec (wsA yX6_share cX6_share 9 (some .int)) ({ frames := 4, cells := 0, slots := 0, locals := 92 })).room s m (#[.ref (Z 0 0), .int p0, .int p1] : Array Value) below meth c s.heap [] 0 0 (MQ below (vp_Si Q) (#[.ref (Z 0 0), .int p0, .int p1] : Array Value) s 0 0 (fun _ => False)) (F0 m 36 ls []) := by
      intro n
      induction n using Nat.strongRecOn with
      | _ n_36 ih_36 =>
      intro x2 x3 x4 x5 x6 ls hI hl
      have hf : LB_X6_share_36 (fun z => ∃ k, k < n_36 ∧ I_36 k z) Z Y fF S a x2 x3 x4 x5 x6 Q := hst_36 n_36 (x2, x3, x4, x5, x6) hI
      have hG_36 : ∀ (x2 : Int32) (x3 : Int32) (x4 : Int32) (x5 : Int32) (x6 : Int32) (ls : Array Slot), (∃ k, k < n_36 ∧ I_36 k (x2, x3, x4, x5, x6)) → lv_has ls 9 [(0, .ref (Z 0 0)), (2, .int x2), (3, .int x3), (4, .int x4), (5, .int x5), (6, .int x6)] → W p l e (headSpec (wsA yX6_share cX6_share 9 (some .int)) ({ frames := 4, cells := 0, slots := 0, locals := 92 })).room s m (#[.ref (Z 0 0), .int p0, .int p1] : Array Value) below meth c s.heap [] 0 0 (MQ below (vp_Si Q) (#[.ref (Z 0 0), .int p0, .int p1] : Array Value) s 0 0 (fun _ => False)) (F0 m 36 ls []) := by
        rintro x2 x3 x4 x5 x6 ls ⟨k, hk, hI⟩ hl
        exact ih_36 k hk x2 x3 x4 x5 x6 ls hI hl
      unfold LB_X6_share_36 at hf
      have k_119 : ∀ (x2 : Int32) (x3 : Int32) (x4 : Int32) (x5 : Int32) (x6 : Int32) (ls : Array Slot), B_X6_share_119 (fun z => ∃ k, k < n_36 ∧ I_36 k z) Z Y fF S a x2 x3 x4 x5 x6 Q → lv_has ls 9 [(0, .ref (Z 0 0)), (2, .int x2), (3, .int x3), (4, .int x4), (5, .int x5), (6, .int x6)] → W p l e (headSpec (wsA yX6_share cX6_share 9 (some .int)) ({ frames := 4, cells := 0, slots := 0, locals := 92 })).room s m (#[.ref (Z 0 0), .int p0, .int p1] : Array Value) below meth c s.heap [] 0 0 (MQ below (vp_Si Q) (#[.ref (Z 0 0), .int p0, .int p1] : Array Value) s 0 0 (fun _ => False)) (F0 m 119 ls []) := by
        intro x2 x3 x4 x5 x6 ls hf hl
        unfold B_X6_share_119 at hf
        obtain ⟨x6_1, ex6_1⟩ : ∃ y : Int32, y = x6 + (1 : Int32) := ⟨_, rfl⟩
        have hf := hf x6_1 ex6_1
        refine lv_iinc (v := x6_1) (lv' := [(6, .int x6_1), (0, .ref (Z 0 0)), (2, .int x2), (3, .int x3), (4, .int x4), (5, .int x5)]) hx hb dX6_share_119 hl (k := 5) rfl (by rw [ex6_1]; rfl) (by decide) rfl (fun ls hl => ?_)
        refine lv_goto (tgt := 36) hx hb dX6_share_122 (by decide) ?_
        exact hG_36 x2 x3 x4 x5 x6_1 ls hf (lv_sub hl [1, 2, 3, 4, 5, 0] rfl)
      refine lv_iload hx hb dX6_share_36 (lv_at hl 5 rfl) ?_
      refine lv_bipush (v := (16 : Int32)) hx hb dX6_share_38 (by decide) ?_
      refine lv_icmp_ge (tgt := 125) hx hb dX6_share_40 (by decide) (fun c_2 => ?_) (fun c_2 => ?_)
      · have hf := hf.1 c_2
        refine lv_iload hx hb dX6_share_125 (lv_at hl 4 rfl) ?_
        refine va_gets hx hb hZF va_S.rf hown (ht _ tw_572) (fun _ h9 => h9) dX6_share_127 ?_
        refine lv_aload_n hx hb dX6_share_130 rfl (lv_at hl 0 rfl) ?_
        refine va_get (D := D) (ci := 4) (v := .ref (Z 1 0)) (C := RX6) (T := TX6) (N := 12) hx hb ht inX6 hown hK hP 0 eX_0 rfl 2 (by decide) (ht _ tw_155) (fun _ h9 => h9) rfl dX6_share_131 ?_
        refine va_get (D := D) (ci := 1) (v := .int ((S 1).1 0)) (C := RX1) (T := TX1) (N := 14) hx hb ht inX1 hown hK hP 3 eX_3 rfl 0 (by decide) (ht _ tw_31) (fun _ h9 => h9) rfl dX6_share_134 ?_
        refine vp_callSi (W.runS (As := [.ref aF, .int ((S 1).1 0)]) (rest := [.int x5]) ⟨hx, hb, hml, hown, hts⟩ (c_X3_getT l aF ((S 1).1 0) fF _ hf) ⟨callB_of 2 hts (gA tw_235) rfl rfl rfl (ht _ tw_8) (ht _ tw_276) hd_X3_get ⟨Nat.le_of_ble_eq_true rfl, Nat.le_of_ble_eq_true rfl⟩, ht _ tw_234⟩ ⟨PT_blind, fun U hU hW => PT_mk hPF hU hW⟩ rfl rfl hl.1 rfl (lv_room (Nat.le_of_ble_eq_true rfl)) dX6_share_137 ⟨Nat.zero_le _, Nat.zero_le _⟩) (fun r_3 hf => ?_)
        refine lv_iload_n hx hb dX6_share_140 rfl (lv_at hl 1 rfl) ?_
        have hPc : va_P D classes ([] : va_W) s.heap := fun k q h => by simp at h
        refine vp_callSi (W.runS (As := [.int x5, .int r_3, .int x2]) (rest := []) ⟨hx, hb, hml, hown, hts⟩ (c_X6_partOfFraction l D cI cZ cW  x5 r_3 x2 _ hf) ⟨callB_of 3 hts (gA tw_588) rfl rfl rfl (ht _ tw_1) (ht _ tw_586) hd_X6_partOfFraction ⟨Nat.le_of_ble_eq_true rfl, Nat.le_of_ble_eq_true rfl⟩, ht _ tw_587⟩ ⟨PR_blind, fun U hU hW => PR_mk hPc hK hU hW⟩ rfl rfl hl.1 rfl (lv_room (Nat.le_of_ble_eq_true rfl)) dX6_share_141 ⟨Nat.zero_le _, Nat.zero_le _⟩) (fun r_4 hf => ?_)
        exact W.iret (v := r_4) hx hb hr (fun t ht hW => ⟨r_4, rfl, hf, ht⟩) (fun q h => absurd h List.not_mem_nil) dX6_share_144
      · have hf := hf.2 c_2
        refine lv_iload hx hb dX6_share_43 (lv_at hl 5 rfl) ?_
        refine lv_iload hx hb dX6_share_45 (lv_at hl 3 rfl) ?_
        refine lv_iconst (v := (-1 : Int32)) hx hb dX6_share_47 (by decide) ?_
        refine lv_ixor hx hb dX6_share_48 ?_
        refine lv_iand hx hb dX6_share_49 ?_
        refine lv_if_ne (tgt := 119) hx hb dX6_share_50 (by decide) (fun c_5 => ?_) (fun c_5 => ?_)
        · have hf := hf.1 c_5
          exact k_119 x2 x3 x4 x5 x6 ls hf (lv_sub hl [0, 1, 2, 3, 4, 5] rfl)
        · have hf := hf.2 c_5
          refine lv_iload hx hb dX6_share_53 (lv_at hl 5 rfl) ?_
          refine lv_iload_n hx hb dX6_share_55 rfl (lv_at hl 2 rfl) ?_
          refine lv_iand hx hb dX6_share_56 ?_
          refine lv_if_ne (tgt := 119) hx hb dX6_share_57 (by decide) (fun c_6 => ?_) (fun c_6 => ?_)
          · have hf := hf.1 c_6
            exact k_119 x2 x3 x4 x5 x6 ls hf (lv_sub hl [0, 1, 2, 3, 4, 5] rfl)
          · have hf := hf.2 c_6
            refine lv_iload hx hb dX6_share_60 (lv_at hl 5 rfl) ?_
            have hPc : va_P D classes ([] : va_W) s.heap := fun k q h => by simp at h
            refine vp_callSi (W.runS (As := [.int x6]) (rest := []) ⟨hx, hb, hml, hown, hts⟩ (c_J6_bitCount_0f7a4 l D cI cZ cW  x6 _ hf) ⟨callB_of 1 hts (gA tw_305) rfl rfl rfl (ht _ tw_10) (ht _ tw_303) hd_J6_bitCount_0f7a4 ⟨Nat.le_of_ble_eq_true rfl, Nat.le_of_ble_eq_true rfl⟩, ht _ tw_304⟩ ⟨PR_blind, fun U hU hW => PR_mk hPc hK hU hW⟩ rfl rfl hl.1 rfl (lv_room (Nat.le_of_ble_eq_true rfl)) dX6_share_62 ⟨Nat.zero_le _, Nat.zero_le _⟩) (fun r_7 hf => ?_)
            refine lv_istore (lv' := [(7, .int r_7), (0, .ref (Z 0 0)), (2, .int x2), (3, .int x3), (4, .int x4), (5, .int x5), (6, .int x6)]) hx hb dX6_share_65 hl (by decide) rfl (fun ls hl => ?_)
            refine va_gets hx hb hZF va_S.rf hown (ht _ tw_572) (fun _ h9 => h9) dX6_share_67 ?_
            refine lv_iload hx hb dX6_share_70 (lv_at hl 0 rfl) ?_
            refine vp_callSi (W.runS (As := [.ref aF, .int r_7]) (rest := []) ⟨hx, hb, hml, hown, hts⟩ (c_X3_getT l aF r_7 fF _ hf) ⟨callB_of 2 hts (gA tw_235) rfl rfl rfl (ht _ tw_8) (ht _ tw_276) hd_X3_get ⟨Nat.le_of_ble_eq_true rfl, Nat.le_of_ble_eq_true rfl⟩, ht _ tw_234⟩ ⟨PT_blind, fun U hU hW => PT_mk hPF hU hW⟩ rfl rfl hl.1 rfl (lv_room (Nat.le_of_ble_eq_true rfl)) dX6_share_72 ⟨Nat.zero_le _, Nat.zero_le _⟩) (fun r_8 hf => ?_)
            refine va_gets hx hb hZF va_S.rf hown (ht _ tw_572) (fun _ h9 => h9) dX6_share_75 ?_
            refine lv_aload_n hx hb dX6_share_78 rfl (lv_at hl 1 rfl) ?_
            refine va_get (D := D) (ci := 4) (v := .ref (Z 1 0)) (C := RX6) (T := TX6) (N := 12) hx hb ht inX6 hown hK hP 0 eX_0 rfl 2 (by decide) (ht _ tw_155) (fun _ h9 => h9) rfl dX6_share_79 ?_
            refine va_get (D := D) (ci := 1) (v := .int ((S 1).1 0)) (C := RX1) (T := TX1) (N := 14) hx hb ht inX1 hown hK hP 3 eX_3 rfl 0 (by decide) (ht _ tw_31) (fun _ h9 => h9) rfl dX6_share_82 ?_
            refine lv_iconst (v := (1 : Int32)) hx hb dX6_share_85 (by decide) ?_
            refine lv_isub hx hb dX6_share_86 ?_
            refine lv_iload hx hb dX6_share_87 (lv_at hl 0 rfl) ?_
            refine lv_isub hx hb dX6_share_89 ?_
            refine vp_callSi (W.runS (As := [.ref aF, .int ((((S 1).1 0) - (1 : Int32)) - r_7)]) (rest := [.int r_8]) ⟨hx, hb, hml, hown, hts⟩ (c_X3_getT l aF ((((S 1).1 0) - (1 : Int32)) - r_7) fF _ hf) ⟨callB_of 2 hts (gA tw_235) rfl rfl rfl (ht _ tw_8) (ht _ tw_276) hd_X3_get ⟨Nat.le_of_ble_eq_true rfl, Nat.le_of_ble_eq_true rfl⟩, ht _ tw_234⟩ ⟨PT_blind, fun U hU hW => PT_mk hPF hU hW⟩ rfl rfl hl.1 rfl (lv_room (Nat.le_of_ble_eq_true rfl)) dX6_share_90 ⟨Nat.zero_le _, Nat.zero_le _⟩) (fun r_9 hf => ?_)
            refine lv_imul hx hb dX6_share_93 ?_
            refine lv_topi (fun x8_10 ex8_10 => ?_)
            have hf := hf x8_10 ex8_10
            refine lv_istore (lv' := [(8, .int x8_10), (7, .int r_7), (0, .ref (Z 0 0)), (2, .int x2), (3, .int x3), (4, .int x4), (5, .int x5), (6, .int x6)]) hx hb dX6_share_94 hl (by decide) rfl (fun ls hl => ?_)
            refine lv_iload hx hb dX6_share_96 (lv_at hl 6 rfl) ?_
            refine lv_iload hx hb dX6_share_98 (lv_at hl 0 rfl) ?_
            refine lv_aload_n hx hb dX6_share_100 rfl (lv_at hl 2 rfl) ?_
            refine lv_iload hx hb dX6_share_101 (lv_at hl 7 rfl) ?_
            refine lv_iload_n hx hb dX6_share_103 rfl (lv_at hl 4 rfl) ?_
            refine lv_ior hx hb dX6_share_104 ?_
            have hPc : va_P D classes (XW cI cZ cW Z Y (Z 1 0) (Z 2 0) S a) s.heap := hP
            refine vp_callSi (W.runV (As := [.int (x6 ||| x3)]) (rest := [.int x8_10, .int x5]) ⟨hx, hb, hml, hown, hts⟩ (c_X6_largestEstate l D cI cZ cW Z Y (x6 ||| x3) S a _ hf) ⟨callB_of 1 hts (gA tw_577) rfl rfl rfl (ht _ tw_1) (ht _ tw_574) hd_X6_largestEstate ⟨Nat.le_of_ble_eq_true rfl, Nat.le_of_ble_eq_true rfl⟩, ht _ tw_576, ht _ twp_16⟩ ⟨PR_blind, va_recv hK hP (ci := 4) (q0 := 0) rfl eX_0, fun U hU hW => PR_mk hPc hK hU hW⟩ rfl rfl hl.1 rfl (lv_room (Nat.le_of_ble_eq_true rfl)) dX6_share_105 ⟨Nat.zero_le _, Nat.zero_le _⟩) (fun r_11 hf => ?_)
            refine lv_aload_n hx hb dX6_share_108 rfl (lv_at hl 2 rfl) ?_
            refine lv_iload hx hb dX6_share_109 (lv_at hl 7 rfl) ?_
            have hPc : va_P D classes (XW cI cZ cW Z Y (Z 1 0) (Z 2 0) S a) s.heap := hP
            refine vp_callSi (W.runV (As := [.int x6]) (rest := [.int r_11, .int x8_10, .int x5]) ⟨hx, hb, hml, hown, hts⟩ (c_X6_largestEstate l D cI cZ cW Z Y x6 S a _ hf) ⟨callB_of 1 hts (gA tw_577) rfl rfl rfl (ht _ tw_1) (ht _ tw_574) hd_X6_largestEstate ⟨Nat.le_of_ble_eq_true rfl, Nat.le_of_ble_eq_true rfl⟩, ht _ tw_576, ht _ twp_16⟩ ⟨PR_blind, va_recv hK hP (ci := 4) (q0 := 0) rfl eX_0, fun U hU hW => PR_mk hPc hK hU hW⟩ rfl rfl hl.1 rfl (lv_room (Nat.le_of_ble_eq_true rfl)) dX6_share_111 ⟨Nat.zero_le _, Nat.zero_le _⟩) (fun r_12 hf => ?_)
            refine lv_isub hx hb dX6_share_114 ?_
            refine lv_imul hx hb dX6_share_115 ?_
            refine lv_iadd hx hb dX6_share_116 ?_
            refine lv_topi (fun x5_13 ex5_13 => ?_)
            have hf := hf x5_13 ex5_13
            refine lv_istore (lv' := [(5, .int x5_13), (8, .int x8_10), (7, .int r_7), (0, .ref (Z 0 0)), (2, .int x2), (3, .int x3), (4, .int x4), (6, .int x6)]) hx hb dX6_share_117 hl (by decide) rfl (fun ls hl => ?_)
            exact k_119 x2 x3 x4 x5_13 x6 ls hf (lv_sub hl [3, 4, 5, 6, 0, 7] rfl)
    exact main_36 n0_36 x2 x3 x4 x5 x6 ls hI0_36 hl
  refine lv_aload_n hx hb dX6_share_0 rfl (lv_at hl 0 rfl) ?_
  refine va_get (D := D) (ci := 4) (v := .ref (Z 1 0)) (C := RX6) (T := TX6) (N := 12) hx hb ht inX6 hown hK hP 0 eX_0 rfl 2 (by decide) (ht _ tw_155) (fun _ h9 => h9) rfl dX6_share_1 ?_
  refine lv_iload_n hx hb dX6_share_4 rfl (lv_at hl 1 rfl) ?_
  have hPc : va_P D classes (wD cI cZ (Z 1) (S 1)) s.heap := XP_1 hP
  refine vp_callSi (W.runV (As := [.int p0]) (rest := []) ⟨hx, hb, hml, hown, hts⟩ (c_X1_hasOwner l D cI cZ cW (Z 1) p0 (S 1) _ hf) ⟨callB_of 1 hts (gA tw_232) rfl rfl rfl (ht _ tw_2) (ht _ tw_275) hd_X1_hasOwner ⟨Nat.le_of_ble_eq_true rfl, Nat.le_of_ble_eq_true rfl⟩, ht _ tw_230, ht _ tw_231⟩ ⟨PR_blind, va_recv hK hP (ci := 1) (q0 := 3) rfl eX_3, fun U hU hW => PR_mk hPc hK hU hW⟩ rfl rfl hl.1 rfl (lv_room (Nat.le_of_ble_eq_true rfl)) dX6_share_5 ⟨Nat.zero_le _, Nat.zero_le _⟩) (fun r_14 hf => ?_)
  refine lv_if_ne (tgt := 13) hx hb dX6_share_8 (by decide) (fun c_15 => ?_) (fun c_15 => ?_)
  · have hf := hf.1 c_15
    refine lv_iconst (v := (1 : Int32)) hx hb dX6_share_13 (by decide) ?_
    refine lv_iload_n hx hb dX6_share_14 rfl (lv_at hl 1 rfl) ?_
    refine lv_ishl hx hb dX6_share_15 ?_
    refine lv_topi (fun x3_16 ex3_16 => ?_)
    have hf := hf x3_16 ex3_16
    refine lv_istore_n (lv' := [(3, .int x3_16), (0, .ref (Z 0 0)), (1, .int p0), (2, .int p1)]) hx hb dX6_share_16 rfl hl (by decide) rfl (fun ls hl => ?_)
    refine lv_iconst (v := (1 : Int32)) hx hb dX6_share_17 (by decide) ?_
    refine lv_aload_n hx hb dX6_share_18 rfl (lv_at hl 1 rfl) ?_
    refine va_get (D := D) (ci := 4) (v := .ref (Z 1 0)) (C := RX6) (T := TX6) (N := 12) hx hb ht inX6 hown hK hP 0 eX_0 rfl 2 (by decide) (ht _ tw_155) (fun _ h9 => h9) rfl dX6_share_19 ?_
    refine va_get (D := D) (ci := 1) (v := .int ((S 1).1 0)) (C := RX1) (T := TX1) (N := 14) hx hb ht inX1 hown hK hP 3 eX_3 rfl 0 (by decide) (ht _ tw_31) (fun _ h9 => h9) rfl dX6_share_22 ?_
    refine lv_ishl hx hb dX6_share_25 ?_
    refine lv_iconst (v := (1 : Int32)) hx hb dX6_share_26 (by decide) ?_
    refine lv_isub hx hb dX6_share_27 ?_
    refine lv_topi (fun x4_17 ex4_17 => ?_)
    have hf := hf x4_17 ex4_17
    refine lv_istore (lv' := [(4, .int x4_17), (3, .int x3_16), (0, .ref (Z 0 0)), (1, .int p0), (2, .int p1)]) hx hb dX6_share_28 hl (by decide) rfl (fun ls hl => ?_)
    refine lv_iconst (v := (0 : Int32)) hx hb dX6_share_30 (by decide) ?_
    refine lv_istore (lv' := [(5, .int (0 : Int32)), (4, .int x4_17), (3, .int x3_16), (0, .ref (Z 0 0)), (1, .int p0), (2, .int p1)]) hx hb dX6_share_31 hl (by decide) rfl (fun ls hl => ?_)
    refine lv_iconst (v := (0 : Int32)) hx hb dX6_share_33 (by decide) ?_
    refine lv_istore (lv' := [(6, .int (0 : Int32)), (5, .int (0 : Int32)), (4, .int x4_17), (3, .int x3_16), (0, .ref (Z 0 0)), (1, .int p0), (2, .int p1)]) hx hb dX6_share_34 hl (by decide) rfl (fun ls hl => ?_)
    exact k_36 p1 x3_16 x4_17 (0 : Int32) (0 : Int32) ls hf (lv_sub hl [4, 6, 3, 2, 1, 0] rfl)
  · have hf := hf.2 c_15
    refine lv_iconst (v := (-1 : Int32)) hx hb dX6_share_11 (by decide) ?_
    exact W.iret (v := (-1 : Int32)) hx hb hr (fun t ht hW => ⟨(-1 : Int32), rfl, hf, ht⟩) (fun q h => absurd h List.not_mem_nil) dX6_share_12
def wp_X6_hasByAsking (p0 : Int32) (p1 : Int32) (p2 : Int32) (Q : Int32 → Prop) : Prop := ((¬ p0 = p1 → ((p1 ≤ p0 → Q (0 : Int32)) ∧ (¬ p1 ≤ p0 → Q p2))) ∧ (p0 = p1 → Q p0))
set_option maxHeartbeats 4000000 in
set_option maxRecDepth 100000 in
theorem c_X6_hasByAsking (l : Launch) (D : va_G) (cI cZ cW : ClassId)  (p0 : Int32) (p1 : Int32) (p2 : Int32) (Q : Int32 → Prop) (hf : wp_X6_hasByAsking p0 p1 p2 Q) : Met l yX6_hasByAsking (wsA yX6_hasByAsking cX6_hasByAsking 3 (some .int)) ({ frames := 0, cells := 0, slots := 0, locals := 0 }) (PR D cI cZ cW [.int p0, .int p1, .int p2] ([] : va_W)) (vp_Si Q) 0 0 (fun _ => False) := by
  refine Met.ofW (cc := cX6_hasByAsking) (maxL := 3) (ret := (some .int)) (by decide) rfl ?_
  intro p e s m args below meth c s₁ B hml hv
  obtain ⟨rfl, hP, hK⟩ := hv
  have hx := B.exec
  have hb := B.bytes
  have hr := B.returns
  have hts := atoms_spec (ws := (wsA yX6_hasByAsking cX6_hasByAsking 3 (some .int))) B.pre
  have ht : ∀ w ∈ lw_g, w.before _ s = true := fun w h => hts w (List.mem_cons_of_mem _ h)
  have hown : s.vm.findClass RX6 = some m.cls := findClass_of_methodNamed B.named
  have hlocks := B.notSynchronized
  have hl := lv_entry ([.int p0, .int p1, .int p2]) (n := 3) (Nat.le_of_ble_eq_true rfl)
  rw [lg_entry_eq]
  generalize (lg_sl ([.int p0, .int p1, .int p2]) ++ List.replicate (3 - (lg_sl ([.int p0, .int p1, .int p2])).length) Slot.unset).toArray = ls at hl ⊢
  have hl : lv_has ls 3 [(0, .int p0), (1, .int p1), (2, .int p2)] := hl
  unfold wp_X6_hasByAsking at hf
  refine lv_iload_n hx hb dX6_hasByAsking_0 rfl (lv_at hl 0 rfl) ?_
  refine lv_iload_n hx hb dX6_hasByAsking_1 rfl (lv_at hl 1 rfl) ?_
  refine lv_icmp_ne (tgt := 7) hx hb dX6_hasByAsking_2 (by decide) (fun c_1 => ?_) (fun c_1 => ?_)
  · have hf := hf.1 c_1
    refine lv_iload_n hx hb dX6_hasByAsking_7 rfl (lv_at hl 0 rfl) ?_
    refine lv_iload_n hx hb dX6_hasByAsking_8 rfl (lv_at hl 1 rfl) ?_
    refine lv_icmp_ge (tgt := 16) hx hb dX6_hasByAsking_9 (by decide) (fun c_2 => ?_) (fun c_2 => ?_)
    · have hf := hf.1 c_2
      refine lv_iconst (v := (0 : Int32)) hx hb dX6_hasByAsking_16 (by decide) ?_
      exact W.iret (v := (0 : Int32)) hx hb hr (fun t ht hW => ⟨(0 : Int32), rfl, hf, ht⟩) (fun q h => absurd h List.not_mem_nil) dX6_hasByAsking_17
    · have hf := hf.2 c_2
      refine lv_iload_n hx hb dX6_hasByAsking_12 rfl (lv_at hl 2 rfl) ?_
      refine lv_goto (tgt := 17) hx hb dX6_hasByAsking_13 (by decide) ?_
      exact W.iret (v := p2) hx hb hr (fun t ht hW => ⟨p2, rfl, hf, ht⟩) (fun q h => absurd h List.not_mem_nil) dX6_hasByAsking_17
  · have hf := hf.2 c_1
    refine lv_iload_n hx hb dX6_hasByAsking_5 rfl (lv_at hl 0 rfl) ?_
    exact W.iret (v := p0) hx hb hr (fun t ht hW => ⟨p0, rfl, hf, ht⟩) (fun q h => absurd h List.not_mem_nil) dX6_hasByAsking_6
def wp_X6_isContent (p0 : Int32) (p1 : Int32) (p2 : Int32) (Q : Int32 → Prop) : Prop := wp_X6_hasByAsking ((3 : Int32) - p0) p1 p2 (fun r_1 => wp_X6_hasByAsking p0 p1 p2 (fun r_2 => ((r_2 < r_1 → Q (0 : Int32)) ∧ (¬ r_2 < r_1 → Q (1 : Int32)))))
set_option maxHeartbeats 4000000 in
set_option maxRecDepth 100000 in
theorem c_X6_isContent (l : Launch) (D : va_G) (cI cZ cW : ClassId)  (p0 : Int32) (p1 : Int32) (p2 : Int32) (Q : Int32 → Prop) (hf : wp_X6_isContent p0 p1 p2 Q) : Met l yX6_isContent (wsA yX6_isContent cX6_isContent 3 (some .boolean)) ({ frames := 1, cells := 0, slots := 0, locals := 22 }) (PR D cI cZ cW [.int p0, .int p1, .int p2] ([] : va_W)) (vp_Si Q) 0 0 (fun _ => False) := by
  refine Met.ofW (cc := cX6_isContent) (maxL := 3) (ret := (some .boolean)) (by decide) rfl ?_
  intro p e s m args below meth c s₁ B hml hv
  obtain ⟨rfl, hP, hK⟩ := hv
  have hx := B.exec
  have hb := B.bytes
  have hr := B.returns
  have hts := atoms_spec (ws := (wsA yX6_isContent cX6_isContent 3 (some .boolean))) B.pre
  have ht : ∀ w ∈ lw_g, w.before _ s = true := fun w h => hts w (List.mem_cons_of_mem _ h)
  have hown : s.vm.findClass RX6 = some m.cls := findClass_of_methodNamed B.named
  have hlocks := B.notSynchronized
  have hl := lv_entry ([.int p0, .int p1, .int p2]) (n := 3) (Nat.le_of_ble_eq_true rfl)
  rw [lg_entry_eq]
  generalize (lg_sl ([.int p0, .int p1, .int p2]) ++ List.replicate (3 - (lg_sl ([.int p0, .int p1, .int p2])).length) Slot.unset).toArray = ls at hl ⊢
  have hl : lv_has ls 3 [(0, .int p0), (1, .int p1), (2, .int p2)] := hl
  unfold wp_X6_isContent at hf
  refine lv_iconst (v := (3 : Int32)) hx hb dX6_isContent_0 (by decide) ?_
  refine lv_iload_n hx hb dX6_isContent_1 rfl (lv_at hl 0 rfl) ?_
  refine lv_isub hx hb dX6_isContent_2 ?_
  refine lv_iload_n hx hb dX6_isContent_3 rfl (lv_at hl 1 rfl) ?_
  refine lv_iload_n hx hb dX6_isContent_4 rfl (lv_at hl 2 rfl) ?_
  have hPc : va_P D classes ([] : va_W) s.heap := hP
  refine vp_callSi (W.runS (As := [.int ((3 : Int32) - p0), .int p1, .int p2]) (rest := []) ⟨hx, hb, hml, hown, hts⟩ (c_X6_hasByAsking l D cI cZ cW  ((3 : Int32) - p0) p1 p2 _ hf) ⟨callB_of 3 hts (gA tw_610) rfl rfl rfl (ht _ tw_1) (ht _ tw_608) hd_X6_hasByAsking ⟨Nat.le_of_ble_eq_true rfl, Nat.le_of_ble_eq_true rfl⟩, ht _ tw_609⟩ ⟨PR_blind, fun U hU hW => PR_mk hPc hK hU hW⟩ rfl rfl hl.1 rfl (lv_room (Nat.le_of_ble_eq_true rfl)) dX6_isContent_5 ⟨Nat.zero_le _, Nat.zero_le _⟩) (fun r_1 hf => ?_)
  refine lv_iload_n hx hb dX6_isContent_8 rfl (lv_at hl 0 rfl) ?_
  refine lv_iload_n hx hb dX6_isContent_9 rfl (lv_at hl 1 rfl) ?_
  refine lv_iload_n hx hb dX6_isContent_10 rfl (lv_at hl 2 rfl) ?_
  have hPc : va_P D classes ([] : va_W) s.heap := hP
  refine vp_callSi (W.runS (As := [.int p0, .int p1, .int p2]) (rest := [.int r_1]) ⟨hx, hb, hml, hown, hts⟩ (c_X6_hasByAsking l D cI cZ cW  p0 p1 p2 _ hf) ⟨callB_of 3 hts (gA tw_610) rfl rfl rfl (ht _ tw_1) (ht _ tw_608) hd_X6_hasByAsking ⟨Nat.le_of_ble_eq_true rfl, Nat.le_of_ble_eq_true rfl⟩, ht _ tw_609⟩ ⟨PR_blind, fun U hU hW => PR_mk hPc hK hU hW⟩ rfl rfl hl.1 rfl (lv_room (Nat.le_of_ble_eq_true rfl)) dX6_isContent_11 ⟨Nat.zero_le _, Nat.zero_le _⟩) (fun r_2 hf => ?_)
  refine lv_icmp_gt (tgt := 21) hx hb dX6_isContent_14 (by decide) (fun c_3 => ?_) (fun c_3 => ?_)
  · have hf := hf.1 c_3
    refine lv_iconst (v := (0 : Int32)) hx hb dX6_isContent_21 (by decide) ?_
    exact W.zret (v := (0 : Int32)) hx hb hr rfl (fun t ht hW => ⟨(0 : Int32), rfl, hf, ht⟩) (fun q h => absurd h List.not_mem_nil) dX6_isContent_22
  · have hf := hf.2 c_3
    refine lv_iconst (v := (1 : Int32)) hx hb dX6_isContent_17 (by decide) ?_
    refine lv_goto (tgt := 22) hx hb dX6_isContent_18 (by decide) ?_
    exact W.zret (v := (1 : Int32)) hx hb hr rfl (fun t ht hW => ⟨(1 : Int32), rfl, hf, ht⟩) (fun q h => absurd h List.not_mem_nil) dX6_isContent_22
