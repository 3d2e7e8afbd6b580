theorem dX6_write_0 : decode cX6_write 0 = .ok (.iload_n 1, 1) := by decide +kernel
theorem dX6_write_1 : decode cX6_write 1 = .ok (.ifCond .lt 10, 3) := by decide +kernel
theorem dX6_write_4 : decode cX6_write 4 = .ok (.iload_n 1, 1) := by decide +kernel
theorem dX6_write_5 : decode cX6_write 5 = .ok (.sipush 255, 3) := by decide +kernel
theorem dX6_write_8 : decode cX6_write 8 = .ok (.if_icmp .le 6, 3) := by decide +kernel
theorem dX6_write_11 : decode cX6_write 11 = .ok (.bipush (-2), 2) := by decide +kernel
theorem dX6_write_13 : decode cX6_write 13 = .ok (.ireturn, 1) := by decide +kernel
theorem dX6_write_14 : decode cX6_write 14 = .ok (.aload_n 0, 1) := by decide +kernel
theorem dX6_write_15 : decode cX6_write 15 = .ok (.getfield 13, 3) := by decide +kernel
theorem dX6_write_18 : decode cX6_write 18 = .ok (.ifCond .lt 12, 3) := by decide +kernel
theorem dX6_write_21 : decode cX6_write 21 = .ok (.aload_n 0, 1) := by decide +kernel
theorem dX6_write_22 : decode cX6_write 22 = .ok (.getfield 13, 3) := by decide +kernel
theorem dX6_write_25 : decode cX6_write 25 = .ok (.bipush 48, 2) := by decide +kernel
theorem dX6_write_27 : decode cX6_write 27 = .ok (.if_icmp .lt 6, 3) := by decide +kernel
theorem dX6_write_30 : decode cX6_write 30 = .ok (.bipush (-4), 2) := by decide +kernel
theorem dX6_write_32 : decode cX6_write 32 = .ok (.ireturn, 1) := by decide +kernel
theorem dX6_write_33 : decode cX6_write 33 = .ok (.aload_n 0, 1) := by decide +kernel
theorem dX6_write_34 : decode cX6_write 34 = .ok (.getfield 9, 3) := by decide +kernel
theorem dX6_write_37 : decode cX6_write 37 = .ok (.aload_n 0, 1) := by decide +kernel
theorem dX6_write_38 : decode cX6_write 38 = .ok (.getfield 13, 3) := by decide +kernel
theorem dX6_write_41 : decode cX6_write 41 = .ok (.iload_n 1, 1) := by decide +kernel
theorem dX6_write_42 : decode cX6_write 42 = .ok (.iastore, 1) := by decide +kernel
theorem dX6_write_43 : decode cX6_write 43 = .ok (.aload_n 0, 1) := by decide +kernel
theorem dX6_write_44 : decode cX6_write 44 = .ok (.dup, 1) := by decide +kernel
theorem dX6_write_45 : decode cX6_write 45 = .ok (.getfield 13, 3) := by decide +kernel
theorem dX6_write_48 : decode cX6_write 48 = .ok (.iconst 1, 1) := by decide +kernel
theorem dX6_write_49 : decode cX6_write 49 = .ok (.iadd, 1) := by decide +kernel
theorem dX6_write_50 : decode cX6_write 50 = .ok (.putfield 13, 3) := by decide +kernel
theorem dX6_write_53 : decode cX6_write 53 = .ok (.aload_n 0, 1) := by decide +kernel
theorem dX6_write_54 : decode cX6_write 54 = .ok (.getfield 13, 3) := by decide +kernel
theorem dX6_write_57 : decode cX6_write 57 = .ok (.ireturn, 1) := by decide +kernel
theorem dX6_wipe_0 : decode cX6_wipe 0 = .ok (.aload_n 0, 1) := by decide +kernel
theorem dX6_wipe_1 : decode cX6_wipe 1 = .ok (.getfield 13, 3) := by decide +kernel
theorem dX6_wipe_4 : decode cX6_wipe 4 = .ok (.istore_n 1, 1) := by decide +kernel
theorem dX6_wipe_5 : decode cX6_wipe 5 = .ok (.aload_n 0, 1) := by decide +kernel
theorem dX6_wipe_6 : decode cX6_wipe 6 = .ok (.iconst 0, 1) := by decide +kernel
theorem dX6_wipe_7 : decode cX6_wipe 7 = .ok (.putfield 13, 3) := by decide +kernel
theorem dX6_wipe_10 : decode cX6_wipe 10 = .ok (.iload_n 1, 1) := by decide +kernel
theorem dX6_wipe_11 : decode cX6_wipe 11 = .ok (.ireturn, 1) := by decide +kernel
theorem dX6_fault_0 : decode cX6_fault 0 = .ok (.aload_n 0, 1) := by decide +kernel
theorem dX6_fault_1 : decode cX6_fault 1 = .ok (.getfield 24, 3) := by decide +kernel
theorem dX6_fault_4 : decode cX6_fault 4 = .ok (.aload_n 0, 1) := by decide +kernel
theorem dX6_fault_5 : decode cX6_fault 5 = .ok (.getfield 9, 3) := by decide +kernel
theorem dX6_fault_8 : decode cX6_fault 8 = .ok (.aload_n 0, 1) := by decide +kernel
theorem dX6_fault_9 : decode cX6_fault 9 = .ok (.getfield 13, 3) := by decide +kernel
theorem dX6_fault_12 : decode cX6_fault 12 = .ok (.invokevirtual 65, 3) := by decide +kernel
theorem dX6_fault_15 : decode cX6_fault 15 = .ok (.ireturn, 1) := by decide +kernel
theorem dX6_dairy_0 : decode cX6_dairy 0 = .ok (.aload_n 0, 1) := by decide +kernel
theorem dX6_dairy_1 : decode cX6_dairy 1 = .ok (.getfield 24, 3) := by decide +kernel
theorem dX6_dairy_4 : decode cX6_dairy 4 = .ok (.aload_n 0, 1) := by decide +kernel
theorem dX6_dairy_5 : decode cX6_dairy 5 = .ok (.getfield 9, 3) := by decide +kernel
theorem dX6_dairy_8 : decode cX6_dairy 8 = .ok (.aload_n 0, 1) := by decide +kernel
theorem dX6_dairy_9 : decode cX6_dairy 9 = .ok (.getfield 13, 3) := by decide +kernel
theorem dX6_dairy_12 : decode cX6_dairy 12 = .ok (.invokevirtual 65, 3) := by decide +kernel
theorem dX6_dairy_15 : decode cX6_dairy 15 = .ok (.bipush (-9), 2) := by decide +kernel
theorem dX6_dairy_17 : decode cX6_dairy 17 = .ok (.if_icmp .eq 6, 3) := by decide +kernel
theorem dX6_dairy_20 : decode cX6_dairy 20 = .ok (.bipush (-3), 2) := by decide +kernel
theorem dX6_dairy_22 : decode cX6_dairy 22 = .ok (.ireturn, 1) := by decide +kernel
theorem dX6_dairy_23 : decode cX6_dairy 23 = .ok (.aload_n 0, 1) := by decide +kernel
theorem dX6_dairy_24 : decode cX6_dairy 24 = .ok (.getfield 20, 3) := by decide +kernel
theorem dX6_dairy_27 : decode cX6_dairy 27 = .ok (.astore_n 1, 1) := by decide +kernel
theorem dX6_dairy_28 : decode cX6_dairy 28 = .ok (.aload_n 0, 1) := by decide +kernel
theorem dX6_dairy_29 : decode cX6_dairy 29 = .ok (.aload_n 0, 1) := by decide +kernel
theorem dX6_dairy_30 : decode cX6_dairy 30 = .ok (.getfield 24, 3) := by decide +kernel
theorem dX6_dairy_33 : decode cX6_dairy 33 = .ok (.putfield 20, 3) := by decide +kernel
theorem dX6_dairy_36 : decode cX6_dairy 36 = .ok (.aload_n 0, 1) := by decide +kernel
theorem dX6_dairy_37 : decode cX6_dairy 37 = .ok (.aload_n 1, 1) := by decide +kernel
theorem dX6_dairy_38 : decode cX6_dairy 38 = .ok (.putfield 24, 3) := by decide +kernel
theorem dX6_dairy_41 : decode cX6_dairy 41 = .ok (.aload_n 0, 1) := by decide +kernel
theorem dX6_dairy_42 : decode cX6_dairy 42 = .ok (.getfield 33, 3) := by decide +kernel
theorem dX6_dairy_45 : decode cX6_dairy 45 = .ok (.aload_n 0, 1) := by decide +kernel
theorem dX6_dairy_46 : decode cX6_dairy 46 = .ok (.getfield 20, 3) := by decide +kernel
theorem dX6_dairy_49 : decode cX6_dairy 49 = .ok (.invokevirtual 69, 3) := by decide +kernel
theorem dX6_dairy_52 : decode cX6_dairy 52 = .ok (.aload_n 0, 1) := by decide +kernel
theorem dX6_dairy_53 : decode cX6_dairy 53 = .ok (.getfield 43, 3) := by decide +kernel
theorem dX6_dairy_56 : decode cX6_dairy 56 = .ok (.invokevirtual 73, 3) := by decide +kernel
theorem dX6_dairy_59 : decode cX6_dairy 59 = .ok (.aload_n 0, 1) := by decide +kernel
theorem dX6_dairy_60 : decode cX6_dairy 60 = .ok (.iconst 0, 1) := by decide +kernel
theorem dX6_dairy_61 : decode cX6_dairy 61 = .ok (.putfield 51, 3) := by decide +kernel
theorem dX6_dairy_64 : decode cX6_dairy 64 = .ok (.bipush 10, 2) := by decide +kernel
theorem dX6_dairy_66 : decode cX6_dairy 66 = .ok (.aload_n 0, 1) := by decide +kernel
theorem dX6_dairy_67 : decode cX6_dairy 67 = .ok (.getfield 20, 3) := by decide +kernel
theorem dX6_dairy_70 : decode cX6_dairy 70 = .ok (.getfield 76, 3) := by decide +kernel
theorem dX6_dairy_73 : decode cX6_dairy 73 = .ok (.imul, 1) := by decide +kernel
theorem dX6_dairy_74 : decode cX6_dairy 74 = .ok (.aload_n 0, 1) := by decide +kernel
theorem dX6_dairy_75 : decode cX6_dairy 75 = .ok (.getfield 20, 3) := by decide +kernel
theorem dX6_dairy_78 : decode cX6_dairy 78 = .ok (.getfield 79, 3) := by decide +kernel
theorem dX6_dairy_81 : decode cX6_dairy 81 = .ok (.iadd, 1) := by decide +kernel
theorem dX6_dairy_82 : decode cX6_dairy 82 = .ok (.ireturn, 1) := by decide +kernel
theorem dX6_owner_0 : decode cX6_owner 0 = .ok (.aload_n 0, 1) := by decide +kernel
theorem dX6_owner_1 : decode cX6_owner 1 = .ok (.getfield 20, 3) := by decide +kernel
theorem dX6_owner_4 : decode cX6_owner 4 = .ok (.iload_n 1, 1) := by decide +kernel
theorem dX6_owner_5 : decode cX6_owner 5 = .ok (.invokevirtual 82, 3) := by decide +kernel
theorem dX6_owner_8 : decode cX6_owner 8 = .ok (.ifCond .ne 5, 3) := by decide +kernel
theorem dX6_owner_11 : decode cX6_owner 11 = .ok (.iconst (-1), 1) := by decide +kernel
theorem dX6_owner_12 : decode cX6_owner 12 = .ok (.ireturn, 1) := by decide +kernel
theorem dX6_owner_13 : decode cX6_owner 13 = .ok (.iload_n 2, 1) := by decide +kernel
theorem dX6_owner_14 : decode cX6_owner 14 = .ok (.tableswitch 94 0 4 #[34, 46, 58, 67, 76], 34) := by decide +kernel
theorem dX6_owner_48 : decode cX6_owner 48 = .ok (.aload_n 0, 1) := by decide +kernel
theorem dX6_owner_49 : decode cX6_owner 49 = .ok (.getfield 20, 3) := by decide +kernel
theorem dX6_owner_52 : decode cX6_owner 52 = .ok (.getfield 86, 3) := by decide +kernel
theorem dX6_owner_55 : decode cX6_owner 55 = .ok (.iload_n 1, 1) := by decide +kernel
theorem dX6_owner_56 : decode cX6_owner 56 = .ok (.invokestatic 89, 3) := by decide +kernel
theorem dX6_owner_59 : decode cX6_owner 59 = .ok (.ireturn, 1) := by decide +kernel
theorem dX6_owner_60 : decode cX6_owner 60 = .ok (.aload_n 0, 1) := by decide +kernel
theorem dX6_owner_61 : decode cX6_owner 61 = .ok (.getfield 33, 3) := by decide +kernel
theorem dX6_owner_64 : decode cX6_owner 64 = .ok (.getfield 94, 3) := by decide +kernel
theorem dX6_owner_67 : decode cX6_owner 67 = .ok (.iload_n 1, 1) := by decide +kernel
theorem dX6_owner_68 : decode cX6_owner 68 = .ok (.invokestatic 89, 3) := by decide +kernel
theorem dX6_owner_71 : decode cX6_owner 71 = .ok (.ireturn, 1) := by decide +kernel
theorem dX6_owner_72 : decode cX6_owner 72 = .ok (.aload_n 0, 1) := by decide +kernel
theorem dX6_owner_73 : decode cX6_owner 73 = .ok (.getfield 20, 3) := by decide +kernel
theorem dX6_owner_76 : decode cX6_owner 76 = .ok (.iload_n 1, 1) := by decide +kernel
theorem dX6_owner_77 : decode cX6_owner 77 = .ok (.invokevirtual 97, 3) := by decide +kernel
theorem dX6_owner_80 : decode cX6_owner 80 = .ok (.ireturn, 1) := by decide +kernel
theorem dX6_owner_81 : decode cX6_owner 81 = .ok (.aload_n 0, 1) := by decide +kernel
theorem dX6_owner_82 : decode cX6_owner 82 = .ok (.getfield 33, 3) := by decide +kernel
theorem dX6_owner_85 : decode cX6_owner 85 = .ok (.iload_n 1, 1) := by decide +kernel
theorem dX6_owner_86 : decode cX6_owner 86 = .ok (.invokevirtual 101, 3) := by decide +kernel
theorem dX6_owner_89 : decode cX6_owner 89 = .ok (.ireturn, 1) := by decide +kernel
theorem dX6_owner_90 : decode cX6_owner 90 = .ok (.aload_n 0, 1) := by decide +kernel
theorem dX6_owner_91 : decode cX6_owner 91 = .ok (.getfield 33, 3) := by decide +kernel
theorem dX6_owner_94 : decode cX6_owner 94 = .ok (.aload_n 0, 1) := by decide +kernel
theorem dX6_owner_95 : decode cX6_owner 95 = .ok (.getfield 20, 3) := by decide +kernel
theorem dX6_owner_98 : decode cX6_owner 98 = .ok (.iconst 1, 1) := by decide +kernel
theorem dX6_owner_99 : decode cX6_owner 99 = .ok (.iload_n 1, 1) := by decide +kernel
theorem dX6_owner_100 : decode cX6_owner 100 = .ok (.ishl, 1) := by decide +kernel
theorem dX6_owner_101 : decode cX6_owner 101 = .ok (.invokevirtual 104, 3) := by decide +kernel
theorem dX6_owner_104 : decode cX6_owner 104 = .ok (.invokestatic 108, 3) := by decide +kernel
theorem dX6_owner_107 : decode cX6_owner 107 = .ok (.ireturn, 1) := by decide +kernel
theorem dX6_owner_108 : decode cX6_owner 108 = .ok (.bipush (-2), 2) := by decide +kernel
theorem dX6_owner_110 : decode cX6_owner 110 = .ok (.ireturn, 1) := by decide +kernel
theorem dX6_hole_0 : decode cX6_hole 0 = .ok (.aload_n 0, 1) := by decide +kernel
theorem dX6_hole_1 : decode cX6_hole 1 = .ok (.getfield 20, 3) := by decide +kernel
theorem dX6_hole_4 : decode cX6_hole 4 = .ok (.iload_n 1, 1) := by decide +kernel
theorem dX6_hole_5 : decode cX6_hole 5 = .ok (.invokevirtual 113, 3) := by decide +kernel
theorem dX6_hole_8 : decode cX6_hole 8 = .ok (.ifCond .ne 5, 3) := by decide +kernel
theorem dX6_hole_11 : decode cX6_hole 11 = .ok (.iconst (-1), 1) := by decide +kernel
theorem dX6_hole_12 : decode cX6_hole 12 = .ok (.ireturn, 1) := by decide +kernel
theorem dX6_hole_13 : decode cX6_hole 13 = .ok (.iload_n 2, 1) := by decide +kernel
theorem dX6_hole_14 : decode cX6_hole 14 = .ok (.tableswitch 88 0 4 #[34, 46, 58, 70, 79], 34) := by decide +kernel
theorem dX6_hole_48 : decode cX6_hole 48 = .ok (.aload_n 0, 1) := by decide +kernel
theorem dX6_hole_49 : decode cX6_hole 49 = .ok (.getfield 20, 3) := by decide +kernel
theorem dX6_hole_52 : decode cX6_hole 52 = .ok (.getfield 116, 3) := by decide +kernel
theorem dX6_hole_55 : decode cX6_hole 55 = .ok (.iload_n 1, 1) := by decide +kernel
theorem dX6_hole_56 : decode cX6_hole 56 = .ok (.invokestatic 89, 3) := by decide +kernel
theorem dX6_hole_59 : decode cX6_hole 59 = .ok (.ireturn, 1) := by decide +kernel
theorem dX6_hole_60 : decode cX6_hole 60 = .ok (.aload_n 0, 1) := by decide +kernel
theorem dX6_hole_61 : decode cX6_hole 61 = .ok (.getfield 33, 3) := by decide +kernel
theorem dX6_hole_64 : decode cX6_hole 64 = .ok (.getfield 119, 3) := by decide +kernel
theorem dX6_hole_67 : decode cX6_hole 67 = .ok (.iload_n 1, 1) := by decide +kernel
theorem dX6_hole_68 : decode cX6_hole 68 = .ok (.invokestatic 89, 3) := by decide +kernel
theorem dX6_hole_71 : decode cX6_hole 71 = .ok (.ireturn, 1) := by decide +kernel
theorem dX6_hole_72 : decode cX6_hole 72 = .ok (.aload_n 0, 1) := by decide +kernel
theorem dX6_hole_73 : decode cX6_hole 73 = .ok (.getfield 33, 3) := by decide +kernel
theorem dX6_hole_76 : decode cX6_hole 76 = .ok (.getfield 122, 3) := by decide +kernel
theorem dX6_hole_79 : decode cX6_hole 79 = .ok (.iload_n 1, 1) := by decide +kernel
theorem dX6_hole_80 : decode cX6_hole 80 = .ok (.invokestatic 89, 3) := by decide +kernel
theorem dX6_hole_83 : decode cX6_hole 83 = .ok (.ireturn, 1) := by decide +kernel
theorem dX6_hole_84 : decode cX6_hole 84 = .ok (.aload_n 0, 1) := by decide +kernel
theorem dX6_hole_85 : decode cX6_hole 85 = .ok (.getfield 33, 3) := by decide +kernel
theorem dX6_hole_88 : decode cX6_hole 88 = .ok (.iload_n 1, 1) := by decide +kernel
theorem dX6_hole_89 : decode cX6_hole 89 = .ok (.invokevirtual 125, 3) := by decide +kernel
theorem dX6_hole_92 : decode cX6_hole 92 = .ok (.ireturn, 1) := by decide +kernel
theorem dX6_hole_93 : decode cX6_hole 93 = .ok (.aload_n 0, 1) := by decide +kernel
theorem dX6_hole_94 : decode cX6_hole 94 = .ok (.getfield 33, 3) := by decide +kernel
theorem dX6_hole_97 : decode cX6_hole 97 = .ok (.iload_n 1, 1) := by decide +kernel
theorem dX6_hole_98 : decode cX6_hole 98 = .ok (.invokevirtual 128, 3) := by decide +kernel
theorem dX6_hole_101 : decode cX6_hole 101 = .ok (.ireturn, 1) := by decide +kernel
theorem dX6_hole_102 : decode cX6_hole 102 = .ok (.bipush (-2), 2) := by decide +kernel
theorem dX6_hole_104 : decode cX6_hole 104 = .ok (.ireturn, 1) := by decide +kernel
theorem dX6_cell_0 : decode cX6_cell 0 = .ok (.iload_n 1, 1) := by decide +kernel
theorem dX6_cell_1 : decode cX6_cell 1 = .ok (.invokestatic 131, 3) := by decide +kernel
theorem dX6_cell_4 : decode cX6_cell 4 = .ok (.ifCond .ne 5, 3) := by decide +kernel
theorem dX6_cell_7 : decode cX6_cell 7 = .ok (.iconst (-1), 1) := by decide +kernel
theorem dX6_cell_8 : decode cX6_cell 8 = .ok (.ireturn, 1) := by decide +kernel
theorem dX6_cell_9 : decode cX6_cell 9 = .ok (.iload_n 2, 1) := by decide +kernel
theorem dX6_cell_10 : decode cX6_cell 10 = .ok (.tableswitch 57 0 2 #[26, 35, 44], 26) := by decide +kernel
theorem dX6_cell_36 : decode cX6_cell 36 = .ok (.aload_n 0, 1) := by decide +kernel
theorem dX6_cell_37 : decode cX6_cell 37 = .ok (.getfield 33, 3) := by decide +kernel
theorem dX6_cell_40 : decode cX6_cell 40 = .ok (.iload_n 1, 1) := by decide +kernel
theorem dX6_cell_41 : decode cX6_cell 41 = .ok (.invokevirtual 136, 3) := by decide +kernel
theorem dX6_cell_44 : decode cX6_cell 44 = .ok (.ireturn, 1) := by decide +kernel
theorem dX6_cell_45 : decode cX6_cell 45 = .ok (.aload_n 0, 1) := by decide +kernel
theorem dX6_cell_46 : decode cX6_cell 46 = .ok (.getfield 33, 3) := by decide +kernel
theorem dX6_cell_49 : decode cX6_cell 49 = .ok (.iload_n 1, 1) := by decide +kernel
theorem dX6_cell_50 : decode cX6_cell 50 = .ok (.invokevirtual 139, 3) := by decide +kernel
theorem dX6_cell_53 : decode cX6_cell 53 = .ok (.ireturn, 1) := by decide +kernel
theorem dX6_cell_54 : decode cX6_cell 54 = .ok (.aload_n 0, 1) := by decide +kernel
theorem dX6_cell_55 : decode cX6_cell 55 = .ok (.getfield 33, 3) := by decide +kernel
theorem dX6_cell_58 : decode cX6_cell 58 = .ok (.aload_n 0, 1) := by decide +kernel
theorem dX6_cell_59 : decode cX6_cell 59 = .ok (.getfield 20, 3) := by decide +kernel
theorem dX6_cell_62 : decode cX6_cell 62 = .ok (.iload_n 1, 1) := by decide +kernel
theorem dX6_cell_63 : decode cX6_cell 63 = .ok (.invokevirtual 142, 3) := by decide +kernel
theorem dX6_cell_66 : decode cX6_cell 66 = .ok (.ireturn, 1) := by decide +kernel
theorem dX6_cell_67 : decode cX6_cell 67 = .ok (.bipush (-2), 2) := by decide +kernel
theorem dX6_cell_69 : decode cX6_cell 69 = .ok (.ireturn, 1) := by decide +kernel
theorem dX6_day_0 : decode cX6_day 0 = .ok (.aload_n 0, 1) := by decide +kernel
theorem dX6_day_1 : decode cX6_day 1 = .ok (.getfield 43, 3) := by decide +kernel
theorem dX6_day_4 : decode cX6_day 4 = .ok (.aload_n 0, 1) := by decide +kernel
theorem dX6_day_5 : decode cX6_day 5 = .ok (.getfield 33, 3) := by decide +kernel
theorem dX6_day_8 : decode cX6_day 8 = .ok (.invokevirtual 145, 3) := by decide +kernel
theorem dX6_day_11 : decode cX6_day 11 = .ok (.aload_n 0, 1) := by decide +kernel
theorem dX6_day_12 : decode cX6_day 12 = .ok (.getfield 33, 3) := by decide +kernel
theorem dX6_day_15 : decode cX6_day 15 = .ok (.aload_n 0, 1) := by decide +kernel
theorem dX6_day_16 : decode cX6_day 16 = .ok (.getfield 20, 3) := by decide +kernel
theorem dX6_day_19 : decode cX6_day 19 = .ok (.invokevirtual 149, 3) := by decide +kernel
theorem dX6_day_22 : decode cX6_day 22 = .ok (.ireturn, 1) := by decide +kernel
theorem dX6_eat_0 : decode cX6_eat 0 = .ok (.aload_n 0, 1) := by decide +kernel
theorem dX6_eat_1 : decode cX6_eat 1 = .ok (.getfield 33, 3) := by decide +kernel
theorem dX6_eat_4 : decode cX6_eat 4 = .ok (.aload_n 0, 1) := by decide +kernel
theorem dX6_eat_5 : decode cX6_eat 5 = .ok (.getfield 20, 3) := by decide +kernel
theorem dX6_eat_8 : decode cX6_eat 8 = .ok (.iload_n 1, 1) := by decide +kernel
theorem dX6_eat_9 : decode cX6_eat 9 = .ok (.iload_n 2, 1) := by decide +kernel
theorem dX6_eat_10 : decode cX6_eat 10 = .ok (.invokevirtual 153, 3) := by decide +kernel
theorem dX6_eat_13 : decode cX6_eat 13 = .ok (.istore_n 3, 1) := by decide +kernel
theorem dX6_eat_14 : decode cX6_eat 14 = .ok (.iload_n 3, 1) := by decide +kernel
theorem dX6_eat_15 : decode cX6_eat 15 = .ok (.ifCond .eq 5, 3) := by decide +kernel
theorem dX6_eat_18 : decode cX6_eat 18 = .ok (.iload_n 3, 1) := by decide +kernel
theorem dX6_eat_19 : decode cX6_eat 19 = .ok (.ireturn, 1) := by decide +kernel
theorem dX6_eat_20 : decode cX6_eat 20 = .ok (.aload_n 0, 1) := by decide +kernel
theorem dX6_eat_21 : decode cX6_eat 21 = .ok (.getfield 43, 3) := by decide +kernel
theorem dX6_eat_24 : decode cX6_eat 24 = .ok (.aload_n 0, 1) := by decide +kernel
theorem dX6_eat_25 : decode cX6_eat 25 = .ok (.getfield 33, 3) := by decide +kernel
theorem dX6_eat_28 : decode cX6_eat 28 = .ok (.invokevirtual 145, 3) := by decide +kernel
theorem dX6_eat_31 : decode cX6_eat 31 = .ok (.aload_n 0, 1) := by decide +kernel
theorem dX6_eat_32 : decode cX6_eat 32 = .ok (.getfield 33, 3) := by decide +kernel
theorem dX6_eat_35 : decode cX6_eat 35 = .ok (.aload_n 0, 1) := by decide +kernel
theorem dX6_eat_36 : decode cX6_eat 36 = .ok (.getfield 20, 3) := by decide +kernel
theorem dX6_eat_39 : decode cX6_eat 39 = .ok (.iload_n 1, 1) := by decide +kernel
theorem dX6_eat_40 : decode cX6_eat 40 = .ok (.iload_n 2, 1) := by decide +kernel
theorem dX6_eat_41 : decode cX6_eat 41 = .ok (.invokevirtual 157, 3) := by decide +kernel
theorem dX6_eat_44 : decode cX6_eat 44 = .ok (.ireturn, 1) := by decide +kernel
def wp_X6_write (p0 : Int32) (Z : Nat → Nat → Nat) (Y : Nat → Nat → Nat) (S : Nat → CS) (a : AS) (Q : Int32 → (Nat → CS) → AS → Prop) : Prop := ((p0 < 0 → Q (-2 : Int32) S a) ∧ (¬ p0 < 0 → ((p0 ≤ (255 : Int32) → ((((S 0).1 1) < 0 → Q (-4 : Int32) S a) ∧ (¬ ((S 0).1 1) < 0 → ((((S 0).1 1) < (48 : Int32) → vp_in ((S 0).1 1) 48 ∧ ∀ S_6 : Nat → CS, S_6 = va_up S 0 (sA (S 0) 0 ((S 0).1 1).toNatClampNeg p0) → ∀ S_7 : Nat → CS, S_7 = va_up S_6 0 (sI (S_6 0) 1 (((S_6 0).1 1) + (1 : Int32))) → Q ((S_7 0).1 1) S_7 a) ∧ (¬ ((S 0).1 1) < (48 : Int32) → Q (-4 : Int32) S a))))) ∧ (¬ p0 ≤ (255 : Int32) → Q (-2 : Int32) S a))))
set_option maxHeartbeats 4000000 in
set_option maxRecDepth 100000 in
theorem c_X6_write (l : Launch) (D : va_G) (cI cZ cW : ClassId) (Z : Nat → Nat → Nat) (Y : Nat → Nat → Nat) (sz : Nat) (p0 : Int32) (S : Nat → CS) (a : AS) (Q : Int32 → (Nat → CS) → AS → Prop) (hf : wp_X6_write p0 Z Y S a Q) : Met l yX6_write (wsA yX6_write cX6_write 2 (some .int)) ({ frames := 0, cells := 0, slots := 0, locals := 0 }) (PW D cI cZ cW [.ref (Z 0 0), .int p0] (XW cI cZ cW Z Y (Z 1 0) (Z 2 0) S a) sz) (va_Qi (fun (r : Int32) (u : (Nat → CS) × AS) => Q r u.1 u.2) (fun u t => va_P D classes (XW cI cZ cW Z Y (Z 1 0) (Z 2 0) u.1 u.2) t.heap) (va_A (XW cI cZ cW Z Y (Z 1 0) (Z 2 0) S a) sz)) 0 0 (va_A (XW cI cZ cW Z Y (Z 1 0) (Z 2 0) S a) sz) := by
  refine Met.ofW (cc := cX6_write) (maxL := 2) (ret := (some .int)) (by decide) rfl ?_
  intro p e s m args below meth c s₁ B hml hv
  obtain ⟨rfl, hsz, hP, hK, hD0⟩ := hv
  have hx := B.exec
  have hb := B.bytes
  have hr := B.returns
  have hts := atoms_spec (ws := (wsA yX6_write cX6_write 2 (some .int))) B.pre
  have ht : ∀ w ∈ lw_g, w.before _ s = true := fun w h => hts w (List.mem_cons_of_mem _ h)
  have hown : s.vm.findClass RX6 = some m.cls := findClass_of_methodNamed B.named
  have hlocks := B.notSynchronized
  subst hsz
  have hD := hD0.self (sz := s.heap.size)
  generalize hAe : va_A (XW cI cZ cW Z Y (Z 1 0) (Z 2 0) S a) s.heap.size = A at hD ⊢
  have hA : ∀ q : Nat, s.heap.size ≤ q → A q := fun q h => by rw [← hAe]; exact Or.inr h
  have hS : va_S A s.heap s.heap [] := va_S.rf
  have hDk : ∀ (x : Nat → CS) (y : AS), va_D A (XW cI cZ cW Z Y (Z 1 0) (Z 2 0) x y) := fun x y => D_X hD
  have hl := lv_entry ([.ref (Z 0 0), .int p0]) (n := 2) (Nat.le_of_ble_eq_true rfl)
  rw [lg_entry_eq]
  generalize (lg_sl ([.ref (Z 0 0), .int p0]) ++ List.replicate (2 - (lg_sl ([.ref (Z 0 0), .int p0])).length) Slot.unset).toArray = ls at hl ⊢
  have hl : lv_has ls 2 [(0, .ref (Z 0 0)), (1, .int p0)] := hl
  unfold wp_X6_write at hf
  have start : ∀ (H : Heap) (locs : List Loc), va_P D classes (XW cI cZ cW Z Y (Z 1 0) (Z 2 0) S a) H → va_D A (XW cI cZ cW Z Y (Z 1 0) (Z 2 0) S a) → va_S A s.heap H locs → W p l e (headSpec (wsA yX6_write cX6_write 2 (some .int)) ({ frames := 0, cells := 0, slots := 0, locals := 0 })).room s m (#[.ref (Z 0 0), .int p0] : Array Value) below meth c H locs 0 0 (MQ below (va_Qi (fun (r : Int32) (u : (Nat → CS) × AS) => Q r u.1 u.2) (fun u t => va_P D classes (XW cI cZ cW Z Y (Z 1 0) (Z 2 0) u.1 u.2) t.heap) A) (#[.ref (Z 0 0), .int p0] : Array Value) s 0 0 A) (F0 m 0 ls []) := by
    intro H locs hP hD hS
    refine lv_iload_n hx hb dX6_write_0 rfl (lv_at hl 1 rfl) ?_
    refine lv_if_lt (tgt := 11) hx hb dX6_write_1 (by decide) (fun c_1 => ?_) (fun c_1 => ?_)
    · have hf := hf.1 c_1
      refine lv_bipush (v := (-2 : Int32)) hx hb dX6_write_11 (by decide) ?_
      exact W.iret (v := (-2 : Int32)) hx hb hr (fun t ht hW => ⟨⟨(-2 : Int32), (S, a), rfl, hf, P_heap ht hP⟩, hS.F ht⟩) hS.2.2 dX6_write_13
    · have hf := hf.2 c_1
      refine lv_iload_n hx hb dX6_write_4 rfl (lv_at hl 1 rfl) ?_
      refine lv_sipush (v := (255 : Int32)) hx hb dX6_write_5 (by decide) ?_
      refine lv_icmp_le (tgt := 14) hx hb dX6_write_8 (by decide) (fun c_2 => ?_) (fun c_2 => ?_)
      · have hf := hf.1 c_2
        refine lv_aload_n hx hb dX6_write_14 rfl (lv_at hl 0 rfl) ?_
        refine va_get (D := D) (ci := 4) (v := .int ((S 0).1 1)) (C := RX6) (T := TX6) (N := 12) hx hb ht inX6 hown hK hP 0 eX_0 rfl 1 (by decide) (ht _ tw_154) (fun _ h9 => h9) rfl dX6_write_15 ?_
        refine lv_if_lt (tgt := 30) hx hb dX6_write_18 (by decide) (fun c_3 => ?_) (fun c_3 => ?_)
        · have hf := hf.1 c_3
          refine lv_bipush (v := (-4 : Int32)) hx hb dX6_write_30 (by decide) ?_
          exact W.iret (v := (-4 : Int32)) hx hb hr (fun t ht hW => ⟨⟨(-4 : Int32), (S, a), rfl, hf, P_heap ht hP⟩, hS.F ht⟩) hS.2.2 dX6_write_32
        · have hf := hf.2 c_3
          refine lv_aload_n hx hb dX6_write_21 rfl (lv_at hl 0 rfl) ?_
          refine va_get (D := D) (ci := 4) (v := .int ((S 0).1 1)) (C := RX6) (T := TX6) (N := 12) hx hb ht inX6 hown hK hP 0 eX_0 rfl 1 (by decide) (ht _ tw_154) (fun _ h9 => h9) rfl dX6_write_22 ?_
          refine lv_bipush (v := (48 : Int32)) hx hb dX6_write_25 (by decide) ?_
          refine lv_icmp_lt (tgt := 33) hx hb dX6_write_27 (by decide) (fun c_4 => ?_) (fun c_4 => ?_)
          · have hf := hf.1 c_4
            refine lv_aload_n hx hb dX6_write_33 rfl (lv_at hl 0 rfl) ?_
            refine va_get (D := D) (ci := 4) (v := .ref (Z 0 1)) (C := RX6) (T := TX6) (N := 12) hx hb ht inX6 hown hK hP 0 eX_0 rfl 0 (by decide) (ht _ tw_153) (fun _ h9 => h9) rfl dX6_write_34 ?_
            refine lv_aload_n hx hb dX6_write_37 rfl (lv_at hl 0 rfl) ?_
            refine va_get (D := D) (ci := 4) (v := .int ((S 0).1 1)) (C := RX6) (T := TX6) (N := 12) hx hb ht inX6 hown hK hP 0 eX_0 rfl 1 (by decide) (ht _ tw_154) (fun _ h9 => h9) rfl dX6_write_38 ?_
            refine lv_iload_n hx hb dX6_write_41 rfl (lv_at hl 1 rfl) ?_
            obtain ⟨hi_5, hf⟩ := hf
            refine va_iast hx hb hK hP hD hS 1 0 eX_1 rfl hi_5 dX6_write_42 (fun H locs hP hD hS => ?_)
            obtain ⟨S_6, eS_6⟩ : ∃ y : Nat → CS, y = va_up S 0 (sA (S 0) 0 ((S 0).1 1).toNatClampNeg p0) := ⟨_, rfl⟩
            have hf := hf S_6 eS_6
            have hP : va_P D classes (XW cI cZ cW Z Y (Z 1 0) (Z 2 0) S_6 a) H := by rw [eS_6]; exact PX_0_F0 hP
            have hD := hDk S_6 a
            refine lv_aload_n hx hb dX6_write_43 rfl (lv_at hl 0 rfl) ?_
            refine lv_dup hx hb dX6_write_44 rfl ?_
            refine va_get (D := D) (ci := 4) (v := .int ((S_6 0).1 1)) (C := RX6) (T := TX6) (N := 12) hx hb ht inX6 hown hK hP 0 eX_0 rfl 1 (by decide) (ht _ tw_154) (fun _ h9 => h9) rfl dX6_write_45 ?_
            refine lv_iconst (v := (1 : Int32)) hx hb dX6_write_48 (by decide) ?_
            refine lv_iadd hx hb dX6_write_49 ?_
            refine va_put (D := D) (ci := 4) (v := .int (((S_6 0).1 1) + (1 : Int32))) (ty := .int) (C := RX6) (T := TX6) (N := 12) hx hb ht inX6 tyX6 tyX6_ok nmX6 hown hK hP hD hS 0 eX_0 rfl 1 (by decide) (ht _ tw_154) (fun _ h9 => h9) rfl pf_I rfl rfl (Nat.le_of_ble_eq_true rfl) dX6_write_50 (fun H locs hP hD hS => ?_)
            obtain ⟨S_7, eS_7⟩ : ∃ y : Nat → CS, y = va_up S_6 0 (sI (S_6 0) 1 (((S_6 0).1 1) + (1 : Int32))) := ⟨_, rfl⟩
            have hf := hf S_7 eS_7
            have hP : va_P D classes (XW cI cZ cW Z Y (Z 1 0) (Z 2 0) S_7 a) H := by rw [eS_7]; exact PX_0_I1 hP
            have hD := hDk S_7 a
            refine lv_aload_n hx hb dX6_write_53 rfl (lv_at hl 0 rfl) ?_
            refine va_get (D := D) (ci := 4) (v := .int ((S_7 0).1 1)) (C := RX6) (T := TX6) (N := 12) hx hb ht inX6 hown hK hP 0 eX_0 rfl 1 (by decide) (ht _ tw_154) (fun _ h9 => h9) rfl dX6_write_54 ?_
            exact W.iret (v := ((S_7 0).1 1)) hx hb hr (fun t ht hW => ⟨⟨((S_7 0).1 1), (S_7, a), rfl, hf, P_heap ht hP⟩, hS.F ht⟩) hS.2.2 dX6_write_57
          · have hf := hf.2 c_4
            refine lv_bipush (v := (-4 : Int32)) hx hb dX6_write_30 (by decide) ?_
            exact W.iret (v := (-4 : Int32)) hx hb hr (fun t ht hW => ⟨⟨(-4 : Int32), (S, a), rfl, hf, P_heap ht hP⟩, hS.F ht⟩) hS.2.2 dX6_write_32
      · have hf := hf.2 c_2
        refine lv_bipush (v := (-2 : Int32)) hx hb dX6_write_11 (by decide) ?_
        exact W.iret (v := (-2 : Int32)) hx hb hr (fun t ht hW => ⟨⟨(-2 : Int32), (S, a), rfl, hf, P_heap ht hP⟩, hS.F ht⟩) hS.2.2 dX6_write_13
  exact start s.heap [] hP hD hS
def wp_X6_wipe (Z : Nat → Nat → Nat) (Y : Nat → Nat → Nat) (S : Nat → CS) (a : AS) (Q : Int32 → (Nat → CS) → AS → Prop) : Prop := ∀ x1_1 : Int32, x1_1 = ((S 0).1 1) → ∀ S_2 : Nat → CS, S_2 = va_up S 0 (sI (S 0) 1 (0 : Int32)) → Q x1_1 S_2 a
set_option maxHeartbeats 4000000 in
set_option maxRecDepth 100000 in
theorem c_X6_wipe (l : Launch) (D : va_G) (cI cZ cW : ClassId) (Z : Nat → Nat → Nat) (Y : Nat → Nat → Nat) (sz : Nat) (S : Nat → CS) (a : AS) (Q : Int32 → (Nat → CS) → AS → Prop) (hf : wp_X6_wipe Z Y S a Q) : Met l yX6_wipe (wsA yX6_wipe cX6_wipe 2 (some .int)) ({ frames := 0, cells := 0, slots := 0, locals := 0 }) (PW D cI cZ cW [.ref (Z 0 0)] (XW cI cZ cW Z Y (Z 1 0) (Z 2 0) S a) sz) (va_Qi (fun (r : Int32) (u : (Nat → CS) × AS) => Q r u.1 u.2) (fun u t => va_P D classes (XW cI cZ cW Z Y (Z 1 0) (Z 2 0) u.1 u.2) t.heap) (va_A (XW cI cZ cW Z Y (Z 1 0) (Z 2 0) S a) sz)) 0 0 (va_A (XW cI cZ cW Z Y (Z 1 0) (Z 2 0) S a) sz) := by
  refine Met.ofW (cc := cX6_wipe) (maxL := 2) (ret := (some .int)) (by decide) rfl ?_
  intro p e s m args below meth c s₁ B hml hv
  obtain ⟨rfl, hsz, hP, hK, hD0⟩ := hv
  have hx := B.exec
  have hb := B.bytes
  have hr := B.returns
  have hts := atoms_spec (ws := (wsA yX6_wipe cX6_wipe 2 (some .int))) B.pre
  have ht : ∀ w ∈ lw_g, w.before _ s = true := fun w h => hts w (List.mem_cons_of_mem _ h)
  have hown : s.vm.findClass RX6 = some m.cls := findClass_of_methodNamed B.named
  have hlocks := B.notSynchronized
  subst hsz
  have hD := hD0.self (sz := s.heap.size)
  generalize hAe : va_A (XW cI cZ cW Z Y (Z 1 0) (Z 2 0) S a) s.heap.size = A at hD ⊢
  have hA : ∀ q : Nat, s.heap.size ≤ q → A q := fun q h => by rw [← hAe]; exact Or.inr h
  have hS : va_S A s.heap s.heap [] := va_S.rf
  have hDk : ∀ (x : Nat → CS) (y : AS), va_D A (XW cI cZ cW Z Y (Z 1 0) (Z 2 0) x y) := fun x y => D_X hD
  have hl := lv_entry ([.ref (Z 0 0)]) (n := 2) (Nat.le_of_ble_eq_true rfl)
  rw [lg_entry_eq]
  generalize (lg_sl ([.ref (Z 0 0)]) ++ List.replicate (2 - (lg_sl ([.ref (Z 0 0)])).length) Slot.unset).toArray = ls at hl ⊢
  have hl : lv_has ls 2 [(0, .ref (Z 0 0))] := hl
  unfold wp_X6_wipe at hf
  have start : ∀ (H : Heap) (locs : List Loc), va_P D classes (XW cI cZ cW Z Y (Z 1 0) (Z 2 0) S a) H → va_D A (XW cI cZ cW Z Y (Z 1 0) (Z 2 0) S a) → va_S A s.heap H locs → W p l e (headSpec (wsA yX6_wipe cX6_wipe 2 (some .int)) ({ frames := 0, cells := 0, slots := 0, locals := 0 })).room s m (#[.ref (Z 0 0)] : Array Value) below meth c H locs 0 0 (MQ below (va_Qi (fun (r : Int32) (u : (Nat → CS) × AS) => Q r u.1 u.2) (fun u t => va_P D classes (XW cI cZ cW Z Y (Z 1 0) (Z 2 0) u.1 u.2) t.heap) A) (#[.ref (Z 0 0)] : Array Value) s 0 0 A) (F0 m 0 ls []) := by
    intro H locs hP hD hS
    refine lv_aload_n hx hb dX6_wipe_0 rfl (lv_at hl 0 rfl) ?_
    refine va_get (D := D) (ci := 4) (v := .int ((S 0).1 1)) (C := RX6) (T := TX6) (N := 12) hx hb ht inX6 hown hK hP 0 eX_0 rfl 1 (by decide) (ht _ tw_154) (fun _ h9 => h9) rfl dX6_wipe_1 ?_
    refine lv_topi (fun x1_1 ex1_1 => ?_)
    have hf := hf x1_1 ex1_1
    refine lv_istore_n (lv' := [(1, .int x1_1), (0, .ref (Z 0 0))]) hx hb dX6_wipe_4 rfl hl (by decide) rfl (fun ls hl => ?_)
    refine lv_aload_n hx hb dX6_wipe_5 rfl (lv_at hl 1 rfl) ?_
    refine lv_iconst (v := (0 : Int32)) hx hb dX6_wipe_6 (by decide) ?_
    refine va_put (D := D) (ci := 4) (v := .int (0 : Int32)) (ty := .int) (C := RX6) (T := TX6) (N := 12) hx hb ht inX6 tyX6 tyX6_ok nmX6 hown hK hP hD hS 0 eX_0 rfl 1 (by decide) (ht _ tw_154) (fun _ h9 => h9) rfl pf_I rfl rfl (Nat.le_of_ble_eq_true rfl) dX6_wipe_7 (fun H locs hP hD hS => ?_)
    obtain ⟨S_2, eS_2⟩ : ∃ y : Nat → CS, y = va_up S 0 (sI (S 0) 1 (0 : Int32)) := ⟨_, rfl⟩
    have hf := hf S_2 eS_2
    have hP : va_P D classes (XW cI cZ cW Z Y (Z 1 0) (Z 2 0) S_2 a) H := by rw [eS_2]; exact PX_0_I1 hP
    have hD := hDk S_2 a
    refine lv_iload_n hx hb dX6_wipe_10 rfl (lv_at hl 0 rfl) ?_
    exact W.iret (v := x1_1) hx hb hr (fun t ht hW => ⟨⟨x1_1, (S_2, a), rfl, hf, P_heap ht hP⟩, hS.F ht⟩) hS.2.2 dX6_wipe_11
  exact start s.heap [] hP hD hS
def wp_X6_fault (Z : Nat → Nat → Nat) (Y : Nat → Nat → Nat) (S : Nat → CS) (a : AS) (Q : Int32 → (Nat → CS) → AS → Prop) : Prop := wp_X1_readAll ((S 0).1 1) 48 (S 2) ((S 0).2.1 0) (fun r_1 s_2 f_3 => ∀ S_4 : Nat → CS, S_4 = va_up (va_up S 2 s_2) 0 (sF (S 0) 0 f_3) → Q r_1 S_4 a)
set_option maxHeartbeats 4000000 in
set_option maxRecDepth 100000 in
theorem c_X6_fault (l : Launch) (D : va_G) (cI cZ cW : ClassId) (Z : Nat → Nat → Nat) (Y : Nat → Nat → Nat) (sz : Nat) (S : Nat → CS) (a : AS) (Q : Int32 → (Nat → CS) → AS → Prop) (hf : wp_X6_fault Z Y S a Q) : Met l yX6_fault (wsA yX6_fault cX6_fault 1 (some .int)) ({ frames := 6, cells := 0, slots := 0, locals := 129 }) (PW D cI cZ cW [.ref (Z 0 0)] (XW cI cZ cW Z Y (Z 1 0) (Z 2 0) S a) sz) (va_Qi (fun (r : Int32) (u : (Nat → CS) × AS) => Q r u.1 u.2) (fun u t => va_P D classes (XW cI cZ cW Z Y (Z 1 0) (Z 2 0) u.1 u.2) t.heap) (va_A (XW cI cZ cW Z Y (Z 1 0) (Z 2 0) S a) sz)) 0 0 (va_A (XW cI cZ cW Z Y (Z 1 0) (Z 2 0) S a) sz) := by
  refine Met.ofW (cc := cX6_fault) (maxL := 1) (ret := (some .int)) (by decide) rfl ?_
  intro p e s m args below meth c s₁ B hml hv
  obtain ⟨rfl, hsz, hP, hK, hD0⟩ := hv
  have hx := B.exec
  have hb := B.bytes
  have hr := B.returns
  have hts := atoms_spec (ws := (wsA yX6_fault cX6_fault 1 (some .int))) B.pre
  have ht : ∀ w ∈ lw_g, w.before _ s = true := fun w h => hts w (List.mem_cons_of_mem _ h)
  have hown : s.vm.findClass RX6 = some m.cls := findClass_of_methodNamed B.named
  have hlocks := B.notSynchronized
  subst hsz
  have hD := hD0.self (sz := s.heap.size)
  generalize hAe : va_A (XW cI cZ cW Z Y (Z 1 0) (Z 2 0) S a) s.heap.size = A at hD ⊢
  have hA : ∀ q : Nat, s.heap.size ≤ q → A q := fun q h => by rw [← hAe]; exact Or.inr h
  have hS : va_S A s.heap s.heap [] := va_S.rf
  have hDk : ∀ (x : Nat → CS) (y : AS), va_D A (XW cI cZ cW Z Y (Z 1 0) (Z 2 0) x y) := fun x y => D_X hD
  have hl := lv_entry ([.ref (Z 0 0)]) (n := 1) (Nat.le_of_ble_eq_true rfl)
  rw [lg_entry_eq]
  generalize (lg_sl ([.ref (Z 0 0)]) ++ List.replicate (1 - (lg_sl ([.ref (Z 0 0)])).length) Slot.unset).toArray = ls at hl ⊢
  have hl : lv_has ls 1 [(0, .ref (Z 0 0))] := hl
  unfold wp_X6_fault at hf
  have start : ∀ (H : Heap) (locs : List Loc), va_P D classes (XW cI cZ cW Z Y (Z 1 0) (Z 2 0) S a) H → va_D A (XW cI cZ cW Z Y (Z 1 0) (Z 2 0) S a) → va_S A s.heap H locs → W p l e (headSpec (wsA yX6_fault cX6_fault 1 (some .int)) ({ frames := 6, cells := 0, slots := 0, locals := 129 })).room s m (#[.ref (Z 0 0)] : Array Value) below meth c H locs 0 0 (MQ below (va_Qi (fun (r : Int32) (u : (Nat → CS) × AS) => Q r u.1 u.2) (fun u t => va_P D classes (XW cI cZ cW Z Y (Z 1 0) (Z 2 0) u.1 u.2) t.heap) A) (#[.ref (Z 0 0)] : Array Value) s 0 0 A) (F0 m 0 ls []) := by
    intro H locs hP hD hS
    refine lv_aload_n hx hb dX6_fault_0 rfl (lv_at hl 0 rfl) ?_
    refine va_get (D := D) (ci := 4) (v := .ref (Z 2 0)) (C := RX6) (T := TX6) (N := 12) hx hb ht inX6 hown hK hP 0 eX_0 rfl 3 (by decide) (ht _ tw_156) (fun _ h9 => h9) rfl dX6_fault_1 ?_
    refine lv_aload_n hx hb dX6_fault_4 rfl (lv_at hl 0 rfl) ?_
    refine va_get (D := D) (ci := 4) (v := .ref (Z 0 1)) (C := RX6) (T := TX6) (N := 12) hx hb ht inX6 hown hK hP 0 eX_0 rfl 0 (by decide) (ht _ tw_153) (fun _ h9 => h9) rfl dX6_fault_5 ?_
    refine lv_aload_n hx hb dX6_fault_8 rfl (lv_at hl 0 rfl) ?_
    refine va_get (D := D) (ci := 4) (v := .int ((S 0).1 1)) (C := RX6) (T := TX6) (N := 12) hx hb ht inX6 hown hK hP 0 eX_0 rfl 1 (by decide) (ht _ tw_154) (fun _ h9 => h9) rfl dX6_fault_9 ?_
    have hPc : va_P D classes (wD cI cZ (Z 2) (S 2) ++ wI cI (Z 0 1) 48 ((S 0).2.1 0)) H := XP_2_0c1 hP
    have hDc : va_D A (wD cI cZ (Z 2) (S 2) ++ wI cI (Z 0 1) 48 ((S 0).2.1 0)) := XD_2_0c1 hD
    have hFc := va_freeX hDc hS hA
    refine va_calli (va_runV (As := [.ref (Z 0 1), .int ((S 0).1 1)]) (rest := []) ⟨hx, hb, hml, hown, hts⟩ (c_X1_readAll l D cI cZ cW (Z 2) (Z 0 1) H.size ((S 0).1 1) 48 (S 2) ((S 0).2.1 0) _ hf) ⟨callB_of 2 hts (gA tw_205) rfl rfl rfl (ht _ tw_2) (ht _ tw_202) hd_X1_readAll ⟨Nat.le_of_ble_eq_true rfl, Nat.le_of_ble_eq_true rfl⟩, ht _ tw_203, ht _ tw_204⟩ ⟨PW_blind, va_recv hK hP (ci := 1) (q0 := 9) rfl eX_9, fun U hU hW => PW_mk hPc hDc hK hU hW⟩ rfl rfl hl.1 rfl (lv_room (Nat.le_of_ble_eq_true rfl)) dX6_fault_12 ⟨Nat.zero_le _, Nat.zero_le _⟩) hS (fun q _ h => hFc q h) hFc (fun r_1 u t H1 locs ht1 hvm hf hB hz1 hk1 hS => ?_)
    obtain ⟨s_2, f_3⟩ := u
    dsimp only at hf hB
    rw [ht1] at hB
    have hP := XJ_2_0c1 hP hD hk1 hB
    generalize H1 = H at hP hS ⊢
    obtain ⟨S_4, eS_4⟩ : ∃ y : Nat → CS, y = va_up (va_up S 2 s_2) 0 (sF (S 0) 0 f_3) := ⟨_, rfl⟩
    have hf := hf S_4 eS_4
    have hP : va_P D classes (XW cI cZ cW Z Y (Z 1 0) (Z 2 0) S_4 a) H := by rw [eS_4]; exact hP
    have hD := hDk S_4 a
    exact W.iret (v := r_1) hx hb hr (fun t ht hW => ⟨⟨r_1, (S_4, a), rfl, hf, P_heap ht hP⟩, hS.F ht⟩) hS.2.2 dX6_fault_15
  exact start s.heap [] hP hD hS
def wp_X6_dairy (Z : Nat → Nat → Nat) (Y : Nat → Nat → Nat) (S : Nat → CS) (a : AS) (Q : Int32 → (Nat → Nat → Nat) → (Nat → CS) → AS → Prop) : Prop := wp_X1_readAll ((S 0).1 1) 48 (S 2) ((S 0).2.1 0) (fun r_1 s_2 f_3 => ∀ S_4 : Nat → CS, S_4 = va_up (va_up S 2 s_2) 0 (sF (S 0) 0 f_3) → ((r_1 = (-9 : Int32) → wp_X5_beginWith (S_4 4) (S_4 2) (fun s_6 s_7 => ∀ S_8 : Nat → CS, S_8 = va_up (va_up S_4 4 s_6) 2 s_7 → wp_X0_forgetAll Y a (fun a_9 => ∀ S_10 : Nat → CS, S_10 = va_up S_8 0 (sI (S_8 0) 9 (0 : Int32)) → Q (((10 : Int32) * ((S_10 2).1 0)) + ((S_10 2).1 1)) (swZ Z) (swS S_10) a_9))) ∧ (¬ r_1 = (-9 : Int32) → Q (-3 : Int32) Z S_4 a)))
set_option maxHeartbeats 4000000 in
set_option maxRecDepth 100000 in
theorem c_X6_dairy (l : Launch) (D : va_G) (cI cZ cW : ClassId) (Z : Nat → Nat → Nat) (Y : Nat → Nat → Nat) (sz : Nat) (S : Nat → CS) (a : AS) (Q : Int32 → (Nat → Nat → Nat) → (Nat → CS) → AS → Prop) (hf : wp_X6_dairy Z Y S a Q) : Met l yX6_dairy (wsA yX6_dairy cX6_dairy 2 (some .int)) ({ frames := 6, cells := 0, slots := 0, locals := 129 }) (PW D cI cZ cW [.ref (Z 0 0)] (XW cI cZ cW Z Y (Z 1 0) (Z 2 0) S a) sz) (va_Qi (fun (r : Int32) (u : (Nat → Nat → Nat) × (Nat → CS) × AS) => Q r u.1 u.2.1 u.2.2) (fun u t => va_P D classes (XW cI cZ cW u.1 Y (u.1 1 0) (u.1 2 0) u.2.1 u.2.2) t.heap ∧ va_D (va_A (XW cI cZ cW Z Y (Z 1 0) (Z 2 0) S a) sz) (XW cI cZ cW u.1 Y (u.1 1 0) (u.1 2 0) u.2.1 u.2.2)) (va_A (XW cI cZ cW Z Y (Z 1 0) (Z 2 0) S a) sz)) 0 0 (va_A (XW cI cZ cW Z Y (Z 1 0) (Z 2 0) S a) sz) := by
  refine Met.ofW (cc := cX6_dairy) (maxL := 2) (ret := (some .int)) (by decide) rfl ?_
  intro p e s m args below meth c s₁ B hml hv
  obtain ⟨rfl, hsz, hP, hK, hD0⟩ := hv
  have hx := B.exec
  have hb := B.bytes
  have hr := B.returns
  have hts := atoms_spec (ws := (wsA yX6_dairy cX6_dairy 2 (some .int))) B.pre
  have ht : ∀ w ∈ lw_g, w.before _ s = true := fun w h => hts w (List.mem_cons_of_mem _ h)
  have hown : s.vm.findClass RX6 = some m.cls := findClass_of_methodNamed B.named
  have hlocks := B.notSynchronized
  subst hsz
  have hD := hD0.self (sz := s.heap.size)
  generalize hAe : va_A (XW cI cZ cW Z Y (Z 1 0) (Z 2 0) S a) s.heap.size = A at hD ⊢
  have hA : ∀ q : Nat, s.heap.size ≤ q → A q := fun q h => by rw [← hAe]; exact Or.inr h
  have hS : va_S A s.heap s.heap [] := va_S.rf
  have hDk : ∀ (x : Nat → CS) (y : AS), va_D A (XW cI cZ cW Z Y (Z 1 0) (Z 2 0) x y) := fun x y => D_X hD
  have hl := lv_entry ([.ref (Z 0 0)]) (n := 2) (Nat.le_of_ble_eq_true rfl)
  rw [lg_entry_eq]
  generalize (lg_sl ([.ref (Z 0 0)]) ++ List.replicate (2 - (lg_sl ([.ref (Z 0 0)])).length) Slot.unset).toArray = ls at hl ⊢
  have hl : lv_has ls 2 [(0, .ref (Z 0 0))] := hl
  unfold wp_X6_dairy at hf
  have start : ∀ (H : Heap) (locs : List Loc), va_P D classes (XW cI cZ cW Z Y (Z 1 0) (Z 2 0) S a) H → va_D A (XW cI cZ cW Z Y (Z 1 0) (Z 2 0) S a) → va_S A s.heap H locs → W p l e (headSpec (wsA yX6_dairy cX6_dairy 2 (some .int)) ({ frames := 6, cells := 0, slots := 0, locals := 129 })).room s m (#[.ref (Z 0 0)] : Array Value) below meth c H locs 0 0 (MQ below (va_Qi (fun (r : Int32) (u : (Nat → Nat → Nat) × (Nat → CS) × AS) => Q r u.1 u.2.1 u.2.2) (fun u t => va_P D classes (XW cI cZ cW u.1 Y (u.1 1 0) (u.1 2 0) u.2.1 u.2.2) t.heap ∧ va_D A (XW cI cZ cW u.1 Y (u.1 1 0) (u.1 2 0) u.2.1 u.2.2)) A) (#[.ref (Z 0 0)] : Array Value) s 0 0 A) (F0 m 0 ls []) := by
    intro H locs hP hD hS
    refine lv_aload_n hx hb dX6_dairy_0 rfl (lv_at hl 0 rfl) ?_
    refine va_get (D := D) (ci := 4) (v := .ref (Z 2 0)) (C := RX6) (T := TX6) (N := 12) hx hb ht inX6 hown hK hP 0 eX_0 rfl 3 (by decide) (ht _ tw_156) (fun _ h9 => h9) rfl dX6_dairy_1 ?_
    refine lv_aload_n hx hb dX6_dairy_4 rfl (lv_at hl 0 rfl) ?_
    refine va_get (D := D) (ci := 4) (v := .ref (Z 0 1)) (C := RX6) (T := TX6) (N := 12) hx hb ht inX6 hown hK hP 0 eX_0 rfl 0 (by decide) (ht _ tw_153) (fun _ h9 => h9) rfl dX6_dairy_5 ?_
    refine lv_aload_n hx hb dX6_dairy_8 rfl (lv_at hl 0 rfl) ?_
    refine va_get (D := D) (ci := 4) (v := .int ((S 0).1 1)) (C := RX6) (T := TX6) (N := 12) hx hb ht inX6 hown hK hP 0 eX_0 rfl 1 (by decide) (ht _ tw_154) (fun _ h9 => h9) rfl dX6_dairy_9 ?_
    have hPc : va_P D classes (wD cI cZ (Z 2) (S 2) ++ wI cI (Z 0 1) 48 ((S 0).2.1 0)) H := XP_2_0c1 hP
    have hDc : va_D A (wD cI cZ (Z 2) (S 2) ++ wI cI (Z 0 1) 48 ((S 0).2.1 0)) := XD_2_0c1 hD
    have hFc := va_freeX hDc hS hA
    refine va_calli (va_runV (As := [.ref (Z 0 1), .int ((S 0).1 1)]) (rest := []) ⟨hx, hb, hml, hown, hts⟩ (c_X1_readAll l D cI cZ cW (Z 2) (Z 0 1) H.size ((S 0).1 1) 48 (S 2) ((S 0).2.1 0) _ hf) ⟨callB_of 2 hts (gA tw_205) rfl rfl rfl (ht _ tw_2) (ht _ tw_202) hd_X1_readAll ⟨Nat.le_of_ble_eq_true rfl, Nat.le_of_ble_eq_true rfl⟩, ht _ tw_203, ht _ tw_204⟩ ⟨PW_blind, va_recv hK hP (ci := 1) (q0 := 9) rfl eX_9, fun U hU hW => PW_mk hPc hDc hK hU hW⟩ rfl rfl hl.1 rfl (lv_room (Nat.le_of_ble_eq_true rfl)) dX6_dairy_12 ⟨Nat.zero_le _, Nat.zero_le _⟩) hS (fun q _ h => hFc q h) hFc (fun r_1 u t H1 locs ht1 hvm hf hB hz1 hk1 hS => ?_)
    obtain ⟨s_2, f_3⟩ := u
    dsimp only at hf hB
    rw [ht1] at hB
    have hP := XJ_2_0c1 hP hD hk1 hB
    generalize H1 = H at hP hS ⊢
    obtain ⟨S_4, eS_4⟩ : ∃ y : Nat → CS, y = va_up (va_up S 2 s_2) 0 (sF (S 0) 0 f_3) := ⟨_, rfl⟩
    have hf := hf S_4 eS_4
    have hP : va_P D classes (XW cI cZ cW Z Y (Z 1 0) (Z 2 0) S_4 a) H := by rw [eS_4]; exact hP
    have hD := hDk S_4 a
    refine lv_bipush (v := (-9 : Int32)) hx hb dX6_dairy_15 (by decide) ?_
    refine lv_icmp_eq (tgt := 23) hx hb dX6_dairy_17 (by decide) (fun c_5 => ?_) (fun c_5 => ?_)
    · have hf := hf.1 c_5
      refine lv_aload_n hx hb dX6_dairy_23 rfl (lv_at hl 0 rfl) ?_
      refine va_get (D := D) (ci := 4) (v := .ref (Z 1 0)) (C := RX6) (T := TX6) (N := 12) hx hb ht inX6 hown hK hP 0 eX_0 rfl 2 (by decide) (ht _ tw_155) (fun _ h9 => h9) rfl dX6_dairy_24 ?_
      refine lv_astore_n (lv' := [(1, .ref (Z 1 0)), (0, .ref (Z 0 0))]) hx hb dX6_dairy_27 rfl hl (by decide) rfl (fun ls hl => ?_)
      refine lv_aload_n hx hb dX6_dairy_28 rfl (lv_at hl 1 rfl) ?_
      refine lv_aload_n hx hb dX6_dairy_29 rfl (lv_at hl 1 rfl) ?_
      refine va_get (D := D) (ci := 4) (v := .ref (Z 2 0)) (C := RX6) (T := TX6) (N := 12) hx hb ht inX6 hown hK hP 0 eX_0 rfl 3 (by decide) (ht _ tw_156) (fun _ h9 => h9) rfl dX6_dairy_30 ?_
      refine va_put (D := D) (ci := 4) (v := .ref (Z 2 0)) (ty := .object "LetHoles$Deeds") (C := RX6) (T := TX6) (N := 12) hx hb ht inX6 tyX6 tyX6_ok nmX6 hown hK hP hD hS 0 eX_0 rfl 2 (by decide) (ht _ tw_155) (fun _ h9 => h9) rfl (by decide +kernel) rfl rfl (Nat.le_of_ble_eq_true rfl) dX6_dairy_33 (fun H locs hP hD hS => ?_)
      have hP : va_P D classes (XW cI cZ cW Z Y (Z 2 0) (Z 2 0) S_4 a) H := PX_E2 hP
      have hD : va_D A (XW cI cZ cW Z Y (Z 2 0) (Z 2 0) S_4 a) := D_X (hDk S_4 a)
      have hDk : ∀ (x : Nat → CS) (y : AS), va_D A (XW cI cZ cW Z Y (Z 2 0) (Z 2 0) x y) := fun x y => D_X hD
      refine lv_aload_n hx hb dX6_dairy_36 rfl (lv_at hl 1 rfl) ?_
      refine lv_aload_n hx hb dX6_dairy_37 rfl (lv_at hl 0 rfl) ?_
      refine va_put (D := D) (ci := 4) (v := .ref (Z 1 0)) (ty := .object "LetHoles$Deeds") (C := RX6) (T := TX6) (N := 12) hx hb ht inX6 tyX6 tyX6_ok nmX6 hown hK hP hD hS 0 eX_0 rfl 3 (by decide) (ht _ tw_156) (fun _ h9 => h9) rfl (by decide +kernel) rfl rfl (Nat.le_of_ble_eq_true rfl) dX6_dairy_38 (fun H locs hP hD hS => ?_)
      have hP : va_P D classes (XW cI cZ cW Z Y (Z 2 0) (Z 1 0) S_4 a) H := PX_E3 hP
      have hD : va_D A (XW cI cZ cW Z Y (Z 2 0) (Z 1 0) S_4 a) := D_X (hDk S_4 a)
      have hDk : ∀ (x : Nat → CS) (y : AS), va_D A (XW cI cZ cW Z Y (Z 2 0) (Z 1 0) x y) := fun x y => D_X hD
      refine lv_aload_n hx hb dX6_dairy_41 rfl (lv_at hl 1 rfl) ?_
      refine va_get (D := D) (ci := 4) (v := .ref (Z 4 0)) (C := RX6) (T := TX6) (N := 12) hx hb ht inX6 hown hK hP 0 eX_0 rfl 5 (by decide) (ht _ tw_158) (fun _ h9 => h9) rfl dX6_dairy_42 ?_
      refine lv_aload_n hx hb dX6_dairy_45 rfl (lv_at hl 1 rfl) ?_
      refine va_get (D := D) (ci := 4) (v := .ref (Z 2 0)) (C := RX6) (T := TX6) (N := 12) hx hb ht inX6 hown hK hP 0 eX_0 rfl 2 (by decide) (ht _ tw_155) (fun _ h9 => h9) rfl dX6_dairy_46 ?_
      have hPc : va_P D classes (wW cI cZ (Z 4) (S_4 4) ++ wD cI cZ (Z 2) (S_4 2)) H := XP_4_2 hP
      have hDc : va_D A (wW cI cZ (Z 4) (S_4 4) ++ wD cI cZ (Z 2) (S_4 2)) := XD_4_2 hD
      have hFc := va_freeX hDc hS hA
      refine va_callv (va_runV (As := [.ref (Z 2 0)]) (rest := []) ⟨hx, hb, hml, hown, hts⟩ (c_X5_beginWith l D cI cZ cW (Z 4) (Z 2) H.size (S_4 4) (S_4 2) _ hf) ⟨callB_of 1 hts (gA tw_261) rfl rfl rfl (ht _ tw_4) (ht _ tw_258) hd_X5_beginWith ⟨Nat.le_of_ble_eq_true rfl, Nat.le_of_ble_eq_true rfl⟩, ht _ tw_259, ht _ tw_260⟩ ⟨PW_blind, va_recv hK hP (ci := 3) (q0 := 21) rfl eX_21, fun U hU hW => PW_mk hPc hDc hK hU hW⟩ rfl rfl hl.1 rfl (lv_room (Nat.le_of_ble_eq_true rfl)) dX6_dairy_49 ⟨Nat.zero_le _, Nat.zero_le _⟩) hS (fun q _ h => hFc q h) hFc (fun u t H1 locs ht1 hvm hf hB hz1 hk1 hS => ?_)
      obtain ⟨s_6, s_7⟩ := u
      dsimp only at hf hB
      rw [ht1] at hB
      have hP := XJ_4_2 hP hD hk1 hB
      generalize H1 = H at hP hS ⊢
      obtain ⟨S_8, eS_8⟩ : ∃ y : Nat → CS, y = va_up (va_up S_4 4 s_6) 2 s_7 := ⟨_, rfl⟩
      have hf := hf S_8 eS_8
      have hP : va_P D classes (XW cI cZ cW Z Y (Z 2 0) (Z 1 0) S_8 a) H := by rw [eS_8]; exact hP
      have hD := hDk S_8 a
      refine lv_aload_n hx hb dX6_dairy_52 rfl (lv_at hl 1 rfl) ?_
      refine va_get (D := D) (ci := 4) (v := .ref (Z 9 0)) (C := RX6) (T := TX6) (N := 12) hx hb ht inX6 hown hK hP 0 eX_0 rfl 7 (by decide) (ht _ tw_160) (fun _ h9 => h9) rfl dX6_dairy_53 ?_
      have hPc : va_P D classes (wA cI cZ cW (Z 9) Y a) H := XP_9 hP
      have hDc : va_D A (wA cI cZ cW (Z 9) Y a) := XD_9 hD
      have hFc := va_freeX hDc hS hA
      refine va_callv (va_runV (As := []) (rest := []) ⟨hx, hb, hml, hown, hts⟩ (c_X0_forgetAll l D cI cZ cW (Z 9) Y H.size a _ hf) ⟨callB_of 0 hts (gA tw_270) rfl rfl rfl (ht _ tw_5) (ht _ tw_267) hd_X0_forgetAll ⟨Nat.le_of_ble_eq_true rfl, Nat.le_of_ble_eq_true rfl⟩, ht _ tw_268, ht _ tw_269⟩ ⟨PW_blind, va_recv hK hP (ci := 0) (q0 := 45) rfl eX_45, fun U hU hW => PW_mk hPc hDc hK hU hW⟩ rfl rfl hl.1 rfl (lv_room (Nat.le_of_ble_eq_true rfl)) dX6_dairy_56 ⟨Nat.zero_le _, Nat.zero_le _⟩) hS (fun q _ h => hFc q h) hFc (fun u t H1 locs ht1 hvm hf hB hz1 hk1 hS => ?_)
      obtain ⟨a_9, rfl⟩ : ∃ z, z = u := ⟨_, rfl⟩
      rw [ht1] at hB
      have hP := XJ_9 hP hD hk1 hB
      generalize H1 = H at hP hS ⊢
      have hD := hDk S_8 a_9
      refine lv_aload_n hx hb dX6_dairy_59 rfl (lv_at hl 1 rfl) ?_
      refine lv_iconst (v := (0 : Int32)) hx hb dX6_dairy_60 (by decide) ?_
      refine va_put (D := D) (ci := 4) (v := .int (0 : Int32)) (ty := .int) (C := RX6) (T := TX6) (N := 12) hx hb ht inX6 tyX6 tyX6_ok nmX6 hown hK hP hD hS 0 eX_0 rfl 9 (by decide) (ht _ tw_162) (fun _ h9 => h9) rfl pf_I rfl rfl (Nat.le_of_ble_eq_true rfl) dX6_dairy_61 (fun H locs hP hD hS => ?_)
      obtain ⟨S_10, eS_10⟩ : ∃ y : Nat → CS, y = va_up S_8 0 (sI (S_8 0) 9 (0 : Int32)) := ⟨_, rfl⟩
      have hf := hf S_10 eS_10
      have hP : va_P D classes (XW cI cZ cW Z Y (Z 2 0) (Z 1 0) S_10 a_9) H := by rw [eS_10]; exact PX_0_I9 hP
      have hD := hDk S_10 a_9
      refine lv_bipush (v := (10 : Int32)) hx hb dX6_dairy_64 (by decide) ?_
      refine lv_aload_n hx hb dX6_dairy_66 rfl (lv_at hl 1 rfl) ?_
      refine va_get (D := D) (ci := 4) (v := .ref (Z 2 0)) (C := RX6) (T := TX6) (N := 12) hx hb ht inX6 hown hK hP 0 eX_0 rfl 2 (by decide) (ht _ tw_155) (fun _ h9 => h9) rfl dX6_dairy_67 ?_
      refine va_get (D := D) (ci := 1) (v := .int ((S_10 2).1 0)) (C := RX1) (T := TX1) (N := 14) hx hb ht inX1 hown hK hP 9 eX_9 rfl 0 (by decide) (ht _ tw_31) (fun _ h9 => h9) rfl dX6_dairy_70 ?_
      refine lv_imul hx hb dX6_dairy_73 ?_
      refine lv_aload_n hx hb dX6_dairy_74 rfl (lv_at hl 1 rfl) ?_
      refine va_get (D := D) (ci := 4) (v := .ref (Z 2 0)) (C := RX6) (T := TX6) (N := 12) hx hb ht inX6 hown hK hP 0 eX_0 rfl 2 (by decide) (ht _ tw_155) (fun _ h9 => h9) rfl dX6_dairy_75 ?_
      refine va_get (D := D) (ci := 1) (v := .int ((S_10 2).1 1)) (C := RX1) (T := TX1) (N := 14) hx hb ht inX1 hown hK hP 9 eX_9 rfl 1 (by decide) (ht _ tw_33) (fun _ h9 => h9) rfl dX6_dairy_78 ?_
      refine lv_iadd hx hb dX6_dairy_81 ?_
      exact W.iret (v := (((10 : Int32) * ((S_10 2).1 0)) + ((S_10 2).1 1))) hx hb hr (fun t ht hW => ⟨⟨(((10 : Int32) * ((S_10 2).1 0)) + ((S_10 2).1 1)), ((swZ Z), (swS S_10), a_9), rfl, hf, ⟨P_heap ht (PX_sw hP), DX_sw hD⟩⟩, hS.F ht⟩) hS.2.2 dX6_dairy_82
    · have hf := hf.2 c_5
      refine lv_bipush (v := (-3 : Int32)) hx hb dX6_dairy_20 (by decide) ?_
      exact W.iret (v := (-3 : Int32)) hx hb hr (fun t ht hW => ⟨⟨(-3 : Int32), (Z, S_4, a), rfl, hf, ⟨P_heap ht hP, hD⟩⟩, hS.F ht⟩) hS.2.2 dX6_dairy_22
  exact start s.heap [] hP hD hS
def wp_X6_owner (p0 : Int32) (p1 : Int32) (Z : Nat → Nat → Nat) (Y : Nat → Nat → Nat) (S : Nat → CS) (a : AS) (Q : Int32 → Prop) : Prop := wp_X1_hasOwner p0 (S 1) (fun r_1 => ((¬ r_1 = 0 → ((p1 = (0 : Int32) → wp_X3_get p0 4 ((S 1).2.1 2) (fun r_4 => Q r_4)) ∧ (¬ p1 = (0 : Int32) → ((p1 = (1 : Int32) → wp_X3_get p0 4 ((S 4).2.1 3) (fun r_6 => Q r_6)) ∧ (¬ p1 = (1 : Int32) → ((p1 = (2 : Int32) → wp_X1_rowsOf p0 (S 1) (fun r_8 => Q r_8)) ∧ (¬ p1 = (2 : Int32) → ((p1 = (3 : Int32) → wp_X5_holesOf p0 (S 4) (fun r_10 => Q r_10)) ∧ (¬ p1 = (3 : Int32) → ((p1 = (4 : Int32) → wp_X5_ownedBy ((1 : Int32) <<< (p0 &&& 31)) (S 4) (S 1) (fun r_12 => wp_J6_bitCount_0f7a4 r_12 (fun r_13 => Q r_13))) ∧ (¬ p1 = (4 : Int32) → Q (-2 : Int32)))))))))))) ∧ (r_1 = 0 → Q (-1 : Int32))))
set_option maxHeartbeats 4000000 in
set_option maxRecDepth 100000 in
theorem c_X6_owner (l : Launch) (D : va_G) (cI cZ cW : ClassId) (Z : Nat → Nat → Nat) (Y : Nat → Nat → Nat) (p0 : Int32) (p1 : Int32) (S : Nat → CS) (a : AS) (Q : Int32 → Prop) (hf : wp_X6_owner p0 p1 Z Y S a Q) : Met l yX6_owner (wsA yX6_owner cX6_owner 3 (some .int)) ({ frames := 3, cells := 0, slots := 0, locals := 70 }) (PR D cI cZ cW [.ref (Z 0 0), .int p0, .int p1] (XW cI cZ cW Z Y (Z 1 0) (Z 2 0) S a)) (vp_Si Q) 0 0 (fun _ => False) := by
  refine Met.ofW (cc := cX6_owner) (maxL := 3) (ret := (some .int)) (by decide) rfl ?_
  intro p e s m args below meth c s₁ B hml hv
  obtain ⟨rfl, hP, hK⟩ := hv
  have hx := B.exec
  have hb := B.bytes
  have hr := B.returns
  have hts := atoms_spec (ws := (wsA yX6_owner cX6_owner 3 (some .int))) B.pre
  have ht : ∀ w ∈ lw_g, w.before _ s = true := fun w h => hts w (List.mem_cons_of_mem _ h)
  have hown : s.vm.findClass RX6 = some m.cls := findClass_of_methodNamed B.named
  have hlocks := B.notSynchronized
  have hl := lv_entry ([.ref (Z 0 0), .int p0, .int p1]) (n := 3) (Nat.le_of_ble_eq_true rfl)
  rw [lg_entry_eq]
  generalize (lg_sl ([.ref (Z 0 0), .int p0, .int p1]) ++ List.replicate (3 - (lg_sl ([.ref (Z 0 0), .int p0, .int p1])).length) Slot.unset).toArray = ls at hl ⊢
  have hl : lv_has ls 3 [(0, .ref (Z 0 0)), (1, .int p0), (2, .int p1)] := hl
  unfold wp_X6_owner at hf
  refine lv_aload_n hx hb dX6_owner_0 rfl (lv_at hl 0 rfl) ?_
  refine va_get (D := D) (ci := 4) (v := .ref (Z 1 0)) (C := RX6) (T := TX6) (N := 12) hx hb ht inX6 hown hK hP 0 eX_0 rfl 2 (by decide) (ht _ tw_155) (fun _ h9 => h9) rfl dX6_owner_1 ?_
  refine lv_iload_n hx hb dX6_owner_4 rfl (lv_at hl 1 rfl) ?_
  have hPc : va_P D classes (wD cI cZ (Z 1) (S 1)) s.heap := XP_1 hP
  refine vp_callSi (W.runV (As := [.int p0]) (rest := []) ⟨hx, hb, hml, hown, hts⟩ (c_X1_hasOwner l D cI cZ cW (Z 1) p0 (S 1) _ hf) ⟨callB_of 1 hts (gA tw_232) rfl rfl rfl (ht _ tw_2) (ht _ tw_275) hd_X1_hasOwner ⟨Nat.le_of_ble_eq_true rfl, Nat.le_of_ble_eq_true rfl⟩, ht _ tw_230, ht _ tw_231⟩ ⟨PR_blind, va_recv hK hP (ci := 1) (q0 := 3) rfl eX_3, fun U hU hW => PR_mk hPc hK hU hW⟩ rfl rfl hl.1 rfl (lv_room (Nat.le_of_ble_eq_true rfl)) dX6_owner_5 ⟨Nat.zero_le _, Nat.zero_le _⟩) (fun r_1 hf => ?_)
  refine lv_if_ne (tgt := 13) hx hb dX6_owner_8 (by decide) (fun c_2 => ?_) (fun c_2 => ?_)
  · have hf := hf.1 c_2
    refine lv_iload_n hx hb dX6_owner_13 rfl (lv_at hl 2 rfl) ?_
    by_cases c_3 : p1 = (0 : Int32)
    · have hf := hf.1 c_3
      refine lv_tableIn (off := 34) (tgt := 48) hx hb dX6_owner_14 (by rw [c_3]; decide) (by rw [c_3]; decide) (by rw [c_3]; first | done | rfl) (by decide) ?_
      refine lv_aload_n hx hb dX6_owner_48 rfl (lv_at hl 0 rfl) ?_
      refine va_get (D := D) (ci := 4) (v := .ref (Z 1 0)) (C := RX6) (T := TX6) (N := 12) hx hb ht inX6 hown hK hP 0 eX_0 rfl 2 (by decide) (ht _ tw_155) (fun _ h9 => h9) rfl dX6_owner_49 ?_
      refine va_get (D := D) (ci := 1) (v := .ref (Z 1 1)) (C := RX1) (T := TX1) (N := 14) hx hb ht inX1 hown hK hP 3 eX_3 rfl 2 (by decide) (ht _ tw_35) (fun _ h9 => h9) rfl dX6_owner_52 ?_
      refine lv_iload_n hx hb dX6_owner_55 rfl (lv_at hl 1 rfl) ?_
      have hPc : va_P D classes (wI cI (Z 1 1) 4 ((S 1).2.1 2)) s.heap := XP_1c1 hP
      refine vp_callSi (W.runS (As := [.ref (Z 1 1), .int p0]) (rest := []) ⟨hx, hb, hml, hown, hts⟩ (c_X3_get l D cI cZ cW (Z 1 1) p0 4 ((S 1).2.1 2) _ hf) ⟨callB_of 2 hts (gA tw_235) rfl rfl rfl (ht _ tw_8) (ht _ tw_276) hd_X3_get ⟨Nat.le_of_ble_eq_true rfl, Nat.le_of_ble_eq_true rfl⟩, ht _ tw_234⟩ ⟨PR_blind, fun U hU hW => PR_mk hPc hK hU hW⟩ rfl rfl hl.1 rfl (lv_room (Nat.le_of_ble_eq_true rfl)) dX6_owner_56 ⟨Nat.zero_le _, Nat.zero_le _⟩) (fun r_4 hf => ?_)
      exact W.iret (v := r_4) hx hb hr (fun t ht hW => ⟨r_4, rfl, hf, ht⟩) (fun q h => absurd h List.not_mem_nil) dX6_owner_59
    · have hf := hf.2 c_3
      by_cases c_5 : p1 = (1 : Int32)
      · have hf := hf.1 c_5
        refine lv_tableIn (off := 46) (tgt := 60) hx hb dX6_owner_14 (by rw [c_5]; decide) (by rw [c_5]; decide) (by rw [c_5]; first | done | rfl) (by decide) ?_
        refine lv_aload_n hx hb dX6_owner_60 rfl (lv_at hl 0 rfl) ?_
        refine va_get (D := D) (ci := 4) (v := .ref (Z 4 0)) (C := RX6) (T := TX6) (N := 12) hx hb ht inX6 hown hK hP 0 eX_0 rfl 5 (by decide) (ht _ tw_158) (fun _ h9 => h9) rfl dX6_owner_61 ?_
        refine va_get (D := D) (ci := 3) (v := .ref (Z 4 4)) (C := RX5) (T := TX5) (N := 6) hx hb ht inX5 hown hK hP 21 eX_21 rfl 3 (by decide) (ht _ tw_97) (fun _ h9 => h9) rfl dX6_owner_64 ?_
        refine lv_iload_n hx hb dX6_owner_67 rfl (lv_at hl 1 rfl) ?_
        have hPc : va_P D classes (wI cI (Z 4 4) 4 ((S 4).2.1 3)) s.heap := XP_4c4 hP
        refine vp_callSi (W.runS (As := [.ref (Z 4 4), .int p0]) (rest := []) ⟨hx, hb, hml, hown, hts⟩ (c_X3_get l D cI cZ cW (Z 4 4) p0 4 ((S 4).2.1 3) _ hf) ⟨callB_of 2 hts (gA tw_235) rfl rfl rfl (ht _ tw_8) (ht _ tw_276) hd_X3_get ⟨Nat.le_of_ble_eq_true rfl, Nat.le_of_ble_eq_true rfl⟩, ht _ tw_234⟩ ⟨PR_blind, fun U hU hW => PR_mk hPc hK hU hW⟩ rfl rfl hl.1 rfl (lv_room (Nat.le_of_ble_eq_true rfl)) dX6_owner_68 ⟨Nat.zero_le _, Nat.zero_le _⟩) (fun r_6 hf => ?_)
        exact W.iret (v := r_6) hx hb hr (fun t ht hW => ⟨r_6, rfl, hf, ht⟩) (fun q h => absurd h List.not_mem_nil) dX6_owner_71
      · have hf := hf.2 c_5
        by_cases c_7 : p1 = (2 : Int32)
        · have hf := hf.1 c_7
          refine lv_tableIn (off := 58) (tgt := 72) hx hb dX6_owner_14 (by rw [c_7]; decide) (by rw [c_7]; decide) (by rw [c_7]; first | done | rfl) (by decide) ?_
          refine lv_aload_n hx hb dX6_owner_72 rfl (lv_at hl 0 rfl) ?_
          refine va_get (D := D) (ci := 4) (v := .ref (Z 1 0)) (C := RX6) (T := TX6) (N := 12) hx hb ht inX6 hown hK hP 0 eX_0 rfl 2 (by decide) (ht _ tw_155) (fun _ h9 => h9) rfl dX6_owner_73 ?_
          refine lv_iload_n hx hb dX6_owner_76 rfl (lv_at hl 1 rfl) ?_
          have hPc : va_P D classes (wD cI cZ (Z 1) (S 1)) s.heap := XP_1 hP
          refine vp_callSi (W.runV (As := [.int p0]) (rest := []) ⟨hx, hb, hml, hown, hts⟩ (c_X1_rowsOf l D cI cZ cW (Z 1) p0 (S 1) _ hf) ⟨callB_of 1 hts (gA tw_280) rfl rfl rfl (ht _ tw_2) (ht _ tw_277) hd_X1_rowsOf ⟨Nat.le_of_ble_eq_true rfl, Nat.le_of_ble_eq_true rfl⟩, ht _ tw_278, ht _ tw_279⟩ ⟨PR_blind, va_recv hK hP (ci := 1) (q0 := 3) rfl eX_3, fun U hU hW => PR_mk hPc hK hU hW⟩ rfl rfl hl.1 rfl (lv_room (Nat.le_of_ble_eq_true rfl)) dX6_owner_77 ⟨Nat.zero_le _, Nat.zero_le _⟩) (fun r_8 hf => ?_)
          exact W.iret (v := r_8) hx hb hr (fun t ht hW => ⟨r_8, rfl, hf, ht⟩) (fun q h => absurd h List.not_mem_nil) dX6_owner_80
        · have hf := hf.2 c_7
          by_cases c_9 : p1 = (3 : Int32)
          · have hf := hf.1 c_9
            refine lv_tableIn (off := 67) (tgt := 81) hx hb dX6_owner_14 (by rw [c_9]; decide) (by rw [c_9]; decide) (by rw [c_9]; first | done | rfl) (by decide) ?_
            refine lv_aload_n hx hb dX6_owner_81 rfl (lv_at hl 0 rfl) ?_
            refine va_get (D := D) (ci := 4) (v := .ref (Z 4 0)) (C := RX6) (T := TX6) (N := 12) hx hb ht inX6 hown hK hP 0 eX_0 rfl 5 (by decide) (ht _ tw_158) (fun _ h9 => h9) rfl dX6_owner_82 ?_
            refine lv_iload_n hx hb dX6_owner_85 rfl (lv_at hl 1 rfl) ?_
            have hPc : va_P D classes (wW cI cZ (Z 4) (S 4)) s.heap := XP_4 hP
            refine vp_callSi (W.runV (As := [.int p0]) (rest := []) ⟨hx, hb, hml, hown, hts⟩ (c_X5_holesOf l D cI cZ cW (Z 4) p0 (S 4) _ hf) ⟨callB_of 1 hts (gA tw_284) rfl rfl rfl (ht _ tw_4) (ht _ tw_281) hd_X5_holesOf ⟨Nat.le_of_ble_eq_true rfl, Nat.le_of_ble_eq_true rfl⟩, ht _ tw_282, ht _ tw_283⟩ ⟨PR_blind, va_recv hK hP (ci := 3) (q0 := 21) rfl eX_21, fun U hU hW => PR_mk hPc hK hU hW⟩ rfl rfl hl.1 rfl (lv_room (Nat.le_of_ble_eq_true rfl)) dX6_owner_86 ⟨Nat.zero_le _, Nat.zero_le _⟩) (fun r_10 hf => ?_)
            exact W.iret (v := r_10) hx hb hr (fun t ht hW => ⟨r_10, rfl, hf, ht⟩) (fun q h => absurd h List.not_mem_nil) dX6_owner_89
          · have hf := hf.2 c_9
            by_cases c_11 : p1 = (4 : Int32)
            · have hf := hf.1 c_11
              refine lv_tableIn (off := 76) (tgt := 90) hx hb dX6_owner_14 (by rw [c_11]; decide) (by rw [c_11]; decide) (by rw [c_11]; first | done | rfl) (by decide) ?_
              refine lv_aload_n hx hb dX6_owner_90 rfl (lv_at hl 0 rfl) ?_
              refine va_get (D := D) (ci := 4) (v := .ref (Z 4 0)) (C := RX6) (T := TX6) (N := 12) hx hb ht inX6 hown hK hP 0 eX_0 rfl 5 (by decide) (ht _ tw_158) (fun _ h9 => h9) rfl dX6_owner_91 ?_
              refine lv_aload_n hx hb dX6_owner_94 rfl (lv_at hl 0 rfl) ?_
              refine va_get (D := D) (ci := 4) (v := .ref (Z 1 0)) (C := RX6) (T := TX6) (N := 12) hx hb ht inX6 hown hK hP 0 eX_0 rfl 2 (by decide) (ht _ tw_155) (fun _ h9 => h9) rfl dX6_owner_95 ?_
              refine lv_iconst (v := (1 : Int32)) hx hb dX6_owner_98 (by decide) ?_
              refine lv_iload_n hx hb dX6_owner_99 rfl (lv_at hl 1 rfl) ?_
              refine lv_ishl hx hb dX6_owner_100 ?_
              have hPc : va_P D classes (wW cI cZ (Z 4) (S 4) ++ wD cI cZ (Z 1) (S 1)) s.heap := XP_4_1 hP
              refine vp_callSi (W.runV (As := [.ref (Z 1 0), .int ((1 : Int32) <<< (p0 &&& 31))]) (rest := []) ⟨hx, hb, hml, hown, hts⟩ (c_X5_ownedBy l D cI cZ cW (Z 4) (Z 1) ((1 : Int32) <<< (p0 &&& 31)) (S 4) (S 1) _ hf) ⟨callB_of 2 hts (gA tw_288) rfl rfl rfl (ht _ tw_4) (ht _ tw_285) hd_X5_ownedBy ⟨Nat.le_of_ble_eq_true rfl, Nat.le_of_ble_eq_true rfl⟩, ht _ tw_286, ht _ tw_287⟩ ⟨PR_blind, va_recv hK hP (ci := 3) (q0 := 21) rfl eX_21, fun U hU hW => PR_mk hPc hK hU hW⟩ rfl rfl hl.1 rfl (lv_room (Nat.le_of_ble_eq_true rfl)) dX6_owner_101 ⟨Nat.zero_le _, Nat.zero_le _⟩) (fun r_12 hf => ?_)
              have hPc : va_P D classes ([] : va_W) s.heap := fun k q h => by simp at h
              refine vp_callSi (W.runS (As := [.int r_12]) (rest := []) ⟨hx, hb, hml, hown, hts⟩ (c_J6_bitCount_0f7a4 l D cI cZ cW  r_12 _ hf) ⟨callB_of 1 hts (gA tw_305) rfl rfl rfl (ht _ tw_10) (ht _ tw_303) hd_J6_bitCount_0f7a4 ⟨Nat.le_of_ble_eq_true rfl, Nat.le_of_ble_eq_true rfl⟩, ht _ tw_304⟩ ⟨PR_blind, fun U hU hW => PR_mk hPc hK hU hW⟩ rfl rfl hl.1 rfl (lv_room (Nat.le_of_ble_eq_true rfl)) dX6_owner_104 ⟨Nat.zero_le _, Nat.zero_le _⟩) (fun r_13 hf => ?_)
              exact W.iret (v := r_13) hx hb hr (fun t ht hW => ⟨r_13, rfl, hf, ht⟩) (fun q h => absurd h List.not_mem_nil) dX6_owner_107
            · have hf := hf.2 c_11
              refine lv_tableOut (tgt := 108) hx hb dX6_owner_14 (by have h0 := lv_neT (a := 0) c_3 (by decide); have h1 := lv_neT (a := 1) c_5 (by decide); have h2 := lv_neT (a := 2) c_7 (by decide); have h3 := lv_neT (a := 3) c_9 (by decide); have h4 := lv_neT (a := 4) c_11 (by decide); omega) (by decide) ?_
              refine lv_bipush (v := (-2 : Int32)) hx hb dX6_owner_108 (by decide) ?_
              exact W.iret (v := (-2 : Int32)) hx hb hr (fun t ht hW => ⟨(-2 : Int32), rfl, hf, ht⟩) (fun q h => absurd h List.not_mem_nil) dX6_owner_110
  · have hf := hf.2 c_2
    refine lv_iconst (v := (-1 : Int32)) hx hb dX6_owner_11 (by decide) ?_
    exact W.iret (v := (-1 : Int32)) hx hb hr (fun t ht hW => ⟨(-1 : Int32), rfl, hf, ht⟩) (fun q h => absurd h List.not_mem_nil) dX6_owner_12
def wp_X6_hole (p0 : Int32) (p1 : Int32) (Z : Nat → Nat → Nat) (Y : Nat → Nat → Nat) (S : Nat → CS) (a : AS) (Q : Int32 → Prop) : Prop := wp_X1_hasHole p0 (S 1) (fun r_1 => ((¬ r_1 = 0 → ((p1 = (0 : Int32) → wp_X3_get p0 5 ((S 1).2.1 4) (fun r_4 => Q r_4)) ∧ (¬ p1 = (0 : Int32) → ((p1 = (1 : Int32) → wp_X3_get p0 5 ((S 4).2.1 1) (fun r_6 => Q r_6)) ∧ (¬ p1 = (1 : Int32) → ((p1 = (2 : Int32) → wp_X3_get p0 5 ((S 4).2.1 2) (fun r_8 => Q r_8)) ∧ (¬ p1 = (2 : Int32) → ((p1 = (3 : Int32) → wp_X5_cellsOfHole p0 (S 4) (fun r_10 => Q r_10)) ∧ (¬ p1 = (3 : Int32) → ((p1 = (4 : Int32) → wp_X5_sizeOfHole p0 (S 4) (fun r_12 => Q r_12)) ∧ (¬ p1 = (4 : Int32) → Q (-2 : Int32)))))))))))) ∧ (r_1 = 0 → Q (-1 : Int32))))
set_option maxHeartbeats 4000000 in
set_option maxRecDepth 100000 in
theorem c_X6_hole (l : Launch) (D : va_G) (cI cZ cW : ClassId) (Z : Nat → Nat → Nat) (Y : Nat → Nat → Nat) (p0 : Int32) (p1 : Int32) (S : Nat → CS) (a : AS) (Q : Int32 → Prop) (hf : wp_X6_hole p0 p1 Z Y S a Q) : Met l yX6_hole (wsA yX6_hole cX6_hole 3 (some .int)) ({ frames := 2, cells := 0, slots := 0, locals := 42 }) (PR D cI cZ cW [.ref (Z 0 0), .int p0, .int p1] (XW cI cZ cW Z Y (Z 1 0) (Z 2 0) S a)) (vp_Si Q) 0 0 (fun _ => False) := by
  refine Met.ofW (cc := cX6_hole) (maxL := 3) (ret := (some .int)) (by decide) rfl ?_
  intro p e s m args below meth c s₁ B hml hv
  obtain ⟨rfl, hP, hK⟩ := hv
  have hx := B.exec
  have hb := B.bytes
  have hr := B.returns
  have hts := atoms_spec (ws := (wsA yX6_hole cX6_hole 3 (some .int))) B.pre
  have ht : ∀ w ∈ lw_g, w.before _ s = true := fun w h => hts w (List.mem_cons_of_mem _ h)
  have hown : s.vm.findClass RX6 = some m.cls := findClass_of_methodNamed B.named
  have hlocks := B.notSynchronized
  have hl := lv_entry ([.ref (Z 0 0), .int p0, .int p1]) (n := 3) (Nat.le_of_ble_eq_true rfl)
  rw [lg_entry_eq]
  generalize (lg_sl ([.ref (Z 0 0), .int p0, .int p1]) ++ List.replicate (3 - (lg_sl ([.ref (Z 0 0), .int p0, .int p1])).length) Slot.unset).toArray = ls at hl ⊢
  have hl : lv_has ls 3 [(0, .ref (Z 0 0)), (1, .int p0), (2, .int p1)] := hl
  unfold wp_X6_hole at hf
  refine lv_aload_n hx hb dX6_hole_0 rfl (lv_at hl 0 rfl) ?_
  refine va_get (D := D) (ci := 4) (v := .ref (Z 1 0)) (C := RX6) (T := TX6) (N := 12) hx hb ht inX6 hown hK hP 0 eX_0 rfl 2 (by decide) (ht _ tw_155) (fun _ h9 => h9) rfl dX6_hole_1 ?_
  refine lv_iload_n hx hb dX6_hole_4 rfl (lv_at hl 1 rfl) ?_
  have hPc : va_P D classes (wD cI cZ (Z 1) (S 1)) s.heap := XP_1 hP
  refine vp_callSi (W.runV (As := [.int p0]) (rest := []) ⟨hx, hb, hml, hown, hts⟩ (c_X1_hasHole l D cI cZ cW (Z 1) p0 (S 1) _ hf) ⟨callB_of 1 hts (gA tw_265) rfl rfl rfl (ht _ tw_2) (ht _ tw_313) hd_X1_hasHole ⟨Nat.le_of_ble_eq_true rfl, Nat.le_of_ble_eq_true rfl⟩, ht _ tw_263, ht _ tw_264⟩ ⟨PR_blind, va_recv hK hP (ci := 1) (q0 := 3) rfl eX_3, fun U hU hW => PR_mk hPc hK hU hW⟩ rfl rfl hl.1 rfl (lv_room (Nat.le_of_ble_eq_true rfl)) dX6_hole_5 ⟨Nat.zero_le _, Nat.zero_le _⟩) (fun r_1 hf => ?_)
  refine lv_if_ne (tgt := 13) hx hb dX6_hole_8 (by decide) (fun c_2 => ?_) (fun c_2 => ?_)
  · have hf := hf.1 c_2
    refine lv_iload_n hx hb dX6_hole_13 rfl (lv_at hl 2 rfl) ?_
    by_cases c_3 : p1 = (0 : Int32)
    · have hf := hf.1 c_3
      refine lv_tableIn (off := 34) (tgt := 48) hx hb dX6_hole_14 (by rw [c_3]; decide) (by rw [c_3]; decide) (by rw [c_3]; first | done | rfl) (by decide) ?_
      refine lv_aload_n hx hb dX6_hole_48 rfl (lv_at hl 0 rfl) ?_
      refine va_get (D := D) (ci := 4) (v := .ref (Z 1 0)) (C := RX6) (T := TX6) (N := 12) hx hb ht inX6 hown hK hP 0 eX_0 rfl 2 (by decide) (ht _ tw_155) (fun _ h9 => h9) rfl dX6_hole_49 ?_
      refine va_get (D := D) (ci := 1) (v := .ref (Z 1 3)) (C := RX1) (T := TX1) (N := 14) hx hb ht inX1 hown hK hP 3 eX_3 rfl 4 (by decide) (ht _ tw_40) (fun _ h9 => h9) rfl dX6_hole_52 ?_
      refine lv_iload_n hx hb dX6_hole_55 rfl (lv_at hl 1 rfl) ?_
      have hPc : va_P D classes (wI cI (Z 1 3) 5 ((S 1).2.1 4)) s.heap := XP_1c3 hP
      refine vp_callSi (W.runS (As := [.ref (Z 1 3), .int p0]) (rest := []) ⟨hx, hb, hml, hown, hts⟩ (c_X3_get l D cI cZ cW (Z 1 3) p0 5 ((S 1).2.1 4) _ hf) ⟨callB_of 2 hts (gA tw_235) rfl rfl rfl (ht _ tw_8) (ht _ tw_276) hd_X3_get ⟨Nat.le_of_ble_eq_true rfl, Nat.le_of_ble_eq_true rfl⟩, ht _ tw_234⟩ ⟨PR_blind, fun U hU hW => PR_mk hPc hK hU hW⟩ rfl rfl hl.1 rfl (lv_room (Nat.le_of_ble_eq_true rfl)) dX6_hole_56 ⟨Nat.zero_le _, Nat.zero_le _⟩) (fun r_4 hf => ?_)
      exact W.iret (v := r_4) hx hb hr (fun t ht hW => ⟨r_4, rfl, hf, ht⟩) (fun q h => absurd h List.not_mem_nil) dX6_hole_59
    · have hf := hf.2 c_3
      by_cases c_5 : p1 = (1 : Int32)
      · have hf := hf.1 c_5
        refine lv_tableIn (off := 46) (tgt := 60) hx hb dX6_hole_14 (by rw [c_5]; decide) (by rw [c_5]; decide) (by rw [c_5]; first | done | rfl) (by decide) ?_
        refine lv_aload_n hx hb dX6_hole_60 rfl (lv_at hl 0 rfl) ?_
        refine va_get (D := D) (ci := 4) (v := .ref (Z 4 0)) (C := RX6) (T := TX6) (N := 12) hx hb ht inX6 hown hK hP 0 eX_0 rfl 5 (by decide) (ht _ tw_158) (fun _ h9 => h9) rfl dX6_hole_61 ?_
        refine va_get (D := D) (ci := 3) (v := .ref (Z 4 2)) (C := RX5) (T := TX5) (N := 6) hx hb ht inX5 hown hK hP 21 eX_21 rfl 1 (by decide) (ht _ tw_93) (fun _ h9 => h9) rfl dX6_hole_64 ?_
        refine lv_iload_n hx hb dX6_hole_67 rfl (lv_at hl 1 rfl) ?_
        have hPc : va_P D classes (wI cI (Z 4 2) 5 ((S 4).2.1 1)) s.heap := XP_4c2 hP
        refine vp_callSi (W.runS (As := [.ref (Z 4 2), .int p0]) (rest := []) ⟨hx, hb, hml, hown, hts⟩ (c_X3_get l D cI cZ cW (Z 4 2) p0 5 ((S 4).2.1 1) _ hf) ⟨callB_of 2 hts (gA tw_235) rfl rfl rfl (ht _ tw_8) (ht _ tw_276) hd_X3_get ⟨Nat.le_of_ble_eq_true rfl, Nat.le_of_ble_eq_true rfl⟩, ht _ tw_234⟩ ⟨PR_blind, fun U hU hW => PR_mk hPc hK hU hW⟩ rfl rfl hl.1 rfl (lv_room (Nat.le_of_ble_eq_true rfl)) dX6_hole_68 ⟨Nat.zero_le _, Nat.zero_le _⟩) (fun r_6 hf => ?_)
        exact W.iret (v := r_6) hx hb hr (fun t ht hW => ⟨r_6, rfl, hf, ht⟩) (fun q h => absurd h List.not_mem_nil) dX6_hole_71
      · have hf := hf.2 c_5
        by_cases c_7 : p1 = (2 : Int32)
        · have hf := hf.1 c_7
          refine lv_tableIn (off := 58) (tgt := 72) hx hb dX6_hole_14 (by rw [c_7]; decide) (by rw [c_7]; decide) (by rw [c_7]; first | done | rfl) (by decide) ?_
          refine lv_aload_n hx hb dX6_hole_72 rfl (lv_at hl 0 rfl) ?_
          refine va_get (D := D) (ci := 4) (v := .ref (Z 4 0)) (C := RX6) (T := TX6) (N := 12) hx hb ht inX6 hown hK hP 0 eX_0 rfl 5 (by decide) (ht _ tw_158) (fun _ h9 => h9) rfl dX6_hole_73 ?_
          refine va_get (D := D) (ci := 3) (v := .ref (Z 4 3)) (C := RX5) (T := TX5) (N := 6) hx hb ht inX5 hown hK hP 21 eX_21 rfl 2 (by decide) (ht _ tw_95) (fun _ h9 => h9) rfl dX6_hole_76 ?_
          refine lv_iload_n hx hb dX6_hole_79 rfl (lv_at hl 1 rfl) ?_
          have hPc : va_P D classes (wI cI (Z 4 3) 5 ((S 4).2.1 2)) s.heap := XP_4c3 hP
          refine vp_callSi (W.runS (As := [.ref (Z 4 3), .int p0]) (rest := []) ⟨hx, hb, hml, hown, hts⟩ (c_X3_get l D cI cZ cW (Z 4 3) p0 5 ((S 4).2.1 2) _ hf) ⟨callB_of 2 hts (gA tw_235) rfl rfl rfl (ht _ tw_8) (ht _ tw_276) hd_X3_get ⟨Nat.le_of_ble_eq_true rfl, Nat.le_of_ble_eq_true rfl⟩, ht _ tw_234⟩ ⟨PR_blind, fun U hU hW => PR_mk hPc hK hU hW⟩ rfl rfl hl.1 rfl (lv_room (Nat.le_of_ble_eq_true rfl)) dX6_hole_80 ⟨Nat.zero_le _, Nat.zero_le _⟩) (fun r_8 hf => ?_)
          exact W.iret (v := r_8) hx hb hr (fun t ht hW => ⟨r_8, rfl, hf, ht⟩) (fun q h => absurd h List.not_mem_nil) dX6_hole_83
        · have hf := hf.2 c_7
          by_cases c_9 : p1 = (3 : Int32)
          · have hf := hf.1 c_9
            refine lv_tableIn (off := 70) (tgt := 84) hx hb dX6_hole_14 (by rw [c_9]; decide) (by rw [c_9]; decide) (by rw [c_9]; first | done | rfl) (by decide) ?_
            refine lv_aload_n hx hb dX6_hole_84 rfl (lv_at hl 0 rfl) ?_
            refine va_get (D := D) (ci := 4) (v := .ref (Z 4 0)) (C := RX6) (T := TX6) (N := 12) hx hb ht inX6 hown hK hP 0 eX_0 rfl 5 (by decide) (ht _ tw_158) (fun _ h9 => h9) rfl dX6_hole_85 ?_
            refine lv_iload_n hx hb dX6_hole_88 rfl (lv_at hl 1 rfl) ?_
            have hPc : va_P D classes (wW cI cZ (Z 4) (S 4)) s.heap := XP_4 hP
            refine vp_callSi (W.runV (As := [.int p0]) (rest := []) ⟨hx, hb, hml, hown, hts⟩ (c_X5_cellsOfHole l D cI cZ cW (Z 4) p0 (S 4) _ hf) ⟨callB_of 1 hts (gA tw_317) rfl rfl rfl (ht _ tw_4) (ht _ tw_314) hd_X5_cellsOfHole ⟨Nat.le_of_ble_eq_true rfl, Nat.le_of_ble_eq_true rfl⟩, ht _ tw_315, ht _ tw_316⟩ ⟨PR_blind, va_recv hK hP (ci := 3) (q0 := 21) rfl eX_21, fun U hU hW => PR_mk hPc hK hU hW⟩ rfl rfl hl.1 rfl (lv_room (Nat.le_of_ble_eq_true rfl)) dX6_hole_89 ⟨Nat.zero_le _, Nat.zero_le _⟩) (fun r_10 hf => ?_)
            exact W.iret (v := r_10) hx hb hr (fun t ht hW => ⟨r_10, rfl, hf, ht⟩) (fun q h => absurd h List.not_mem_nil) dX6_hole_92
          · have hf := hf.2 c_9
            by_cases c_11 : p1 = (4 : Int32)
            · have hf := hf.1 c_11
              refine lv_tableIn (off := 79) (tgt := 93) hx hb dX6_hole_14 (by rw [c_11]; decide) (by rw [c_11]; decide) (by rw [c_11]; first | done | rfl) (by decide) ?_
              refine lv_aload_n hx hb dX6_hole_93 rfl (lv_at hl 0 rfl) ?_
              refine va_get (D := D) (ci := 4) (v := .ref (Z 4 0)) (C := RX6) (T := TX6) (N := 12) hx hb ht inX6 hown hK hP 0 eX_0 rfl 5 (by decide) (ht _ tw_158) (fun _ h9 => h9) rfl dX6_hole_94 ?_
              refine lv_iload_n hx hb dX6_hole_97 rfl (lv_at hl 1 rfl) ?_
              have hPc : va_P D classes (wW cI cZ (Z 4) (S 4)) s.heap := XP_4 hP
              refine vp_callSi (W.runV (As := [.int p0]) (rest := []) ⟨hx, hb, hml, hown, hts⟩ (c_X5_sizeOfHole l D cI cZ cW (Z 4) p0 (S 4) _ hf) ⟨callB_of 1 hts (gA tw_321) rfl rfl rfl (ht _ tw_4) (ht _ tw_318) hd_X5_sizeOfHole ⟨Nat.le_of_ble_eq_true rfl, Nat.le_of_ble_eq_true rfl⟩, ht _ tw_319, ht _ tw_320⟩ ⟨PR_blind, va_recv hK hP (ci := 3) (q0 := 21) rfl eX_21, fun U hU hW => PR_mk hPc hK hU hW⟩ rfl rfl hl.1 rfl (lv_room (Nat.le_of_ble_eq_true rfl)) dX6_hole_98 ⟨Nat.zero_le _, Nat.zero_le _⟩) (fun r_12 hf => ?_)
              exact W.iret (v := r_12) hx hb hr (fun t ht hW => ⟨r_12, rfl, hf, ht⟩) (fun q h => absurd h List.not_mem_nil) dX6_hole_101
            · have hf := hf.2 c_11
              refine lv_tableOut (tgt := 102) hx hb dX6_hole_14 (by have h0 := lv_neT (a := 0) c_3 (by decide); have h1 := lv_neT (a := 1) c_5 (by decide); have h2 := lv_neT (a := 2) c_7 (by decide); have h3 := lv_neT (a := 3) c_9 (by decide); have h4 := lv_neT (a := 4) c_11 (by decide); omega) (by decide) ?_
              refine lv_bipush (v := (-2 : Int32)) hx hb dX6_hole_102 (by decide) ?_
              exact W.iret (v := (-2 : Int32)) hx hb hr (fun t ht hW => ⟨(-2 : Int32), rfl, hf, ht⟩) (fun q h => absurd h List.not_mem_nil) dX6_hole_104
  · have hf := hf.2 c_2
    refine lv_iconst (v := (-1 : Int32)) hx hb dX6_hole_11 (by decide) ?_
    exact W.iret (v := (-1 : Int32)) hx hb hr (fun t ht hW => ⟨(-1 : Int32), rfl, hf, ht⟩) (fun q h => absurd h List.not_mem_nil) dX6_hole_12
def wp_X6_cell (p0 : Int32) (p1 : Int32) (Z : Nat → Nat → Nat) (Y : Nat → Nat → Nat) (S : Nat → CS) (a : AS) (Q : Int32 → Prop) : Prop := wp_X2_hasCell p0 (fun r_1 => ((¬ r_1 = 0 → ((p1 = (0 : Int32) → wp_X5_stuffAt p0 (S 4) (fun r_4 => Q r_4)) ∧ (¬ p1 = (0 : Int32) → ((p1 = (1 : Int32) → wp_X5_holeAt p0 (S 4) (fun r_6 => Q r_6)) ∧ (¬ p1 = (1 : Int32) → ((p1 = (2 : Int32) → wp_X5_ownerAt p0 (S 4) (S 1) (fun r_8 => Q r_8)) ∧ (¬ p1 = (2 : Int32) → Q (-2 : Int32)))))))) ∧ (r_1 = 0 → Q (-1 : Int32))))
set_option maxHeartbeats 4000000 in
set_option maxRecDepth 100000 in
theorem c_X6_cell (l : Launch) (D : va_G) (cI cZ cW : ClassId) (Z : Nat → Nat → Nat) (Y : Nat → Nat → Nat) (p0 : Int32) (p1 : Int32) (S : Nat → CS) (a : AS) (Q : Int32 → Prop) (hf : wp_X6_cell p0 p1 Z Y S a Q) : Met l yX6_cell (wsA yX6_cell cX6_cell 3 (some .int)) ({ frames := 4, cells := 0, slots := 0, locals := 87 }) (PR D cI cZ cW [.ref (Z 0 0), .int p0, .int p1] (XW cI cZ cW Z Y (Z 1 0) (Z 2 0) S a)) (vp_Si Q) 0 0 (fun _ => False) := by
  refine Met.ofW (cc := cX6_cell) (maxL := 3) (ret := (some .int)) (by decide) rfl ?_
  intro p e s m args below meth c s₁ B hml hv
  obtain ⟨rfl, hP, hK⟩ := hv
  have hx := B.exec
  have hb := B.bytes
  have hr := B.returns
  have hts := atoms_spec (ws := (wsA yX6_cell cX6_cell 3 (some .int))) B.pre
  have ht : ∀ w ∈ lw_g, w.before _ s = true := fun w h => hts w (List.mem_cons_of_mem _ h)
  have hown : s.vm.findClass RX6 = some m.cls := findClass_of_methodNamed B.named
  have hlocks := B.notSynchronized
  have hl := lv_entry ([.ref (Z 0 0), .int p0, .int p1]) (n := 3) (Nat.le_of_ble_eq_true rfl)
  rw [lg_entry_eq]
  generalize (lg_sl ([.ref (Z 0 0), .int p0, .int p1]) ++ List.replicate (3 - (lg_sl ([.ref (Z 0 0), .int p0, .int p1])).length) Slot.unset).toArray = ls at hl ⊢
  have hl : lv_has ls 3 [(0, .ref (Z 0 0)), (1, .int p0), (2, .int p1)] := hl
  unfold wp_X6_cell at hf
  refine lv_iload_n hx hb dX6_cell_0 rfl (lv_at hl 1 rfl) ?_
  have hPc : va_P D classes ([] : va_W) s.heap := fun k q h => by simp at h
  refine vp_callSi (W.runS (As := [.int p0]) (rest := []) ⟨hx, hb, hml, hown, hts⟩ (c_X2_hasCell l D cI cZ cW  p0 _ hf) ⟨callB_of 1 hts (gA tw_245) rfl rfl rfl (ht _ tw_9) (ht _ tw_328) hd_X2_hasCell ⟨Nat.le_of_ble_eq_true rfl, Nat.le_of_ble_eq_true rfl⟩, ht _ tw_244⟩ ⟨PR_blind, fun U hU hW => PR_mk hPc hK hU hW⟩ rfl rfl hl.1 rfl (lv_room (Nat.le_of_ble_eq_true rfl)) dX6_cell_1 ⟨Nat.zero_le _, Nat.zero_le _⟩) (fun r_1 hf => ?_)
  refine lv_if_ne (tgt := 9) hx hb dX6_cell_4 (by decide) (fun c_2 => ?_) (fun c_2 => ?_)
  · have hf := hf.1 c_2
    refine lv_iload_n hx hb dX6_cell_9 rfl (lv_at hl 2 rfl) ?_
    by_cases c_3 : p1 = (0 : Int32)
    · have hf := hf.1 c_3
      refine lv_tableIn (off := 26) (tgt := 36) hx hb dX6_cell_10 (by rw [c_3]; decide) (by rw [c_3]; decide) (by rw [c_3]; first | done | rfl) (by decide) ?_
      refine lv_aload_n hx hb dX6_cell_36 rfl (lv_at hl 0 rfl) ?_
      refine va_get (D := D) (ci := 4) (v := .ref (Z 4 0)) (C := RX6) (T := TX6) (N := 12) hx hb ht inX6 hown hK hP 0 eX_0 rfl 5 (by decide) (ht _ tw_158) (fun _ h9 => h9) rfl dX6_cell_37 ?_
      refine lv_iload_n hx hb dX6_cell_40 rfl (lv_at hl 1 rfl) ?_
      have hPc : va_P D classes (wW cI cZ (Z 4) (S 4)) s.heap := XP_4 hP
      refine vp_callSi (W.runV (As := [.int p0]) (rest := []) ⟨hx, hb, hml, hown, hts⟩ (c_X5_stuffAt l D cI cZ cW (Z 4) p0 (S 4) _ hf) ⟨callB_of 1 hts (gA tw_332) rfl rfl rfl (ht _ tw_4) (ht _ tw_329) hd_X5_stuffAt ⟨Nat.le_of_ble_eq_true rfl, Nat.le_of_ble_eq_true rfl⟩, ht _ tw_330, ht _ tw_331⟩ ⟨PR_blind, va_recv hK hP (ci := 3) (q0 := 21) rfl eX_21, fun U hU hW => PR_mk hPc hK hU hW⟩ rfl rfl hl.1 rfl (lv_room (Nat.le_of_ble_eq_true rfl)) dX6_cell_41 ⟨Nat.zero_le _, Nat.zero_le _⟩) (fun r_4 hf => ?_)
      exact W.iret (v := r_4) hx hb hr (fun t ht hW => ⟨r_4, rfl, hf, ht⟩) (fun q h => absurd h List.not_mem_nil) dX6_cell_44
    · have hf := hf.2 c_3
      by_cases c_5 : p1 = (1 : Int32)
      · have hf := hf.1 c_5
        refine lv_tableIn (off := 35) (tgt := 45) hx hb dX6_cell_10 (by rw [c_5]; decide) (by rw [c_5]; decide) (by rw [c_5]; first | done | rfl) (by decide) ?_
        refine lv_aload_n hx hb dX6_cell_45 rfl (lv_at hl 0 rfl) ?_
        refine va_get (D := D) (ci := 4) (v := .ref (Z 4 0)) (C := RX6) (T := TX6) (N := 12) hx hb ht inX6 hown hK hP 0 eX_0 rfl 5 (by decide) (ht _ tw_158) (fun _ h9 => h9) rfl dX6_cell_46 ?_
        refine lv_iload_n hx hb dX6_cell_49 rfl (lv_at hl 1 rfl) ?_
        have hPc : va_P D classes (wW cI cZ (Z 4) (S 4)) s.heap := XP_4 hP
        refine vp_callSi (W.runV (As := [.int p0]) (rest := []) ⟨hx, hb, hml, hown, hts⟩ (c_X5_holeAt l D cI cZ cW (Z 4) p0 (S 4) _ hf) ⟨callB_of 1 hts (gA tw_336) rfl rfl rfl (ht _ tw_4) (ht _ tw_333) hd_X5_holeAt ⟨Nat.le_of_ble_eq_true rfl, Nat.le_of_ble_eq_true rfl⟩, ht _ tw_334, ht _ tw_335⟩ ⟨PR_blind, va_recv hK hP (ci := 3) (q0 := 21) rfl eX_21, fun U hU hW => PR_mk hPc hK hU hW⟩ rfl rfl hl.1 rfl (lv_room (Nat.le_of_ble_eq_true rfl)) dX6_cell_50 ⟨Nat.zero_le _, Nat.zero_le _⟩) (fun r_6 hf => ?_)
        exact W.iret (v := r_6) hx hb hr (fun t ht hW => ⟨r_6, rfl, hf, ht⟩) (fun q h => absurd h List.not_mem_nil) dX6_cell_53
      · have hf := hf.2 c_5
        by_cases c_7 : p1 = (2 : Int32)
        · have hf := hf.1 c_7
          refine lv_tableIn (off := 44) (tgt := 54) hx hb dX6_cell_10 (by rw [c_7]; decide) (by rw [c_7]; decide) (by rw [c_7]; first | done | rfl) (by decide) ?_
          refine lv_aload_n hx hb dX6_cell_54 rfl (lv_at hl 0 rfl) ?_
          refine va_get (D := D) (ci := 4) (v := .ref (Z 4 0)) (C := RX6) (T := TX6) (N := 12) hx hb ht inX6 hown hK hP 0 eX_0 rfl 5 (by decide) (ht _ tw_158) (fun _ h9 => h9) rfl dX6_cell_55 ?_
          refine lv_aload_n hx hb dX6_cell_58 rfl (lv_at hl 0 rfl) ?_
          refine va_get (D := D) (ci := 4) (v := .ref (Z 1 0)) (C := RX6) (T := TX6) (N := 12) hx hb ht inX6 hown hK hP 0 eX_0 rfl 2 (by decide) (ht _ tw_155) (fun _ h9 => h9) rfl dX6_cell_59 ?_
          refine lv_iload_n hx hb dX6_cell_62 rfl (lv_at hl 1 rfl) ?_
          have hPc : va_P D classes (wW cI cZ (Z 4) (S 4) ++ wD cI cZ (Z 1) (S 1)) s.heap := XP_4_1 hP
          refine vp_callSi (W.runV (As := [.ref (Z 1 0), .int p0]) (rest := []) ⟨hx, hb, hml, hown, hts⟩ (c_X5_ownerAt l D cI cZ cW (Z 4) (Z 1) p0 (S 4) (S 1) _ hf) ⟨callB_of 2 hts (gA tw_340) rfl rfl rfl (ht _ tw_4) (ht _ tw_337) hd_X5_ownerAt ⟨Nat.le_of_ble_eq_true rfl, Nat.le_of_ble_eq_true rfl⟩, ht _ tw_338, ht _ tw_339⟩ ⟨PR_blind, va_recv hK hP (ci := 3) (q0 := 21) rfl eX_21, fun U hU hW => PR_mk hPc hK hU hW⟩ rfl rfl hl.1 rfl (lv_room (Nat.le_of_ble_eq_true rfl)) dX6_cell_63 ⟨Nat.zero_le _, Nat.zero_le _⟩) (fun r_8 hf => ?_)
          exact W.iret (v := r_8) hx hb hr (fun t ht hW => ⟨r_8, rfl, hf, ht⟩) (fun q h => absurd h List.not_mem_nil) dX6_cell_66
        · have hf := hf.2 c_7
          refine lv_tableOut (tgt := 67) hx hb dX6_cell_10 (by have h0 := lv_neT (a := 0) c_3 (by decide); have h1 := lv_neT (a := 1) c_5 (by decide); have h2 := lv_neT (a := 2) c_7 (by decide); omega) (by decide) ?_
          refine lv_bipush (v := (-2 : Int32)) hx hb dX6_cell_67 (by decide) ?_
          exact W.iret (v := (-2 : Int32)) hx hb hr (fun t ht hW => ⟨(-2 : Int32), rfl, hf, ht⟩) (fun q h => absurd h List.not_mem_nil) dX6_cell_69
  · have hf := hf.2 c_2
    refine lv_iconst (v := (-1 : Int32)) hx hb dX6_cell_7 (by decide) ?_
    exact W.iret (v := (-1 : Int32)) hx hb hr (fun t ht hW => ⟨(-1 : Int32), rfl, hf, ht⟩) (fun q h => absurd h List.not_mem_nil) dX6_cell_8
def wp_X6_day (Z : Nat → Nat → Nat) (Y : Nat → Nat → Nat) (S : Nat → CS) (a : AS) (Q : Int32 → (Nat → CS) → AS → Prop) : Prop := wp_X0_remember Y a (S 4) (fun a_1 s_2 => ∀ S_3 : Nat → CS, S_3 = va_up S 4 s_2 → wp_X5_passDay (S_3 4) (S_3 1) (fun r_4 s_5 s_6 => ∀ S_7 : Nat → CS, S_7 = va_up (va_up S_3 4 s_5) 1 s_6 → Q r_4 S_7 a_1))
set_option maxHeartbeats 4000000 in
set_option maxRecDepth 100000 in
theorem c_X6_day (l : Launch) (D : va_G) (cI cZ cW : ClassId) (Z : Nat → Nat → Nat) (Y : Nat → Nat → Nat) (sz : Nat) (S : Nat → CS) (a : AS) (Q : Int32 → (Nat → CS) → AS → Prop) (hf : wp_X6_day Z Y S a Q) : Met l yX6_day (wsA yX6_day cX6_day 1 (some .int)) ({ frames := 5, cells := 0, slots := 0, locals := 115 }) (PW D cI cZ cW [.ref (Z 0 0)] (XW cI cZ cW Z Y (Z 1 0) (Z 2 0) S a) sz) (va_Qi (fun (r : Int32) (u : (Nat → CS) × AS) => Q r u.1 u.2) (fun u t => va_P D classes (XW cI cZ cW Z Y (Z 1 0) (Z 2 0) u.1 u.2) t.heap) (va_A (XW cI cZ cW Z Y (Z 1 0) (Z 2 0) S a) sz)) 0 0 (va_A (XW cI cZ cW Z Y (Z 1 0) (Z 2 0) S a) sz) := by
  refine Met.ofW (cc := cX6_day) (maxL := 1) (ret := (some .int)) (by decide) rfl ?_
  intro p e s m args below meth c s₁ B hml hv
  obtain ⟨rfl, hsz, hP, hK, hD0⟩ := hv
  have hx := B.exec
  have hb := B.bytes
  have hr := B.returns
  have hts := atoms_spec (ws := (wsA yX6_day cX6_day 1 (some .int))) B.pre
  have ht : ∀ w ∈ lw_g, w.before _ s = true := fun w h => hts w (List.mem_cons_of_mem _ h)
  have hown : s.vm.findClass RX6 = some m.cls := findClass_of_methodNamed B.named
  have hlocks := B.notSynchronized
  subst hsz
  have hD := hD0.self (sz := s.heap.size)
  generalize hAe : va_A (XW cI cZ cW Z Y (Z 1 0) (Z 2 0) S a) s.heap.size = A at hD ⊢
  have hA : ∀ q : Nat, s.heap.size ≤ q → A q := fun q h => by rw [← hAe]; exact Or.inr h
  have hS : va_S A s.heap s.heap [] := va_S.rf
  have hDk : ∀ (x : Nat → CS) (y : AS), va_D A (XW cI cZ cW Z Y (Z 1 0) (Z 2 0) x y) := fun x y => D_X hD
  have hl := lv_entry ([.ref (Z 0 0)]) (n := 1) (Nat.le_of_ble_eq_true rfl)
  rw [lg_entry_eq]
  generalize (lg_sl ([.ref (Z 0 0)]) ++ List.replicate (1 - (lg_sl ([.ref (Z 0 0)])).length) Slot.unset).toArray = ls at hl ⊢
  have hl : lv_has ls 1 [(0, .ref (Z 0 0))] := hl
  unfold wp_X6_day at hf
  have start : ∀ (H : Heap) (locs : List Loc), va_P D classes (XW cI cZ cW Z Y (Z 1 0) (Z 2 0) S a) H → va_D A (XW cI cZ cW Z Y (Z 1 0) (Z 2 0) S a) → va_S A s.heap H locs → W p l e (headSpec (wsA yX6_day cX6_day 1 (some .int)) ({ frames := 5, cells := 0, slots := 0, locals := 115 })).room s m (#[.ref (Z 0 0)] : Array Value) below meth c H locs 0 0 (MQ below (va_Qi (fun (r : Int32) (u : (Nat → CS) × AS) => Q r u.1 u.2) (fun u t => va_P D classes (XW cI cZ cW Z Y (Z 1 0) (Z 2 0) u.1 u.2) t.heap) A) (#[.ref (Z 0 0)] : Array Value) s 0 0 A) (F0 m 0 ls []) := by
    intro H locs hP hD hS
    refine lv_aload_n hx hb dX6_day_0 rfl (lv_at hl 0 rfl) ?_
    refine va_get (D := D) (ci := 4) (v := .ref (Z 9 0)) (C := RX6) (T := TX6) (N := 12) hx hb ht inX6 hown hK hP 0 eX_0 rfl 7 (by decide) (ht _ tw_160) (fun _ h9 => h9) rfl dX6_day_1 ?_
    refine lv_aload_n hx hb dX6_day_4 rfl (lv_at hl 0 rfl) ?_
    refine va_get (D := D) (ci := 4) (v := .ref (Z 4 0)) (C := RX6) (T := TX6) (N := 12) hx hb ht inX6 hown hK hP 0 eX_0 rfl 5 (by decide) (ht _ tw_158) (fun _ h9 => h9) rfl dX6_day_5 ?_
    have hPc : va_P D classes (AW cI cZ cW (Z 9) (Z 4) Y a (S 4)) H := XP_9_4 hP
    have hDc : va_D A (AW cI cZ cW (Z 9) (Z 4) Y a (S 4)) := XD_9_4 hD
    have hFc := va_freeX hDc hS hA
    refine va_callv (va_runV (As := [.ref (Z 4 0)]) (rest := []) ⟨hx, hb, hml, hown, hts⟩ (c_X0_remember l D cI cZ cW (Z 9) (Z 4) Y H.size a (S 4) _ hf) ⟨callB_of 1 hts (gA tw_350) rfl rfl rfl (ht _ tw_5) (ht _ tw_347) hd_X0_remember ⟨Nat.le_of_ble_eq_true rfl, Nat.le_of_ble_eq_true rfl⟩, ht _ tw_348, ht _ tw_349⟩ ⟨PW_blind, va_recv hK hP (ci := 0) (q0 := 45) rfl eX_45, fun U hU hW => PW_mk hPc hDc hK hU hW⟩ rfl rfl hl.1 rfl (lv_room (Nat.le_of_ble_eq_true rfl)) dX6_day_8 ⟨Nat.zero_le _, Nat.zero_le _⟩) hS (fun q _ h => hFc q h) hFc (fun u t H1 locs ht1 hvm hf hB hz1 hk1 hS => ?_)
    obtain ⟨a_1, s_2⟩ := u
    dsimp only at hf hB
    rw [ht1] at hB
    have hP := XJ_9_4 hP hD hk1 hB
    generalize H1 = H at hP hS ⊢
    obtain ⟨S_3, eS_3⟩ : ∃ y : Nat → CS, y = va_up S 4 s_2 := ⟨_, rfl⟩
    have hf := hf S_3 eS_3
    have hP : va_P D classes (XW cI cZ cW Z Y (Z 1 0) (Z 2 0) S_3 a_1) H := by rw [eS_3]; exact hP
    have hD := hDk S_3 a_1
    refine lv_aload_n hx hb dX6_day_11 rfl (lv_at hl 0 rfl) ?_
    refine va_get (D := D) (ci := 4) (v := .ref (Z 4 0)) (C := RX6) (T := TX6) (N := 12) hx hb ht inX6 hown hK hP 0 eX_0 rfl 5 (by decide) (ht _ tw_158) (fun _ h9 => h9) rfl dX6_day_12 ?_
    refine lv_aload_n hx hb dX6_day_15 rfl (lv_at hl 0 rfl) ?_
    refine va_get (D := D) (ci := 4) (v := .ref (Z 1 0)) (C := RX6) (T := TX6) (N := 12) hx hb ht inX6 hown hK hP 0 eX_0 rfl 2 (by decide) (ht _ tw_155) (fun _ h9 => h9) rfl dX6_day_16 ?_
    have hPc : va_P D classes (wW cI cZ (Z 4) (S_3 4) ++ wD cI cZ (Z 1) (S_3 1)) H := XP_4_1 hP
    have hDc : va_D A (wW cI cZ (Z 4) (S_3 4) ++ wD cI cZ (Z 1) (S_3 1)) := XD_4_1 hD
    have hFc := va_freeX hDc hS hA
    refine va_calli (va_runV (As := [.ref (Z 1 0)]) (rest := []) ⟨hx, hb, hml, hown, hts⟩ (c_X5_passDay l D cI cZ cW (Z 4) (Z 1) H.size (S_3 4) (S_3 1) _ hf) ⟨callB_of 1 hts (gA tw_369) rfl rfl rfl (ht _ tw_4) (ht _ tw_366) hd_X5_passDay ⟨Nat.le_of_ble_eq_true rfl, Nat.le_of_ble_eq_true rfl⟩, ht _ tw_367, ht _ tw_368⟩ ⟨PW_blind, va_recv hK hP (ci := 3) (q0 := 21) rfl eX_21, fun U hU hW => PW_mk hPc hDc hK hU hW⟩ rfl rfl hl.1 rfl (lv_room (Nat.le_of_ble_eq_true rfl)) dX6_day_19 ⟨Nat.zero_le _, Nat.zero_le _⟩) hS (fun q _ h => hFc q h) hFc (fun r_4 u t H1 locs ht1 hvm hf hB hz1 hk1 hS => ?_)
    obtain ⟨s_5, s_6⟩ := u
    dsimp only at hf hB
    rw [ht1] at hB
    have hP := XJ_4_1 hP hD hk1 hB
    generalize H1 = H at hP hS ⊢
    obtain ⟨S_7, eS_7⟩ : ∃ y : Nat → CS, y = va_up (va_up S_3 4 s_5) 1 s_6 := ⟨_, rfl⟩
    have hf := hf S_7 eS_7
    have hP : va_P D classes (XW cI cZ cW Z Y (Z 1 0) (Z 2 0) S_7 a_1) H := by rw [eS_7]; exact hP
    have hD := hDk S_7 a_1
    exact W.iret (v := r_4) hx hb hr (fun t ht hW => ⟨⟨r_4, (S_7, a_1), rfl, hf, P_heap ht hP⟩, hS.F ht⟩) hS.2.2 dX6_day_22
  exact start s.heap [] hP hD hS
def wp_X6_eat (p0 : Int32) (p1 : Int32) (Z : Nat → Nat → Nat) (Y : Nat → Nat → Nat) (S : Nat → CS) (a : AS) (Q : Int32 → (Nat → CS) → AS → Prop) : Prop := wp_X5_refusalToEat p0 p1 (S 4) (S 1) (fun r_1 => ((r_1 = 0 → wp_X0_remember Y a (S 4) (fun a_3 s_4 => ∀ S_5 : Nat → CS, S_5 = va_up S 4 s_4 → wp_X5_eatCell p0 p1 (S_5 4) (S_5 1) (fun r_6 s_7 s_8 => ∀ S_9 : Nat → CS, S_9 = va_up (va_up S_5 4 s_7) 1 s_8 → Q r_6 S_9 a_3))) ∧ (¬ r_1 = 0 → Q r_1 S a)))
set_option maxHeartbeats 4000000 in
set_option maxRecDepth 100000 in
theorem c_X6_eat (l : Launch) (D : va_G) (cI cZ cW : ClassId) (Z : Nat → Nat → Nat) (Y : Nat → Nat → Nat) (sz : Nat) (p0 : Int32) (p1 : Int32) (S : Nat → CS) (a : AS) (Q : Int32 → (Nat → CS) → AS → Prop) (hf : wp_X6_eat p0 p1 Z Y S a Q) : Met l yX6_eat (wsA yX6_eat cX6_eat 4 (some .int)) ({ frames := 5, cells := 0, slots := 0, locals := 114 }) (PW D cI cZ cW [.ref (Z 0 0), .int p0, .int p1] (XW cI cZ cW Z Y (Z 1 0) (Z 2 0) S a) sz) (va_Qi (fun (r : Int32) (u : (Nat → CS) × AS) => Q r u.1 u.2) (fun u t => va_P D classes (XW cI cZ cW Z Y (Z 1 0) (Z 2 0) u.1 u.2) t.heap) (va_A (XW cI cZ cW Z Y (Z 1 0) (Z 2 0) S a) sz)) 0 0 (va_A (XW cI cZ cW Z Y (Z 1 0) (Z 2 0) S a) sz) := by
  refine Met.ofW (cc := cX6_eat) (maxL := 4) (ret := (some .int)) (by decide) rfl ?_
  intro p e s m args below meth c s₁ B hml hv
  obtain ⟨rfl, hsz, hP, hK, hD0⟩ := hv
  have hx := B.exec
  have hb := B.bytes
  have hr := B.returns
  have hts := atoms_spec (ws := (wsA yX6_eat cX6_eat 4 (some .int))) B.pre
  have ht : ∀ w ∈ lw_g, w.before _ s = true := fun w h => hts w (List.mem_cons_of_mem _ h)
  have hown : s.vm.findClass RX6 = some m.cls := findClass_of_methodNamed B.named
  have hlocks := B.notSynchronized
  subst hsz
  have hD := hD0.self (sz := s.heap.size)
  generalize hAe : va_A (XW cI cZ cW Z Y (Z 1 0) (Z 2 0) S a) s.heap.size = A at hD ⊢
  have hA : ∀ q : Nat, s.heap.size ≤ q → A q := fun q h => by rw [← hAe]; exact Or.inr h
  have hS : va_S A s.heap s.heap [] := va_S.rf
  have hDk : ∀ (x : Nat → CS) (y : AS), va_D A (XW cI cZ cW Z Y (Z 1 0) (Z 2 0) x y) := fun x y => D_X hD
  have hl := lv_entry ([.ref (Z 0 0), .int p0, .int p1]) (n := 4) (Nat.le_of_ble_eq_true rfl)
  rw [lg_entry_eq]
  generalize (lg_sl ([.ref (Z 0 0), .int p0, .int p1]) ++ List.replicate (4 - (lg_sl ([.ref (Z 0 0), .int p0, .int p1])).length) Slot.unset).toArray = ls at hl ⊢
  have hl : lv_has ls 4 [(0, .ref (Z 0 0)), (1, .int p0), (2, .int p1)] := hl
  unfold wp_X6_eat at hf
  have start : ∀ (H : Heap) (locs : List Loc), va_P D classes (XW cI cZ cW Z Y (Z 1 0) (Z 2 0) S a) H → va_D A (XW cI cZ cW Z Y (Z 1 0) (Z 2 0) S a) → va_S A s.heap H locs → W p l e (headSpec (wsA yX6_eat cX6_eat 4 (some .int)) ({ frames := 5, cells := 0, slots := 0, locals := 114 })).room s m (#[.ref (Z 0 0), .int p0, .int p1] : Array Value) below meth c H locs 0 0 (MQ below (va_Qi (fun (r : Int32) (u : (Nat → CS) × AS) => Q r u.1 u.2) (fun u t => va_P D classes (XW cI cZ cW Z Y (Z 1 0) (Z 2 0) u.1 u.2) t.heap) A) (#[.ref (Z 0 0), .int p0, .int p1] : Array Value) s 0 0 A) (F0 m 0 ls []) := by
    intro H locs hP hD hS
    refine lv_aload_n hx hb dX6_eat_0 rfl (lv_at hl 0 rfl) ?_
    refine va_get (D := D) (ci := 4) (v := .ref (Z 4 0)) (C := RX6) (T := TX6) (N := 12) hx hb ht inX6 hown hK hP 0 eX_0 rfl 5 (by decide) (ht _ tw_158) (fun _ h9 => h9) rfl dX6_eat_1 ?_
    refine lv_aload_n hx hb dX6_eat_4 rfl (lv_at hl 0 rfl) ?_
    refine va_get (D := D) (ci := 4) (v := .ref (Z 1 0)) (C := RX6) (T := TX6) (N := 12) hx hb ht inX6 hown hK hP 0 eX_0 rfl 2 (by decide) (ht _ tw_155) (fun _ h9 => h9) rfl dX6_eat_5 ?_
    refine lv_iload_n hx hb dX6_eat_8 rfl (lv_at hl 1 rfl) ?_
    refine lv_iload_n hx hb dX6_eat_9 rfl (lv_at hl 2 rfl) ?_
    have hPc : va_P D classes (wW cI cZ (Z 4) (S 4) ++ wD cI cZ (Z 1) (S 1)) H := XP_4_1 hP
    refine vp_callSi (W.runV (As := [.ref (Z 1 0), .int p0, .int p1]) (rest := []) ⟨hx, hb, hml, hown, hts⟩ (c_X5_refusalToEat l D cI cZ cW (Z 4) (Z 1) p0 p1 (S 4) (S 1) _ hf) ⟨callB_of 3 hts (gA tw_428) rfl rfl rfl (ht _ tw_4) (ht _ tw_425) hd_X5_refusalToEat ⟨Nat.le_of_ble_eq_true rfl, Nat.le_of_ble_eq_true rfl⟩, ht _ tw_426, ht _ tw_427⟩ ⟨PR_blind, va_recv hK hP (ci := 3) (q0 := 21) rfl eX_21, fun U hU hW => PR_mk hPc hK hU hW⟩ rfl rfl hl.1 rfl (lv_room (Nat.le_of_ble_eq_true rfl)) dX6_eat_10 ⟨Nat.zero_le _, Nat.zero_le _⟩) (fun r_1 hf => ?_)
    refine lv_istore_n (lv' := [(3, .int r_1), (0, .ref (Z 0 0)), (1, .int p0), (2, .int p1)]) hx hb dX6_eat_13 rfl hl (by decide) rfl (fun ls hl => ?_)
    refine lv_iload_n hx hb dX6_eat_14 rfl (lv_at hl 0 rfl) ?_
    refine lv_if_eq (tgt := 20) hx hb dX6_eat_15 (by decide) (fun c_2 => ?_) (fun c_2 => ?_)
    · have hf := hf.1 c_2
      refine lv_aload_n hx hb dX6_eat_20 rfl (lv_at hl 1 rfl) ?_
      refine va_get (D := D) (ci := 4) (v := .ref (Z 9 0)) (C := RX6) (T := TX6) (N := 12) hx hb ht inX6 hown hK hP 0 eX_0 rfl 7 (by decide) (ht _ tw_160) (fun _ h9 => h9) rfl dX6_eat_21 ?_
      refine lv_aload_n hx hb dX6_eat_24 rfl (lv_at hl 1 rfl) ?_
      refine va_get (D := D) (ci := 4) (v := .ref (Z 4 0)) (C := RX6) (T := TX6) (N := 12) hx hb ht inX6 hown hK hP 0 eX_0 rfl 5 (by decide) (ht _ tw_158) (fun _ h9 => h9) rfl dX6_eat_25 ?_
      have hPc : va_P D classes (AW cI cZ cW (Z 9) (Z 4) Y a (S 4)) H := XP_9_4 hP
      have hDc : va_D A (AW cI cZ cW (Z 9) (Z 4) Y a (S 4)) := XD_9_4 hD
      have hFc := va_freeX hDc hS hA
      refine va_callv (va_runV (As := [.ref (Z 4 0)]) (rest := []) ⟨hx, hb, hml, hown, hts⟩ (c_X0_remember l D cI cZ cW (Z 9) (Z 4) Y H.size a (S 4) _ hf) ⟨callB_of 1 hts (gA tw_350) rfl rfl rfl (ht _ tw_5) (ht _ tw_347) hd_X0_remember ⟨Nat.le_of_ble_eq_true rfl, Nat.le_of_ble_eq_true rfl⟩, ht _ tw_348, ht _ tw_349⟩ ⟨PW_blind, va_recv hK hP (ci := 0) (q0 := 45) rfl eX_45, fun U hU hW => PW_mk hPc hDc hK hU hW⟩ rfl rfl hl.1 rfl (lv_room (Nat.le_of_ble_eq_true rfl)) dX6_eat_28 ⟨Nat.zero_le _, Nat.zero_le _⟩) hS (fun q _ h => hFc q h) hFc (fun u t H1 locs ht1 hvm hf hB hz1 hk1 hS => ?_)
      obtain ⟨a_3, s_4⟩ := u
      dsimp only at hf hB
      rw [ht1] at hB
      have hP := XJ_9_4 hP hD hk1 hB
      generalize H1 = H at hP hS ⊢
      obtain ⟨S_5, eS_5⟩ : ∃ y : Nat → CS, y = va_up S 4 s_4 := ⟨_, rfl⟩
      have hf := hf S_5 eS_5
      have hP : va_P D classes (XW cI cZ cW Z Y (Z 1 0) (Z 2 0) S_5 a_3) H := by rw [eS_5]; exact hP
      have hD := hDk S_5 a_3
      refine lv_aload_n hx hb dX6_eat_31 rfl (lv_at hl 1 rfl) ?_
      refine va_get (D := D) (ci := 4) (v := .ref (Z 4 0)) (C := RX6) (T := TX6) (N := 12) hx hb ht inX6 hown hK hP 0 eX_0 rfl 5 (by decide) (ht _ tw_158) (fun _ h9 => h9) rfl dX6_eat_32 ?_
      refine lv_aload_n hx hb dX6_eat_35 rfl (lv_at hl 1 rfl) ?_
      refine va_get (D := D) (ci := 4) (v := .ref (Z 1 0)) (C := RX6) (T := TX6) (N := 12) hx hb ht inX6 hown hK hP 0 eX_0 rfl 2 (by decide) (ht _ tw_155) (fun _ h9 => h9) rfl dX6_eat_36 ?_
      refine lv_iload_n hx hb dX6_eat_39 rfl (lv_at hl 2 rfl) ?_
      refine lv_iload_n hx hb dX6_eat_40 rfl (lv_at hl 3 rfl) ?_
      have hPc : va_P D classes (wW cI cZ (Z 4) (S_5 4) ++ wD cI cZ (Z 1) (S_5 1)) H := XP_4_1 hP
      have hDc : va_D A (wW cI cZ (Z 4) (S_5 4) ++ wD cI cZ (Z 1) (S_5 1)) := XD_4_1 hD
      have hFc := va_freeX hDc hS hA
      refine va_calli (va_runV (As := [.ref (Z 1 0), .int p0, .int p1]) (rest := []) ⟨hx, hb, hml, hown, hts⟩ (c_X5_eatCell l D cI cZ cW (Z 4) (Z 1) H.size p0 p1 (S_5 4) (S_5 1) _ hf) ⟨callB_of 3 hts (gA tw_433) rfl rfl rfl (ht _ tw_4) (ht _ tw_430) hd_X5_eatCell ⟨Nat.le_of_ble_eq_true rfl, Nat.le_of_ble_eq_true rfl⟩, ht _ tw_431, ht _ tw_432⟩ ⟨PW_blind, va_recv hK hP (ci := 3) (q0 := 21) rfl eX_21, fun U hU hW => PW_mk hPc hDc hK hU hW⟩ rfl rfl hl.1 rfl (lv_room (Nat.le_of_ble_eq_true rfl)) dX6_eat_41 ⟨Nat.zero_le _, Nat.zero_le _⟩) hS (fun q _ h => hFc q h) hFc (fun r_6 u t H1 locs ht1 hvm hf hB hz1 hk1 hS => ?_)
      obtain ⟨s_7, s_8⟩ := u
      dsimp only at hf hB
      rw [ht1] at hB
      have hP := XJ_4_1 hP hD hk1 hB
      generalize H1 = H at hP hS ⊢
      obtain ⟨S_9, eS_9⟩ : ∃ y : Nat → CS, y = va_up (va_up S_5 4 s_7) 1 s_8 := ⟨_, rfl⟩
      have hf := hf S_9 eS_9
      have hP : va_P D classes (XW cI cZ cW Z Y (Z 1 0) (Z 2 0) S_9 a_3) H := by rw [eS_9]; exact hP
      have hD := hDk S_9 a_3
      exact W.iret (v := r_6) hx hb hr (fun t ht hW => ⟨⟨r_6, (S_9, a_3), rfl, hf, P_heap ht hP⟩, hS.F ht⟩) hS.2.2 dX6_eat_44
    · have hf := hf.2 c_2
      refine lv_iload_n hx hb dX6_eat_18 rfl (lv_at hl 0 rfl) ?_
      exact W.iret (v := r_1) hx hb hr (fun t ht hW => ⟨⟨r_1, (S, a), rfl, hf, P_heap ht hP⟩, hS.F ht⟩) hS.2.2 dX6_eat_19
  exact start s.heap [] hP hD hS
