theorem dX5_init_0 : decode cX5_init 0 = .ok (.aload_n 0, 1) := by decide +kernel
theorem dX5_init_1 : decode cX5_init 1 = .ok (.invokespecial 3, 3) := by decide +kernel
theorem dX5_init_4 : decode cX5_init 4 = .ok (.aload_n 0, 1) := by decide +kernel
theorem dX5_init_5 : decode cX5_init 5 = .ok (.new 9, 3) := by decide +kernel
theorem dX5_init_8 : decode cX5_init 8 = .ok (.dup, 1) := by decide +kernel
theorem dX5_init_9 : decode cX5_init 9 = .ok (.invokespecial 11, 3) := by decide +kernel
theorem dX5_init_12 : decode cX5_init 12 = .ok (.putfield 12, 3) := by decide +kernel
theorem dX5_init_15 : decode cX5_init 15 = .ok (.aload_n 0, 1) := by decide +kernel
theorem dX5_init_16 : decode cX5_init 16 = .ok (.iconst 4, 1) := by decide +kernel
theorem dX5_init_17 : decode cX5_init 17 = .ok (.anewarray 16, 3) := by decide +kernel
theorem dX5_init_20 : decode cX5_init 20 = .ok (.putfield 18, 3) := by decide +kernel
theorem dX5_init_23 : decode cX5_init 23 = .ok (.aload_n 0, 1) := by decide +kernel
theorem dX5_init_24 : decode cX5_init 24 = .ok (.iconst 3, 1) := by decide +kernel
theorem dX5_init_25 : decode cX5_init 25 = .ok (.anewarray 22, 3) := by decide +kernel
theorem dX5_init_28 : decode cX5_init 28 = .ok (.putfield 24, 3) := by decide +kernel
theorem dX5_init_31 : decode cX5_init 31 = .ok (.aload_n 0, 1) := by decide +kernel
theorem dX5_init_32 : decode cX5_init 32 = .ok (.iconst 4, 1) := by decide +kernel
theorem dX5_init_33 : decode cX5_init 33 = .ok (.anewarray 28, 3) := by decide +kernel
theorem dX5_init_36 : decode cX5_init 36 = .ok (.putfield 30, 3) := by decide +kernel
theorem dX5_init_39 : decode cX5_init 39 = .ok (.aload_n 0, 1) := by decide +kernel
theorem dX5_init_40 : decode cX5_init 40 = .ok (.new 34, 3) := by decide +kernel
theorem dX5_init_43 : decode cX5_init 43 = .ok (.dup, 1) := by decide +kernel
theorem dX5_init_44 : decode cX5_init 44 = .ok (.invokespecial 36, 3) := by decide +kernel
theorem dX5_init_47 : decode cX5_init 47 = .ok (.putfield 37, 3) := by decide +kernel
theorem dX5_init_50 : decode cX5_init 50 = .ok (.aload_n 0, 1) := by decide +kernel
theorem dX5_init_51 : decode cX5_init 51 = .ok (.iconst 0, 1) := by decide +kernel
theorem dX5_init_52 : decode cX5_init 52 = .ok (.putfield 41, 3) := by decide +kernel
theorem dX5_init_55 : decode cX5_init 55 = .ok (.iconst 0, 1) := by decide +kernel
theorem dX5_init_56 : decode cX5_init 56 = .ok (.istore_n 1, 1) := by decide +kernel
theorem dX5_init_57 : decode cX5_init 57 = .ok (.iload_n 1, 1) := by decide +kernel
theorem dX5_init_58 : decode cX5_init 58 = .ok (.iconst 4, 1) := by decide +kernel
theorem dX5_init_59 : decode cX5_init 59 = .ok (.if_icmp .ge 22, 3) := by decide +kernel
theorem dX5_init_62 : decode cX5_init 62 = .ok (.aload_n 0, 1) := by decide +kernel
theorem dX5_init_63 : decode cX5_init 63 = .ok (.getfield 18, 3) := by decide +kernel
theorem dX5_init_66 : decode cX5_init 66 = .ok (.iload_n 1, 1) := by decide +kernel
theorem dX5_init_67 : decode cX5_init 67 = .ok (.new 16, 3) := by decide +kernel
theorem dX5_init_70 : decode cX5_init 70 = .ok (.dup, 1) := by decide +kernel
theorem dX5_init_71 : decode cX5_init 71 = .ok (.invokespecial 45, 3) := by decide +kernel
theorem dX5_init_74 : decode cX5_init 74 = .ok (.aastore, 1) := by decide +kernel
theorem dX5_init_75 : decode cX5_init 75 = .ok (.iinc 1 1, 3) := by decide +kernel
theorem dX5_init_78 : decode cX5_init 78 = .ok (.goto (-21), 3) := by decide +kernel
theorem dX5_init_81 : decode cX5_init 81 = .ok (.iconst 0, 1) := by decide +kernel
theorem dX5_init_82 : decode cX5_init 82 = .ok (.istore_n 1, 1) := by decide +kernel
theorem dX5_init_83 : decode cX5_init 83 = .ok (.iload_n 1, 1) := by decide +kernel
theorem dX5_init_84 : decode cX5_init 84 = .ok (.iconst 3, 1) := by decide +kernel
theorem dX5_init_85 : decode cX5_init 85 = .ok (.if_icmp .ge 22, 3) := by decide +kernel
theorem dX5_init_88 : decode cX5_init 88 = .ok (.aload_n 0, 1) := by decide +kernel
theorem dX5_init_89 : decode cX5_init 89 = .ok (.getfield 24, 3) := by decide +kernel
theorem dX5_init_92 : decode cX5_init 92 = .ok (.iload_n 1, 1) := by decide +kernel
theorem dX5_init_93 : decode cX5_init 93 = .ok (.new 22, 3) := by decide +kernel
theorem dX5_init_96 : decode cX5_init 96 = .ok (.dup, 1) := by decide +kernel
theorem dX5_init_97 : decode cX5_init 97 = .ok (.invokespecial 46, 3) := by decide +kernel
theorem dX5_init_100 : decode cX5_init 100 = .ok (.aastore, 1) := by decide +kernel
theorem dX5_init_101 : decode cX5_init 101 = .ok (.iinc 1 1, 3) := by decide +kernel
theorem dX5_init_104 : decode cX5_init 104 = .ok (.goto (-21), 3) := by decide +kernel
theorem dX5_init_107 : decode cX5_init 107 = .ok (.iconst 0, 1) := by decide +kernel
theorem dX5_init_108 : decode cX5_init 108 = .ok (.istore_n 1, 1) := by decide +kernel
theorem dX5_init_109 : decode cX5_init 109 = .ok (.iload_n 1, 1) := by decide +kernel
theorem dX5_init_110 : decode cX5_init 110 = .ok (.iconst 4, 1) := by decide +kernel
theorem dX5_init_111 : decode cX5_init 111 = .ok (.if_icmp .ge 22, 3) := by decide +kernel
theorem dX5_init_114 : decode cX5_init 114 = .ok (.aload_n 0, 1) := by decide +kernel
theorem dX5_init_115 : decode cX5_init 115 = .ok (.getfield 30, 3) := by decide +kernel
theorem dX5_init_118 : decode cX5_init 118 = .ok (.iload_n 1, 1) := by decide +kernel
theorem dX5_init_119 : decode cX5_init 119 = .ok (.new 28, 3) := by decide +kernel
theorem dX5_init_122 : decode cX5_init 122 = .ok (.dup, 1) := by decide +kernel
theorem dX5_init_123 : decode cX5_init 123 = .ok (.invokespecial 47, 3) := by decide +kernel
theorem dX5_init_126 : decode cX5_init 126 = .ok (.aastore, 1) := by decide +kernel
theorem dX5_init_127 : decode cX5_init 127 = .ok (.iinc 1 1, 3) := by decide +kernel
theorem dX5_init_130 : decode cX5_init 130 = .ok (.goto (-21), 3) := by decide +kernel
theorem dX5_init_133 : decode cX5_init 133 = .ok (.return_, 1) := by decide +kernel
theorem dX5_wind_0 : decode cX5_wind 0 = .ok (.iload_n 1, 1) := by decide +kernel
theorem dX5_wind_1 : decode cX5_wind 1 = .ok (.bipush 24, 2) := by decide +kernel
theorem dX5_wind_3 : decode cX5_wind 3 = .ok (.invokestatic 48, 3) := by decide +kernel
theorem dX5_wind_6 : decode cX5_wind 6 = .ok (.ifCond .eq 15, 3) := by decide +kernel
theorem dX5_wind_9 : decode cX5_wind 9 = .ok (.iload_n 2, 1) := by decide +kernel
theorem dX5_wind_10 : decode cX5_wind 10 = .ok (.bipush (-100), 2) := by decide +kernel
theorem dX5_wind_12 : decode cX5_wind 12 = .ok (.if_icmp .lt 9, 3) := by decide +kernel
theorem dX5_wind_15 : decode cX5_wind 15 = .ok (.iload_n 2, 1) := by decide +kernel
theorem dX5_wind_16 : decode cX5_wind 16 = .ok (.bipush 100, 2) := by decide +kernel
theorem dX5_wind_18 : decode cX5_wind 18 = .ok (.if_icmp .le 7, 3) := by decide +kernel
theorem dX5_wind_21 : decode cX5_wind 21 = .ok (.sipush (-1001), 3) := by decide +kernel
theorem dX5_wind_24 : decode cX5_wind 24 = .ok (.ireturn, 1) := by decide +kernel
theorem dX5_wind_25 : decode cX5_wind 25 = .ok (.aload_n 0, 1) := by decide +kernel
theorem dX5_wind_26 : decode cX5_wind 26 = .ok (.getfield 12, 3) := by decide +kernel
theorem dX5_wind_29 : decode cX5_wind 29 = .ok (.getfield 52, 3) := by decide +kernel
theorem dX5_wind_32 : decode cX5_wind 32 = .ok (.iload_n 1, 1) := by decide +kernel
theorem dX5_wind_33 : decode cX5_wind 33 = .ok (.iaload, 1) := by decide +kernel
theorem dX5_wind_34 : decode cX5_wind 34 = .ok (.istore_n 3, 1) := by decide +kernel
theorem dX5_wind_35 : decode cX5_wind 35 = .ok (.aload_n 0, 1) := by decide +kernel
theorem dX5_wind_36 : decode cX5_wind 36 = .ok (.getfield 12, 3) := by decide +kernel
theorem dX5_wind_39 : decode cX5_wind 39 = .ok (.getfield 52, 3) := by decide +kernel
theorem dX5_wind_42 : decode cX5_wind 42 = .ok (.iload_n 1, 1) := by decide +kernel
theorem dX5_wind_43 : decode cX5_wind 43 = .ok (.iload_n 2, 1) := by decide +kernel
theorem dX5_wind_44 : decode cX5_wind 44 = .ok (.iastore, 1) := by decide +kernel
theorem dX5_wind_45 : decode cX5_wind 45 = .ok (.aload_n 0, 1) := by decide +kernel
theorem dX5_wind_46 : decode cX5_wind 46 = .ok (.getfield 12, 3) := by decide +kernel
theorem dX5_wind_49 : decode cX5_wind 49 = .ok (.invokevirtual 56, 3) := by decide +kernel
theorem dX5_wind_52 : decode cX5_wind 52 = .ok (.iload_n 3, 1) := by decide +kernel
theorem dX5_wind_53 : decode cX5_wind 53 = .ok (.ireturn, 1) := by decide +kernel
theorem dX5_gives_0 : decode cX5_gives 0 = .ok (.iload_n 1, 1) := by decide +kernel
theorem dX5_gives_1 : decode cX5_gives 1 = .ok (.bipush 9, 2) := by decide +kernel
theorem dX5_gives_3 : decode cX5_gives 3 = .ok (.invokestatic 48, 3) := by decide +kernel
theorem dX5_gives_6 : decode cX5_gives 6 = .ok (.ifCond .eq 14, 3) := by decide +kernel
theorem dX5_gives_9 : decode cX5_gives 9 = .ok (.aload_n 0, 1) := by decide +kernel
theorem dX5_gives_10 : decode cX5_gives 10 = .ok (.getfield 12, 3) := by decide +kernel
theorem dX5_gives_13 : decode cX5_gives 13 = .ok (.iload_n 1, 1) := by decide +kernel
theorem dX5_gives_14 : decode cX5_gives 14 = .ok (.invokevirtual 59, 3) := by decide +kernel
theorem dX5_gives_17 : decode cX5_gives 17 = .ok (.goto 6, 3) := by decide +kernel
theorem dX5_gives_20 : decode cX5_gives 20 = .ok (.sipush (-1001), 3) := by decide +kernel
theorem dX5_gives_23 : decode cX5_gives 23 = .ok (.ireturn, 1) := by decide +kernel
theorem dX5_still_0 : decode cX5_still 0 = .ok (.iload_n 1, 1) := by decide +kernel
theorem dX5_still_1 : decode cX5_still 1 = .ok (.bipush 24, 2) := by decide +kernel
theorem dX5_still_3 : decode cX5_still 3 = .ok (.invokestatic 48, 3) := by decide +kernel
theorem dX5_still_6 : decode cX5_still 6 = .ok (.ifCond .eq 15, 3) := by decide +kernel
theorem dX5_still_9 : decode cX5_still 9 = .ok (.aload_n 0, 1) := by decide +kernel
theorem dX5_still_10 : decode cX5_still 10 = .ok (.getfield 12, 3) := by decide +kernel
theorem dX5_still_13 : decode cX5_still 13 = .ok (.getfield 63, 3) := by decide +kernel
theorem dX5_still_16 : decode cX5_still 16 = .ok (.iload_n 1, 1) := by decide +kernel
theorem dX5_still_17 : decode cX5_still 17 = .ok (.laload, 1) := by decide +kernel
theorem dX5_still_18 : decode cX5_still 18 = .ok (.goto 6, 3) := by decide +kernel
theorem dX5_still_21 : decode cX5_still 21 = .ok (.ldc2_w 67, 3) := by decide +kernel
theorem dX5_still_24 : decode cX5_still 24 = .ok (.lreturn, 1) := by decide +kernel
theorem dX5_change_0 : decode cX5_change 0 = .ok (.aload_n 0, 1) := by decide +kernel
theorem dX5_change_1 : decode cX5_change 1 = .ok (.getfield 12, 3) := by decide +kernel
theorem dX5_change_4 : decode cX5_change 4 = .ok (.invokevirtual 69, 3) := by decide +kernel
theorem dX5_change_7 : decode cX5_change 7 = .ok (.lreturn, 1) := by decide +kernel
theorem dX5_sheet_0 : decode cX5_sheet 0 = .ok (.iload_n 1, 1) := by decide +kernel
theorem dX5_sheet_1 : decode cX5_sheet 1 = .ok (.iconst 4, 1) := by decide +kernel
theorem dX5_sheet_2 : decode cX5_sheet 2 = .ok (.invokestatic 48, 3) := by decide +kernel
theorem dX5_sheet_5 : decode cX5_sheet 5 = .ok (.ifCond .eq 16, 3) := by decide +kernel
theorem dX5_sheet_8 : decode cX5_sheet 8 = .ok (.iload_n 2, 1) := by decide +kernel
theorem dX5_sheet_9 : decode cX5_sheet 9 = .ok (.invokestatic 73, 3) := by decide +kernel
theorem dX5_sheet_12 : decode cX5_sheet 12 = .ok (.ifCond .eq 9, 3) := by decide +kernel
theorem dX5_sheet_15 : decode cX5_sheet 15 = .ok (.iload_n 3, 1) := by decide +kernel
theorem dX5_sheet_16 : decode cX5_sheet 16 = .ok (.bipush 24, 2) := by decide +kernel
theorem dX5_sheet_18 : decode cX5_sheet 18 = .ok (.if_icmp .le 5, 3) := by decide +kernel
theorem dX5_sheet_21 : decode cX5_sheet 21 = .ok (.iconst (-1), 1) := by decide +kernel
theorem dX5_sheet_22 : decode cX5_sheet 22 = .ok (.ireturn, 1) := by decide +kernel
theorem dX5_sheet_23 : decode cX5_sheet 23 = .ok (.iload_n 3, 1) := by decide +kernel
theorem dX5_sheet_24 : decode cX5_sheet 24 = .ok (.ifCond .ge 6, 3) := by decide +kernel
theorem dX5_sheet_27 : decode cX5_sheet 27 = .ok (.bipush (-14), 2) := by decide +kernel
theorem dX5_sheet_29 : decode cX5_sheet 29 = .ok (.ireturn, 1) := by decide +kernel
theorem dX5_sheet_30 : decode cX5_sheet 30 = .ok (.aload_n 0, 1) := by decide +kernel
theorem dX5_sheet_31 : decode cX5_sheet 31 = .ok (.getfield 18, 3) := by decide +kernel
theorem dX5_sheet_34 : decode cX5_sheet 34 = .ok (.iload_n 1, 1) := by decide +kernel
theorem dX5_sheet_35 : decode cX5_sheet 35 = .ok (.aaload, 1) := by decide +kernel
theorem dX5_sheet_36 : decode cX5_sheet 36 = .ok (.iload_n 2, 1) := by decide +kernel
theorem dX5_sheet_37 : decode cX5_sheet 37 = .ok (.iload_n 3, 1) := by decide +kernel
theorem dX5_sheet_38 : decode cX5_sheet 38 = .ok (.invokevirtual 77, 3) := by decide +kernel
theorem dX5_sheet_41 : decode cX5_sheet 41 = .ok (.iload_n 3, 1) := by decide +kernel
theorem dX5_sheet_42 : decode cX5_sheet 42 = .ok (.ireturn, 1) := by decide +kernel
theorem dX5_drop_0 : decode cX5_drop 0 = .ok (.iload_n 1, 1) := by decide +kernel
theorem dX5_drop_1 : decode cX5_drop 1 = .ok (.iconst 4, 1) := by decide +kernel
theorem dX5_drop_2 : decode cX5_drop 2 = .ok (.invokestatic 48, 3) := by decide +kernel
theorem dX5_drop_5 : decode cX5_drop 5 = .ok (.ifCond .ne 5, 3) := by decide +kernel
theorem dX5_drop_8 : decode cX5_drop 8 = .ok (.iconst (-1), 1) := by decide +kernel
theorem dX5_drop_9 : decode cX5_drop 9 = .ok (.ireturn, 1) := by decide +kernel
theorem dX5_drop_10 : decode cX5_drop 10 = .ok (.aload_n 0, 1) := by decide +kernel
theorem dX5_drop_11 : decode cX5_drop 11 = .ok (.getfield 18, 3) := by decide +kernel
theorem dX5_drop_14 : decode cX5_drop 14 = .ok (.iload_n 1, 1) := by decide +kernel
theorem dX5_drop_15 : decode cX5_drop 15 = .ok (.aaload, 1) := by decide +kernel
theorem dX5_drop_16 : decode cX5_drop 16 = .ok (.astore_n 2, 1) := by decide +kernel
theorem dX5_drop_17 : decode cX5_drop 17 = .ok (.aload_n 2, 1) := by decide +kernel
theorem dX5_drop_18 : decode cX5_drop 18 = .ok (.getfield 81, 3) := by decide +kernel
theorem dX5_drop_21 : decode cX5_drop 21 = .ok (.ifCond .ne 6, 3) := by decide +kernel
theorem dX5_drop_24 : decode cX5_drop 24 = .ok (.bipush (-11), 2) := by decide +kernel
theorem dX5_drop_26 : decode cX5_drop 26 = .ok (.ireturn, 1) := by decide +kernel
theorem dX5_drop_27 : decode cX5_drop 27 = .ok (.aload_n 2, 1) := by decide +kernel
theorem dX5_drop_28 : decode cX5_drop 28 = .ok (.iconst 0, 1) := by decide +kernel
theorem dX5_drop_29 : decode cX5_drop 29 = .ok (.putfield 81, 3) := by decide +kernel
theorem dX5_drop_32 : decode cX5_drop 32 = .ok (.aload_n 2, 1) := by decide +kernel
theorem dX5_drop_33 : decode cX5_drop 33 = .ok (.getfield 85, 3) := by decide +kernel
theorem dX5_drop_36 : decode cX5_drop 36 = .ok (.ireturn, 1) := by decide +kernel
theorem dX5_item_0 : decode cX5_item 0 = .ok (.iload_n 1, 1) := by decide +kernel
theorem dX5_item_1 : decode cX5_item 1 = .ok (.iconst 4, 1) := by decide +kernel
theorem dX5_item_2 : decode cX5_item 2 = .ok (.invokestatic 48, 3) := by decide +kernel
theorem dX5_item_5 : decode cX5_item 5 = .ok (.ifCond .eq 10, 3) := by decide +kernel
theorem dX5_item_8 : decode cX5_item 8 = .ok (.iload_n 2, 1) := by decide +kernel
theorem dX5_item_9 : decode cX5_item 9 = .ok (.invokestatic 73, 3) := by decide +kernel
theorem dX5_item_12 : decode cX5_item 12 = .ok (.ifCond .ne 5, 3) := by decide +kernel
theorem dX5_item_15 : decode cX5_item 15 = .ok (.iconst (-1), 1) := by decide +kernel
theorem dX5_item_16 : decode cX5_item 16 = .ok (.ireturn, 1) := by decide +kernel
theorem dX5_item_17 : decode cX5_item 17 = .ok (.aload_n 0, 1) := by decide +kernel
theorem dX5_item_18 : decode cX5_item 18 = .ok (.getfield 18, 3) := by decide +kernel
theorem dX5_item_21 : decode cX5_item 21 = .ok (.iload_n 1, 1) := by decide +kernel
theorem dX5_item_22 : decode cX5_item 22 = .ok (.aaload, 1) := by decide +kernel
theorem dX5_item_23 : decode cX5_item 23 = .ok (.astore 5, 2) := by decide +kernel
theorem dX5_item_25 : decode cX5_item 25 = .ok (.aload 5, 2) := by decide +kernel
theorem dX5_item_27 : decode cX5_item 27 = .ok (.iload_n 2, 1) := by decide +kernel
theorem dX5_item_28 : decode cX5_item 28 = .ok (.invokevirtual 88, 3) := by decide +kernel
theorem dX5_item_31 : decode cX5_item 31 = .ok (.ifCond .ne 19, 3) := by decide +kernel
theorem dX5_item_34 : decode cX5_item 34 = .ok (.aload 5, 2) := by decide +kernel
theorem dX5_item_36 : decode cX5_item 36 = .ok (.getfield 81, 3) := by decide +kernel
theorem dX5_item_39 : decode cX5_item 39 = .ok (.ifCond .eq 8, 3) := by decide +kernel
theorem dX5_item_42 : decode cX5_item 42 = .ok (.bipush (-12), 2) := by decide +kernel
theorem dX5_item_44 : decode cX5_item 44 = .ok (.goto 5, 3) := by decide +kernel
theorem dX5_item_47 : decode cX5_item 47 = .ok (.bipush (-11), 2) := by decide +kernel
theorem dX5_item_49 : decode cX5_item 49 = .ok (.ireturn, 1) := by decide +kernel
theorem dX5_item_50 : decode cX5_item 50 = .ok (.iload_n 3, 1) := by decide +kernel
theorem dX5_item_51 : decode cX5_item 51 = .ok (.aload 5, 2) := by decide +kernel
theorem dX5_item_53 : decode cX5_item 53 = .ok (.getfield 85, 3) := by decide +kernel
theorem dX5_item_56 : decode cX5_item 56 = .ok (.invokestatic 48, 3) := by decide +kernel
theorem dX5_item_59 : decode cX5_item 59 = .ok (.ifCond .ne 6, 3) := by decide +kernel
theorem dX5_item_62 : decode cX5_item 62 = .ok (.bipush (-13), 2) := by decide +kernel
theorem dX5_item_64 : decode cX5_item 64 = .ok (.ireturn, 1) := by decide +kernel
theorem dX5_item_65 : decode cX5_item 65 = .ok (.aload 5, 2) := by decide +kernel
theorem dX5_item_67 : decode cX5_item 67 = .ok (.getfield 91, 3) := by decide +kernel
theorem dX5_item_70 : decode cX5_item 70 = .ok (.iload_n 3, 1) := by decide +kernel
theorem dX5_item_71 : decode cX5_item 71 = .ok (.iload_n 2, 1) := by decide +kernel
theorem dX5_item_72 : decode cX5_item 72 = .ok (.ifCond .ne 9, 3) := by decide +kernel
theorem dX5_item_75 : decode cX5_item 75 = .ok (.iload 4, 2) := by decide +kernel
theorem dX5_item_77 : decode cX5_item 77 = .ok (.i2s, 1) := by decide +kernel
theorem dX5_item_78 : decode cX5_item 78 = .ok (.goto 5, 3) := by decide +kernel
theorem dX5_item_81 : decode cX5_item 81 = .ok (.iload 4, 2) := by decide +kernel
theorem dX5_item_83 : decode cX5_item 83 = .ok (.iastore, 1) := by decide +kernel
theorem dX5_item_84 : decode cX5_item 84 = .ok (.iconst 1, 1) := by decide +kernel
theorem dX5_item_85 : decode cX5_item 85 = .ok (.ireturn, 1) := by decide +kernel
theorem dX5_source_0 : decode cX5_source 0 = .ok (.iload_n 1, 1) := by decide +kernel
theorem dX5_source_1 : decode cX5_source 1 = .ok (.iconst 3, 1) := by decide +kernel
theorem dX5_source_2 : decode cX5_source 2 = .ok (.invokestatic 48, 3) := by decide +kernel
theorem dX5_source_5 : decode cX5_source 5 = .ok (.ifCond .eq 28, 3) := by decide +kernel
theorem dX5_source_8 : decode cX5_source 8 = .ok (.iload_n 2, 1) := by decide +kernel
theorem dX5_source_9 : decode cX5_source 9 = .ok (.bipush 9, 2) := by decide +kernel
theorem dX5_source_11 : decode cX5_source 11 = .ok (.invokestatic 48, 3) := by decide +kernel
theorem dX5_source_14 : decode cX5_source 14 = .ok (.ifCond .eq 19, 3) := by decide +kernel
theorem dX5_source_17 : decode cX5_source 17 = .ok (.iload_n 3, 1) := by decide +kernel
theorem dX5_source_18 : decode cX5_source 18 = .ok (.iconst 4, 1) := by decide +kernel
theorem dX5_source_19 : decode cX5_source 19 = .ok (.invokestatic 48, 3) := by decide +kernel
theorem dX5_source_22 : decode cX5_source 22 = .ok (.ifCond .eq 11, 3) := by decide +kernel
theorem dX5_source_25 : decode cX5_source 25 = .ok (.iload 4, 2) := by decide +kernel
theorem dX5_source_27 : decode cX5_source 27 = .ok (.invokestatic 73, 3) := by decide +kernel
theorem dX5_source_30 : decode cX5_source 30 = .ok (.ifCond .ne 5, 3) := by decide +kernel
theorem dX5_source_33 : decode cX5_source 33 = .ok (.iconst (-1), 1) := by decide +kernel
theorem dX5_source_34 : decode cX5_source 34 = .ok (.ireturn, 1) := by decide +kernel
theorem dX5_source_35 : decode cX5_source 35 = .ok (.aload_n 0, 1) := by decide +kernel
theorem dX5_source_36 : decode cX5_source 36 = .ok (.getfield 18, 3) := by decide +kernel
theorem dX5_source_39 : decode cX5_source 39 = .ok (.iload_n 3, 1) := by decide +kernel
theorem dX5_source_40 : decode cX5_source 40 = .ok (.aaload, 1) := by decide +kernel
theorem dX5_source_41 : decode cX5_source 41 = .ok (.astore 5, 2) := by decide +kernel
theorem dX5_source_43 : decode cX5_source 43 = .ok (.aload 5, 2) := by decide +kernel
theorem dX5_source_45 : decode cX5_source 45 = .ok (.iload 4, 2) := by decide +kernel
theorem dX5_source_47 : decode cX5_source 47 = .ok (.invokevirtual 88, 3) := by decide +kernel
theorem dX5_source_50 : decode cX5_source 50 = .ok (.ifCond .ne 19, 3) := by decide +kernel
theorem dX5_source_53 : decode cX5_source 53 = .ok (.aload 5, 2) := by decide +kernel
theorem dX5_source_55 : decode cX5_source 55 = .ok (.getfield 81, 3) := by decide +kernel
theorem dX5_source_58 : decode cX5_source 58 = .ok (.ifCond .eq 8, 3) := by decide +kernel
theorem dX5_source_61 : decode cX5_source 61 = .ok (.bipush (-12), 2) := by decide +kernel
theorem dX5_source_63 : decode cX5_source 63 = .ok (.goto 5, 3) := by decide +kernel
theorem dX5_source_66 : decode cX5_source 66 = .ok (.bipush (-11), 2) := by decide +kernel
theorem dX5_source_68 : decode cX5_source 68 = .ok (.ireturn, 1) := by decide +kernel
theorem dX5_source_69 : decode cX5_source 69 = .ok (.aload 5, 2) := by decide +kernel
theorem dX5_source_71 : decode cX5_source 71 = .ok (.getfield 85, 3) := by decide +kernel
theorem dX5_source_74 : decode cX5_source 74 = .ok (.bipush 24, 2) := by decide +kernel
theorem dX5_source_76 : decode cX5_source 76 = .ok (.if_icmp .eq 6, 3) := by decide +kernel
theorem dX5_source_79 : decode cX5_source 79 = .ok (.bipush (-13), 2) := by decide +kernel
theorem dX5_source_81 : decode cX5_source 81 = .ok (.ireturn, 1) := by decide +kernel
theorem dX5_source_82 : decode cX5_source 82 = .ok (.aload 5, 2) := by decide +kernel
theorem dX5_source_84 : decode cX5_source 84 = .ok (.invokevirtual 94, 3) := by decide +kernel
theorem dX5_source_87 : decode cX5_source 87 = .ok (.ifCond .ne 6, 3) := by decide +kernel
theorem dX5_source_90 : decode cX5_source 90 = .ok (.bipush (-2), 2) := by decide +kernel
theorem dX5_source_92 : decode cX5_source 92 = .ok (.ireturn, 1) := by decide +kernel
theorem dX5_source_93 : decode cX5_source 93 = .ok (.aload_n 0, 1) := by decide +kernel
theorem dX5_source_94 : decode cX5_source 94 = .ok (.getfield 24, 3) := by decide +kernel
theorem dX5_source_97 : decode cX5_source 97 = .ok (.iload_n 1, 1) := by decide +kernel
theorem dX5_source_98 : decode cX5_source 98 = .ok (.aaload, 1) := by decide +kernel
theorem dX5_source_99 : decode cX5_source 99 = .ok (.iload_n 2, 1) := by decide +kernel
theorem dX5_source_100 : decode cX5_source 100 = .ok (.aload 5, 2) := by decide +kernel
theorem dX5_source_102 : decode cX5_source 102 = .ok (.getfield 91, 3) := by decide +kernel
theorem dX5_source_105 : decode cX5_source 105 = .ok (.invokevirtual 98, 3) := by decide +kernel
theorem dX5_source_108 : decode cX5_source 108 = .ok (.ireturn, 1) := by decide +kernel
theorem dX5_door_0 : decode cX5_door 0 = .ok (.iload_n 1, 1) := by decide +kernel
theorem dX5_door_1 : decode cX5_door 1 = .ok (.iconst 4, 1) := by decide +kernel
theorem dX5_door_2 : decode cX5_door 2 = .ok (.invokestatic 48, 3) := by decide +kernel
theorem dX5_door_5 : decode cX5_door 5 = .ok (.ifCond .eq 12, 3) := by decide +kernel
theorem dX5_door_8 : decode cX5_door 8 = .ok (.iload_n 2, 1) := by decide +kernel
theorem dX5_door_9 : decode cX5_door 9 = .ok (.bipush 9, 2) := by decide +kernel
theorem dX5_door_11 : decode cX5_door 11 = .ok (.invokestatic 48, 3) := by decide +kernel
theorem dX5_door_14 : decode cX5_door 14 = .ok (.ifCond .ne 5, 3) := by decide +kernel
theorem dX5_door_17 : decode cX5_door 17 = .ok (.iconst (-1), 1) := by decide +kernel
theorem dX5_door_18 : decode cX5_door 18 = .ok (.ireturn, 1) := by decide +kernel
theorem dX5_door_19 : decode cX5_door 19 = .ok (.aload_n 0, 1) := by decide +kernel
theorem dX5_door_20 : decode cX5_door 20 = .ok (.getfield 30, 3) := by decide +kernel
theorem dX5_door_23 : decode cX5_door 23 = .ok (.iload_n 1, 1) := by decide +kernel
theorem dX5_door_24 : decode cX5_door 24 = .ok (.aaload, 1) := by decide +kernel
theorem dX5_door_25 : decode cX5_door 25 = .ok (.iload_n 2, 1) := by decide +kernel
theorem dX5_door_26 : decode cX5_door 26 = .ok (.invokevirtual 102, 3) := by decide +kernel
theorem dX5_door_29 : decode cX5_door 29 = .ok (.ireturn, 1) := by decide +kernel
theorem dX5_lose_0 : decode cX5_lose 0 = .ok (.iload_n 1, 1) := by decide +kernel
theorem dX5_lose_1 : decode cX5_lose 1 = .ok (.iconst 4, 1) := by decide +kernel
theorem dX5_lose_2 : decode cX5_lose 2 = .ok (.invokestatic 48, 3) := by decide +kernel
theorem dX5_lose_5 : decode cX5_lose 5 = .ok (.ifCond .ne 5, 3) := by decide +kernel
theorem dX5_lose_8 : decode cX5_lose 8 = .ok (.iconst (-1), 1) := by decide +kernel
theorem dX5_lose_9 : decode cX5_lose 9 = .ok (.ireturn, 1) := by decide +kernel
theorem dX5_lose_10 : decode cX5_lose 10 = .ok (.aload_n 0, 1) := by decide +kernel
theorem dX5_lose_11 : decode cX5_lose 11 = .ok (.getfield 30, 3) := by decide +kernel
theorem dX5_lose_14 : decode cX5_lose 14 = .ok (.iload_n 1, 1) := by decide +kernel
theorem dX5_lose_15 : decode cX5_lose 15 = .ok (.aaload, 1) := by decide +kernel
theorem dX5_lose_16 : decode cX5_lose 16 = .ok (.getfield 105, 3) := by decide +kernel
theorem dX5_lose_19 : decode cX5_lose 19 = .ok (.ifCond .eq 7, 3) := by decide +kernel
theorem dX5_lose_22 : decode cX5_lose 22 = .ok (.iconst 1, 1) := by decide +kernel
theorem dX5_lose_23 : decode cX5_lose 23 = .ok (.goto 4, 3) := by decide +kernel
theorem dX5_lose_26 : decode cX5_lose 26 = .ok (.iconst 0, 1) := by decide +kernel
theorem dX5_lose_27 : decode cX5_lose 27 = .ok (.istore_n 3, 1) := by decide +kernel
theorem dX5_lose_28 : decode cX5_lose 28 = .ok (.aload_n 0, 1) := by decide +kernel
theorem dX5_lose_29 : decode cX5_lose 29 = .ok (.getfield 30, 3) := by decide +kernel
theorem dX5_lose_32 : decode cX5_lose 32 = .ok (.iload_n 1, 1) := by decide +kernel
theorem dX5_lose_33 : decode cX5_lose 33 = .ok (.aaload, 1) := by decide +kernel
theorem dX5_lose_34 : decode cX5_lose 34 = .ok (.iload_n 2, 1) := by decide +kernel
theorem dX5_lose_35 : decode cX5_lose 35 = .ok (.putfield 105, 3) := by decide +kernel
theorem dX5_lose_38 : decode cX5_lose 38 = .ok (.iload_n 3, 1) := by decide +kernel
theorem dX5_lose_39 : decode cX5_lose 39 = .ok (.ireturn, 1) := by decide +kernel
theorem dX5_hours_0 : decode cX5_hours 0 = .ok (.iload_n 1, 1) := by decide +kernel
theorem dX5_hours_1 : decode cX5_hours 1 = .ok (.iconst 1, 1) := by decide +kernel
theorem dX5_hours_2 : decode cX5_hours 2 = .ok (.if_icmp .lt 20, 3) := by decide +kernel
theorem dX5_hours_5 : decode cX5_hours 5 = .ok (.iload_n 1, 1) := by decide +kernel
theorem dX5_hours_6 : decode cX5_hours 6 = .ok (.bipush 50, 2) := by decide +kernel
theorem dX5_hours_8 : decode cX5_hours 8 = .ok (.if_icmp .gt 14, 3) := by decide +kernel
theorem dX5_hours_11 : decode cX5_hours 11 = .ok (.iload_n 2, 1) := by decide +kernel
theorem dX5_hours_12 : decode cX5_hours 12 = .ok (.ifCond .lt 10, 3) := by decide +kernel
theorem dX5_hours_15 : decode cX5_hours 15 = .ok (.iload_n 2, 1) := by decide +kernel
theorem dX5_hours_16 : decode cX5_hours 16 = .ok (.sipush 1000, 3) := by decide +kernel
theorem dX5_hours_19 : decode cX5_hours 19 = .ok (.if_icmp .le 5, 3) := by decide +kernel
theorem dX5_hours_22 : decode cX5_hours 22 = .ok (.iconst (-1), 1) := by decide +kernel
theorem dX5_hours_23 : decode cX5_hours 23 = .ok (.ireturn, 1) := by decide +kernel
theorem dX5_hours_24 : decode cX5_hours 24 = .ok (.iconst 0, 1) := by decide +kernel
theorem dX5_hours_25 : decode cX5_hours 25 = .ok (.istore_n 3, 1) := by decide +kernel
theorem dX5_hours_26 : decode cX5_hours 26 = .ok (.iload_n 3, 1) := by decide +kernel
theorem dX5_hours_27 : decode cX5_hours 27 = .ok (.iload_n 1, 1) := by decide +kernel
theorem dX5_hours_28 : decode cX5_hours 28 = .ok (.if_icmp .ge 14, 3) := by decide +kernel
theorem dX5_hours_31 : decode cX5_hours 31 = .ok (.aload_n 0, 1) := by decide +kernel
theorem dX5_hours_32 : decode cX5_hours 32 = .ok (.iload_n 2, 1) := by decide +kernel
theorem dX5_hours_33 : decode cX5_hours 33 = .ok (.invokevirtual 108, 3) := by decide +kernel
theorem dX5_hours_36 : decode cX5_hours 36 = .ok (.iinc 3 1, 3) := by decide +kernel
theorem dX5_hours_39 : decode cX5_hours 39 = .ok (.goto (-13), 3) := by decide +kernel
theorem dX5_hours_42 : decode cX5_hours 42 = .ok (.aload_n 0, 1) := by decide +kernel
theorem dX5_hours_43 : decode cX5_hours 43 = .ok (.getfield 41, 3) := by decide +kernel
theorem dX5_hours_46 : decode cX5_hours 46 = .ok (.ireturn, 1) := by decide +kernel
theorem dX5_grains_0 : decode cX5_grains 0 = .ok (.iload_n 1, 1) := by decide +kernel
theorem dX5_grains_1 : decode cX5_grains 1 = .ok (.iconst 3, 1) := by decide +kernel
theorem dX5_grains_2 : decode cX5_grains 2 = .ok (.invokestatic 48, 3) := by decide +kernel
theorem dX5_grains_5 : decode cX5_grains 5 = .ok (.ifCond .eq 12, 3) := by decide +kernel
theorem dX5_grains_8 : decode cX5_grains 8 = .ok (.iload_n 2, 1) := by decide +kernel
theorem dX5_grains_9 : decode cX5_grains 9 = .ok (.bipush 9, 2) := by decide +kernel
theorem dX5_grains_11 : decode cX5_grains 11 = .ok (.invokestatic 48, 3) := by decide +kernel
theorem dX5_grains_14 : decode cX5_grains 14 = .ok (.ifCond .ne 7, 3) := by decide +kernel
theorem dX5_grains_17 : decode cX5_grains 17 = .ok (.ldc2_w 112, 3) := by decide +kernel
theorem dX5_grains_20 : decode cX5_grains 20 = .ok (.lreturn, 1) := by decide +kernel
theorem dX5_grains_21 : decode cX5_grains 21 = .ok (.aload_n 0, 1) := by decide +kernel
theorem dX5_grains_22 : decode cX5_grains 22 = .ok (.getfield 24, 3) := by decide +kernel
theorem dX5_grains_25 : decode cX5_grains 25 = .ok (.iload_n 1, 1) := by decide +kernel
theorem dX5_grains_26 : decode cX5_grains 26 = .ok (.aaload, 1) := by decide +kernel
theorem dX5_grains_27 : decode cX5_grains 27 = .ok (.getfield 114, 3) := by decide +kernel
theorem dX5_grains_30 : decode cX5_grains 30 = .ok (.iload_n 2, 1) := by decide +kernel
theorem dX5_grains_31 : decode cX5_grains 31 = .ok (.laload, 1) := by decide +kernel
theorem dX5_grains_32 : decode cX5_grains 32 = .ok (.lreturn, 1) := by decide +kernel
theorem dX5_total_0 : decode cX5_total 0 = .ok (.iload_n 1, 1) := by decide +kernel
theorem dX5_total_1 : decode cX5_total 1 = .ok (.iconst 3, 1) := by decide +kernel
theorem dX5_total_2 : decode cX5_total 2 = .ok (.invokestatic 48, 3) := by decide +kernel
theorem dX5_total_5 : decode cX5_total 5 = .ok (.ifCond .ne 7, 3) := by decide +kernel
theorem dX5_total_8 : decode cX5_total 8 = .ok (.ldc2_w 112, 3) := by decide +kernel
theorem dX5_total_11 : decode cX5_total 11 = .ok (.lreturn, 1) := by decide +kernel
theorem dX5_total_12 : decode cX5_total 12 = .ok (.aload_n 0, 1) := by decide +kernel
theorem dX5_total_13 : decode cX5_total 13 = .ok (.getfield 24, 3) := by decide +kernel
theorem dX5_total_16 : decode cX5_total 16 = .ok (.iload_n 1, 1) := by decide +kernel
theorem dX5_total_17 : decode cX5_total 17 = .ok (.aaload, 1) := by decide +kernel
theorem dX5_total_18 : decode cX5_total 18 = .ok (.astore_n 3, 1) := by decide +kernel
theorem dX5_total_19 : decode cX5_total 19 = .ok (.iload_n 2, 1) := by decide +kernel
theorem dX5_total_20 : decode cX5_total 20 = .ok (.tableswitch 64 0 4 #[36, 41, 46, 51, 59], 36) := by decide +kernel
theorem dX5_total_56 : decode cX5_total 56 = .ok (.aload_n 3, 1) := by decide +kernel
theorem dX5_total_57 : decode cX5_total 57 = .ok (.getfield 117, 3) := by decide +kernel
theorem dX5_total_60 : decode cX5_total 60 = .ok (.lreturn, 1) := by decide +kernel
theorem dX5_total_61 : decode cX5_total 61 = .ok (.aload_n 3, 1) := by decide +kernel
theorem dX5_total_62 : decode cX5_total 62 = .ok (.getfield 121, 3) := by decide +kernel
theorem dX5_total_65 : decode cX5_total 65 = .ok (.lreturn, 1) := by decide +kernel
theorem dX5_total_66 : decode cX5_total 66 = .ok (.aload_n 3, 1) := by decide +kernel
theorem dX5_total_67 : decode cX5_total 67 = .ok (.getfield 124, 3) := by decide +kernel
theorem dX5_total_70 : decode cX5_total 70 = .ok (.lreturn, 1) := by decide +kernel
theorem dX5_total_71 : decode cX5_total 71 = .ok (.aload_n 3, 1) := by decide +kernel
theorem dX5_total_72 : decode cX5_total 72 = .ok (.getfield 114, 3) := by decide +kernel
theorem dX5_total_75 : decode cX5_total 75 = .ok (.bipush 9, 2) := by decide +kernel
theorem dX5_total_77 : decode cX5_total 77 = .ok (.laload, 1) := by decide +kernel
theorem dX5_total_78 : decode cX5_total 78 = .ok (.lreturn, 1) := by decide +kernel
theorem dX5_total_79 : decode cX5_total 79 = .ok (.aload_n 3, 1) := by decide +kernel
theorem dX5_total_80 : decode cX5_total 80 = .ok (.invokevirtual 127, 3) := by decide +kernel
theorem dX5_total_83 : decode cX5_total 83 = .ok (.lreturn, 1) := by decide +kernel
theorem dX5_total_84 : decode cX5_total 84 = .ok (.ldc2_w 112, 3) := by decide +kernel
theorem dX5_total_87 : decode cX5_total 87 = .ok (.lreturn, 1) := by decide +kernel
theorem dX5_hour_0 : decode cX5_hour 0 = .ok (.iload_n 1, 1) := by decide +kernel
theorem dX5_hour_1 : decode cX5_hour 1 = .ok (.iconst 4, 1) := by decide +kernel
theorem dX5_hour_2 : decode cX5_hour 2 = .ok (.invokestatic 48, 3) := by decide +kernel
theorem dX5_hour_5 : decode cX5_hour 5 = .ok (.ifCond .eq 28, 3) := by decide +kernel
theorem dX5_hour_8 : decode cX5_hour 8 = .ok (.iload_n 2, 1) := by decide +kernel
theorem dX5_hour_9 : decode cX5_hour 9 = .ok (.aload_n 0, 1) := by decide +kernel
theorem dX5_hour_10 : decode cX5_hour 10 = .ok (.getfield 30, 3) := by decide +kernel
theorem dX5_hour_13 : decode cX5_hour 13 = .ok (.iload_n 1, 1) := by decide +kernel
theorem dX5_hour_14 : decode cX5_hour 14 = .ok (.aaload, 1) := by decide +kernel
theorem dX5_hour_15 : decode cX5_hour 15 = .ok (.getfield 130, 3) := by decide +kernel
theorem dX5_hour_18 : decode cX5_hour 18 = .ok (.invokestatic 48, 3) := by decide +kernel
theorem dX5_hour_21 : decode cX5_hour 21 = .ok (.ifCond .eq 12, 3) := by decide +kernel
theorem dX5_hour_24 : decode cX5_hour 24 = .ok (.iload_n 3, 1) := by decide +kernel
theorem dX5_hour_25 : decode cX5_hour 25 = .ok (.ifCond .lt 8, 3) := by decide +kernel
theorem dX5_hour_28 : decode cX5_hour 28 = .ok (.iload_n 3, 1) := by decide +kernel
theorem dX5_hour_29 : decode cX5_hour 29 = .ok (.iconst 3, 1) := by decide +kernel
theorem dX5_hour_30 : decode cX5_hour 30 = .ok (.if_icmp .le 7, 3) := by decide +kernel
theorem dX5_hour_33 : decode cX5_hour 33 = .ok (.ldc2_w 112, 3) := by decide +kernel
theorem dX5_hour_36 : decode cX5_hour 36 = .ok (.lreturn, 1) := by decide +kernel
theorem dX5_hour_37 : decode cX5_hour 37 = .ok (.aload_n 0, 1) := by decide +kernel
theorem dX5_hour_38 : decode cX5_hour 38 = .ok (.getfield 30, 3) := by decide +kernel
theorem dX5_hour_41 : decode cX5_hour 41 = .ok (.iload_n 1, 1) := by decide +kernel
theorem dX5_hour_42 : decode cX5_hour 42 = .ok (.aaload, 1) := by decide +kernel
theorem dX5_hour_43 : decode cX5_hour 43 = .ok (.astore 4, 2) := by decide +kernel
theorem dX5_hour_45 : decode cX5_hour 45 = .ok (.aload 4, 2) := by decide +kernel
theorem dX5_hour_47 : decode cX5_hour 47 = .ok (.iload_n 2, 1) := by decide +kernel
theorem dX5_hour_48 : decode cX5_hour 48 = .ok (.invokevirtual 133, 3) := by decide +kernel
theorem dX5_hour_51 : decode cX5_hour 51 = .ok (.istore 5, 2) := by decide +kernel
theorem dX5_hour_53 : decode cX5_hour 53 = .ok (.aload 4, 2) := by decide +kernel
theorem dX5_hour_55 : decode cX5_hour 55 = .ok (.getfield 136, 3) := by decide +kernel
theorem dX5_hour_58 : decode cX5_hour 58 = .ok (.iload 5, 2) := by decide +kernel
theorem dX5_hour_60 : decode cX5_hour 60 = .ok (.baload, 1) := by decide +kernel
theorem dX5_hour_61 : decode cX5_hour 61 = .ok (.ifCond .eq 7, 3) := by decide +kernel
theorem dX5_hour_64 : decode cX5_hour 64 = .ok (.ldc2_w 140, 3) := by decide +kernel
theorem dX5_hour_67 : decode cX5_hour 67 = .ok (.lreturn, 1) := by decide +kernel
theorem dX5_hour_68 : decode cX5_hour 68 = .ok (.iload_n 3, 1) := by decide +kernel
theorem dX5_hour_69 : decode cX5_hour 69 = .ok (.iconst 3, 1) := by decide +kernel
theorem dX5_hour_70 : decode cX5_hour 70 = .ok (.if_icmp .ne 14, 3) := by decide +kernel
theorem dX5_hour_73 : decode cX5_hour 73 = .ok (.aload 4, 2) := by decide +kernel
theorem dX5_hour_75 : decode cX5_hour 75 = .ok (.getfield 142, 3) := by decide +kernel
theorem dX5_hour_78 : decode cX5_hour 78 = .ok (.iload 5, 2) := by decide +kernel
theorem dX5_hour_80 : decode cX5_hour 80 = .ok (.laload, 1) := by decide +kernel
theorem dX5_hour_81 : decode cX5_hour 81 = .ok (.goto 13, 3) := by decide +kernel
theorem dX5_hour_84 : decode cX5_hour 84 = .ok (.aload 4, 2) := by decide +kernel
theorem dX5_hour_86 : decode cX5_hour 86 = .ok (.getfield 145, 3) := by decide +kernel
theorem dX5_hour_89 : decode cX5_hour 89 = .ok (.iload_n 3, 1) := by decide +kernel
theorem dX5_hour_90 : decode cX5_hour 90 = .ok (.aaload, 1) := by decide +kernel
theorem dX5_hour_91 : decode cX5_hour 91 = .ok (.iload 5, 2) := by decide +kernel
theorem dX5_hour_93 : decode cX5_hour 93 = .ok (.laload, 1) := by decide +kernel
theorem dX5_hour_94 : decode cX5_hour 94 = .ok (.lreturn, 1) := by decide +kernel
theorem dX5_kept_0 : decode cX5_kept 0 = .ok (.iload_n 1, 1) := by decide +kernel
theorem dX5_kept_1 : decode cX5_kept 1 = .ok (.iconst 4, 1) := by decide +kernel
theorem dX5_kept_2 : decode cX5_kept 2 = .ok (.invokestatic 48, 3) := by decide +kernel
theorem dX5_kept_5 : decode cX5_kept 5 = .ok (.ifCond .eq 12, 3) := by decide +kernel
theorem dX5_kept_8 : decode cX5_kept 8 = .ok (.iload_n 2, 1) := by decide +kernel
theorem dX5_kept_9 : decode cX5_kept 9 = .ok (.ifCond .lt 8, 3) := by decide +kernel
theorem dX5_kept_12 : decode cX5_kept 12 = .ok (.iload_n 2, 1) := by decide +kernel
theorem dX5_kept_13 : decode cX5_kept 13 = .ok (.iconst 1, 1) := by decide +kernel
theorem dX5_kept_14 : decode cX5_kept 14 = .ok (.if_icmp .le 5, 3) := by decide +kernel
theorem dX5_kept_17 : decode cX5_kept 17 = .ok (.iconst (-1), 1) := by decide +kernel
theorem dX5_kept_18 : decode cX5_kept 18 = .ok (.ireturn, 1) := by decide +kernel
theorem dX5_kept_19 : decode cX5_kept 19 = .ok (.iload_n 2, 1) := by decide +kernel
theorem dX5_kept_20 : decode cX5_kept 20 = .ok (.ifCond .ne 15, 3) := by decide +kernel
theorem dX5_kept_23 : decode cX5_kept 23 = .ok (.aload_n 0, 1) := by decide +kernel
theorem dX5_kept_24 : decode cX5_kept 24 = .ok (.getfield 30, 3) := by decide +kernel
theorem dX5_kept_27 : decode cX5_kept 27 = .ok (.iload_n 1, 1) := by decide +kernel
theorem dX5_kept_28 : decode cX5_kept 28 = .ok (.aaload, 1) := by decide +kernel
theorem dX5_kept_29 : decode cX5_kept 29 = .ok (.getfield 130, 3) := by decide +kernel
theorem dX5_kept_32 : decode cX5_kept 32 = .ok (.goto 12, 3) := by decide +kernel
theorem dX5_kept_35 : decode cX5_kept 35 = .ok (.aload_n 0, 1) := by decide +kernel
theorem dX5_kept_36 : decode cX5_kept 36 = .ok (.getfield 30, 3) := by decide +kernel
theorem dX5_kept_39 : decode cX5_kept 39 = .ok (.iload_n 1, 1) := by decide +kernel
theorem dX5_kept_40 : decode cX5_kept 40 = .ok (.aaload, 1) := by decide +kernel
theorem dX5_kept_41 : decode cX5_kept 41 = .ok (.invokevirtual 149, 3) := by decide +kernel
theorem dX5_kept_44 : decode cX5_kept 44 = .ok (.ireturn, 1) := by decide +kernel
theorem dX5_mean_0 : decode cX5_mean 0 = .ok (.iload_n 1, 1) := by decide +kernel
theorem dX5_mean_1 : decode cX5_mean 1 = .ok (.iconst 4, 1) := by decide +kernel
theorem dX5_mean_2 : decode cX5_mean 2 = .ok (.invokestatic 48, 3) := by decide +kernel
theorem dX5_mean_5 : decode cX5_mean 5 = .ok (.ifCond .eq 15, 3) := by decide +kernel
theorem dX5_mean_8 : decode cX5_mean 8 = .ok (.aload_n 0, 1) := by decide +kernel
theorem dX5_mean_9 : decode cX5_mean 9 = .ok (.getfield 30, 3) := by decide +kernel
theorem dX5_mean_12 : decode cX5_mean 12 = .ok (.iload_n 1, 1) := by decide +kernel
theorem dX5_mean_13 : decode cX5_mean 13 = .ok (.aaload, 1) := by decide +kernel
theorem dX5_mean_14 : decode cX5_mean 14 = .ok (.invokevirtual 153, 3) := by decide +kernel
theorem dX5_mean_17 : decode cX5_mean 17 = .ok (.goto 6, 3) := by decide +kernel
theorem dX5_mean_20 : decode cX5_mean 20 = .ok (.ldc2_w 112, 3) := by decide +kernel
theorem dX5_mean_23 : decode cX5_mean 23 = .ok (.lreturn, 1) := by decide +kernel
theorem dX5_rank_0 : decode cX5_rank 0 = .ok (.iload_n 1, 1) := by decide +kernel
theorem dX5_rank_1 : decode cX5_rank 1 = .ok (.iconst 4, 1) := by decide +kernel
theorem dX5_rank_2 : decode cX5_rank 2 = .ok (.invokestatic 48, 3) := by decide +kernel
theorem dX5_rank_5 : decode cX5_rank 5 = .ok (.ifCond .eq 21, 3) := by decide +kernel
theorem dX5_rank_8 : decode cX5_rank 8 = .ok (.iload_n 2, 1) := by decide +kernel
theorem dX5_rank_9 : decode cX5_rank 9 = .ok (.iconst 1, 1) := by decide +kernel
theorem dX5_rank_10 : decode cX5_rank 10 = .ok (.if_icmp .lt 16, 3) := by decide +kernel
theorem dX5_rank_13 : decode cX5_rank 13 = .ok (.aload_n 0, 1) := by decide +kernel
theorem dX5_rank_14 : decode cX5_rank 14 = .ok (.getfield 30, 3) := by decide +kernel
theorem dX5_rank_17 : decode cX5_rank 17 = .ok (.iload_n 1, 1) := by decide +kernel
theorem dX5_rank_18 : decode cX5_rank 18 = .ok (.aaload, 1) := by decide +kernel
theorem dX5_rank_19 : decode cX5_rank 19 = .ok (.iload_n 2, 1) := by decide +kernel
theorem dX5_rank_20 : decode cX5_rank 20 = .ok (.invokevirtual 156, 3) := by decide +kernel
theorem dX5_rank_23 : decode cX5_rank 23 = .ok (.goto 6, 3) := by decide +kernel
theorem dX5_rank_26 : decode cX5_rank 26 = .ok (.ldc2_w 112, 3) := by decide +kernel
theorem dX5_rank_29 : decode cX5_rank 29 = .ok (.lreturn, 1) := by decide +kernel
theorem dX5_rolling_0 : decode cX5_rolling 0 = .ok (.iload_n 1, 1) := by decide +kernel
theorem dX5_rolling_1 : decode cX5_rolling 1 = .ok (.iconst 4, 1) := by decide +kernel
theorem dX5_rolling_2 : decode cX5_rolling 2 = .ok (.invokestatic 48, 3) := by decide +kernel
theorem dX5_rolling_5 : decode cX5_rolling 5 = .ok (.ifCond .eq 27, 3) := by decide +kernel
theorem dX5_rolling_8 : decode cX5_rolling 8 = .ok (.iload_n 2, 1) := by decide +kernel
theorem dX5_rolling_9 : decode cX5_rolling 9 = .ok (.iconst 1, 1) := by decide +kernel
theorem dX5_rolling_10 : decode cX5_rolling 10 = .ok (.if_icmp .lt 22, 3) := by decide +kernel
theorem dX5_rolling_13 : decode cX5_rolling 13 = .ok (.iload_n 2, 1) := by decide +kernel
theorem dX5_rolling_14 : decode cX5_rolling 14 = .ok (.bipush 24, 2) := by decide +kernel
theorem dX5_rolling_16 : decode cX5_rolling 16 = .ok (.if_icmp .gt 16, 3) := by decide +kernel
theorem dX5_rolling_19 : decode cX5_rolling 19 = .ok (.aload_n 0, 1) := by decide +kernel
theorem dX5_rolling_20 : decode cX5_rolling 20 = .ok (.getfield 30, 3) := by decide +kernel
theorem dX5_rolling_23 : decode cX5_rolling 23 = .ok (.iload_n 1, 1) := by decide +kernel
theorem dX5_rolling_24 : decode cX5_rolling 24 = .ok (.aaload, 1) := by decide +kernel
theorem dX5_rolling_25 : decode cX5_rolling 25 = .ok (.iload_n 2, 1) := by decide +kernel
theorem dX5_rolling_26 : decode cX5_rolling 26 = .ok (.invokevirtual 160, 3) := by decide +kernel
theorem dX5_rolling_29 : decode cX5_rolling 29 = .ok (.goto 6, 3) := by decide +kernel
theorem dX5_rolling_32 : decode cX5_rolling 32 = .ok (.ldc2_w 112, 3) := by decide +kernel
theorem dX5_rolling_35 : decode cX5_rolling 35 = .ok (.lreturn, 1) := by decide +kernel
theorem dX5_watch_0 : decode cX5_watch 0 = .ok (.iload_n 1, 1) := by decide +kernel
theorem dX5_watch_1 : decode cX5_watch 1 = .ok (.iconst 4, 1) := by decide +kernel
theorem dX5_watch_2 : decode cX5_watch 2 = .ok (.invokestatic 48, 3) := by decide +kernel
theorem dX5_watch_5 : decode cX5_watch 5 = .ok (.ifCond .ne 5, 3) := by decide +kernel
theorem dX5_watch_8 : decode cX5_watch 8 = .ok (.iconst (-1), 1) := by decide +kernel
theorem dX5_watch_9 : decode cX5_watch 9 = .ok (.ireturn, 1) := by decide +kernel
theorem dX5_watch_10 : decode cX5_watch 10 = .ok (.aload_n 0, 1) := by decide +kernel
theorem dX5_watch_11 : decode cX5_watch 11 = .ok (.getfield 30, 3) := by decide +kernel
theorem dX5_watch_14 : decode cX5_watch 14 = .ok (.iload_n 1, 1) := by decide +kernel
theorem dX5_watch_15 : decode cX5_watch 15 = .ok (.aaload, 1) := by decide +kernel
theorem dX5_watch_16 : decode cX5_watch 16 = .ok (.iload_n 2, 1) := by decide +kernel
theorem dX5_watch_17 : decode cX5_watch 17 = .ok (.putfield 163, 3) := by decide +kernel
theorem dX5_watch_20 : decode cX5_watch 20 = .ok (.iconst 0, 1) := by decide +kernel
theorem dX5_watch_21 : decode cX5_watch 21 = .ok (.istore_n 3, 1) := by decide +kernel
theorem dX5_watch_22 : decode cX5_watch 22 = .ok (.iconst 0, 1) := by decide +kernel
theorem dX5_watch_23 : decode cX5_watch 23 = .ok (.istore 4, 2) := by decide +kernel
theorem dX5_watch_25 : decode cX5_watch 25 = .ok (.iload 4, 2) := by decide +kernel
theorem dX5_watch_27 : decode cX5_watch 27 = .ok (.iconst 4, 1) := by decide +kernel
theorem dX5_watch_28 : decode cX5_watch 28 = .ok (.if_icmp .ge 30, 3) := by decide +kernel
theorem dX5_watch_31 : decode cX5_watch 31 = .ok (.iload_n 3, 1) := by decide +kernel
theorem dX5_watch_32 : decode cX5_watch 32 = .ok (.aload_n 0, 1) := by decide +kernel
theorem dX5_watch_33 : decode cX5_watch 33 = .ok (.getfield 30, 3) := by decide +kernel
theorem dX5_watch_36 : decode cX5_watch 36 = .ok (.iload 4, 2) := by decide +kernel
theorem dX5_watch_38 : decode cX5_watch 38 = .ok (.aaload, 1) := by decide +kernel
theorem dX5_watch_39 : decode cX5_watch 39 = .ok (.getfield 163, 3) := by decide +kernel
theorem dX5_watch_42 : decode cX5_watch 42 = .ok (.ifCond .eq 7, 3) := by decide +kernel
theorem dX5_watch_45 : decode cX5_watch 45 = .ok (.iconst 1, 1) := by decide +kernel
theorem dX5_watch_46 : decode cX5_watch 46 = .ok (.goto 4, 3) := by decide +kernel
theorem dX5_watch_49 : decode cX5_watch 49 = .ok (.iconst 0, 1) := by decide +kernel
theorem dX5_watch_50 : decode cX5_watch 50 = .ok (.iadd, 1) := by decide +kernel
theorem dX5_watch_51 : decode cX5_watch 51 = .ok (.istore_n 3, 1) := by decide +kernel
theorem dX5_watch_52 : decode cX5_watch 52 = .ok (.iinc 4 1, 3) := by decide +kernel
theorem dX5_watch_55 : decode cX5_watch 55 = .ok (.goto (-30), 3) := by decide +kernel
theorem dX5_watch_58 : decode cX5_watch 58 = .ok (.iload_n 3, 1) := by decide +kernel
theorem dX5_watch_59 : decode cX5_watch 59 = .ok (.ireturn, 1) := by decide +kernel
theorem dX5_law_0 : decode cX5_law 0 = .ok (.iload_n 1, 1) := by decide +kernel
theorem dX5_law_1 : decode cX5_law 1 = .ok (.ifCond .lt 19, 3) := by decide +kernel
theorem dX5_law_4 : decode cX5_law 4 = .ok (.iload_n 1, 1) := by decide +kernel
theorem dX5_law_5 : decode cX5_law 5 = .ok (.ldc 166, 2) := by decide +kernel
theorem dX5_law_7 : decode cX5_law 7 = .ok (.if_icmp .gt 13, 3) := by decide +kernel
theorem dX5_law_10 : decode cX5_law 10 = .ok (.iload_n 2, 1) := by decide +kernel
theorem dX5_law_11 : decode cX5_law 11 = .ok (.ifCond .lt 9, 3) := by decide +kernel
theorem dX5_law_14 : decode cX5_law 14 = .ok (.iload_n 2, 1) := by decide +kernel
theorem dX5_law_15 : decode cX5_law 15 = .ok (.bipush 100, 2) := by decide +kernel
theorem dX5_law_17 : decode cX5_law 17 = .ok (.if_icmp .le 5, 3) := by decide +kernel
theorem dX5_law_20 : decode cX5_law 20 = .ok (.iconst (-1), 1) := by decide +kernel
theorem dX5_law_21 : decode cX5_law 21 = .ok (.ireturn, 1) := by decide +kernel
theorem dX5_law_22 : decode cX5_law 22 = .ok (.aload_n 0, 1) := by decide +kernel
theorem dX5_law_23 : decode cX5_law 23 = .ok (.getfield 37, 3) := by decide +kernel
theorem dX5_law_26 : decode cX5_law 26 = .ok (.iload_n 1, 1) := by decide +kernel
theorem dX5_law_27 : decode cX5_law 27 = .ok (.putfield 167, 3) := by decide +kernel
theorem dX5_law_30 : decode cX5_law 30 = .ok (.aload_n 0, 1) := by decide +kernel
theorem dX5_law_31 : decode cX5_law 31 = .ok (.getfield 37, 3) := by decide +kernel
theorem dX5_law_34 : decode cX5_law 34 = .ok (.iload_n 2, 1) := by decide +kernel
theorem dX5_law_35 : decode cX5_law 35 = .ok (.putfield 170, 3) := by decide +kernel
theorem dX5_law_38 : decode cX5_law 38 = .ok (.aload_n 0, 1) := by decide +kernel
theorem dX5_law_39 : decode cX5_law 39 = .ok (.getfield 37, 3) := by decide +kernel
theorem dX5_law_42 : decode cX5_law 42 = .ok (.aload_n 0, 1) := by decide +kernel
theorem dX5_law_43 : decode cX5_law 43 = .ok (.getfield 30, 3) := by decide +kernel
theorem dX5_law_46 : decode cX5_law 46 = .ok (.invokevirtual 173, 3) := by decide +kernel
theorem dX5_law_49 : decode cX5_law 49 = .ok (.ireturn, 1) := by decide +kernel
theorem dX5_price_0 : decode cX5_price 0 = .ok (.iload_n 1, 1) := by decide +kernel
theorem dX5_price_1 : decode cX5_price 1 = .ok (.iconst 3, 1) := by decide +kernel
theorem dX5_price_2 : decode cX5_price 2 = .ok (.invokestatic 48, 3) := by decide +kernel
theorem dX5_price_5 : decode cX5_price 5 = .ok (.ifCond .eq 14, 3) := by decide +kernel
theorem dX5_price_8 : decode cX5_price 8 = .ok (.iload_n 2, 1) := by decide +kernel
theorem dX5_price_9 : decode cX5_price 9 = .ok (.ifCond .lt 10, 3) := by decide +kernel
theorem dX5_price_12 : decode cX5_price 12 = .ok (.iload_n 2, 1) := by decide +kernel
theorem dX5_price_13 : decode cX5_price 13 = .ok (.sipush 1000, 3) := by decide +kernel
theorem dX5_price_16 : decode cX5_price 16 = .ok (.if_icmp .le 5, 3) := by decide +kernel
theorem dX5_price_19 : decode cX5_price 19 = .ok (.iconst (-1), 1) := by decide +kernel
theorem dX5_price_20 : decode cX5_price 20 = .ok (.ireturn, 1) := by decide +kernel
theorem dX5_price_21 : decode cX5_price 21 = .ok (.aload_n 0, 1) := by decide +kernel
theorem dX5_price_22 : decode cX5_price 22 = .ok (.getfield 37, 3) := by decide +kernel
theorem dX5_price_25 : decode cX5_price 25 = .ok (.getfield 177, 3) := by decide +kernel
theorem dX5_price_28 : decode cX5_price 28 = .ok (.iload_n 1, 1) := by decide +kernel
theorem dX5_price_29 : decode cX5_price 29 = .ok (.iaload, 1) := by decide +kernel
theorem dX5_price_30 : decode cX5_price 30 = .ok (.istore_n 3, 1) := by decide +kernel
theorem dX5_price_31 : decode cX5_price 31 = .ok (.aload_n 0, 1) := by decide +kernel
theorem dX5_price_32 : decode cX5_price 32 = .ok (.getfield 37, 3) := by decide +kernel
theorem dX5_price_35 : decode cX5_price 35 = .ok (.getfield 177, 3) := by decide +kernel
theorem dX5_price_38 : decode cX5_price 38 = .ok (.iload_n 1, 1) := by decide +kernel
theorem dX5_price_39 : decode cX5_price 39 = .ok (.iload_n 2, 1) := by decide +kernel
theorem dX5_price_40 : decode cX5_price 40 = .ok (.iastore, 1) := by decide +kernel
theorem dX5_price_41 : decode cX5_price 41 = .ok (.iload_n 3, 1) := by decide +kernel
theorem dX5_price_42 : decode cX5_price 42 = .ok (.ireturn, 1) := by decide +kernel
theorem dX5_cheapest_0 : decode cX5_cheapest 0 = .ok (.iload_n 1, 1) := by decide +kernel
theorem dX5_cheapest_1 : decode cX5_cheapest 1 = .ok (.ifCond .lt 8, 3) := by decide +kernel
theorem dX5_cheapest_4 : decode cX5_cheapest 4 = .ok (.iload_n 1, 1) := by decide +kernel
theorem dX5_cheapest_5 : decode cX5_cheapest 5 = .ok (.iconst 3, 1) := by decide +kernel
theorem dX5_cheapest_6 : decode cX5_cheapest 6 = .ok (.if_icmp .le 5, 3) := by decide +kernel
theorem dX5_cheapest_9 : decode cX5_cheapest 9 = .ok (.iconst (-1), 1) := by decide +kernel
theorem dX5_cheapest_10 : decode cX5_cheapest 10 = .ok (.ireturn, 1) := by decide +kernel
theorem dX5_cheapest_11 : decode cX5_cheapest 11 = .ok (.aload_n 0, 1) := by decide +kernel
theorem dX5_cheapest_12 : decode cX5_cheapest 12 = .ok (.getfield 37, 3) := by decide +kernel
theorem dX5_cheapest_15 : decode cX5_cheapest 15 = .ok (.aload_n 0, 1) := by decide +kernel
theorem dX5_cheapest_16 : decode cX5_cheapest 16 = .ok (.getfield 30, 3) := by decide +kernel
theorem dX5_cheapest_19 : decode cX5_cheapest 19 = .ok (.invokevirtual 180, 3) := by decide +kernel
theorem dX5_cheapest_22 : decode cX5_cheapest 22 = .ok (.iload_n 1, 1) := by decide +kernel
theorem dX5_cheapest_23 : decode cX5_cheapest 23 = .ok (.iconst 3, 1) := by decide +kernel
theorem dX5_cheapest_24 : decode cX5_cheapest 24 = .ok (.if_icmp .ne 13, 3) := by decide +kernel
theorem dX5_cheapest_27 : decode cX5_cheapest 27 = .ok (.aload_n 0, 1) := by decide +kernel
theorem dX5_cheapest_28 : decode cX5_cheapest 28 = .ok (.getfield 37, 3) := by decide +kernel
theorem dX5_cheapest_31 : decode cX5_cheapest 31 = .ok (.getfield 184, 3) := by decide +kernel
theorem dX5_cheapest_34 : decode cX5_cheapest 34 = .ok (.goto 12, 3) := by decide +kernel
theorem dX5_cheapest_37 : decode cX5_cheapest 37 = .ok (.aload_n 0, 1) := by decide +kernel
theorem dX5_cheapest_38 : decode cX5_cheapest 38 = .ok (.getfield 37, 3) := by decide +kernel
theorem dX5_cheapest_41 : decode cX5_cheapest 41 = .ok (.getfield 187, 3) := by decide +kernel
theorem dX5_cheapest_44 : decode cX5_cheapest 44 = .ok (.iload_n 1, 1) := by decide +kernel
theorem dX5_cheapest_45 : decode cX5_cheapest 45 = .ok (.iaload, 1) := by decide +kernel
theorem dX5_cheapest_46 : decode cX5_cheapest 46 = .ok (.ireturn, 1) := by decide +kernel
theorem dX5_isBelow_0 : decode cX5_isBelow 0 = .ok (.iload_n 0, 1) := by decide +kernel
theorem dX5_isBelow_1 : decode cX5_isBelow 1 = .ok (.ifCond .lt 12, 3) := by decide +kernel
theorem dX5_isBelow_4 : decode cX5_isBelow 4 = .ok (.iload_n 0, 1) := by decide +kernel
theorem dX5_isBelow_5 : decode cX5_isBelow 5 = .ok (.iload_n 1, 1) := by decide +kernel
theorem dX5_isBelow_6 : decode cX5_isBelow 6 = .ok (.if_icmp .ge 7, 3) := by decide +kernel
theorem dX5_isBelow_9 : decode cX5_isBelow 9 = .ok (.iconst 1, 1) := by decide +kernel
theorem dX5_isBelow_10 : decode cX5_isBelow 10 = .ok (.goto 4, 3) := by decide +kernel
theorem dX5_isBelow_13 : decode cX5_isBelow 13 = .ok (.iconst 0, 1) := by decide +kernel
theorem dX5_isBelow_14 : decode cX5_isBelow 14 = .ok (.ireturn, 1) := by decide +kernel
theorem dX5_isLane_0 : decode cX5_isLane 0 = .ok (.iload_n 0, 1) := by decide +kernel
theorem dX5_isLane_1 : decode cX5_isLane 1 = .ok (.ifCond .eq 8, 3) := by decide +kernel
theorem dX5_isLane_4 : decode cX5_isLane 4 = .ok (.iload_n 0, 1) := by decide +kernel
theorem dX5_isLane_5 : decode cX5_isLane 5 = .ok (.iconst 1, 1) := by decide +kernel
theorem dX5_isLane_6 : decode cX5_isLane 6 = .ok (.if_icmp .ne 7, 3) := by decide +kernel
theorem dX5_isLane_9 : decode cX5_isLane 9 = .ok (.iconst 1, 1) := by decide +kernel
theorem dX5_isLane_10 : decode cX5_isLane 10 = .ok (.goto 4, 3) := by decide +kernel
theorem dX5_isLane_13 : decode cX5_isLane 13 = .ok (.iconst 0, 1) := by decide +kernel
theorem dX5_isLane_14 : decode cX5_isLane 14 = .ok (.ireturn, 1) := by decide +kernel
theorem dX5_passHour_0 : decode cX5_passHour 0 = .ok (.aload_n 0, 1) := by decide +kernel
theorem dX5_passHour_1 : decode cX5_passHour 1 = .ok (.getfield 41, 3) := by decide +kernel
theorem dX5_passHour_4 : decode cX5_passHour 4 = .ok (.bipush 24, 2) := by decide +kernel
theorem dX5_passHour_6 : decode cX5_passHour 6 = .ok (.invokestatic 190, 3) := by decide +kernel
theorem dX5_passHour_9 : decode cX5_passHour 9 = .ok (.istore_n 2, 1) := by decide +kernel
theorem dX5_passHour_10 : decode cX5_passHour 10 = .ok (.iconst 0, 1) := by decide +kernel
theorem dX5_passHour_11 : decode cX5_passHour 11 = .ok (.istore_n 3, 1) := by decide +kernel
theorem dX5_passHour_12 : decode cX5_passHour 12 = .ok (.iload_n 3, 1) := by decide +kernel
theorem dX5_passHour_13 : decode cX5_passHour 13 = .ok (.iconst 3, 1) := by decide +kernel
theorem dX5_passHour_14 : decode cX5_passHour 14 = .ok (.if_icmp .ge 45, 3) := by decide +kernel
theorem dX5_passHour_17 : decode cX5_passHour 17 = .ok (.aload_n 0, 1) := by decide +kernel
theorem dX5_passHour_18 : decode cX5_passHour 18 = .ok (.getfield 24, 3) := by decide +kernel
theorem dX5_passHour_21 : decode cX5_passHour 21 = .ok (.iload_n 3, 1) := by decide +kernel
theorem dX5_passHour_22 : decode cX5_passHour 22 = .ok (.aaload, 1) := by decide +kernel
theorem dX5_passHour_23 : decode cX5_passHour 23 = .ok (.iload_n 2, 1) := by decide +kernel
theorem dX5_passHour_24 : decode cX5_passHour 24 = .ok (.invokevirtual 196, 3) := by decide +kernel
theorem dX5_passHour_27 : decode cX5_passHour 27 = .ok (.aload_n 0, 1) := by decide +kernel
theorem dX5_passHour_28 : decode cX5_passHour 28 = .ok (.getfield 24, 3) := by decide +kernel
theorem dX5_passHour_31 : decode cX5_passHour 31 = .ok (.iload_n 3, 1) := by decide +kernel
theorem dX5_passHour_32 : decode cX5_passHour 32 = .ok (.aaload, 1) := by decide +kernel
theorem dX5_passHour_33 : decode cX5_passHour 33 = .ok (.iload_n 1, 1) := by decide +kernel
theorem dX5_passHour_34 : decode cX5_passHour 34 = .ok (.invokevirtual 199, 3) := by decide +kernel
theorem dX5_passHour_37 : decode cX5_passHour 37 = .ok (.aload_n 0, 1) := by decide +kernel
theorem dX5_passHour_38 : decode cX5_passHour 38 = .ok (.getfield 24, 3) := by decide +kernel
theorem dX5_passHour_41 : decode cX5_passHour 41 = .ok (.iload_n 3, 1) := by decide +kernel
theorem dX5_passHour_42 : decode cX5_passHour 42 = .ok (.aaload, 1) := by decide +kernel
theorem dX5_passHour_43 : decode cX5_passHour 43 = .ok (.aload_n 0, 1) := by decide +kernel
theorem dX5_passHour_44 : decode cX5_passHour 44 = .ok (.getfield 12, 3) := by decide +kernel
theorem dX5_passHour_47 : decode cX5_passHour 47 = .ok (.getfield 63, 3) := by decide +kernel
theorem dX5_passHour_50 : decode cX5_passHour 50 = .ok (.invokevirtual 202, 3) := by decide +kernel
theorem dX5_passHour_53 : decode cX5_passHour 53 = .ok (.iinc 3 1, 3) := by decide +kernel
theorem dX5_passHour_56 : decode cX5_passHour 56 = .ok (.goto (-44), 3) := by decide +kernel
theorem dX5_passHour_59 : decode cX5_passHour 59 = .ok (.aload_n 0, 1) := by decide +kernel
theorem dX5_passHour_60 : decode cX5_passHour 60 = .ok (.dup, 1) := by decide +kernel
theorem dX5_passHour_61 : decode cX5_passHour 61 = .ok (.getfield 41, 3) := by decide +kernel
theorem dX5_passHour_64 : decode cX5_passHour 64 = .ok (.iconst 1, 1) := by decide +kernel
theorem dX5_passHour_65 : decode cX5_passHour 65 = .ok (.iadd, 1) := by decide +kernel
theorem dX5_passHour_66 : decode cX5_passHour 66 = .ok (.putfield 41, 3) := by decide +kernel
theorem dX5_passHour_69 : decode cX5_passHour 69 = .ok (.iconst 0, 1) := by decide +kernel
theorem dX5_passHour_70 : decode cX5_passHour 70 = .ok (.istore_n 3, 1) := by decide +kernel
theorem dX5_passHour_71 : decode cX5_passHour 71 = .ok (.iload_n 3, 1) := by decide +kernel
theorem dX5_passHour_72 : decode cX5_passHour 72 = .ok (.iconst 4, 1) := by decide +kernel
theorem dX5_passHour_73 : decode cX5_passHour 73 = .ok (.if_icmp .ge 22, 3) := by decide +kernel
theorem dX5_passHour_76 : decode cX5_passHour 76 = .ok (.aload_n 0, 1) := by decide +kernel
theorem dX5_passHour_77 : decode cX5_passHour 77 = .ok (.getfield 30, 3) := by decide +kernel
theorem dX5_passHour_80 : decode cX5_passHour 80 = .ok (.iload_n 3, 1) := by decide +kernel
theorem dX5_passHour_81 : decode cX5_passHour 81 = .ok (.aaload, 1) := by decide +kernel
theorem dX5_passHour_82 : decode cX5_passHour 82 = .ok (.aload_n 0, 1) := by decide +kernel
theorem dX5_passHour_83 : decode cX5_passHour 83 = .ok (.getfield 24, 3) := by decide +kernel
theorem dX5_passHour_86 : decode cX5_passHour 86 = .ok (.invokevirtual 206, 3) := by decide +kernel
theorem dX5_passHour_89 : decode cX5_passHour 89 = .ok (.iinc 3 1, 3) := by decide +kernel
theorem dX5_passHour_92 : decode cX5_passHour 92 = .ok (.goto (-21), 3) := by decide +kernel
theorem dX5_passHour_95 : decode cX5_passHour 95 = .ok (.return_, 1) := by decide +kernel
