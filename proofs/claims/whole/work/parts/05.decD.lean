theorem dX6_carry_358 : decode cX6_carry 358 = .ok (.imul, 1) := by decide +kernel
theorem dX6_carry_359 : decode cX6_carry 359 = .ok (.iload 4, 2) := by decide +kernel
theorem dX6_carry_361 : decode cX6_carry 361 = .ok (.iadd, 1) := by decide +kernel
theorem dX6_carry_362 : decode cX6_carry 362 = .ok (.aload_n 0, 1) := by decide +kernel
theorem dX6_carry_363 : decode cX6_carry 363 = .ok (.getfield 41, 3) := by decide +kernel
theorem dX6_carry_366 : decode cX6_carry 366 = .ok (.iload 4, 2) := by decide +kernel
theorem dX6_carry_368 : decode cX6_carry 368 = .ok (.laload, 1) := by decide +kernel
theorem dX6_carry_369 : decode cX6_carry 369 = .ok (.lastore, 1) := by decide +kernel
theorem dX6_carry_370 : decode cX6_carry 370 = .ok (.iinc 4 1, 3) := by decide +kernel
theorem dX6_carry_373 : decode cX6_carry 373 = .ok (.goto (-29), 3) := by decide +kernel
theorem dX6_carry_376 : decode cX6_carry 376 = .ok (.return_, 1) := by decide +kernel
theorem dX6_grains_0 : decode cX6_grains 0 = .ok (.iload_n 1, 1) := by decide +kernel
theorem dX6_grains_1 : decode cX6_grains 1 = .ok (.i2l, 1) := by decide +kernel
theorem dX6_grains_2 : decode cX6_grains 2 = .ok (.lconst 0, 1) := by decide +kernel
theorem dX6_grains_3 : decode cX6_grains 3 = .ok (.ldc2_w 79, 3) := by decide +kernel
theorem dX6_grains_6 : decode cX6_grains 6 = .ok (.invokestatic 71, 3) := by decide +kernel
theorem dX6_grains_9 : decode cX6_grains 9 = .ok (.ifCond .eq 29, 3) := by decide +kernel
theorem dX6_grains_12 : decode cX6_grains 12 = .ok (.iload_n 2, 1) := by decide +kernel
theorem dX6_grains_13 : decode cX6_grains 13 = .ok (.i2l, 1) := by decide +kernel
theorem dX6_grains_14 : decode cX6_grains 14 = .ok (.lconst 0, 1) := by decide +kernel
theorem dX6_grains_15 : decode cX6_grains 15 = .ok (.ldc2_w 92, 3) := by decide +kernel
theorem dX6_grains_18 : decode cX6_grains 18 = .ok (.invokestatic 71, 3) := by decide +kernel
theorem dX6_grains_21 : decode cX6_grains 21 = .ok (.ifCond .eq 17, 3) := by decide +kernel
theorem dX6_grains_24 : decode cX6_grains 24 = .ok (.aload_n 0, 1) := by decide +kernel
theorem dX6_grains_25 : decode cX6_grains 25 = .ok (.getfield 35, 3) := by decide +kernel
theorem dX6_grains_28 : decode cX6_grains 28 = .ok (.bipush 9, 2) := by decide +kernel
theorem dX6_grains_30 : decode cX6_grains 30 = .ok (.iload_n 1, 1) := by decide +kernel
theorem dX6_grains_31 : decode cX6_grains 31 = .ok (.imul, 1) := by decide +kernel
theorem dX6_grains_32 : decode cX6_grains 32 = .ok (.iload_n 2, 1) := by decide +kernel
theorem dX6_grains_33 : decode cX6_grains 33 = .ok (.iadd, 1) := by decide +kernel
theorem dX6_grains_34 : decode cX6_grains 34 = .ok (.laload, 1) := by decide +kernel
theorem dX6_grains_35 : decode cX6_grains 35 = .ok (.goto 6, 3) := by decide +kernel
theorem dX6_grains_38 : decode cX6_grains 38 = .ok (.ldc2_w 99, 3) := by decide +kernel
theorem dX6_grains_41 : decode cX6_grains 41 = .ok (.lreturn, 1) := by decide +kernel
theorem dX6_total_0 : decode cX6_total 0 = .ok (.iload_n 1, 1) := by decide +kernel
theorem dX6_total_1 : decode cX6_total 1 = .ok (.i2l, 1) := by decide +kernel
theorem dX6_total_2 : decode cX6_total 2 = .ok (.lconst 0, 1) := by decide +kernel
theorem dX6_total_3 : decode cX6_total 3 = .ok (.ldc2_w 79, 3) := by decide +kernel
theorem dX6_total_6 : decode cX6_total 6 = .ok (.invokestatic 71, 3) := by decide +kernel
theorem dX6_total_9 : decode cX6_total 9 = .ok (.ifCond .eq 15, 3) := by decide +kernel
theorem dX6_total_12 : decode cX6_total 12 = .ok (.iload_n 2, 1) := by decide +kernel
theorem dX6_total_13 : decode cX6_total 13 = .ok (.i2l, 1) := by decide +kernel
theorem dX6_total_14 : decode cX6_total 14 = .ok (.lconst 0, 1) := by decide +kernel
theorem dX6_total_15 : decode cX6_total 15 = .ok (.ldc2_w 97, 3) := by decide +kernel
theorem dX6_total_18 : decode cX6_total 18 = .ok (.invokestatic 71, 3) := by decide +kernel
theorem dX6_total_21 : decode cX6_total 21 = .ok (.ifCond .ne 7, 3) := by decide +kernel
theorem dX6_total_24 : decode cX6_total 24 = .ok (.ldc2_w 99, 3) := by decide +kernel
theorem dX6_total_27 : decode cX6_total 27 = .ok (.lreturn, 1) := by decide +kernel
theorem dX6_total_28 : decode cX6_total 28 = .ok (.iload_n 2, 1) := by decide +kernel
theorem dX6_total_29 : decode cX6_total 29 = .ok (.iconst 4, 1) := by decide +kernel
theorem dX6_total_30 : decode cX6_total 30 = .ok (.if_icmp .ge 14, 3) := by decide +kernel
theorem dX6_total_33 : decode cX6_total 33 = .ok (.aload_n 0, 1) := by decide +kernel
theorem dX6_total_34 : decode cX6_total 34 = .ok (.getfield 38, 3) := by decide +kernel
theorem dX6_total_37 : decode cX6_total 37 = .ok (.iconst 4, 1) := by decide +kernel
theorem dX6_total_38 : decode cX6_total 38 = .ok (.iload_n 1, 1) := by decide +kernel
theorem dX6_total_39 : decode cX6_total 39 = .ok (.imul, 1) := by decide +kernel
theorem dX6_total_40 : decode cX6_total 40 = .ok (.iload_n 2, 1) := by decide +kernel
theorem dX6_total_41 : decode cX6_total 41 = .ok (.iadd, 1) := by decide +kernel
theorem dX6_total_42 : decode cX6_total 42 = .ok (.laload, 1) := by decide +kernel
theorem dX6_total_43 : decode cX6_total 43 = .ok (.lreturn, 1) := by decide +kernel
theorem dX6_total_44 : decode cX6_total 44 = .ok (.lconst 0, 1) := by decide +kernel
theorem dX6_total_45 : decode cX6_total 45 = .ok (.lstore_n 3, 1) := by decide +kernel
theorem dX6_total_46 : decode cX6_total 46 = .ok (.iconst 0, 1) := by decide +kernel
theorem dX6_total_47 : decode cX6_total 47 = .ok (.istore 5, 2) := by decide +kernel
theorem dX6_total_49 : decode cX6_total 49 = .ok (.iload 5, 2) := by decide +kernel
theorem dX6_total_51 : decode cX6_total 51 = .ok (.bipush 9, 2) := by decide +kernel
theorem dX6_total_53 : decode cX6_total 53 = .ok (.if_icmp .ge 24, 3) := by decide +kernel
theorem dX6_total_56 : decode cX6_total 56 = .ok (.lload_n 3, 1) := by decide +kernel
theorem dX6_total_57 : decode cX6_total 57 = .ok (.aload_n 0, 1) := by decide +kernel
theorem dX6_total_58 : decode cX6_total 58 = .ok (.getfield 35, 3) := by decide +kernel
theorem dX6_total_61 : decode cX6_total 61 = .ok (.bipush 9, 2) := by decide +kernel
theorem dX6_total_63 : decode cX6_total 63 = .ok (.iload_n 1, 1) := by decide +kernel
theorem dX6_total_64 : decode cX6_total 64 = .ok (.imul, 1) := by decide +kernel
theorem dX6_total_65 : decode cX6_total 65 = .ok (.iload 5, 2) := by decide +kernel
theorem dX6_total_67 : decode cX6_total 67 = .ok (.iadd, 1) := by decide +kernel
theorem dX6_total_68 : decode cX6_total 68 = .ok (.laload, 1) := by decide +kernel
theorem dX6_total_69 : decode cX6_total 69 = .ok (.ladd, 1) := by decide +kernel
theorem dX6_total_70 : decode cX6_total 70 = .ok (.lstore_n 3, 1) := by decide +kernel
theorem dX6_total_71 : decode cX6_total 71 = .ok (.iinc 5 1, 3) := by decide +kernel
theorem dX6_total_74 : decode cX6_total 74 = .ok (.goto (-25), 3) := by decide +kernel
theorem dX6_total_77 : decode cX6_total 77 = .ok (.lload_n 3, 1) := by decide +kernel
theorem dX6_total_78 : decode cX6_total 78 = .ok (.lreturn, 1) := by decide +kernel
theorem dX6_isDoor_0 : decode cX6_isDoor 0 = .ok (.iload_n 0, 1) := by decide +kernel
theorem dX6_isDoor_1 : decode cX6_isDoor 1 = .ok (.i2l, 1) := by decide +kernel
theorem dX6_isDoor_2 : decode cX6_isDoor 2 = .ok (.lconst 0, 1) := by decide +kernel
theorem dX6_isDoor_3 : decode cX6_isDoor 3 = .ok (.ldc2_w 112, 3) := by decide +kernel
theorem dX6_isDoor_6 : decode cX6_isDoor 6 = .ok (.invokestatic 71, 3) := by decide +kernel
theorem dX6_isDoor_9 : decode cX6_isDoor 9 = .ok (.ireturn, 1) := by decide +kernel
theorem dX6_door_0 : decode cX6_door 0 = .ok (.iload_n 1, 1) := by decide +kernel
theorem dX6_door_1 : decode cX6_door 1 = .ok (.invokestatic 131, 3) := by decide +kernel
theorem dX6_door_4 : decode cX6_door 4 = .ok (.ifCond .eq 15, 3) := by decide +kernel
theorem dX6_door_7 : decode cX6_door 7 = .ok (.iload_n 2, 1) := by decide +kernel
theorem dX6_door_8 : decode cX6_door 8 = .ok (.i2l, 1) := by decide +kernel
theorem dX6_door_9 : decode cX6_door 9 = .ok (.lconst 0, 1) := by decide +kernel
theorem dX6_door_10 : decode cX6_door 10 = .ok (.ldc2_w 92, 3) := by decide +kernel
theorem dX6_door_13 : decode cX6_door 13 = .ok (.invokestatic 71, 3) := by decide +kernel
theorem dX6_door_16 : decode cX6_door 16 = .ok (.ifCond .ne 5, 3) := by decide +kernel
theorem dX6_door_19 : decode cX6_door 19 = .ok (.iconst (-1), 1) := by decide +kernel
theorem dX6_door_20 : decode cX6_door 20 = .ok (.ireturn, 1) := by decide +kernel
theorem dX6_door_21 : decode cX6_door 21 = .ok (.aload_n 0, 1) := by decide +kernel
theorem dX6_door_22 : decode cX6_door 22 = .ok (.getfield 54, 3) := by decide +kernel
theorem dX6_door_25 : decode cX6_door 25 = .ok (.iload_n 1, 1) := by decide +kernel
theorem dX6_door_26 : decode cX6_door 26 = .ok (.iaload, 1) := by decide +kernel
theorem dX6_door_27 : decode cX6_door 27 = .ok (.istore_n 3, 1) := by decide +kernel
theorem dX6_door_28 : decode cX6_door 28 = .ok (.aload_n 0, 1) := by decide +kernel
theorem dX6_door_29 : decode cX6_door 29 = .ok (.getfield 44, 3) := by decide +kernel
theorem dX6_door_32 : decode cX6_door 32 = .ok (.iload_n 1, 1) := by decide +kernel
theorem dX6_door_33 : decode cX6_door 33 = .ok (.iload_n 2, 1) := by decide +kernel
theorem dX6_door_34 : decode cX6_door 34 = .ok (.iastore, 1) := by decide +kernel
theorem dX6_door_35 : decode cX6_door 35 = .ok (.aload_n 0, 1) := by decide +kernel
theorem dX6_door_36 : decode cX6_door 36 = .ok (.getfield 54, 3) := by decide +kernel
theorem dX6_door_39 : decode cX6_door 39 = .ok (.iload_n 1, 1) := by decide +kernel
theorem dX6_door_40 : decode cX6_door 40 = .ok (.iconst 0, 1) := by decide +kernel
theorem dX6_door_41 : decode cX6_door 41 = .ok (.iastore, 1) := by decide +kernel
theorem dX6_door_42 : decode cX6_door 42 = .ok (.iload_n 3, 1) := by decide +kernel
theorem dX6_door_43 : decode cX6_door 43 = .ok (.ireturn, 1) := by decide +kernel
theorem dX6_lose_0 : decode cX6_lose 0 = .ok (.iload_n 1, 1) := by decide +kernel
theorem dX6_lose_1 : decode cX6_lose 1 = .ok (.invokestatic 131, 3) := by decide +kernel
theorem dX6_lose_4 : decode cX6_lose 4 = .ok (.ifCond .ne 5, 3) := by decide +kernel
theorem dX6_lose_7 : decode cX6_lose 7 = .ok (.iconst (-1), 1) := by decide +kernel
theorem dX6_lose_8 : decode cX6_lose 8 = .ok (.ireturn, 1) := by decide +kernel
theorem dX6_lose_9 : decode cX6_lose 9 = .ok (.aload_n 0, 1) := by decide +kernel
theorem dX6_lose_10 : decode cX6_lose 10 = .ok (.getfield 47, 3) := by decide +kernel
theorem dX6_lose_13 : decode cX6_lose 13 = .ok (.iload_n 1, 1) := by decide +kernel
theorem dX6_lose_14 : decode cX6_lose 14 = .ok (.baload, 1) := by decide +kernel
theorem dX6_lose_15 : decode cX6_lose 15 = .ok (.ifCond .eq 7, 3) := by decide +kernel
theorem dX6_lose_18 : decode cX6_lose 18 = .ok (.iconst 1, 1) := by decide +kernel
theorem dX6_lose_19 : decode cX6_lose 19 = .ok (.goto 4, 3) := by decide +kernel
theorem dX6_lose_22 : decode cX6_lose 22 = .ok (.iconst 0, 1) := by decide +kernel
theorem dX6_lose_23 : decode cX6_lose 23 = .ok (.istore_n 3, 1) := by decide +kernel
theorem dX6_lose_24 : decode cX6_lose 24 = .ok (.aload_n 0, 1) := by decide +kernel
theorem dX6_lose_25 : decode cX6_lose 25 = .ok (.getfield 47, 3) := by decide +kernel
theorem dX6_lose_28 : decode cX6_lose 28 = .ok (.iload_n 1, 1) := by decide +kernel
theorem dX6_lose_29 : decode cX6_lose 29 = .ok (.iload_n 2, 1) := by decide +kernel
theorem dX6_lose_30 : decode cX6_lose 30 = .ok (.bastore, 1) := by decide +kernel
theorem dX6_lose_31 : decode cX6_lose 31 = .ok (.iload_n 3, 1) := by decide +kernel
theorem dX6_lose_32 : decode cX6_lose 32 = .ok (.ireturn, 1) := by decide +kernel
theorem dX6_write_0 : decode cX6_write 0 = .ok (.sipush 300, 3) := by decide +kernel
theorem dX6_write_3 : decode cX6_write 3 = .ok (.iload_n 1, 1) := by decide +kernel
theorem dX6_write_4 : decode cX6_write 4 = .ok (.imul, 1) := by decide +kernel
theorem dX6_write_5 : decode cX6_write 5 = .ok (.istore_n 2, 1) := by decide +kernel
theorem dX6_write_6 : decode cX6_write 6 = .ok (.aload_n 0, 1) := by decide +kernel
theorem dX6_write_7 : decode cX6_write 7 = .ok (.getfield 54, 3) := by decide +kernel
theorem dX6_write_10 : decode cX6_write 10 = .ok (.iload_n 1, 1) := by decide +kernel
theorem dX6_write_11 : decode cX6_write 11 = .ok (.iaload, 1) := by decide +kernel
theorem dX6_write_12 : decode cX6_write 12 = .ok (.bipush 100, 2) := by decide +kernel
theorem dX6_write_14 : decode cX6_write 14 = .ok (.if_icmp .ne 46, 3) := by decide +kernel
theorem dX6_write_17 : decode cX6_write 17 = .ok (.iconst 3, 1) := by decide +kernel
theorem dX6_write_18 : decode cX6_write 18 = .ok (.istore_n 3, 1) := by decide +kernel
theorem dX6_write_19 : decode cX6_write 19 = .ok (.iload_n 3, 1) := by decide +kernel
theorem dX6_write_20 : decode cX6_write 20 = .ok (.sipush 300, 3) := by decide +kernel
theorem dX6_write_23 : decode cX6_write 23 = .ok (.if_icmp .ge 27, 3) := by decide +kernel
theorem dX6_write_26 : decode cX6_write 26 = .ok (.aload_n 0, 1) := by decide +kernel
theorem dX6_write_27 : decode cX6_write 27 = .ok (.getfield 57, 3) := by decide +kernel
theorem dX6_write_30 : decode cX6_write 30 = .ok (.iload_n 2, 1) := by decide +kernel
theorem dX6_write_31 : decode cX6_write 31 = .ok (.iload_n 3, 1) := by decide +kernel
theorem dX6_write_32 : decode cX6_write 32 = .ok (.iadd, 1) := by decide +kernel
theorem dX6_write_33 : decode cX6_write 33 = .ok (.iconst 3, 1) := by decide +kernel
theorem dX6_write_34 : decode cX6_write 34 = .ok (.isub, 1) := by decide +kernel
theorem dX6_write_35 : decode cX6_write 35 = .ok (.aload_n 0, 1) := by decide +kernel
theorem dX6_write_36 : decode cX6_write 36 = .ok (.getfield 57, 3) := by decide +kernel
theorem dX6_write_39 : decode cX6_write 39 = .ok (.iload_n 2, 1) := by decide +kernel
theorem dX6_write_40 : decode cX6_write 40 = .ok (.iload_n 3, 1) := by decide +kernel
theorem dX6_write_41 : decode cX6_write 41 = .ok (.iadd, 1) := by decide +kernel
theorem dX6_write_42 : decode cX6_write 42 = .ok (.laload, 1) := by decide +kernel
theorem dX6_write_43 : decode cX6_write 43 = .ok (.lastore, 1) := by decide +kernel
theorem dX6_write_44 : decode cX6_write 44 = .ok (.iinc 3 1, 3) := by decide +kernel
theorem dX6_write_47 : decode cX6_write 47 = .ok (.goto (-28), 3) := by decide +kernel
theorem dX6_write_50 : decode cX6_write 50 = .ok (.aload_n 0, 1) := by decide +kernel
theorem dX6_write_51 : decode cX6_write 51 = .ok (.getfield 54, 3) := by decide +kernel
theorem dX6_write_54 : decode cX6_write 54 = .ok (.iload_n 1, 1) := by decide +kernel
theorem dX6_write_55 : decode cX6_write 55 = .ok (.dup2, 1) := by decide +kernel
theorem dX6_write_56 : decode cX6_write 56 = .ok (.iaload, 1) := by decide +kernel
theorem dX6_write_57 : decode cX6_write 57 = .ok (.iconst 1, 1) := by decide +kernel
theorem dX6_write_58 : decode cX6_write 58 = .ok (.isub, 1) := by decide +kernel
theorem dX6_write_59 : decode cX6_write 59 = .ok (.iastore, 1) := by decide +kernel
theorem dX6_write_60 : decode cX6_write 60 = .ok (.iconst 0, 1) := by decide +kernel
theorem dX6_write_61 : decode cX6_write 61 = .ok (.istore_n 3, 1) := by decide +kernel
theorem dX6_write_62 : decode cX6_write 62 = .ok (.iload_n 3, 1) := by decide +kernel
theorem dX6_write_63 : decode cX6_write 63 = .ok (.iconst 3, 1) := by decide +kernel
theorem dX6_write_64 : decode cX6_write 64 = .ok (.if_icmp .ge 57, 3) := by decide +kernel
theorem dX6_write_67 : decode cX6_write 67 = .ok (.aload_n 0, 1) := by decide +kernel
theorem dX6_write_68 : decode cX6_write 68 = .ok (.getfield 57, 3) := by decide +kernel
theorem dX6_write_71 : decode cX6_write 71 = .ok (.iload_n 2, 1) := by decide +kernel
theorem dX6_write_72 : decode cX6_write 72 = .ok (.iconst 3, 1) := by decide +kernel
theorem dX6_write_73 : decode cX6_write 73 = .ok (.aload_n 0, 1) := by decide +kernel
theorem dX6_write_74 : decode cX6_write 74 = .ok (.getfield 54, 3) := by decide +kernel
theorem dX6_write_77 : decode cX6_write 77 = .ok (.iload_n 1, 1) := by decide +kernel
theorem dX6_write_78 : decode cX6_write 78 = .ok (.iaload, 1) := by decide +kernel
theorem dX6_write_79 : decode cX6_write 79 = .ok (.imul, 1) := by decide +kernel
theorem dX6_write_80 : decode cX6_write 80 = .ok (.iadd, 1) := by decide +kernel
theorem dX6_write_81 : decode cX6_write 81 = .ok (.iload_n 3, 1) := by decide +kernel
theorem dX6_write_82 : decode cX6_write 82 = .ok (.iadd, 1) := by decide +kernel
theorem dX6_write_83 : decode cX6_write 83 = .ok (.aload_n 0, 1) := by decide +kernel
theorem dX6_write_84 : decode cX6_write 84 = .ok (.getfield 47, 3) := by decide +kernel
theorem dX6_write_87 : decode cX6_write 87 = .ok (.iload_n 1, 1) := by decide +kernel
theorem dX6_write_88 : decode cX6_write 88 = .ok (.baload, 1) := by decide +kernel
theorem dX6_write_89 : decode cX6_write 89 = .ok (.ifCond .eq 9, 3) := by decide +kernel
theorem dX6_write_92 : decode cX6_write 92 = .ok (.ldc2_w 99, 3) := by decide +kernel
theorem dX6_write_95 : decode cX6_write 95 = .ok (.goto 19, 3) := by decide +kernel
theorem dX6_write_98 : decode cX6_write 98 = .ok (.aload_n 0, 1) := by decide +kernel
theorem dX6_write_99 : decode cX6_write 99 = .ok (.getfield 35, 3) := by decide +kernel
theorem dX6_write_102 : decode cX6_write 102 = .ok (.bipush 9, 2) := by decide +kernel
theorem dX6_write_104 : decode cX6_write 104 = .ok (.iload_n 3, 1) := by decide +kernel
theorem dX6_write_105 : decode cX6_write 105 = .ok (.imul, 1) := by decide +kernel
theorem dX6_write_106 : decode cX6_write 106 = .ok (.aload_n 0, 1) := by decide +kernel
theorem dX6_write_107 : decode cX6_write 107 = .ok (.getfield 44, 3) := by decide +kernel
theorem dX6_write_110 : decode cX6_write 110 = .ok (.iload_n 1, 1) := by decide +kernel
theorem dX6_write_111 : decode cX6_write 111 = .ok (.iaload, 1) := by decide +kernel
theorem dX6_write_112 : decode cX6_write 112 = .ok (.iadd, 1) := by decide +kernel
theorem dX6_write_113 : decode cX6_write 113 = .ok (.laload, 1) := by decide +kernel
theorem dX6_write_114 : decode cX6_write 114 = .ok (.lastore, 1) := by decide +kernel
theorem dX6_write_115 : decode cX6_write 115 = .ok (.iinc 3 1, 3) := by decide +kernel
theorem dX6_write_118 : decode cX6_write 118 = .ok (.goto (-56), 3) := by decide +kernel
theorem dX6_write_121 : decode cX6_write 121 = .ok (.aload_n 0, 1) := by decide +kernel
theorem dX6_write_122 : decode cX6_write 122 = .ok (.getfield 54, 3) := by decide +kernel
theorem dX6_write_125 : decode cX6_write 125 = .ok (.iload_n 1, 1) := by decide +kernel
theorem dX6_write_126 : decode cX6_write 126 = .ok (.dup2, 1) := by decide +kernel
theorem dX6_write_127 : decode cX6_write 127 = .ok (.iaload, 1) := by decide +kernel
theorem dX6_write_128 : decode cX6_write 128 = .ok (.iconst 1, 1) := by decide +kernel
theorem dX6_write_129 : decode cX6_write 129 = .ok (.iadd, 1) := by decide +kernel
theorem dX6_write_130 : decode cX6_write 130 = .ok (.iastore, 1) := by decide +kernel
theorem dX6_write_131 : decode cX6_write 131 = .ok (.return_, 1) := by decide +kernel
theorem dX6_hours_0 : decode cX6_hours 0 = .ok (.iload_n 1, 1) := by decide +kernel
theorem dX6_hours_1 : decode cX6_hours 1 = .ok (.i2l, 1) := by decide +kernel
theorem dX6_hours_2 : decode cX6_hours 2 = .ok (.lconst 1, 1) := by decide +kernel
theorem dX6_hours_3 : decode cX6_hours 3 = .ok (.ldc2_w 135, 3) := by decide +kernel
theorem dX6_hours_6 : decode cX6_hours 6 = .ok (.invokestatic 71, 3) := by decide +kernel
theorem dX6_hours_9 : decode cX6_hours 9 = .ok (.ifCond .eq 15, 3) := by decide +kernel
theorem dX6_hours_12 : decode cX6_hours 12 = .ok (.iload_n 2, 1) := by decide +kernel
theorem dX6_hours_13 : decode cX6_hours 13 = .ok (.i2l, 1) := by decide +kernel
theorem dX6_hours_14 : decode cX6_hours 14 = .ok (.lconst 0, 1) := by decide +kernel
theorem dX6_hours_15 : decode cX6_hours 15 = .ok (.ldc2_w 127, 3) := by decide +kernel
theorem dX6_hours_18 : decode cX6_hours 18 = .ok (.invokestatic 71, 3) := by decide +kernel
theorem dX6_hours_21 : decode cX6_hours 21 = .ok (.ifCond .ne 5, 3) := by decide +kernel
theorem dX6_hours_24 : decode cX6_hours 24 = .ok (.iconst (-1), 1) := by decide +kernel
theorem dX6_hours_25 : decode cX6_hours 25 = .ok (.ireturn, 1) := by decide +kernel
theorem dX6_hours_26 : decode cX6_hours 26 = .ok (.aload_n 0, 1) := by decide +kernel
theorem dX6_hours_27 : decode cX6_hours 27 = .ok (.invokevirtual 105, 3) := by decide +kernel
theorem dX6_hours_30 : decode cX6_hours 30 = .ok (.iconst 0, 1) := by decide +kernel
theorem dX6_hours_31 : decode cX6_hours 31 = .ok (.istore_n 3, 1) := by decide +kernel
theorem dX6_hours_32 : decode cX6_hours 32 = .ok (.iload_n 3, 1) := by decide +kernel
theorem dX6_hours_33 : decode cX6_hours 33 = .ok (.iload_n 1, 1) := by decide +kernel
theorem dX6_hours_34 : decode cX6_hours 34 = .ok (.if_icmp .ge 62, 3) := by decide +kernel
theorem dX6_hours_37 : decode cX6_hours 37 = .ok (.iconst 0, 1) := by decide +kernel
theorem dX6_hours_38 : decode cX6_hours 38 = .ok (.istore 4, 2) := by decide +kernel
theorem dX6_hours_40 : decode cX6_hours 40 = .ok (.iload 4, 2) := by decide +kernel
theorem dX6_hours_42 : decode cX6_hours 42 = .ok (.iconst 3, 1) := by decide +kernel
theorem dX6_hours_43 : decode cX6_hours 43 = .ok (.if_icmp .ge 16, 3) := by decide +kernel
theorem dX6_hours_46 : decode cX6_hours 46 = .ok (.aload_n 0, 1) := by decide +kernel
theorem dX6_hours_47 : decode cX6_hours 47 = .ok (.iload 4, 2) := by decide +kernel
theorem dX6_hours_49 : decode cX6_hours 49 = .ok (.iload_n 2, 1) := by decide +kernel
theorem dX6_hours_50 : decode cX6_hours 50 = .ok (.invokevirtual 137, 3) := by decide +kernel
theorem dX6_hours_53 : decode cX6_hours 53 = .ok (.iinc 4 1, 3) := by decide +kernel
theorem dX6_hours_56 : decode cX6_hours 56 = .ok (.goto (-16), 3) := by decide +kernel
theorem dX6_hours_59 : decode cX6_hours 59 = .ok (.aload_n 0, 1) := by decide +kernel
theorem dX6_hours_60 : decode cX6_hours 60 = .ok (.dup, 1) := by decide +kernel
theorem dX6_hours_61 : decode cX6_hours 61 = .ok (.getfield 123, 3) := by decide +kernel
theorem dX6_hours_64 : decode cX6_hours 64 = .ok (.iconst 1, 1) := by decide +kernel
theorem dX6_hours_65 : decode cX6_hours 65 = .ok (.iadd, 1) := by decide +kernel
theorem dX6_hours_66 : decode cX6_hours 66 = .ok (.putfield 123, 3) := by decide +kernel
theorem dX6_hours_69 : decode cX6_hours 69 = .ok (.iconst 0, 1) := by decide +kernel
theorem dX6_hours_70 : decode cX6_hours 70 = .ok (.istore 4, 2) := by decide +kernel
theorem dX6_hours_72 : decode cX6_hours 72 = .ok (.iload 4, 2) := by decide +kernel
theorem dX6_hours_74 : decode cX6_hours 74 = .ok (.iconst 4, 1) := by decide +kernel
theorem dX6_hours_75 : decode cX6_hours 75 = .ok (.if_icmp .ge 15, 3) := by decide +kernel
theorem dX6_hours_78 : decode cX6_hours 78 = .ok (.aload_n 0, 1) := by decide +kernel
theorem dX6_hours_79 : decode cX6_hours 79 = .ok (.iload 4, 2) := by decide +kernel
theorem dX6_hours_81 : decode cX6_hours 81 = .ok (.invokevirtual 141, 3) := by decide +kernel
theorem dX6_hours_84 : decode cX6_hours 84 = .ok (.iinc 4 1, 3) := by decide +kernel
theorem dX6_hours_87 : decode cX6_hours 87 = .ok (.goto (-15), 3) := by decide +kernel
theorem dX6_hours_90 : decode cX6_hours 90 = .ok (.iinc 3 1, 3) := by decide +kernel
theorem dX6_hours_93 : decode cX6_hours 93 = .ok (.goto (-61), 3) := by decide +kernel
theorem dX6_hours_96 : decode cX6_hours 96 = .ok (.aload_n 0, 1) := by decide +kernel
theorem dX6_hours_97 : decode cX6_hours 97 = .ok (.getfield 123, 3) := by decide +kernel
theorem dX6_hours_100 : decode cX6_hours 100 = .ok (.ireturn, 1) := by decide +kernel
theorem dX6_numberAt_0 : decode cX6_numberAt 0 = .ok (.sipush 300, 3) := by decide +kernel
theorem dX6_numberAt_3 : decode cX6_numberAt 3 = .ok (.iload_n 1, 1) := by decide +kernel
theorem dX6_numberAt_4 : decode cX6_numberAt 4 = .ok (.imul, 1) := by decide +kernel
theorem dX6_numberAt_5 : decode cX6_numberAt 5 = .ok (.iconst 3, 1) := by decide +kernel
theorem dX6_numberAt_6 : decode cX6_numberAt 6 = .ok (.iload_n 2, 1) := by decide +kernel
theorem dX6_numberAt_7 : decode cX6_numberAt 7 = .ok (.imul, 1) := by decide +kernel
theorem dX6_numberAt_8 : decode cX6_numberAt 8 = .ok (.iadd, 1) := by decide +kernel
theorem dX6_numberAt_9 : decode cX6_numberAt 9 = .ok (.istore_n 3, 1) := by decide +kernel
theorem dX6_numberAt_10 : decode cX6_numberAt 10 = .ok (.aload_n 0, 1) := by decide +kernel
theorem dX6_numberAt_11 : decode cX6_numberAt 11 = .ok (.getfield 57, 3) := by decide +kernel
theorem dX6_numberAt_14 : decode cX6_numberAt 14 = .ok (.iload_n 3, 1) := by decide +kernel
theorem dX6_numberAt_15 : decode cX6_numberAt 15 = .ok (.laload, 1) := by decide +kernel
theorem dX6_numberAt_16 : decode cX6_numberAt 16 = .ok (.lconst 0, 1) := by decide +kernel
theorem dX6_numberAt_17 : decode cX6_numberAt 17 = .ok (.lcmp, 1) := by decide +kernel
theorem dX6_numberAt_18 : decode cX6_numberAt 18 = .ok (.ifCond .ge 9, 3) := by decide +kernel
theorem dX6_numberAt_21 : decode cX6_numberAt 21 = .ok (.ldc2_w 99, 3) := by decide +kernel
theorem dX6_numberAt_24 : decode cX6_numberAt 24 = .ok (.goto 27, 3) := by decide +kernel
theorem dX6_numberAt_27 : decode cX6_numberAt 27 = .ok (.aload_n 0, 1) := by decide +kernel
theorem dX6_numberAt_28 : decode cX6_numberAt 28 = .ok (.getfield 57, 3) := by decide +kernel
theorem dX6_numberAt_31 : decode cX6_numberAt 31 = .ok (.iload_n 3, 1) := by decide +kernel
theorem dX6_numberAt_32 : decode cX6_numberAt 32 = .ok (.laload, 1) := by decide +kernel
theorem dX6_numberAt_33 : decode cX6_numberAt 33 = .ok (.aload_n 0, 1) := by decide +kernel
theorem dX6_numberAt_34 : decode cX6_numberAt 34 = .ok (.getfield 57, 3) := by decide +kernel
theorem dX6_numberAt_37 : decode cX6_numberAt 37 = .ok (.iload_n 3, 1) := by decide +kernel
theorem dX6_numberAt_38 : decode cX6_numberAt 38 = .ok (.iconst 1, 1) := by decide +kernel
theorem dX6_numberAt_39 : decode cX6_numberAt 39 = .ok (.iadd, 1) := by decide +kernel
theorem dX6_numberAt_40 : decode cX6_numberAt 40 = .ok (.laload, 1) := by decide +kernel
theorem dX6_numberAt_41 : decode cX6_numberAt 41 = .ok (.ladd, 1) := by decide +kernel
theorem dX6_numberAt_42 : decode cX6_numberAt 42 = .ok (.aload_n 0, 1) := by decide +kernel
theorem dX6_numberAt_43 : decode cX6_numberAt 43 = .ok (.getfield 57, 3) := by decide +kernel
theorem dX6_numberAt_46 : decode cX6_numberAt 46 = .ok (.iload_n 3, 1) := by decide +kernel
theorem dX6_numberAt_47 : decode cX6_numberAt 47 = .ok (.iconst 2, 1) := by decide +kernel
theorem dX6_numberAt_48 : decode cX6_numberAt 48 = .ok (.iadd, 1) := by decide +kernel
theorem dX6_numberAt_49 : decode cX6_numberAt 49 = .ok (.laload, 1) := by decide +kernel
theorem dX6_numberAt_50 : decode cX6_numberAt 50 = .ok (.ladd, 1) := by decide +kernel
theorem dX6_numberAt_51 : decode cX6_numberAt 51 = .ok (.lreturn, 1) := by decide +kernel
theorem dX6_hour_0 : decode cX6_hour 0 = .ok (.iload_n 1, 1) := by decide +kernel
theorem dX6_hour_1 : decode cX6_hour 1 = .ok (.invokestatic 131, 3) := by decide +kernel
theorem dX6_hour_4 : decode cX6_hour 4 = .ok (.ifCond .eq 33, 3) := by decide +kernel
theorem dX6_hour_7 : decode cX6_hour 7 = .ok (.iload_n 2, 1) := by decide +kernel
theorem dX6_hour_8 : decode cX6_hour 8 = .ok (.i2l, 1) := by decide +kernel
theorem dX6_hour_9 : decode cX6_hour 9 = .ok (.lconst 0, 1) := by decide +kernel
theorem dX6_hour_10 : decode cX6_hour 10 = .ok (.aload_n 0, 1) := by decide +kernel
theorem dX6_hour_11 : decode cX6_hour 11 = .ok (.getfield 54, 3) := by decide +kernel
theorem dX6_hour_14 : decode cX6_hour 14 = .ok (.iload_n 1, 1) := by decide +kernel
theorem dX6_hour_15 : decode cX6_hour 15 = .ok (.iaload, 1) := by decide +kernel
theorem dX6_hour_16 : decode cX6_hour 16 = .ok (.iconst 1, 1) := by decide +kernel
theorem dX6_hour_17 : decode cX6_hour 17 = .ok (.isub, 1) := by decide +kernel
theorem dX6_hour_18 : decode cX6_hour 18 = .ok (.i2l, 1) := by decide +kernel
theorem dX6_hour_19 : decode cX6_hour 19 = .ok (.invokestatic 71, 3) := by decide +kernel
theorem dX6_hour_22 : decode cX6_hour 22 = .ok (.ifCond .eq 15, 3) := by decide +kernel
theorem dX6_hour_25 : decode cX6_hour 25 = .ok (.iload_n 3, 1) := by decide +kernel
theorem dX6_hour_26 : decode cX6_hour 26 = .ok (.i2l, 1) := by decide +kernel
theorem dX6_hour_27 : decode cX6_hour 27 = .ok (.lconst 0, 1) := by decide +kernel
theorem dX6_hour_28 : decode cX6_hour 28 = .ok (.ldc2_w 112, 3) := by decide +kernel
theorem dX6_hour_31 : decode cX6_hour 31 = .ok (.invokestatic 71, 3) := by decide +kernel
theorem dX6_hour_34 : decode cX6_hour 34 = .ok (.ifCond .ne 7, 3) := by decide +kernel
theorem dX6_hour_37 : decode cX6_hour 37 = .ok (.ldc2_w 99, 3) := by decide +kernel
theorem dX6_hour_40 : decode cX6_hour 40 = .ok (.lreturn, 1) := by decide +kernel
theorem dX6_hour_41 : decode cX6_hour 41 = .ok (.aload_n 0, 1) := by decide +kernel
theorem dX6_hour_42 : decode cX6_hour 42 = .ok (.getfield 54, 3) := by decide +kernel
theorem dX6_hour_45 : decode cX6_hour 45 = .ok (.iload_n 1, 1) := by decide +kernel
theorem dX6_hour_46 : decode cX6_hour 46 = .ok (.iaload, 1) := by decide +kernel
theorem dX6_hour_47 : decode cX6_hour 47 = .ok (.iconst 1, 1) := by decide +kernel
theorem dX6_hour_48 : decode cX6_hour 48 = .ok (.isub, 1) := by decide +kernel
theorem dX6_hour_49 : decode cX6_hour 49 = .ok (.iload_n 2, 1) := by decide +kernel
theorem dX6_hour_50 : decode cX6_hour 50 = .ok (.isub, 1) := by decide +kernel
theorem dX6_hour_51 : decode cX6_hour 51 = .ok (.istore 4, 2) := by decide +kernel
theorem dX6_hour_53 : decode cX6_hour 53 = .ok (.aload_n 0, 1) := by decide +kernel
theorem dX6_hour_54 : decode cX6_hour 54 = .ok (.iload_n 1, 1) := by decide +kernel
theorem dX6_hour_55 : decode cX6_hour 55 = .ok (.iload 4, 2) := by decide +kernel
theorem dX6_hour_57 : decode cX6_hour 57 = .ok (.invokevirtual 145, 3) := by decide +kernel
theorem dX6_hour_60 : decode cX6_hour 60 = .ok (.lstore 5, 2) := by decide +kernel
theorem dX6_hour_62 : decode cX6_hour 62 = .ok (.lload 5, 2) := by decide +kernel
theorem dX6_hour_64 : decode cX6_hour 64 = .ok (.lconst 0, 1) := by decide +kernel
theorem dX6_hour_65 : decode cX6_hour 65 = .ok (.lcmp, 1) := by decide +kernel
theorem dX6_hour_66 : decode cX6_hour 66 = .ok (.ifCond .ge 9, 3) := by decide +kernel
theorem dX6_hour_69 : decode cX6_hour 69 = .ok (.ldc2_w 149, 3) := by decide +kernel
theorem dX6_hour_72 : decode cX6_hour 72 = .ok (.goto 30, 3) := by decide +kernel
theorem dX6_hour_75 : decode cX6_hour 75 = .ok (.iload_n 3, 1) := by decide +kernel
theorem dX6_hour_76 : decode cX6_hour 76 = .ok (.iconst 3, 1) := by decide +kernel
theorem dX6_hour_77 : decode cX6_hour 77 = .ok (.if_icmp .ne 8, 3) := by decide +kernel
theorem dX6_hour_80 : decode cX6_hour 80 = .ok (.lload 5, 2) := by decide +kernel
theorem dX6_hour_82 : decode cX6_hour 82 = .ok (.goto 20, 3) := by decide +kernel
theorem dX6_hour_85 : decode cX6_hour 85 = .ok (.aload_n 0, 1) := by decide +kernel
theorem dX6_hour_86 : decode cX6_hour 86 = .ok (.getfield 57, 3) := by decide +kernel
theorem dX6_hour_89 : decode cX6_hour 89 = .ok (.sipush 300, 3) := by decide +kernel
theorem dX6_hour_92 : decode cX6_hour 92 = .ok (.iload_n 1, 1) := by decide +kernel
theorem dX6_hour_93 : decode cX6_hour 93 = .ok (.imul, 1) := by decide +kernel
theorem dX6_hour_94 : decode cX6_hour 94 = .ok (.iconst 3, 1) := by decide +kernel
theorem dX6_hour_95 : decode cX6_hour 95 = .ok (.iload 4, 2) := by decide +kernel
theorem dX6_hour_97 : decode cX6_hour 97 = .ok (.imul, 1) := by decide +kernel
theorem dX6_hour_98 : decode cX6_hour 98 = .ok (.iadd, 1) := by decide +kernel
theorem dX6_hour_99 : decode cX6_hour 99 = .ok (.iload_n 3, 1) := by decide +kernel
theorem dX6_hour_100 : decode cX6_hour 100 = .ok (.iadd, 1) := by decide +kernel
theorem dX6_hour_101 : decode cX6_hour 101 = .ok (.laload, 1) := by decide +kernel
theorem dX6_hour_102 : decode cX6_hour 102 = .ok (.lreturn, 1) := by decide +kernel
theorem dX6_told_0 : decode cX6_told 0 = .ok (.iconst 0, 1) := by decide +kernel
theorem dX6_told_1 : decode cX6_told 1 = .ok (.istore_n 2, 1) := by decide +kernel
theorem dX6_told_2 : decode cX6_told 2 = .ok (.iconst 0, 1) := by decide +kernel
theorem dX6_told_3 : decode cX6_told 3 = .ok (.istore_n 3, 1) := by decide +kernel
theorem dX6_told_4 : decode cX6_told 4 = .ok (.iload_n 3, 1) := by decide +kernel
theorem dX6_told_5 : decode cX6_told 5 = .ok (.aload_n 0, 1) := by decide +kernel
theorem dX6_told_6 : decode cX6_told 6 = .ok (.getfield 54, 3) := by decide +kernel
theorem dX6_told_9 : decode cX6_told 9 = .ok (.iload_n 1, 1) := by decide +kernel
theorem dX6_told_10 : decode cX6_told 10 = .ok (.iaload, 1) := by decide +kernel
theorem dX6_told_11 : decode cX6_told 11 = .ok (.if_icmp .ge 28, 3) := by decide +kernel
theorem dX6_told_14 : decode cX6_told 14 = .ok (.iload_n 2, 1) := by decide +kernel
theorem dX6_told_15 : decode cX6_told 15 = .ok (.aload_n 0, 1) := by decide +kernel
theorem dX6_told_16 : decode cX6_told 16 = .ok (.iload_n 1, 1) := by decide +kernel
theorem dX6_told_17 : decode cX6_told 17 = .ok (.iload_n 3, 1) := by decide +kernel
theorem dX6_told_18 : decode cX6_told 18 = .ok (.invokevirtual 145, 3) := by decide +kernel
theorem dX6_told_21 : decode cX6_told 21 = .ok (.lconst 0, 1) := by decide +kernel
theorem dX6_told_22 : decode cX6_told 22 = .ok (.lcmp, 1) := by decide +kernel
theorem dX6_told_23 : decode cX6_told 23 = .ok (.ifCond .ge 7, 3) := by decide +kernel
theorem dX6_told_26 : decode cX6_told 26 = .ok (.iconst 0, 1) := by decide +kernel
theorem dX6_told_27 : decode cX6_told 27 = .ok (.goto 4, 3) := by decide +kernel
theorem dX6_told_30 : decode cX6_told 30 = .ok (.iconst 1, 1) := by decide +kernel
theorem dX6_told_31 : decode cX6_told 31 = .ok (.iadd, 1) := by decide +kernel
theorem dX6_told_32 : decode cX6_told 32 = .ok (.istore_n 2, 1) := by decide +kernel
theorem dX6_told_33 : decode cX6_told 33 = .ok (.iinc 3 1, 3) := by decide +kernel
theorem dX6_told_36 : decode cX6_told 36 = .ok (.goto (-32), 3) := by decide +kernel
theorem dX6_told_39 : decode cX6_told 39 = .ok (.iload_n 2, 1) := by decide +kernel
theorem dX6_told_40 : decode cX6_told 40 = .ok (.ireturn, 1) := by decide +kernel
theorem dX6_kept_0 : decode cX6_kept 0 = .ok (.iload_n 1, 1) := by decide +kernel
theorem dX6_kept_1 : decode cX6_kept 1 = .ok (.invokestatic 131, 3) := by decide +kernel
theorem dX6_kept_4 : decode cX6_kept 4 = .ok (.ifCond .eq 13, 3) := by decide +kernel
theorem dX6_kept_7 : decode cX6_kept 7 = .ok (.iload_n 2, 1) := by decide +kernel
theorem dX6_kept_8 : decode cX6_kept 8 = .ok (.i2l, 1) := by decide +kernel
theorem dX6_kept_9 : decode cX6_kept 9 = .ok (.lconst 0, 1) := by decide +kernel
theorem dX6_kept_10 : decode cX6_kept 10 = .ok (.lconst 1, 1) := by decide +kernel
theorem dX6_kept_11 : decode cX6_kept 11 = .ok (.invokestatic 71, 3) := by decide +kernel
theorem dX6_kept_14 : decode cX6_kept 14 = .ok (.ifCond .ne 7, 3) := by decide +kernel
theorem dX6_kept_17 : decode cX6_kept 17 = .ok (.iconst (-1), 1) := by decide +kernel
theorem dX6_kept_18 : decode cX6_kept 18 = .ok (.goto 21, 3) := by decide +kernel
theorem dX6_kept_21 : decode cX6_kept 21 = .ok (.iload_n 2, 1) := by decide +kernel
theorem dX6_kept_22 : decode cX6_kept 22 = .ok (.ifCond .ne 12, 3) := by decide +kernel
theorem dX6_kept_25 : decode cX6_kept 25 = .ok (.aload_n 0, 1) := by decide +kernel
theorem dX6_kept_26 : decode cX6_kept 26 = .ok (.getfield 54, 3) := by decide +kernel
theorem dX6_kept_29 : decode cX6_kept 29 = .ok (.iload_n 1, 1) := by decide +kernel
theorem dX6_kept_30 : decode cX6_kept 30 = .ok (.iaload, 1) := by decide +kernel
theorem dX6_kept_31 : decode cX6_kept 31 = .ok (.goto 8, 3) := by decide +kernel
theorem dX6_kept_34 : decode cX6_kept 34 = .ok (.aload_n 0, 1) := by decide +kernel
theorem dX6_kept_35 : decode cX6_kept 35 = .ok (.iload_n 1, 1) := by decide +kernel
theorem dX6_kept_36 : decode cX6_kept 36 = .ok (.invokevirtual 151, 3) := by decide +kernel
theorem dX6_kept_39 : decode cX6_kept 39 = .ok (.ireturn, 1) := by decide +kernel
theorem dX6_mean_0 : decode cX6_mean 0 = .ok (.iload_n 1, 1) := by decide +kernel
theorem dX6_mean_1 : decode cX6_mean 1 = .ok (.invokestatic 131, 3) := by decide +kernel
theorem dX6_mean_4 : decode cX6_mean 4 = .ok (.ifCond .ne 7, 3) := by decide +kernel
theorem dX6_mean_7 : decode cX6_mean 7 = .ok (.ldc2_w 99, 3) := by decide +kernel
theorem dX6_mean_10 : decode cX6_mean 10 = .ok (.lreturn, 1) := by decide +kernel
theorem dX6_mean_11 : decode cX6_mean 11 = .ok (.aload_n 0, 1) := by decide +kernel
theorem dX6_mean_12 : decode cX6_mean 12 = .ok (.iload_n 1, 1) := by decide +kernel
theorem dX6_mean_13 : decode cX6_mean 13 = .ok (.invokevirtual 151, 3) := by decide +kernel
theorem dX6_mean_16 : decode cX6_mean 16 = .ok (.istore_n 2, 1) := by decide +kernel
theorem dX6_mean_17 : decode cX6_mean 17 = .ok (.lconst 0, 1) := by decide +kernel
theorem dX6_mean_18 : decode cX6_mean 18 = .ok (.lstore_n 3, 1) := by decide +kernel
theorem dX6_mean_19 : decode cX6_mean 19 = .ok (.iconst 0, 1) := by decide +kernel
theorem dX6_mean_20 : decode cX6_mean 20 = .ok (.istore 5, 2) := by decide +kernel
theorem dX6_mean_22 : decode cX6_mean 22 = .ok (.iload 5, 2) := by decide +kernel
theorem dX6_mean_24 : decode cX6_mean 24 = .ok (.aload_n 0, 1) := by decide +kernel
theorem dX6_mean_25 : decode cX6_mean 25 = .ok (.getfield 54, 3) := by decide +kernel
theorem dX6_mean_28 : decode cX6_mean 28 = .ok (.iload_n 1, 1) := by decide +kernel
theorem dX6_mean_29 : decode cX6_mean 29 = .ok (.iaload, 1) := by decide +kernel
theorem dX6_mean_30 : decode cX6_mean 30 = .ok (.if_icmp .ge 34, 3) := by decide +kernel
theorem dX6_mean_33 : decode cX6_mean 33 = .ok (.aload_n 0, 1) := by decide +kernel
theorem dX6_mean_34 : decode cX6_mean 34 = .ok (.iload_n 1, 1) := by decide +kernel
theorem dX6_mean_35 : decode cX6_mean 35 = .ok (.iload 5, 2) := by decide +kernel
theorem dX6_mean_37 : decode cX6_mean 37 = .ok (.invokevirtual 145, 3) := by decide +kernel
theorem dX6_mean_40 : decode cX6_mean 40 = .ok (.lstore 6, 2) := by decide +kernel
theorem dX6_mean_42 : decode cX6_mean 42 = .ok (.lload_n 3, 1) := by decide +kernel
theorem dX6_mean_43 : decode cX6_mean 43 = .ok (.lload 6, 2) := by decide +kernel
theorem dX6_mean_45 : decode cX6_mean 45 = .ok (.lconst 0, 1) := by decide +kernel
theorem dX6_mean_46 : decode cX6_mean 46 = .ok (.lcmp, 1) := by decide +kernel
theorem dX6_mean_47 : decode cX6_mean 47 = .ok (.ifCond .ge 7, 3) := by decide +kernel
theorem dX6_mean_50 : decode cX6_mean 50 = .ok (.lconst 0, 1) := by decide +kernel
theorem dX6_mean_51 : decode cX6_mean 51 = .ok (.goto 5, 3) := by decide +kernel
theorem dX6_mean_54 : decode cX6_mean 54 = .ok (.lload 6, 2) := by decide +kernel
theorem dX6_mean_56 : decode cX6_mean 56 = .ok (.ladd, 1) := by decide +kernel
theorem dX6_mean_57 : decode cX6_mean 57 = .ok (.lstore_n 3, 1) := by decide +kernel
theorem dX6_mean_58 : decode cX6_mean 58 = .ok (.iinc 5 1, 3) := by decide +kernel
theorem dX6_mean_61 : decode cX6_mean 61 = .ok (.goto (-39), 3) := by decide +kernel
theorem dX6_mean_64 : decode cX6_mean 64 = .ok (.iload_n 2, 1) := by decide +kernel
theorem dX6_mean_65 : decode cX6_mean 65 = .ok (.ifCond .ne 9, 3) := by decide +kernel
theorem dX6_mean_68 : decode cX6_mean 68 = .ok (.ldc2_w 149, 3) := by decide +kernel
theorem dX6_mean_71 : decode cX6_mean 71 = .ok (.goto 7, 3) := by decide +kernel
theorem dX6_mean_74 : decode cX6_mean 74 = .ok (.lload_n 3, 1) := by decide +kernel
theorem dX6_mean_75 : decode cX6_mean 75 = .ok (.iload_n 2, 1) := by decide +kernel
theorem dX6_mean_76 : decode cX6_mean 76 = .ok (.i2l, 1) := by decide +kernel
theorem dX6_mean_77 : decode cX6_mean 77 = .ok (.ldiv, 1) := by decide +kernel
theorem dX6_mean_78 : decode cX6_mean 78 = .ok (.lreturn, 1) := by decide +kernel
theorem dX6_rank_0 : decode cX6_rank 0 = .ok (.iload_n 1, 1) := by decide +kernel
theorem dX6_rank_1 : decode cX6_rank 1 = .ok (.invokestatic 131, 3) := by decide +kernel
theorem dX6_rank_4 : decode cX6_rank 4 = .ok (.ifCond .eq 8, 3) := by decide +kernel
theorem dX6_rank_7 : decode cX6_rank 7 = .ok (.iload_n 2, 1) := by decide +kernel
theorem dX6_rank_8 : decode cX6_rank 8 = .ok (.iconst 1, 1) := by decide +kernel
theorem dX6_rank_9 : decode cX6_rank 9 = .ok (.if_icmp .ge 7, 3) := by decide +kernel
theorem dX6_rank_12 : decode cX6_rank 12 = .ok (.ldc2_w 99, 3) := by decide +kernel
theorem dX6_rank_15 : decode cX6_rank 15 = .ok (.lreturn, 1) := by decide +kernel
theorem dX6_rank_16 : decode cX6_rank 16 = .ok (.iconst 0, 1) := by decide +kernel
theorem dX6_rank_17 : decode cX6_rank 17 = .ok (.istore_n 3, 1) := by decide +kernel
theorem dX6_rank_18 : decode cX6_rank 18 = .ok (.iload_n 3, 1) := by decide +kernel
theorem dX6_rank_19 : decode cX6_rank 19 = .ok (.aload_n 0, 1) := by decide +kernel
theorem dX6_rank_20 : decode cX6_rank 20 = .ok (.getfield 54, 3) := by decide +kernel
theorem dX6_rank_23 : decode cX6_rank 23 = .ok (.iload_n 1, 1) := by decide +kernel
theorem dX6_rank_24 : decode cX6_rank 24 = .ok (.iaload, 1) := by decide +kernel
theorem dX6_rank_25 : decode cX6_rank 25 = .ok (.if_icmp .ge 99, 3) := by decide +kernel
theorem dX6_rank_28 : decode cX6_rank 28 = .ok (.aload_n 0, 1) := by decide +kernel
theorem dX6_rank_29 : decode cX6_rank 29 = .ok (.iload_n 1, 1) := by decide +kernel
theorem dX6_rank_30 : decode cX6_rank 30 = .ok (.iload_n 3, 1) := by decide +kernel
theorem dX6_rank_31 : decode cX6_rank 31 = .ok (.invokevirtual 145, 3) := by decide +kernel
theorem dX6_rank_34 : decode cX6_rank 34 = .ok (.lstore 4, 2) := by decide +kernel
theorem dX6_rank_36 : decode cX6_rank 36 = .ok (.iconst 0, 1) := by decide +kernel
theorem dX6_rank_37 : decode cX6_rank 37 = .ok (.istore 6, 2) := by decide +kernel
theorem dX6_rank_39 : decode cX6_rank 39 = .ok (.iconst 0, 1) := by decide +kernel
theorem dX6_rank_40 : decode cX6_rank 40 = .ok (.istore 7, 2) := by decide +kernel
theorem dX6_rank_42 : decode cX6_rank 42 = .ok (.iload 7, 2) := by decide +kernel
theorem dX6_rank_44 : decode cX6_rank 44 = .ok (.aload_n 0, 1) := by decide +kernel
theorem dX6_rank_45 : decode cX6_rank 45 = .ok (.getfield 54, 3) := by decide +kernel
theorem dX6_rank_48 : decode cX6_rank 48 = .ok (.iload_n 1, 1) := by decide +kernel
theorem dX6_rank_49 : decode cX6_rank 49 = .ok (.iaload, 1) := by decide +kernel
theorem dX6_rank_50 : decode cX6_rank 50 = .ok (.if_icmp .ge 50, 3) := by decide +kernel
theorem dX6_rank_53 : decode cX6_rank 53 = .ok (.aload_n 0, 1) := by decide +kernel
theorem dX6_rank_54 : decode cX6_rank 54 = .ok (.iload_n 1, 1) := by decide +kernel
theorem dX6_rank_55 : decode cX6_rank 55 = .ok (.iload 7, 2) := by decide +kernel
theorem dX6_rank_57 : decode cX6_rank 57 = .ok (.invokevirtual 145, 3) := by decide +kernel
theorem dX6_rank_60 : decode cX6_rank 60 = .ok (.lstore 8, 2) := by decide +kernel
theorem dX6_rank_62 : decode cX6_rank 62 = .ok (.iload 6, 2) := by decide +kernel
theorem dX6_rank_64 : decode cX6_rank 64 = .ok (.lload 8, 2) := by decide +kernel
theorem dX6_rank_66 : decode cX6_rank 66 = .ok (.lload 4, 2) := by decide +kernel
theorem dX6_rank_68 : decode cX6_rank 68 = .ok (.lcmp, 1) := by decide +kernel
theorem dX6_rank_69 : decode cX6_rank 69 = .ok (.ifCond .gt 17, 3) := by decide +kernel
theorem dX6_rank_72 : decode cX6_rank 72 = .ok (.lload 8, 2) := by decide +kernel
theorem dX6_rank_74 : decode cX6_rank 74 = .ok (.lload 4, 2) := by decide +kernel
theorem dX6_rank_76 : decode cX6_rank 76 = .ok (.lcmp, 1) := by decide +kernel
theorem dX6_rank_77 : decode cX6_rank 77 = .ok (.ifCond .ne 13, 3) := by decide +kernel
theorem dX6_rank_80 : decode cX6_rank 80 = .ok (.iload 7, 2) := by decide +kernel
theorem dX6_rank_82 : decode cX6_rank 82 = .ok (.iload_n 3, 1) := by decide +kernel
theorem dX6_rank_83 : decode cX6_rank 83 = .ok (.if_icmp .ge 7, 3) := by decide +kernel
theorem dX6_rank_86 : decode cX6_rank 86 = .ok (.iconst 1, 1) := by decide +kernel
theorem dX6_rank_87 : decode cX6_rank 87 = .ok (.goto 4, 3) := by decide +kernel
theorem dX6_rank_90 : decode cX6_rank 90 = .ok (.iconst 0, 1) := by decide +kernel
theorem dX6_rank_91 : decode cX6_rank 91 = .ok (.iadd, 1) := by decide +kernel
theorem dX6_rank_92 : decode cX6_rank 92 = .ok (.istore 6, 2) := by decide +kernel
theorem dX6_rank_94 : decode cX6_rank 94 = .ok (.iinc 7 1, 3) := by decide +kernel
theorem dX6_rank_97 : decode cX6_rank 97 = .ok (.goto (-55), 3) := by decide +kernel
theorem dX6_rank_100 : decode cX6_rank 100 = .ok (.lload 4, 2) := by decide +kernel
theorem dX6_rank_102 : decode cX6_rank 102 = .ok (.lconst 0, 1) := by decide +kernel
theorem dX6_rank_103 : decode cX6_rank 103 = .ok (.lcmp, 1) := by decide +kernel
theorem dX6_rank_104 : decode cX6_rank 104 = .ok (.ifCond .lt 14, 3) := by decide +kernel
theorem dX6_rank_107 : decode cX6_rank 107 = .ok (.iload 6, 2) := by decide +kernel
theorem dX6_rank_109 : decode cX6_rank 109 = .ok (.iload_n 2, 1) := by decide +kernel
theorem dX6_rank_110 : decode cX6_rank 110 = .ok (.iconst 1, 1) := by decide +kernel
theorem dX6_rank_111 : decode cX6_rank 111 = .ok (.isub, 1) := by decide +kernel
theorem dX6_rank_112 : decode cX6_rank 112 = .ok (.if_icmp .ne 6, 3) := by decide +kernel
theorem dX6_rank_115 : decode cX6_rank 115 = .ok (.lload 4, 2) := by decide +kernel
theorem dX6_rank_117 : decode cX6_rank 117 = .ok (.lreturn, 1) := by decide +kernel
theorem dX6_rank_118 : decode cX6_rank 118 = .ok (.iinc 3 1, 3) := by decide +kernel
theorem dX6_rank_121 : decode cX6_rank 121 = .ok (.goto (-103), 3) := by decide +kernel
theorem dX6_rank_124 : decode cX6_rank 124 = .ok (.ldc2_w 149, 3) := by decide +kernel
theorem dX6_rank_127 : decode cX6_rank 127 = .ok (.lreturn, 1) := by decide +kernel
theorem dX6_rolling_0 : decode cX6_rolling 0 = .ok (.iload_n 1, 1) := by decide +kernel
theorem dX6_rolling_1 : decode cX6_rolling 1 = .ok (.invokestatic 131, 3) := by decide +kernel
theorem dX6_rolling_4 : decode cX6_rolling 4 = .ok (.ifCond .eq 15, 3) := by decide +kernel
theorem dX6_rolling_7 : decode cX6_rolling 7 = .ok (.iload_n 2, 1) := by decide +kernel
theorem dX6_rolling_8 : decode cX6_rolling 8 = .ok (.i2l, 1) := by decide +kernel
theorem dX6_rolling_9 : decode cX6_rolling 9 = .ok (.lconst 1, 1) := by decide +kernel
theorem dX6_rolling_10 : decode cX6_rolling 10 = .ok (.ldc2_w 154, 3) := by decide +kernel
theorem dX6_rolling_13 : decode cX6_rolling 13 = .ok (.invokestatic 71, 3) := by decide +kernel
theorem dX6_rolling_16 : decode cX6_rolling 16 = .ok (.ifCond .ne 7, 3) := by decide +kernel
theorem dX6_rolling_19 : decode cX6_rolling 19 = .ok (.ldc2_w 99, 3) := by decide +kernel
theorem dX6_rolling_22 : decode cX6_rolling 22 = .ok (.lreturn, 1) := by decide +kernel
theorem dX6_rolling_23 : decode cX6_rolling 23 = .ok (.ldc2_w 149, 3) := by decide +kernel
theorem dX6_rolling_26 : decode cX6_rolling 26 = .ok (.lstore_n 3, 1) := by decide +kernel
theorem dX6_rolling_27 : decode cX6_rolling 27 = .ok (.iconst 0, 1) := by decide +kernel
theorem dX6_rolling_28 : decode cX6_rolling 28 = .ok (.istore 5, 2) := by decide +kernel
theorem dX6_rolling_30 : decode cX6_rolling 30 = .ok (.iload 5, 2) := by decide +kernel
theorem dX6_rolling_32 : decode cX6_rolling 32 = .ok (.iload_n 2, 1) := by decide +kernel
theorem dX6_rolling_33 : decode cX6_rolling 33 = .ok (.iadd, 1) := by decide +kernel
theorem dX6_rolling_34 : decode cX6_rolling 34 = .ok (.aload_n 0, 1) := by decide +kernel
theorem dX6_rolling_35 : decode cX6_rolling 35 = .ok (.getfield 54, 3) := by decide +kernel
theorem dX6_rolling_38 : decode cX6_rolling 38 = .ok (.iload_n 1, 1) := by decide +kernel
theorem dX6_rolling_39 : decode cX6_rolling 39 = .ok (.iaload, 1) := by decide +kernel
theorem dX6_rolling_40 : decode cX6_rolling 40 = .ok (.if_icmp .gt 104, 3) := by decide +kernel
theorem dX6_rolling_43 : decode cX6_rolling 43 = .ok (.iconst 0, 1) := by decide +kernel
theorem dX6_rolling_44 : decode cX6_rolling 44 = .ok (.istore 6, 2) := by decide +kernel
theorem dX6_rolling_46 : decode cX6_rolling 46 = .ok (.lconst 0, 1) := by decide +kernel
theorem dX6_rolling_47 : decode cX6_rolling 47 = .ok (.lstore 7, 2) := by decide +kernel
theorem dX6_rolling_49 : decode cX6_rolling 49 = .ok (.iload 5, 2) := by decide +kernel
theorem dX6_rolling_51 : decode cX6_rolling 51 = .ok (.istore 9, 2) := by decide +kernel
theorem dX6_rolling_53 : decode cX6_rolling 53 = .ok (.iload 9, 2) := by decide +kernel
theorem dX6_rolling_55 : decode cX6_rolling 55 = .ok (.iload 5, 2) := by decide +kernel
theorem dX6_rolling_57 : decode cX6_rolling 57 = .ok (.iload_n 2, 1) := by decide +kernel
theorem dX6_rolling_58 : decode cX6_rolling 58 = .ok (.iadd, 1) := by decide +kernel
theorem dX6_rolling_59 : decode cX6_rolling 59 = .ok (.if_icmp .ge 53, 3) := by decide +kernel
theorem dX6_rolling_62 : decode cX6_rolling 62 = .ok (.aload_n 0, 1) := by decide +kernel
theorem dX6_rolling_63 : decode cX6_rolling 63 = .ok (.iload_n 1, 1) := by decide +kernel
theorem dX6_rolling_64 : decode cX6_rolling 64 = .ok (.iload 9, 2) := by decide +kernel
theorem dX6_rolling_66 : decode cX6_rolling 66 = .ok (.invokevirtual 145, 3) := by decide +kernel
theorem dX6_rolling_69 : decode cX6_rolling 69 = .ok (.lstore 10, 2) := by decide +kernel
theorem dX6_rolling_71 : decode cX6_rolling 71 = .ok (.iload 6, 2) := by decide +kernel
theorem dX6_rolling_73 : decode cX6_rolling 73 = .ok (.lload 10, 2) := by decide +kernel
theorem dX6_rolling_75 : decode cX6_rolling 75 = .ok (.lconst 0, 1) := by decide +kernel
theorem dX6_rolling_76 : decode cX6_rolling 76 = .ok (.lcmp, 1) := by decide +kernel
theorem dX6_rolling_77 : decode cX6_rolling 77 = .ok (.ifCond .ge 7, 3) := by decide +kernel
theorem dX6_rolling_80 : decode cX6_rolling 80 = .ok (.iconst 0, 1) := by decide +kernel
theorem dX6_rolling_81 : decode cX6_rolling 81 = .ok (.goto 4, 3) := by decide +kernel
theorem dX6_rolling_84 : decode cX6_rolling 84 = .ok (.iconst 1, 1) := by decide +kernel
theorem dX6_rolling_85 : decode cX6_rolling 85 = .ok (.iadd, 1) := by decide +kernel
theorem dX6_rolling_86 : decode cX6_rolling 86 = .ok (.istore 6, 2) := by decide +kernel
theorem dX6_rolling_88 : decode cX6_rolling 88 = .ok (.lload 7, 2) := by decide +kernel
theorem dX6_rolling_90 : decode cX6_rolling 90 = .ok (.lload 10, 2) := by decide +kernel
theorem dX6_rolling_92 : decode cX6_rolling 92 = .ok (.lconst 0, 1) := by decide +kernel
theorem dX6_rolling_93 : decode cX6_rolling 93 = .ok (.lcmp, 1) := by decide +kernel
theorem dX6_rolling_94 : decode cX6_rolling 94 = .ok (.ifCond .ge 7, 3) := by decide +kernel
theorem dX6_rolling_97 : decode cX6_rolling 97 = .ok (.lconst 0, 1) := by decide +kernel
theorem dX6_rolling_98 : decode cX6_rolling 98 = .ok (.goto 5, 3) := by decide +kernel
theorem dX6_rolling_101 : decode cX6_rolling 101 = .ok (.lload 10, 2) := by decide +kernel
theorem dX6_rolling_103 : decode cX6_rolling 103 = .ok (.ladd, 1) := by decide +kernel
theorem dX6_rolling_104 : decode cX6_rolling 104 = .ok (.lstore 7, 2) := by decide +kernel
theorem dX6_rolling_106 : decode cX6_rolling 106 = .ok (.iinc 9 1, 3) := by decide +kernel
theorem dX6_rolling_109 : decode cX6_rolling 109 = .ok (.goto (-56), 3) := by decide +kernel
theorem dX6_rolling_112 : decode cX6_rolling 112 = .ok (.iconst 2, 1) := by decide +kernel
theorem dX6_rolling_113 : decode cX6_rolling 113 = .ok (.iload 6, 2) := by decide +kernel
theorem dX6_rolling_115 : decode cX6_rolling 115 = .ok (.imul, 1) := by decide +kernel
theorem dX6_rolling_116 : decode cX6_rolling 116 = .ok (.iload_n 2, 1) := by decide +kernel
theorem dX6_rolling_117 : decode cX6_rolling 117 = .ok (.if_icmp .lt 21, 3) := by decide +kernel
theorem dX6_rolling_120 : decode cX6_rolling 120 = .ok (.lload 7, 2) := by decide +kernel
theorem dX6_rolling_122 : decode cX6_rolling 122 = .ok (.iload 6, 2) := by decide +kernel
theorem dX6_rolling_124 : decode cX6_rolling 124 = .ok (.i2l, 1) := by decide +kernel
theorem dX6_rolling_125 : decode cX6_rolling 125 = .ok (.ldiv, 1) := by decide +kernel
theorem dX6_rolling_126 : decode cX6_rolling 126 = .ok (.lload_n 3, 1) := by decide +kernel
theorem dX6_rolling_127 : decode cX6_rolling 127 = .ok (.lcmp, 1) := by decide +kernel
theorem dX6_rolling_128 : decode cX6_rolling 128 = .ok (.ifCond .le 10, 3) := by decide +kernel
theorem dX6_rolling_131 : decode cX6_rolling 131 = .ok (.lload 7, 2) := by decide +kernel
theorem dX6_rolling_133 : decode cX6_rolling 133 = .ok (.iload 6, 2) := by decide +kernel
theorem dX6_rolling_135 : decode cX6_rolling 135 = .ok (.i2l, 1) := by decide +kernel
theorem dX6_rolling_136 : decode cX6_rolling 136 = .ok (.ldiv, 1) := by decide +kernel
theorem dX6_rolling_137 : decode cX6_rolling 137 = .ok (.lstore_n 3, 1) := by decide +kernel
theorem dX6_rolling_138 : decode cX6_rolling 138 = .ok (.iinc 5 1, 3) := by decide +kernel
theorem dX6_rolling_141 : decode cX6_rolling 141 = .ok (.goto (-111), 3) := by decide +kernel
theorem dX6_rolling_144 : decode cX6_rolling 144 = .ok (.lload_n 3, 1) := by decide +kernel
theorem dX6_rolling_145 : decode cX6_rolling 145 = .ok (.lreturn, 1) := by decide +kernel
theorem dX6_watch_0 : decode cX6_watch 0 = .ok (.iload_n 1, 1) := by decide +kernel
theorem dX6_watch_1 : decode cX6_watch 1 = .ok (.invokestatic 131, 3) := by decide +kernel
theorem dX6_watch_4 : decode cX6_watch 4 = .ok (.ifCond .ne 5, 3) := by decide +kernel
theorem dX6_watch_7 : decode cX6_watch 7 = .ok (.iconst (-1), 1) := by decide +kernel
theorem dX6_watch_8 : decode cX6_watch 8 = .ok (.ireturn, 1) := by decide +kernel
theorem dX6_watch_9 : decode cX6_watch 9 = .ok (.aload_n 0, 1) := by decide +kernel
theorem dX6_watch_10 : decode cX6_watch 10 = .ok (.getfield 51, 3) := by decide +kernel
theorem dX6_watch_13 : decode cX6_watch 13 = .ok (.iload_n 1, 1) := by decide +kernel
theorem dX6_watch_14 : decode cX6_watch 14 = .ok (.iload_n 2, 1) := by decide +kernel
theorem dX6_watch_15 : decode cX6_watch 15 = .ok (.bastore, 1) := by decide +kernel
theorem dX6_watch_16 : decode cX6_watch 16 = .ok (.iconst 0, 1) := by decide +kernel
theorem dX6_watch_17 : decode cX6_watch 17 = .ok (.istore_n 3, 1) := by decide +kernel
theorem dX6_watch_18 : decode cX6_watch 18 = .ok (.iconst 0, 1) := by decide +kernel
theorem dX6_watch_19 : decode cX6_watch 19 = .ok (.istore 4, 2) := by decide +kernel
theorem dX6_watch_21 : decode cX6_watch 21 = .ok (.iload 4, 2) := by decide +kernel
theorem dX6_watch_23 : decode cX6_watch 23 = .ok (.iconst 4, 1) := by decide +kernel
theorem dX6_watch_24 : decode cX6_watch 24 = .ok (.if_icmp .ge 27, 3) := by decide +kernel
theorem dX6_watch_27 : decode cX6_watch 27 = .ok (.iload_n 3, 1) := by decide +kernel
theorem dX6_watch_28 : decode cX6_watch 28 = .ok (.aload_n 0, 1) := by decide +kernel
theorem dX6_watch_29 : decode cX6_watch 29 = .ok (.getfield 51, 3) := by decide +kernel
theorem dX6_watch_32 : decode cX6_watch 32 = .ok (.iload 4, 2) := by decide +kernel
theorem dX6_watch_34 : decode cX6_watch 34 = .ok (.baload, 1) := by decide +kernel
theorem dX6_watch_35 : decode cX6_watch 35 = .ok (.ifCond .eq 7, 3) := by decide +kernel
theorem dX6_watch_38 : decode cX6_watch 38 = .ok (.iconst 1, 1) := by decide +kernel
theorem dX6_watch_39 : decode cX6_watch 39 = .ok (.goto 4, 3) := by decide +kernel
theorem dX6_watch_42 : decode cX6_watch 42 = .ok (.iconst 0, 1) := by decide +kernel
theorem dX6_watch_43 : decode cX6_watch 43 = .ok (.iadd, 1) := by decide +kernel
theorem dX6_watch_44 : decode cX6_watch 44 = .ok (.istore_n 3, 1) := by decide +kernel
theorem dX6_watch_45 : decode cX6_watch 45 = .ok (.iinc 4 1, 3) := by decide +kernel
theorem dX6_watch_48 : decode cX6_watch 48 = .ok (.goto (-27), 3) := by decide +kernel
theorem dX6_watch_51 : decode cX6_watch 51 = .ok (.iload_n 3, 1) := by decide +kernel
theorem dX6_watch_52 : decode cX6_watch 52 = .ok (.ireturn, 1) := by decide +kernel
theorem dX6_isKeptAt_0 : decode cX6_isKeptAt 0 = .ok (.iconst 0, 1) := by decide +kernel
theorem dX6_isKeptAt_1 : decode cX6_isKeptAt 1 = .ok (.istore_n 2, 1) := by decide +kernel
theorem dX6_isKeptAt_2 : decode cX6_isKeptAt 2 = .ok (.iconst 0, 1) := by decide +kernel
theorem dX6_isKeptAt_3 : decode cX6_isKeptAt 3 = .ok (.istore_n 3, 1) := by decide +kernel
theorem dX6_isKeptAt_4 : decode cX6_isKeptAt 4 = .ok (.iload_n 3, 1) := by decide +kernel
theorem dX6_isKeptAt_5 : decode cX6_isKeptAt 5 = .ok (.aload_n 0, 1) := by decide +kernel
theorem dX6_isKeptAt_6 : decode cX6_isKeptAt 6 = .ok (.getfield 54, 3) := by decide +kernel
theorem dX6_isKeptAt_9 : decode cX6_isKeptAt 9 = .ok (.iload_n 1, 1) := by decide +kernel
theorem dX6_isKeptAt_10 : decode cX6_isKeptAt 10 = .ok (.iaload, 1) := by decide +kernel
theorem dX6_isKeptAt_11 : decode cX6_isKeptAt 11 = .ok (.if_icmp .ge 100, 3) := by decide +kernel
theorem dX6_isKeptAt_14 : decode cX6_isKeptAt 14 = .ok (.sipush 300, 3) := by decide +kernel
theorem dX6_isKeptAt_17 : decode cX6_isKeptAt 17 = .ok (.iload_n 1, 1) := by decide +kernel
theorem dX6_isKeptAt_18 : decode cX6_isKeptAt 18 = .ok (.imul, 1) := by decide +kernel
theorem dX6_isKeptAt_19 : decode cX6_isKeptAt 19 = .ok (.iconst 3, 1) := by decide +kernel
theorem dX6_isKeptAt_20 : decode cX6_isKeptAt 20 = .ok (.iload_n 3, 1) := by decide +kernel
theorem dX6_isKeptAt_21 : decode cX6_isKeptAt 21 = .ok (.imul, 1) := by decide +kernel
theorem dX6_isKeptAt_22 : decode cX6_isKeptAt 22 = .ok (.iadd, 1) := by decide +kernel
theorem dX6_isKeptAt_23 : decode cX6_isKeptAt 23 = .ok (.istore 4, 2) := by decide +kernel
theorem dX6_isKeptAt_25 : decode cX6_isKeptAt 25 = .ok (.aload_n 0, 1) := by decide +kernel
theorem dX6_isKeptAt_26 : decode cX6_isKeptAt 26 = .ok (.getfield 57, 3) := by decide +kernel
theorem dX6_isKeptAt_29 : decode cX6_isKeptAt 29 = .ok (.iload 4, 2) := by decide +kernel
theorem dX6_isKeptAt_31 : decode cX6_isKeptAt 31 = .ok (.laload, 1) := by decide +kernel
theorem dX6_isKeptAt_32 : decode cX6_isKeptAt 32 = .ok (.lconst 0, 1) := by decide +kernel
theorem dX6_isKeptAt_33 : decode cX6_isKeptAt 33 = .ok (.lcmp, 1) := by decide +kernel
theorem dX6_isKeptAt_34 : decode cX6_isKeptAt 34 = .ok (.ifCond .lt 71, 3) := by decide +kernel
theorem dX6_isKeptAt_37 : decode cX6_isKeptAt 37 = .ok (.lconst 0, 1) := by decide +kernel
theorem dX6_isKeptAt_38 : decode cX6_isKeptAt 38 = .ok (.lstore 5, 2) := by decide +kernel
theorem dX6_isKeptAt_40 : decode cX6_isKeptAt 40 = .ok (.iconst 0, 1) := by decide +kernel
theorem dX6_isKeptAt_41 : decode cX6_isKeptAt 41 = .ok (.istore 7, 2) := by decide +kernel
theorem dX6_isKeptAt_43 : decode cX6_isKeptAt 43 = .ok (.iload 7, 2) := by decide +kernel
theorem dX6_isKeptAt_45 : decode cX6_isKeptAt 45 = .ok (.iconst 3, 1) := by decide +kernel
theorem dX6_isKeptAt_46 : decode cX6_isKeptAt 46 = .ok (.if_icmp .ge 36, 3) := by decide +kernel
theorem dX6_isKeptAt_49 : decode cX6_isKeptAt 49 = .ok (.lload 5, 2) := by decide +kernel
theorem dX6_isKeptAt_51 : decode cX6_isKeptAt 51 = .ok (.aload_n 0, 1) := by decide +kernel
theorem dX6_isKeptAt_52 : decode cX6_isKeptAt 52 = .ok (.getfield 57, 3) := by decide +kernel
theorem dX6_isKeptAt_55 : decode cX6_isKeptAt 55 = .ok (.iload 4, 2) := by decide +kernel
theorem dX6_isKeptAt_57 : decode cX6_isKeptAt 57 = .ok (.iload 7, 2) := by decide +kernel
theorem dX6_isKeptAt_59 : decode cX6_isKeptAt 59 = .ok (.iadd, 1) := by decide +kernel
theorem dX6_isKeptAt_60 : decode cX6_isKeptAt 60 = .ok (.laload, 1) := by decide +kernel
theorem dX6_isKeptAt_61 : decode cX6_isKeptAt 61 = .ok (.bipush 10, 2) := by decide +kernel
theorem dX6_isKeptAt_63 : decode cX6_isKeptAt 63 = .ok (.aload_n 0, 1) := by decide +kernel
theorem dX6_isKeptAt_64 : decode cX6_isKeptAt 64 = .ok (.getfield 63, 3) := by decide +kernel
theorem dX6_isKeptAt_67 : decode cX6_isKeptAt 67 = .ok (.iload 7, 2) := by decide +kernel
theorem dX6_isKeptAt_69 : decode cX6_isKeptAt 69 = .ok (.iaload, 1) := by decide +kernel
theorem dX6_isKeptAt_70 : decode cX6_isKeptAt 70 = .ok (.isub, 1) := by decide +kernel
theorem dX6_isKeptAt_71 : decode cX6_isKeptAt 71 = .ok (.i2l, 1) := by decide +kernel
theorem dX6_isKeptAt_72 : decode cX6_isKeptAt 72 = .ok (.lmul, 1) := by decide +kernel
theorem dX6_isKeptAt_73 : decode cX6_isKeptAt 73 = .ok (.ladd, 1) := by decide +kernel
theorem dX6_isKeptAt_74 : decode cX6_isKeptAt 74 = .ok (.lstore 5, 2) := by decide +kernel
theorem dX6_isKeptAt_76 : decode cX6_isKeptAt 76 = .ok (.iinc 7 1, 3) := by decide +kernel
theorem dX6_isKeptAt_79 : decode cX6_isKeptAt 79 = .ok (.goto (-36), 3) := by decide +kernel
theorem dX6_isKeptAt_82 : decode cX6_isKeptAt 82 = .ok (.iload_n 2, 1) := by decide +kernel
theorem dX6_isKeptAt_83 : decode cX6_isKeptAt 83 = .ok (.lload 5, 2) := by decide +kernel
theorem dX6_isKeptAt_85 : decode cX6_isKeptAt 85 = .ok (.ldc2_w 156, 3) := by decide +kernel
theorem dX6_isKeptAt_88 : decode cX6_isKeptAt 88 = .ok (.aload_n 0, 1) := by decide +kernel
theorem dX6_isKeptAt_89 : decode cX6_isKeptAt 89 = .ok (.getfield 158, 3) := by decide +kernel
theorem dX6_isKeptAt_92 : decode cX6_isKeptAt 92 = .ok (.i2l, 1) := by decide +kernel
theorem dX6_isKeptAt_93 : decode cX6_isKeptAt 93 = .ok (.lmul, 1) := by decide +kernel
theorem dX6_isKeptAt_94 : decode cX6_isKeptAt 94 = .ok (.lcmp, 1) := by decide +kernel
theorem dX6_isKeptAt_95 : decode cX6_isKeptAt 95 = .ok (.ifCond .le 7, 3) := by decide +kernel
theorem dX6_isKeptAt_98 : decode cX6_isKeptAt 98 = .ok (.iconst 1, 1) := by decide +kernel
theorem dX6_isKeptAt_99 : decode cX6_isKeptAt 99 = .ok (.goto 4, 3) := by decide +kernel
theorem dX6_isKeptAt_102 : decode cX6_isKeptAt 102 = .ok (.iconst 0, 1) := by decide +kernel
theorem dX6_isKeptAt_103 : decode cX6_isKeptAt 103 = .ok (.iadd, 1) := by decide +kernel
theorem dX6_isKeptAt_104 : decode cX6_isKeptAt 104 = .ok (.istore_n 2, 1) := by decide +kernel
theorem dX6_isKeptAt_105 : decode cX6_isKeptAt 105 = .ok (.iinc 3 1, 3) := by decide +kernel
theorem dX6_isKeptAt_108 : decode cX6_isKeptAt 108 = .ok (.goto (-104), 3) := by decide +kernel
theorem dX6_isKeptAt_111 : decode cX6_isKeptAt 111 = .ok (.iload_n 2, 1) := by decide +kernel
theorem dX6_isKeptAt_112 : decode cX6_isKeptAt 112 = .ok (.aload_n 0, 1) := by decide +kernel
theorem dX6_isKeptAt_113 : decode cX6_isKeptAt 113 = .ok (.getfield 161, 3) := by decide +kernel
theorem dX6_isKeptAt_116 : decode cX6_isKeptAt 116 = .ok (.if_icmp .gt 7, 3) := by decide +kernel
theorem dX6_isKeptAt_119 : decode cX6_isKeptAt 119 = .ok (.iconst 1, 1) := by decide +kernel
theorem dX6_isKeptAt_120 : decode cX6_isKeptAt 120 = .ok (.goto 4, 3) := by decide +kernel
theorem dX6_isKeptAt_123 : decode cX6_isKeptAt 123 = .ok (.iconst 0, 1) := by decide +kernel
theorem dX6_isKeptAt_124 : decode cX6_isKeptAt 124 = .ok (.ireturn, 1) := by decide +kernel
theorem dX6_setTenths_0 : decode cX6_setTenths 0 = .ok (.aload_n 0, 1) := by decide +kernel
theorem dX6_setTenths_1 : decode cX6_setTenths 1 = .ok (.getfield 63, 3) := by decide +kernel
theorem dX6_setTenths_4 : decode cX6_setTenths 4 = .ok (.iconst 0, 1) := by decide +kernel
theorem dX6_setTenths_5 : decode cX6_setTenths 5 = .ok (.iload_n 1, 1) := by decide +kernel
theorem dX6_setTenths_6 : decode cX6_setTenths 6 = .ok (.iastore, 1) := by decide +kernel
theorem dX6_setTenths_7 : decode cX6_setTenths 7 = .ok (.aload_n 0, 1) := by decide +kernel
theorem dX6_setTenths_8 : decode cX6_setTenths 8 = .ok (.getfield 63, 3) := by decide +kernel
theorem dX6_setTenths_11 : decode cX6_setTenths 11 = .ok (.iconst 1, 1) := by decide +kernel
theorem dX6_setTenths_12 : decode cX6_setTenths 12 = .ok (.iload_n 2, 1) := by decide +kernel
theorem dX6_setTenths_13 : decode cX6_setTenths 13 = .ok (.iastore, 1) := by decide +kernel
theorem dX6_setTenths_14 : decode cX6_setTenths 14 = .ok (.aload_n 0, 1) := by decide +kernel
theorem dX6_setTenths_15 : decode cX6_setTenths 15 = .ok (.getfield 63, 3) := by decide +kernel
theorem dX6_setTenths_18 : decode cX6_setTenths 18 = .ok (.iconst 2, 1) := by decide +kernel
theorem dX6_setTenths_19 : decode cX6_setTenths 19 = .ok (.iload_n 3, 1) := by decide +kernel
theorem dX6_setTenths_20 : decode cX6_setTenths 20 = .ok (.iastore, 1) := by decide +kernel
theorem dX6_setTenths_21 : decode cX6_setTenths 21 = .ok (.return_, 1) := by decide +kernel
theorem dX6_law_0 : decode cX6_law 0 = .ok (.iload_n 1, 1) := by decide +kernel
theorem dX6_law_1 : decode cX6_law 1 = .ok (.i2l, 1) := by decide +kernel
theorem dX6_law_2 : decode cX6_law 2 = .ok (.lconst 0, 1) := by decide +kernel
theorem dX6_law_3 : decode cX6_law 3 = .ok (.ldc2_w 164, 3) := by decide +kernel
theorem dX6_law_6 : decode cX6_law 6 = .ok (.invokestatic 71, 3) := by decide +kernel
theorem dX6_law_9 : decode cX6_law 9 = .ok (.ifCond .eq 15, 3) := by decide +kernel
theorem dX6_law_12 : decode cX6_law 12 = .ok (.iload_n 2, 1) := by decide +kernel
theorem dX6_law_13 : decode cX6_law 13 = .ok (.i2l, 1) := by decide +kernel
theorem dX6_law_14 : decode cX6_law 14 = .ok (.lconst 0, 1) := by decide +kernel
theorem dX6_law_15 : decode cX6_law 15 = .ok (.ldc2_w 77, 3) := by decide +kernel
theorem dX6_law_18 : decode cX6_law 18 = .ok (.invokestatic 71, 3) := by decide +kernel
theorem dX6_law_21 : decode cX6_law 21 = .ok (.ifCond .ne 5, 3) := by decide +kernel
theorem dX6_law_24 : decode cX6_law 24 = .ok (.iconst (-1), 1) := by decide +kernel
theorem dX6_law_25 : decode cX6_law 25 = .ok (.ireturn, 1) := by decide +kernel
theorem dX6_law_26 : decode cX6_law 26 = .ok (.aload_n 0, 1) := by decide +kernel
theorem dX6_law_27 : decode cX6_law 27 = .ok (.iload_n 1, 1) := by decide +kernel
theorem dX6_law_28 : decode cX6_law 28 = .ok (.putfield 158, 3) := by decide +kernel
theorem dX6_law_31 : decode cX6_law 31 = .ok (.aload_n 0, 1) := by decide +kernel
theorem dX6_law_32 : decode cX6_law 32 = .ok (.iload_n 2, 1) := by decide +kernel
theorem dX6_law_33 : decode cX6_law 33 = .ok (.putfield 161, 3) := by decide +kernel
theorem dX6_law_36 : decode cX6_law 36 = .ok (.aload_n 0, 1) := by decide +kernel
theorem dX6_law_37 : decode cX6_law 37 = .ok (.iconst 0, 1) := by decide +kernel
theorem dX6_law_38 : decode cX6_law 38 = .ok (.iconst 0, 1) := by decide +kernel
theorem dX6_law_39 : decode cX6_law 39 = .ok (.iconst 0, 1) := by decide +kernel
theorem dX6_law_40 : decode cX6_law 40 = .ok (.invokevirtual 166, 3) := by decide +kernel
theorem dX6_law_43 : decode cX6_law 43 = .ok (.iconst 0, 1) := by decide +kernel
theorem dX6_law_44 : decode cX6_law 44 = .ok (.istore_n 3, 1) := by decide +kernel
theorem dX6_law_45 : decode cX6_law 45 = .ok (.iconst 0, 1) := by decide +kernel
theorem dX6_law_46 : decode cX6_law 46 = .ok (.istore 4, 2) := by decide +kernel
theorem dX6_law_48 : decode cX6_law 48 = .ok (.iload 4, 2) := by decide +kernel
theorem dX6_law_50 : decode cX6_law 50 = .ok (.iconst 4, 1) := by decide +kernel
theorem dX6_law_51 : decode cX6_law 51 = .ok (.if_icmp .ge 36, 3) := by decide +kernel
theorem dX6_law_54 : decode cX6_law 54 = .ok (.iload_n 3, 1) := by decide +kernel
theorem dX6_law_55 : decode cX6_law 55 = .ok (.aload_n 0, 1) := by decide +kernel
theorem dX6_law_56 : decode cX6_law 56 = .ok (.getfield 51, 3) := by decide +kernel
theorem dX6_law_59 : decode cX6_law 59 = .ok (.iload 4, 2) := by decide +kernel
theorem dX6_law_61 : decode cX6_law 61 = .ok (.baload, 1) := by decide +kernel
theorem dX6_law_62 : decode cX6_law 62 = .ok (.ifCond .eq 16, 3) := by decide +kernel
theorem dX6_law_65 : decode cX6_law 65 = .ok (.aload_n 0, 1) := by decide +kernel
theorem dX6_law_66 : decode cX6_law 66 = .ok (.iload 4, 2) := by decide +kernel
theorem dX6_law_68 : decode cX6_law 68 = .ok (.invokevirtual 170, 3) := by decide +kernel
theorem dX6_law_71 : decode cX6_law 71 = .ok (.ifCond .eq 7, 3) := by decide +kernel
theorem dX6_law_74 : decode cX6_law 74 = .ok (.iconst 1, 1) := by decide +kernel
theorem dX6_law_75 : decode cX6_law 75 = .ok (.goto 4, 3) := by decide +kernel
theorem dX6_law_78 : decode cX6_law 78 = .ok (.iconst 0, 1) := by decide +kernel
theorem dX6_law_79 : decode cX6_law 79 = .ok (.iadd, 1) := by decide +kernel
theorem dX6_law_80 : decode cX6_law 80 = .ok (.istore_n 3, 1) := by decide +kernel
theorem dX6_law_81 : decode cX6_law 81 = .ok (.iinc 4 1, 3) := by decide +kernel
theorem dX6_law_84 : decode cX6_law 84 = .ok (.goto (-36), 3) := by decide +kernel
theorem dX6_law_87 : decode cX6_law 87 = .ok (.iload_n 3, 1) := by decide +kernel
theorem dX6_law_88 : decode cX6_law 88 = .ok (.ireturn, 1) := by decide +kernel
theorem dX6_price_0 : decode cX6_price 0 = .ok (.iload_n 1, 1) := by decide +kernel
theorem dX6_price_1 : decode cX6_price 1 = .ok (.i2l, 1) := by decide +kernel
theorem dX6_price_2 : decode cX6_price 2 = .ok (.lconst 0, 1) := by decide +kernel
theorem dX6_price_3 : decode cX6_price 3 = .ok (.ldc2_w 79, 3) := by decide +kernel
theorem dX6_price_6 : decode cX6_price 6 = .ok (.invokestatic 71, 3) := by decide +kernel
theorem dX6_price_9 : decode cX6_price 9 = .ok (.ifCond .eq 15, 3) := by decide +kernel
theorem dX6_price_12 : decode cX6_price 12 = .ok (.iload_n 2, 1) := by decide +kernel
theorem dX6_price_13 : decode cX6_price 13 = .ok (.i2l, 1) := by decide +kernel
theorem dX6_price_14 : decode cX6_price 14 = .ok (.lconst 0, 1) := by decide +kernel
theorem dX6_price_15 : decode cX6_price 15 = .ok (.ldc2_w 127, 3) := by decide +kernel
theorem dX6_price_18 : decode cX6_price 18 = .ok (.invokestatic 71, 3) := by decide +kernel
theorem dX6_price_21 : decode cX6_price 21 = .ok (.ifCond .ne 5, 3) := by decide +kernel
theorem dX6_price_24 : decode cX6_price 24 = .ok (.iconst (-1), 1) := by decide +kernel
theorem dX6_price_25 : decode cX6_price 25 = .ok (.ireturn, 1) := by decide +kernel
theorem dX6_price_26 : decode cX6_price 26 = .ok (.aload_n 0, 1) := by decide +kernel
theorem dX6_price_27 : decode cX6_price 27 = .ok (.getfield 60, 3) := by decide +kernel
theorem dX6_price_30 : decode cX6_price 30 = .ok (.iload_n 1, 1) := by decide +kernel
theorem dX6_price_31 : decode cX6_price 31 = .ok (.iaload, 1) := by decide +kernel
theorem dX6_price_32 : decode cX6_price 32 = .ok (.istore_n 3, 1) := by decide +kernel
theorem dX6_price_33 : decode cX6_price 33 = .ok (.aload_n 0, 1) := by decide +kernel
theorem dX6_price_34 : decode cX6_price 34 = .ok (.getfield 60, 3) := by decide +kernel
theorem dX6_price_37 : decode cX6_price 37 = .ok (.iload_n 1, 1) := by decide +kernel
theorem dX6_price_38 : decode cX6_price 38 = .ok (.iload_n 2, 1) := by decide +kernel
theorem dX6_price_39 : decode cX6_price 39 = .ok (.iastore, 1) := by decide +kernel
theorem dX6_price_40 : decode cX6_price 40 = .ok (.iload_n 3, 1) := by decide +kernel
theorem dX6_price_41 : decode cX6_price 41 = .ok (.ireturn, 1) := by decide +kernel
theorem dX6_cheapest_0 : decode cX6_cheapest 0 = .ok (.iload_n 1, 1) := by decide +kernel
theorem dX6_cheapest_1 : decode cX6_cheapest 1 = .ok (.i2l, 1) := by decide +kernel
theorem dX6_cheapest_2 : decode cX6_cheapest 2 = .ok (.lconst 0, 1) := by decide +kernel
theorem dX6_cheapest_3 : decode cX6_cheapest 3 = .ok (.ldc2_w 112, 3) := by decide +kernel
theorem dX6_cheapest_6 : decode cX6_cheapest 6 = .ok (.invokestatic 71, 3) := by decide +kernel
theorem dX6_cheapest_9 : decode cX6_cheapest 9 = .ok (.ifCond .ne 5, 3) := by decide +kernel
theorem dX6_cheapest_12 : decode cX6_cheapest 12 = .ok (.iconst (-1), 1) := by decide +kernel
theorem dX6_cheapest_13 : decode cX6_cheapest 13 = .ok (.ireturn, 1) := by decide +kernel
theorem dX6_cheapest_14 : decode cX6_cheapest 14 = .ok (.aload_n 0, 1) := by decide +kernel
theorem dX6_cheapest_15 : decode cX6_cheapest 15 = .ok (.getfield 66, 3) := by decide +kernel
theorem dX6_cheapest_18 : decode cX6_cheapest 18 = .ok (.iconst 3, 1) := by decide +kernel
theorem dX6_cheapest_19 : decode cX6_cheapest 19 = .ok (.iconst (-1), 1) := by decide +kernel
theorem dX6_cheapest_20 : decode cX6_cheapest 20 = .ok (.iastore, 1) := by decide +kernel
theorem dX6_cheapest_21 : decode cX6_cheapest 21 = .ok (.iconst 0, 1) := by decide +kernel
theorem dX6_cheapest_22 : decode cX6_cheapest 22 = .ok (.istore_n 2, 1) := by decide +kernel
theorem dX6_cheapest_23 : decode cX6_cheapest 23 = .ok (.iload_n 2, 1) := by decide +kernel
theorem dX6_cheapest_24 : decode cX6_cheapest 24 = .ok (.sipush 1331, 3) := by decide +kernel
theorem dX6_cheapest_27 : decode cX6_cheapest 27 = .ok (.if_icmp .ge 189, 3) := by decide +kernel
theorem dX6_cheapest_30 : decode cX6_cheapest 30 = .ok (.aload_n 0, 1) := by decide +kernel
theorem dX6_cheapest_31 : decode cX6_cheapest 31 = .ok (.iload_n 2, 1) := by decide +kernel
theorem dX6_cheapest_32 : decode cX6_cheapest 32 = .ok (.bipush 121, 2) := by decide +kernel
theorem dX6_cheapest_34 : decode cX6_cheapest 34 = .ok (.idiv, 1) := by decide +kernel
theorem dX6_cheapest_35 : decode cX6_cheapest 35 = .ok (.iload_n 2, 1) := by decide +kernel
theorem dX6_cheapest_36 : decode cX6_cheapest 36 = .ok (.bipush 11, 2) := by decide +kernel
theorem dX6_cheapest_38 : decode cX6_cheapest 38 = .ok (.idiv, 1) := by decide +kernel
theorem dX6_cheapest_39 : decode cX6_cheapest 39 = .ok (.bipush 11, 2) := by decide +kernel
theorem dX6_cheapest_41 : decode cX6_cheapest 41 = .ok (.irem, 1) := by decide +kernel
theorem dX6_cheapest_42 : decode cX6_cheapest 42 = .ok (.iload_n 2, 1) := by decide +kernel
theorem dX6_cheapest_43 : decode cX6_cheapest 43 = .ok (.bipush 11, 2) := by decide +kernel
theorem dX6_cheapest_45 : decode cX6_cheapest 45 = .ok (.irem, 1) := by decide +kernel
theorem dX6_cheapest_46 : decode cX6_cheapest 46 = .ok (.invokevirtual 166, 3) := by decide +kernel
theorem dX6_cheapest_49 : decode cX6_cheapest 49 = .ok (.aload_n 0, 1) := by decide +kernel
theorem dX6_cheapest_50 : decode cX6_cheapest 50 = .ok (.getfield 63, 3) := by decide +kernel
theorem dX6_cheapest_53 : decode cX6_cheapest 53 = .ok (.iconst 0, 1) := by decide +kernel
theorem dX6_cheapest_54 : decode cX6_cheapest 54 = .ok (.iaload, 1) := by decide +kernel
theorem dX6_cheapest_55 : decode cX6_cheapest 55 = .ok (.aload_n 0, 1) := by decide +kernel
theorem dX6_cheapest_56 : decode cX6_cheapest 56 = .ok (.getfield 60, 3) := by decide +kernel
theorem dX6_cheapest_59 : decode cX6_cheapest 59 = .ok (.iconst 0, 1) := by decide +kernel
theorem dX6_cheapest_60 : decode cX6_cheapest 60 = .ok (.iaload, 1) := by decide +kernel
theorem dX6_cheapest_61 : decode cX6_cheapest 61 = .ok (.imul, 1) := by decide +kernel
theorem dX6_cheapest_62 : decode cX6_cheapest 62 = .ok (.aload_n 0, 1) := by decide +kernel
theorem dX6_cheapest_63 : decode cX6_cheapest 63 = .ok (.getfield 63, 3) := by decide +kernel
theorem dX6_cheapest_66 : decode cX6_cheapest 66 = .ok (.iconst 1, 1) := by decide +kernel
theorem dX6_cheapest_67 : decode cX6_cheapest 67 = .ok (.iaload, 1) := by decide +kernel
theorem dX6_cheapest_68 : decode cX6_cheapest 68 = .ok (.aload_n 0, 1) := by decide +kernel
theorem dX6_cheapest_69 : decode cX6_cheapest 69 = .ok (.getfield 60, 3) := by decide +kernel
theorem dX6_cheapest_72 : decode cX6_cheapest 72 = .ok (.iconst 1, 1) := by decide +kernel
theorem dX6_cheapest_73 : decode cX6_cheapest 73 = .ok (.iaload, 1) := by decide +kernel
theorem dX6_cheapest_74 : decode cX6_cheapest 74 = .ok (.imul, 1) := by decide +kernel
theorem dX6_cheapest_75 : decode cX6_cheapest 75 = .ok (.iadd, 1) := by decide +kernel
theorem dX6_cheapest_76 : decode cX6_cheapest 76 = .ok (.aload_n 0, 1) := by decide +kernel
theorem dX6_cheapest_77 : decode cX6_cheapest 77 = .ok (.getfield 63, 3) := by decide +kernel
theorem dX6_cheapest_80 : decode cX6_cheapest 80 = .ok (.iconst 2, 1) := by decide +kernel
theorem dX6_cheapest_81 : decode cX6_cheapest 81 = .ok (.iaload, 1) := by decide +kernel
theorem dX6_cheapest_82 : decode cX6_cheapest 82 = .ok (.aload_n 0, 1) := by decide +kernel
theorem dX6_cheapest_83 : decode cX6_cheapest 83 = .ok (.getfield 60, 3) := by decide +kernel
theorem dX6_cheapest_86 : decode cX6_cheapest 86 = .ok (.iconst 2, 1) := by decide +kernel
theorem dX6_cheapest_87 : decode cX6_cheapest 87 = .ok (.iaload, 1) := by decide +kernel
theorem dX6_cheapest_88 : decode cX6_cheapest 88 = .ok (.imul, 1) := by decide +kernel
theorem dX6_cheapest_89 : decode cX6_cheapest 89 = .ok (.iadd, 1) := by decide +kernel
theorem dX6_cheapest_90 : decode cX6_cheapest 90 = .ok (.istore_n 3, 1) := by decide +kernel
theorem dX6_cheapest_91 : decode cX6_cheapest 91 = .ok (.aload_n 0, 1) := by decide +kernel
theorem dX6_cheapest_92 : decode cX6_cheapest 92 = .ok (.getfield 66, 3) := by decide +kernel
theorem dX6_cheapest_95 : decode cX6_cheapest 95 = .ok (.iconst 3, 1) := by decide +kernel
theorem dX6_cheapest_96 : decode cX6_cheapest 96 = .ok (.iaload, 1) := by decide +kernel
theorem dX6_cheapest_97 : decode cX6_cheapest 97 = .ok (.ifCond .lt 16, 3) := by decide +kernel
theorem dX6_cheapest_100 : decode cX6_cheapest 100 = .ok (.iload_n 3, 1) := by decide +kernel
theorem dX6_cheapest_101 : decode cX6_cheapest 101 = .ok (.aload_n 0, 1) := by decide +kernel
theorem dX6_cheapest_102 : decode cX6_cheapest 102 = .ok (.getfield 66, 3) := by decide +kernel
theorem dX6_cheapest_105 : decode cX6_cheapest 105 = .ok (.iconst 3, 1) := by decide +kernel
theorem dX6_cheapest_106 : decode cX6_cheapest 106 = .ok (.iaload, 1) := by decide +kernel
theorem dX6_cheapest_107 : decode cX6_cheapest 107 = .ok (.if_icmp .lt 6, 3) := by decide +kernel
theorem dX6_cheapest_110 : decode cX6_cheapest 110 = .ok (.goto 100, 3) := by decide +kernel
theorem dX6_cheapest_113 : decode cX6_cheapest 113 = .ok (.iconst 1, 1) := by decide +kernel
theorem dX6_cheapest_114 : decode cX6_cheapest 114 = .ok (.istore 4, 2) := by decide +kernel
theorem dX6_cheapest_116 : decode cX6_cheapest 116 = .ok (.iconst 0, 1) := by decide +kernel
theorem dX6_cheapest_117 : decode cX6_cheapest 117 = .ok (.istore 5, 2) := by decide +kernel
theorem dX6_cheapest_119 : decode cX6_cheapest 119 = .ok (.iload 5, 2) := by decide +kernel
theorem dX6_cheapest_121 : decode cX6_cheapest 121 = .ok (.iconst 4, 1) := by decide +kernel
theorem dX6_cheapest_122 : decode cX6_cheapest 122 = .ok (.if_icmp .ge 40, 3) := by decide +kernel
theorem dX6_cheapest_125 : decode cX6_cheapest 125 = .ok (.iload 4, 2) := by decide +kernel
theorem dX6_cheapest_127 : decode cX6_cheapest 127 = .ok (.ifCond .eq 26, 3) := by decide +kernel
theorem dX6_cheapest_130 : decode cX6_cheapest 130 = .ok (.aload_n 0, 1) := by decide +kernel
theorem dX6_cheapest_131 : decode cX6_cheapest 131 = .ok (.getfield 51, 3) := by decide +kernel
theorem dX6_cheapest_134 : decode cX6_cheapest 134 = .ok (.iload 5, 2) := by decide +kernel
theorem dX6_cheapest_136 : decode cX6_cheapest 136 = .ok (.baload, 1) := by decide +kernel
theorem dX6_cheapest_137 : decode cX6_cheapest 137 = .ok (.ifCond .eq 12, 3) := by decide +kernel
theorem dX6_cheapest_140 : decode cX6_cheapest 140 = .ok (.aload_n 0, 1) := by decide +kernel
theorem dX6_cheapest_141 : decode cX6_cheapest 141 = .ok (.iload 5, 2) := by decide +kernel
theorem dX6_cheapest_143 : decode cX6_cheapest 143 = .ok (.invokevirtual 170, 3) := by decide +kernel
theorem dX6_cheapest_146 : decode cX6_cheapest 146 = .ok (.ifCond .eq 7, 3) := by decide +kernel
theorem dX6_cheapest_149 : decode cX6_cheapest 149 = .ok (.iconst 1, 1) := by decide +kernel
theorem dX6_cheapest_150 : decode cX6_cheapest 150 = .ok (.goto 4, 3) := by decide +kernel
theorem dX6_cheapest_153 : decode cX6_cheapest 153 = .ok (.iconst 0, 1) := by decide +kernel
theorem dX6_cheapest_154 : decode cX6_cheapest 154 = .ok (.istore 4, 2) := by decide +kernel
theorem dX6_cheapest_156 : decode cX6_cheapest 156 = .ok (.iinc 5 1, 3) := by decide +kernel
theorem dX6_cheapest_159 : decode cX6_cheapest 159 = .ok (.goto (-40), 3) := by decide +kernel
theorem dX6_cheapest_162 : decode cX6_cheapest 162 = .ok (.iload 4, 2) := by decide +kernel
theorem dX6_cheapest_164 : decode cX6_cheapest 164 = .ok (.ifCond .eq 46, 3) := by decide +kernel
theorem dX6_cheapest_167 : decode cX6_cheapest 167 = .ok (.aload_n 0, 1) := by decide +kernel
theorem dX6_cheapest_168 : decode cX6_cheapest 168 = .ok (.getfield 66, 3) := by decide +kernel
theorem dX6_cheapest_171 : decode cX6_cheapest 171 = .ok (.iconst 0, 1) := by decide +kernel
theorem dX6_cheapest_172 : decode cX6_cheapest 172 = .ok (.aload_n 0, 1) := by decide +kernel
theorem dX6_cheapest_173 : decode cX6_cheapest 173 = .ok (.getfield 63, 3) := by decide +kernel
theorem dX6_cheapest_176 : decode cX6_cheapest 176 = .ok (.iconst 0, 1) := by decide +kernel
theorem dX6_cheapest_177 : decode cX6_cheapest 177 = .ok (.iaload, 1) := by decide +kernel
theorem dX6_cheapest_178 : decode cX6_cheapest 178 = .ok (.iastore, 1) := by decide +kernel
theorem dX6_cheapest_179 : decode cX6_cheapest 179 = .ok (.aload_n 0, 1) := by decide +kernel
theorem dX6_cheapest_180 : decode cX6_cheapest 180 = .ok (.getfield 66, 3) := by decide +kernel
theorem dX6_cheapest_183 : decode cX6_cheapest 183 = .ok (.iconst 1, 1) := by decide +kernel
theorem dX6_cheapest_184 : decode cX6_cheapest 184 = .ok (.aload_n 0, 1) := by decide +kernel
theorem dX6_cheapest_185 : decode cX6_cheapest 185 = .ok (.getfield 63, 3) := by decide +kernel
theorem dX6_cheapest_188 : decode cX6_cheapest 188 = .ok (.iconst 1, 1) := by decide +kernel
theorem dX6_cheapest_189 : decode cX6_cheapest 189 = .ok (.iaload, 1) := by decide +kernel
theorem dX6_cheapest_190 : decode cX6_cheapest 190 = .ok (.iastore, 1) := by decide +kernel
theorem dX6_cheapest_191 : decode cX6_cheapest 191 = .ok (.aload_n 0, 1) := by decide +kernel
theorem dX6_cheapest_192 : decode cX6_cheapest 192 = .ok (.getfield 66, 3) := by decide +kernel
theorem dX6_cheapest_195 : decode cX6_cheapest 195 = .ok (.iconst 2, 1) := by decide +kernel
theorem dX6_cheapest_196 : decode cX6_cheapest 196 = .ok (.aload_n 0, 1) := by decide +kernel
theorem dX6_cheapest_197 : decode cX6_cheapest 197 = .ok (.getfield 63, 3) := by decide +kernel
theorem dX6_cheapest_200 : decode cX6_cheapest 200 = .ok (.iconst 2, 1) := by decide +kernel
theorem dX6_cheapest_201 : decode cX6_cheapest 201 = .ok (.iaload, 1) := by decide +kernel
theorem dX6_cheapest_202 : decode cX6_cheapest 202 = .ok (.iastore, 1) := by decide +kernel
theorem dX6_cheapest_203 : decode cX6_cheapest 203 = .ok (.aload_n 0, 1) := by decide +kernel
theorem dX6_cheapest_204 : decode cX6_cheapest 204 = .ok (.getfield 66, 3) := by decide +kernel
theorem dX6_cheapest_207 : decode cX6_cheapest 207 = .ok (.iconst 3, 1) := by decide +kernel
theorem dX6_cheapest_208 : decode cX6_cheapest 208 = .ok (.iload_n 3, 1) := by decide +kernel
theorem dX6_cheapest_209 : decode cX6_cheapest 209 = .ok (.iastore, 1) := by decide +kernel
theorem dX6_cheapest_210 : decode cX6_cheapest 210 = .ok (.iinc 2 1, 3) := by decide +kernel
theorem dX6_cheapest_213 : decode cX6_cheapest 213 = .ok (.goto (-190), 3) := by decide +kernel
theorem dX6_cheapest_216 : decode cX6_cheapest 216 = .ok (.aload_n 0, 1) := by decide +kernel
theorem dX6_cheapest_217 : decode cX6_cheapest 217 = .ok (.getfield 66, 3) := by decide +kernel
theorem dX6_cheapest_220 : decode cX6_cheapest 220 = .ok (.iload_n 1, 1) := by decide +kernel
theorem dX6_cheapest_221 : decode cX6_cheapest 221 = .ok (.iaload, 1) := by decide +kernel
theorem dX6_cheapest_222 : decode cX6_cheapest 222 = .ok (.ireturn, 1) := by decide +kernel
