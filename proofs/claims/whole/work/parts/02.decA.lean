theorem dX0_init_0 : decode cX0_init 0 = .ok (.aload_n 0, 1) := by decide +kernel
theorem dX0_init_1 : decode cX0_init 1 = .ok (.invokespecial 3, 3) := by decide +kernel
theorem dX0_init_4 : decode cX0_init 4 = .ok (.aload_n 0, 1) := by decide +kernel
theorem dX0_init_5 : decode cX0_init 5 = .ok (.bipush 24, 2) := by decide +kernel
theorem dX0_init_7 : decode cX0_init 7 = .ok (.newarray .int, 2) := by decide +kernel
theorem dX0_init_9 : decode cX0_init 9 = .ok (.putfield 9, 3) := by decide +kernel
theorem dX0_init_12 : decode cX0_init 12 = .ok (.aload_n 0, 1) := by decide +kernel
theorem dX0_init_13 : decode cX0_init 13 = .ok (.bipush 10, 2) := by decide +kernel
theorem dX0_init_15 : decode cX0_init 15 = .ok (.newarray .long, 2) := by decide +kernel
theorem dX0_init_17 : decode cX0_init 17 = .ok (.putfield 15, 3) := by decide +kernel
theorem dX0_init_20 : decode cX0_init 20 = .ok (.aload_n 0, 1) := by decide +kernel
theorem dX0_init_21 : decode cX0_init 21 = .ok (.bipush 24, 2) := by decide +kernel
theorem dX0_init_23 : decode cX0_init 23 = .ok (.newarray .long, 2) := by decide +kernel
theorem dX0_init_25 : decode cX0_init 25 = .ok (.putfield 19, 3) := by decide +kernel
theorem dX0_init_28 : decode cX0_init 28 = .ok (.return_, 1) := by decide +kernel
theorem dX0_surplus_0 : decode cX0_surplus 0 = .ok (.iload_n 1, 1) := by decide +kernel
theorem dX0_surplus_1 : decode cX0_surplus 1 = .ok (.iload_n 1, 1) := by decide +kernel
theorem dX0_surplus_2 : decode cX0_surplus 2 = .ok (.iconst 3, 1) := by decide +kernel
theorem dX0_surplus_3 : decode cX0_surplus 3 = .ok (.idiv, 1) := by decide +kernel
theorem dX0_surplus_4 : decode cX0_surplus 4 = .ok (.iadd, 1) := by decide +kernel
theorem dX0_surplus_5 : decode cX0_surplus 5 = .ok (.istore_n 2, 1) := by decide +kernel
theorem dX0_surplus_6 : decode cX0_surplus 6 = .ok (.bipush 12, 2) := by decide +kernel
theorem dX0_surplus_8 : decode cX0_surplus 8 = .ok (.iload_n 1, 1) := by decide +kernel
theorem dX0_surplus_9 : decode cX0_surplus 9 = .ok (.iadd, 1) := by decide +kernel
theorem dX0_surplus_10 : decode cX0_surplus 10 = .ok (.istore_n 3, 1) := by decide +kernel
theorem dX0_surplus_11 : decode cX0_surplus 11 = .ok (.iload_n 3, 1) := by decide +kernel
theorem dX0_surplus_12 : decode cX0_surplus 12 = .ok (.iconst 3, 1) := by decide +kernel
theorem dX0_surplus_13 : decode cX0_surplus 13 = .ok (.iadd, 1) := by decide +kernel
theorem dX0_surplus_14 : decode cX0_surplus 14 = .ok (.istore 4, 2) := by decide +kernel
theorem dX0_surplus_16 : decode cX0_surplus 16 = .ok (.aload_n 0, 1) := by decide +kernel
theorem dX0_surplus_17 : decode cX0_surplus 17 = .ok (.getfield 9, 3) := by decide +kernel
theorem dX0_surplus_20 : decode cX0_surplus 20 = .ok (.iload_n 2, 1) := by decide +kernel
theorem dX0_surplus_21 : decode cX0_surplus 21 = .ok (.iconst 1, 1) := by decide +kernel
theorem dX0_surplus_22 : decode cX0_surplus 22 = .ok (.iadd, 1) := by decide +kernel
theorem dX0_surplus_23 : decode cX0_surplus 23 = .ok (.iaload, 1) := by decide +kernel
theorem dX0_surplus_24 : decode cX0_surplus 24 = .ok (.aload_n 0, 1) := by decide +kernel
theorem dX0_surplus_25 : decode cX0_surplus 25 = .ok (.getfield 9, 3) := by decide +kernel
theorem dX0_surplus_28 : decode cX0_surplus 28 = .ok (.iload_n 2, 1) := by decide +kernel
theorem dX0_surplus_29 : decode cX0_surplus 29 = .ok (.iaload, 1) := by decide +kernel
theorem dX0_surplus_30 : decode cX0_surplus 30 = .ok (.isub, 1) := by decide +kernel
theorem dX0_surplus_31 : decode cX0_surplus 31 = .ok (.aload_n 0, 1) := by decide +kernel
theorem dX0_surplus_32 : decode cX0_surplus 32 = .ok (.getfield 9, 3) := by decide +kernel
theorem dX0_surplus_35 : decode cX0_surplus 35 = .ok (.iload 4, 2) := by decide +kernel
theorem dX0_surplus_37 : decode cX0_surplus 37 = .ok (.iaload, 1) := by decide +kernel
theorem dX0_surplus_38 : decode cX0_surplus 38 = .ok (.iadd, 1) := by decide +kernel
theorem dX0_surplus_39 : decode cX0_surplus 39 = .ok (.aload_n 0, 1) := by decide +kernel
theorem dX0_surplus_40 : decode cX0_surplus 40 = .ok (.getfield 9, 3) := by decide +kernel
theorem dX0_surplus_43 : decode cX0_surplus 43 = .ok (.iload_n 3, 1) := by decide +kernel
theorem dX0_surplus_44 : decode cX0_surplus 44 = .ok (.iaload, 1) := by decide +kernel
theorem dX0_surplus_45 : decode cX0_surplus 45 = .ok (.isub, 1) := by decide +kernel
theorem dX0_surplus_46 : decode cX0_surplus 46 = .ok (.ireturn, 1) := by decide +kernel
theorem dX0_settle_0 : decode cX0_settle 0 = .ok (.aload_n 0, 1) := by decide +kernel
theorem dX0_settle_1 : decode cX0_settle 1 = .ok (.getfield 15, 3) := by decide +kernel
theorem dX0_settle_4 : decode cX0_settle 4 = .ok (.lconst 0, 1) := by decide +kernel
theorem dX0_settle_5 : decode cX0_settle 5 = .ok (.invokestatic 22, 3) := by decide +kernel
theorem dX0_settle_8 : decode cX0_settle 8 = .ok (.iconst 0, 1) := by decide +kernel
theorem dX0_settle_9 : decode cX0_settle 9 = .ok (.istore_n 1, 1) := by decide +kernel
theorem dX0_settle_10 : decode cX0_settle 10 = .ok (.iload_n 1, 1) := by decide +kernel
theorem dX0_settle_11 : decode cX0_settle 11 = .ok (.bipush 9, 2) := by decide +kernel
theorem dX0_settle_13 : decode cX0_settle 13 = .ok (.if_icmp .ge 60, 3) := by decide +kernel
theorem dX0_settle_16 : decode cX0_settle 16 = .ok (.ldc2_w 28, 3) := by decide +kernel
theorem dX0_settle_19 : decode cX0_settle 19 = .ok (.aload_n 0, 1) := by decide +kernel
theorem dX0_settle_20 : decode cX0_settle 20 = .ok (.iload_n 1, 1) := by decide +kernel
theorem dX0_settle_21 : decode cX0_settle 21 = .ok (.invokevirtual 30, 3) := by decide +kernel
theorem dX0_settle_24 : decode cX0_settle 24 = .ok (.i2l, 1) := by decide +kernel
theorem dX0_settle_25 : decode cX0_settle 25 = .ok (.lmul, 1) := by decide +kernel
theorem dX0_settle_26 : decode cX0_settle 26 = .ok (.lstore_n 2, 1) := by decide +kernel
theorem dX0_settle_27 : decode cX0_settle 27 = .ok (.iconst 0, 1) := by decide +kernel
theorem dX0_settle_28 : decode cX0_settle 28 = .ok (.istore 4, 2) := by decide +kernel
theorem dX0_settle_30 : decode cX0_settle 30 = .ok (.iload 4, 2) := by decide +kernel
theorem dX0_settle_32 : decode cX0_settle 32 = .ok (.bipush 9, 2) := by decide +kernel
theorem dX0_settle_34 : decode cX0_settle 34 = .ok (.if_icmp .ge 33, 3) := by decide +kernel
theorem dX0_settle_37 : decode cX0_settle 37 = .ok (.aload_n 0, 1) := by decide +kernel
theorem dX0_settle_38 : decode cX0_settle 38 = .ok (.getfield 15, 3) := by decide +kernel
theorem dX0_settle_41 : decode cX0_settle 41 = .ok (.iload 4, 2) := by decide +kernel
theorem dX0_settle_43 : decode cX0_settle 43 = .ok (.dup2, 1) := by decide +kernel
theorem dX0_settle_44 : decode cX0_settle 44 = .ok (.laload, 1) := by decide +kernel
theorem dX0_settle_45 : decode cX0_settle 45 = .ok (.lload_n 2, 1) := by decide +kernel
theorem dX0_settle_46 : decode cX0_settle 46 = .ok (.getstatic 34, 3) := by decide +kernel
theorem dX0_settle_49 : decode cX0_settle 49 = .ok (.iload_n 1, 1) := by decide +kernel
theorem dX0_settle_50 : decode cX0_settle 50 = .ok (.bipush 9, 2) := by decide +kernel
theorem dX0_settle_52 : decode cX0_settle 52 = .ok (.imul, 1) := by decide +kernel
theorem dX0_settle_53 : decode cX0_settle 53 = .ok (.iload 4, 2) := by decide +kernel
theorem dX0_settle_55 : decode cX0_settle 55 = .ok (.iadd, 1) := by decide +kernel
theorem dX0_settle_56 : decode cX0_settle 56 = .ok (.iaload, 1) := by decide +kernel
theorem dX0_settle_57 : decode cX0_settle 57 = .ok (.i2l, 1) := by decide +kernel
theorem dX0_settle_58 : decode cX0_settle 58 = .ok (.lmul, 1) := by decide +kernel
theorem dX0_settle_59 : decode cX0_settle 59 = .ok (.lsub, 1) := by decide +kernel
theorem dX0_settle_60 : decode cX0_settle 60 = .ok (.lastore, 1) := by decide +kernel
theorem dX0_settle_61 : decode cX0_settle 61 = .ok (.iinc 4 1, 3) := by decide +kernel
theorem dX0_settle_64 : decode cX0_settle 64 = .ok (.goto (-34), 3) := by decide +kernel
theorem dX0_settle_67 : decode cX0_settle 67 = .ok (.iinc 1 1, 3) := by decide +kernel
theorem dX0_settle_70 : decode cX0_settle 70 = .ok (.goto (-60), 3) := by decide +kernel
theorem dX0_settle_73 : decode cX0_settle 73 = .ok (.iconst 0, 1) := by decide +kernel
theorem dX0_settle_74 : decode cX0_settle 74 = .ok (.istore_n 1, 1) := by decide +kernel
theorem dX0_settle_75 : decode cX0_settle 75 = .ok (.iload_n 1, 1) := by decide +kernel
theorem dX0_settle_76 : decode cX0_settle 76 = .ok (.bipush 24, 2) := by decide +kernel
theorem dX0_settle_78 : decode cX0_settle 78 = .ok (.if_icmp .ge 32, 3) := by decide +kernel
theorem dX0_settle_81 : decode cX0_settle 81 = .ok (.aload_n 0, 1) := by decide +kernel
theorem dX0_settle_82 : decode cX0_settle 82 = .ok (.getfield 19, 3) := by decide +kernel
theorem dX0_settle_85 : decode cX0_settle 85 = .ok (.iload_n 1, 1) := by decide +kernel
theorem dX0_settle_86 : decode cX0_settle 86 = .ok (.ldc2_w 37, 3) := by decide +kernel
theorem dX0_settle_89 : decode cX0_settle 89 = .ok (.aload_n 0, 1) := by decide +kernel
theorem dX0_settle_90 : decode cX0_settle 90 = .ok (.getfield 9, 3) := by decide +kernel
theorem dX0_settle_93 : decode cX0_settle 93 = .ok (.iload_n 1, 1) := by decide +kernel
theorem dX0_settle_94 : decode cX0_settle 94 = .ok (.iaload, 1) := by decide +kernel
theorem dX0_settle_95 : decode cX0_settle 95 = .ok (.i2l, 1) := by decide +kernel
theorem dX0_settle_96 : decode cX0_settle 96 = .ok (.lmul, 1) := by decide +kernel
theorem dX0_settle_97 : decode cX0_settle 97 = .ok (.aload_n 0, 1) := by decide +kernel
theorem dX0_settle_98 : decode cX0_settle 98 = .ok (.iload_n 1, 1) := by decide +kernel
theorem dX0_settle_99 : decode cX0_settle 99 = .ok (.invokevirtual 39, 3) := by decide +kernel
theorem dX0_settle_102 : decode cX0_settle 102 = .ok (.ladd, 1) := by decide +kernel
theorem dX0_settle_103 : decode cX0_settle 103 = .ok (.lastore, 1) := by decide +kernel
theorem dX0_settle_104 : decode cX0_settle 104 = .ok (.iinc 1 1, 3) := by decide +kernel
theorem dX0_settle_107 : decode cX0_settle 107 = .ok (.goto (-32), 3) := by decide +kernel
theorem dX0_settle_110 : decode cX0_settle 110 = .ok (.return_, 1) := by decide +kernel
theorem dX0_changeAt_0 : decode cX0_changeAt 0 = .ok (.aload_n 0, 1) := by decide +kernel
theorem dX0_changeAt_1 : decode cX0_changeAt 1 = .ok (.getfield 15, 3) := by decide +kernel
theorem dX0_changeAt_4 : decode cX0_changeAt 4 = .ok (.getstatic 43, 3) := by decide +kernel
theorem dX0_changeAt_7 : decode cX0_changeAt 7 = .ok (.iload_n 1, 1) := by decide +kernel
theorem dX0_changeAt_8 : decode cX0_changeAt 8 = .ok (.iaload, 1) := by decide +kernel
theorem dX0_changeAt_9 : decode cX0_changeAt 9 = .ok (.laload, 1) := by decide +kernel
theorem dX0_changeAt_10 : decode cX0_changeAt 10 = .ok (.aload_n 0, 1) := by decide +kernel
theorem dX0_changeAt_11 : decode cX0_changeAt 11 = .ok (.getfield 15, 3) := by decide +kernel
theorem dX0_changeAt_14 : decode cX0_changeAt 14 = .ok (.getstatic 46, 3) := by decide +kernel
theorem dX0_changeAt_17 : decode cX0_changeAt 17 = .ok (.iload_n 1, 1) := by decide +kernel
theorem dX0_changeAt_18 : decode cX0_changeAt 18 = .ok (.iaload, 1) := by decide +kernel
theorem dX0_changeAt_19 : decode cX0_changeAt 19 = .ok (.laload, 1) := by decide +kernel
theorem dX0_changeAt_20 : decode cX0_changeAt 20 = .ok (.lsub, 1) := by decide +kernel
theorem dX0_changeAt_21 : decode cX0_changeAt 21 = .ok (.lreturn, 1) := by decide +kernel
theorem dX0_squaresOfChanges_0 : decode cX0_squaresOfChanges 0 = .ok (.lconst 0, 1) := by decide +kernel
theorem dX0_squaresOfChanges_1 : decode cX0_squaresOfChanges 1 = .ok (.lstore_n 1, 1) := by decide +kernel
theorem dX0_squaresOfChanges_2 : decode cX0_squaresOfChanges 2 = .ok (.iconst 0, 1) := by decide +kernel
theorem dX0_squaresOfChanges_3 : decode cX0_squaresOfChanges 3 = .ok (.istore_n 3, 1) := by decide +kernel
theorem dX0_squaresOfChanges_4 : decode cX0_squaresOfChanges 4 = .ok (.iload_n 3, 1) := by decide +kernel
theorem dX0_squaresOfChanges_5 : decode cX0_squaresOfChanges 5 = .ok (.bipush 24, 2) := by decide +kernel
theorem dX0_squaresOfChanges_7 : decode cX0_squaresOfChanges 7 = .ok (.if_icmp .ge 23, 3) := by decide +kernel
theorem dX0_squaresOfChanges_10 : decode cX0_squaresOfChanges 10 = .ok (.lload_n 1, 1) := by decide +kernel
theorem dX0_squaresOfChanges_11 : decode cX0_squaresOfChanges 11 = .ok (.aload_n 0, 1) := by decide +kernel
theorem dX0_squaresOfChanges_12 : decode cX0_squaresOfChanges 12 = .ok (.iload_n 3, 1) := by decide +kernel
theorem dX0_squaresOfChanges_13 : decode cX0_squaresOfChanges 13 = .ok (.invokevirtual 39, 3) := by decide +kernel
theorem dX0_squaresOfChanges_16 : decode cX0_squaresOfChanges 16 = .ok (.aload_n 0, 1) := by decide +kernel
theorem dX0_squaresOfChanges_17 : decode cX0_squaresOfChanges 17 = .ok (.iload_n 3, 1) := by decide +kernel
theorem dX0_squaresOfChanges_18 : decode cX0_squaresOfChanges 18 = .ok (.invokevirtual 39, 3) := by decide +kernel
theorem dX0_squaresOfChanges_21 : decode cX0_squaresOfChanges 21 = .ok (.lmul, 1) := by decide +kernel
theorem dX0_squaresOfChanges_22 : decode cX0_squaresOfChanges 22 = .ok (.ladd, 1) := by decide +kernel
theorem dX0_squaresOfChanges_23 : decode cX0_squaresOfChanges 23 = .ok (.lstore_n 1, 1) := by decide +kernel
theorem dX0_squaresOfChanges_24 : decode cX0_squaresOfChanges 24 = .ok (.iinc 3 1, 3) := by decide +kernel
theorem dX0_squaresOfChanges_27 : decode cX0_squaresOfChanges 27 = .ok (.goto (-23), 3) := by decide +kernel
theorem dX0_squaresOfChanges_30 : decode cX0_squaresOfChanges 30 = .ok (.lload_n 1, 1) := by decide +kernel
theorem dX0_squaresOfChanges_31 : decode cX0_squaresOfChanges 31 = .ok (.lreturn, 1) := by decide +kernel
theorem dX1_init_0 : decode cX1_init 0 = .ok (.aload_n 0, 1) := by decide +kernel
theorem dX1_init_1 : decode cX1_init 1 = .ok (.invokespecial 3, 3) := by decide +kernel
theorem dX1_init_4 : decode cX1_init 4 = .ok (.aload_n 0, 1) := by decide +kernel
theorem dX1_init_5 : decode cX1_init 5 = .ok (.iconst 3, 1) := by decide +kernel
theorem dX1_init_6 : decode cX1_init 6 = .ok (.newarray .int, 2) := by decide +kernel
theorem dX1_init_8 : decode cX1_init 8 = .ok (.dup, 1) := by decide +kernel
theorem dX1_init_9 : decode cX1_init 9 = .ok (.iconst 0, 1) := by decide +kernel
theorem dX1_init_10 : decode cX1_init 10 = .ok (.iconst 1, 1) := by decide +kernel
theorem dX1_init_11 : decode cX1_init 11 = .ok (.iastore, 1) := by decide +kernel
theorem dX1_init_12 : decode cX1_init 12 = .ok (.dup, 1) := by decide +kernel
theorem dX1_init_13 : decode cX1_init 13 = .ok (.iconst 1, 1) := by decide +kernel
theorem dX1_init_14 : decode cX1_init 14 = .ok (.iconst 1, 1) := by decide +kernel
theorem dX1_init_15 : decode cX1_init 15 = .ok (.iastore, 1) := by decide +kernel
theorem dX1_init_16 : decode cX1_init 16 = .ok (.dup, 1) := by decide +kernel
theorem dX1_init_17 : decode cX1_init 17 = .ok (.iconst 2, 1) := by decide +kernel
theorem dX1_init_18 : decode cX1_init 18 = .ok (.iconst 1, 1) := by decide +kernel
theorem dX1_init_19 : decode cX1_init 19 = .ok (.iastore, 1) := by decide +kernel
theorem dX1_init_20 : decode cX1_init 20 = .ok (.putfield 9, 3) := by decide +kernel
theorem dX1_init_23 : decode cX1_init 23 = .ok (.aload_n 0, 1) := by decide +kernel
theorem dX1_init_24 : decode cX1_init 24 = .ok (.iconst 3, 1) := by decide +kernel
theorem dX1_init_25 : decode cX1_init 25 = .ok (.newarray .int, 2) := by decide +kernel
theorem dX1_init_27 : decode cX1_init 27 = .ok (.putfield 15, 3) := by decide +kernel
theorem dX1_init_30 : decode cX1_init 30 = .ok (.aload_n 0, 1) := by decide +kernel
theorem dX1_init_31 : decode cX1_init 31 = .ok (.iconst 0, 1) := by decide +kernel
theorem dX1_init_32 : decode cX1_init 32 = .ok (.putfield 18, 3) := by decide +kernel
theorem dX1_init_35 : decode cX1_init 35 = .ok (.aload_n 0, 1) := by decide +kernel
theorem dX1_init_36 : decode cX1_init 36 = .ok (.iconst 0, 1) := by decide +kernel
theorem dX1_init_37 : decode cX1_init 37 = .ok (.putfield 22, 3) := by decide +kernel
theorem dX1_init_40 : decode cX1_init 40 = .ok (.aload_n 0, 1) := by decide +kernel
theorem dX1_init_41 : decode cX1_init 41 = .ok (.iconst 0, 1) := by decide +kernel
theorem dX1_init_42 : decode cX1_init 42 = .ok (.putfield 25, 3) := by decide +kernel
theorem dX1_init_45 : decode cX1_init 45 = .ok (.return_, 1) := by decide +kernel
theorem dX1_doorsKeptAt_0 : decode cX1_doorsKeptAt 0 = .ok (.iconst 0, 1) := by decide +kernel
theorem dX1_doorsKeptAt_1 : decode cX1_doorsKeptAt 1 = .ok (.istore_n 2, 1) := by decide +kernel
theorem dX1_doorsKeptAt_2 : decode cX1_doorsKeptAt 2 = .ok (.iconst 0, 1) := by decide +kernel
theorem dX1_doorsKeptAt_3 : decode cX1_doorsKeptAt 3 = .ok (.istore_n 3, 1) := by decide +kernel
theorem dX1_doorsKeptAt_4 : decode cX1_doorsKeptAt 4 = .ok (.iload_n 3, 1) := by decide +kernel
theorem dX1_doorsKeptAt_5 : decode cX1_doorsKeptAt 5 = .ok (.iconst 4, 1) := by decide +kernel
theorem dX1_doorsKeptAt_6 : decode cX1_doorsKeptAt 6 = .ok (.if_icmp .ge 39, 3) := by decide +kernel
theorem dX1_doorsKeptAt_9 : decode cX1_doorsKeptAt 9 = .ok (.iload_n 2, 1) := by decide +kernel
theorem dX1_doorsKeptAt_10 : decode cX1_doorsKeptAt 10 = .ok (.aload_n 1, 1) := by decide +kernel
theorem dX1_doorsKeptAt_11 : decode cX1_doorsKeptAt 11 = .ok (.iload_n 3, 1) := by decide +kernel
theorem dX1_doorsKeptAt_12 : decode cX1_doorsKeptAt 12 = .ok (.aaload, 1) := by decide +kernel
theorem dX1_doorsKeptAt_13 : decode cX1_doorsKeptAt 13 = .ok (.getfield 28, 3) := by decide +kernel
theorem dX1_doorsKeptAt_16 : decode cX1_doorsKeptAt 16 = .ok (.ifCond .eq 20, 3) := by decide +kernel
theorem dX1_doorsKeptAt_19 : decode cX1_doorsKeptAt 19 = .ok (.aload_n 0, 1) := by decide +kernel
theorem dX1_doorsKeptAt_20 : decode cX1_doorsKeptAt 20 = .ok (.aload_n 1, 1) := by decide +kernel
theorem dX1_doorsKeptAt_21 : decode cX1_doorsKeptAt 21 = .ok (.iload_n 3, 1) := by decide +kernel
theorem dX1_doorsKeptAt_22 : decode cX1_doorsKeptAt 22 = .ok (.aaload, 1) := by decide +kernel
theorem dX1_doorsKeptAt_23 : decode cX1_doorsKeptAt 23 = .ok (.iconst 0, 1) := by decide +kernel
theorem dX1_doorsKeptAt_24 : decode cX1_doorsKeptAt 24 = .ok (.iconst 0, 1) := by decide +kernel
theorem dX1_doorsKeptAt_25 : decode cX1_doorsKeptAt 25 = .ok (.iconst 0, 1) := by decide +kernel
theorem dX1_doorsKeptAt_26 : decode cX1_doorsKeptAt 26 = .ok (.invokevirtual 34, 3) := by decide +kernel
theorem dX1_doorsKeptAt_29 : decode cX1_doorsKeptAt 29 = .ok (.ifCond .eq 7, 3) := by decide +kernel
theorem dX1_doorsKeptAt_32 : decode cX1_doorsKeptAt 32 = .ok (.iconst 1, 1) := by decide +kernel
theorem dX1_doorsKeptAt_33 : decode cX1_doorsKeptAt 33 = .ok (.goto 4, 3) := by decide +kernel
theorem dX1_doorsKeptAt_36 : decode cX1_doorsKeptAt 36 = .ok (.iconst 0, 1) := by decide +kernel
theorem dX1_doorsKeptAt_37 : decode cX1_doorsKeptAt 37 = .ok (.iadd, 1) := by decide +kernel
theorem dX1_doorsKeptAt_38 : decode cX1_doorsKeptAt 38 = .ok (.istore_n 2, 1) := by decide +kernel
theorem dX1_doorsKeptAt_39 : decode cX1_doorsKeptAt 39 = .ok (.iinc 3 1, 3) := by decide +kernel
theorem dX1_doorsKeptAt_42 : decode cX1_doorsKeptAt 42 = .ok (.goto (-38), 3) := by decide +kernel
theorem dX1_doorsKeptAt_45 : decode cX1_doorsKeptAt 45 = .ok (.iload_n 2, 1) := by decide +kernel
theorem dX1_doorsKeptAt_46 : decode cX1_doorsKeptAt 46 = .ok (.ireturn, 1) := by decide +kernel
theorem dX1_isKeptAt_0 : decode cX1_isKeptAt 0 = .ok (.aload_n 0, 1) := by decide +kernel
theorem dX1_isKeptAt_1 : decode cX1_isKeptAt 1 = .ok (.getfield 22, 3) := by decide +kernel
theorem dX1_isKeptAt_4 : decode cX1_isKeptAt 4 = .ok (.i2l, 1) := by decide +kernel
theorem dX1_isKeptAt_5 : decode cX1_isKeptAt 5 = .ok (.ldc2_w 38, 3) := by decide +kernel
theorem dX1_isKeptAt_8 : decode cX1_isKeptAt 8 = .ok (.lmul, 1) := by decide +kernel
theorem dX1_isKeptAt_9 : decode cX1_isKeptAt 9 = .ok (.lstore 5, 2) := by decide +kernel
theorem dX1_isKeptAt_11 : decode cX1_isKeptAt 11 = .ok (.aload_n 1, 1) := by decide +kernel
theorem dX1_isKeptAt_12 : decode cX1_isKeptAt 12 = .ok (.aload_n 0, 1) := by decide +kernel
theorem dX1_isKeptAt_13 : decode cX1_isKeptAt 13 = .ok (.getfield 25, 3) := by decide +kernel
theorem dX1_isKeptAt_16 : decode cX1_isKeptAt 16 = .ok (.lload 5, 2) := by decide +kernel
theorem dX1_isKeptAt_18 : decode cX1_isKeptAt 18 = .ok (.bipush 10, 2) := by decide +kernel
theorem dX1_isKeptAt_20 : decode cX1_isKeptAt 20 = .ok (.iload_n 2, 1) := by decide +kernel
theorem dX1_isKeptAt_21 : decode cX1_isKeptAt 21 = .ok (.isub, 1) := by decide +kernel
theorem dX1_isKeptAt_22 : decode cX1_isKeptAt 22 = .ok (.bipush 10, 2) := by decide +kernel
theorem dX1_isKeptAt_24 : decode cX1_isKeptAt 24 = .ok (.iload_n 3, 1) := by decide +kernel
theorem dX1_isKeptAt_25 : decode cX1_isKeptAt 25 = .ok (.isub, 1) := by decide +kernel
theorem dX1_isKeptAt_26 : decode cX1_isKeptAt 26 = .ok (.bipush 10, 2) := by decide +kernel
theorem dX1_isKeptAt_28 : decode cX1_isKeptAt 28 = .ok (.iload 4, 2) := by decide +kernel
theorem dX1_isKeptAt_30 : decode cX1_isKeptAt 30 = .ok (.isub, 1) := by decide +kernel
theorem dX1_isKeptAt_31 : decode cX1_isKeptAt 31 = .ok (.invokevirtual 40, 3) := by decide +kernel
theorem dX1_isKeptAt_34 : decode cX1_isKeptAt 34 = .ok (.ireturn, 1) := by decide +kernel
theorem dX1_isKept_0 : decode cX1_isKept 0 = .ok (.iconst 0, 1) := by decide +kernel
theorem dX1_isKept_1 : decode cX1_isKept 1 = .ok (.istore 5, 2) := by decide +kernel
theorem dX1_isKept_3 : decode cX1_isKept 3 = .ok (.iload 5, 2) := by decide +kernel
theorem dX1_isKept_5 : decode cX1_isKept 5 = .ok (.iconst 4, 1) := by decide +kernel
theorem dX1_isKept_6 : decode cX1_isKept 6 = .ok (.if_icmp .ge 36, 3) := by decide +kernel
theorem dX1_isKept_9 : decode cX1_isKept 9 = .ok (.aload_n 1, 1) := by decide +kernel
theorem dX1_isKept_10 : decode cX1_isKept 10 = .ok (.iload 5, 2) := by decide +kernel
theorem dX1_isKept_12 : decode cX1_isKept 12 = .ok (.aaload, 1) := by decide +kernel
theorem dX1_isKept_13 : decode cX1_isKept 13 = .ok (.getfield 28, 3) := by decide +kernel
theorem dX1_isKept_16 : decode cX1_isKept 16 = .ok (.ifCond .eq 20, 3) := by decide +kernel
theorem dX1_isKept_19 : decode cX1_isKept 19 = .ok (.aload_n 0, 1) := by decide +kernel
theorem dX1_isKept_20 : decode cX1_isKept 20 = .ok (.aload_n 1, 1) := by decide +kernel
theorem dX1_isKept_21 : decode cX1_isKept 21 = .ok (.iload 5, 2) := by decide +kernel
theorem dX1_isKept_23 : decode cX1_isKept 23 = .ok (.aaload, 1) := by decide +kernel
theorem dX1_isKept_24 : decode cX1_isKept 24 = .ok (.iload_n 2, 1) := by decide +kernel
theorem dX1_isKept_25 : decode cX1_isKept 25 = .ok (.iload_n 3, 1) := by decide +kernel
theorem dX1_isKept_26 : decode cX1_isKept 26 = .ok (.iload 4, 2) := by decide +kernel
theorem dX1_isKept_28 : decode cX1_isKept 28 = .ok (.invokevirtual 34, 3) := by decide +kernel
theorem dX1_isKept_31 : decode cX1_isKept 31 = .ok (.ifCond .ne 5, 3) := by decide +kernel
theorem dX1_isKept_34 : decode cX1_isKept 34 = .ok (.iconst 0, 1) := by decide +kernel
theorem dX1_isKept_35 : decode cX1_isKept 35 = .ok (.ireturn, 1) := by decide +kernel
theorem dX1_isKept_36 : decode cX1_isKept 36 = .ok (.iinc 5 1, 3) := by decide +kernel
theorem dX1_isKept_39 : decode cX1_isKept 39 = .ok (.goto (-36), 3) := by decide +kernel
theorem dX1_isKept_42 : decode cX1_isKept 42 = .ok (.iconst 1, 1) := by decide +kernel
theorem dX1_isKept_43 : decode cX1_isKept 43 = .ok (.ireturn, 1) := by decide +kernel
theorem dX1_seekCuts_0 : decode cX1_seekCuts 0 = .ok (.aload_n 0, 1) := by decide +kernel
theorem dX1_seekCuts_1 : decode cX1_seekCuts 1 = .ok (.sipush 30001, 3) := by decide +kernel
theorem dX1_seekCuts_4 : decode cX1_seekCuts 4 = .ok (.putfield 18, 3) := by decide +kernel
theorem dX1_seekCuts_7 : decode cX1_seekCuts 7 = .ok (.iconst 0, 1) := by decide +kernel
theorem dX1_seekCuts_8 : decode cX1_seekCuts 8 = .ok (.istore_n 2, 1) := by decide +kernel
theorem dX1_seekCuts_9 : decode cX1_seekCuts 9 = .ok (.iload_n 2, 1) := by decide +kernel
theorem dX1_seekCuts_10 : decode cX1_seekCuts 10 = .ok (.bipush 10, 2) := by decide +kernel
theorem dX1_seekCuts_12 : decode cX1_seekCuts 12 = .ok (.if_icmp .gt 66, 3) := by decide +kernel
theorem dX1_seekCuts_15 : decode cX1_seekCuts 15 = .ok (.bipush 11, 2) := by decide +kernel
theorem dX1_seekCuts_17 : decode cX1_seekCuts 17 = .ok (.istore_n 3, 1) := by decide +kernel
theorem dX1_seekCuts_18 : decode cX1_seekCuts 18 = .ok (.iconst 0, 1) := by decide +kernel
theorem dX1_seekCuts_19 : decode cX1_seekCuts 19 = .ok (.istore 4, 2) := by decide +kernel
theorem dX1_seekCuts_21 : decode cX1_seekCuts 21 = .ok (.iload 4, 2) := by decide +kernel
theorem dX1_seekCuts_23 : decode cX1_seekCuts 23 = .ok (.bipush 10, 2) := by decide +kernel
theorem dX1_seekCuts_25 : decode cX1_seekCuts 25 = .ok (.if_icmp .gt 47, 3) := by decide +kernel
theorem dX1_seekCuts_28 : decode cX1_seekCuts 28 = .ok (.iload_n 3, 1) := by decide +kernel
theorem dX1_seekCuts_29 : decode cX1_seekCuts 29 = .ok (.ifCond .le 23, 3) := by decide +kernel
theorem dX1_seekCuts_32 : decode cX1_seekCuts 32 = .ok (.aload_n 0, 1) := by decide +kernel
theorem dX1_seekCuts_33 : decode cX1_seekCuts 33 = .ok (.aload_n 1, 1) := by decide +kernel
theorem dX1_seekCuts_34 : decode cX1_seekCuts 34 = .ok (.iload_n 2, 1) := by decide +kernel
theorem dX1_seekCuts_35 : decode cX1_seekCuts 35 = .ok (.iload 4, 2) := by decide +kernel
theorem dX1_seekCuts_37 : decode cX1_seekCuts 37 = .ok (.iload_n 3, 1) := by decide +kernel
theorem dX1_seekCuts_38 : decode cX1_seekCuts 38 = .ok (.iconst 1, 1) := by decide +kernel
theorem dX1_seekCuts_39 : decode cX1_seekCuts 39 = .ok (.isub, 1) := by decide +kernel
theorem dX1_seekCuts_40 : decode cX1_seekCuts 40 = .ok (.invokevirtual 44, 3) := by decide +kernel
theorem dX1_seekCuts_43 : decode cX1_seekCuts 43 = .ok (.ifCond .eq 9, 3) := by decide +kernel
theorem dX1_seekCuts_46 : decode cX1_seekCuts 46 = .ok (.iinc 3 (-1), 3) := by decide +kernel
theorem dX1_seekCuts_49 : decode cX1_seekCuts 49 = .ok (.goto (-21), 3) := by decide +kernel
theorem dX1_seekCuts_52 : decode cX1_seekCuts 52 = .ok (.iload_n 3, 1) := by decide +kernel
theorem dX1_seekCuts_53 : decode cX1_seekCuts 53 = .ok (.bipush 10, 2) := by decide +kernel
theorem dX1_seekCuts_55 : decode cX1_seekCuts 55 = .ok (.if_icmp .gt 11, 3) := by decide +kernel
theorem dX1_seekCuts_58 : decode cX1_seekCuts 58 = .ok (.aload_n 0, 1) := by decide +kernel
theorem dX1_seekCuts_59 : decode cX1_seekCuts 59 = .ok (.iload_n 2, 1) := by decide +kernel
theorem dX1_seekCuts_60 : decode cX1_seekCuts 60 = .ok (.iload 4, 2) := by decide +kernel
theorem dX1_seekCuts_62 : decode cX1_seekCuts 62 = .ok (.iload_n 3, 1) := by decide +kernel
theorem dX1_seekCuts_63 : decode cX1_seekCuts 63 = .ok (.invokevirtual 48, 3) := by decide +kernel
theorem dX1_seekCuts_66 : decode cX1_seekCuts 66 = .ok (.iinc 4 1, 3) := by decide +kernel
theorem dX1_seekCuts_69 : decode cX1_seekCuts 69 = .ok (.goto (-48), 3) := by decide +kernel
theorem dX1_seekCuts_72 : decode cX1_seekCuts 72 = .ok (.iinc 2 1, 3) := by decide +kernel
theorem dX1_seekCuts_75 : decode cX1_seekCuts 75 = .ok (.goto (-66), 3) := by decide +kernel
theorem dX1_seekCuts_78 : decode cX1_seekCuts 78 = .ok (.return_, 1) := by decide +kernel
theorem dX1_offer_0 : decode cX1_offer 0 = .ok (.iload_n 1, 1) := by decide +kernel
theorem dX1_offer_1 : decode cX1_offer 1 = .ok (.aload_n 0, 1) := by decide +kernel
theorem dX1_offer_2 : decode cX1_offer 2 = .ok (.getfield 9, 3) := by decide +kernel
theorem dX1_offer_5 : decode cX1_offer 5 = .ok (.iconst 0, 1) := by decide +kernel
theorem dX1_offer_6 : decode cX1_offer 6 = .ok (.iaload, 1) := by decide +kernel
theorem dX1_offer_7 : decode cX1_offer 7 = .ok (.imul, 1) := by decide +kernel
theorem dX1_offer_8 : decode cX1_offer 8 = .ok (.iload_n 2, 1) := by decide +kernel
theorem dX1_offer_9 : decode cX1_offer 9 = .ok (.aload_n 0, 1) := by decide +kernel
theorem dX1_offer_10 : decode cX1_offer 10 = .ok (.getfield 9, 3) := by decide +kernel
theorem dX1_offer_13 : decode cX1_offer 13 = .ok (.iconst 1, 1) := by decide +kernel
theorem dX1_offer_14 : decode cX1_offer 14 = .ok (.iaload, 1) := by decide +kernel
theorem dX1_offer_15 : decode cX1_offer 15 = .ok (.imul, 1) := by decide +kernel
theorem dX1_offer_16 : decode cX1_offer 16 = .ok (.iadd, 1) := by decide +kernel
theorem dX1_offer_17 : decode cX1_offer 17 = .ok (.iload_n 3, 1) := by decide +kernel
theorem dX1_offer_18 : decode cX1_offer 18 = .ok (.aload_n 0, 1) := by decide +kernel
theorem dX1_offer_19 : decode cX1_offer 19 = .ok (.getfield 9, 3) := by decide +kernel
theorem dX1_offer_22 : decode cX1_offer 22 = .ok (.iconst 2, 1) := by decide +kernel
theorem dX1_offer_23 : decode cX1_offer 23 = .ok (.iaload, 1) := by decide +kernel
theorem dX1_offer_24 : decode cX1_offer 24 = .ok (.imul, 1) := by decide +kernel
theorem dX1_offer_25 : decode cX1_offer 25 = .ok (.iadd, 1) := by decide +kernel
theorem dX1_offer_26 : decode cX1_offer 26 = .ok (.istore 4, 2) := by decide +kernel
theorem dX1_offer_28 : decode cX1_offer 28 = .ok (.iload 4, 2) := by decide +kernel
theorem dX1_offer_30 : decode cX1_offer 30 = .ok (.aload_n 0, 1) := by decide +kernel
theorem dX1_offer_31 : decode cX1_offer 31 = .ok (.getfield 18, 3) := by decide +kernel
theorem dX1_offer_34 : decode cX1_offer 34 = .ok (.if_icmp .ge 30, 3) := by decide +kernel
theorem dX1_offer_37 : decode cX1_offer 37 = .ok (.aload_n 0, 1) := by decide +kernel
theorem dX1_offer_38 : decode cX1_offer 38 = .ok (.iload 4, 2) := by decide +kernel
theorem dX1_offer_40 : decode cX1_offer 40 = .ok (.putfield 18, 3) := by decide +kernel
theorem dX1_offer_43 : decode cX1_offer 43 = .ok (.aload_n 0, 1) := by decide +kernel
theorem dX1_offer_44 : decode cX1_offer 44 = .ok (.getfield 15, 3) := by decide +kernel
theorem dX1_offer_47 : decode cX1_offer 47 = .ok (.iconst 0, 1) := by decide +kernel
theorem dX1_offer_48 : decode cX1_offer 48 = .ok (.iload_n 1, 1) := by decide +kernel
theorem dX1_offer_49 : decode cX1_offer 49 = .ok (.iastore, 1) := by decide +kernel
theorem dX1_offer_50 : decode cX1_offer 50 = .ok (.aload_n 0, 1) := by decide +kernel
theorem dX1_offer_51 : decode cX1_offer 51 = .ok (.getfield 15, 3) := by decide +kernel
theorem dX1_offer_54 : decode cX1_offer 54 = .ok (.iconst 1, 1) := by decide +kernel
theorem dX1_offer_55 : decode cX1_offer 55 = .ok (.iload_n 2, 1) := by decide +kernel
theorem dX1_offer_56 : decode cX1_offer 56 = .ok (.iastore, 1) := by decide +kernel
theorem dX1_offer_57 : decode cX1_offer 57 = .ok (.aload_n 0, 1) := by decide +kernel
theorem dX1_offer_58 : decode cX1_offer 58 = .ok (.getfield 15, 3) := by decide +kernel
theorem dX1_offer_61 : decode cX1_offer 61 = .ok (.iconst 2, 1) := by decide +kernel
theorem dX1_offer_62 : decode cX1_offer 62 = .ok (.iload_n 3, 1) := by decide +kernel
theorem dX1_offer_63 : decode cX1_offer 63 = .ok (.iastore, 1) := by decide +kernel
theorem dX1_offer_64 : decode cX1_offer 64 = .ok (.return_, 1) := by decide +kernel
theorem dX2_init_0 : decode cX2_init 0 = .ok (.aload_n 0, 1) := by decide +kernel
theorem dX2_init_1 : decode cX2_init 1 = .ok (.invokespecial 3, 3) := by decide +kernel
theorem dX2_init_4 : decode cX2_init 4 = .ok (.aload_n 0, 1) := by decide +kernel
theorem dX2_init_5 : decode cX2_init 5 = .ok (.bipush 100, 2) := by decide +kernel
theorem dX2_init_7 : decode cX2_init 7 = .ok (.newarray .long, 2) := by decide +kernel
theorem dX2_init_9 : decode cX2_init 9 = .ok (.putfield 9, 3) := by decide +kernel
theorem dX2_init_12 : decode cX2_init 12 = .ok (.aload_n 0, 1) := by decide +kernel
theorem dX2_init_13 : decode cX2_init 13 = .ok (.iconst 3, 1) := by decide +kernel
theorem dX2_init_14 : decode cX2_init 14 = .ok (.bipush 100, 2) := by decide +kernel
theorem dX2_init_16 : decode cX2_init 16 = .ok (.multianewarray 15 2, 4) := by decide +kernel
theorem dX2_init_20 : decode cX2_init 20 = .ok (.putfield 17, 3) := by decide +kernel
theorem dX2_init_23 : decode cX2_init 23 = .ok (.aload_n 0, 1) := by decide +kernel
theorem dX2_init_24 : decode cX2_init 24 = .ok (.bipush 100, 2) := by decide +kernel
theorem dX2_init_26 : decode cX2_init 26 = .ok (.newarray .boolean, 2) := by decide +kernel
theorem dX2_init_28 : decode cX2_init 28 = .ok (.putfield 20, 3) := by decide +kernel
theorem dX2_init_31 : decode cX2_init 31 = .ok (.aload_n 0, 1) := by decide +kernel
theorem dX2_init_32 : decode cX2_init 32 = .ok (.iconst 0, 1) := by decide +kernel
theorem dX2_init_33 : decode cX2_init 33 = .ok (.putfield 24, 3) := by decide +kernel
theorem dX2_init_36 : decode cX2_init 36 = .ok (.aload_n 0, 1) := by decide +kernel
theorem dX2_init_37 : decode cX2_init 37 = .ok (.iconst 0, 1) := by decide +kernel
theorem dX2_init_38 : decode cX2_init 38 = .ok (.putfield 28, 3) := by decide +kernel
theorem dX2_init_41 : decode cX2_init 41 = .ok (.aload_n 0, 1) := by decide +kernel
theorem dX2_init_42 : decode cX2_init 42 = .ok (.iconst 0, 1) := by decide +kernel
theorem dX2_init_43 : decode cX2_init 43 = .ok (.putfield 31, 3) := by decide +kernel
theorem dX2_init_46 : decode cX2_init 46 = .ok (.aload_n 0, 1) := by decide +kernel
theorem dX2_init_47 : decode cX2_init 47 = .ok (.iconst 0, 1) := by decide +kernel
theorem dX2_init_48 : decode cX2_init 48 = .ok (.putfield 34, 3) := by decide +kernel
theorem dX2_init_51 : decode cX2_init 51 = .ok (.aload_n 0, 1) := by decide +kernel
theorem dX2_init_52 : decode cX2_init 52 = .ok (.iconst 0, 1) := by decide +kernel
theorem dX2_init_53 : decode cX2_init 53 = .ok (.putfield 38, 3) := by decide +kernel
theorem dX2_init_56 : decode cX2_init 56 = .ok (.return_, 1) := by decide +kernel
theorem dX2_move_0 : decode cX2_move 0 = .ok (.aload_n 0, 1) := by decide +kernel
theorem dX2_move_1 : decode cX2_move 1 = .ok (.getfield 28, 3) := by decide +kernel
theorem dX2_move_4 : decode cX2_move 4 = .ok (.istore_n 2, 1) := by decide +kernel
theorem dX2_move_5 : decode cX2_move 5 = .ok (.aload_n 0, 1) := by decide +kernel
theorem dX2_move_6 : decode cX2_move 6 = .ok (.iload_n 1, 1) := by decide +kernel
theorem dX2_move_7 : decode cX2_move 7 = .ok (.putfield 24, 3) := by decide +kernel
theorem dX2_move_10 : decode cX2_move 10 = .ok (.aload_n 0, 1) := by decide +kernel
theorem dX2_move_11 : decode cX2_move 11 = .ok (.iconst 0, 1) := by decide +kernel
theorem dX2_move_12 : decode cX2_move 12 = .ok (.putfield 28, 3) := by decide +kernel
theorem dX2_move_15 : decode cX2_move 15 = .ok (.iload_n 2, 1) := by decide +kernel
theorem dX2_move_16 : decode cX2_move 16 = .ok (.ireturn, 1) := by decide +kernel
theorem dX2_write_0 : decode cX2_write 0 = .ok (.aload_n 0, 1) := by decide +kernel
theorem dX2_write_1 : decode cX2_write 1 = .ok (.aload_n 0, 1) := by decide +kernel
theorem dX2_write_2 : decode cX2_write 2 = .ok (.getfield 31, 3) := by decide +kernel
theorem dX2_write_5 : decode cX2_write 5 = .ok (.iconst 1, 1) := by decide +kernel
theorem dX2_write_6 : decode cX2_write 6 = .ok (.iadd, 1) := by decide +kernel
theorem dX2_write_7 : decode cX2_write 7 = .ok (.bipush 100, 2) := by decide +kernel
theorem dX2_write_9 : decode cX2_write 9 = .ok (.irem, 1) := by decide +kernel
theorem dX2_write_10 : decode cX2_write 10 = .ok (.putfield 31, 3) := by decide +kernel
theorem dX2_write_13 : decode cX2_write 13 = .ok (.aload_n 0, 1) := by decide +kernel
theorem dX2_write_14 : decode cX2_write 14 = .ok (.aload_n 0, 1) := by decide +kernel
theorem dX2_write_15 : decode cX2_write 15 = .ok (.getfield 28, 3) := by decide +kernel
theorem dX2_write_18 : decode cX2_write 18 = .ok (.iconst 1, 1) := by decide +kernel
theorem dX2_write_19 : decode cX2_write 19 = .ok (.iadd, 1) := by decide +kernel
theorem dX2_write_20 : decode cX2_write 20 = .ok (.bipush 100, 2) := by decide +kernel
theorem dX2_write_22 : decode cX2_write 22 = .ok (.invokestatic 41, 3) := by decide +kernel
theorem dX2_write_25 : decode cX2_write 25 = .ok (.putfield 28, 3) := by decide +kernel
theorem dX2_write_28 : decode cX2_write 28 = .ok (.aload_n 0, 1) := by decide +kernel
theorem dX2_write_29 : decode cX2_write 29 = .ok (.getfield 20, 3) := by decide +kernel
theorem dX2_write_32 : decode cX2_write 32 = .ok (.aload_n 0, 1) := by decide +kernel
theorem dX2_write_33 : decode cX2_write 33 = .ok (.getfield 31, 3) := by decide +kernel
theorem dX2_write_36 : decode cX2_write 36 = .ok (.aload_n 0, 1) := by decide +kernel
theorem dX2_write_37 : decode cX2_write 37 = .ok (.getfield 34, 3) := by decide +kernel
theorem dX2_write_40 : decode cX2_write 40 = .ok (.bastore, 1) := by decide +kernel
theorem dX2_write_41 : decode cX2_write 41 = .ok (.aload_n 0, 1) := by decide +kernel
theorem dX2_write_42 : decode cX2_write 42 = .ok (.getfield 9, 3) := by decide +kernel
theorem dX2_write_45 : decode cX2_write 45 = .ok (.aload_n 0, 1) := by decide +kernel
theorem dX2_write_46 : decode cX2_write 46 = .ok (.getfield 31, 3) := by decide +kernel
theorem dX2_write_49 : decode cX2_write 49 = .ok (.lconst 0, 1) := by decide +kernel
theorem dX2_write_50 : decode cX2_write 50 = .ok (.lastore, 1) := by decide +kernel
theorem dX2_write_51 : decode cX2_write 51 = .ok (.iconst 0, 1) := by decide +kernel
theorem dX2_write_52 : decode cX2_write 52 = .ok (.istore_n 2, 1) := by decide +kernel
theorem dX2_write_53 : decode cX2_write 53 = .ok (.iload_n 2, 1) := by decide +kernel
theorem dX2_write_54 : decode cX2_write 54 = .ok (.iconst 3, 1) := by decide +kernel
theorem dX2_write_55 : decode cX2_write 55 = .ok (.if_icmp .ge 46, 3) := by decide +kernel
theorem dX2_write_58 : decode cX2_write 58 = .ok (.aload_n 1, 1) := by decide +kernel
theorem dX2_write_59 : decode cX2_write 59 = .ok (.iload_n 2, 1) := by decide +kernel
theorem dX2_write_60 : decode cX2_write 60 = .ok (.aaload, 1) := by decide +kernel
theorem dX2_write_61 : decode cX2_write 61 = .ok (.getfield 47, 3) := by decide +kernel
theorem dX2_write_64 : decode cX2_write 64 = .ok (.aload_n 0, 1) := by decide +kernel
theorem dX2_write_65 : decode cX2_write 65 = .ok (.getfield 24, 3) := by decide +kernel
theorem dX2_write_68 : decode cX2_write 68 = .ok (.laload, 1) := by decide +kernel
theorem dX2_write_69 : decode cX2_write 69 = .ok (.lstore_n 3, 1) := by decide +kernel
theorem dX2_write_70 : decode cX2_write 70 = .ok (.aload_n 0, 1) := by decide +kernel
theorem dX2_write_71 : decode cX2_write 71 = .ok (.getfield 17, 3) := by decide +kernel
theorem dX2_write_74 : decode cX2_write 74 = .ok (.iload_n 2, 1) := by decide +kernel
theorem dX2_write_75 : decode cX2_write 75 = .ok (.aaload, 1) := by decide +kernel
theorem dX2_write_76 : decode cX2_write 76 = .ok (.aload_n 0, 1) := by decide +kernel
theorem dX2_write_77 : decode cX2_write 77 = .ok (.getfield 31, 3) := by decide +kernel
theorem dX2_write_80 : decode cX2_write 80 = .ok (.lload_n 3, 1) := by decide +kernel
theorem dX2_write_81 : decode cX2_write 81 = .ok (.lastore, 1) := by decide +kernel
theorem dX2_write_82 : decode cX2_write 82 = .ok (.aload_n 0, 1) := by decide +kernel
theorem dX2_write_83 : decode cX2_write 83 = .ok (.getfield 9, 3) := by decide +kernel
theorem dX2_write_86 : decode cX2_write 86 = .ok (.aload_n 0, 1) := by decide +kernel
theorem dX2_write_87 : decode cX2_write 87 = .ok (.getfield 31, 3) := by decide +kernel
theorem dX2_write_90 : decode cX2_write 90 = .ok (.dup2, 1) := by decide +kernel
theorem dX2_write_91 : decode cX2_write 91 = .ok (.laload, 1) := by decide +kernel
theorem dX2_write_92 : decode cX2_write 92 = .ok (.lload_n 3, 1) := by decide +kernel
theorem dX2_write_93 : decode cX2_write 93 = .ok (.ladd, 1) := by decide +kernel
theorem dX2_write_94 : decode cX2_write 94 = .ok (.lastore, 1) := by decide +kernel
theorem dX2_write_95 : decode cX2_write 95 = .ok (.iinc 2 1, 3) := by decide +kernel
theorem dX2_write_98 : decode cX2_write 98 = .ok (.goto (-45), 3) := by decide +kernel
theorem dX2_write_101 : decode cX2_write 101 = .ok (.return_, 1) := by decide +kernel
theorem dX2_slotOf_0 : decode cX2_slotOf 0 = .ok (.aload_n 0, 1) := by decide +kernel
theorem dX2_slotOf_1 : decode cX2_slotOf 1 = .ok (.getfield 31, 3) := by decide +kernel
theorem dX2_slotOf_4 : decode cX2_slotOf 4 = .ok (.iload_n 1, 1) := by decide +kernel
theorem dX2_slotOf_5 : decode cX2_slotOf 5 = .ok (.isub, 1) := by decide +kernel
theorem dX2_slotOf_6 : decode cX2_slotOf 6 = .ok (.bipush 100, 2) := by decide +kernel
theorem dX2_slotOf_8 : decode cX2_slotOf 8 = .ok (.iadd, 1) := by decide +kernel
theorem dX2_slotOf_9 : decode cX2_slotOf 9 = .ok (.bipush 100, 2) := by decide +kernel
theorem dX2_slotOf_11 : decode cX2_slotOf 11 = .ok (.irem, 1) := by decide +kernel
theorem dX2_slotOf_12 : decode cX2_slotOf 12 = .ok (.ireturn, 1) := by decide +kernel
theorem dX2_countOfWritten_0 : decode cX2_countOfWritten 0 = .ok (.aload_n 0, 1) := by decide +kernel
theorem dX2_countOfWritten_1 : decode cX2_countOfWritten 1 = .ok (.iconst 0, 1) := by decide +kernel
theorem dX2_countOfWritten_2 : decode cX2_countOfWritten 2 = .ok (.aload_n 0, 1) := by decide +kernel
theorem dX2_countOfWritten_3 : decode cX2_countOfWritten 3 = .ok (.getfield 28, 3) := by decide +kernel
theorem dX2_countOfWritten_6 : decode cX2_countOfWritten 6 = .ok (.invokevirtual 52, 3) := by decide +kernel
theorem dX2_countOfWritten_9 : decode cX2_countOfWritten 9 = .ok (.ireturn, 1) := by decide +kernel
theorem dX2_writtenIn_0 : decode cX2_writtenIn 0 = .ok (.iconst 0, 1) := by decide +kernel
theorem dX2_writtenIn_1 : decode cX2_writtenIn 1 = .ok (.istore_n 3, 1) := by decide +kernel
theorem dX2_writtenIn_2 : decode cX2_writtenIn 2 = .ok (.iload_n 1, 1) := by decide +kernel
theorem dX2_writtenIn_3 : decode cX2_writtenIn 3 = .ok (.istore 4, 2) := by decide +kernel
theorem dX2_writtenIn_5 : decode cX2_writtenIn 5 = .ok (.iload 4, 2) := by decide +kernel
theorem dX2_writtenIn_7 : decode cX2_writtenIn 7 = .ok (.iload_n 1, 1) := by decide +kernel
theorem dX2_writtenIn_8 : decode cX2_writtenIn 8 = .ok (.iload_n 2, 1) := by decide +kernel
theorem dX2_writtenIn_9 : decode cX2_writtenIn 9 = .ok (.iadd, 1) := by decide +kernel
theorem dX2_writtenIn_10 : decode cX2_writtenIn 10 = .ok (.if_icmp .ge 31, 3) := by decide +kernel
theorem dX2_writtenIn_13 : decode cX2_writtenIn 13 = .ok (.iload_n 3, 1) := by decide +kernel
theorem dX2_writtenIn_14 : decode cX2_writtenIn 14 = .ok (.aload_n 0, 1) := by decide +kernel
theorem dX2_writtenIn_15 : decode cX2_writtenIn 15 = .ok (.getfield 20, 3) := by decide +kernel
theorem dX2_writtenIn_18 : decode cX2_writtenIn 18 = .ok (.aload_n 0, 1) := by decide +kernel
theorem dX2_writtenIn_19 : decode cX2_writtenIn 19 = .ok (.iload 4, 2) := by decide +kernel
theorem dX2_writtenIn_21 : decode cX2_writtenIn 21 = .ok (.invokevirtual 55, 3) := by decide +kernel
theorem dX2_writtenIn_24 : decode cX2_writtenIn 24 = .ok (.baload, 1) := by decide +kernel
theorem dX2_writtenIn_25 : decode cX2_writtenIn 25 = .ok (.ifCond .eq 7, 3) := by decide +kernel
theorem dX2_writtenIn_28 : decode cX2_writtenIn 28 = .ok (.iconst 0, 1) := by decide +kernel
theorem dX2_writtenIn_29 : decode cX2_writtenIn 29 = .ok (.goto 4, 3) := by decide +kernel
theorem dX2_writtenIn_32 : decode cX2_writtenIn 32 = .ok (.iconst 1, 1) := by decide +kernel
theorem dX2_writtenIn_33 : decode cX2_writtenIn 33 = .ok (.iadd, 1) := by decide +kernel
theorem dX2_writtenIn_34 : decode cX2_writtenIn 34 = .ok (.istore_n 3, 1) := by decide +kernel
theorem dX2_writtenIn_35 : decode cX2_writtenIn 35 = .ok (.iinc 4 1, 3) := by decide +kernel
theorem dX2_writtenIn_38 : decode cX2_writtenIn 38 = .ok (.goto (-33), 3) := by decide +kernel
theorem dX2_writtenIn_41 : decode cX2_writtenIn 41 = .ok (.iload_n 3, 1) := by decide +kernel
theorem dX2_writtenIn_42 : decode cX2_writtenIn 42 = .ok (.ireturn, 1) := by decide +kernel
theorem dX2_sumIn_0 : decode cX2_sumIn 0 = .ok (.lconst 0, 1) := by decide +kernel
theorem dX2_sumIn_1 : decode cX2_sumIn 1 = .ok (.lstore_n 3, 1) := by decide +kernel
theorem dX2_sumIn_2 : decode cX2_sumIn 2 = .ok (.iload_n 1, 1) := by decide +kernel
theorem dX2_sumIn_3 : decode cX2_sumIn 3 = .ok (.istore 5, 2) := by decide +kernel
theorem dX2_sumIn_5 : decode cX2_sumIn 5 = .ok (.iload 5, 2) := by decide +kernel
theorem dX2_sumIn_7 : decode cX2_sumIn 7 = .ok (.iload_n 1, 1) := by decide +kernel
theorem dX2_sumIn_8 : decode cX2_sumIn 8 = .ok (.iload_n 2, 1) := by decide +kernel
theorem dX2_sumIn_9 : decode cX2_sumIn 9 = .ok (.iadd, 1) := by decide +kernel
theorem dX2_sumIn_10 : decode cX2_sumIn 10 = .ok (.if_icmp .ge 41, 3) := by decide +kernel
theorem dX2_sumIn_13 : decode cX2_sumIn 13 = .ok (.aload_n 0, 1) := by decide +kernel
theorem dX2_sumIn_14 : decode cX2_sumIn 14 = .ok (.iload 5, 2) := by decide +kernel
theorem dX2_sumIn_16 : decode cX2_sumIn 16 = .ok (.invokevirtual 55, 3) := by decide +kernel
theorem dX2_sumIn_19 : decode cX2_sumIn 19 = .ok (.istore 6, 2) := by decide +kernel
theorem dX2_sumIn_21 : decode cX2_sumIn 21 = .ok (.lload_n 3, 1) := by decide +kernel
theorem dX2_sumIn_22 : decode cX2_sumIn 22 = .ok (.aload_n 0, 1) := by decide +kernel
theorem dX2_sumIn_23 : decode cX2_sumIn 23 = .ok (.getfield 20, 3) := by decide +kernel
theorem dX2_sumIn_26 : decode cX2_sumIn 26 = .ok (.iload 6, 2) := by decide +kernel
theorem dX2_sumIn_28 : decode cX2_sumIn 28 = .ok (.baload, 1) := by decide +kernel
theorem dX2_sumIn_29 : decode cX2_sumIn 29 = .ok (.ifCond .eq 7, 3) := by decide +kernel
theorem dX2_sumIn_32 : decode cX2_sumIn 32 = .ok (.lconst 0, 1) := by decide +kernel
theorem dX2_sumIn_33 : decode cX2_sumIn 33 = .ok (.goto 10, 3) := by decide +kernel
theorem dX2_sumIn_36 : decode cX2_sumIn 36 = .ok (.aload_n 0, 1) := by decide +kernel
theorem dX2_sumIn_37 : decode cX2_sumIn 37 = .ok (.getfield 9, 3) := by decide +kernel
theorem dX2_sumIn_40 : decode cX2_sumIn 40 = .ok (.iload 6, 2) := by decide +kernel
theorem dX2_sumIn_42 : decode cX2_sumIn 42 = .ok (.laload, 1) := by decide +kernel
theorem dX2_sumIn_43 : decode cX2_sumIn 43 = .ok (.ladd, 1) := by decide +kernel
theorem dX2_sumIn_44 : decode cX2_sumIn 44 = .ok (.lstore_n 3, 1) := by decide +kernel
theorem dX2_sumIn_45 : decode cX2_sumIn 45 = .ok (.iinc 5 1, 3) := by decide +kernel
theorem dX2_sumIn_48 : decode cX2_sumIn 48 = .ok (.goto (-43), 3) := by decide +kernel
theorem dX2_sumIn_51 : decode cX2_sumIn 51 = .ok (.lload_n 3, 1) := by decide +kernel
theorem dX2_sumIn_52 : decode cX2_sumIn 52 = .ok (.lreturn, 1) := by decide +kernel
theorem dX2_meanOfWritten_0 : decode cX2_meanOfWritten 0 = .ok (.aload_n 0, 1) := by decide +kernel
theorem dX2_meanOfWritten_1 : decode cX2_meanOfWritten 1 = .ok (.invokevirtual 59, 3) := by decide +kernel
theorem dX2_meanOfWritten_4 : decode cX2_meanOfWritten 4 = .ok (.istore_n 1, 1) := by decide +kernel
theorem dX2_meanOfWritten_5 : decode cX2_meanOfWritten 5 = .ok (.iload_n 1, 1) := by decide +kernel
theorem dX2_meanOfWritten_6 : decode cX2_meanOfWritten 6 = .ok (.ifCond .ne 9, 3) := by decide +kernel
theorem dX2_meanOfWritten_9 : decode cX2_meanOfWritten 9 = .ok (.ldc2_w 63, 3) := by decide +kernel
theorem dX2_meanOfWritten_12 : decode cX2_meanOfWritten 12 = .ok (.goto 15, 3) := by decide +kernel
theorem dX2_meanOfWritten_15 : decode cX2_meanOfWritten 15 = .ok (.aload_n 0, 1) := by decide +kernel
theorem dX2_meanOfWritten_16 : decode cX2_meanOfWritten 16 = .ok (.iconst 0, 1) := by decide +kernel
theorem dX2_meanOfWritten_17 : decode cX2_meanOfWritten 17 = .ok (.aload_n 0, 1) := by decide +kernel
theorem dX2_meanOfWritten_18 : decode cX2_meanOfWritten 18 = .ok (.getfield 28, 3) := by decide +kernel
theorem dX2_meanOfWritten_21 : decode cX2_meanOfWritten 21 = .ok (.invokevirtual 65, 3) := by decide +kernel
theorem dX2_meanOfWritten_24 : decode cX2_meanOfWritten 24 = .ok (.iload_n 1, 1) := by decide +kernel
theorem dX2_meanOfWritten_25 : decode cX2_meanOfWritten 25 = .ok (.i2l, 1) := by decide +kernel
theorem dX2_meanOfWritten_26 : decode cX2_meanOfWritten 26 = .ok (.ldiv, 1) := by decide +kernel
theorem dX2_meanOfWritten_27 : decode cX2_meanOfWritten 27 = .ok (.lreturn, 1) := by decide +kernel
theorem dX2_greatest_0 : decode cX2_greatest 0 = .ok (.iconst 0, 1) := by decide +kernel
theorem dX2_greatest_1 : decode cX2_greatest 1 = .ok (.istore_n 2, 1) := by decide +kernel
theorem dX2_greatest_2 : decode cX2_greatest 2 = .ok (.iload_n 2, 1) := by decide +kernel
theorem dX2_greatest_3 : decode cX2_greatest 3 = .ok (.aload_n 0, 1) := by decide +kernel
theorem dX2_greatest_4 : decode cX2_greatest 4 = .ok (.getfield 28, 3) := by decide +kernel
theorem dX2_greatest_7 : decode cX2_greatest 7 = .ok (.if_icmp .ge 57, 3) := by decide +kernel
theorem dX2_greatest_10 : decode cX2_greatest 10 = .ok (.aload_n 0, 1) := by decide +kernel
theorem dX2_greatest_11 : decode cX2_greatest 11 = .ok (.iload_n 2, 1) := by decide +kernel
theorem dX2_greatest_12 : decode cX2_greatest 12 = .ok (.invokevirtual 55, 3) := by decide +kernel
theorem dX2_greatest_15 : decode cX2_greatest 15 = .ok (.istore_n 3, 1) := by decide +kernel
theorem dX2_greatest_16 : decode cX2_greatest 16 = .ok (.aload_n 0, 1) := by decide +kernel
theorem dX2_greatest_17 : decode cX2_greatest 17 = .ok (.getfield 9, 3) := by decide +kernel
theorem dX2_greatest_20 : decode cX2_greatest 20 = .ok (.iload_n 3, 1) := by decide +kernel
theorem dX2_greatest_21 : decode cX2_greatest 21 = .ok (.laload, 1) := by decide +kernel
theorem dX2_greatest_22 : decode cX2_greatest 22 = .ok (.lstore 4, 2) := by decide +kernel
theorem dX2_greatest_24 : decode cX2_greatest 24 = .ok (.aload_n 0, 1) := by decide +kernel
theorem dX2_greatest_25 : decode cX2_greatest 25 = .ok (.getfield 20, 3) := by decide +kernel
theorem dX2_greatest_28 : decode cX2_greatest 28 = .ok (.iload_n 3, 1) := by decide +kernel
theorem dX2_greatest_29 : decode cX2_greatest 29 = .ok (.baload, 1) := by decide +kernel
theorem dX2_greatest_30 : decode cX2_greatest 30 = .ok (.ifCond .ne 28, 3) := by decide +kernel
theorem dX2_greatest_33 : decode cX2_greatest 33 = .ok (.aload_n 0, 1) := by decide +kernel
theorem dX2_greatest_34 : decode cX2_greatest 34 = .ok (.lload 4, 2) := by decide +kernel
theorem dX2_greatest_36 : decode cX2_greatest 36 = .ok (.invokevirtual 69, 3) := by decide +kernel
theorem dX2_greatest_39 : decode cX2_greatest 39 = .ok (.iload_n 1, 1) := by decide +kernel
theorem dX2_greatest_40 : decode cX2_greatest 40 = .ok (.if_icmp .ge 18, 3) := by decide +kernel
theorem dX2_greatest_43 : decode cX2_greatest 43 = .ok (.aload_n 0, 1) := by decide +kernel
theorem dX2_greatest_44 : decode cX2_greatest 44 = .ok (.lload 4, 2) := by decide +kernel
theorem dX2_greatest_46 : decode cX2_greatest 46 = .ok (.lconst 1, 1) := by decide +kernel
theorem dX2_greatest_47 : decode cX2_greatest 47 = .ok (.lsub, 1) := by decide +kernel
theorem dX2_greatest_48 : decode cX2_greatest 48 = .ok (.invokevirtual 69, 3) := by decide +kernel
theorem dX2_greatest_51 : decode cX2_greatest 51 = .ok (.iload_n 1, 1) := by decide +kernel
theorem dX2_greatest_52 : decode cX2_greatest 52 = .ok (.if_icmp .lt 6, 3) := by decide +kernel
theorem dX2_greatest_55 : decode cX2_greatest 55 = .ok (.lload 4, 2) := by decide +kernel
theorem dX2_greatest_57 : decode cX2_greatest 57 = .ok (.lreturn, 1) := by decide +kernel
theorem dX2_greatest_58 : decode cX2_greatest 58 = .ok (.iinc 2 1, 3) := by decide +kernel
theorem dX2_greatest_61 : decode cX2_greatest 61 = .ok (.goto (-59), 3) := by decide +kernel
theorem dX2_greatest_64 : decode cX2_greatest 64 = .ok (.ldc2_w 63, 3) := by decide +kernel
theorem dX2_greatest_67 : decode cX2_greatest 67 = .ok (.lreturn, 1) := by decide +kernel
theorem dX2_countAbove_0 : decode cX2_countAbove 0 = .ok (.iconst 0, 1) := by decide +kernel
theorem dX2_countAbove_1 : decode cX2_countAbove 1 = .ok (.istore_n 3, 1) := by decide +kernel
theorem dX2_countAbove_2 : decode cX2_countAbove 2 = .ok (.iconst 0, 1) := by decide +kernel
theorem dX2_countAbove_3 : decode cX2_countAbove 3 = .ok (.istore 4, 2) := by decide +kernel
theorem dX2_countAbove_5 : decode cX2_countAbove 5 = .ok (.iload 4, 2) := by decide +kernel
theorem dX2_countAbove_7 : decode cX2_countAbove 7 = .ok (.aload_n 0, 1) := by decide +kernel
theorem dX2_countAbove_8 : decode cX2_countAbove 8 = .ok (.getfield 28, 3) := by decide +kernel
theorem dX2_countAbove_11 : decode cX2_countAbove 11 = .ok (.if_icmp .ge 47, 3) := by decide +kernel
theorem dX2_countAbove_14 : decode cX2_countAbove 14 = .ok (.aload_n 0, 1) := by decide +kernel
theorem dX2_countAbove_15 : decode cX2_countAbove 15 = .ok (.iload 4, 2) := by decide +kernel
theorem dX2_countAbove_17 : decode cX2_countAbove 17 = .ok (.invokevirtual 55, 3) := by decide +kernel
theorem dX2_countAbove_20 : decode cX2_countAbove 20 = .ok (.istore 5, 2) := by decide +kernel
theorem dX2_countAbove_22 : decode cX2_countAbove 22 = .ok (.iload_n 3, 1) := by decide +kernel
theorem dX2_countAbove_23 : decode cX2_countAbove 23 = .ok (.aload_n 0, 1) := by decide +kernel
theorem dX2_countAbove_24 : decode cX2_countAbove 24 = .ok (.getfield 20, 3) := by decide +kernel
theorem dX2_countAbove_27 : decode cX2_countAbove 27 = .ok (.iload 5, 2) := by decide +kernel
theorem dX2_countAbove_29 : decode cX2_countAbove 29 = .ok (.baload, 1) := by decide +kernel
theorem dX2_countAbove_30 : decode cX2_countAbove 30 = .ok (.ifCond .ne 19, 3) := by decide +kernel
theorem dX2_countAbove_33 : decode cX2_countAbove 33 = .ok (.aload_n 0, 1) := by decide +kernel
theorem dX2_countAbove_34 : decode cX2_countAbove 34 = .ok (.getfield 9, 3) := by decide +kernel
theorem dX2_countAbove_37 : decode cX2_countAbove 37 = .ok (.iload 5, 2) := by decide +kernel
theorem dX2_countAbove_39 : decode cX2_countAbove 39 = .ok (.laload, 1) := by decide +kernel
theorem dX2_countAbove_40 : decode cX2_countAbove 40 = .ok (.lload_n 1, 1) := by decide +kernel
theorem dX2_countAbove_41 : decode cX2_countAbove 41 = .ok (.lcmp, 1) := by decide +kernel
theorem dX2_countAbove_42 : decode cX2_countAbove 42 = .ok (.ifCond .le 7, 3) := by decide +kernel
theorem dX2_countAbove_45 : decode cX2_countAbove 45 = .ok (.iconst 1, 1) := by decide +kernel
theorem dX2_countAbove_46 : decode cX2_countAbove 46 = .ok (.goto 4, 3) := by decide +kernel
theorem dX2_countAbove_49 : decode cX2_countAbove 49 = .ok (.iconst 0, 1) := by decide +kernel
theorem dX2_countAbove_50 : decode cX2_countAbove 50 = .ok (.iadd, 1) := by decide +kernel
theorem dX2_countAbove_51 : decode cX2_countAbove 51 = .ok (.istore_n 3, 1) := by decide +kernel
theorem dX2_countAbove_52 : decode cX2_countAbove 52 = .ok (.iinc 4 1, 3) := by decide +kernel
theorem dX2_countAbove_55 : decode cX2_countAbove 55 = .ok (.goto (-50), 3) := by decide +kernel
theorem dX2_countAbove_58 : decode cX2_countAbove 58 = .ok (.iload_n 3, 1) := by decide +kernel
theorem dX2_countAbove_59 : decode cX2_countAbove 59 = .ok (.ireturn, 1) := by decide +kernel
theorem dX2_greatestMean_0 : decode cX2_greatestMean 0 = .ok (.ldc2_w 63, 3) := by decide +kernel
theorem dX2_greatestMean_3 : decode cX2_greatestMean 3 = .ok (.lstore_n 2, 1) := by decide +kernel
theorem dX2_greatestMean_4 : decode cX2_greatestMean 4 = .ok (.iload_n 1, 1) := by decide +kernel
theorem dX2_greatestMean_5 : decode cX2_greatestMean 5 = .ok (.iconst 1, 1) := by decide +kernel
theorem dX2_greatestMean_6 : decode cX2_greatestMean 6 = .ok (.iadd, 1) := by decide +kernel
theorem dX2_greatestMean_7 : decode cX2_greatestMean 7 = .ok (.iconst 2, 1) := by decide +kernel
theorem dX2_greatestMean_8 : decode cX2_greatestMean 8 = .ok (.idiv, 1) := by decide +kernel
theorem dX2_greatestMean_9 : decode cX2_greatestMean 9 = .ok (.istore 4, 2) := by decide +kernel
theorem dX2_greatestMean_11 : decode cX2_greatestMean 11 = .ok (.iconst 0, 1) := by decide +kernel
theorem dX2_greatestMean_12 : decode cX2_greatestMean 12 = .ok (.istore 5, 2) := by decide +kernel
theorem dX2_greatestMean_14 : decode cX2_greatestMean 14 = .ok (.iload 5, 2) := by decide +kernel
theorem dX2_greatestMean_16 : decode cX2_greatestMean 16 = .ok (.iload_n 1, 1) := by decide +kernel
theorem dX2_greatestMean_17 : decode cX2_greatestMean 17 = .ok (.iadd, 1) := by decide +kernel
theorem dX2_greatestMean_18 : decode cX2_greatestMean 18 = .ok (.aload_n 0, 1) := by decide +kernel
theorem dX2_greatestMean_19 : decode cX2_greatestMean 19 = .ok (.getfield 28, 3) := by decide +kernel
theorem dX2_greatestMean_22 : decode cX2_greatestMean 22 = .ok (.if_icmp .gt 46, 3) := by decide +kernel
theorem dX2_greatestMean_25 : decode cX2_greatestMean 25 = .ok (.aload_n 0, 1) := by decide +kernel
theorem dX2_greatestMean_26 : decode cX2_greatestMean 26 = .ok (.iload 5, 2) := by decide +kernel
theorem dX2_greatestMean_28 : decode cX2_greatestMean 28 = .ok (.iload_n 1, 1) := by decide +kernel
theorem dX2_greatestMean_29 : decode cX2_greatestMean 29 = .ok (.invokevirtual 52, 3) := by decide +kernel
theorem dX2_greatestMean_32 : decode cX2_greatestMean 32 = .ok (.istore 6, 2) := by decide +kernel
theorem dX2_greatestMean_34 : decode cX2_greatestMean 34 = .ok (.iload 6, 2) := by decide +kernel
theorem dX2_greatestMean_36 : decode cX2_greatestMean 36 = .ok (.ifCond .le 26, 3) := by decide +kernel
theorem dX2_greatestMean_39 : decode cX2_greatestMean 39 = .ok (.iload 6, 2) := by decide +kernel
theorem dX2_greatestMean_41 : decode cX2_greatestMean 41 = .ok (.iload 4, 2) := by decide +kernel
theorem dX2_greatestMean_43 : decode cX2_greatestMean 43 = .ok (.if_icmp .lt 19, 3) := by decide +kernel
theorem dX2_greatestMean_46 : decode cX2_greatestMean 46 = .ok (.lload_n 2, 1) := by decide +kernel
theorem dX2_greatestMean_47 : decode cX2_greatestMean 47 = .ok (.aload_n 0, 1) := by decide +kernel
theorem dX2_greatestMean_48 : decode cX2_greatestMean 48 = .ok (.iload 5, 2) := by decide +kernel
theorem dX2_greatestMean_50 : decode cX2_greatestMean 50 = .ok (.iload_n 1, 1) := by decide +kernel
theorem dX2_greatestMean_51 : decode cX2_greatestMean 51 = .ok (.invokevirtual 65, 3) := by decide +kernel
theorem dX2_greatestMean_54 : decode cX2_greatestMean 54 = .ok (.iload 6, 2) := by decide +kernel
theorem dX2_greatestMean_56 : decode cX2_greatestMean 56 = .ok (.i2l, 1) := by decide +kernel
theorem dX2_greatestMean_57 : decode cX2_greatestMean 57 = .ok (.ldiv, 1) := by decide +kernel
theorem dX2_greatestMean_58 : decode cX2_greatestMean 58 = .ok (.invokestatic 73, 3) := by decide +kernel
theorem dX2_greatestMean_61 : decode cX2_greatestMean 61 = .ok (.lstore_n 2, 1) := by decide +kernel
theorem dX2_greatestMean_62 : decode cX2_greatestMean 62 = .ok (.iinc 5 1, 3) := by decide +kernel
theorem dX2_greatestMean_65 : decode cX2_greatestMean 65 = .ok (.goto (-51), 3) := by decide +kernel
theorem dX2_greatestMean_68 : decode cX2_greatestMean 68 = .ok (.lload_n 2, 1) := by decide +kernel
theorem dX2_greatestMean_69 : decode cX2_greatestMean 69 = .ok (.lreturn, 1) := by decide +kernel
theorem dX2_isAboveAtMost_0 : decode cX2_isAboveAtMost 0 = .ok (.iconst 0, 1) := by decide +kernel
theorem dX2_isAboveAtMost_1 : decode cX2_isAboveAtMost 1 = .ok (.istore 7, 2) := by decide +kernel
theorem dX2_isAboveAtMost_3 : decode cX2_isAboveAtMost 3 = .ok (.iconst 0, 1) := by decide +kernel
theorem dX2_isAboveAtMost_4 : decode cX2_isAboveAtMost 4 = .ok (.istore 8, 2) := by decide +kernel
theorem dX2_isAboveAtMost_6 : decode cX2_isAboveAtMost 6 = .ok (.iload 8, 2) := by decide +kernel
theorem dX2_isAboveAtMost_8 : decode cX2_isAboveAtMost 8 = .ok (.aload_n 0, 1) := by decide +kernel
theorem dX2_isAboveAtMost_9 : decode cX2_isAboveAtMost 9 = .ok (.getfield 28, 3) := by decide +kernel
theorem dX2_isAboveAtMost_12 : decode cX2_isAboveAtMost 12 = .ok (.if_icmp .ge 93, 3) := by decide +kernel
theorem dX2_isAboveAtMost_15 : decode cX2_isAboveAtMost 15 = .ok (.iload 7, 2) := by decide +kernel
theorem dX2_isAboveAtMost_17 : decode cX2_isAboveAtMost 17 = .ok (.iload_n 1, 1) := by decide +kernel
theorem dX2_isAboveAtMost_18 : decode cX2_isAboveAtMost 18 = .ok (.if_icmp .gt 87, 3) := by decide +kernel
theorem dX2_isAboveAtMost_21 : decode cX2_isAboveAtMost 21 = .ok (.aload_n 0, 1) := by decide +kernel
theorem dX2_isAboveAtMost_22 : decode cX2_isAboveAtMost 22 = .ok (.iload 8, 2) := by decide +kernel
theorem dX2_isAboveAtMost_24 : decode cX2_isAboveAtMost 24 = .ok (.invokevirtual 55, 3) := by decide +kernel
theorem dX2_isAboveAtMost_27 : decode cX2_isAboveAtMost 27 = .ok (.istore 9, 2) := by decide +kernel
theorem dX2_isAboveAtMost_29 : decode cX2_isAboveAtMost 29 = .ok (.aload_n 0, 1) := by decide +kernel
theorem dX2_isAboveAtMost_30 : decode cX2_isAboveAtMost 30 = .ok (.getfield 20, 3) := by decide +kernel
theorem dX2_isAboveAtMost_33 : decode cX2_isAboveAtMost 33 = .ok (.iload 9, 2) := by decide +kernel
theorem dX2_isAboveAtMost_35 : decode cX2_isAboveAtMost 35 = .ok (.baload, 1) := by decide +kernel
theorem dX2_isAboveAtMost_36 : decode cX2_isAboveAtMost 36 = .ok (.ifCond .ne 63, 3) := by decide +kernel
theorem dX2_isAboveAtMost_39 : decode cX2_isAboveAtMost 39 = .ok (.aload_n 0, 1) := by decide +kernel
theorem dX2_isAboveAtMost_40 : decode cX2_isAboveAtMost 40 = .ok (.getfield 17, 3) := by decide +kernel
theorem dX2_isAboveAtMost_43 : decode cX2_isAboveAtMost 43 = .ok (.iconst 0, 1) := by decide +kernel
theorem dX2_isAboveAtMost_44 : decode cX2_isAboveAtMost 44 = .ok (.aaload, 1) := by decide +kernel
theorem dX2_isAboveAtMost_45 : decode cX2_isAboveAtMost 45 = .ok (.iload 9, 2) := by decide +kernel
theorem dX2_isAboveAtMost_47 : decode cX2_isAboveAtMost 47 = .ok (.laload, 1) := by decide +kernel
theorem dX2_isAboveAtMost_48 : decode cX2_isAboveAtMost 48 = .ok (.iload 4, 2) := by decide +kernel
theorem dX2_isAboveAtMost_50 : decode cX2_isAboveAtMost 50 = .ok (.i2l, 1) := by decide +kernel
theorem dX2_isAboveAtMost_51 : decode cX2_isAboveAtMost 51 = .ok (.lmul, 1) := by decide +kernel
theorem dX2_isAboveAtMost_52 : decode cX2_isAboveAtMost 52 = .ok (.aload_n 0, 1) := by decide +kernel
theorem dX2_isAboveAtMost_53 : decode cX2_isAboveAtMost 53 = .ok (.getfield 17, 3) := by decide +kernel
theorem dX2_isAboveAtMost_56 : decode cX2_isAboveAtMost 56 = .ok (.iconst 1, 1) := by decide +kernel
theorem dX2_isAboveAtMost_57 : decode cX2_isAboveAtMost 57 = .ok (.aaload, 1) := by decide +kernel
theorem dX2_isAboveAtMost_58 : decode cX2_isAboveAtMost 58 = .ok (.iload 9, 2) := by decide +kernel
theorem dX2_isAboveAtMost_60 : decode cX2_isAboveAtMost 60 = .ok (.laload, 1) := by decide +kernel
theorem dX2_isAboveAtMost_61 : decode cX2_isAboveAtMost 61 = .ok (.iload 5, 2) := by decide +kernel
theorem dX2_isAboveAtMost_63 : decode cX2_isAboveAtMost 63 = .ok (.i2l, 1) := by decide +kernel
theorem dX2_isAboveAtMost_64 : decode cX2_isAboveAtMost 64 = .ok (.lmul, 1) := by decide +kernel
theorem dX2_isAboveAtMost_65 : decode cX2_isAboveAtMost 65 = .ok (.ladd, 1) := by decide +kernel
theorem dX2_isAboveAtMost_66 : decode cX2_isAboveAtMost 66 = .ok (.aload_n 0, 1) := by decide +kernel
theorem dX2_isAboveAtMost_67 : decode cX2_isAboveAtMost 67 = .ok (.getfield 17, 3) := by decide +kernel
theorem dX2_isAboveAtMost_70 : decode cX2_isAboveAtMost 70 = .ok (.iconst 2, 1) := by decide +kernel
theorem dX2_isAboveAtMost_71 : decode cX2_isAboveAtMost 71 = .ok (.aaload, 1) := by decide +kernel
theorem dX2_isAboveAtMost_72 : decode cX2_isAboveAtMost 72 = .ok (.iload 9, 2) := by decide +kernel
theorem dX2_isAboveAtMost_74 : decode cX2_isAboveAtMost 74 = .ok (.laload, 1) := by decide +kernel
theorem dX2_isAboveAtMost_75 : decode cX2_isAboveAtMost 75 = .ok (.iload 6, 2) := by decide +kernel
theorem dX2_isAboveAtMost_77 : decode cX2_isAboveAtMost 77 = .ok (.i2l, 1) := by decide +kernel
theorem dX2_isAboveAtMost_78 : decode cX2_isAboveAtMost 78 = .ok (.lmul, 1) := by decide +kernel
theorem dX2_isAboveAtMost_79 : decode cX2_isAboveAtMost 79 = .ok (.ladd, 1) := by decide +kernel
theorem dX2_isAboveAtMost_80 : decode cX2_isAboveAtMost 80 = .ok (.lstore 10, 2) := by decide +kernel
theorem dX2_isAboveAtMost_82 : decode cX2_isAboveAtMost 82 = .ok (.iload 7, 2) := by decide +kernel
theorem dX2_isAboveAtMost_84 : decode cX2_isAboveAtMost 84 = .ok (.lload 10, 2) := by decide +kernel
theorem dX2_isAboveAtMost_86 : decode cX2_isAboveAtMost 86 = .ok (.lload_n 2, 1) := by decide +kernel
theorem dX2_isAboveAtMost_87 : decode cX2_isAboveAtMost 87 = .ok (.lcmp, 1) := by decide +kernel
theorem dX2_isAboveAtMost_88 : decode cX2_isAboveAtMost 88 = .ok (.ifCond .le 7, 3) := by decide +kernel
theorem dX2_isAboveAtMost_91 : decode cX2_isAboveAtMost 91 = .ok (.iconst 1, 1) := by decide +kernel
theorem dX2_isAboveAtMost_92 : decode cX2_isAboveAtMost 92 = .ok (.goto 4, 3) := by decide +kernel
theorem dX2_isAboveAtMost_95 : decode cX2_isAboveAtMost 95 = .ok (.iconst 0, 1) := by decide +kernel
theorem dX2_isAboveAtMost_96 : decode cX2_isAboveAtMost 96 = .ok (.iadd, 1) := by decide +kernel
theorem dX2_isAboveAtMost_97 : decode cX2_isAboveAtMost 97 = .ok (.istore 7, 2) := by decide +kernel
theorem dX2_isAboveAtMost_99 : decode cX2_isAboveAtMost 99 = .ok (.iinc 8 1, 3) := by decide +kernel
theorem dX2_isAboveAtMost_102 : decode cX2_isAboveAtMost 102 = .ok (.goto (-96), 3) := by decide +kernel
theorem dX2_isAboveAtMost_105 : decode cX2_isAboveAtMost 105 = .ok (.iload 7, 2) := by decide +kernel
theorem dX2_isAboveAtMost_107 : decode cX2_isAboveAtMost 107 = .ok (.iload_n 1, 1) := by decide +kernel
theorem dX2_isAboveAtMost_108 : decode cX2_isAboveAtMost 108 = .ok (.if_icmp .gt 7, 3) := by decide +kernel
theorem dX2_isAboveAtMost_111 : decode cX2_isAboveAtMost 111 = .ok (.iconst 1, 1) := by decide +kernel
theorem dX2_isAboveAtMost_112 : decode cX2_isAboveAtMost 112 = .ok (.goto 4, 3) := by decide +kernel
theorem dX2_isAboveAtMost_115 : decode cX2_isAboveAtMost 115 = .ok (.iconst 0, 1) := by decide +kernel
theorem dX2_isAboveAtMost_116 : decode cX2_isAboveAtMost 116 = .ok (.ireturn, 1) := by decide +kernel
theorem dX3_init_0 : decode cX3_init 0 = .ok (.aload_n 0, 1) := by decide +kernel
theorem dX3_init_1 : decode cX3_init 1 = .ok (.invokespecial 3, 3) := by decide +kernel
theorem dX3_init_4 : decode cX3_init 4 = .ok (.aload_n 0, 1) := by decide +kernel
theorem dX3_init_5 : decode cX3_init 5 = .ok (.bipush 24, 2) := by decide +kernel
theorem dX3_init_7 : decode cX3_init 7 = .ok (.newarray .int, 2) := by decide +kernel
theorem dX3_init_9 : decode cX3_init 9 = .ok (.putfield 9, 3) := by decide +kernel
theorem dX3_init_12 : decode cX3_init 12 = .ok (.aload_n 0, 1) := by decide +kernel
theorem dX3_init_13 : decode cX3_init 13 = .ok (.iconst 0, 1) := by decide +kernel
theorem dX3_init_14 : decode cX3_init 14 = .ok (.putfield 15, 3) := by decide +kernel
theorem dX3_init_17 : decode cX3_init 17 = .ok (.aload_n 0, 1) := by decide +kernel
theorem dX3_init_18 : decode cX3_init 18 = .ok (.iconst 0, 1) := by decide +kernel
theorem dX3_init_19 : decode cX3_init 19 = .ok (.putfield 19, 3) := by decide +kernel
theorem dX3_init_22 : decode cX3_init 22 = .ok (.aload_n 0, 1) := by decide +kernel
theorem dX3_init_23 : decode cX3_init 23 = .ok (.iconst 0, 1) := by decide +kernel
theorem dX3_init_24 : decode cX3_init 24 = .ok (.putfield 23, 3) := by decide +kernel
theorem dX3_init_27 : decode cX3_init 27 = .ok (.return_, 1) := by decide +kernel
theorem dX3_begin_0 : decode cX3_begin 0 = .ok (.aload_n 0, 1) := by decide +kernel
theorem dX3_begin_1 : decode cX3_begin 1 = .ok (.getfield 9, 3) := by decide +kernel
theorem dX3_begin_4 : decode cX3_begin 4 = .ok (.iconst 0, 1) := by decide +kernel
theorem dX3_begin_5 : decode cX3_begin 5 = .ok (.invokestatic 26, 3) := by decide +kernel
theorem dX3_begin_8 : decode cX3_begin 8 = .ok (.aload_n 0, 1) := by decide +kernel
theorem dX3_begin_9 : decode cX3_begin 9 = .ok (.iconst 1, 1) := by decide +kernel
theorem dX3_begin_10 : decode cX3_begin 10 = .ok (.putfield 15, 3) := by decide +kernel
theorem dX3_begin_13 : decode cX3_begin 13 = .ok (.aload_n 0, 1) := by decide +kernel
theorem dX3_begin_14 : decode cX3_begin 14 = .ok (.iload_n 1, 1) := by decide +kernel
theorem dX3_begin_15 : decode cX3_begin 15 = .ok (.putfield 19, 3) := by decide +kernel
theorem dX3_begin_18 : decode cX3_begin 18 = .ok (.aload_n 0, 1) := by decide +kernel
theorem dX3_begin_19 : decode cX3_begin 19 = .ok (.iload_n 2, 1) := by decide +kernel
theorem dX3_begin_20 : decode cX3_begin 20 = .ok (.putfield 23, 3) := by decide +kernel
theorem dX3_begin_23 : decode cX3_begin 23 = .ok (.return_, 1) := by decide +kernel
theorem dX3_isOf_0 : decode cX3_isOf 0 = .ok (.aload_n 0, 1) := by decide +kernel
theorem dX3_isOf_1 : decode cX3_isOf 1 = .ok (.getfield 15, 3) := by decide +kernel
theorem dX3_isOf_4 : decode cX3_isOf 4 = .ok (.ifCond .eq 15, 3) := by decide +kernel
theorem dX3_isOf_7 : decode cX3_isOf 7 = .ok (.aload_n 0, 1) := by decide +kernel
theorem dX3_isOf_8 : decode cX3_isOf 8 = .ok (.getfield 19, 3) := by decide +kernel
theorem dX3_isOf_11 : decode cX3_isOf 11 = .ok (.iload_n 1, 1) := by decide +kernel
theorem dX3_isOf_12 : decode cX3_isOf 12 = .ok (.if_icmp .ne 7, 3) := by decide +kernel
theorem dX3_isOf_15 : decode cX3_isOf 15 = .ok (.iconst 1, 1) := by decide +kernel
theorem dX3_isOf_16 : decode cX3_isOf 16 = .ok (.goto 4, 3) := by decide +kernel
theorem dX3_isOf_19 : decode cX3_isOf 19 = .ok (.iconst 0, 1) := by decide +kernel
theorem dX3_isOf_20 : decode cX3_isOf 20 = .ok (.ireturn, 1) := by decide +kernel
theorem dX3_areRates_0 : decode cX3_areRates 0 = .ok (.iconst 0, 1) := by decide +kernel
theorem dX3_areRates_1 : decode cX3_areRates 1 = .ok (.istore_n 1, 1) := by decide +kernel
theorem dX3_areRates_2 : decode cX3_areRates 2 = .ok (.iload_n 1, 1) := by decide +kernel
theorem dX3_areRates_3 : decode cX3_areRates 3 = .ok (.aload_n 0, 1) := by decide +kernel
theorem dX3_areRates_4 : decode cX3_areRates 4 = .ok (.getfield 23, 3) := by decide +kernel
theorem dX3_areRates_7 : decode cX3_areRates 7 = .ok (.if_icmp .ge 31, 3) := by decide +kernel
theorem dX3_areRates_10 : decode cX3_areRates 10 = .ok (.aload_n 0, 1) := by decide +kernel
theorem dX3_areRates_11 : decode cX3_areRates 11 = .ok (.getfield 9, 3) := by decide +kernel
theorem dX3_areRates_14 : decode cX3_areRates 14 = .ok (.iload_n 1, 1) := by decide +kernel
theorem dX3_areRates_15 : decode cX3_areRates 15 = .ok (.iaload, 1) := by decide +kernel
theorem dX3_areRates_16 : decode cX3_areRates 16 = .ok (.ifCond .lt 14, 3) := by decide +kernel
theorem dX3_areRates_19 : decode cX3_areRates 19 = .ok (.aload_n 0, 1) := by decide +kernel
theorem dX3_areRates_20 : decode cX3_areRates 20 = .ok (.getfield 9, 3) := by decide +kernel
theorem dX3_areRates_23 : decode cX3_areRates 23 = .ok (.iload_n 1, 1) := by decide +kernel
theorem dX3_areRates_24 : decode cX3_areRates 24 = .ok (.iaload, 1) := by decide +kernel
theorem dX3_areRates_25 : decode cX3_areRates 25 = .ok (.ldc 32, 2) := by decide +kernel
theorem dX3_areRates_27 : decode cX3_areRates 27 = .ok (.if_icmp .le 5, 3) := by decide +kernel
theorem dX3_areRates_30 : decode cX3_areRates 30 = .ok (.iconst 0, 1) := by decide +kernel
theorem dX3_areRates_31 : decode cX3_areRates 31 = .ok (.ireturn, 1) := by decide +kernel
theorem dX3_areRates_32 : decode cX3_areRates 32 = .ok (.iinc 1 1, 3) := by decide +kernel
theorem dX3_areRates_35 : decode cX3_areRates 35 = .ok (.goto (-33), 3) := by decide +kernel
theorem dX3_areRates_38 : decode cX3_areRates 38 = .ok (.iconst 1, 1) := by decide +kernel
theorem dX3_areRates_39 : decode cX3_areRates 39 = .ok (.ireturn, 1) := by decide +kernel
theorem dX4_init_0 : decode cX4_init 0 = .ok (.aload_n 0, 1) := by decide +kernel
theorem dX4_init_1 : decode cX4_init 1 = .ok (.invokespecial 3, 3) := by decide +kernel
theorem dX4_init_4 : decode cX4_init 4 = .ok (.aload_n 0, 1) := by decide +kernel
theorem dX4_init_5 : decode cX4_init 5 = .ok (.bipush 24, 2) := by decide +kernel
theorem dX4_init_7 : decode cX4_init 7 = .ok (.newarray .int, 2) := by decide +kernel
theorem dX4_init_9 : decode cX4_init 9 = .ok (.putfield 9, 3) := by decide +kernel
theorem dX4_init_12 : decode cX4_init 12 = .ok (.aload_n 0, 1) := by decide +kernel
theorem dX4_init_13 : decode cX4_init 13 = .ok (.bipush 10, 2) := by decide +kernel
theorem dX4_init_15 : decode cX4_init 15 = .ok (.newarray .long, 2) := by decide +kernel
theorem dX4_init_17 : decode cX4_init 17 = .ok (.putfield 15, 3) := by decide +kernel
theorem dX4_init_20 : decode cX4_init 20 = .ok (.aload_n 0, 1) := by decide +kernel
theorem dX4_init_21 : decode cX4_init 21 = .ok (.bipush 10, 2) := by decide +kernel
theorem dX4_init_23 : decode cX4_init 23 = .ok (.newarray .long, 2) := by decide +kernel
theorem dX4_init_25 : decode cX4_init 25 = .ok (.putfield 19, 3) := by decide +kernel
theorem dX4_init_28 : decode cX4_init 28 = .ok (.aload_n 0, 1) := by decide +kernel
theorem dX4_init_29 : decode cX4_init 29 = .ok (.iconst 0, 1) := by decide +kernel
theorem dX4_init_30 : decode cX4_init 30 = .ok (.putfield 22, 3) := by decide +kernel
theorem dX4_init_33 : decode cX4_init 33 = .ok (.aload_n 0, 1) := by decide +kernel
theorem dX4_init_34 : decode cX4_init 34 = .ok (.lconst 0, 1) := by decide +kernel
theorem dX4_init_35 : decode cX4_init 35 = .ok (.putfield 26, 3) := by decide +kernel
theorem dX4_init_38 : decode cX4_init 38 = .ok (.aload_n 0, 1) := by decide +kernel
theorem dX4_init_39 : decode cX4_init 39 = .ok (.lconst 0, 1) := by decide +kernel
theorem dX4_init_40 : decode cX4_init 40 = .ok (.putfield 30, 3) := by decide +kernel
theorem dX4_init_43 : decode cX4_init 43 = .ok (.aload_n 0, 1) := by decide +kernel
theorem dX4_init_44 : decode cX4_init 44 = .ok (.lconst 0, 1) := by decide +kernel
theorem dX4_init_45 : decode cX4_init 45 = .ok (.putfield 33, 3) := by decide +kernel
theorem dX4_init_48 : decode cX4_init 48 = .ok (.return_, 1) := by decide +kernel
theorem dX4_stand_0 : decode cX4_stand 0 = .ok (.aload_n 0, 1) := by decide +kernel
theorem dX4_stand_1 : decode cX4_stand 1 = .ok (.iload_n 1, 1) := by decide +kernel
theorem dX4_stand_2 : decode cX4_stand 2 = .ok (.putfield 22, 3) := by decide +kernel
theorem dX4_stand_5 : decode cX4_stand 5 = .ok (.iconst 0, 1) := by decide +kernel
theorem dX4_stand_6 : decode cX4_stand 6 = .ok (.istore_n 3, 1) := by decide +kernel
theorem dX4_stand_7 : decode cX4_stand 7 = .ok (.iconst 0, 1) := by decide +kernel
theorem dX4_stand_8 : decode cX4_stand 8 = .ok (.istore 4, 2) := by decide +kernel
theorem dX4_stand_10 : decode cX4_stand 10 = .ok (.iload 4, 2) := by decide +kernel
theorem dX4_stand_12 : decode cX4_stand 12 = .ok (.bipush 24, 2) := by decide +kernel
theorem dX4_stand_14 : decode cX4_stand 14 = .ok (.if_icmp .ge 30, 3) := by decide +kernel
theorem dX4_stand_17 : decode cX4_stand 17 = .ok (.aload_n 0, 1) := by decide +kernel
theorem dX4_stand_18 : decode cX4_stand 18 = .ok (.getfield 9, 3) := by decide +kernel
theorem dX4_stand_21 : decode cX4_stand 21 = .ok (.iload 4, 2) := by decide +kernel
theorem dX4_stand_23 : decode cX4_stand 23 = .ok (.aload_n 2, 1) := by decide +kernel
theorem dX4_stand_24 : decode cX4_stand 24 = .ok (.iload 4, 2) := by decide +kernel
theorem dX4_stand_26 : decode cX4_stand 26 = .ok (.iaload, 1) := by decide +kernel
theorem dX4_stand_27 : decode cX4_stand 27 = .ok (.iastore, 1) := by decide +kernel
theorem dX4_stand_28 : decode cX4_stand 28 = .ok (.iload_n 3, 1) := by decide +kernel
theorem dX4_stand_29 : decode cX4_stand 29 = .ok (.aload_n 0, 1) := by decide +kernel
theorem dX4_stand_30 : decode cX4_stand 30 = .ok (.getfield 9, 3) := by decide +kernel
theorem dX4_stand_33 : decode cX4_stand 33 = .ok (.iload 4, 2) := by decide +kernel
theorem dX4_stand_35 : decode cX4_stand 35 = .ok (.iaload, 1) := by decide +kernel
theorem dX4_stand_36 : decode cX4_stand 36 = .ok (.iadd, 1) := by decide +kernel
theorem dX4_stand_37 : decode cX4_stand 37 = .ok (.istore_n 3, 1) := by decide +kernel
theorem dX4_stand_38 : decode cX4_stand 38 = .ok (.iinc 4 1, 3) := by decide +kernel
theorem dX4_stand_41 : decode cX4_stand 41 = .ok (.goto (-31), 3) := by decide +kernel
theorem dX4_stand_44 : decode cX4_stand 44 = .ok (.iload_n 3, 1) := by decide +kernel
theorem dX4_stand_45 : decode cX4_stand 45 = .ok (.ireturn, 1) := by decide +kernel
theorem dX4_giveOff_0 : decode cX4_giveOff 0 = .ok (.aload_n 0, 1) := by decide +kernel
theorem dX4_giveOff_1 : decode cX4_giveOff 1 = .ok (.getfield 15, 3) := by decide +kernel
theorem dX4_giveOff_4 : decode cX4_giveOff 4 = .ok (.aload_n 0, 1) := by decide +kernel
theorem dX4_giveOff_5 : decode cX4_giveOff 5 = .ok (.getfield 22, 3) := by decide +kernel
theorem dX4_giveOff_8 : decode cX4_giveOff 8 = .ok (.dup2, 1) := by decide +kernel
theorem dX4_giveOff_9 : decode cX4_giveOff 9 = .ok (.laload, 1) := by decide +kernel
theorem dX4_giveOff_10 : decode cX4_giveOff 10 = .ok (.aload_n 0, 1) := by decide +kernel
theorem dX4_giveOff_11 : decode cX4_giveOff 11 = .ok (.getfield 9, 3) := by decide +kernel
theorem dX4_giveOff_14 : decode cX4_giveOff 14 = .ok (.iload_n 1, 1) := by decide +kernel
theorem dX4_giveOff_15 : decode cX4_giveOff 15 = .ok (.iaload, 1) := by decide +kernel
theorem dX4_giveOff_16 : decode cX4_giveOff 16 = .ok (.i2l, 1) := by decide +kernel
theorem dX4_giveOff_17 : decode cX4_giveOff 17 = .ok (.ladd, 1) := by decide +kernel
theorem dX4_giveOff_18 : decode cX4_giveOff 18 = .ok (.lastore, 1) := by decide +kernel
theorem dX4_giveOff_19 : decode cX4_giveOff 19 = .ok (.aload_n 0, 1) := by decide +kernel
theorem dX4_giveOff_20 : decode cX4_giveOff 20 = .ok (.dup, 1) := by decide +kernel
theorem dX4_giveOff_21 : decode cX4_giveOff 21 = .ok (.getfield 26, 3) := by decide +kernel
theorem dX4_giveOff_24 : decode cX4_giveOff 24 = .ok (.aload_n 0, 1) := by decide +kernel
theorem dX4_giveOff_25 : decode cX4_giveOff 25 = .ok (.getfield 9, 3) := by decide +kernel
theorem dX4_giveOff_28 : decode cX4_giveOff 28 = .ok (.iload_n 1, 1) := by decide +kernel
theorem dX4_giveOff_29 : decode cX4_giveOff 29 = .ok (.iaload, 1) := by decide +kernel
theorem dX4_giveOff_30 : decode cX4_giveOff 30 = .ok (.i2l, 1) := by decide +kernel
theorem dX4_giveOff_31 : decode cX4_giveOff 31 = .ok (.ladd, 1) := by decide +kernel
theorem dX4_giveOff_32 : decode cX4_giveOff 32 = .ok (.putfield 26, 3) := by decide +kernel
theorem dX4_giveOff_35 : decode cX4_giveOff 35 = .ok (.return_, 1) := by decide +kernel
theorem dX4_fallOut_0 : decode cX4_fallOut 0 = .ok (.iconst 0, 1) := by decide +kernel
theorem dX4_fallOut_1 : decode cX4_fallOut 1 = .ok (.istore_n 2, 1) := by decide +kernel
theorem dX4_fallOut_2 : decode cX4_fallOut 2 = .ok (.iload_n 2, 1) := by decide +kernel
theorem dX4_fallOut_3 : decode cX4_fallOut 3 = .ok (.bipush 9, 2) := by decide +kernel
theorem dX4_fallOut_5 : decode cX4_fallOut 5 = .ok (.if_icmp .ge 71, 3) := by decide +kernel
theorem dX4_fallOut_8 : decode cX4_fallOut 8 = .ok (.aload_n 0, 1) := by decide +kernel
theorem dX4_fallOut_9 : decode cX4_fallOut 9 = .ok (.getfield 15, 3) := by decide +kernel
theorem dX4_fallOut_12 : decode cX4_fallOut 12 = .ok (.iload_n 2, 1) := by decide +kernel
theorem dX4_fallOut_13 : decode cX4_fallOut 13 = .ok (.laload, 1) := by decide +kernel
theorem dX4_fallOut_14 : decode cX4_fallOut 14 = .ok (.iload_n 1, 1) := by decide +kernel
theorem dX4_fallOut_15 : decode cX4_fallOut 15 = .ok (.i2l, 1) := by decide +kernel
theorem dX4_fallOut_16 : decode cX4_fallOut 16 = .ok (.lmul, 1) := by decide +kernel
theorem dX4_fallOut_17 : decode cX4_fallOut 17 = .ok (.ldc2_w 36, 3) := by decide +kernel
theorem dX4_fallOut_20 : decode cX4_fallOut 20 = .ok (.ldiv, 1) := by decide +kernel
theorem dX4_fallOut_21 : decode cX4_fallOut 21 = .ok (.lstore_n 3, 1) := by decide +kernel
theorem dX4_fallOut_22 : decode cX4_fallOut 22 = .ok (.aload_n 0, 1) := by decide +kernel
theorem dX4_fallOut_23 : decode cX4_fallOut 23 = .ok (.getfield 15, 3) := by decide +kernel
theorem dX4_fallOut_26 : decode cX4_fallOut 26 = .ok (.iload_n 2, 1) := by decide +kernel
theorem dX4_fallOut_27 : decode cX4_fallOut 27 = .ok (.laload, 1) := by decide +kernel
theorem dX4_fallOut_28 : decode cX4_fallOut 28 = .ok (.lload_n 3, 1) := by decide +kernel
theorem dX4_fallOut_29 : decode cX4_fallOut 29 = .ok (.lsub, 1) := by decide +kernel
theorem dX4_fallOut_30 : decode cX4_fallOut 30 = .ok (.ldc2_w 36, 3) := by decide +kernel
theorem dX4_fallOut_33 : decode cX4_fallOut 33 = .ok (.ldiv, 1) := by decide +kernel
theorem dX4_fallOut_34 : decode cX4_fallOut 34 = .ok (.lstore 5, 2) := by decide +kernel
theorem dX4_fallOut_36 : decode cX4_fallOut 36 = .ok (.aload_n 0, 1) := by decide +kernel
theorem dX4_fallOut_37 : decode cX4_fallOut 37 = .ok (.getfield 15, 3) := by decide +kernel
theorem dX4_fallOut_40 : decode cX4_fallOut 40 = .ok (.iload_n 2, 1) := by decide +kernel
theorem dX4_fallOut_41 : decode cX4_fallOut 41 = .ok (.dup2, 1) := by decide +kernel
theorem dX4_fallOut_42 : decode cX4_fallOut 42 = .ok (.laload, 1) := by decide +kernel
theorem dX4_fallOut_43 : decode cX4_fallOut 43 = .ok (.lload_n 3, 1) := by decide +kernel
theorem dX4_fallOut_44 : decode cX4_fallOut 44 = .ok (.lload 5, 2) := by decide +kernel
theorem dX4_fallOut_46 : decode cX4_fallOut 46 = .ok (.ladd, 1) := by decide +kernel
theorem dX4_fallOut_47 : decode cX4_fallOut 47 = .ok (.lsub, 1) := by decide +kernel
theorem dX4_fallOut_48 : decode cX4_fallOut 48 = .ok (.lastore, 1) := by decide +kernel
theorem dX4_fallOut_49 : decode cX4_fallOut 49 = .ok (.aload_n 0, 1) := by decide +kernel
theorem dX4_fallOut_50 : decode cX4_fallOut 50 = .ok (.dup, 1) := by decide +kernel
theorem dX4_fallOut_51 : decode cX4_fallOut 51 = .ok (.getfield 30, 3) := by decide +kernel
theorem dX4_fallOut_54 : decode cX4_fallOut 54 = .ok (.lload_n 3, 1) := by decide +kernel
theorem dX4_fallOut_55 : decode cX4_fallOut 55 = .ok (.ladd, 1) := by decide +kernel
theorem dX4_fallOut_56 : decode cX4_fallOut 56 = .ok (.putfield 30, 3) := by decide +kernel
theorem dX4_fallOut_59 : decode cX4_fallOut 59 = .ok (.aload_n 0, 1) := by decide +kernel
theorem dX4_fallOut_60 : decode cX4_fallOut 60 = .ok (.dup, 1) := by decide +kernel
theorem dX4_fallOut_61 : decode cX4_fallOut 61 = .ok (.getfield 33, 3) := by decide +kernel
theorem dX4_fallOut_64 : decode cX4_fallOut 64 = .ok (.lload 5, 2) := by decide +kernel
theorem dX4_fallOut_66 : decode cX4_fallOut 66 = .ok (.ladd, 1) := by decide +kernel
theorem dX4_fallOut_67 : decode cX4_fallOut 67 = .ok (.putfield 33, 3) := by decide +kernel
theorem dX4_fallOut_70 : decode cX4_fallOut 70 = .ok (.iinc 2 1, 3) := by decide +kernel
theorem dX4_fallOut_73 : decode cX4_fallOut 73 = .ok (.goto (-71), 3) := by decide +kernel
theorem dX4_fallOut_76 : decode cX4_fallOut 76 = .ok (.return_, 1) := by decide +kernel
theorem dX4_blow_0 : decode cX4_blow 0 = .ok (.aload_n 0, 1) := by decide +kernel
theorem dX4_blow_1 : decode cX4_blow 1 = .ok (.getfield 15, 3) := by decide +kernel
theorem dX4_blow_4 : decode cX4_blow 4 = .ok (.iconst 0, 1) := by decide +kernel
theorem dX4_blow_5 : decode cX4_blow 5 = .ok (.aload_n 0, 1) := by decide +kernel
theorem dX4_blow_6 : decode cX4_blow 6 = .ok (.getfield 19, 3) := by decide +kernel
theorem dX4_blow_9 : decode cX4_blow 9 = .ok (.iconst 0, 1) := by decide +kernel
theorem dX4_blow_10 : decode cX4_blow 10 = .ok (.bipush 9, 2) := by decide +kernel
theorem dX4_blow_12 : decode cX4_blow 12 = .ok (.invokestatic 38, 3) := by decide +kernel
theorem dX4_blow_15 : decode cX4_blow 15 = .ok (.iconst 0, 1) := by decide +kernel
theorem dX4_blow_16 : decode cX4_blow 16 = .ok (.istore_n 2, 1) := by decide +kernel
theorem dX4_blow_17 : decode cX4_blow 17 = .ok (.iload_n 2, 1) := by decide +kernel
theorem dX4_blow_18 : decode cX4_blow 18 = .ok (.bipush 24, 2) := by decide +kernel
theorem dX4_blow_20 : decode cX4_blow 20 = .ok (.if_icmp .ge 112, 3) := by decide +kernel
theorem dX4_blow_23 : decode cX4_blow 23 = .ok (.aload_n 1, 1) := by decide +kernel
theorem dX4_blow_24 : decode cX4_blow 24 = .ok (.iload_n 2, 1) := by decide +kernel
theorem dX4_blow_25 : decode cX4_blow 25 = .ok (.laload, 1) := by decide +kernel
theorem dX4_blow_26 : decode cX4_blow 26 = .ok (.lconst 0, 1) := by decide +kernel
theorem dX4_blow_27 : decode cX4_blow 27 = .ok (.lcmp, 1) := by decide +kernel
theorem dX4_blow_28 : decode cX4_blow 28 = .ok (.ifCond .le 7, 3) := by decide +kernel
theorem dX4_blow_31 : decode cX4_blow 31 = .ok (.iconst 1, 1) := by decide +kernel
theorem dX4_blow_32 : decode cX4_blow 32 = .ok (.goto 4, 3) := by decide +kernel
theorem dX4_blow_35 : decode cX4_blow 35 = .ok (.iconst 0, 1) := by decide +kernel
theorem dX4_blow_36 : decode cX4_blow 36 = .ok (.istore_n 3, 1) := by decide +kernel
theorem dX4_blow_37 : decode cX4_blow 37 = .ok (.iload_n 3, 1) := by decide +kernel
theorem dX4_blow_38 : decode cX4_blow 38 = .ok (.ifCond .eq 11, 3) := by decide +kernel
theorem dX4_blow_41 : decode cX4_blow 41 = .ok (.getstatic 44, 3) := by decide +kernel
theorem dX4_blow_44 : decode cX4_blow 44 = .ok (.iload_n 2, 1) := by decide +kernel
theorem dX4_blow_45 : decode cX4_blow 45 = .ok (.iaload, 1) := by decide +kernel
theorem dX4_blow_46 : decode cX4_blow 46 = .ok (.goto 8, 3) := by decide +kernel
theorem dX4_blow_49 : decode cX4_blow 49 = .ok (.getstatic 47, 3) := by decide +kernel
theorem dX4_blow_52 : decode cX4_blow 52 = .ok (.iload_n 2, 1) := by decide +kernel
theorem dX4_blow_53 : decode cX4_blow 53 = .ok (.iaload, 1) := by decide +kernel
theorem dX4_blow_54 : decode cX4_blow 54 = .ok (.istore 4, 2) := by decide +kernel
theorem dX4_blow_56 : decode cX4_blow 56 = .ok (.iload_n 3, 1) := by decide +kernel
theorem dX4_blow_57 : decode cX4_blow 57 = .ok (.ifCond .eq 11, 3) := by decide +kernel
theorem dX4_blow_60 : decode cX4_blow 60 = .ok (.getstatic 47, 3) := by decide +kernel
theorem dX4_blow_63 : decode cX4_blow 63 = .ok (.iload_n 2, 1) := by decide +kernel
theorem dX4_blow_64 : decode cX4_blow 64 = .ok (.iaload, 1) := by decide +kernel
theorem dX4_blow_65 : decode cX4_blow 65 = .ok (.goto 8, 3) := by decide +kernel
theorem dX4_blow_68 : decode cX4_blow 68 = .ok (.getstatic 44, 3) := by decide +kernel
theorem dX4_blow_71 : decode cX4_blow 71 = .ok (.iload_n 2, 1) := by decide +kernel
theorem dX4_blow_72 : decode cX4_blow 72 = .ok (.iaload, 1) := by decide +kernel
theorem dX4_blow_73 : decode cX4_blow 73 = .ok (.istore 5, 2) := by decide +kernel
theorem dX4_blow_75 : decode cX4_blow 75 = .ok (.iload 4, 2) := by decide +kernel
theorem dX4_blow_77 : decode cX4_blow 77 = .ok (.bipush 9, 2) := by decide +kernel
theorem dX4_blow_79 : decode cX4_blow 79 = .ok (.if_icmp .eq 47, 3) := by decide +kernel
theorem dX4_blow_82 : decode cX4_blow 82 = .ok (.aload_n 0, 1) := by decide +kernel
theorem dX4_blow_83 : decode cX4_blow 83 = .ok (.getfield 19, 3) := by decide +kernel
theorem dX4_blow_86 : decode cX4_blow 86 = .ok (.iload 4, 2) := by decide +kernel
theorem dX4_blow_88 : decode cX4_blow 88 = .ok (.laload, 1) := by decide +kernel
theorem dX4_blow_89 : decode cX4_blow 89 = .ok (.aload_n 1, 1) := by decide +kernel
theorem dX4_blow_90 : decode cX4_blow 90 = .ok (.iload_n 2, 1) := by decide +kernel
theorem dX4_blow_91 : decode cX4_blow 91 = .ok (.laload, 1) := by decide +kernel
theorem dX4_blow_92 : decode cX4_blow 92 = .ok (.invokestatic 50, 3) := by decide +kernel
theorem dX4_blow_95 : decode cX4_blow 95 = .ok (.lmul, 1) := by decide +kernel
theorem dX4_blow_96 : decode cX4_blow 96 = .ok (.ldc2_w 56, 3) := by decide +kernel
theorem dX4_blow_99 : decode cX4_blow 99 = .ok (.ldiv, 1) := by decide +kernel
theorem dX4_blow_100 : decode cX4_blow 100 = .ok (.lstore 6, 2) := by decide +kernel
theorem dX4_blow_102 : decode cX4_blow 102 = .ok (.aload_n 0, 1) := by decide +kernel
theorem dX4_blow_103 : decode cX4_blow 103 = .ok (.getfield 15, 3) := by decide +kernel
theorem dX4_blow_106 : decode cX4_blow 106 = .ok (.iload 4, 2) := by decide +kernel
theorem dX4_blow_108 : decode cX4_blow 108 = .ok (.dup2, 1) := by decide +kernel
theorem dX4_blow_109 : decode cX4_blow 109 = .ok (.laload, 1) := by decide +kernel
theorem dX4_blow_110 : decode cX4_blow 110 = .ok (.lload 6, 2) := by decide +kernel
theorem dX4_blow_112 : decode cX4_blow 112 = .ok (.lsub, 1) := by decide +kernel
theorem dX4_blow_113 : decode cX4_blow 113 = .ok (.lastore, 1) := by decide +kernel
theorem dX4_blow_114 : decode cX4_blow 114 = .ok (.aload_n 0, 1) := by decide +kernel
theorem dX4_blow_115 : decode cX4_blow 115 = .ok (.getfield 15, 3) := by decide +kernel
theorem dX4_blow_118 : decode cX4_blow 118 = .ok (.iload 5, 2) := by decide +kernel
theorem dX4_blow_120 : decode cX4_blow 120 = .ok (.dup2, 1) := by decide +kernel
theorem dX4_blow_121 : decode cX4_blow 121 = .ok (.laload, 1) := by decide +kernel
theorem dX4_blow_122 : decode cX4_blow 122 = .ok (.lload 6, 2) := by decide +kernel
theorem dX4_blow_124 : decode cX4_blow 124 = .ok (.ladd, 1) := by decide +kernel
theorem dX4_blow_125 : decode cX4_blow 125 = .ok (.lastore, 1) := by decide +kernel
theorem dX4_blow_126 : decode cX4_blow 126 = .ok (.iinc 2 1, 3) := by decide +kernel
theorem dX4_blow_129 : decode cX4_blow 129 = .ok (.goto (-112), 3) := by decide +kernel
theorem dX4_blow_132 : decode cX4_blow 132 = .ok (.return_, 1) := by decide +kernel
theorem dX4_inBoxes_0 : decode cX4_inBoxes 0 = .ok (.lconst 0, 1) := by decide +kernel
theorem dX4_inBoxes_1 : decode cX4_inBoxes 1 = .ok (.lstore_n 1, 1) := by decide +kernel
theorem dX4_inBoxes_2 : decode cX4_inBoxes 2 = .ok (.iconst 0, 1) := by decide +kernel
theorem dX4_inBoxes_3 : decode cX4_inBoxes 3 = .ok (.istore_n 3, 1) := by decide +kernel
theorem dX4_inBoxes_4 : decode cX4_inBoxes 4 = .ok (.iload_n 3, 1) := by decide +kernel
theorem dX4_inBoxes_5 : decode cX4_inBoxes 5 = .ok (.bipush 9, 2) := by decide +kernel
theorem dX4_inBoxes_7 : decode cX4_inBoxes 7 = .ok (.if_icmp .ge 18, 3) := by decide +kernel
theorem dX4_inBoxes_10 : decode cX4_inBoxes 10 = .ok (.lload_n 1, 1) := by decide +kernel
theorem dX4_inBoxes_11 : decode cX4_inBoxes 11 = .ok (.aload_n 0, 1) := by decide +kernel
theorem dX4_inBoxes_12 : decode cX4_inBoxes 12 = .ok (.getfield 15, 3) := by decide +kernel
theorem dX4_inBoxes_15 : decode cX4_inBoxes 15 = .ok (.iload_n 3, 1) := by decide +kernel
theorem dX4_inBoxes_16 : decode cX4_inBoxes 16 = .ok (.laload, 1) := by decide +kernel
theorem dX4_inBoxes_17 : decode cX4_inBoxes 17 = .ok (.ladd, 1) := by decide +kernel
theorem dX4_inBoxes_18 : decode cX4_inBoxes 18 = .ok (.lstore_n 1, 1) := by decide +kernel
theorem dX4_inBoxes_19 : decode cX4_inBoxes 19 = .ok (.iinc 3 1, 3) := by decide +kernel
theorem dX4_inBoxes_22 : decode cX4_inBoxes 22 = .ok (.goto (-18), 3) := by decide +kernel
theorem dX4_inBoxes_25 : decode cX4_inBoxes 25 = .ok (.lload_n 1, 1) := by decide +kernel
theorem dX4_inBoxes_26 : decode cX4_inBoxes 26 = .ok (.lreturn, 1) := by decide +kernel
theorem dJ9_floorMod_7cf53_0 : decode cJ9_floorMod_7cf53 0 = .ok (.iload_n 0, 1) := by decide +kernel
theorem dJ9_floorMod_7cf53_1 : decode cJ9_floorMod_7cf53 1 = .ok (.iload_n 1, 1) := by decide +kernel
theorem dJ9_floorMod_7cf53_2 : decode cJ9_floorMod_7cf53 2 = .ok (.irem, 1) := by decide +kernel
theorem dJ9_floorMod_7cf53_3 : decode cJ9_floorMod_7cf53 3 = .ok (.istore_n 2, 1) := by decide +kernel
theorem dJ9_floorMod_7cf53_4 : decode cJ9_floorMod_7cf53 4 = .ok (.iload_n 0, 1) := by decide +kernel
theorem dJ9_floorMod_7cf53_5 : decode cJ9_floorMod_7cf53 5 = .ok (.iload_n 1, 1) := by decide +kernel
theorem dJ9_floorMod_7cf53_6 : decode cJ9_floorMod_7cf53 6 = .ok (.ixor, 1) := by decide +kernel
theorem dJ9_floorMod_7cf53_7 : decode cJ9_floorMod_7cf53 7 = .ok (.ifCond .ge 11, 3) := by decide +kernel
theorem dJ9_floorMod_7cf53_10 : decode cJ9_floorMod_7cf53 10 = .ok (.iload_n 2, 1) := by decide +kernel
theorem dJ9_floorMod_7cf53_11 : decode cJ9_floorMod_7cf53 11 = .ok (.ifCond .eq 7, 3) := by decide +kernel
theorem dJ9_floorMod_7cf53_14 : decode cJ9_floorMod_7cf53 14 = .ok (.iload_n 2, 1) := by decide +kernel
theorem dJ9_floorMod_7cf53_15 : decode cJ9_floorMod_7cf53 15 = .ok (.iload_n 1, 1) := by decide +kernel
theorem dJ9_floorMod_7cf53_16 : decode cJ9_floorMod_7cf53 16 = .ok (.iadd, 1) := by decide +kernel
theorem dJ9_floorMod_7cf53_17 : decode cJ9_floorMod_7cf53 17 = .ok (.ireturn, 1) := by decide +kernel
theorem dJ9_floorMod_7cf53_18 : decode cJ9_floorMod_7cf53 18 = .ok (.iload_n 2, 1) := by decide +kernel
theorem dJ9_floorMod_7cf53_19 : decode cJ9_floorMod_7cf53 19 = .ok (.ireturn, 1) := by decide +kernel
theorem dJ9_abs_067f4_0 : decode cJ9_abs_067f4 0 = .ok (.lload_n 0, 1) := by decide +kernel
theorem dJ9_abs_067f4_1 : decode cJ9_abs_067f4 1 = .ok (.lconst 0, 1) := by decide +kernel
theorem dJ9_abs_067f4_2 : decode cJ9_abs_067f4 2 = .ok (.lcmp, 1) := by decide +kernel
theorem dJ9_abs_067f4_3 : decode cJ9_abs_067f4 3 = .ok (.ifCond .ge 8, 3) := by decide +kernel
theorem dJ9_abs_067f4_6 : decode cJ9_abs_067f4 6 = .ok (.lload_n 0, 1) := by decide +kernel
theorem dJ9_abs_067f4_7 : decode cJ9_abs_067f4 7 = .ok (.lneg, 1) := by decide +kernel
theorem dJ9_abs_067f4_8 : decode cJ9_abs_067f4 8 = .ok (.goto 4, 3) := by decide +kernel
theorem dJ9_abs_067f4_11 : decode cJ9_abs_067f4 11 = .ok (.lload_n 0, 1) := by decide +kernel
theorem dJ9_abs_067f4_12 : decode cJ9_abs_067f4 12 = .ok (.lreturn, 1) := by decide +kernel
theorem dJ9_max_f86c9_0 : decode cJ9_max_f86c9 0 = .ok (.lload_n 0, 1) := by decide +kernel
theorem dJ9_max_f86c9_1 : decode cJ9_max_f86c9 1 = .ok (.lload_n 2, 1) := by decide +kernel
theorem dJ9_max_f86c9_2 : decode cJ9_max_f86c9 2 = .ok (.lcmp, 1) := by decide +kernel
theorem dJ9_max_f86c9_3 : decode cJ9_max_f86c9 3 = .ok (.ifCond .lt 7, 3) := by decide +kernel
theorem dJ9_max_f86c9_6 : decode cJ9_max_f86c9 6 = .ok (.lload_n 0, 1) := by decide +kernel
theorem dJ9_max_f86c9_7 : decode cJ9_max_f86c9 7 = .ok (.goto 4, 3) := by decide +kernel
theorem dJ9_max_f86c9_10 : decode cJ9_max_f86c9 10 = .ok (.lload_n 2, 1) := by decide +kernel
theorem dJ9_max_f86c9_11 : decode cJ9_max_f86c9 11 = .ok (.lreturn, 1) := by decide +kernel
theorem dJ9_min_7cf53_0 : decode cJ9_min_7cf53 0 = .ok (.iload_n 0, 1) := by decide +kernel
theorem dJ9_min_7cf53_1 : decode cJ9_min_7cf53 1 = .ok (.iload_n 1, 1) := by decide +kernel
theorem dJ9_min_7cf53_2 : decode cJ9_min_7cf53 2 = .ok (.if_icmp .gt 7, 3) := by decide +kernel
theorem dJ9_min_7cf53_5 : decode cJ9_min_7cf53 5 = .ok (.iload_n 0, 1) := by decide +kernel
theorem dJ9_min_7cf53_6 : decode cJ9_min_7cf53 6 = .ok (.goto 4, 3) := by decide +kernel
theorem dJ9_min_7cf53_9 : decode cJ9_min_7cf53 9 = .ok (.iload_n 1, 1) := by decide +kernel
theorem dJ9_min_7cf53_10 : decode cJ9_min_7cf53 10 = .ok (.ireturn, 1) := by decide +kernel
theorem dJ7_fill_d0a16_0 : decode cJ7_fill_d0a16 0 = .ok (.iconst 0, 1) := by decide +kernel
theorem dJ7_fill_d0a16_1 : decode cJ7_fill_d0a16 1 = .ok (.istore_n 3, 1) := by decide +kernel
theorem dJ7_fill_d0a16_2 : decode cJ7_fill_d0a16 2 = .ok (.aload_n 0, 1) := by decide +kernel
theorem dJ7_fill_d0a16_3 : decode cJ7_fill_d0a16 3 = .ok (.arraylength, 1) := by decide +kernel
theorem dJ7_fill_d0a16_4 : decode cJ7_fill_d0a16 4 = .ok (.istore 4, 2) := by decide +kernel
theorem dJ7_fill_d0a16_6 : decode cJ7_fill_d0a16 6 = .ok (.iload_n 3, 1) := by decide +kernel
theorem dJ7_fill_d0a16_7 : decode cJ7_fill_d0a16 7 = .ok (.iload 4, 2) := by decide +kernel
theorem dJ7_fill_d0a16_9 : decode cJ7_fill_d0a16 9 = .ok (.if_icmp .ge 13, 3) := by decide +kernel
theorem dJ7_fill_d0a16_12 : decode cJ7_fill_d0a16 12 = .ok (.aload_n 0, 1) := by decide +kernel
theorem dJ7_fill_d0a16_13 : decode cJ7_fill_d0a16 13 = .ok (.iload_n 3, 1) := by decide +kernel
theorem dJ7_fill_d0a16_14 : decode cJ7_fill_d0a16 14 = .ok (.lload_n 1, 1) := by decide +kernel
theorem dJ7_fill_d0a16_15 : decode cJ7_fill_d0a16 15 = .ok (.lastore, 1) := by decide +kernel
theorem dJ7_fill_d0a16_16 : decode cJ7_fill_d0a16 16 = .ok (.iinc 3 1, 3) := by decide +kernel
theorem dJ7_fill_d0a16_19 : decode cJ7_fill_d0a16 19 = .ok (.goto (-13), 3) := by decide +kernel
theorem dJ7_fill_d0a16_22 : decode cJ7_fill_d0a16 22 = .ok (.return_, 1) := by decide +kernel
theorem dJ7_fill_53178_0 : decode cJ7_fill_53178 0 = .ok (.iconst 0, 1) := by decide +kernel
theorem dJ7_fill_53178_1 : decode cJ7_fill_53178 1 = .ok (.istore_n 2, 1) := by decide +kernel
theorem dJ7_fill_53178_2 : decode cJ7_fill_53178 2 = .ok (.aload_n 0, 1) := by decide +kernel
theorem dJ7_fill_53178_3 : decode cJ7_fill_53178 3 = .ok (.arraylength, 1) := by decide +kernel
theorem dJ7_fill_53178_4 : decode cJ7_fill_53178 4 = .ok (.istore_n 3, 1) := by decide +kernel
theorem dJ7_fill_53178_5 : decode cJ7_fill_53178 5 = .ok (.iload_n 2, 1) := by decide +kernel
theorem dJ7_fill_53178_6 : decode cJ7_fill_53178 6 = .ok (.iload_n 3, 1) := by decide +kernel
theorem dJ7_fill_53178_7 : decode cJ7_fill_53178 7 = .ok (.if_icmp .ge 13, 3) := by decide +kernel
theorem dJ7_fill_53178_10 : decode cJ7_fill_53178 10 = .ok (.aload_n 0, 1) := by decide +kernel
theorem dJ7_fill_53178_11 : decode cJ7_fill_53178 11 = .ok (.iload_n 2, 1) := by decide +kernel
theorem dJ7_fill_53178_12 : decode cJ7_fill_53178 12 = .ok (.iload_n 1, 1) := by decide +kernel
theorem dJ7_fill_53178_13 : decode cJ7_fill_53178 13 = .ok (.iastore, 1) := by decide +kernel
theorem dJ7_fill_53178_14 : decode cJ7_fill_53178 14 = .ok (.iinc 2 1, 3) := by decide +kernel
theorem dJ7_fill_53178_17 : decode cJ7_fill_53178 17 = .ok (.goto (-12), 3) := by decide +kernel
theorem dJ7_fill_53178_20 : decode cJ7_fill_53178 20 = .ok (.return_, 1) := by decide +kernel
