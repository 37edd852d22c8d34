theorem dX0_init_0 : decode cX0_init 0 = .ok (.aload_n 0, 1) := by decide +kernel
theorem dX0_init_1 : decode cX0_init 1 = .ok (.invokespecial 3, 3) := by decide +kernel
theorem dX0_init_4 : decode cX0_init 4 = .ok (.return_, 1) := by decide +kernel
theorem dX0_serve_0 : decode cX0_serve 0 = .ok (.aload_n 0, 1) := by decide +kernel
theorem dX0_serve_1 : decode cX0_serve 1 = .ok (.aload_n 1, 1) := by decide +kernel
theorem dX0_serve_2 : decode cX0_serve 2 = .ok (.getfield 9, 3) := by decide +kernel
theorem dX0_serve_5 : decode cX0_serve 5 = .ok (.putfield 15, 3) := by decide +kernel
theorem dX0_serve_8 : decode cX0_serve 8 = .ok (.aload_n 0, 1) := by decide +kernel
theorem dX0_serve_9 : decode cX0_serve 9 = .ok (.iconst 0, 1) := by decide +kernel
theorem dX0_serve_10 : decode cX0_serve 10 = .ok (.putfield 18, 3) := by decide +kernel
theorem dX0_serve_13 : decode cX0_serve 13 = .ok (.aload_n 0, 1) := by decide +kernel
theorem dX0_serve_14 : decode cX0_serve 14 = .ok (.bipush (-9), 2) := by decide +kernel
theorem dX0_serve_16 : decode cX0_serve 16 = .ok (.putfield 21, 3) := by decide +kernel
theorem dX0_serve_19 : decode cX0_serve 19 = .ok (.iconst 0, 1) := by decide +kernel
theorem dX0_serve_20 : decode cX0_serve 20 = .ok (.istore 5, 2) := by decide +kernel
theorem dX0_serve_22 : decode cX0_serve 22 = .ok (.iload 5, 2) := by decide +kernel
theorem dX0_serve_24 : decode cX0_serve 24 = .ok (.iload 4, 2) := by decide +kernel
theorem dX0_serve_26 : decode cX0_serve 26 = .ok (.if_icmp .ge 82, 3) := by decide +kernel
theorem dX0_serve_29 : decode cX0_serve 29 = .ok (.aload_n 0, 1) := by decide +kernel
theorem dX0_serve_30 : decode cX0_serve 30 = .ok (.getfield 21, 3) := by decide +kernel
theorem dX0_serve_33 : decode cX0_serve 33 = .ok (.bipush (-9), 2) := by decide +kernel
theorem dX0_serve_35 : decode cX0_serve 35 = .ok (.if_icmp .ne 73, 3) := by decide +kernel
theorem dX0_serve_38 : decode cX0_serve 38 = .ok (.aload_n 1, 1) := by decide +kernel
theorem dX0_serve_39 : decode cX0_serve 39 = .ok (.aload_n 0, 1) := by decide +kernel
theorem dX0_serve_40 : decode cX0_serve 40 = .ok (.getfield 15, 3) := by decide +kernel
theorem dX0_serve_43 : decode cX0_serve 43 = .ok (.aload_n 2, 1) := by decide +kernel
theorem dX0_serve_44 : decode cX0_serve 44 = .ok (.iload_n 3, 1) := by decide +kernel
theorem dX0_serve_45 : decode cX0_serve 45 = .ok (.iload 5, 2) := by decide +kernel
theorem dX0_serve_47 : decode cX0_serve 47 = .ok (.iadd, 1) := by decide +kernel
theorem dX0_serve_48 : decode cX0_serve 48 = .ok (.iaload, 1) := by decide +kernel
theorem dX0_serve_49 : decode cX0_serve 49 = .ok (.invokevirtual 24, 3) := by decide +kernel
theorem dX0_serve_52 : decode cX0_serve 52 = .ok (.istore 6, 2) := by decide +kernel
theorem dX0_serve_54 : decode cX0_serve 54 = .ok (.iload 6, 2) := by decide +kernel
theorem dX0_serve_56 : decode cX0_serve 56 = .ok (.bipush (-9), 2) := by decide +kernel
theorem dX0_serve_58 : decode cX0_serve 58 = .ok (.if_icmp .ne 12, 3) := by decide +kernel
theorem dX0_serve_61 : decode cX0_serve 61 = .ok (.aload_n 0, 1) := by decide +kernel
theorem dX0_serve_62 : decode cX0_serve 62 = .ok (.iload 5, 2) := by decide +kernel
theorem dX0_serve_64 : decode cX0_serve 64 = .ok (.putfield 21, 3) := by decide +kernel
theorem dX0_serve_67 : decode cX0_serve 67 = .ok (.goto 35, 3) := by decide +kernel
theorem dX0_serve_70 : decode cX0_serve 70 = .ok (.aload_n 0, 1) := by decide +kernel
theorem dX0_serve_71 : decode cX0_serve 71 = .ok (.dup, 1) := by decide +kernel
theorem dX0_serve_72 : decode cX0_serve 72 = .ok (.getfield 18, 3) := by decide +kernel
theorem dX0_serve_75 : decode cX0_serve 75 = .ok (.aload_n 1, 1) := by decide +kernel
theorem dX0_serve_76 : decode cX0_serve 76 = .ok (.aload_n 0, 1) := by decide +kernel
theorem dX0_serve_77 : decode cX0_serve 77 = .ok (.getfield 15, 3) := by decide +kernel
theorem dX0_serve_80 : decode cX0_serve 80 = .ok (.aload_n 2, 1) := by decide +kernel
theorem dX0_serve_81 : decode cX0_serve 81 = .ok (.iload_n 3, 1) := by decide +kernel
theorem dX0_serve_82 : decode cX0_serve 82 = .ok (.iload 5, 2) := by decide +kernel
theorem dX0_serve_84 : decode cX0_serve 84 = .ok (.iadd, 1) := by decide +kernel
theorem dX0_serve_85 : decode cX0_serve 85 = .ok (.iaload, 1) := by decide +kernel
theorem dX0_serve_86 : decode cX0_serve 86 = .ok (.invokestatic 28, 3) := by decide +kernel
theorem dX0_serve_89 : decode cX0_serve 89 = .ok (.invokevirtual 31, 3) := by decide +kernel
theorem dX0_serve_92 : decode cX0_serve 92 = .ok (.iadd, 1) := by decide +kernel
theorem dX0_serve_93 : decode cX0_serve 93 = .ok (.putfield 18, 3) := by decide +kernel
theorem dX0_serve_96 : decode cX0_serve 96 = .ok (.aload_n 0, 1) := by decide +kernel
theorem dX0_serve_97 : decode cX0_serve 97 = .ok (.iload 6, 2) := by decide +kernel
theorem dX0_serve_99 : decode cX0_serve 99 = .ok (.putfield 15, 3) := by decide +kernel
theorem dX0_serve_102 : decode cX0_serve 102 = .ok (.iinc 5 1, 3) := by decide +kernel
theorem dX0_serve_105 : decode cX0_serve 105 = .ok (.goto (-83), 3) := by decide +kernel
theorem dX0_serve_108 : decode cX0_serve 108 = .ok (.return_, 1) := by decide +kernel
theorem dX1_init_0 : decode cX1_init 0 = .ok (.aload_n 0, 1) := by decide +kernel
theorem dX1_init_1 : decode cX1_init 1 = .ok (.invokespecial 3, 3) := by decide +kernel
theorem dX1_init_4 : decode cX1_init 4 = .ok (.aload_n 0, 1) := by decide +kernel
theorem dX1_init_5 : decode cX1_init 5 = .ok (.bipush 64, 2) := by decide +kernel
theorem dX1_init_7 : decode cX1_init 7 = .ok (.newarray .int, 2) := by decide +kernel
theorem dX1_init_9 : decode cX1_init 9 = .ok (.putfield 9, 3) := by decide +kernel
theorem dX1_init_12 : decode cX1_init 12 = .ok (.aload_n 0, 1) := by decide +kernel
theorem dX1_init_13 : decode cX1_init 13 = .ok (.bipush 8, 2) := by decide +kernel
theorem dX1_init_15 : decode cX1_init 15 = .ok (.newarray .int, 2) := by decide +kernel
theorem dX1_init_17 : decode cX1_init 17 = .ok (.putfield 15, 3) := by decide +kernel
theorem dX1_init_20 : decode cX1_init 20 = .ok (.return_, 1) := by decide +kernel
theorem dX1_planForDish_0 : decode cX1_planForDish 0 = .ok (.aload_n 0, 1) := by decide +kernel
theorem dX1_planForDish_1 : decode cX1_planForDish 1 = .ok (.aload_n 1, 1) := by decide +kernel
theorem dX1_planForDish_2 : decode cX1_planForDish 2 = .ok (.sipush 1000, 3) := by decide +kernel
theorem dX1_planForDish_5 : decode cX1_planForDish 5 = .ok (.invokevirtual 18, 3) := by decide +kernel
theorem dX1_planForDish_8 : decode cX1_planForDish 8 = .ok (.iconst 0, 1) := by decide +kernel
theorem dX1_planForDish_9 : decode cX1_planForDish 9 = .ok (.istore 4, 2) := by decide +kernel
theorem dX1_planForDish_11 : decode cX1_planForDish 11 = .ok (.iload 4, 2) := by decide +kernel
theorem dX1_planForDish_13 : decode cX1_planForDish 13 = .ok (.bipush 64, 2) := by decide +kernel
theorem dX1_planForDish_15 : decode cX1_planForDish 15 = .ok (.if_icmp .ge 42, 3) := by decide +kernel
theorem dX1_planForDish_18 : decode cX1_planForDish 18 = .ok (.aload_n 0, 1) := by decide +kernel
theorem dX1_planForDish_19 : decode cX1_planForDish 19 = .ok (.getfield 9, 3) := by decide +kernel
theorem dX1_planForDish_22 : decode cX1_planForDish 22 = .ok (.iload 4, 2) := by decide +kernel
theorem dX1_planForDish_24 : decode cX1_planForDish 24 = .ok (.aload_n 1, 1) := by decide +kernel
theorem dX1_planForDish_25 : decode cX1_planForDish 25 = .ok (.iload 4, 2) := by decide +kernel
theorem dX1_planForDish_27 : decode cX1_planForDish 27 = .ok (.invokevirtual 22, 3) := by decide +kernel
theorem dX1_planForDish_30 : decode cX1_planForDish 30 = .ok (.ifCond .eq 18, 3) := by decide +kernel
theorem dX1_planForDish_33 : decode cX1_planForDish 33 = .ok (.aload_n 1, 1) := by decide +kernel
theorem dX1_planForDish_34 : decode cX1_planForDish 34 = .ok (.iload_n 2, 1) := by decide +kernel
theorem dX1_planForDish_35 : decode cX1_planForDish 35 = .ok (.iload 4, 2) := by decide +kernel
theorem dX1_planForDish_37 : decode cX1_planForDish 37 = .ok (.invokevirtual 28, 3) := by decide +kernel
theorem dX1_planForDish_40 : decode cX1_planForDish 40 = .ok (.iload_n 3, 1) := by decide +kernel
theorem dX1_planForDish_41 : decode cX1_planForDish 41 = .ok (.if_icmp .ne 7, 3) := by decide +kernel
theorem dX1_planForDish_44 : decode cX1_planForDish 44 = .ok (.iconst 0, 1) := by decide +kernel
theorem dX1_planForDish_45 : decode cX1_planForDish 45 = .ok (.goto 5, 3) := by decide +kernel
theorem dX1_planForDish_48 : decode cX1_planForDish 48 = .ok (.ldc 32, 2) := by decide +kernel
theorem dX1_planForDish_50 : decode cX1_planForDish 50 = .ok (.iastore, 1) := by decide +kernel
theorem dX1_planForDish_51 : decode cX1_planForDish 51 = .ok (.iinc 4 1, 3) := by decide +kernel
theorem dX1_planForDish_54 : decode cX1_planForDish 54 = .ok (.goto (-43), 3) := by decide +kernel
theorem dX1_planForDish_57 : decode cX1_planForDish 57 = .ok (.aload_n 0, 1) := by decide +kernel
theorem dX1_planForDish_58 : decode cX1_planForDish 58 = .ok (.aload_n 1, 1) := by decide +kernel
theorem dX1_planForDish_59 : decode cX1_planForDish 59 = .ok (.invokevirtual 33, 3) := by decide +kernel
theorem dX1_planForDish_62 : decode cX1_planForDish 62 = .ok (.return_, 1) := by decide +kernel
theorem dX1_planForTreaty_0 : decode cX1_planForTreaty 0 = .ok (.aload_n 0, 1) := by decide +kernel
theorem dX1_planForTreaty_1 : decode cX1_planForTreaty 1 = .ok (.aload_n 1, 1) := by decide +kernel
theorem dX1_planForTreaty_2 : decode cX1_planForTreaty 2 = .ok (.iconst 0, 1) := by decide +kernel
theorem dX1_planForTreaty_3 : decode cX1_planForTreaty 3 = .ok (.invokevirtual 18, 3) := by decide +kernel
theorem dX1_planForTreaty_6 : decode cX1_planForTreaty 6 = .ok (.iconst 0, 1) := by decide +kernel
theorem dX1_planForTreaty_7 : decode cX1_planForTreaty 7 = .ok (.istore_n 2, 1) := by decide +kernel
theorem dX1_planForTreaty_8 : decode cX1_planForTreaty 8 = .ok (.iload_n 2, 1) := by decide +kernel
theorem dX1_planForTreaty_9 : decode cX1_planForTreaty 9 = .ok (.bipush 64, 2) := by decide +kernel
theorem dX1_planForTreaty_11 : decode cX1_planForTreaty 11 = .ok (.if_icmp .ge 44, 3) := by decide +kernel
theorem dX1_planForTreaty_14 : decode cX1_planForTreaty 14 = .ok (.aload_n 0, 1) := by decide +kernel
theorem dX1_planForTreaty_15 : decode cX1_planForTreaty 15 = .ok (.getfield 9, 3) := by decide +kernel
theorem dX1_planForTreaty_18 : decode cX1_planForTreaty 18 = .ok (.iload_n 2, 1) := by decide +kernel
theorem dX1_planForTreaty_19 : decode cX1_planForTreaty 19 = .ok (.aload_n 1, 1) := by decide +kernel
theorem dX1_planForTreaty_20 : decode cX1_planForTreaty 20 = .ok (.iload_n 2, 1) := by decide +kernel
theorem dX1_planForTreaty_21 : decode cX1_planForTreaty 21 = .ok (.invokevirtual 22, 3) := by decide +kernel
theorem dX1_planForTreaty_24 : decode cX1_planForTreaty 24 = .ok (.ifCond .eq 22, 3) := by decide +kernel
theorem dX1_planForTreaty_27 : decode cX1_planForTreaty 27 = .ok (.aload_n 1, 1) := by decide +kernel
theorem dX1_planForTreaty_28 : decode cX1_planForTreaty 28 = .ok (.iconst 0, 1) := by decide +kernel
theorem dX1_planForTreaty_29 : decode cX1_planForTreaty 29 = .ok (.iload_n 2, 1) := by decide +kernel
theorem dX1_planForTreaty_30 : decode cX1_planForTreaty 30 = .ok (.invokevirtual 37, 3) := by decide +kernel
theorem dX1_planForTreaty_33 : decode cX1_planForTreaty 33 = .ok (.aload_n 1, 1) := by decide +kernel
theorem dX1_planForTreaty_34 : decode cX1_planForTreaty 34 = .ok (.iconst 1, 1) := by decide +kernel
theorem dX1_planForTreaty_35 : decode cX1_planForTreaty 35 = .ok (.iload_n 2, 1) := by decide +kernel
theorem dX1_planForTreaty_36 : decode cX1_planForTreaty 36 = .ok (.invokevirtual 37, 3) := by decide +kernel
theorem dX1_planForTreaty_39 : decode cX1_planForTreaty 39 = .ok (.if_icmp .ne 7, 3) := by decide +kernel
theorem dX1_planForTreaty_42 : decode cX1_planForTreaty 42 = .ok (.iconst 0, 1) := by decide +kernel
theorem dX1_planForTreaty_43 : decode cX1_planForTreaty 43 = .ok (.goto 5, 3) := by decide +kernel
theorem dX1_planForTreaty_46 : decode cX1_planForTreaty 46 = .ok (.ldc 32, 2) := by decide +kernel
theorem dX1_planForTreaty_48 : decode cX1_planForTreaty 48 = .ok (.iastore, 1) := by decide +kernel
theorem dX1_planForTreaty_49 : decode cX1_planForTreaty 49 = .ok (.iinc 2 1, 3) := by decide +kernel
theorem dX1_planForTreaty_52 : decode cX1_planForTreaty 52 = .ok (.goto (-44), 3) := by decide +kernel
theorem dX1_planForTreaty_55 : decode cX1_planForTreaty 55 = .ok (.aload_n 0, 1) := by decide +kernel
theorem dX1_planForTreaty_56 : decode cX1_planForTreaty 56 = .ok (.aload_n 1, 1) := by decide +kernel
theorem dX1_planForTreaty_57 : decode cX1_planForTreaty 57 = .ok (.invokevirtual 33, 3) := by decide +kernel
theorem dX1_planForTreaty_60 : decode cX1_planForTreaty 60 = .ok (.return_, 1) := by decide +kernel
theorem dX1_weigh_0 : decode cX1_weigh 0 = .ok (.iconst 0, 1) := by decide +kernel
theorem dX1_weigh_1 : decode cX1_weigh 1 = .ok (.istore_n 3, 1) := by decide +kernel
theorem dX1_weigh_2 : decode cX1_weigh 2 = .ok (.iload_n 3, 1) := by decide +kernel
theorem dX1_weigh_3 : decode cX1_weigh 3 = .ok (.aload_n 1, 1) := by decide +kernel
theorem dX1_weigh_4 : decode cX1_weigh 4 = .ok (.getfield 40, 3) := by decide +kernel
theorem dX1_weigh_7 : decode cX1_weigh 7 = .ok (.if_icmp .ge 24, 3) := by decide +kernel
theorem dX1_weigh_10 : decode cX1_weigh 10 = .ok (.aload_n 0, 1) := by decide +kernel
theorem dX1_weigh_11 : decode cX1_weigh 11 = .ok (.getfield 15, 3) := by decide +kernel
theorem dX1_weigh_14 : decode cX1_weigh 14 = .ok (.iload_n 3, 1) := by decide +kernel
theorem dX1_weigh_15 : decode cX1_weigh 15 = .ok (.iload_n 2, 1) := by decide +kernel
theorem dX1_weigh_16 : decode cX1_weigh 16 = .ok (.aload_n 1, 1) := by decide +kernel
theorem dX1_weigh_17 : decode cX1_weigh 17 = .ok (.iload_n 3, 1) := by decide +kernel
theorem dX1_weigh_18 : decode cX1_weigh 18 = .ok (.invokevirtual 44, 3) := by decide +kernel
theorem dX1_weigh_21 : decode cX1_weigh 21 = .ok (.imul, 1) := by decide +kernel
theorem dX1_weigh_22 : decode cX1_weigh 22 = .ok (.iconst 1, 1) := by decide +kernel
theorem dX1_weigh_23 : decode cX1_weigh 23 = .ok (.iadd, 1) := by decide +kernel
theorem dX1_weigh_24 : decode cX1_weigh 24 = .ok (.iastore, 1) := by decide +kernel
theorem dX1_weigh_25 : decode cX1_weigh 25 = .ok (.iinc 3 1, 3) := by decide +kernel
theorem dX1_weigh_28 : decode cX1_weigh 28 = .ok (.goto (-26), 3) := by decide +kernel
theorem dX1_weigh_31 : decode cX1_weigh 31 = .ok (.return_, 1) := by decide +kernel
theorem dX1_spread_0 : decode cX1_spread 0 = .ok (.iconst 1, 1) := by decide +kernel
theorem dX1_spread_1 : decode cX1_spread 1 = .ok (.istore_n 2, 1) := by decide +kernel
theorem dX1_spread_2 : decode cX1_spread 2 = .ok (.iconst 0, 1) := by decide +kernel
theorem dX1_spread_3 : decode cX1_spread 3 = .ok (.istore_n 3, 1) := by decide +kernel
theorem dX1_spread_4 : decode cX1_spread 4 = .ok (.iload_n 3, 1) := by decide +kernel
theorem dX1_spread_5 : decode cX1_spread 5 = .ok (.bipush 64, 2) := by decide +kernel
theorem dX1_spread_7 : decode cX1_spread 7 = .ok (.if_icmp .ge 19, 3) := by decide +kernel
theorem dX1_spread_10 : decode cX1_spread 10 = .ok (.iload_n 2, 1) := by decide +kernel
theorem dX1_spread_11 : decode cX1_spread 11 = .ok (.ifCond .eq 15, 3) := by decide +kernel
theorem dX1_spread_14 : decode cX1_spread 14 = .ok (.aload_n 0, 1) := by decide +kernel
theorem dX1_spread_15 : decode cX1_spread 15 = .ok (.aload_n 1, 1) := by decide +kernel
theorem dX1_spread_16 : decode cX1_spread 16 = .ok (.invokevirtual 48, 3) := by decide +kernel
theorem dX1_spread_19 : decode cX1_spread 19 = .ok (.istore_n 2, 1) := by decide +kernel
theorem dX1_spread_20 : decode cX1_spread 20 = .ok (.iinc 3 1, 3) := by decide +kernel
theorem dX1_spread_23 : decode cX1_spread 23 = .ok (.goto (-19), 3) := by decide +kernel
theorem dX1_spread_26 : decode cX1_spread 26 = .ok (.return_, 1) := by decide +kernel
theorem dX1_sweepOnce_0 : decode cX1_sweepOnce 0 = .ok (.iconst 0, 1) := by decide +kernel
theorem dX1_sweepOnce_1 : decode cX1_sweepOnce 1 = .ok (.istore_n 2, 1) := by decide +kernel
theorem dX1_sweepOnce_2 : decode cX1_sweepOnce 2 = .ok (.iconst 0, 1) := by decide +kernel
theorem dX1_sweepOnce_3 : decode cX1_sweepOnce 3 = .ok (.istore_n 3, 1) := by decide +kernel
theorem dX1_sweepOnce_4 : decode cX1_sweepOnce 4 = .ok (.iload_n 3, 1) := by decide +kernel
theorem dX1_sweepOnce_5 : decode cX1_sweepOnce 5 = .ok (.bipush 64, 2) := by decide +kernel
theorem dX1_sweepOnce_7 : decode cX1_sweepOnce 7 = .ok (.if_icmp .ge 75, 3) := by decide +kernel
theorem dX1_sweepOnce_10 : decode cX1_sweepOnce 10 = .ok (.aload_n 0, 1) := by decide +kernel
theorem dX1_sweepOnce_11 : decode cX1_sweepOnce 11 = .ok (.getfield 9, 3) := by decide +kernel
theorem dX1_sweepOnce_14 : decode cX1_sweepOnce 14 = .ok (.iload_n 3, 1) := by decide +kernel
theorem dX1_sweepOnce_15 : decode cX1_sweepOnce 15 = .ok (.iaload, 1) := by decide +kernel
theorem dX1_sweepOnce_16 : decode cX1_sweepOnce 16 = .ok (.ifCond .eq 60, 3) := by decide +kernel
theorem dX1_sweepOnce_19 : decode cX1_sweepOnce 19 = .ok (.aload_n 1, 1) := by decide +kernel
theorem dX1_sweepOnce_20 : decode cX1_sweepOnce 20 = .ok (.iload_n 3, 1) := by decide +kernel
theorem dX1_sweepOnce_21 : decode cX1_sweepOnce 21 = .ok (.invokevirtual 22, 3) := by decide +kernel
theorem dX1_sweepOnce_24 : decode cX1_sweepOnce 24 = .ok (.ifCond .ne 6, 3) := by decide +kernel
theorem dX1_sweepOnce_27 : decode cX1_sweepOnce 27 = .ok (.goto 49, 3) := by decide +kernel
theorem dX1_sweepOnce_30 : decode cX1_sweepOnce 30 = .ok (.iconst 0, 1) := by decide +kernel
theorem dX1_sweepOnce_31 : decode cX1_sweepOnce 31 = .ok (.istore 4, 2) := by decide +kernel
theorem dX1_sweepOnce_33 : decode cX1_sweepOnce 33 = .ok (.iload 4, 2) := by decide +kernel
theorem dX1_sweepOnce_35 : decode cX1_sweepOnce 35 = .ok (.iconst 4, 1) := by decide +kernel
theorem dX1_sweepOnce_36 : decode cX1_sweepOnce 36 = .ok (.if_icmp .ge 40, 3) := by decide +kernel
theorem dX1_sweepOnce_39 : decode cX1_sweepOnce 39 = .ok (.aload_n 0, 1) := by decide +kernel
theorem dX1_sweepOnce_40 : decode cX1_sweepOnce 40 = .ok (.aload_n 1, 1) := by decide +kernel
theorem dX1_sweepOnce_41 : decode cX1_sweepOnce 41 = .ok (.iload_n 3, 1) := by decide +kernel
theorem dX1_sweepOnce_42 : decode cX1_sweepOnce 42 = .ok (.iload 4, 2) := by decide +kernel
theorem dX1_sweepOnce_44 : decode cX1_sweepOnce 44 = .ok (.invokevirtual 52, 3) := by decide +kernel
theorem dX1_sweepOnce_47 : decode cX1_sweepOnce 47 = .ok (.istore 5, 2) := by decide +kernel
theorem dX1_sweepOnce_49 : decode cX1_sweepOnce 49 = .ok (.iload 5, 2) := by decide +kernel
theorem dX1_sweepOnce_51 : decode cX1_sweepOnce 51 = .ok (.aload_n 0, 1) := by decide +kernel
theorem dX1_sweepOnce_52 : decode cX1_sweepOnce 52 = .ok (.getfield 9, 3) := by decide +kernel
theorem dX1_sweepOnce_55 : decode cX1_sweepOnce 55 = .ok (.iload_n 3, 1) := by decide +kernel
theorem dX1_sweepOnce_56 : decode cX1_sweepOnce 56 = .ok (.iaload, 1) := by decide +kernel
theorem dX1_sweepOnce_57 : decode cX1_sweepOnce 57 = .ok (.if_icmp .ge 13, 3) := by decide +kernel
theorem dX1_sweepOnce_60 : decode cX1_sweepOnce 60 = .ok (.aload_n 0, 1) := by decide +kernel
theorem dX1_sweepOnce_61 : decode cX1_sweepOnce 61 = .ok (.getfield 9, 3) := by decide +kernel
theorem dX1_sweepOnce_64 : decode cX1_sweepOnce 64 = .ok (.iload_n 3, 1) := by decide +kernel
theorem dX1_sweepOnce_65 : decode cX1_sweepOnce 65 = .ok (.iload 5, 2) := by decide +kernel
theorem dX1_sweepOnce_67 : decode cX1_sweepOnce 67 = .ok (.iastore, 1) := by decide +kernel
theorem dX1_sweepOnce_68 : decode cX1_sweepOnce 68 = .ok (.iconst 1, 1) := by decide +kernel
theorem dX1_sweepOnce_69 : decode cX1_sweepOnce 69 = .ok (.istore_n 2, 1) := by decide +kernel
theorem dX1_sweepOnce_70 : decode cX1_sweepOnce 70 = .ok (.iinc 4 1, 3) := by decide +kernel
theorem dX1_sweepOnce_73 : decode cX1_sweepOnce 73 = .ok (.goto (-40), 3) := by decide +kernel
theorem dX1_sweepOnce_76 : decode cX1_sweepOnce 76 = .ok (.iinc 3 1, 3) := by decide +kernel
theorem dX1_sweepOnce_79 : decode cX1_sweepOnce 79 = .ok (.goto (-75), 3) := by decide +kernel
theorem dX1_sweepOnce_82 : decode cX1_sweepOnce 82 = .ok (.iload_n 2, 1) := by decide +kernel
theorem dX1_sweepOnce_83 : decode cX1_sweepOnce 83 = .ok (.ireturn, 1) := by decide +kernel
theorem dX1_leftBy_0 : decode cX1_leftBy 0 = .ok (.aload_n 1, 1) := by decide +kernel
theorem dX1_leftBy_1 : decode cX1_leftBy 1 = .ok (.iload_n 2, 1) := by decide +kernel
theorem dX1_leftBy_2 : decode cX1_leftBy 2 = .ok (.iload_n 3, 1) := by decide +kernel
theorem dX1_leftBy_3 : decode cX1_leftBy 3 = .ok (.invokevirtual 56, 3) := by decide +kernel
theorem dX1_leftBy_6 : decode cX1_leftBy 6 = .ok (.istore 4, 2) := by decide +kernel
theorem dX1_leftBy_8 : decode cX1_leftBy 8 = .ok (.iload 4, 2) := by decide +kernel
theorem dX1_leftBy_10 : decode cX1_leftBy 10 = .ok (.bipush (-9), 2) := by decide +kernel
theorem dX1_leftBy_12 : decode cX1_leftBy 12 = .ok (.if_icmp .eq 15, 3) := by decide +kernel
theorem dX1_leftBy_15 : decode cX1_leftBy 15 = .ok (.aload_n 0, 1) := by decide +kernel
theorem dX1_leftBy_16 : decode cX1_leftBy 16 = .ok (.getfield 9, 3) := by decide +kernel
theorem dX1_leftBy_19 : decode cX1_leftBy 19 = .ok (.iload 4, 2) := by decide +kernel
theorem dX1_leftBy_21 : decode cX1_leftBy 21 = .ok (.iaload, 1) := by decide +kernel
theorem dX1_leftBy_22 : decode cX1_leftBy 22 = .ok (.ldc 32, 2) := by decide +kernel
theorem dX1_leftBy_24 : decode cX1_leftBy 24 = .ok (.if_icmp .ne 6, 3) := by decide +kernel
theorem dX1_leftBy_27 : decode cX1_leftBy 27 = .ok (.ldc 32, 2) := by decide +kernel
theorem dX1_leftBy_29 : decode cX1_leftBy 29 = .ok (.ireturn, 1) := by decide +kernel
theorem dX1_leftBy_30 : decode cX1_leftBy 30 = .ok (.aload_n 0, 1) := by decide +kernel
theorem dX1_leftBy_31 : decode cX1_leftBy 31 = .ok (.getfield 9, 3) := by decide +kernel
theorem dX1_leftBy_34 : decode cX1_leftBy 34 = .ok (.iload 4, 2) := by decide +kernel
theorem dX1_leftBy_36 : decode cX1_leftBy 36 = .ok (.iaload, 1) := by decide +kernel
theorem dX1_leftBy_37 : decode cX1_leftBy 37 = .ok (.aload_n 0, 1) := by decide +kernel
theorem dX1_leftBy_38 : decode cX1_leftBy 38 = .ok (.getfield 15, 3) := by decide +kernel
theorem dX1_leftBy_41 : decode cX1_leftBy 41 = .ok (.iload_n 2, 1) := by decide +kernel
theorem dX1_leftBy_42 : decode cX1_leftBy 42 = .ok (.iload_n 3, 1) := by decide +kernel
theorem dX1_leftBy_43 : decode cX1_leftBy 43 = .ok (.invokestatic 59, 3) := by decide +kernel
theorem dX1_leftBy_46 : decode cX1_leftBy 46 = .ok (.iaload, 1) := by decide +kernel
theorem dX1_leftBy_47 : decode cX1_leftBy 47 = .ok (.iadd, 1) := by decide +kernel
theorem dX1_leftBy_48 : decode cX1_leftBy 48 = .ok (.ireturn, 1) := by decide +kernel
theorem dX1_minutes_0 : decode cX1_minutes 0 = .ok (.aload_n 0, 1) := by decide +kernel
theorem dX1_minutes_1 : decode cX1_minutes 1 = .ok (.getfield 9, 3) := by decide +kernel
theorem dX1_minutes_4 : decode cX1_minutes 4 = .ok (.aload_n 1, 1) := by decide +kernel
theorem dX1_minutes_5 : decode cX1_minutes 5 = .ok (.getfield 62, 3) := by decide +kernel
theorem dX1_minutes_8 : decode cX1_minutes 8 = .ok (.iaload, 1) := by decide +kernel
theorem dX1_minutes_9 : decode cX1_minutes 9 = .ok (.istore_n 2, 1) := by decide +kernel
theorem dX1_minutes_10 : decode cX1_minutes 10 = .ok (.iload_n 2, 1) := by decide +kernel
theorem dX1_minutes_11 : decode cX1_minutes 11 = .ok (.ldc 32, 2) := by decide +kernel
theorem dX1_minutes_13 : decode cX1_minutes 13 = .ok (.if_icmp .ne 8, 3) := by decide +kernel
theorem dX1_minutes_16 : decode cX1_minutes 16 = .ok (.bipush (-9), 2) := by decide +kernel
theorem dX1_minutes_18 : decode cX1_minutes 18 = .ok (.goto 8, 3) := by decide +kernel
theorem dX1_minutes_21 : decode cX1_minutes 21 = .ok (.iload_n 2, 1) := by decide +kernel
theorem dX1_minutes_22 : decode cX1_minutes 22 = .ok (.sipush 1000, 3) := by decide +kernel
theorem dX1_minutes_25 : decode cX1_minutes 25 = .ok (.idiv, 1) := by decide +kernel
theorem dX1_minutes_26 : decode cX1_minutes 26 = .ok (.ireturn, 1) := by decide +kernel
theorem dX1_requests_0 : decode cX1_requests 0 = .ok (.aload_n 0, 1) := by decide +kernel
theorem dX1_requests_1 : decode cX1_requests 1 = .ok (.getfield 9, 3) := by decide +kernel
theorem dX1_requests_4 : decode cX1_requests 4 = .ok (.aload_n 1, 1) := by decide +kernel
theorem dX1_requests_5 : decode cX1_requests 5 = .ok (.getfield 62, 3) := by decide +kernel
theorem dX1_requests_8 : decode cX1_requests 8 = .ok (.iaload, 1) := by decide +kernel
theorem dX1_requests_9 : decode cX1_requests 9 = .ok (.istore_n 2, 1) := by decide +kernel
theorem dX1_requests_10 : decode cX1_requests 10 = .ok (.iload_n 2, 1) := by decide +kernel
theorem dX1_requests_11 : decode cX1_requests 11 = .ok (.ldc 32, 2) := by decide +kernel
theorem dX1_requests_13 : decode cX1_requests 13 = .ok (.if_icmp .ne 8, 3) := by decide +kernel
theorem dX1_requests_16 : decode cX1_requests 16 = .ok (.bipush (-9), 2) := by decide +kernel
theorem dX1_requests_18 : decode cX1_requests 18 = .ok (.goto 8, 3) := by decide +kernel
theorem dX1_requests_21 : decode cX1_requests 21 = .ok (.iload_n 2, 1) := by decide +kernel
theorem dX1_requests_22 : decode cX1_requests 22 = .ok (.sipush 1000, 3) := by decide +kernel
theorem dX1_requests_25 : decode cX1_requests 25 = .ok (.irem, 1) := by decide +kernel
theorem dX1_requests_26 : decode cX1_requests 26 = .ok (.ireturn, 1) := by decide +kernel
theorem dX1_requestAt_0 : decode cX1_requestAt 0 = .ok (.iload_n 2, 1) := by decide +kernel
theorem dX1_requestAt_1 : decode cX1_requestAt 1 = .ok (.aload_n 0, 1) := by decide +kernel
theorem dX1_requestAt_2 : decode cX1_requestAt 2 = .ok (.aload_n 1, 1) := by decide +kernel
theorem dX1_requestAt_3 : decode cX1_requestAt 3 = .ok (.invokevirtual 65, 3) := by decide +kernel
theorem dX1_requestAt_6 : decode cX1_requestAt 6 = .ok (.if_icmp .lt 6, 3) := by decide +kernel
theorem dX1_requestAt_9 : decode cX1_requestAt 9 = .ok (.bipush (-9), 2) := by decide +kernel
theorem dX1_requestAt_11 : decode cX1_requestAt 11 = .ok (.ireturn, 1) := by decide +kernel
theorem dX1_requestAt_12 : decode cX1_requestAt 12 = .ok (.aload_n 1, 1) := by decide +kernel
theorem dX1_requestAt_13 : decode cX1_requestAt 13 = .ok (.getfield 62, 3) := by decide +kernel
theorem dX1_requestAt_16 : decode cX1_requestAt 16 = .ok (.istore_n 3, 1) := by decide +kernel
theorem dX1_requestAt_17 : decode cX1_requestAt 17 = .ok (.iconst 0, 1) := by decide +kernel
theorem dX1_requestAt_18 : decode cX1_requestAt 18 = .ok (.istore 4, 2) := by decide +kernel
theorem dX1_requestAt_20 : decode cX1_requestAt 20 = .ok (.iload 4, 2) := by decide +kernel
theorem dX1_requestAt_22 : decode cX1_requestAt 22 = .ok (.iload_n 2, 1) := by decide +kernel
theorem dX1_requestAt_23 : decode cX1_requestAt 23 = .ok (.if_icmp .ge 27, 3) := by decide +kernel
theorem dX1_requestAt_26 : decode cX1_requestAt 26 = .ok (.iload_n 3, 1) := by decide +kernel
theorem dX1_requestAt_27 : decode cX1_requestAt 27 = .ok (.bipush (-9), 2) := by decide +kernel
theorem dX1_requestAt_29 : decode cX1_requestAt 29 = .ok (.if_icmp .eq 21, 3) := by decide +kernel
theorem dX1_requestAt_32 : decode cX1_requestAt 32 = .ok (.aload_n 1, 1) := by decide +kernel
theorem dX1_requestAt_33 : decode cX1_requestAt 33 = .ok (.iload_n 3, 1) := by decide +kernel
theorem dX1_requestAt_34 : decode cX1_requestAt 34 = .ok (.aload_n 0, 1) := by decide +kernel
theorem dX1_requestAt_35 : decode cX1_requestAt 35 = .ok (.aload_n 1, 1) := by decide +kernel
theorem dX1_requestAt_36 : decode cX1_requestAt 36 = .ok (.iload_n 3, 1) := by decide +kernel
theorem dX1_requestAt_37 : decode cX1_requestAt 37 = .ok (.invokevirtual 69, 3) := by decide +kernel
theorem dX1_requestAt_40 : decode cX1_requestAt 40 = .ok (.invokevirtual 56, 3) := by decide +kernel
theorem dX1_requestAt_43 : decode cX1_requestAt 43 = .ok (.istore_n 3, 1) := by decide +kernel
theorem dX1_requestAt_44 : decode cX1_requestAt 44 = .ok (.iinc 4 1, 3) := by decide +kernel
theorem dX1_requestAt_47 : decode cX1_requestAt 47 = .ok (.goto (-27), 3) := by decide +kernel
theorem dX1_requestAt_50 : decode cX1_requestAt 50 = .ok (.iload_n 3, 1) := by decide +kernel
theorem dX1_requestAt_51 : decode cX1_requestAt 51 = .ok (.bipush (-9), 2) := by decide +kernel
theorem dX1_requestAt_53 : decode cX1_requestAt 53 = .ok (.if_icmp .ne 8, 3) := by decide +kernel
theorem dX1_requestAt_56 : decode cX1_requestAt 56 = .ok (.bipush (-9), 2) := by decide +kernel
theorem dX1_requestAt_58 : decode cX1_requestAt 58 = .ok (.goto 9, 3) := by decide +kernel
theorem dX1_requestAt_61 : decode cX1_requestAt 61 = .ok (.aload_n 0, 1) := by decide +kernel
theorem dX1_requestAt_62 : decode cX1_requestAt 62 = .ok (.aload_n 1, 1) := by decide +kernel
theorem dX1_requestAt_63 : decode cX1_requestAt 63 = .ok (.iload_n 3, 1) := by decide +kernel
theorem dX1_requestAt_64 : decode cX1_requestAt 64 = .ok (.invokevirtual 69, 3) := by decide +kernel
theorem dX1_requestAt_67 : decode cX1_requestAt 67 = .ok (.ireturn, 1) := by decide +kernel
theorem dX1_firstBest_0 : decode cX1_firstBest 0 = .ok (.iconst 0, 1) := by decide +kernel
theorem dX1_firstBest_1 : decode cX1_firstBest 1 = .ok (.istore_n 3, 1) := by decide +kernel
theorem dX1_firstBest_2 : decode cX1_firstBest 2 = .ok (.iload_n 3, 1) := by decide +kernel
theorem dX1_firstBest_3 : decode cX1_firstBest 3 = .ok (.iconst 3, 1) := by decide +kernel
theorem dX1_firstBest_4 : decode cX1_firstBest 4 = .ok (.if_icmp .ge 25, 3) := by decide +kernel
theorem dX1_firstBest_7 : decode cX1_firstBest 7 = .ok (.aload_n 0, 1) := by decide +kernel
theorem dX1_firstBest_8 : decode cX1_firstBest 8 = .ok (.aload_n 1, 1) := by decide +kernel
theorem dX1_firstBest_9 : decode cX1_firstBest 9 = .ok (.iload_n 2, 1) := by decide +kernel
theorem dX1_firstBest_10 : decode cX1_firstBest 10 = .ok (.iload_n 3, 1) := by decide +kernel
theorem dX1_firstBest_11 : decode cX1_firstBest 11 = .ok (.invokevirtual 52, 3) := by decide +kernel
theorem dX1_firstBest_14 : decode cX1_firstBest 14 = .ok (.aload_n 0, 1) := by decide +kernel
theorem dX1_firstBest_15 : decode cX1_firstBest 15 = .ok (.getfield 9, 3) := by decide +kernel
theorem dX1_firstBest_18 : decode cX1_firstBest 18 = .ok (.iload_n 2, 1) := by decide +kernel
theorem dX1_firstBest_19 : decode cX1_firstBest 19 = .ok (.iaload, 1) := by decide +kernel
theorem dX1_firstBest_20 : decode cX1_firstBest 20 = .ok (.if_icmp .eq 9, 3) := by decide +kernel
theorem dX1_firstBest_23 : decode cX1_firstBest 23 = .ok (.iinc 3 1, 3) := by decide +kernel
theorem dX1_firstBest_26 : decode cX1_firstBest 26 = .ok (.goto (-24), 3) := by decide +kernel
theorem dX1_firstBest_29 : decode cX1_firstBest 29 = .ok (.iload_n 3, 1) := by decide +kernel
theorem dX1_firstBest_30 : decode cX1_firstBest 30 = .ok (.ireturn, 1) := by decide +kernel
theorem dX2_init_0 : decode cX2_init 0 = .ok (.aload_n 0, 1) := by decide +kernel
theorem dX2_init_1 : decode cX2_init 1 = .ok (.invokespecial 3, 3) := by decide +kernel
theorem dX2_init_4 : decode cX2_init 4 = .ok (.aload_n 0, 1) := by decide +kernel
theorem dX2_init_5 : decode cX2_init 5 = .ok (.bipush 8, 2) := by decide +kernel
theorem dX2_init_7 : decode cX2_init 7 = .ok (.newarray .long, 2) := by decide +kernel
theorem dX2_init_9 : decode cX2_init 9 = .ok (.putfield 9, 3) := by decide +kernel
theorem dX2_init_12 : decode cX2_init 12 = .ok (.aload_n 0, 1) := by decide +kernel
theorem dX2_init_13 : decode cX2_init 13 = .ok (.bipush 8, 2) := by decide +kernel
theorem dX2_init_15 : decode cX2_init 15 = .ok (.newarray .long, 2) := by decide +kernel
theorem dX2_init_17 : decode cX2_init 17 = .ok (.putfield 15, 3) := by decide +kernel
theorem dX2_init_20 : decode cX2_init 20 = .ok (.return_, 1) := by decide +kernel
theorem dX2_go_0 : decode cX2_go 0 = .ok (.aload_n 0, 1) := by decide +kernel
theorem dX2_go_1 : decode cX2_go 1 = .ok (.getfield 9, 3) := by decide +kernel
theorem dX2_go_4 : decode cX2_go 4 = .ok (.lconst 0, 1) := by decide +kernel
theorem dX2_go_5 : decode cX2_go 5 = .ok (.invokestatic 18, 3) := by decide +kernel
theorem dX2_go_8 : decode cX2_go 8 = .ok (.aload_n 0, 1) := by decide +kernel
theorem dX2_go_9 : decode cX2_go 9 = .ok (.getfield 9, 3) := by decide +kernel
theorem dX2_go_12 : decode cX2_go 12 = .ok (.aload_n 1, 1) := by decide +kernel
theorem dX2_go_13 : decode cX2_go 13 = .ok (.getfield 24, 3) := by decide +kernel
theorem dX2_go_16 : decode cX2_go 16 = .ok (.invokestatic 30, 3) := by decide +kernel
theorem dX2_go_19 : decode cX2_go 19 = .ok (.lconst 1, 1) := by decide +kernel
theorem dX2_go_20 : decode cX2_go 20 = .ok (.lastore, 1) := by decide +kernel
theorem dX2_go_21 : decode cX2_go 21 = .ok (.iconst 0, 1) := by decide +kernel
theorem dX2_go_22 : decode cX2_go 22 = .ok (.istore 4, 2) := by decide +kernel
theorem dX2_go_24 : decode cX2_go 24 = .ok (.iload 4, 2) := by decide +kernel
theorem dX2_go_26 : decode cX2_go 26 = .ok (.iload_n 2, 1) := by decide +kernel
theorem dX2_go_27 : decode cX2_go 27 = .ok (.if_icmp .ge 58, 3) := by decide +kernel
theorem dX2_go_30 : decode cX2_go 30 = .ok (.aload_n 0, 1) := by decide +kernel
theorem dX2_go_31 : decode cX2_go 31 = .ok (.getfield 15, 3) := by decide +kernel
theorem dX2_go_34 : decode cX2_go 34 = .ok (.lconst 0, 1) := by decide +kernel
theorem dX2_go_35 : decode cX2_go 35 = .ok (.invokestatic 18, 3) := by decide +kernel
theorem dX2_go_38 : decode cX2_go 38 = .ok (.iconst 0, 1) := by decide +kernel
theorem dX2_go_39 : decode cX2_go 39 = .ok (.istore 5, 2) := by decide +kernel
theorem dX2_go_41 : decode cX2_go 41 = .ok (.iload 5, 2) := by decide +kernel
theorem dX2_go_43 : decode cX2_go 43 = .ok (.aload_n 1, 1) := by decide +kernel
theorem dX2_go_44 : decode cX2_go 44 = .ok (.getfield 34, 3) := by decide +kernel
theorem dX2_go_47 : decode cX2_go 47 = .ok (.if_icmp .ge 17, 3) := by decide +kernel
theorem dX2_go_50 : decode cX2_go 50 = .ok (.aload_n 0, 1) := by decide +kernel
theorem dX2_go_51 : decode cX2_go 51 = .ok (.aload_n 1, 1) := by decide +kernel
theorem dX2_go_52 : decode cX2_go 52 = .ok (.iload 5, 2) := by decide +kernel
theorem dX2_go_54 : decode cX2_go 54 = .ok (.iload_n 3, 1) := by decide +kernel
theorem dX2_go_55 : decode cX2_go 55 = .ok (.invokevirtual 37, 3) := by decide +kernel
theorem dX2_go_58 : decode cX2_go 58 = .ok (.iinc 5 1, 3) := by decide +kernel
theorem dX2_go_61 : decode cX2_go 61 = .ok (.goto (-20), 3) := by decide +kernel
theorem dX2_go_64 : decode cX2_go 64 = .ok (.aload_n 0, 1) := by decide +kernel
theorem dX2_go_65 : decode cX2_go 65 = .ok (.getfield 15, 3) := by decide +kernel
theorem dX2_go_68 : decode cX2_go 68 = .ok (.iconst 0, 1) := by decide +kernel
theorem dX2_go_69 : decode cX2_go 69 = .ok (.aload_n 0, 1) := by decide +kernel
theorem dX2_go_70 : decode cX2_go 70 = .ok (.getfield 9, 3) := by decide +kernel
theorem dX2_go_73 : decode cX2_go 73 = .ok (.iconst 0, 1) := by decide +kernel
theorem dX2_go_74 : decode cX2_go 74 = .ok (.bipush 8, 2) := by decide +kernel
theorem dX2_go_76 : decode cX2_go 76 = .ok (.invokestatic 41, 3) := by decide +kernel
theorem dX2_go_79 : decode cX2_go 79 = .ok (.iinc 4 1, 3) := by decide +kernel
theorem dX2_go_82 : decode cX2_go 82 = .ok (.goto (-58), 3) := by decide +kernel
theorem dX2_go_85 : decode cX2_go 85 = .ok (.return_, 1) := by decide +kernel
theorem dX2_passFrom_0 : decode cX2_passFrom 0 = .ok (.iload_n 2, 1) := by decide +kernel
theorem dX2_passFrom_1 : decode cX2_passFrom 1 = .ok (.aload_n 1, 1) := by decide +kernel
theorem dX2_passFrom_2 : decode cX2_passFrom 2 = .ok (.getfield 24, 3) := by decide +kernel
theorem dX2_passFrom_5 : decode cX2_passFrom 5 = .ok (.invokestatic 47, 3) := by decide +kernel
theorem dX2_passFrom_8 : decode cX2_passFrom 8 = .ok (.invokestatic 50, 3) := by decide +kernel
theorem dX2_passFrom_11 : decode cX2_passFrom 11 = .ok (.istore 4, 2) := by decide +kernel
theorem dX2_passFrom_13 : decode cX2_passFrom 13 = .ok (.iconst 0, 1) := by decide +kernel
theorem dX2_passFrom_14 : decode cX2_passFrom 14 = .ok (.istore 5, 2) := by decide +kernel
theorem dX2_passFrom_16 : decode cX2_passFrom 16 = .ok (.iload 5, 2) := by decide +kernel
theorem dX2_passFrom_18 : decode cX2_passFrom 18 = .ok (.iconst 2, 1) := by decide +kernel
theorem dX2_passFrom_19 : decode cX2_passFrom 19 = .ok (.if_icmp .ge 67, 3) := by decide +kernel
theorem dX2_passFrom_22 : decode cX2_passFrom 22 = .ok (.aload_n 1, 1) := by decide +kernel
theorem dX2_passFrom_23 : decode cX2_passFrom 23 = .ok (.iload 4, 2) := by decide +kernel
theorem dX2_passFrom_25 : decode cX2_passFrom 25 = .ok (.iload 5, 2) := by decide +kernel
theorem dX2_passFrom_27 : decode cX2_passFrom 27 = .ok (.invokevirtual 54, 3) := by decide +kernel
theorem dX2_passFrom_30 : decode cX2_passFrom 30 = .ok (.istore 6, 2) := by decide +kernel
theorem dX2_passFrom_32 : decode cX2_passFrom 32 = .ok (.iload 6, 2) := by decide +kernel
theorem dX2_passFrom_34 : decode cX2_passFrom 34 = .ok (.bipush (-9), 2) := by decide +kernel
theorem dX2_passFrom_36 : decode cX2_passFrom 36 = .ok (.if_icmp .eq 25, 3) := by decide +kernel
theorem dX2_passFrom_39 : decode cX2_passFrom 39 = .ok (.aload_n 0, 1) := by decide +kernel
theorem dX2_passFrom_40 : decode cX2_passFrom 40 = .ok (.getfield 15, 3) := by decide +kernel
theorem dX2_passFrom_43 : decode cX2_passFrom 43 = .ok (.iload 6, 2) := by decide +kernel
theorem dX2_passFrom_45 : decode cX2_passFrom 45 = .ok (.invokestatic 30, 3) := by decide +kernel
theorem dX2_passFrom_48 : decode cX2_passFrom 48 = .ok (.dup2, 1) := by decide +kernel
theorem dX2_passFrom_49 : decode cX2_passFrom 49 = .ok (.laload, 1) := by decide +kernel
theorem dX2_passFrom_50 : decode cX2_passFrom 50 = .ok (.aload_n 0, 1) := by decide +kernel
theorem dX2_passFrom_51 : decode cX2_passFrom 51 = .ok (.getfield 9, 3) := by decide +kernel
theorem dX2_passFrom_54 : decode cX2_passFrom 54 = .ok (.iload_n 2, 1) := by decide +kernel
theorem dX2_passFrom_55 : decode cX2_passFrom 55 = .ok (.laload, 1) := by decide +kernel
theorem dX2_passFrom_56 : decode cX2_passFrom 56 = .ok (.ladd, 1) := by decide +kernel
theorem dX2_passFrom_57 : decode cX2_passFrom 57 = .ok (.lastore, 1) := by decide +kernel
theorem dX2_passFrom_58 : decode cX2_passFrom 58 = .ok (.goto 22, 3) := by decide +kernel
theorem dX2_passFrom_61 : decode cX2_passFrom 61 = .ok (.iload_n 3, 1) := by decide +kernel
theorem dX2_passFrom_62 : decode cX2_passFrom 62 = .ok (.ifCond .eq 18, 3) := by decide +kernel
theorem dX2_passFrom_65 : decode cX2_passFrom 65 = .ok (.aload_n 0, 1) := by decide +kernel
theorem dX2_passFrom_66 : decode cX2_passFrom 66 = .ok (.getfield 15, 3) := by decide +kernel
theorem dX2_passFrom_69 : decode cX2_passFrom 69 = .ok (.iload_n 2, 1) := by decide +kernel
theorem dX2_passFrom_70 : decode cX2_passFrom 70 = .ok (.dup2, 1) := by decide +kernel
theorem dX2_passFrom_71 : decode cX2_passFrom 71 = .ok (.laload, 1) := by decide +kernel
theorem dX2_passFrom_72 : decode cX2_passFrom 72 = .ok (.aload_n 0, 1) := by decide +kernel
theorem dX2_passFrom_73 : decode cX2_passFrom 73 = .ok (.getfield 9, 3) := by decide +kernel
theorem dX2_passFrom_76 : decode cX2_passFrom 76 = .ok (.iload_n 2, 1) := by decide +kernel
theorem dX2_passFrom_77 : decode cX2_passFrom 77 = .ok (.laload, 1) := by decide +kernel
theorem dX2_passFrom_78 : decode cX2_passFrom 78 = .ok (.ladd, 1) := by decide +kernel
theorem dX2_passFrom_79 : decode cX2_passFrom 79 = .ok (.lastore, 1) := by decide +kernel
theorem dX2_passFrom_80 : decode cX2_passFrom 80 = .ok (.iinc 5 1, 3) := by decide +kernel
theorem dX2_passFrom_83 : decode cX2_passFrom 83 = .ok (.goto (-67), 3) := by decide +kernel
theorem dX2_passFrom_86 : decode cX2_passFrom 86 = .ok (.return_, 1) := by decide +kernel
theorem dX2_waysToOwn_0 : decode cX2_waysToOwn 0 = .ok (.lconst 0, 1) := by decide +kernel
theorem dX2_waysToOwn_1 : decode cX2_waysToOwn 1 = .ok (.lstore 4, 2) := by decide +kernel
theorem dX2_waysToOwn_3 : decode cX2_waysToOwn 3 = .ok (.iconst 0, 1) := by decide +kernel
theorem dX2_waysToOwn_4 : decode cX2_waysToOwn 4 = .ok (.istore 6, 2) := by decide +kernel
theorem dX2_waysToOwn_6 : decode cX2_waysToOwn 6 = .ok (.iload 6, 2) := by decide +kernel
theorem dX2_waysToOwn_8 : decode cX2_waysToOwn 8 = .ok (.aload_n 1, 1) := by decide +kernel
theorem dX2_waysToOwn_9 : decode cX2_waysToOwn 9 = .ok (.getfield 34, 3) := by decide +kernel
theorem dX2_waysToOwn_12 : decode cX2_waysToOwn 12 = .ok (.if_icmp .ge 46, 3) := by decide +kernel
theorem dX2_waysToOwn_15 : decode cX2_waysToOwn 15 = .ok (.iload 6, 2) := by decide +kernel
theorem dX2_waysToOwn_17 : decode cX2_waysToOwn 17 = .ok (.aload_n 1, 1) := by decide +kernel
theorem dX2_waysToOwn_18 : decode cX2_waysToOwn 18 = .ok (.getfield 24, 3) := by decide +kernel
theorem dX2_waysToOwn_21 : decode cX2_waysToOwn 21 = .ok (.invokestatic 47, 3) := by decide +kernel
theorem dX2_waysToOwn_24 : decode cX2_waysToOwn 24 = .ok (.invokestatic 50, 3) := by decide +kernel
theorem dX2_waysToOwn_27 : decode cX2_waysToOwn 27 = .ok (.istore 7, 2) := by decide +kernel
theorem dX2_waysToOwn_29 : decode cX2_waysToOwn 29 = .ok (.aload_n 1, 1) := by decide +kernel
theorem dX2_waysToOwn_30 : decode cX2_waysToOwn 30 = .ok (.iload_n 2, 1) := by decide +kernel
theorem dX2_waysToOwn_31 : decode cX2_waysToOwn 31 = .ok (.iload 7, 2) := by decide +kernel
theorem dX2_waysToOwn_33 : decode cX2_waysToOwn 33 = .ok (.invokevirtual 57, 3) := by decide +kernel
theorem dX2_waysToOwn_36 : decode cX2_waysToOwn 36 = .ok (.iload_n 3, 1) := by decide +kernel
theorem dX2_waysToOwn_37 : decode cX2_waysToOwn 37 = .ok (.if_icmp .ne 15, 3) := by decide +kernel
theorem dX2_waysToOwn_40 : decode cX2_waysToOwn 40 = .ok (.lload 4, 2) := by decide +kernel
theorem dX2_waysToOwn_42 : decode cX2_waysToOwn 42 = .ok (.aload_n 0, 1) := by decide +kernel
theorem dX2_waysToOwn_43 : decode cX2_waysToOwn 43 = .ok (.getfield 9, 3) := by decide +kernel
theorem dX2_waysToOwn_46 : decode cX2_waysToOwn 46 = .ok (.iload 6, 2) := by decide +kernel
theorem dX2_waysToOwn_48 : decode cX2_waysToOwn 48 = .ok (.laload, 1) := by decide +kernel
theorem dX2_waysToOwn_49 : decode cX2_waysToOwn 49 = .ok (.ladd, 1) := by decide +kernel
theorem dX2_waysToOwn_50 : decode cX2_waysToOwn 50 = .ok (.lstore 4, 2) := by decide +kernel
theorem dX2_waysToOwn_52 : decode cX2_waysToOwn 52 = .ok (.iinc 6 1, 3) := by decide +kernel
theorem dX2_waysToOwn_55 : decode cX2_waysToOwn 55 = .ok (.goto (-49), 3) := by decide +kernel
theorem dX2_waysToOwn_58 : decode cX2_waysToOwn 58 = .ok (.lload 4, 2) := by decide +kernel
theorem dX2_waysToOwn_60 : decode cX2_waysToOwn 60 = .ok (.lreturn, 1) := by decide +kernel
theorem dX3_init_0 : decode cX3_init 0 = .ok (.aload_n 0, 1) := by decide +kernel
theorem dX3_init_1 : decode cX3_init 1 = .ok (.invokespecial 3, 3) := by decide +kernel
theorem dX3_init_4 : decode cX3_init 4 = .ok (.aload_n 0, 1) := by decide +kernel
theorem dX3_init_5 : decode cX3_init 5 = .ok (.bipush 60, 2) := by decide +kernel
theorem dX3_init_7 : decode cX3_init 7 = .ok (.newarray .int, 2) := by decide +kernel
theorem dX3_init_9 : decode cX3_init 9 = .ok (.putfield 9, 3) := by decide +kernel
theorem dX3_init_12 : decode cX3_init 12 = .ok (.return_, 1) := by decide +kernel
theorem dX3_renew_0 : decode cX3_renew 0 = .ok (.aload_n 0, 1) := by decide +kernel
theorem dX3_renew_1 : decode cX3_renew 1 = .ok (.iconst 1, 1) := by decide +kernel
theorem dX3_renew_2 : decode cX3_renew 2 = .ok (.putfield 15, 3) := by decide +kernel
theorem dX3_renew_5 : decode cX3_renew 5 = .ok (.aload_n 0, 1) := by decide +kernel
theorem dX3_renew_6 : decode cX3_renew 6 = .ok (.iload_n 1, 1) := by decide +kernel
theorem dX3_renew_7 : decode cX3_renew 7 = .ok (.putfield 19, 3) := by decide +kernel
theorem dX3_renew_10 : decode cX3_renew 10 = .ok (.aload_n 0, 1) := by decide +kernel
theorem dX3_renew_11 : decode cX3_renew 11 = .ok (.iload_n 2, 1) := by decide +kernel
theorem dX3_renew_12 : decode cX3_renew 12 = .ok (.putfield 23, 3) := by decide +kernel
theorem dX3_renew_15 : decode cX3_renew 15 = .ok (.aload_n 0, 1) := by decide +kernel
theorem dX3_renew_16 : decode cX3_renew 16 = .ok (.getfield 9, 3) := by decide +kernel
theorem dX3_renew_19 : decode cX3_renew 19 = .ok (.iconst 0, 1) := by decide +kernel
theorem dX3_renew_20 : decode cX3_renew 20 = .ok (.invokestatic 26, 3) := by decide +kernel
theorem dX3_renew_23 : decode cX3_renew 23 = .ok (.return_, 1) := by decide +kernel
theorem dX3_has_0 : decode cX3_has 0 = .ok (.iload_n 1, 1) := by decide +kernel
theorem dX3_has_1 : decode cX3_has 1 = .ok (.ifCond .lt 29, 3) := by decide +kernel
theorem dX3_has_4 : decode cX3_has 4 = .ok (.iload_n 1, 1) := by decide +kernel
theorem dX3_has_5 : decode cX3_has 5 = .ok (.aload_n 0, 1) := by decide +kernel
theorem dX3_has_6 : decode cX3_has 6 = .ok (.getfield 23, 3) := by decide +kernel
theorem dX3_has_9 : decode cX3_has 9 = .ok (.if_icmp .gt 21, 3) := by decide +kernel
theorem dX3_has_12 : decode cX3_has 12 = .ok (.iload_n 2, 1) := by decide +kernel
theorem dX3_has_13 : decode cX3_has 13 = .ok (.ifCond .lt 17, 3) := by decide +kernel
theorem dX3_has_16 : decode cX3_has 16 = .ok (.iload_n 2, 1) := by decide +kernel
theorem dX3_has_17 : decode cX3_has 17 = .ok (.aload_n 0, 1) := by decide +kernel
theorem dX3_has_18 : decode cX3_has 18 = .ok (.getfield 23, 3) := by decide +kernel
theorem dX3_has_21 : decode cX3_has 21 = .ok (.iload_n 1, 1) := by decide +kernel
theorem dX3_has_22 : decode cX3_has 22 = .ok (.isub, 1) := by decide +kernel
theorem dX3_has_23 : decode cX3_has 23 = .ok (.if_icmp .gt 7, 3) := by decide +kernel
theorem dX3_has_26 : decode cX3_has 26 = .ok (.iconst 1, 1) := by decide +kernel
theorem dX3_has_27 : decode cX3_has 27 = .ok (.goto 4, 3) := by decide +kernel
theorem dX3_has_30 : decode cX3_has 30 = .ok (.iconst 0, 1) := by decide +kernel
theorem dX3_has_31 : decode cX3_has 31 = .ok (.ireturn, 1) := by decide +kernel
theorem dX3_faultOfCells_0 : decode cX3_faultOfCells 0 = .ok (.aload_n 0, 1) := by decide +kernel
theorem dX3_faultOfCells_1 : decode cX3_faultOfCells 1 = .ok (.getfield 15, 3) := by decide +kernel
theorem dX3_faultOfCells_4 : decode cX3_faultOfCells 4 = .ok (.ifCond .ne 5, 3) := by decide +kernel
theorem dX3_faultOfCells_7 : decode cX3_faultOfCells 7 = .ok (.iconst 1, 1) := by decide +kernel
theorem dX3_faultOfCells_8 : decode cX3_faultOfCells 8 = .ok (.ireturn, 1) := by decide +kernel
theorem dX3_faultOfCells_9 : decode cX3_faultOfCells 9 = .ok (.aload_n 0, 1) := by decide +kernel
theorem dX3_faultOfCells_10 : decode cX3_faultOfCells 10 = .ok (.getfield 19, 3) := by decide +kernel
theorem dX3_faultOfCells_13 : decode cX3_faultOfCells 13 = .ok (.iload_n 1, 1) := by decide +kernel
theorem dX3_faultOfCells_14 : decode cX3_faultOfCells 14 = .ok (.if_icmp .eq 5, 3) := by decide +kernel
theorem dX3_faultOfCells_17 : decode cX3_faultOfCells 17 = .ok (.iconst 2, 1) := by decide +kernel
theorem dX3_faultOfCells_18 : decode cX3_faultOfCells 18 = .ok (.ireturn, 1) := by decide +kernel
theorem dX3_faultOfCells_19 : decode cX3_faultOfCells 19 = .ok (.iload_n 3, 1) := by decide +kernel
theorem dX3_faultOfCells_20 : decode cX3_faultOfCells 20 = .ok (.ifCond .ge 5, 3) := by decide +kernel
theorem dX3_faultOfCells_23 : decode cX3_faultOfCells 23 = .ok (.iconst 4, 1) := by decide +kernel
theorem dX3_faultOfCells_24 : decode cX3_faultOfCells 24 = .ok (.ireturn, 1) := by decide +kernel
theorem dX3_faultOfCells_25 : decode cX3_faultOfCells 25 = .ok (.aload_n 0, 1) := by decide +kernel
theorem dX3_faultOfCells_26 : decode cX3_faultOfCells 26 = .ok (.iload_n 2, 1) := by decide +kernel
theorem dX3_faultOfCells_27 : decode cX3_faultOfCells 27 = .ok (.iload_n 3, 1) := by decide +kernel
theorem dX3_faultOfCells_28 : decode cX3_faultOfCells 28 = .ok (.invokevirtual 32, 3) := by decide +kernel
theorem dX3_faultOfCells_31 : decode cX3_faultOfCells 31 = .ok (.ifCond .eq 7, 3) := by decide +kernel
theorem dX3_faultOfCells_34 : decode cX3_faultOfCells 34 = .ok (.iconst 0, 1) := by decide +kernel
theorem dX3_faultOfCells_35 : decode cX3_faultOfCells 35 = .ok (.goto 4, 3) := by decide +kernel
theorem dX3_faultOfCells_38 : decode cX3_faultOfCells 38 = .ok (.iconst 3, 1) := by decide +kernel
theorem dX3_faultOfCells_39 : decode cX3_faultOfCells 39 = .ok (.ireturn, 1) := by decide +kernel
theorem dX3_cut_0 : decode cX3_cut 0 = .ok (.aload_n 0, 1) := by decide +kernel
theorem dX3_cut_1 : decode cX3_cut 1 = .ok (.getfield 19, 3) := by decide +kernel
theorem dX3_cut_4 : decode cX3_cut 4 = .ok (.lookupswitch 34 #[(0, 28), (1, 31)], 28) := by decide +kernel
theorem dX3_cut_32 : decode cX3_cut 32 = .ok (.iload_n 1, 1) := by decide +kernel
theorem dX3_cut_33 : decode cX3_cut 33 = .ok (.i2b, 1) := by decide +kernel
theorem dX3_cut_34 : decode cX3_cut 34 = .ok (.ireturn, 1) := by decide +kernel
theorem dX3_cut_35 : decode cX3_cut 35 = .ok (.iload_n 1, 1) := by decide +kernel
theorem dX3_cut_36 : decode cX3_cut 36 = .ok (.i2s, 1) := by decide +kernel
theorem dX3_cut_37 : decode cX3_cut 37 = .ok (.ireturn, 1) := by decide +kernel
theorem dX3_cut_38 : decode cX3_cut 38 = .ok (.iload_n 1, 1) := by decide +kernel
theorem dX3_cut_39 : decode cX3_cut 39 = .ok (.ireturn, 1) := by decide +kernel
theorem dX3_areRequests_0 : decode cX3_areRequests 0 = .ok (.iload_n 1, 1) := by decide +kernel
theorem dX3_areRequests_1 : decode cX3_areRequests 1 = .ok (.istore_n 3, 1) := by decide +kernel
theorem dX3_areRequests_2 : decode cX3_areRequests 2 = .ok (.iload_n 3, 1) := by decide +kernel
theorem dX3_areRequests_3 : decode cX3_areRequests 3 = .ok (.iload_n 1, 1) := by decide +kernel
theorem dX3_areRequests_4 : decode cX3_areRequests 4 = .ok (.iload_n 2, 1) := by decide +kernel
theorem dX3_areRequests_5 : decode cX3_areRequests 5 = .ok (.iadd, 1) := by decide +kernel
theorem dX3_areRequests_6 : decode cX3_areRequests 6 = .ok (.if_icmp .ge 24, 3) := by decide +kernel
theorem dX3_areRequests_9 : decode cX3_areRequests 9 = .ok (.aload_n 0, 1) := by decide +kernel
theorem dX3_areRequests_10 : decode cX3_areRequests 10 = .ok (.getfield 9, 3) := by decide +kernel
theorem dX3_areRequests_13 : decode cX3_areRequests 13 = .ok (.iload_n 3, 1) := by decide +kernel
theorem dX3_areRequests_14 : decode cX3_areRequests 14 = .ok (.iaload, 1) := by decide +kernel
theorem dX3_areRequests_15 : decode cX3_areRequests 15 = .ok (.iconst 4, 1) := by decide +kernel
theorem dX3_areRequests_16 : decode cX3_areRequests 16 = .ok (.invokestatic 36, 3) := by decide +kernel
theorem dX3_areRequests_19 : decode cX3_areRequests 19 = .ok (.ifCond .ne 5, 3) := by decide +kernel
theorem dX3_areRequests_22 : decode cX3_areRequests 22 = .ok (.iconst 0, 1) := by decide +kernel
theorem dX3_areRequests_23 : decode cX3_areRequests 23 = .ok (.ireturn, 1) := by decide +kernel
theorem dX3_areRequests_24 : decode cX3_areRequests 24 = .ok (.iinc 3 1, 3) := by decide +kernel
theorem dX3_areRequests_27 : decode cX3_areRequests 27 = .ok (.goto (-25), 3) := by decide +kernel
theorem dX3_areRequests_30 : decode cX3_areRequests 30 = .ok (.iconst 1, 1) := by decide +kernel
theorem dX3_areRequests_31 : decode cX3_areRequests 31 = .ok (.ireturn, 1) := by decide +kernel
theorem dX4_init_0 : decode cX4_init 0 = .ok (.aload_n 0, 1) := by decide +kernel
theorem dX4_init_1 : decode cX4_init 1 = .ok (.invokespecial 3, 3) := by decide +kernel
theorem dX4_init_4 : decode cX4_init 4 = .ok (.aload_n 0, 1) := by decide +kernel
theorem dX4_init_5 : decode cX4_init 5 = .ok (.bipush 8, 2) := by decide +kernel
theorem dX4_init_7 : decode cX4_init 7 = .ok (.newarray .int, 2) := by decide +kernel
theorem dX4_init_9 : decode cX4_init 9 = .ok (.putfield 9, 3) := by decide +kernel
theorem dX4_init_12 : decode cX4_init 12 = .ok (.aload_n 0, 1) := by decide +kernel
theorem dX4_init_13 : decode cX4_init 13 = .ok (.bipush 8, 2) := by decide +kernel
theorem dX4_init_15 : decode cX4_init 15 = .ok (.newarray .int, 2) := by decide +kernel
theorem dX4_init_17 : decode cX4_init 17 = .ok (.putfield 15, 3) := by decide +kernel
theorem dX4_init_20 : decode cX4_init 20 = .ok (.aload_n 0, 1) := by decide +kernel
theorem dX4_init_21 : decode cX4_init 21 = .ok (.bipush 8, 2) := by decide +kernel
theorem dX4_init_23 : decode cX4_init 23 = .ok (.newarray .int, 2) := by decide +kernel
theorem dX4_init_25 : decode cX4_init 25 = .ok (.putfield 18, 3) := by decide +kernel
theorem dX4_init_28 : decode cX4_init 28 = .ok (.aload_n 0, 1) := by decide +kernel
theorem dX4_init_29 : decode cX4_init 29 = .ok (.bipush 8, 2) := by decide +kernel
theorem dX4_init_31 : decode cX4_init 31 = .ok (.newarray .int, 2) := by decide +kernel
theorem dX4_init_33 : decode cX4_init 33 = .ok (.putfield 21, 3) := by decide +kernel
theorem dX4_init_36 : decode cX4_init 36 = .ok (.aload_n 0, 1) := by decide +kernel
theorem dX4_init_37 : decode cX4_init 37 = .ok (.bipush 6, 2) := by decide +kernel
theorem dX4_init_39 : decode cX4_init 39 = .ok (.newarray .int, 2) := by decide +kernel
theorem dX4_init_41 : decode cX4_init 41 = .ok (.putfield 24, 3) := by decide +kernel
theorem dX4_init_44 : decode cX4_init 44 = .ok (.aload_n 0, 1) := by decide +kernel
theorem dX4_init_45 : decode cX4_init 45 = .ok (.bipush 6, 2) := by decide +kernel
theorem dX4_init_47 : decode cX4_init 47 = .ok (.newarray .int, 2) := by decide +kernel
theorem dX4_init_49 : decode cX4_init 49 = .ok (.putfield 27, 3) := by decide +kernel
theorem dX4_init_52 : decode cX4_init 52 = .ok (.aload_n 0, 1) := by decide +kernel
theorem dX4_init_53 : decode cX4_init 53 = .ok (.bipush 8, 2) := by decide +kernel
theorem dX4_init_55 : decode cX4_init 55 = .ok (.newarray .int, 2) := by decide +kernel
theorem dX4_init_57 : decode cX4_init 57 = .ok (.putfield 30, 3) := by decide +kernel
theorem dX4_init_60 : decode cX4_init 60 = .ok (.aload_n 0, 1) := by decide +kernel
theorem dX4_init_61 : decode cX4_init 61 = .ok (.bipush 8, 2) := by decide +kernel
theorem dX4_init_63 : decode cX4_init 63 = .ok (.newarray .int, 2) := by decide +kernel
theorem dX4_init_65 : decode cX4_init 65 = .ok (.putfield 33, 3) := by decide +kernel
theorem dX4_init_68 : decode cX4_init 68 = .ok (.return_, 1) := by decide +kernel
theorem dX4_isLaid_0 : decode cX4_isLaid 0 = .ok (.aload_n 0, 1) := by decide +kernel
theorem dX4_isLaid_1 : decode cX4_isLaid 1 = .ok (.getfield 36, 3) := by decide +kernel
theorem dX4_isLaid_4 : decode cX4_isLaid 4 = .ok (.ifCond .le 7, 3) := by decide +kernel
theorem dX4_isLaid_7 : decode cX4_isLaid 7 = .ok (.iconst 1, 1) := by decide +kernel
theorem dX4_isLaid_8 : decode cX4_isLaid 8 = .ok (.goto 4, 3) := by decide +kernel
theorem dX4_isLaid_11 : decode cX4_isLaid 11 = .ok (.iconst 0, 1) := by decide +kernel
theorem dX4_isLaid_12 : decode cX4_isLaid 12 = .ok (.ireturn, 1) := by decide +kernel
theorem dX4_lay_0 : decode cX4_lay 0 = .ok (.aload_n 0, 1) := by decide +kernel
theorem dX4_lay_1 : decode cX4_lay 1 = .ok (.iconst 0, 1) := by decide +kernel
theorem dX4_lay_2 : decode cX4_lay 2 = .ok (.putfield 40, 3) := by decide +kernel
theorem dX4_lay_5 : decode cX4_lay 5 = .ok (.aload_n 1, 1) := by decide +kernel
theorem dX4_lay_6 : decode cX4_lay 6 = .ok (.bipush 116, 2) := by decide +kernel
theorem dX4_lay_8 : decode cX4_lay 8 = .ok (.invokevirtual 43, 3) := by decide +kernel
theorem dX4_lay_11 : decode cX4_lay 11 = .ok (.ifCond .eq 46, 3) := by decide +kernel
theorem dX4_lay_14 : decode cX4_lay 14 = .ok (.aload_n 0, 1) := by decide +kernel
theorem dX4_lay_15 : decode cX4_lay 15 = .ok (.aload_n 1, 1) := by decide +kernel
theorem dX4_lay_16 : decode cX4_lay 16 = .ok (.invokevirtual 49, 3) := by decide +kernel
theorem dX4_lay_19 : decode cX4_lay 19 = .ok (.ifCond .eq 38, 3) := by decide +kernel
theorem dX4_lay_22 : decode cX4_lay 22 = .ok (.aload_n 0, 1) := by decide +kernel
theorem dX4_lay_23 : decode cX4_lay 23 = .ok (.aload_n 1, 1) := by decide +kernel
theorem dX4_lay_24 : decode cX4_lay 24 = .ok (.invokevirtual 53, 3) := by decide +kernel
theorem dX4_lay_27 : decode cX4_lay 27 = .ok (.ifCond .eq 30, 3) := by decide +kernel
theorem dX4_lay_30 : decode cX4_lay 30 = .ok (.aload_n 0, 1) := by decide +kernel
theorem dX4_lay_31 : decode cX4_lay 31 = .ok (.aload_n 1, 1) := by decide +kernel
theorem dX4_lay_32 : decode cX4_lay 32 = .ok (.invokevirtual 56, 3) := by decide +kernel
theorem dX4_lay_35 : decode cX4_lay 35 = .ok (.ifCond .eq 22, 3) := by decide +kernel
theorem dX4_lay_38 : decode cX4_lay 38 = .ok (.aload_n 0, 1) := by decide +kernel
theorem dX4_lay_39 : decode cX4_lay 39 = .ok (.aload_n 1, 1) := by decide +kernel
theorem dX4_lay_40 : decode cX4_lay 40 = .ok (.invokevirtual 59, 3) := by decide +kernel
theorem dX4_lay_43 : decode cX4_lay 43 = .ok (.ifCond .eq 14, 3) := by decide +kernel
theorem dX4_lay_46 : decode cX4_lay 46 = .ok (.aload_n 1, 1) := by decide +kernel
theorem dX4_lay_47 : decode cX4_lay 47 = .ok (.invokevirtual 62, 3) := by decide +kernel
theorem dX4_lay_50 : decode cX4_lay 50 = .ok (.ifCond .eq 7, 3) := by decide +kernel
theorem dX4_lay_53 : decode cX4_lay 53 = .ok (.iconst 1, 1) := by decide +kernel
theorem dX4_lay_54 : decode cX4_lay 54 = .ok (.goto 4, 3) := by decide +kernel
theorem dX4_lay_57 : decode cX4_lay 57 = .ok (.iconst 0, 1) := by decide +kernel
theorem dX4_lay_58 : decode cX4_lay 58 = .ok (.ireturn, 1) := by decide +kernel
theorem dX4_laySoup_0 : decode cX4_laySoup 0 = .ok (.aload_n 0, 1) := by decide +kernel
theorem dX4_laySoup_1 : decode cX4_laySoup 1 = .ok (.aload_n 1, 1) := by decide +kernel
theorem dX4_laySoup_2 : decode cX4_laySoup 2 = .ok (.iconst 4, 1) := by decide +kernel
theorem dX4_laySoup_3 : decode cX4_laySoup 3 = .ok (.invokevirtual 66, 3) := by decide +kernel
theorem dX4_laySoup_6 : decode cX4_laySoup 6 = .ok (.putfield 70, 3) := by decide +kernel
theorem dX4_laySoup_9 : decode cX4_laySoup 9 = .ok (.aload_n 0, 1) := by decide +kernel
theorem dX4_laySoup_10 : decode cX4_laySoup 10 = .ok (.getfield 70, 3) := by decide +kernel
theorem dX4_laySoup_13 : decode cX4_laySoup 13 = .ok (.bipush (-9), 2) := by decide +kernel
theorem dX4_laySoup_15 : decode cX4_laySoup 15 = .ok (.if_icmp .eq 7, 3) := by decide +kernel
theorem dX4_laySoup_18 : decode cX4_laySoup 18 = .ok (.iconst 1, 1) := by decide +kernel
theorem dX4_laySoup_19 : decode cX4_laySoup 19 = .ok (.goto 4, 3) := by decide +kernel
theorem dX4_laySoup_22 : decode cX4_laySoup 22 = .ok (.iconst 0, 1) := by decide +kernel
theorem dX4_laySoup_23 : decode cX4_laySoup 23 = .ok (.ireturn, 1) := by decide +kernel
theorem dX4_layGuests_0 : decode cX4_layGuests 0 = .ok (.iconst 0, 1) := by decide +kernel
theorem dX4_layGuests_1 : decode cX4_layGuests 1 = .ok (.istore_n 2, 1) := by decide +kernel
theorem dX4_layGuests_2 : decode cX4_layGuests 2 = .ok (.iload_n 2, 1) := by decide +kernel
theorem dX4_layGuests_3 : decode cX4_layGuests 3 = .ok (.bipush 8, 2) := by decide +kernel
theorem dX4_layGuests_5 : decode cX4_layGuests 5 = .ok (.if_icmp .ge 34, 3) := by decide +kernel
theorem dX4_layGuests_8 : decode cX4_layGuests 8 = .ok (.iload_n 2, 1) := by decide +kernel
theorem dX4_layGuests_9 : decode cX4_layGuests 9 = .ok (.iconst 3, 1) := by decide +kernel
theorem dX4_layGuests_10 : decode cX4_layGuests 10 = .ok (.if_icmp .lt 12, 3) := by decide +kernel
theorem dX4_layGuests_13 : decode cX4_layGuests 13 = .ok (.aload_n 1, 1) := by decide +kernel
theorem dX4_layGuests_14 : decode cX4_layGuests 14 = .ok (.bipush 47, 2) := by decide +kernel
theorem dX4_layGuests_16 : decode cX4_layGuests 16 = .ok (.invokevirtual 73, 3) := by decide +kernel
theorem dX4_layGuests_19 : decode cX4_layGuests 19 = .ok (.ifCond .ne 20, 3) := by decide +kernel
theorem dX4_layGuests_22 : decode cX4_layGuests 22 = .ok (.aload_n 0, 1) := by decide +kernel
theorem dX4_layGuests_23 : decode cX4_layGuests 23 = .ok (.aload_n 1, 1) := by decide +kernel
theorem dX4_layGuests_24 : decode cX4_layGuests 24 = .ok (.iload_n 2, 1) := by decide +kernel
theorem dX4_layGuests_25 : decode cX4_layGuests 25 = .ok (.invokevirtual 76, 3) := by decide +kernel
theorem dX4_layGuests_28 : decode cX4_layGuests 28 = .ok (.ifCond .ne 5, 3) := by decide +kernel
theorem dX4_layGuests_31 : decode cX4_layGuests 31 = .ok (.iconst 0, 1) := by decide +kernel
theorem dX4_layGuests_32 : decode cX4_layGuests 32 = .ok (.ireturn, 1) := by decide +kernel
theorem dX4_layGuests_33 : decode cX4_layGuests 33 = .ok (.iinc 2 1, 3) := by decide +kernel
theorem dX4_layGuests_36 : decode cX4_layGuests 36 = .ok (.goto (-34), 3) := by decide +kernel
theorem dX4_layGuests_39 : decode cX4_layGuests 39 = .ok (.aload_n 0, 1) := by decide +kernel
theorem dX4_layGuests_40 : decode cX4_layGuests 40 = .ok (.iload_n 2, 1) := by decide +kernel
theorem dX4_layGuests_41 : decode cX4_layGuests 41 = .ok (.putfield 36, 3) := by decide +kernel
theorem dX4_layGuests_44 : decode cX4_layGuests 44 = .ok (.iconst 1, 1) := by decide +kernel
theorem dX4_layGuests_45 : decode cX4_layGuests 45 = .ok (.ireturn, 1) := by decide +kernel
theorem dX4_layGuest_0 : decode cX4_layGuest 0 = .ok (.aload_n 1, 1) := by decide +kernel
theorem dX4_layGuest_1 : decode cX4_layGuest 1 = .ok (.bipush 44, 2) := by decide +kernel
theorem dX4_layGuest_3 : decode cX4_layGuest 3 = .ok (.invokevirtual 43, 3) := by decide +kernel
theorem dX4_layGuest_6 : decode cX4_layGuest 6 = .ok (.ifCond .ne 5, 3) := by decide +kernel
theorem dX4_layGuest_9 : decode cX4_layGuest 9 = .ok (.iconst 0, 1) := by decide +kernel
theorem dX4_layGuest_10 : decode cX4_layGuest 10 = .ok (.ireturn, 1) := by decide +kernel
theorem dX4_layGuest_11 : decode cX4_layGuest 11 = .ok (.aload_n 0, 1) := by decide +kernel
theorem dX4_layGuest_12 : decode cX4_layGuest 12 = .ok (.getfield 9, 3) := by decide +kernel
theorem dX4_layGuest_15 : decode cX4_layGuest 15 = .ok (.iload_n 2, 1) := by decide +kernel
theorem dX4_layGuest_16 : decode cX4_layGuest 16 = .ok (.aload_n 1, 1) := by decide +kernel
theorem dX4_layGuest_17 : decode cX4_layGuest 17 = .ok (.invokevirtual 80, 3) := by decide +kernel
theorem dX4_layGuest_20 : decode cX4_layGuest 20 = .ok (.iastore, 1) := by decide +kernel
theorem dX4_layGuest_21 : decode cX4_layGuest 21 = .ok (.aload_n 0, 1) := by decide +kernel
theorem dX4_layGuest_22 : decode cX4_layGuest 22 = .ok (.getfield 9, 3) := by decide +kernel
theorem dX4_layGuest_25 : decode cX4_layGuest 25 = .ok (.iload_n 2, 1) := by decide +kernel
theorem dX4_layGuest_26 : decode cX4_layGuest 26 = .ok (.iaload, 1) := by decide +kernel
theorem dX4_layGuest_27 : decode cX4_layGuest 27 = .ok (.bipush (-9), 2) := by decide +kernel
theorem dX4_layGuest_29 : decode cX4_layGuest 29 = .ok (.if_icmp .ne 5, 3) := by decide +kernel
theorem dX4_layGuest_32 : decode cX4_layGuest 32 = .ok (.iconst 0, 1) := by decide +kernel
theorem dX4_layGuest_33 : decode cX4_layGuest 33 = .ok (.ireturn, 1) := by decide +kernel
theorem dX4_layGuest_34 : decode cX4_layGuest 34 = .ok (.aload_n 0, 1) := by decide +kernel
theorem dX4_layGuest_35 : decode cX4_layGuest 35 = .ok (.getfield 15, 3) := by decide +kernel
theorem dX4_layGuest_38 : decode cX4_layGuest 38 = .ok (.iload_n 2, 1) := by decide +kernel
theorem dX4_layGuest_39 : decode cX4_layGuest 39 = .ok (.aload_n 1, 1) := by decide +kernel
theorem dX4_layGuest_40 : decode cX4_layGuest 40 = .ok (.bipush 10, 2) := by decide +kernel
theorem dX4_layGuest_42 : decode cX4_layGuest 42 = .ok (.invokevirtual 66, 3) := by decide +kernel
theorem dX4_layGuest_45 : decode cX4_layGuest 45 = .ok (.iastore, 1) := by decide +kernel
theorem dX4_layGuest_46 : decode cX4_layGuest 46 = .ok (.aload_n 0, 1) := by decide +kernel
theorem dX4_layGuest_47 : decode cX4_layGuest 47 = .ok (.getfield 15, 3) := by decide +kernel
theorem dX4_layGuest_50 : decode cX4_layGuest 50 = .ok (.iload_n 2, 1) := by decide +kernel
theorem dX4_layGuest_51 : decode cX4_layGuest 51 = .ok (.iaload, 1) := by decide +kernel
theorem dX4_layGuest_52 : decode cX4_layGuest 52 = .ok (.bipush (-9), 2) := by decide +kernel
theorem dX4_layGuest_54 : decode cX4_layGuest 54 = .ok (.if_icmp .ne 5, 3) := by decide +kernel
theorem dX4_layGuest_57 : decode cX4_layGuest 57 = .ok (.iconst 0, 1) := by decide +kernel
theorem dX4_layGuest_58 : decode cX4_layGuest 58 = .ok (.ireturn, 1) := by decide +kernel
theorem dX4_layGuest_59 : decode cX4_layGuest 59 = .ok (.aload_n 0, 1) := by decide +kernel
theorem dX4_layGuest_60 : decode cX4_layGuest 60 = .ok (.getfield 18, 3) := by decide +kernel
theorem dX4_layGuest_63 : decode cX4_layGuest 63 = .ok (.iload_n 2, 1) := by decide +kernel
theorem dX4_layGuest_64 : decode cX4_layGuest 64 = .ok (.aload_n 1, 1) := by decide +kernel
theorem dX4_layGuest_65 : decode cX4_layGuest 65 = .ok (.iconst 4, 1) := by decide +kernel
theorem dX4_layGuest_66 : decode cX4_layGuest 66 = .ok (.invokevirtual 66, 3) := by decide +kernel
theorem dX4_layGuest_69 : decode cX4_layGuest 69 = .ok (.iastore, 1) := by decide +kernel
theorem dX4_layGuest_70 : decode cX4_layGuest 70 = .ok (.aload_n 0, 1) := by decide +kernel
theorem dX4_layGuest_71 : decode cX4_layGuest 71 = .ok (.getfield 18, 3) := by decide +kernel
theorem dX4_layGuest_74 : decode cX4_layGuest 74 = .ok (.iload_n 2, 1) := by decide +kernel
theorem dX4_layGuest_75 : decode cX4_layGuest 75 = .ok (.iaload, 1) := by decide +kernel
theorem dX4_layGuest_76 : decode cX4_layGuest 76 = .ok (.bipush (-9), 2) := by decide +kernel
theorem dX4_layGuest_78 : decode cX4_layGuest 78 = .ok (.if_icmp .eq 7, 3) := by decide +kernel
theorem dX4_layGuest_81 : decode cX4_layGuest 81 = .ok (.iconst 1, 1) := by decide +kernel
theorem dX4_layGuest_82 : decode cX4_layGuest 82 = .ok (.goto 4, 3) := by decide +kernel
theorem dX4_layGuest_85 : decode cX4_layGuest 85 = .ok (.iconst 0, 1) := by decide +kernel
theorem dX4_layGuest_86 : decode cX4_layGuest 86 = .ok (.ireturn, 1) := by decide +kernel
theorem dX4_layBorder_0 : decode cX4_layBorder 0 = .ok (.aload_n 1, 1) := by decide +kernel
theorem dX4_layBorder_1 : decode cX4_layBorder 1 = .ok (.bipush 47, 2) := by decide +kernel
theorem dX4_layBorder_3 : decode cX4_layBorder 3 = .ok (.invokevirtual 43, 3) := by decide +kernel
theorem dX4_layBorder_6 : decode cX4_layBorder 6 = .ok (.ifCond .ne 5, 3) := by decide +kernel
theorem dX4_layBorder_9 : decode cX4_layBorder 9 = .ok (.iconst 0, 1) := by decide +kernel
theorem dX4_layBorder_10 : decode cX4_layBorder 10 = .ok (.ireturn, 1) := by decide +kernel
theorem dX4_layBorder_11 : decode cX4_layBorder 11 = .ok (.aload_n 1, 1) := by decide +kernel
theorem dX4_layBorder_12 : decode cX4_layBorder 12 = .ok (.aload_n 0, 1) := by decide +kernel
theorem dX4_layBorder_13 : decode cX4_layBorder 13 = .ok (.getfield 36, 3) := by decide +kernel
theorem dX4_layBorder_16 : decode cX4_layBorder 16 = .ok (.invokevirtual 66, 3) := by decide +kernel
theorem dX4_layBorder_19 : decode cX4_layBorder 19 = .ok (.istore_n 2, 1) := by decide +kernel
theorem dX4_layBorder_20 : decode cX4_layBorder 20 = .ok (.iload_n 2, 1) := by decide +kernel
theorem dX4_layBorder_21 : decode cX4_layBorder 21 = .ok (.bipush (-9), 2) := by decide +kernel
theorem dX4_layBorder_23 : decode cX4_layBorder 23 = .ok (.if_icmp .ne 5, 3) := by decide +kernel
theorem dX4_layBorder_26 : decode cX4_layBorder 26 = .ok (.iconst 0, 1) := by decide +kernel
theorem dX4_layBorder_27 : decode cX4_layBorder 27 = .ok (.ireturn, 1) := by decide +kernel
theorem dX4_layBorder_28 : decode cX4_layBorder 28 = .ok (.aload_n 1, 1) := by decide +kernel
theorem dX4_layBorder_29 : decode cX4_layBorder 29 = .ok (.aload_n 0, 1) := by decide +kernel
theorem dX4_layBorder_30 : decode cX4_layBorder 30 = .ok (.getfield 36, 3) := by decide +kernel
theorem dX4_layBorder_33 : decode cX4_layBorder 33 = .ok (.iload_n 2, 1) := by decide +kernel
theorem dX4_layBorder_34 : decode cX4_layBorder 34 = .ok (.invokevirtual 84, 3) := by decide +kernel
theorem dX4_layBorder_37 : decode cX4_layBorder 37 = .ok (.istore_n 3, 1) := by decide +kernel
theorem dX4_layBorder_38 : decode cX4_layBorder 38 = .ok (.iload_n 3, 1) := by decide +kernel
theorem dX4_layBorder_39 : decode cX4_layBorder 39 = .ok (.bipush (-9), 2) := by decide +kernel
theorem dX4_layBorder_41 : decode cX4_layBorder 41 = .ok (.if_icmp .ne 5, 3) := by decide +kernel
theorem dX4_layBorder_44 : decode cX4_layBorder 44 = .ok (.iconst 0, 1) := by decide +kernel
theorem dX4_layBorder_45 : decode cX4_layBorder 45 = .ok (.ireturn, 1) := by decide +kernel
theorem dX4_layBorder_46 : decode cX4_layBorder 46 = .ok (.aload_n 0, 1) := by decide +kernel
theorem dX4_layBorder_47 : decode cX4_layBorder 47 = .ok (.iload_n 2, 1) := by decide +kernel
theorem dX4_layBorder_48 : decode cX4_layBorder 48 = .ok (.iload_n 3, 1) := by decide +kernel
theorem dX4_layBorder_49 : decode cX4_layBorder 49 = .ok (.invokestatic 88, 3) := by decide +kernel
theorem dX4_layBorder_52 : decode cX4_layBorder 52 = .ok (.putfield 91, 3) := by decide +kernel
theorem dX4_layBorder_55 : decode cX4_layBorder 55 = .ok (.iconst 1, 1) := by decide +kernel
theorem dX4_layBorder_56 : decode cX4_layBorder 56 = .ok (.ireturn, 1) := by decide +kernel
theorem dX4_layDishes_0 : decode cX4_layDishes 0 = .ok (.iconst 0, 1) := by decide +kernel
theorem dX4_layDishes_1 : decode cX4_layDishes 1 = .ok (.istore_n 2, 1) := by decide +kernel
theorem dX4_layDishes_2 : decode cX4_layDishes 2 = .ok (.iload_n 2, 1) := by decide +kernel
theorem dX4_layDishes_3 : decode cX4_layDishes 3 = .ok (.bipush 6, 2) := by decide +kernel
theorem dX4_layDishes_5 : decode cX4_layDishes 5 = .ok (.if_icmp .ge 31, 3) := by decide +kernel
theorem dX4_layDishes_8 : decode cX4_layDishes 8 = .ok (.iload_n 2, 1) := by decide +kernel
theorem dX4_layDishes_9 : decode cX4_layDishes 9 = .ok (.ifCond .le 10, 3) := by decide +kernel
theorem dX4_layDishes_12 : decode cX4_layDishes 12 = .ok (.aload_n 1, 1) := by decide +kernel
theorem dX4_layDishes_13 : decode cX4_layDishes 13 = .ok (.invokevirtual 62, 3) := by decide +kernel
theorem dX4_layDishes_16 : decode cX4_layDishes 16 = .ok (.ifCond .ne 20, 3) := by decide +kernel
theorem dX4_layDishes_19 : decode cX4_layDishes 19 = .ok (.aload_n 0, 1) := by decide +kernel
theorem dX4_layDishes_20 : decode cX4_layDishes 20 = .ok (.aload_n 1, 1) := by decide +kernel
theorem dX4_layDishes_21 : decode cX4_layDishes 21 = .ok (.iload_n 2, 1) := by decide +kernel
theorem dX4_layDishes_22 : decode cX4_layDishes 22 = .ok (.invokevirtual 94, 3) := by decide +kernel
theorem dX4_layDishes_25 : decode cX4_layDishes 25 = .ok (.ifCond .ne 5, 3) := by decide +kernel
theorem dX4_layDishes_28 : decode cX4_layDishes 28 = .ok (.iconst 0, 1) := by decide +kernel
theorem dX4_layDishes_29 : decode cX4_layDishes 29 = .ok (.ireturn, 1) := by decide +kernel
theorem dX4_layDishes_30 : decode cX4_layDishes 30 = .ok (.iinc 2 1, 3) := by decide +kernel
theorem dX4_layDishes_33 : decode cX4_layDishes 33 = .ok (.goto (-31), 3) := by decide +kernel
theorem dX4_layDishes_36 : decode cX4_layDishes 36 = .ok (.aload_n 0, 1) := by decide +kernel
theorem dX4_layDishes_37 : decode cX4_layDishes 37 = .ok (.iload_n 2, 1) := by decide +kernel
theorem dX4_layDishes_38 : decode cX4_layDishes 38 = .ok (.putfield 97, 3) := by decide +kernel
theorem dX4_layDishes_41 : decode cX4_layDishes 41 = .ok (.iconst 1, 1) := by decide +kernel
theorem dX4_layDishes_42 : decode cX4_layDishes 42 = .ok (.ireturn, 1) := by decide +kernel
theorem dX4_layDish_0 : decode cX4_layDish 0 = .ok (.aload_n 1, 1) := by decide +kernel
theorem dX4_layDish_1 : decode cX4_layDish 1 = .ok (.bipush 59, 2) := by decide +kernel
theorem dX4_layDish_3 : decode cX4_layDish 3 = .ok (.invokevirtual 43, 3) := by decide +kernel
theorem dX4_layDish_6 : decode cX4_layDish 6 = .ok (.ifCond .ne 5, 3) := by decide +kernel
theorem dX4_layDish_9 : decode cX4_layDish 9 = .ok (.iconst 0, 1) := by decide +kernel
theorem dX4_layDish_10 : decode cX4_layDish 10 = .ok (.ireturn, 1) := by decide +kernel
theorem dX4_layDish_11 : decode cX4_layDish 11 = .ok (.aload_n 0, 1) := by decide +kernel
theorem dX4_layDish_12 : decode cX4_layDish 12 = .ok (.getfield 24, 3) := by decide +kernel
theorem dX4_layDish_15 : decode cX4_layDish 15 = .ok (.iload_n 2, 1) := by decide +kernel
theorem dX4_layDish_16 : decode cX4_layDish 16 = .ok (.aload_n 1, 1) := by decide +kernel
theorem dX4_layDish_17 : decode cX4_layDish 17 = .ok (.aload_n 0, 1) := by decide +kernel
theorem dX4_layDish_18 : decode cX4_layDish 18 = .ok (.getfield 36, 3) := by decide +kernel
theorem dX4_layDish_21 : decode cX4_layDish 21 = .ok (.invokevirtual 66, 3) := by decide +kernel
theorem dX4_layDish_24 : decode cX4_layDish 24 = .ok (.iastore, 1) := by decide +kernel
theorem dX4_layDish_25 : decode cX4_layDish 25 = .ok (.aload_n 0, 1) := by decide +kernel
theorem dX4_layDish_26 : decode cX4_layDish 26 = .ok (.getfield 24, 3) := by decide +kernel
theorem dX4_layDish_29 : decode cX4_layDish 29 = .ok (.iload_n 2, 1) := by decide +kernel
theorem dX4_layDish_30 : decode cX4_layDish 30 = .ok (.iaload, 1) := by decide +kernel
theorem dX4_layDish_31 : decode cX4_layDish 31 = .ok (.bipush (-9), 2) := by decide +kernel
theorem dX4_layDish_33 : decode cX4_layDish 33 = .ok (.if_icmp .ne 5, 3) := by decide +kernel
theorem dX4_layDish_36 : decode cX4_layDish 36 = .ok (.iconst 0, 1) := by decide +kernel
theorem dX4_layDish_37 : decode cX4_layDish 37 = .ok (.ireturn, 1) := by decide +kernel
theorem dX4_layDish_38 : decode cX4_layDish 38 = .ok (.aload_n 0, 1) := by decide +kernel
theorem dX4_layDish_39 : decode cX4_layDish 39 = .ok (.getfield 27, 3) := by decide +kernel
theorem dX4_layDish_42 : decode cX4_layDish 42 = .ok (.iload_n 2, 1) := by decide +kernel
theorem dX4_layDish_43 : decode cX4_layDish 43 = .ok (.aload_n 1, 1) := by decide +kernel
theorem dX4_layDish_44 : decode cX4_layDish 44 = .ok (.bipush 10, 2) := by decide +kernel
theorem dX4_layDish_46 : decode cX4_layDish 46 = .ok (.invokevirtual 66, 3) := by decide +kernel
theorem dX4_layDish_49 : decode cX4_layDish 49 = .ok (.iastore, 1) := by decide +kernel
theorem dX4_layDish_50 : decode cX4_layDish 50 = .ok (.aload_n 0, 1) := by decide +kernel
theorem dX4_layDish_51 : decode cX4_layDish 51 = .ok (.getfield 27, 3) := by decide +kernel
theorem dX4_layDish_54 : decode cX4_layDish 54 = .ok (.iload_n 2, 1) := by decide +kernel
theorem dX4_layDish_55 : decode cX4_layDish 55 = .ok (.iaload, 1) := by decide +kernel
theorem dX4_layDish_56 : decode cX4_layDish 56 = .ok (.bipush (-9), 2) := by decide +kernel
theorem dX4_layDish_58 : decode cX4_layDish 58 = .ok (.if_icmp .eq 7, 3) := by decide +kernel
theorem dX4_layDish_61 : decode cX4_layDish 61 = .ok (.iconst 1, 1) := by decide +kernel
theorem dX4_layDish_62 : decode cX4_layDish 62 = .ok (.goto 4, 3) := by decide +kernel
theorem dX4_layDish_65 : decode cX4_layDish 65 = .ok (.iconst 0, 1) := by decide +kernel
theorem dX4_layDish_66 : decode cX4_layDish 66 = .ok (.ireturn, 1) := by decide +kernel
theorem dX4_stepsBehind_0 : decode cX4_stepsBehind 0 = .ok (.iload_n 2, 1) := by decide +kernel
theorem dX4_stepsBehind_1 : decode cX4_stepsBehind 1 = .ok (.iload_n 1, 1) := by decide +kernel
theorem dX4_stepsBehind_2 : decode cX4_stepsBehind 2 = .ok (.if_icmp .lt 9, 3) := by decide +kernel
theorem dX4_stepsBehind_5 : decode cX4_stepsBehind 5 = .ok (.iload_n 2, 1) := by decide +kernel
theorem dX4_stepsBehind_6 : decode cX4_stepsBehind 6 = .ok (.iload_n 1, 1) := by decide +kernel
theorem dX4_stepsBehind_7 : decode cX4_stepsBehind 7 = .ok (.isub, 1) := by decide +kernel
theorem dX4_stepsBehind_8 : decode cX4_stepsBehind 8 = .ok (.goto 11, 3) := by decide +kernel
theorem dX4_stepsBehind_11 : decode cX4_stepsBehind 11 = .ok (.iload_n 2, 1) := by decide +kernel
theorem dX4_stepsBehind_12 : decode cX4_stepsBehind 12 = .ok (.iload_n 1, 1) := by decide +kernel
theorem dX4_stepsBehind_13 : decode cX4_stepsBehind 13 = .ok (.isub, 1) := by decide +kernel
theorem dX4_stepsBehind_14 : decode cX4_stepsBehind 14 = .ok (.aload_n 0, 1) := by decide +kernel
theorem dX4_stepsBehind_15 : decode cX4_stepsBehind 15 = .ok (.getfield 36, 3) := by decide +kernel
theorem dX4_stepsBehind_18 : decode cX4_stepsBehind 18 = .ok (.iadd, 1) := by decide +kernel
theorem dX4_stepsBehind_19 : decode cX4_stepsBehind 19 = .ok (.ireturn, 1) := by decide +kernel
theorem dX4_ownerOf_0 : decode cX4_ownerOf 0 = .ok (.iload_n 2, 1) := by decide +kernel
theorem dX4_ownerOf_1 : decode cX4_ownerOf 1 = .ok (.invokestatic 100, 3) := by decide +kernel
theorem dX4_ownerOf_4 : decode cX4_ownerOf 4 = .ok (.istore_n 3, 1) := by decide +kernel
theorem dX4_ownerOf_5 : decode cX4_ownerOf 5 = .ok (.iload_n 2, 1) := by decide +kernel
theorem dX4_ownerOf_6 : decode cX4_ownerOf 6 = .ok (.invokestatic 103, 3) := by decide +kernel
theorem dX4_ownerOf_9 : decode cX4_ownerOf 9 = .ok (.istore 4, 2) := by decide +kernel
theorem dX4_ownerOf_11 : decode cX4_ownerOf 11 = .ok (.iload_n 1, 1) := by decide +kernel
theorem dX4_ownerOf_12 : decode cX4_ownerOf 12 = .ok (.iload_n 3, 1) := by decide +kernel
theorem dX4_ownerOf_13 : decode cX4_ownerOf 13 = .ok (.if_icmp .eq 9, 3) := by decide +kernel
theorem dX4_ownerOf_16 : decode cX4_ownerOf 16 = .ok (.iload_n 1, 1) := by decide +kernel
theorem dX4_ownerOf_17 : decode cX4_ownerOf 17 = .ok (.iload 4, 2) := by decide +kernel
theorem dX4_ownerOf_19 : decode cX4_ownerOf 19 = .ok (.if_icmp .ne 6, 3) := by decide +kernel
theorem dX4_ownerOf_22 : decode cX4_ownerOf 22 = .ok (.bipush (-9), 2) := by decide +kernel
theorem dX4_ownerOf_24 : decode cX4_ownerOf 24 = .ok (.ireturn, 1) := by decide +kernel
theorem dX4_ownerOf_25 : decode cX4_ownerOf 25 = .ok (.aload_n 0, 1) := by decide +kernel
theorem dX4_ownerOf_26 : decode cX4_ownerOf 26 = .ok (.iload_n 3, 1) := by decide +kernel
theorem dX4_ownerOf_27 : decode cX4_ownerOf 27 = .ok (.iload_n 1, 1) := by decide +kernel
theorem dX4_ownerOf_28 : decode cX4_ownerOf 28 = .ok (.invokevirtual 106, 3) := by decide +kernel
theorem dX4_ownerOf_31 : decode cX4_ownerOf 31 = .ok (.aload_n 0, 1) := by decide +kernel
theorem dX4_ownerOf_32 : decode cX4_ownerOf 32 = .ok (.iload_n 3, 1) := by decide +kernel
theorem dX4_ownerOf_33 : decode cX4_ownerOf 33 = .ok (.iload 4, 2) := by decide +kernel
theorem dX4_ownerOf_35 : decode cX4_ownerOf 35 = .ok (.invokevirtual 106, 3) := by decide +kernel
theorem dX4_ownerOf_38 : decode cX4_ownerOf 38 = .ok (.if_icmp .ge 7, 3) := by decide +kernel
theorem dX4_ownerOf_41 : decode cX4_ownerOf 41 = .ok (.iconst 0, 1) := by decide +kernel
theorem dX4_ownerOf_42 : decode cX4_ownerOf 42 = .ok (.goto 4, 3) := by decide +kernel
theorem dX4_ownerOf_45 : decode cX4_ownerOf 45 = .ok (.iconst 1, 1) := by decide +kernel
theorem dX4_ownerOf_46 : decode cX4_ownerOf 46 = .ok (.ireturn, 1) := by decide +kernel
theorem dX4_ownerOfDish_0 : decode cX4_ownerOfDish 0 = .ok (.aload_n 0, 1) := by decide +kernel
theorem dX4_ownerOfDish_1 : decode cX4_ownerOfDish 1 = .ok (.aload_n 0, 1) := by decide +kernel
theorem dX4_ownerOfDish_2 : decode cX4_ownerOfDish 2 = .ok (.getfield 24, 3) := by decide +kernel
theorem dX4_ownerOfDish_5 : decode cX4_ownerOfDish 5 = .ok (.iload_n 1, 1) := by decide +kernel
theorem dX4_ownerOfDish_6 : decode cX4_ownerOfDish 6 = .ok (.iaload, 1) := by decide +kernel
theorem dX4_ownerOfDish_7 : decode cX4_ownerOfDish 7 = .ok (.iload_n 2, 1) := by decide +kernel
theorem dX4_ownerOfDish_8 : decode cX4_ownerOfDish 8 = .ok (.invokevirtual 109, 3) := by decide +kernel
theorem dX4_ownerOfDish_11 : decode cX4_ownerOfDish 11 = .ok (.ireturn, 1) := by decide +kernel
theorem dX4_landOf_0 : decode cX4_landOf 0 = .ok (.iconst 0, 1) := by decide +kernel
theorem dX4_landOf_1 : decode cX4_landOf 1 = .ok (.istore_n 3, 1) := by decide +kernel
theorem dX4_landOf_2 : decode cX4_landOf 2 = .ok (.iconst 0, 1) := by decide +kernel
theorem dX4_landOf_3 : decode cX4_landOf 3 = .ok (.istore 4, 2) := by decide +kernel
theorem dX4_landOf_5 : decode cX4_landOf 5 = .ok (.iload 4, 2) := by decide +kernel
theorem dX4_landOf_7 : decode cX4_landOf 7 = .ok (.aload_n 0, 1) := by decide +kernel
theorem dX4_landOf_8 : decode cX4_landOf 8 = .ok (.getfield 97, 3) := by decide +kernel
theorem dX4_landOf_11 : decode cX4_landOf 11 = .ok (.if_icmp .ge 35, 3) := by decide +kernel
theorem dX4_landOf_14 : decode cX4_landOf 14 = .ok (.aload_n 0, 1) := by decide +kernel
theorem dX4_landOf_15 : decode cX4_landOf 15 = .ok (.aload_n 0, 1) := by decide +kernel
theorem dX4_landOf_16 : decode cX4_landOf 16 = .ok (.getfield 24, 3) := by decide +kernel
theorem dX4_landOf_19 : decode cX4_landOf 19 = .ok (.iload 4, 2) := by decide +kernel
theorem dX4_landOf_21 : decode cX4_landOf 21 = .ok (.iaload, 1) := by decide +kernel
theorem dX4_landOf_22 : decode cX4_landOf 22 = .ok (.iload_n 2, 1) := by decide +kernel
theorem dX4_landOf_23 : decode cX4_landOf 23 = .ok (.invokevirtual 109, 3) := by decide +kernel
theorem dX4_landOf_26 : decode cX4_landOf 26 = .ok (.iload_n 1, 1) := by decide +kernel
theorem dX4_landOf_27 : decode cX4_landOf 27 = .ok (.if_icmp .ne 13, 3) := by decide +kernel
theorem dX4_landOf_30 : decode cX4_landOf 30 = .ok (.iload_n 3, 1) := by decide +kernel
theorem dX4_landOf_31 : decode cX4_landOf 31 = .ok (.aload_n 0, 1) := by decide +kernel
theorem dX4_landOf_32 : decode cX4_landOf 32 = .ok (.getfield 27, 3) := by decide +kernel
theorem dX4_landOf_35 : decode cX4_landOf 35 = .ok (.iload 4, 2) := by decide +kernel
theorem dX4_landOf_37 : decode cX4_landOf 37 = .ok (.iaload, 1) := by decide +kernel
theorem dX4_landOf_38 : decode cX4_landOf 38 = .ok (.iadd, 1) := by decide +kernel
theorem dX4_landOf_39 : decode cX4_landOf 39 = .ok (.istore_n 3, 1) := by decide +kernel
theorem dX4_landOf_40 : decode cX4_landOf 40 = .ok (.iinc 4 1, 3) := by decide +kernel
theorem dX4_landOf_43 : decode cX4_landOf 43 = .ok (.goto (-38), 3) := by decide +kernel
theorem dX4_landOf_46 : decode cX4_landOf 46 = .ok (.iload_n 3, 1) := by decide +kernel
theorem dX4_landOf_47 : decode cX4_landOf 47 = .ok (.ireturn, 1) := by decide +kernel
theorem dX4_minutesAs_0 : decode cX4_minutesAs 0 = .ok (.iload_n 1, 1) := by decide +kernel
theorem dX4_minutesAs_1 : decode cX4_minutesAs 1 = .ok (.iload_n 2, 1) := by decide +kernel
theorem dX4_minutesAs_2 : decode cX4_minutesAs 2 = .ok (.iadd, 1) := by decide +kernel
theorem dX4_minutesAs_3 : decode cX4_minutesAs 3 = .ok (.istore_n 3, 1) := by decide +kernel
theorem dX4_minutesAs_4 : decode cX4_minutesAs 4 = .ok (.iload_n 0, 1) := by decide +kernel
theorem dX4_minutesAs_5 : decode cX4_minutesAs 5 = .ok (.lookupswitch 39 #[(1, 31), (2, 27)], 27) := by decide +kernel
theorem dX4_minutesAs_32 : decode cX4_minutesAs 32 = .ok (.iload_n 3, 1) := by decide +kernel
theorem dX4_minutesAs_33 : decode cX4_minutesAs 33 = .ok (.iconst 2, 1) := by decide +kernel
theorem dX4_minutesAs_34 : decode cX4_minutesAs 34 = .ok (.idiv, 1) := by decide +kernel
theorem dX4_minutesAs_35 : decode cX4_minutesAs 35 = .ok (.ireturn, 1) := by decide +kernel
theorem dX4_minutesAs_36 : decode cX4_minutesAs 36 = .ok (.iload_n 3, 1) := by decide +kernel
theorem dX4_minutesAs_37 : decode cX4_minutesAs 37 = .ok (.iconst 1, 1) := by decide +kernel
theorem dX4_minutesAs_38 : decode cX4_minutesAs 38 = .ok (.isub, 1) := by decide +kernel
theorem dX4_minutesAs_39 : decode cX4_minutesAs 39 = .ok (.iconst 0, 1) := by decide +kernel
theorem dX4_minutesAs_40 : decode cX4_minutesAs 40 = .ok (.invokestatic 112, 3) := by decide +kernel
theorem dX4_minutesAs_43 : decode cX4_minutesAs 43 = .ok (.ireturn, 1) := by decide +kernel
theorem dX4_minutesAs_44 : decode cX4_minutesAs 44 = .ok (.iload_n 3, 1) := by decide +kernel
theorem dX4_minutesAs_45 : decode cX4_minutesAs 45 = .ok (.ireturn, 1) := by decide +kernel
theorem dX4_minutesOf_0 : decode cX4_minutesOf 0 = .ok (.aload_n 0, 1) := by decide +kernel
theorem dX4_minutesOf_1 : decode cX4_minutesOf 1 = .ok (.getfield 9, 3) := by decide +kernel
theorem dX4_minutesOf_4 : decode cX4_minutesOf 4 = .ok (.iload_n 1, 1) := by decide +kernel
theorem dX4_minutesOf_5 : decode cX4_minutesOf 5 = .ok (.iaload, 1) := by decide +kernel
theorem dX4_minutesOf_6 : decode cX4_minutesOf 6 = .ok (.aload_n 0, 1) := by decide +kernel
theorem dX4_minutesOf_7 : decode cX4_minutesOf 7 = .ok (.getfield 15, 3) := by decide +kernel
theorem dX4_minutesOf_10 : decode cX4_minutesOf 10 = .ok (.iload_n 1, 1) := by decide +kernel
theorem dX4_minutesOf_11 : decode cX4_minutesOf 11 = .ok (.iaload, 1) := by decide +kernel
theorem dX4_minutesOf_12 : decode cX4_minutesOf 12 = .ok (.aload_n 0, 1) := by decide +kernel
theorem dX4_minutesOf_13 : decode cX4_minutesOf 13 = .ok (.getfield 70, 3) := by decide +kernel
theorem dX4_minutesOf_16 : decode cX4_minutesOf 16 = .ok (.invokestatic 117, 3) := by decide +kernel
theorem dX4_minutesOf_19 : decode cX4_minutesOf 19 = .ok (.ireturn, 1) := by decide +kernel
theorem dX4_neighbour_0 : decode cX4_neighbour 0 = .ok (.iload_n 2, 1) := by decide +kernel
theorem dX4_neighbour_1 : decode cX4_neighbour 1 = .ok (.iconst 2, 1) := by decide +kernel
theorem dX4_neighbour_2 : decode cX4_neighbour 2 = .ok (.irem, 1) := by decide +kernel
theorem dX4_neighbour_3 : decode cX4_neighbour 3 = .ok (.ifCond .ne 20, 3) := by decide +kernel
theorem dX4_neighbour_6 : decode cX4_neighbour 6 = .ok (.iload_n 1, 1) := by decide +kernel
theorem dX4_neighbour_7 : decode cX4_neighbour 7 = .ok (.ifCond .ne 12, 3) := by decide +kernel
theorem dX4_neighbour_10 : decode cX4_neighbour 10 = .ok (.aload_n 0, 1) := by decide +kernel
theorem dX4_neighbour_11 : decode cX4_neighbour 11 = .ok (.getfield 36, 3) := by decide +kernel
theorem dX4_neighbour_14 : decode cX4_neighbour 14 = .ok (.iconst 1, 1) := by decide +kernel
theorem dX4_neighbour_15 : decode cX4_neighbour 15 = .ok (.isub, 1) := by decide +kernel
theorem dX4_neighbour_16 : decode cX4_neighbour 16 = .ok (.goto 6, 3) := by decide +kernel
theorem dX4_neighbour_19 : decode cX4_neighbour 19 = .ok (.iload_n 1, 1) := by decide +kernel
theorem dX4_neighbour_20 : decode cX4_neighbour 20 = .ok (.iconst 1, 1) := by decide +kernel
theorem dX4_neighbour_21 : decode cX4_neighbour 21 = .ok (.isub, 1) := by decide +kernel
theorem dX4_neighbour_22 : decode cX4_neighbour 22 = .ok (.ireturn, 1) := by decide +kernel
theorem dX4_neighbour_23 : decode cX4_neighbour 23 = .ok (.iload_n 1, 1) := by decide +kernel
theorem dX4_neighbour_24 : decode cX4_neighbour 24 = .ok (.aload_n 0, 1) := by decide +kernel
theorem dX4_neighbour_25 : decode cX4_neighbour 25 = .ok (.getfield 36, 3) := by decide +kernel
theorem dX4_neighbour_28 : decode cX4_neighbour 28 = .ok (.iconst 1, 1) := by decide +kernel
theorem dX4_neighbour_29 : decode cX4_neighbour 29 = .ok (.isub, 1) := by decide +kernel
theorem dX4_neighbour_30 : decode cX4_neighbour 30 = .ok (.if_icmp .ne 7, 3) := by decide +kernel
theorem dX4_neighbour_33 : decode cX4_neighbour 33 = .ok (.iconst 0, 1) := by decide +kernel
theorem dX4_neighbour_34 : decode cX4_neighbour 34 = .ok (.goto 6, 3) := by decide +kernel
theorem dX4_neighbour_37 : decode cX4_neighbour 37 = .ok (.iload_n 1, 1) := by decide +kernel
theorem dX4_neighbour_38 : decode cX4_neighbour 38 = .ok (.iconst 1, 1) := by decide +kernel
theorem dX4_neighbour_39 : decode cX4_neighbour 39 = .ok (.iadd, 1) := by decide +kernel
theorem dX4_neighbour_40 : decode cX4_neighbour 40 = .ok (.ireturn, 1) := by decide +kernel
theorem dX4_borderBehind_0 : decode cX4_borderBehind 0 = .ok (.iload_n 1, 1) := by decide +kernel
theorem dX4_borderBehind_1 : decode cX4_borderBehind 1 = .ok (.invokestatic 100, 3) := by decide +kernel
theorem dX4_borderBehind_4 : decode cX4_borderBehind 4 = .ok (.istore_n 3, 1) := by decide +kernel
theorem dX4_borderBehind_5 : decode cX4_borderBehind 5 = .ok (.iload_n 1, 1) := by decide +kernel
theorem dX4_borderBehind_6 : decode cX4_borderBehind 6 = .ok (.invokestatic 103, 3) := by decide +kernel
theorem dX4_borderBehind_9 : decode cX4_borderBehind 9 = .ok (.istore 4, 2) := by decide +kernel
theorem dX4_borderBehind_11 : decode cX4_borderBehind 11 = .ok (.iload_n 2, 1) := by decide +kernel
theorem dX4_borderBehind_12 : decode cX4_borderBehind 12 = .ok (.iconst 2, 1) := by decide +kernel
theorem dX4_borderBehind_13 : decode cX4_borderBehind 13 = .ok (.if_icmp .ge 13, 3) := by decide +kernel
theorem dX4_borderBehind_16 : decode cX4_borderBehind 16 = .ok (.aload_n 0, 1) := by decide +kernel
theorem dX4_borderBehind_17 : decode cX4_borderBehind 17 = .ok (.iload_n 3, 1) := by decide +kernel
theorem dX4_borderBehind_18 : decode cX4_borderBehind 18 = .ok (.iload_n 2, 1) := by decide +kernel
theorem dX4_borderBehind_19 : decode cX4_borderBehind 19 = .ok (.invokevirtual 121, 3) := by decide +kernel
theorem dX4_borderBehind_22 : decode cX4_borderBehind 22 = .ok (.istore_n 3, 1) := by decide +kernel
theorem dX4_borderBehind_23 : decode cX4_borderBehind 23 = .ok (.goto 12, 3) := by decide +kernel
theorem dX4_borderBehind_26 : decode cX4_borderBehind 26 = .ok (.aload_n 0, 1) := by decide +kernel
theorem dX4_borderBehind_27 : decode cX4_borderBehind 27 = .ok (.iload 4, 2) := by decide +kernel
theorem dX4_borderBehind_29 : decode cX4_borderBehind 29 = .ok (.iload_n 2, 1) := by decide +kernel
theorem dX4_borderBehind_30 : decode cX4_borderBehind 30 = .ok (.invokevirtual 121, 3) := by decide +kernel
theorem dX4_borderBehind_33 : decode cX4_borderBehind 33 = .ok (.istore 4, 2) := by decide +kernel
theorem dX4_borderBehind_35 : decode cX4_borderBehind 35 = .ok (.iload_n 3, 1) := by decide +kernel
theorem dX4_borderBehind_36 : decode cX4_borderBehind 36 = .ok (.iload 4, 2) := by decide +kernel
theorem dX4_borderBehind_38 : decode cX4_borderBehind 38 = .ok (.if_icmp .ne 8, 3) := by decide +kernel
theorem dX4_borderBehind_41 : decode cX4_borderBehind 41 = .ok (.bipush (-9), 2) := by decide +kernel
theorem dX4_borderBehind_43 : decode cX4_borderBehind 43 = .ok (.goto 9, 3) := by decide +kernel
theorem dX4_borderBehind_46 : decode cX4_borderBehind 46 = .ok (.iload_n 3, 1) := by decide +kernel
theorem dX4_borderBehind_47 : decode cX4_borderBehind 47 = .ok (.iload 4, 2) := by decide +kernel
theorem dX4_borderBehind_49 : decode cX4_borderBehind 49 = .ok (.invokestatic 88, 3) := by decide +kernel
theorem dX4_borderBehind_52 : decode cX4_borderBehind 52 = .ok (.ireturn, 1) := by decide +kernel
theorem dX4_isBorder_0 : decode cX4_isBorder 0 = .ok (.iload_n 1, 1) := by decide +kernel
theorem dX4_isBorder_1 : decode cX4_isBorder 1 = .ok (.invokestatic 100, 3) := by decide +kernel
theorem dX4_isBorder_4 : decode cX4_isBorder 4 = .ok (.istore_n 2, 1) := by decide +kernel
theorem dX4_isBorder_5 : decode cX4_isBorder 5 = .ok (.iload_n 1, 1) := by decide +kernel
theorem dX4_isBorder_6 : decode cX4_isBorder 6 = .ok (.invokestatic 103, 3) := by decide +kernel
theorem dX4_isBorder_9 : decode cX4_isBorder 9 = .ok (.istore_n 3, 1) := by decide +kernel
theorem dX4_isBorder_10 : decode cX4_isBorder 10 = .ok (.iload_n 2, 1) := by decide +kernel
theorem dX4_isBorder_11 : decode cX4_isBorder 11 = .ok (.aload_n 0, 1) := by decide +kernel
theorem dX4_isBorder_12 : decode cX4_isBorder 12 = .ok (.getfield 36, 3) := by decide +kernel
theorem dX4_isBorder_15 : decode cX4_isBorder 15 = .ok (.if_icmp .ge 20, 3) := by decide +kernel
theorem dX4_isBorder_18 : decode cX4_isBorder 18 = .ok (.iload_n 3, 1) := by decide +kernel
theorem dX4_isBorder_19 : decode cX4_isBorder 19 = .ok (.aload_n 0, 1) := by decide +kernel
theorem dX4_isBorder_20 : decode cX4_isBorder 20 = .ok (.getfield 36, 3) := by decide +kernel
theorem dX4_isBorder_23 : decode cX4_isBorder 23 = .ok (.if_icmp .ge 12, 3) := by decide +kernel
theorem dX4_isBorder_26 : decode cX4_isBorder 26 = .ok (.iload_n 2, 1) := by decide +kernel
theorem dX4_isBorder_27 : decode cX4_isBorder 27 = .ok (.iload_n 3, 1) := by decide +kernel
theorem dX4_isBorder_28 : decode cX4_isBorder 28 = .ok (.if_icmp .eq 7, 3) := by decide +kernel
theorem dX4_isBorder_31 : decode cX4_isBorder 31 = .ok (.iconst 1, 1) := by decide +kernel
theorem dX4_isBorder_32 : decode cX4_isBorder 32 = .ok (.goto 4, 3) := by decide +kernel
theorem dX4_isBorder_35 : decode cX4_isBorder 35 = .ok (.iconst 0, 1) := by decide +kernel
theorem dX4_isBorder_36 : decode cX4_isBorder 36 = .ok (.ireturn, 1) := by decide +kernel
theorem dX4_bestMargin_0 : decode cX4_bestMargin 0 = .ok (.iload_n 3, 1) := by decide +kernel
theorem dX4_bestMargin_1 : decode cX4_bestMargin 1 = .ok (.ifCond .gt 19, 3) := by decide +kernel
theorem dX4_bestMargin_4 : decode cX4_bestMargin 4 = .ok (.aload_n 0, 1) := by decide +kernel
theorem dX4_bestMargin_5 : decode cX4_bestMargin 5 = .ok (.iload_n 2, 1) := by decide +kernel
theorem dX4_bestMargin_6 : decode cX4_bestMargin 6 = .ok (.iload_n 1, 1) := by decide +kernel
theorem dX4_bestMargin_7 : decode cX4_bestMargin 7 = .ok (.invokevirtual 124, 3) := by decide +kernel
theorem dX4_bestMargin_10 : decode cX4_bestMargin 10 = .ok (.aload_n 0, 1) := by decide +kernel
theorem dX4_bestMargin_11 : decode cX4_bestMargin 11 = .ok (.iconst 1, 1) := by decide +kernel
theorem dX4_bestMargin_12 : decode cX4_bestMargin 12 = .ok (.iload_n 2, 1) := by decide +kernel
theorem dX4_bestMargin_13 : decode cX4_bestMargin 13 = .ok (.isub, 1) := by decide +kernel
theorem dX4_bestMargin_14 : decode cX4_bestMargin 14 = .ok (.iload_n 1, 1) := by decide +kernel
theorem dX4_bestMargin_15 : decode cX4_bestMargin 15 = .ok (.invokevirtual 124, 3) := by decide +kernel
theorem dX4_bestMargin_18 : decode cX4_bestMargin 18 = .ok (.isub, 1) := by decide +kernel
theorem dX4_bestMargin_19 : decode cX4_bestMargin 19 = .ok (.ireturn, 1) := by decide +kernel
theorem dX4_bestMargin_20 : decode cX4_bestMargin 20 = .ok (.sipush (-1000), 3) := by decide +kernel
theorem dX4_bestMargin_23 : decode cX4_bestMargin 23 = .ok (.istore 4, 2) := by decide +kernel
theorem dX4_bestMargin_25 : decode cX4_bestMargin 25 = .ok (.iconst 0, 1) := by decide +kernel
theorem dX4_bestMargin_26 : decode cX4_bestMargin 26 = .ok (.istore 5, 2) := by decide +kernel
theorem dX4_bestMargin_28 : decode cX4_bestMargin 28 = .ok (.iload 5, 2) := by decide +kernel
theorem dX4_bestMargin_30 : decode cX4_bestMargin 30 = .ok (.iconst 4, 1) := by decide +kernel
theorem dX4_bestMargin_31 : decode cX4_bestMargin 31 = .ok (.if_icmp .ge 25, 3) := by decide +kernel
theorem dX4_bestMargin_34 : decode cX4_bestMargin 34 = .ok (.iload 4, 2) := by decide +kernel
theorem dX4_bestMargin_36 : decode cX4_bestMargin 36 = .ok (.aload_n 0, 1) := by decide +kernel
theorem dX4_bestMargin_37 : decode cX4_bestMargin 37 = .ok (.iload_n 1, 1) := by decide +kernel
theorem dX4_bestMargin_38 : decode cX4_bestMargin 38 = .ok (.iload_n 2, 1) := by decide +kernel
theorem dX4_bestMargin_39 : decode cX4_bestMargin 39 = .ok (.iload_n 3, 1) := by decide +kernel
theorem dX4_bestMargin_40 : decode cX4_bestMargin 40 = .ok (.iload 5, 2) := by decide +kernel
theorem dX4_bestMargin_42 : decode cX4_bestMargin 42 = .ok (.invokevirtual 127, 3) := by decide +kernel
theorem dX4_bestMargin_45 : decode cX4_bestMargin 45 = .ok (.invokestatic 112, 3) := by decide +kernel
theorem dX4_bestMargin_48 : decode cX4_bestMargin 48 = .ok (.istore 4, 2) := by decide +kernel
theorem dX4_bestMargin_50 : decode cX4_bestMargin 50 = .ok (.iinc 5 1, 3) := by decide +kernel
theorem dX4_bestMargin_53 : decode cX4_bestMargin 53 = .ok (.goto (-25), 3) := by decide +kernel
theorem dX4_bestMargin_56 : decode cX4_bestMargin 56 = .ok (.iload 4, 2) := by decide +kernel
theorem dX4_bestMargin_58 : decode cX4_bestMargin 58 = .ok (.ireturn, 1) := by decide +kernel
theorem dX4_marginBehind_0 : decode cX4_marginBehind 0 = .ok (.aload_n 0, 1) := by decide +kernel
theorem dX4_marginBehind_1 : decode cX4_marginBehind 1 = .ok (.iload_n 1, 1) := by decide +kernel
theorem dX4_marginBehind_2 : decode cX4_marginBehind 2 = .ok (.iload 4, 2) := by decide +kernel
theorem dX4_marginBehind_4 : decode cX4_marginBehind 4 = .ok (.invokevirtual 131, 3) := by decide +kernel
theorem dX4_marginBehind_7 : decode cX4_marginBehind 7 = .ok (.istore 5, 2) := by decide +kernel
theorem dX4_marginBehind_9 : decode cX4_marginBehind 9 = .ok (.iload 5, 2) := by decide +kernel
theorem dX4_marginBehind_11 : decode cX4_marginBehind 11 = .ok (.bipush (-9), 2) := by decide +kernel
theorem dX4_marginBehind_13 : decode cX4_marginBehind 13 = .ok (.if_icmp .ne 9, 3) := by decide +kernel
theorem dX4_marginBehind_16 : decode cX4_marginBehind 16 = .ok (.sipush (-1000), 3) := by decide +kernel
theorem dX4_marginBehind_19 : decode cX4_marginBehind 19 = .ok (.goto 16, 3) := by decide +kernel
theorem dX4_marginBehind_22 : decode cX4_marginBehind 22 = .ok (.aload_n 0, 1) := by decide +kernel
theorem dX4_marginBehind_23 : decode cX4_marginBehind 23 = .ok (.iload 5, 2) := by decide +kernel
theorem dX4_marginBehind_25 : decode cX4_marginBehind 25 = .ok (.iconst 1, 1) := by decide +kernel
theorem dX4_marginBehind_26 : decode cX4_marginBehind 26 = .ok (.iload_n 2, 1) := by decide +kernel
theorem dX4_marginBehind_27 : decode cX4_marginBehind 27 = .ok (.isub, 1) := by decide +kernel
theorem dX4_marginBehind_28 : decode cX4_marginBehind 28 = .ok (.iload_n 3, 1) := by decide +kernel
theorem dX4_marginBehind_29 : decode cX4_marginBehind 29 = .ok (.iconst 1, 1) := by decide +kernel
theorem dX4_marginBehind_30 : decode cX4_marginBehind 30 = .ok (.isub, 1) := by decide +kernel
theorem dX4_marginBehind_31 : decode cX4_marginBehind 31 = .ok (.invokevirtual 134, 3) := by decide +kernel
theorem dX4_marginBehind_34 : decode cX4_marginBehind 34 = .ok (.ineg, 1) := by decide +kernel
theorem dX4_marginBehind_35 : decode cX4_marginBehind 35 = .ok (.ireturn, 1) := by decide +kernel
theorem dX4_bestRequest_0 : decode cX4_bestRequest 0 = .ok (.iconst 0, 1) := by decide +kernel
theorem dX4_bestRequest_1 : decode cX4_bestRequest 1 = .ok (.istore_n 3, 1) := by decide +kernel
theorem dX4_bestRequest_2 : decode cX4_bestRequest 2 = .ok (.aload_n 0, 1) := by decide +kernel
theorem dX4_bestRequest_3 : decode cX4_bestRequest 3 = .ok (.aload_n 0, 1) := by decide +kernel
theorem dX4_bestRequest_4 : decode cX4_bestRequest 4 = .ok (.getfield 91, 3) := by decide +kernel
theorem dX4_bestRequest_7 : decode cX4_bestRequest 7 = .ok (.iload_n 1, 1) := by decide +kernel
theorem dX4_bestRequest_8 : decode cX4_bestRequest 8 = .ok (.iload_n 2, 1) := by decide +kernel
theorem dX4_bestRequest_9 : decode cX4_bestRequest 9 = .ok (.iconst 0, 1) := by decide +kernel
theorem dX4_bestRequest_10 : decode cX4_bestRequest 10 = .ok (.invokevirtual 127, 3) := by decide +kernel
theorem dX4_bestRequest_13 : decode cX4_bestRequest 13 = .ok (.istore 4, 2) := by decide +kernel
theorem dX4_bestRequest_15 : decode cX4_bestRequest 15 = .ok (.iconst 1, 1) := by decide +kernel
theorem dX4_bestRequest_16 : decode cX4_bestRequest 16 = .ok (.istore 5, 2) := by decide +kernel
theorem dX4_bestRequest_18 : decode cX4_bestRequest 18 = .ok (.iload 5, 2) := by decide +kernel
theorem dX4_bestRequest_20 : decode cX4_bestRequest 20 = .ok (.iconst 4, 1) := by decide +kernel
theorem dX4_bestRequest_21 : decode cX4_bestRequest 21 = .ok (.if_icmp .ge 37, 3) := by decide +kernel
theorem dX4_bestRequest_24 : decode cX4_bestRequest 24 = .ok (.aload_n 0, 1) := by decide +kernel
theorem dX4_bestRequest_25 : decode cX4_bestRequest 25 = .ok (.aload_n 0, 1) := by decide +kernel
theorem dX4_bestRequest_26 : decode cX4_bestRequest 26 = .ok (.getfield 91, 3) := by decide +kernel
theorem dX4_bestRequest_29 : decode cX4_bestRequest 29 = .ok (.iload_n 1, 1) := by decide +kernel
theorem dX4_bestRequest_30 : decode cX4_bestRequest 30 = .ok (.iload_n 2, 1) := by decide +kernel
theorem dX4_bestRequest_31 : decode cX4_bestRequest 31 = .ok (.iload 5, 2) := by decide +kernel
theorem dX4_bestRequest_33 : decode cX4_bestRequest 33 = .ok (.invokevirtual 127, 3) := by decide +kernel
theorem dX4_bestRequest_36 : decode cX4_bestRequest 36 = .ok (.istore 6, 2) := by decide +kernel
theorem dX4_bestRequest_38 : decode cX4_bestRequest 38 = .ok (.iload 6, 2) := by decide +kernel
theorem dX4_bestRequest_40 : decode cX4_bestRequest 40 = .ok (.iload 4, 2) := by decide +kernel
theorem dX4_bestRequest_42 : decode cX4_bestRequest 42 = .ok (.if_icmp .le 10, 3) := by decide +kernel
theorem dX4_bestRequest_45 : decode cX4_bestRequest 45 = .ok (.iload 5, 2) := by decide +kernel
theorem dX4_bestRequest_47 : decode cX4_bestRequest 47 = .ok (.istore_n 3, 1) := by decide +kernel
theorem dX4_bestRequest_48 : decode cX4_bestRequest 48 = .ok (.iload 6, 2) := by decide +kernel
theorem dX4_bestRequest_50 : decode cX4_bestRequest 50 = .ok (.istore 4, 2) := by decide +kernel
theorem dX4_bestRequest_52 : decode cX4_bestRequest 52 = .ok (.iinc 5 1, 3) := by decide +kernel
theorem dX4_bestRequest_55 : decode cX4_bestRequest 55 = .ok (.goto (-37), 3) := by decide +kernel
theorem dX4_bestRequest_58 : decode cX4_bestRequest 58 = .ok (.iload_n 3, 1) := by decide +kernel
theorem dX4_bestRequest_59 : decode cX4_bestRequest 59 = .ok (.ireturn, 1) := by decide +kernel
theorem dX4_wetBy_0 : decode cX4_wetBy 0 = .ok (.iconst 0, 1) := by decide +kernel
theorem dX4_wetBy_1 : decode cX4_wetBy 1 = .ok (.istore_n 2, 1) := by decide +kernel
theorem dX4_wetBy_2 : decode cX4_wetBy 2 = .ok (.iconst 0, 1) := by decide +kernel
theorem dX4_wetBy_3 : decode cX4_wetBy 3 = .ok (.istore_n 3, 1) := by decide +kernel
theorem dX4_wetBy_4 : decode cX4_wetBy 4 = .ok (.iload_n 3, 1) := by decide +kernel
theorem dX4_wetBy_5 : decode cX4_wetBy 5 = .ok (.aload_n 0, 1) := by decide +kernel
theorem dX4_wetBy_6 : decode cX4_wetBy 6 = .ok (.getfield 36, 3) := by decide +kernel
theorem dX4_wetBy_9 : decode cX4_wetBy 9 = .ok (.if_icmp .ge 39, 3) := by decide +kernel
theorem dX4_wetBy_12 : decode cX4_wetBy 12 = .ok (.aload_n 0, 1) := by decide +kernel
theorem dX4_wetBy_13 : decode cX4_wetBy 13 = .ok (.iload_n 1, 1) := by decide +kernel
theorem dX4_wetBy_14 : decode cX4_wetBy 14 = .ok (.iload_n 3, 1) := by decide +kernel
theorem dX4_wetBy_15 : decode cX4_wetBy 15 = .ok (.invokevirtual 106, 3) := by decide +kernel
theorem dX4_wetBy_18 : decode cX4_wetBy 18 = .ok (.aload_n 0, 1) := by decide +kernel
theorem dX4_wetBy_19 : decode cX4_wetBy 19 = .ok (.iload_n 3, 1) := by decide +kernel
theorem dX4_wetBy_20 : decode cX4_wetBy 20 = .ok (.iload_n 1, 1) := by decide +kernel
theorem dX4_wetBy_21 : decode cX4_wetBy 21 = .ok (.invokevirtual 106, 3) := by decide +kernel
theorem dX4_wetBy_24 : decode cX4_wetBy 24 = .ok (.invokestatic 137, 3) := by decide +kernel
theorem dX4_wetBy_27 : decode cX4_wetBy 27 = .ok (.aload_n 0, 1) := by decide +kernel
theorem dX4_wetBy_28 : decode cX4_wetBy 28 = .ok (.getfield 18, 3) := by decide +kernel
theorem dX4_wetBy_31 : decode cX4_wetBy 31 = .ok (.iload_n 1, 1) := by decide +kernel
theorem dX4_wetBy_32 : decode cX4_wetBy 32 = .ok (.iaload, 1) := by decide +kernel
theorem dX4_wetBy_33 : decode cX4_wetBy 33 = .ok (.if_icmp .gt 9, 3) := by decide +kernel
theorem dX4_wetBy_36 : decode cX4_wetBy 36 = .ok (.iload_n 2, 1) := by decide +kernel
theorem dX4_wetBy_37 : decode cX4_wetBy 37 = .ok (.iconst 1, 1) := by decide +kernel
theorem dX4_wetBy_38 : decode cX4_wetBy 38 = .ok (.iload_n 3, 1) := by decide +kernel
theorem dX4_wetBy_39 : decode cX4_wetBy 39 = .ok (.ishl, 1) := by decide +kernel
theorem dX4_wetBy_40 : decode cX4_wetBy 40 = .ok (.ior, 1) := by decide +kernel
theorem dX4_wetBy_41 : decode cX4_wetBy 41 = .ok (.istore_n 2, 1) := by decide +kernel
theorem dX4_wetBy_42 : decode cX4_wetBy 42 = .ok (.iinc 3 1, 3) := by decide +kernel
theorem dX4_wetBy_45 : decode cX4_wetBy 45 = .ok (.goto (-41), 3) := by decide +kernel
theorem dX4_wetBy_48 : decode cX4_wetBy 48 = .ok (.iload_n 2, 1) := by decide +kernel
theorem dX4_wetBy_49 : decode cX4_wetBy 49 = .ok (.ireturn, 1) := by decide +kernel
theorem dX4_wetByAll_0 : decode cX4_wetByAll 0 = .ok (.iconst 0, 1) := by decide +kernel
theorem dX4_wetByAll_1 : decode cX4_wetByAll 1 = .ok (.istore_n 2, 1) := by decide +kernel
theorem dX4_wetByAll_2 : decode cX4_wetByAll 2 = .ok (.iconst 0, 1) := by decide +kernel
theorem dX4_wetByAll_3 : decode cX4_wetByAll 3 = .ok (.istore_n 3, 1) := by decide +kernel
theorem dX4_wetByAll_4 : decode cX4_wetByAll 4 = .ok (.iload_n 3, 1) := by decide +kernel
theorem dX4_wetByAll_5 : decode cX4_wetByAll 5 = .ok (.aload_n 0, 1) := by decide +kernel
theorem dX4_wetByAll_6 : decode cX4_wetByAll 6 = .ok (.getfield 36, 3) := by decide +kernel
theorem dX4_wetByAll_9 : decode cX4_wetByAll 9 = .ok (.if_icmp .ge 27, 3) := by decide +kernel
theorem dX4_wetByAll_12 : decode cX4_wetByAll 12 = .ok (.iload_n 1, 1) := by decide +kernel
theorem dX4_wetByAll_13 : decode cX4_wetByAll 13 = .ok (.iload_n 3, 1) := by decide +kernel
theorem dX4_wetByAll_14 : decode cX4_wetByAll 14 = .ok (.ishr, 1) := by decide +kernel
theorem dX4_wetByAll_15 : decode cX4_wetByAll 15 = .ok (.iconst 1, 1) := by decide +kernel
theorem dX4_wetByAll_16 : decode cX4_wetByAll 16 = .ok (.iand, 1) := by decide +kernel
theorem dX4_wetByAll_17 : decode cX4_wetByAll 17 = .ok (.iconst 1, 1) := by decide +kernel
theorem dX4_wetByAll_18 : decode cX4_wetByAll 18 = .ok (.if_icmp .ne 12, 3) := by decide +kernel
theorem dX4_wetByAll_21 : decode cX4_wetByAll 21 = .ok (.iload_n 2, 1) := by decide +kernel
theorem dX4_wetByAll_22 : decode cX4_wetByAll 22 = .ok (.aload_n 0, 1) := by decide +kernel
theorem dX4_wetByAll_23 : decode cX4_wetByAll 23 = .ok (.getfield 21, 3) := by decide +kernel
theorem dX4_wetByAll_26 : decode cX4_wetByAll 26 = .ok (.iload_n 3, 1) := by decide +kernel
theorem dX4_wetByAll_27 : decode cX4_wetByAll 27 = .ok (.iaload, 1) := by decide +kernel
theorem dX4_wetByAll_28 : decode cX4_wetByAll 28 = .ok (.ior, 1) := by decide +kernel
theorem dX4_wetByAll_29 : decode cX4_wetByAll 29 = .ok (.istore_n 2, 1) := by decide +kernel
theorem dX4_wetByAll_30 : decode cX4_wetByAll 30 = .ok (.iinc 3 1, 3) := by decide +kernel
theorem dX4_wetByAll_33 : decode cX4_wetByAll 33 = .ok (.goto (-29), 3) := by decide +kernel
theorem dX4_wetByAll_36 : decode cX4_wetByAll 36 = .ok (.iload_n 2, 1) := by decide +kernel
theorem dX4_wetByAll_37 : decode cX4_wetByAll 37 = .ok (.ireturn, 1) := by decide +kernel
theorem dX4_fewestWhoWet_0 : decode cX4_fewestWhoWet 0 = .ok (.iconst 0, 1) := by decide +kernel
theorem dX4_fewestWhoWet_1 : decode cX4_fewestWhoWet 1 = .ok (.istore_n 2, 1) := by decide +kernel
theorem dX4_fewestWhoWet_2 : decode cX4_fewestWhoWet 2 = .ok (.iload_n 2, 1) := by decide +kernel
theorem dX4_fewestWhoWet_3 : decode cX4_fewestWhoWet 3 = .ok (.aload_n 0, 1) := by decide +kernel
theorem dX4_fewestWhoWet_4 : decode cX4_fewestWhoWet 4 = .ok (.getfield 36, 3) := by decide +kernel
theorem dX4_fewestWhoWet_7 : decode cX4_fewestWhoWet 7 = .ok (.if_icmp .ge 20, 3) := by decide +kernel
theorem dX4_fewestWhoWet_10 : decode cX4_fewestWhoWet 10 = .ok (.aload_n 0, 1) := by decide +kernel
theorem dX4_fewestWhoWet_11 : decode cX4_fewestWhoWet 11 = .ok (.getfield 21, 3) := by decide +kernel
theorem dX4_fewestWhoWet_14 : decode cX4_fewestWhoWet 14 = .ok (.iload_n 2, 1) := by decide +kernel
theorem dX4_fewestWhoWet_15 : decode cX4_fewestWhoWet 15 = .ok (.aload_n 0, 1) := by decide +kernel
theorem dX4_fewestWhoWet_16 : decode cX4_fewestWhoWet 16 = .ok (.iload_n 2, 1) := by decide +kernel
theorem dX4_fewestWhoWet_17 : decode cX4_fewestWhoWet 17 = .ok (.invokevirtual 140, 3) := by decide +kernel
theorem dX4_fewestWhoWet_20 : decode cX4_fewestWhoWet 20 = .ok (.iastore, 1) := by decide +kernel
theorem dX4_fewestWhoWet_21 : decode cX4_fewestWhoWet 21 = .ok (.iinc 2 1, 3) := by decide +kernel
theorem dX4_fewestWhoWet_24 : decode cX4_fewestWhoWet 24 = .ok (.goto (-22), 3) := by decide +kernel
theorem dX4_fewestWhoWet_27 : decode cX4_fewestWhoWet 27 = .ok (.bipush (-9), 2) := by decide +kernel
theorem dX4_fewestWhoWet_29 : decode cX4_fewestWhoWet 29 = .ok (.istore_n 2, 1) := by decide +kernel
theorem dX4_fewestWhoWet_30 : decode cX4_fewestWhoWet 30 = .ok (.bipush 9, 2) := by decide +kernel
theorem dX4_fewestWhoWet_32 : decode cX4_fewestWhoWet 32 = .ok (.istore_n 3, 1) := by decide +kernel
theorem dX4_fewestWhoWet_33 : decode cX4_fewestWhoWet 33 = .ok (.iconst 0, 1) := by decide +kernel
theorem dX4_fewestWhoWet_34 : decode cX4_fewestWhoWet 34 = .ok (.istore 4, 2) := by decide +kernel
theorem dX4_fewestWhoWet_36 : decode cX4_fewestWhoWet 36 = .ok (.iload 4, 2) := by decide +kernel
theorem dX4_fewestWhoWet_38 : decode cX4_fewestWhoWet 38 = .ok (.iconst 1, 1) := by decide +kernel
theorem dX4_fewestWhoWet_39 : decode cX4_fewestWhoWet 39 = .ok (.aload_n 0, 1) := by decide +kernel
theorem dX4_fewestWhoWet_40 : decode cX4_fewestWhoWet 40 = .ok (.getfield 36, 3) := by decide +kernel
theorem dX4_fewestWhoWet_43 : decode cX4_fewestWhoWet 43 = .ok (.ishl, 1) := by decide +kernel
theorem dX4_fewestWhoWet_44 : decode cX4_fewestWhoWet 44 = .ok (.if_icmp .ge 38, 3) := by decide +kernel
theorem dX4_fewestWhoWet_47 : decode cX4_fewestWhoWet 47 = .ok (.iload 4, 2) := by decide +kernel
theorem dX4_fewestWhoWet_49 : decode cX4_fewestWhoWet 49 = .ok (.invokestatic 143, 3) := by decide +kernel
theorem dX4_fewestWhoWet_52 : decode cX4_fewestWhoWet 52 = .ok (.istore 5, 2) := by decide +kernel
theorem dX4_fewestWhoWet_54 : decode cX4_fewestWhoWet 54 = .ok (.iload 5, 2) := by decide +kernel
theorem dX4_fewestWhoWet_56 : decode cX4_fewestWhoWet 56 = .ok (.iload_n 3, 1) := by decide +kernel
theorem dX4_fewestWhoWet_57 : decode cX4_fewestWhoWet 57 = .ok (.if_icmp .ge 19, 3) := by decide +kernel
theorem dX4_fewestWhoWet_60 : decode cX4_fewestWhoWet 60 = .ok (.aload_n 0, 1) := by decide +kernel
theorem dX4_fewestWhoWet_61 : decode cX4_fewestWhoWet 61 = .ok (.iload 4, 2) := by decide +kernel
theorem dX4_fewestWhoWet_63 : decode cX4_fewestWhoWet 63 = .ok (.invokevirtual 148, 3) := by decide +kernel
theorem dX4_fewestWhoWet_66 : decode cX4_fewestWhoWet 66 = .ok (.iload_n 1, 1) := by decide +kernel
theorem dX4_fewestWhoWet_67 : decode cX4_fewestWhoWet 67 = .ok (.if_icmp .ne 9, 3) := by decide +kernel
theorem dX4_fewestWhoWet_70 : decode cX4_fewestWhoWet 70 = .ok (.iload 4, 2) := by decide +kernel
theorem dX4_fewestWhoWet_72 : decode cX4_fewestWhoWet 72 = .ok (.istore_n 2, 1) := by decide +kernel
theorem dX4_fewestWhoWet_73 : decode cX4_fewestWhoWet 73 = .ok (.iload 5, 2) := by decide +kernel
theorem dX4_fewestWhoWet_75 : decode cX4_fewestWhoWet 75 = .ok (.istore_n 3, 1) := by decide +kernel
theorem dX4_fewestWhoWet_76 : decode cX4_fewestWhoWet 76 = .ok (.iinc 4 1, 3) := by decide +kernel
theorem dX4_fewestWhoWet_79 : decode cX4_fewestWhoWet 79 = .ok (.goto (-43), 3) := by decide +kernel
theorem dX4_fewestWhoWet_82 : decode cX4_fewestWhoWet 82 = .ok (.iload_n 2, 1) := by decide +kernel
theorem dX4_fewestWhoWet_83 : decode cX4_fewestWhoWet 83 = .ok (.ireturn, 1) := by decide +kernel
theorem dX4_areReadingsSo_0 : decode cX4_areReadingsSo 0 = .ok (.iconst 0, 1) := by decide +kernel
theorem dX4_areReadingsSo_1 : decode cX4_areReadingsSo 1 = .ok (.istore 5, 2) := by decide +kernel
theorem dX4_areReadingsSo_3 : decode cX4_areReadingsSo 3 = .ok (.iload 5, 2) := by decide +kernel
theorem dX4_areReadingsSo_5 : decode cX4_areReadingsSo 5 = .ok (.aload_n 0, 1) := by decide +kernel
theorem dX4_areReadingsSo_6 : decode cX4_areReadingsSo 6 = .ok (.getfield 40, 3) := by decide +kernel
theorem dX4_areReadingsSo_9 : decode cX4_areReadingsSo 9 = .ok (.if_icmp .ge 69, 3) := by decide +kernel
theorem dX4_areReadingsSo_12 : decode cX4_areReadingsSo 12 = .ok (.aload_n 0, 1) := by decide +kernel
theorem dX4_areReadingsSo_13 : decode cX4_areReadingsSo 13 = .ok (.getfield 30, 3) := by decide +kernel
theorem dX4_areReadingsSo_16 : decode cX4_areReadingsSo 16 = .ok (.iload 5, 2) := by decide +kernel
theorem dX4_areReadingsSo_18 : decode cX4_areReadingsSo 18 = .ok (.iaload, 1) := by decide +kernel
theorem dX4_areReadingsSo_19 : decode cX4_areReadingsSo 19 = .ok (.istore 6, 2) := by decide +kernel
theorem dX4_areReadingsSo_21 : decode cX4_areReadingsSo 21 = .ok (.iload 6, 2) := by decide +kernel
theorem dX4_areReadingsSo_23 : decode cX4_areReadingsSo 23 = .ok (.iload_n 1, 1) := by decide +kernel
theorem dX4_areReadingsSo_24 : decode cX4_areReadingsSo 24 = .ok (.if_icmp .ne 13, 3) := by decide +kernel
theorem dX4_areReadingsSo_27 : decode cX4_areReadingsSo 27 = .ok (.iload_n 2, 1) := by decide +kernel
theorem dX4_areReadingsSo_28 : decode cX4_areReadingsSo 28 = .ok (.iload_n 3, 1) := by decide +kernel
theorem dX4_areReadingsSo_29 : decode cX4_areReadingsSo 29 = .ok (.iload 4, 2) := by decide +kernel
theorem dX4_areReadingsSo_31 : decode cX4_areReadingsSo 31 = .ok (.invokestatic 117, 3) := by decide +kernel
theorem dX4_areReadingsSo_34 : decode cX4_areReadingsSo 34 = .ok (.goto 22, 3) := by decide +kernel
theorem dX4_areReadingsSo_37 : decode cX4_areReadingsSo 37 = .ok (.aload_n 0, 1) := by decide +kernel
theorem dX4_areReadingsSo_38 : decode cX4_areReadingsSo 38 = .ok (.getfield 9, 3) := by decide +kernel
theorem dX4_areReadingsSo_41 : decode cX4_areReadingsSo 41 = .ok (.iload 6, 2) := by decide +kernel
theorem dX4_areReadingsSo_43 : decode cX4_areReadingsSo 43 = .ok (.iaload, 1) := by decide +kernel
theorem dX4_areReadingsSo_44 : decode cX4_areReadingsSo 44 = .ok (.aload_n 0, 1) := by decide +kernel
theorem dX4_areReadingsSo_45 : decode cX4_areReadingsSo 45 = .ok (.getfield 15, 3) := by decide +kernel
theorem dX4_areReadingsSo_48 : decode cX4_areReadingsSo 48 = .ok (.iload 6, 2) := by decide +kernel
theorem dX4_areReadingsSo_50 : decode cX4_areReadingsSo 50 = .ok (.iaload, 1) := by decide +kernel
theorem dX4_areReadingsSo_51 : decode cX4_areReadingsSo 51 = .ok (.iload 4, 2) := by decide +kernel
theorem dX4_areReadingsSo_53 : decode cX4_areReadingsSo 53 = .ok (.invokestatic 117, 3) := by decide +kernel
theorem dX4_areReadingsSo_56 : decode cX4_areReadingsSo 56 = .ok (.istore 7, 2) := by decide +kernel
theorem dX4_areReadingsSo_58 : decode cX4_areReadingsSo 58 = .ok (.iload 7, 2) := by decide +kernel
theorem dX4_areReadingsSo_60 : decode cX4_areReadingsSo 60 = .ok (.aload_n 0, 1) := by decide +kernel
theorem dX4_areReadingsSo_61 : decode cX4_areReadingsSo 61 = .ok (.getfield 33, 3) := by decide +kernel
theorem dX4_areReadingsSo_64 : decode cX4_areReadingsSo 64 = .ok (.iload 5, 2) := by decide +kernel
theorem dX4_areReadingsSo_66 : decode cX4_areReadingsSo 66 = .ok (.iaload, 1) := by decide +kernel
theorem dX4_areReadingsSo_67 : decode cX4_areReadingsSo 67 = .ok (.if_icmp .eq 5, 3) := by decide +kernel
theorem dX4_areReadingsSo_70 : decode cX4_areReadingsSo 70 = .ok (.iconst 0, 1) := by decide +kernel
theorem dX4_areReadingsSo_71 : decode cX4_areReadingsSo 71 = .ok (.ireturn, 1) := by decide +kernel
theorem dX4_areReadingsSo_72 : decode cX4_areReadingsSo 72 = .ok (.iinc 5 1, 3) := by decide +kernel
theorem dX4_areReadingsSo_75 : decode cX4_areReadingsSo 75 = .ok (.goto (-72), 3) := by decide +kernel
theorem dX4_areReadingsSo_78 : decode cX4_areReadingsSo 78 = .ok (.iconst 1, 1) := by decide +kernel
theorem dX4_areReadingsSo_79 : decode cX4_areReadingsSo 79 = .ok (.ireturn, 1) := by decide +kernel
theorem dX5_init_0 : decode cX5_init 0 = .ok (.aload_n 0, 1) := by decide +kernel
theorem dX5_init_1 : decode cX5_init 1 = .ok (.invokespecial 3, 3) := by decide +kernel
theorem dX5_init_4 : decode cX5_init 4 = .ok (.aload_n 0, 1) := by decide +kernel
theorem dX5_init_5 : decode cX5_init 5 = .ok (.iconst 0, 1) := by decide +kernel
theorem dX5_init_6 : decode cX5_init 6 = .ok (.newarray .int, 2) := by decide +kernel
theorem dX5_init_8 : decode cX5_init 8 = .ok (.putfield 9, 3) := by decide +kernel
theorem dX5_init_11 : decode cX5_init 11 = .ok (.return_, 1) := by decide +kernel
theorem dX5_open_0 : decode cX5_open 0 = .ok (.aload_n 0, 1) := by decide +kernel
theorem dX5_open_1 : decode cX5_open 1 = .ok (.aload_n 1, 1) := by decide +kernel
theorem dX5_open_2 : decode cX5_open 2 = .ok (.putfield 9, 3) := by decide +kernel
theorem dX5_open_5 : decode cX5_open 5 = .ok (.aload_n 0, 1) := by decide +kernel
theorem dX5_open_6 : decode cX5_open 6 = .ok (.iload_n 2, 1) := by decide +kernel
theorem dX5_open_7 : decode cX5_open 7 = .ok (.putfield 15, 3) := by decide +kernel
theorem dX5_open_10 : decode cX5_open 10 = .ok (.aload_n 0, 1) := by decide +kernel
theorem dX5_open_11 : decode cX5_open 11 = .ok (.iload_n 3, 1) := by decide +kernel
theorem dX5_open_12 : decode cX5_open 12 = .ok (.putfield 19, 3) := by decide +kernel
theorem dX5_open_15 : decode cX5_open 15 = .ok (.aload_n 0, 1) := by decide +kernel
theorem dX5_open_16 : decode cX5_open 16 = .ok (.iconst 0, 1) := by decide +kernel
theorem dX5_open_17 : decode cX5_open 17 = .ok (.putfield 22, 3) := by decide +kernel
theorem dX5_open_20 : decode cX5_open 20 = .ok (.return_, 1) := by decide +kernel
theorem dX5_isAtEnd_0 : decode cX5_isAtEnd 0 = .ok (.aload_n 0, 1) := by decide +kernel
theorem dX5_isAtEnd_1 : decode cX5_isAtEnd 1 = .ok (.getfield 22, 3) := by decide +kernel
theorem dX5_isAtEnd_4 : decode cX5_isAtEnd 4 = .ok (.aload_n 0, 1) := by decide +kernel
theorem dX5_isAtEnd_5 : decode cX5_isAtEnd 5 = .ok (.getfield 19, 3) := by decide +kernel
theorem dX5_isAtEnd_8 : decode cX5_isAtEnd 8 = .ok (.if_icmp .lt 7, 3) := by decide +kernel
theorem dX5_isAtEnd_11 : decode cX5_isAtEnd 11 = .ok (.iconst 1, 1) := by decide +kernel
theorem dX5_isAtEnd_12 : decode cX5_isAtEnd 12 = .ok (.goto 4, 3) := by decide +kernel
theorem dX5_isAtEnd_15 : decode cX5_isAtEnd 15 = .ok (.iconst 0, 1) := by decide +kernel
theorem dX5_isAtEnd_16 : decode cX5_isAtEnd 16 = .ok (.ireturn, 1) := by decide +kernel
theorem dX5_isAt_0 : decode cX5_isAt 0 = .ok (.aload_n 0, 1) := by decide +kernel
theorem dX5_isAt_1 : decode cX5_isAt 1 = .ok (.getfield 22, 3) := by decide +kernel
theorem dX5_isAt_4 : decode cX5_isAt 4 = .ok (.aload_n 0, 1) := by decide +kernel
theorem dX5_isAt_5 : decode cX5_isAt 5 = .ok (.getfield 19, 3) := by decide +kernel
theorem dX5_isAt_8 : decode cX5_isAt 8 = .ok (.if_icmp .ge 25, 3) := by decide +kernel
theorem dX5_isAt_11 : decode cX5_isAt 11 = .ok (.aload_n 0, 1) := by decide +kernel
theorem dX5_isAt_12 : decode cX5_isAt 12 = .ok (.getfield 9, 3) := by decide +kernel
theorem dX5_isAt_15 : decode cX5_isAt 15 = .ok (.aload_n 0, 1) := by decide +kernel
theorem dX5_isAt_16 : decode cX5_isAt 16 = .ok (.getfield 15, 3) := by decide +kernel
theorem dX5_isAt_19 : decode cX5_isAt 19 = .ok (.aload_n 0, 1) := by decide +kernel
theorem dX5_isAt_20 : decode cX5_isAt 20 = .ok (.getfield 22, 3) := by decide +kernel
theorem dX5_isAt_23 : decode cX5_isAt 23 = .ok (.iadd, 1) := by decide +kernel
theorem dX5_isAt_24 : decode cX5_isAt 24 = .ok (.iaload, 1) := by decide +kernel
theorem dX5_isAt_25 : decode cX5_isAt 25 = .ok (.iload_n 1, 1) := by decide +kernel
theorem dX5_isAt_26 : decode cX5_isAt 26 = .ok (.if_icmp .ne 7, 3) := by decide +kernel
theorem dX5_isAt_29 : decode cX5_isAt 29 = .ok (.iconst 1, 1) := by decide +kernel
theorem dX5_isAt_30 : decode cX5_isAt 30 = .ok (.goto 4, 3) := by decide +kernel
theorem dX5_isAt_33 : decode cX5_isAt 33 = .ok (.iconst 0, 1) := by decide +kernel
theorem dX5_isAt_34 : decode cX5_isAt 34 = .ok (.ireturn, 1) := by decide +kernel
theorem dX5_take_0 : decode cX5_take 0 = .ok (.aload_n 0, 1) := by decide +kernel
theorem dX5_take_1 : decode cX5_take 1 = .ok (.iload_n 1, 1) := by decide +kernel
theorem dX5_take_2 : decode cX5_take 2 = .ok (.invokevirtual 25, 3) := by decide +kernel
theorem dX5_take_5 : decode cX5_take 5 = .ok (.ifCond .ne 5, 3) := by decide +kernel
theorem dX5_take_8 : decode cX5_take 8 = .ok (.iconst 0, 1) := by decide +kernel
theorem dX5_take_9 : decode cX5_take 9 = .ok (.ireturn, 1) := by decide +kernel
theorem dX5_take_10 : decode cX5_take 10 = .ok (.aload_n 0, 1) := by decide +kernel
theorem dX5_take_11 : decode cX5_take 11 = .ok (.dup, 1) := by decide +kernel
theorem dX5_take_12 : decode cX5_take 12 = .ok (.getfield 22, 3) := by decide +kernel
theorem dX5_take_15 : decode cX5_take 15 = .ok (.iconst 1, 1) := by decide +kernel
theorem dX5_take_16 : decode cX5_take 16 = .ok (.iadd, 1) := by decide +kernel
theorem dX5_take_17 : decode cX5_take 17 = .ok (.putfield 22, 3) := by decide +kernel
theorem dX5_take_20 : decode cX5_take 20 = .ok (.iconst 1, 1) := by decide +kernel
theorem dX5_take_21 : decode cX5_take 21 = .ok (.ireturn, 1) := by decide +kernel
theorem dX5_takeDigit_0 : decode cX5_takeDigit 0 = .ok (.aload_n 0, 1) := by decide +kernel
theorem dX5_takeDigit_1 : decode cX5_takeDigit 1 = .ok (.iload_n 1, 1) := by decide +kernel
theorem dX5_takeDigit_2 : decode cX5_takeDigit 2 = .ok (.bipush (-9), 2) := by decide +kernel
theorem dX5_takeDigit_4 : decode cX5_takeDigit 4 = .ok (.invokevirtual 29, 3) := by decide +kernel
theorem dX5_takeDigit_7 : decode cX5_takeDigit 7 = .ok (.ireturn, 1) := by decide +kernel
theorem dX5_takeDigitBut_0 : decode cX5_takeDigitBut 0 = .ok (.aload_n 0, 1) := by decide +kernel
theorem dX5_takeDigitBut_1 : decode cX5_takeDigitBut 1 = .ok (.invokevirtual 33, 3) := by decide +kernel
theorem dX5_takeDigitBut_4 : decode cX5_takeDigitBut 4 = .ok (.ifCond .eq 6, 3) := by decide +kernel
theorem dX5_takeDigitBut_7 : decode cX5_takeDigitBut 7 = .ok (.bipush (-9), 2) := by decide +kernel
theorem dX5_takeDigitBut_9 : decode cX5_takeDigitBut 9 = .ok (.ireturn, 1) := by decide +kernel
theorem dX5_takeDigitBut_10 : decode cX5_takeDigitBut 10 = .ok (.aload_n 0, 1) := by decide +kernel
theorem dX5_takeDigitBut_11 : decode cX5_takeDigitBut 11 = .ok (.getfield 9, 3) := by decide +kernel
theorem dX5_takeDigitBut_14 : decode cX5_takeDigitBut 14 = .ok (.aload_n 0, 1) := by decide +kernel
theorem dX5_takeDigitBut_15 : decode cX5_takeDigitBut 15 = .ok (.getfield 15, 3) := by decide +kernel
theorem dX5_takeDigitBut_18 : decode cX5_takeDigitBut 18 = .ok (.aload_n 0, 1) := by decide +kernel
theorem dX5_takeDigitBut_19 : decode cX5_takeDigitBut 19 = .ok (.getfield 22, 3) := by decide +kernel
theorem dX5_takeDigitBut_22 : decode cX5_takeDigitBut 22 = .ok (.iadd, 1) := by decide +kernel
theorem dX5_takeDigitBut_23 : decode cX5_takeDigitBut 23 = .ok (.iaload, 1) := by decide +kernel
theorem dX5_takeDigitBut_24 : decode cX5_takeDigitBut 24 = .ok (.bipush 48, 2) := by decide +kernel
theorem dX5_takeDigitBut_26 : decode cX5_takeDigitBut 26 = .ok (.isub, 1) := by decide +kernel
theorem dX5_takeDigitBut_27 : decode cX5_takeDigitBut 27 = .ok (.istore_n 3, 1) := by decide +kernel
theorem dX5_takeDigitBut_28 : decode cX5_takeDigitBut 28 = .ok (.iload_n 3, 1) := by decide +kernel
theorem dX5_takeDigitBut_29 : decode cX5_takeDigitBut 29 = .ok (.iload_n 1, 1) := by decide +kernel
theorem dX5_takeDigitBut_30 : decode cX5_takeDigitBut 30 = .ok (.invokestatic 37, 3) := by decide +kernel
theorem dX5_takeDigitBut_33 : decode cX5_takeDigitBut 33 = .ok (.ifCond .eq 8, 3) := by decide +kernel
theorem dX5_takeDigitBut_36 : decode cX5_takeDigitBut 36 = .ok (.iload_n 3, 1) := by decide +kernel
theorem dX5_takeDigitBut_37 : decode cX5_takeDigitBut 37 = .ok (.iload_n 2, 1) := by decide +kernel
theorem dX5_takeDigitBut_38 : decode cX5_takeDigitBut 38 = .ok (.if_icmp .ne 6, 3) := by decide +kernel
theorem dX5_takeDigitBut_41 : decode cX5_takeDigitBut 41 = .ok (.bipush (-9), 2) := by decide +kernel
theorem dX5_takeDigitBut_43 : decode cX5_takeDigitBut 43 = .ok (.ireturn, 1) := by decide +kernel
theorem dX5_takeDigitBut_44 : decode cX5_takeDigitBut 44 = .ok (.aload_n 0, 1) := by decide +kernel
theorem dX5_takeDigitBut_45 : decode cX5_takeDigitBut 45 = .ok (.dup, 1) := by decide +kernel
theorem dX5_takeDigitBut_46 : decode cX5_takeDigitBut 46 = .ok (.getfield 22, 3) := by decide +kernel
theorem dX5_takeDigitBut_49 : decode cX5_takeDigitBut 49 = .ok (.iconst 1, 1) := by decide +kernel
theorem dX5_takeDigitBut_50 : decode cX5_takeDigitBut 50 = .ok (.iadd, 1) := by decide +kernel
theorem dX5_takeDigitBut_51 : decode cX5_takeDigitBut 51 = .ok (.putfield 22, 3) := by decide +kernel
theorem dX5_takeDigitBut_54 : decode cX5_takeDigitBut 54 = .ok (.iload_n 3, 1) := by decide +kernel
theorem dX5_takeDigitBut_55 : decode cX5_takeDigitBut 55 = .ok (.ireturn, 1) := by decide +kernel
theorem dX5_takeKind_0 : decode cX5_takeKind 0 = .ok (.aload_n 0, 1) := by decide +kernel
theorem dX5_takeKind_1 : decode cX5_takeKind 1 = .ok (.bipush 103, 2) := by decide +kernel
theorem dX5_takeKind_3 : decode cX5_takeKind 3 = .ok (.invokevirtual 41, 3) := by decide +kernel
theorem dX5_takeKind_6 : decode cX5_takeKind 6 = .ok (.ifCond .eq 5, 3) := by decide +kernel
theorem dX5_takeKind_9 : decode cX5_takeKind 9 = .ok (.iconst 0, 1) := by decide +kernel
theorem dX5_takeKind_10 : decode cX5_takeKind 10 = .ok (.ireturn, 1) := by decide +kernel
theorem dX5_takeKind_11 : decode cX5_takeKind 11 = .ok (.aload_n 0, 1) := by decide +kernel
theorem dX5_takeKind_12 : decode cX5_takeKind 12 = .ok (.bipush 97, 2) := by decide +kernel
theorem dX5_takeKind_14 : decode cX5_takeKind 14 = .ok (.invokevirtual 41, 3) := by decide +kernel
theorem dX5_takeKind_17 : decode cX5_takeKind 17 = .ok (.ifCond .eq 5, 3) := by decide +kernel
theorem dX5_takeKind_20 : decode cX5_takeKind 20 = .ok (.iconst 1, 1) := by decide +kernel
theorem dX5_takeKind_21 : decode cX5_takeKind 21 = .ok (.ireturn, 1) := by decide +kernel
theorem dX5_takeKind_22 : decode cX5_takeKind 22 = .ok (.aload_n 0, 1) := by decide +kernel
theorem dX5_takeKind_23 : decode cX5_takeKind 23 = .ok (.bipush 99, 2) := by decide +kernel
theorem dX5_takeKind_25 : decode cX5_takeKind 25 = .ok (.invokevirtual 41, 3) := by decide +kernel
theorem dX5_takeKind_28 : decode cX5_takeKind 28 = .ok (.ifCond .eq 7, 3) := by decide +kernel
theorem dX5_takeKind_31 : decode cX5_takeKind 31 = .ok (.iconst 2, 1) := by decide +kernel
theorem dX5_takeKind_32 : decode cX5_takeKind 32 = .ok (.goto 5, 3) := by decide +kernel
theorem dX5_takeKind_35 : decode cX5_takeKind 35 = .ok (.bipush (-9), 2) := by decide +kernel
theorem dX5_takeKind_37 : decode cX5_takeKind 37 = .ok (.ireturn, 1) := by decide +kernel
theorem dX6_init_0 : decode cX6_init 0 = .ok (.aload_n 0, 1) := by decide +kernel
theorem dX6_init_1 : decode cX6_init 1 = .ok (.invokespecial 5, 3) := by decide +kernel
theorem dX6_init_4 : decode cX6_init 4 = .ok (.aload_n 0, 1) := by decide +kernel
theorem dX6_init_5 : decode cX6_init 5 = .ok (.iconst 4, 1) := by decide +kernel
theorem dX6_init_6 : decode cX6_init 6 = .ok (.anewarray 11, 3) := by decide +kernel
theorem dX6_init_9 : decode cX6_init 9 = .ok (.putfield 13, 3) := by decide +kernel
theorem dX6_init_12 : decode cX6_init 12 = .ok (.aload_n 0, 1) := by decide +kernel
theorem dX6_init_13 : decode cX6_init 13 = .ok (.new 17, 3) := by decide +kernel
theorem dX6_init_16 : decode cX6_init 16 = .ok (.dup, 1) := by decide +kernel
theorem dX6_init_17 : decode cX6_init 17 = .ok (.invokespecial 19, 3) := by decide +kernel
theorem dX6_init_20 : decode cX6_init 20 = .ok (.putfield 20, 3) := by decide +kernel
theorem dX6_init_23 : decode cX6_init 23 = .ok (.aload_n 0, 1) := by decide +kernel
theorem dX6_init_24 : decode cX6_init 24 = .ok (.new 24, 3) := by decide +kernel
theorem dX6_init_27 : decode cX6_init 27 = .ok (.dup, 1) := by decide +kernel
theorem dX6_init_28 : decode cX6_init 28 = .ok (.invokespecial 26, 3) := by decide +kernel
theorem dX6_init_31 : decode cX6_init 31 = .ok (.putfield 27, 3) := by decide +kernel
theorem dX6_init_34 : decode cX6_init 34 = .ok (.aload_n 0, 1) := by decide +kernel
theorem dX6_init_35 : decode cX6_init 35 = .ok (.new 31, 3) := by decide +kernel
theorem dX6_init_38 : decode cX6_init 38 = .ok (.dup, 1) := by decide +kernel
theorem dX6_init_39 : decode cX6_init 39 = .ok (.invokespecial 33, 3) := by decide +kernel
theorem dX6_init_42 : decode cX6_init 42 = .ok (.putfield 34, 3) := by decide +kernel
theorem dX6_init_45 : decode cX6_init 45 = .ok (.aload_n 0, 1) := by decide +kernel
theorem dX6_init_46 : decode cX6_init 46 = .ok (.new 38, 3) := by decide +kernel
theorem dX6_init_49 : decode cX6_init 49 = .ok (.dup, 1) := by decide +kernel
theorem dX6_init_50 : decode cX6_init 50 = .ok (.invokespecial 40, 3) := by decide +kernel
theorem dX6_init_53 : decode cX6_init 53 = .ok (.putfield 41, 3) := by decide +kernel
theorem dX6_init_56 : decode cX6_init 56 = .ok (.aload_n 0, 1) := by decide +kernel
theorem dX6_init_57 : decode cX6_init 57 = .ok (.new 45, 3) := by decide +kernel
theorem dX6_init_60 : decode cX6_init 60 = .ok (.dup, 1) := by decide +kernel
theorem dX6_init_61 : decode cX6_init 61 = .ok (.invokespecial 47, 3) := by decide +kernel
theorem dX6_init_64 : decode cX6_init 64 = .ok (.putfield 48, 3) := by decide +kernel
theorem dX6_init_67 : decode cX6_init 67 = .ok (.aload_n 0, 1) := by decide +kernel
theorem dX6_init_68 : decode cX6_init 68 = .ok (.new 45, 3) := by decide +kernel
theorem dX6_init_71 : decode cX6_init 71 = .ok (.dup, 1) := by decide +kernel
theorem dX6_init_72 : decode cX6_init 72 = .ok (.invokespecial 47, 3) := by decide +kernel
theorem dX6_init_75 : decode cX6_init 75 = .ok (.putfield 52, 3) := by decide +kernel
theorem dX6_init_78 : decode cX6_init 78 = .ok (.iconst 0, 1) := by decide +kernel
theorem dX6_init_79 : decode cX6_init 79 = .ok (.istore_n 1, 1) := by decide +kernel
theorem dX6_init_80 : decode cX6_init 80 = .ok (.iload_n 1, 1) := by decide +kernel
theorem dX6_init_81 : decode cX6_init 81 = .ok (.iconst 4, 1) := by decide +kernel
theorem dX6_init_82 : decode cX6_init 82 = .ok (.if_icmp .ge 22, 3) := by decide +kernel
theorem dX6_init_85 : decode cX6_init 85 = .ok (.aload_n 0, 1) := by decide +kernel
theorem dX6_init_86 : decode cX6_init 86 = .ok (.getfield 13, 3) := by decide +kernel
theorem dX6_init_89 : decode cX6_init 89 = .ok (.iload_n 1, 1) := by decide +kernel
theorem dX6_init_90 : decode cX6_init 90 = .ok (.new 11, 3) := by decide +kernel
theorem dX6_init_93 : decode cX6_init 93 = .ok (.dup, 1) := by decide +kernel
theorem dX6_init_94 : decode cX6_init 94 = .ok (.invokespecial 55, 3) := by decide +kernel
theorem dX6_init_97 : decode cX6_init 97 = .ok (.aastore, 1) := by decide +kernel
theorem dX6_init_98 : decode cX6_init 98 = .ok (.iinc 1 1, 3) := by decide +kernel
theorem dX6_init_101 : decode cX6_init 101 = .ok (.goto (-21), 3) := by decide +kernel
theorem dX6_init_104 : decode cX6_init 104 = .ok (.return_, 1) := by decide +kernel
theorem dX6_table_0 : decode cX6_table 0 = .ok (.aload_n 0, 1) := by decide +kernel
theorem dX6_table_1 : decode cX6_table 1 = .ok (.iconst 0, 1) := by decide +kernel
theorem dX6_table_2 : decode cX6_table 2 = .ok (.putfield 56, 3) := by decide +kernel
theorem dX6_table_5 : decode cX6_table 5 = .ok (.iload_n 1, 1) := by decide +kernel
theorem dX6_table_6 : decode cX6_table 6 = .ok (.invokestatic 60, 3) := by decide +kernel
theorem dX6_table_9 : decode cX6_table 9 = .ok (.ifCond .ne 5, 3) := by decide +kernel
theorem dX6_table_12 : decode cX6_table 12 = .ok (.iconst (-1), 1) := by decide +kernel
theorem dX6_table_13 : decode cX6_table 13 = .ok (.ireturn, 1) := by decide +kernel
theorem dX6_table_14 : decode cX6_table 14 = .ok (.iload_n 2, 1) := by decide +kernel
theorem dX6_table_15 : decode cX6_table 15 = .ok (.iconst 3, 1) := by decide +kernel
theorem dX6_table_16 : decode cX6_table 16 = .ok (.invokestatic 64, 3) := by decide +kernel
theorem dX6_table_19 : decode cX6_table 19 = .ok (.ifCond .ne 6, 3) := by decide +kernel
theorem dX6_table_22 : decode cX6_table 22 = .ok (.bipush (-2), 2) := by decide +kernel
theorem dX6_table_24 : decode cX6_table 24 = .ok (.ireturn, 1) := by decide +kernel
theorem dX6_table_25 : decode cX6_table 25 = .ok (.aload_n 0, 1) := by decide +kernel
theorem dX6_table_26 : decode cX6_table 26 = .ok (.getfield 13, 3) := by decide +kernel
theorem dX6_table_29 : decode cX6_table 29 = .ok (.iload_n 1, 1) := by decide +kernel
theorem dX6_table_30 : decode cX6_table 30 = .ok (.aaload, 1) := by decide +kernel
theorem dX6_table_31 : decode cX6_table 31 = .ok (.iload_n 2, 1) := by decide +kernel
theorem dX6_table_32 : decode cX6_table 32 = .ok (.iload_n 3, 1) := by decide +kernel
theorem dX6_table_33 : decode cX6_table 33 = .ok (.iload 4, 2) := by decide +kernel
theorem dX6_table_35 : decode cX6_table 35 = .ok (.invokevirtual 68, 3) := by decide +kernel
theorem dX6_table_38 : decode cX6_table 38 = .ok (.istore 5, 2) := by decide +kernel
theorem dX6_table_40 : decode cX6_table 40 = .ok (.iload 5, 2) := by decide +kernel
theorem dX6_table_42 : decode cX6_table 42 = .ok (.ifCond .eq 10, 3) := by decide +kernel
theorem dX6_table_45 : decode cX6_table 45 = .ok (.aload_n 0, 1) := by decide +kernel
theorem dX6_table_46 : decode cX6_table 46 = .ok (.iload 5, 2) := by decide +kernel
theorem dX6_table_48 : decode cX6_table 48 = .ok (.invokevirtual 72, 3) := by decide +kernel
theorem dX6_table_51 : decode cX6_table 51 = .ok (.ireturn, 1) := by decide +kernel
theorem dX6_table_52 : decode cX6_table 52 = .ok (.aload_n 0, 1) := by decide +kernel
theorem dX6_table_53 : decode cX6_table 53 = .ok (.getfield 20, 3) := by decide +kernel
theorem dX6_table_56 : decode cX6_table 56 = .ok (.aload_n 0, 1) := by decide +kernel
theorem dX6_table_57 : decode cX6_table 57 = .ok (.getfield 13, 3) := by decide +kernel
theorem dX6_table_60 : decode cX6_table 60 = .ok (.iload_n 1, 1) := by decide +kernel
theorem dX6_table_61 : decode cX6_table 61 = .ok (.aaload, 1) := by decide +kernel
theorem dX6_table_62 : decode cX6_table 62 = .ok (.getfield 76, 3) := by decide +kernel
theorem dX6_table_65 : decode cX6_table 65 = .ok (.iload_n 3, 1) := by decide +kernel
theorem dX6_table_66 : decode cX6_table 66 = .ok (.iload 4, 2) := by decide +kernel
theorem dX6_table_68 : decode cX6_table 68 = .ok (.invokevirtual 80, 3) := by decide +kernel
theorem dX6_table_71 : decode cX6_table 71 = .ok (.aload_n 0, 1) := by decide +kernel
theorem dX6_table_72 : decode cX6_table 72 = .ok (.getfield 52, 3) := by decide +kernel
theorem dX6_table_75 : decode cX6_table 75 = .ok (.aload_n 0, 1) := by decide +kernel
theorem dX6_table_76 : decode cX6_table 76 = .ok (.getfield 20, 3) := by decide +kernel
theorem dX6_table_79 : decode cX6_table 79 = .ok (.invokevirtual 84, 3) := by decide +kernel
theorem dX6_table_82 : decode cX6_table 82 = .ok (.ifCond .ne 14, 3) := by decide +kernel
theorem dX6_table_85 : decode cX6_table 85 = .ok (.bipush (-100), 2) := by decide +kernel
theorem dX6_table_87 : decode cX6_table 87 = .ok (.aload_n 0, 1) := by decide +kernel
theorem dX6_table_88 : decode cX6_table 88 = .ok (.getfield 20, 3) := by decide +kernel
theorem dX6_table_91 : decode cX6_table 91 = .ok (.getfield 88, 3) := by decide +kernel
theorem dX6_table_94 : decode cX6_table 94 = .ok (.isub, 1) := by decide +kernel
theorem dX6_table_95 : decode cX6_table 95 = .ok (.ireturn, 1) := by decide +kernel
theorem dX6_table_96 : decode cX6_table 96 = .ok (.aload_n 0, 1) := by decide +kernel
theorem dX6_table_97 : decode cX6_table 97 = .ok (.getfield 52, 3) := by decide +kernel
theorem dX6_table_100 : decode cX6_table 100 = .ok (.astore 6, 2) := by decide +kernel
theorem dX6_table_102 : decode cX6_table 102 = .ok (.aload_n 0, 1) := by decide +kernel
theorem dX6_table_103 : decode cX6_table 103 = .ok (.aload_n 0, 1) := by decide +kernel
theorem dX6_table_104 : decode cX6_table 104 = .ok (.getfield 48, 3) := by decide +kernel
theorem dX6_table_107 : decode cX6_table 107 = .ok (.putfield 52, 3) := by decide +kernel
theorem dX6_table_110 : decode cX6_table 110 = .ok (.aload_n 0, 1) := by decide +kernel
theorem dX6_table_111 : decode cX6_table 111 = .ok (.aload 6, 2) := by decide +kernel
theorem dX6_table_113 : decode cX6_table 113 = .ok (.putfield 48, 3) := by decide +kernel
theorem dX6_table_116 : decode cX6_table 116 = .ok (.aload_n 0, 1) := by decide +kernel
theorem dX6_table_117 : decode cX6_table 117 = .ok (.getfield 48, 3) := by decide +kernel
theorem dX6_table_120 : decode cX6_table 120 = .ok (.getfield 91, 3) := by decide +kernel
theorem dX6_table_123 : decode cX6_table 123 = .ok (.ireturn, 1) := by decide +kernel
theorem dX6_ofGuest_0 : decode cX6_ofGuest 0 = .ok (.iload_n 1, 1) := by decide +kernel
theorem dX6_ofGuest_1 : decode cX6_ofGuest 1 = .ok (.aload_n 0, 1) := by decide +kernel
theorem dX6_ofGuest_2 : decode cX6_ofGuest 2 = .ok (.getfield 48, 3) := by decide +kernel
theorem dX6_ofGuest_5 : decode cX6_ofGuest 5 = .ok (.getfield 91, 3) := by decide +kernel
theorem dX6_ofGuest_8 : decode cX6_ofGuest 8 = .ok (.invokestatic 64, 3) := by decide +kernel
theorem dX6_ofGuest_11 : decode cX6_ofGuest 11 = .ok (.ifCond .ne 5, 3) := by decide +kernel
theorem dX6_ofGuest_14 : decode cX6_ofGuest 14 = .ok (.iconst (-1), 1) := by decide +kernel
theorem dX6_ofGuest_15 : decode cX6_ofGuest 15 = .ok (.ireturn, 1) := by decide +kernel
theorem dX6_ofGuest_16 : decode cX6_ofGuest 16 = .ok (.iload_n 2, 1) := by decide +kernel
theorem dX6_ofGuest_17 : decode cX6_ofGuest 17 = .ok (.tableswitch 70 0 3 #[31, 41, 51, 61], 31) := by decide +kernel
theorem dX6_ofGuest_48 : decode cX6_ofGuest 48 = .ok (.aload_n 0, 1) := by decide +kernel
theorem dX6_ofGuest_49 : decode cX6_ofGuest 49 = .ok (.getfield 48, 3) := by decide +kernel
theorem dX6_ofGuest_52 : decode cX6_ofGuest 52 = .ok (.getfield 94, 3) := by decide +kernel
theorem dX6_ofGuest_55 : decode cX6_ofGuest 55 = .ok (.iload_n 1, 1) := by decide +kernel
theorem dX6_ofGuest_56 : decode cX6_ofGuest 56 = .ok (.iaload, 1) := by decide +kernel
theorem dX6_ofGuest_57 : decode cX6_ofGuest 57 = .ok (.ireturn, 1) := by decide +kernel
theorem dX6_ofGuest_58 : decode cX6_ofGuest 58 = .ok (.aload_n 0, 1) := by decide +kernel
theorem dX6_ofGuest_59 : decode cX6_ofGuest 59 = .ok (.getfield 48, 3) := by decide +kernel
theorem dX6_ofGuest_62 : decode cX6_ofGuest 62 = .ok (.getfield 97, 3) := by decide +kernel
theorem dX6_ofGuest_65 : decode cX6_ofGuest 65 = .ok (.iload_n 1, 1) := by decide +kernel
theorem dX6_ofGuest_66 : decode cX6_ofGuest 66 = .ok (.iaload, 1) := by decide +kernel
theorem dX6_ofGuest_67 : decode cX6_ofGuest 67 = .ok (.ireturn, 1) := by decide +kernel
theorem dX6_ofGuest_68 : decode cX6_ofGuest 68 = .ok (.aload_n 0, 1) := by decide +kernel
theorem dX6_ofGuest_69 : decode cX6_ofGuest 69 = .ok (.getfield 48, 3) := by decide +kernel
theorem dX6_ofGuest_72 : decode cX6_ofGuest 72 = .ok (.getfield 100, 3) := by decide +kernel
theorem dX6_ofGuest_75 : decode cX6_ofGuest 75 = .ok (.iload_n 1, 1) := by decide +kernel
theorem dX6_ofGuest_76 : decode cX6_ofGuest 76 = .ok (.iaload, 1) := by decide +kernel
theorem dX6_ofGuest_77 : decode cX6_ofGuest 77 = .ok (.ireturn, 1) := by decide +kernel
theorem dX6_ofGuest_78 : decode cX6_ofGuest 78 = .ok (.aload_n 0, 1) := by decide +kernel
theorem dX6_ofGuest_79 : decode cX6_ofGuest 79 = .ok (.getfield 48, 3) := by decide +kernel
theorem dX6_ofGuest_82 : decode cX6_ofGuest 82 = .ok (.iload_n 1, 1) := by decide +kernel
theorem dX6_ofGuest_83 : decode cX6_ofGuest 83 = .ok (.invokevirtual 103, 3) := by decide +kernel
theorem dX6_ofGuest_86 : decode cX6_ofGuest 86 = .ok (.ireturn, 1) := by decide +kernel
theorem dX6_ofGuest_87 : decode cX6_ofGuest 87 = .ok (.bipush (-2), 2) := by decide +kernel
theorem dX6_ofGuest_89 : decode cX6_ofGuest 89 = .ok (.ireturn, 1) := by decide +kernel
theorem dX6_ofDish_0 : decode cX6_ofDish 0 = .ok (.iload_n 1, 1) := by decide +kernel
theorem dX6_ofDish_1 : decode cX6_ofDish 1 = .ok (.aload_n 0, 1) := by decide +kernel
theorem dX6_ofDish_2 : decode cX6_ofDish 2 = .ok (.getfield 48, 3) := by decide +kernel
theorem dX6_ofDish_5 : decode cX6_ofDish 5 = .ok (.getfield 106, 3) := by decide +kernel
theorem dX6_ofDish_8 : decode cX6_ofDish 8 = .ok (.invokestatic 64, 3) := by decide +kernel
theorem dX6_ofDish_11 : decode cX6_ofDish 11 = .ok (.ifCond .ne 5, 3) := by decide +kernel
theorem dX6_ofDish_14 : decode cX6_ofDish 14 = .ok (.iconst (-1), 1) := by decide +kernel
theorem dX6_ofDish_15 : decode cX6_ofDish 15 = .ok (.ireturn, 1) := by decide +kernel
theorem dX6_ofDish_16 : decode cX6_ofDish 16 = .ok (.iload_n 2, 1) := by decide +kernel
theorem dX6_ofDish_17 : decode cX6_ofDish 17 = .ok (.tableswitch 63 0 2 #[27, 37, 47], 27) := by decide +kernel
theorem dX6_ofDish_44 : decode cX6_ofDish 44 = .ok (.aload_n 0, 1) := by decide +kernel
theorem dX6_ofDish_45 : decode cX6_ofDish 45 = .ok (.getfield 48, 3) := by decide +kernel
theorem dX6_ofDish_48 : decode cX6_ofDish 48 = .ok (.getfield 109, 3) := by decide +kernel
theorem dX6_ofDish_51 : decode cX6_ofDish 51 = .ok (.iload_n 1, 1) := by decide +kernel
theorem dX6_ofDish_52 : decode cX6_ofDish 52 = .ok (.iaload, 1) := by decide +kernel
theorem dX6_ofDish_53 : decode cX6_ofDish 53 = .ok (.ireturn, 1) := by decide +kernel
theorem dX6_ofDish_54 : decode cX6_ofDish 54 = .ok (.aload_n 0, 1) := by decide +kernel
theorem dX6_ofDish_55 : decode cX6_ofDish 55 = .ok (.getfield 48, 3) := by decide +kernel
theorem dX6_ofDish_58 : decode cX6_ofDish 58 = .ok (.getfield 112, 3) := by decide +kernel
theorem dX6_ofDish_61 : decode cX6_ofDish 61 = .ok (.iload_n 1, 1) := by decide +kernel
theorem dX6_ofDish_62 : decode cX6_ofDish 62 = .ok (.iaload, 1) := by decide +kernel
theorem dX6_ofDish_63 : decode cX6_ofDish 63 = .ok (.ireturn, 1) := by decide +kernel
theorem dX6_ofDish_64 : decode cX6_ofDish 64 = .ok (.aload_n 0, 1) := by decide +kernel
theorem dX6_ofDish_65 : decode cX6_ofDish 65 = .ok (.getfield 48, 3) := by decide +kernel
theorem dX6_ofDish_68 : decode cX6_ofDish 68 = .ok (.iload_n 1, 1) := by decide +kernel
theorem dX6_ofDish_69 : decode cX6_ofDish 69 = .ok (.aload_n 0, 1) := by decide +kernel
theorem dX6_ofDish_70 : decode cX6_ofDish 70 = .ok (.getfield 48, 3) := by decide +kernel
theorem dX6_ofDish_73 : decode cX6_ofDish 73 = .ok (.getfield 115, 3) := by decide +kernel
theorem dX6_ofDish_76 : decode cX6_ofDish 76 = .ok (.invokevirtual 118, 3) := by decide +kernel
theorem dX6_ofDish_79 : decode cX6_ofDish 79 = .ok (.ireturn, 1) := by decide +kernel
theorem dX6_ofDish_80 : decode cX6_ofDish 80 = .ok (.bipush (-2), 2) := by decide +kernel
theorem dX6_ofDish_82 : decode cX6_ofDish 82 = .ok (.ireturn, 1) := by decide +kernel
theorem dX6_whose_0 : decode cX6_whose 0 = .ok (.iload_n 1, 1) := by decide +kernel
theorem dX6_whose_1 : decode cX6_whose 1 = .ok (.aload_n 0, 1) := by decide +kernel
theorem dX6_whose_2 : decode cX6_whose 2 = .ok (.getfield 48, 3) := by decide +kernel
theorem dX6_whose_5 : decode cX6_whose 5 = .ok (.getfield 91, 3) := by decide +kernel
theorem dX6_whose_8 : decode cX6_whose 8 = .ok (.invokestatic 64, 3) := by decide +kernel
theorem dX6_whose_11 : decode cX6_whose 11 = .ok (.ifCond .ne 5, 3) := by decide +kernel
theorem dX6_whose_14 : decode cX6_whose 14 = .ok (.iconst (-1), 1) := by decide +kernel
theorem dX6_whose_15 : decode cX6_whose 15 = .ok (.ireturn, 1) := by decide +kernel
theorem dX6_whose_16 : decode cX6_whose 16 = .ok (.aload_n 0, 1) := by decide +kernel
theorem dX6_whose_17 : decode cX6_whose 17 = .ok (.getfield 48, 3) := by decide +kernel
theorem dX6_whose_20 : decode cX6_whose 20 = .ok (.iload_n 1, 1) := by decide +kernel
theorem dX6_whose_21 : decode cX6_whose 21 = .ok (.aload_n 0, 1) := by decide +kernel
theorem dX6_whose_22 : decode cX6_whose 22 = .ok (.getfield 48, 3) := by decide +kernel
theorem dX6_whose_25 : decode cX6_whose 25 = .ok (.getfield 115, 3) := by decide +kernel
theorem dX6_whose_28 : decode cX6_whose 28 = .ok (.invokevirtual 122, 3) := by decide +kernel
theorem dX6_whose_31 : decode cX6_whose 31 = .ok (.ireturn, 1) := by decide +kernel
theorem dX6_land_0 : decode cX6_land 0 = .ok (.iload_n 1, 1) := by decide +kernel
theorem dX6_land_1 : decode cX6_land 1 = .ok (.iconst 2, 1) := by decide +kernel
theorem dX6_land_2 : decode cX6_land 2 = .ok (.invokestatic 64, 3) := by decide +kernel
theorem dX6_land_5 : decode cX6_land 5 = .ok (.ifCond .ne 5, 3) := by decide +kernel
theorem dX6_land_8 : decode cX6_land 8 = .ok (.iconst (-1), 1) := by decide +kernel
theorem dX6_land_9 : decode cX6_land 9 = .ok (.ireturn, 1) := by decide +kernel
theorem dX6_land_10 : decode cX6_land 10 = .ok (.aload_n 0, 1) := by decide +kernel
theorem dX6_land_11 : decode cX6_land 11 = .ok (.getfield 48, 3) := by decide +kernel
theorem dX6_land_14 : decode cX6_land 14 = .ok (.invokevirtual 125, 3) := by decide +kernel
theorem dX6_land_17 : decode cX6_land 17 = .ok (.ifCond .ne 6, 3) := by decide +kernel
theorem dX6_land_20 : decode cX6_land 20 = .ok (.bipush (-3), 2) := by decide +kernel
theorem dX6_land_22 : decode cX6_land 22 = .ok (.ireturn, 1) := by decide +kernel
theorem dX6_land_23 : decode cX6_land 23 = .ok (.aload_n 0, 1) := by decide +kernel
theorem dX6_land_24 : decode cX6_land 24 = .ok (.getfield 48, 3) := by decide +kernel
theorem dX6_land_27 : decode cX6_land 27 = .ok (.iload_n 1, 1) := by decide +kernel
theorem dX6_land_28 : decode cX6_land 28 = .ok (.aload_n 0, 1) := by decide +kernel
theorem dX6_land_29 : decode cX6_land 29 = .ok (.getfield 48, 3) := by decide +kernel
theorem dX6_land_32 : decode cX6_land 32 = .ok (.getfield 115, 3) := by decide +kernel
theorem dX6_land_35 : decode cX6_land 35 = .ok (.invokevirtual 129, 3) := by decide +kernel
theorem dX6_land_38 : decode cX6_land 38 = .ok (.ireturn, 1) := by decide +kernel
theorem dX6_chew_0 : decode cX6_chew 0 = .ok (.iload_n 1, 1) := by decide +kernel
theorem dX6_chew_1 : decode cX6_chew 1 = .ok (.aload_n 0, 1) := by decide +kernel
theorem dX6_chew_2 : decode cX6_chew 2 = .ok (.getfield 48, 3) := by decide +kernel
theorem dX6_chew_5 : decode cX6_chew 5 = .ok (.getfield 91, 3) := by decide +kernel
theorem dX6_chew_8 : decode cX6_chew 8 = .ok (.invokestatic 64, 3) := by decide +kernel
theorem dX6_chew_11 : decode cX6_chew 11 = .ok (.ifCond .ne 5, 3) := by decide +kernel
theorem dX6_chew_14 : decode cX6_chew 14 = .ok (.iconst (-1), 1) := by decide +kernel
theorem dX6_chew_15 : decode cX6_chew 15 = .ok (.ireturn, 1) := by decide +kernel
theorem dX6_chew_16 : decode cX6_chew 16 = .ok (.iload_n 2, 1) := by decide +kernel
theorem dX6_chew_17 : decode cX6_chew 17 = .ok (.bipush 10, 2) := by decide +kernel
theorem dX6_chew_19 : decode cX6_chew 19 = .ok (.invokestatic 64, 3) := by decide +kernel
theorem dX6_chew_22 : decode cX6_chew 22 = .ok (.ifCond .ne 6, 3) := by decide +kernel
theorem dX6_chew_25 : decode cX6_chew 25 = .ok (.bipush (-2), 2) := by decide +kernel
theorem dX6_chew_27 : decode cX6_chew 27 = .ok (.ireturn, 1) := by decide +kernel
theorem dX6_chew_28 : decode cX6_chew 28 = .ok (.aload_n 0, 1) := by decide +kernel
theorem dX6_chew_29 : decode cX6_chew 29 = .ok (.getfield 48, 3) := by decide +kernel
theorem dX6_chew_32 : decode cX6_chew 32 = .ok (.getfield 97, 3) := by decide +kernel
theorem dX6_chew_35 : decode cX6_chew 35 = .ok (.iload_n 1, 1) := by decide +kernel
theorem dX6_chew_36 : decode cX6_chew 36 = .ok (.iaload, 1) := by decide +kernel
theorem dX6_chew_37 : decode cX6_chew 37 = .ok (.istore_n 3, 1) := by decide +kernel
theorem dX6_chew_38 : decode cX6_chew 38 = .ok (.aload_n 0, 1) := by decide +kernel
theorem dX6_chew_39 : decode cX6_chew 39 = .ok (.getfield 48, 3) := by decide +kernel
theorem dX6_chew_42 : decode cX6_chew 42 = .ok (.getfield 97, 3) := by decide +kernel
theorem dX6_chew_45 : decode cX6_chew 45 = .ok (.iload_n 1, 1) := by decide +kernel
theorem dX6_chew_46 : decode cX6_chew 46 = .ok (.iload_n 2, 1) := by decide +kernel
theorem dX6_chew_47 : decode cX6_chew 47 = .ok (.iastore, 1) := by decide +kernel
theorem dX6_chew_48 : decode cX6_chew 48 = .ok (.iload_n 3, 1) := by decide +kernel
theorem dX6_chew_49 : decode cX6_chew 49 = .ok (.ireturn, 1) := by decide +kernel
theorem dX6_cook_0 : decode cX6_cook 0 = .ok (.iload_n 1, 1) := by decide +kernel
theorem dX6_cook_1 : decode cX6_cook 1 = .ok (.iconst 4, 1) := by decide +kernel
theorem dX6_cook_2 : decode cX6_cook 2 = .ok (.invokestatic 64, 3) := by decide +kernel
theorem dX6_cook_5 : decode cX6_cook 5 = .ok (.ifCond .ne 6, 3) := by decide +kernel
theorem dX6_cook_8 : decode cX6_cook 8 = .ok (.bipush (-2), 2) := by decide +kernel
theorem dX6_cook_10 : decode cX6_cook 10 = .ok (.ireturn, 1) := by decide +kernel
theorem dX6_cook_11 : decode cX6_cook 11 = .ok (.aload_n 0, 1) := by decide +kernel
theorem dX6_cook_12 : decode cX6_cook 12 = .ok (.getfield 48, 3) := by decide +kernel
theorem dX6_cook_15 : decode cX6_cook 15 = .ok (.invokevirtual 125, 3) := by decide +kernel
theorem dX6_cook_18 : decode cX6_cook 18 = .ok (.ifCond .ne 6, 3) := by decide +kernel
theorem dX6_cook_21 : decode cX6_cook 21 = .ok (.bipush (-3), 2) := by decide +kernel
theorem dX6_cook_23 : decode cX6_cook 23 = .ok (.ireturn, 1) := by decide +kernel
theorem dX6_cook_24 : decode cX6_cook 24 = .ok (.aload_n 0, 1) := by decide +kernel
theorem dX6_cook_25 : decode cX6_cook 25 = .ok (.getfield 48, 3) := by decide +kernel
theorem dX6_cook_28 : decode cX6_cook 28 = .ok (.getfield 132, 3) := by decide +kernel
theorem dX6_cook_31 : decode cX6_cook 31 = .ok (.istore_n 2, 1) := by decide +kernel
theorem dX6_cook_32 : decode cX6_cook 32 = .ok (.aload_n 0, 1) := by decide +kernel
theorem dX6_cook_33 : decode cX6_cook 33 = .ok (.getfield 48, 3) := by decide +kernel
theorem dX6_cook_36 : decode cX6_cook 36 = .ok (.iload_n 1, 1) := by decide +kernel
theorem dX6_cook_37 : decode cX6_cook 37 = .ok (.putfield 132, 3) := by decide +kernel
theorem dX6_cook_40 : decode cX6_cook 40 = .ok (.iload_n 2, 1) := by decide +kernel
theorem dX6_cook_41 : decode cX6_cook 41 = .ok (.ireturn, 1) := by decide +kernel
theorem dX6_rate_0 : decode cX6_rate 0 = .ok (.iload_n 1, 1) := by decide +kernel
theorem dX6_rate_1 : decode cX6_rate 1 = .ok (.aload_n 0, 1) := by decide +kernel
theorem dX6_rate_2 : decode cX6_rate 2 = .ok (.getfield 48, 3) := by decide +kernel
theorem dX6_rate_5 : decode cX6_rate 5 = .ok (.getfield 106, 3) := by decide +kernel
theorem dX6_rate_8 : decode cX6_rate 8 = .ok (.invokestatic 64, 3) := by decide +kernel
theorem dX6_rate_11 : decode cX6_rate 11 = .ok (.ifCond .ne 5, 3) := by decide +kernel
theorem dX6_rate_14 : decode cX6_rate 14 = .ok (.iconst (-1), 1) := by decide +kernel
theorem dX6_rate_15 : decode cX6_rate 15 = .ok (.ireturn, 1) := by decide +kernel
theorem dX6_rate_16 : decode cX6_rate 16 = .ok (.iload_n 2, 1) := by decide +kernel
theorem dX6_rate_17 : decode cX6_rate 17 = .ok (.bipush 10, 2) := by decide +kernel
theorem dX6_rate_19 : decode cX6_rate 19 = .ok (.invokestatic 64, 3) := by decide +kernel
theorem dX6_rate_22 : decode cX6_rate 22 = .ok (.ifCond .ne 6, 3) := by decide +kernel
theorem dX6_rate_25 : decode cX6_rate 25 = .ok (.bipush (-2), 2) := by decide +kernel
theorem dX6_rate_27 : decode cX6_rate 27 = .ok (.ireturn, 1) := by decide +kernel
theorem dX6_rate_28 : decode cX6_rate 28 = .ok (.aload_n 0, 1) := by decide +kernel
theorem dX6_rate_29 : decode cX6_rate 29 = .ok (.getfield 48, 3) := by decide +kernel
theorem dX6_rate_32 : decode cX6_rate 32 = .ok (.getfield 112, 3) := by decide +kernel
theorem dX6_rate_35 : decode cX6_rate 35 = .ok (.iload_n 1, 1) := by decide +kernel
theorem dX6_rate_36 : decode cX6_rate 36 = .ok (.iaload, 1) := by decide +kernel
theorem dX6_rate_37 : decode cX6_rate 37 = .ok (.istore_n 3, 1) := by decide +kernel
theorem dX6_rate_38 : decode cX6_rate 38 = .ok (.aload_n 0, 1) := by decide +kernel
theorem dX6_rate_39 : decode cX6_rate 39 = .ok (.getfield 48, 3) := by decide +kernel
theorem dX6_rate_42 : decode cX6_rate 42 = .ok (.getfield 112, 3) := by decide +kernel
theorem dX6_rate_45 : decode cX6_rate 45 = .ok (.iload_n 1, 1) := by decide +kernel
theorem dX6_rate_46 : decode cX6_rate 46 = .ok (.iload_n 2, 1) := by decide +kernel
theorem dX6_rate_47 : decode cX6_rate 47 = .ok (.iastore, 1) := by decide +kernel
theorem dX6_rate_48 : decode cX6_rate 48 = .ok (.iload_n 3, 1) := by decide +kernel
theorem dX6_rate_49 : decode cX6_rate 49 = .ok (.ireturn, 1) := by decide +kernel
theorem dX6_carry_0 : decode cX6_carry 0 = .ok (.iload_n 1, 1) := by decide +kernel
theorem dX6_carry_1 : decode cX6_carry 1 = .ok (.aload_n 0, 1) := by decide +kernel
theorem dX6_carry_2 : decode cX6_carry 2 = .ok (.getfield 48, 3) := by decide +kernel
theorem dX6_carry_5 : decode cX6_carry 5 = .ok (.getfield 106, 3) := by decide +kernel
theorem dX6_carry_8 : decode cX6_carry 8 = .ok (.invokestatic 64, 3) := by decide +kernel
theorem dX6_carry_11 : decode cX6_carry 11 = .ok (.ifCond .eq 17, 3) := by decide +kernel
theorem dX6_carry_14 : decode cX6_carry 14 = .ok (.iload_n 2, 1) := by decide +kernel
theorem dX6_carry_15 : decode cX6_carry 15 = .ok (.aload_n 0, 1) := by decide +kernel
theorem dX6_carry_16 : decode cX6_carry 16 = .ok (.getfield 48, 3) := by decide +kernel
theorem dX6_carry_19 : decode cX6_carry 19 = .ok (.getfield 91, 3) := by decide +kernel
theorem dX6_carry_22 : decode cX6_carry 22 = .ok (.invokestatic 64, 3) := by decide +kernel
theorem dX6_carry_25 : decode cX6_carry 25 = .ok (.ifCond .ne 5, 3) := by decide +kernel
theorem dX6_carry_28 : decode cX6_carry 28 = .ok (.iconst (-1), 1) := by decide +kernel
theorem dX6_carry_29 : decode cX6_carry 29 = .ok (.ireturn, 1) := by decide +kernel
theorem dX6_carry_30 : decode cX6_carry 30 = .ok (.aload_n 0, 1) := by decide +kernel
theorem dX6_carry_31 : decode cX6_carry 31 = .ok (.getfield 48, 3) := by decide +kernel
theorem dX6_carry_34 : decode cX6_carry 34 = .ok (.getfield 109, 3) := by decide +kernel
theorem dX6_carry_37 : decode cX6_carry 37 = .ok (.iload_n 1, 1) := by decide +kernel
theorem dX6_carry_38 : decode cX6_carry 38 = .ok (.iaload, 1) := by decide +kernel
theorem dX6_carry_39 : decode cX6_carry 39 = .ok (.istore_n 3, 1) := by decide +kernel
theorem dX6_carry_40 : decode cX6_carry 40 = .ok (.aload_n 0, 1) := by decide +kernel
theorem dX6_carry_41 : decode cX6_carry 41 = .ok (.getfield 48, 3) := by decide +kernel
theorem dX6_carry_44 : decode cX6_carry 44 = .ok (.getfield 109, 3) := by decide +kernel
theorem dX6_carry_47 : decode cX6_carry 47 = .ok (.iload_n 1, 1) := by decide +kernel
theorem dX6_carry_48 : decode cX6_carry 48 = .ok (.iload_n 2, 1) := by decide +kernel
theorem dX6_carry_49 : decode cX6_carry 49 = .ok (.iastore, 1) := by decide +kernel
theorem dX6_carry_50 : decode cX6_carry 50 = .ok (.iload_n 3, 1) := by decide +kernel
theorem dX6_carry_51 : decode cX6_carry 51 = .ok (.ireturn, 1) := by decide +kernel
theorem dX6_pass_0 : decode cX6_pass 0 = .ok (.iload_n 1, 1) := by decide +kernel
theorem dX6_pass_1 : decode cX6_pass 1 = .ok (.iconst 4, 1) := by decide +kernel
theorem dX6_pass_2 : decode cX6_pass 2 = .ok (.invokestatic 64, 3) := by decide +kernel
theorem dX6_pass_5 : decode cX6_pass 5 = .ok (.ifCond .ne 6, 3) := by decide +kernel
theorem dX6_pass_8 : decode cX6_pass 8 = .ok (.bipush (-2), 2) := by decide +kernel
theorem dX6_pass_10 : decode cX6_pass 10 = .ok (.ireturn, 1) := by decide +kernel
theorem dX6_pass_11 : decode cX6_pass 11 = .ok (.aload_n 0, 1) := by decide +kernel
theorem dX6_pass_12 : decode cX6_pass 12 = .ok (.getfield 48, 3) := by decide +kernel
theorem dX6_pass_15 : decode cX6_pass 15 = .ok (.invokevirtual 125, 3) := by decide +kernel
theorem dX6_pass_18 : decode cX6_pass 18 = .ok (.ifCond .ne 6, 3) := by decide +kernel
theorem dX6_pass_21 : decode cX6_pass 21 = .ok (.bipush (-3), 2) := by decide +kernel
theorem dX6_pass_23 : decode cX6_pass 23 = .ok (.ireturn, 1) := by decide +kernel
theorem dX6_pass_24 : decode cX6_pass 24 = .ok (.aload_n 0, 1) := by decide +kernel
theorem dX6_pass_25 : decode cX6_pass 25 = .ok (.getfield 48, 3) := by decide +kernel
theorem dX6_pass_28 : decode cX6_pass 28 = .ok (.aload_n 0, 1) := by decide +kernel
theorem dX6_pass_29 : decode cX6_pass 29 = .ok (.getfield 48, 3) := by decide +kernel
theorem dX6_pass_32 : decode cX6_pass 32 = .ok (.getfield 115, 3) := by decide +kernel
theorem dX6_pass_35 : decode cX6_pass 35 = .ok (.iload_n 1, 1) := by decide +kernel
theorem dX6_pass_36 : decode cX6_pass 36 = .ok (.invokevirtual 135, 3) := by decide +kernel
theorem dX6_pass_39 : decode cX6_pass 39 = .ok (.istore_n 2, 1) := by decide +kernel
theorem dX6_pass_40 : decode cX6_pass 40 = .ok (.iload_n 2, 1) := by decide +kernel
theorem dX6_pass_41 : decode cX6_pass 41 = .ok (.bipush (-9), 2) := by decide +kernel
theorem dX6_pass_43 : decode cX6_pass 43 = .ok (.if_icmp .ne 6, 3) := by decide +kernel
theorem dX6_pass_46 : decode cX6_pass 46 = .ok (.bipush (-3), 2) := by decide +kernel
theorem dX6_pass_48 : decode cX6_pass 48 = .ok (.ireturn, 1) := by decide +kernel
theorem dX6_pass_49 : decode cX6_pass 49 = .ok (.aload_n 0, 1) := by decide +kernel
theorem dX6_pass_50 : decode cX6_pass 50 = .ok (.getfield 48, 3) := by decide +kernel
theorem dX6_pass_53 : decode cX6_pass 53 = .ok (.aload_n 0, 1) := by decide +kernel
theorem dX6_pass_54 : decode cX6_pass 54 = .ok (.getfield 48, 3) := by decide +kernel
theorem dX6_pass_57 : decode cX6_pass 57 = .ok (.getfield 115, 3) := by decide +kernel
theorem dX6_pass_60 : decode cX6_pass 60 = .ok (.iload_n 1, 1) := by decide +kernel
theorem dX6_pass_61 : decode cX6_pass 61 = .ok (.invokestatic 138, 3) := by decide +kernel
theorem dX6_pass_64 : decode cX6_pass 64 = .ok (.invokevirtual 103, 3) := by decide +kernel
theorem dX6_pass_67 : decode cX6_pass 67 = .ok (.istore_n 3, 1) := by decide +kernel
theorem dX6_pass_68 : decode cX6_pass 68 = .ok (.aload_n 0, 1) := by decide +kernel
theorem dX6_pass_69 : decode cX6_pass 69 = .ok (.getfield 48, 3) := by decide +kernel
theorem dX6_pass_72 : decode cX6_pass 72 = .ok (.iload_n 2, 1) := by decide +kernel
theorem dX6_pass_73 : decode cX6_pass 73 = .ok (.putfield 115, 3) := by decide +kernel
theorem dX6_pass_76 : decode cX6_pass 76 = .ok (.iload_n 3, 1) := by decide +kernel
theorem dX6_pass_77 : decode cX6_pass 77 = .ok (.ireturn, 1) := by decide +kernel
theorem dX6_dinner_0 : decode cX6_dinner 0 = .ok (.aload_n 0, 1) := by decide +kernel
theorem dX6_dinner_1 : decode cX6_dinner 1 = .ok (.iconst 0, 1) := by decide +kernel
theorem dX6_dinner_2 : decode cX6_dinner 2 = .ok (.putfield 56, 3) := by decide +kernel
theorem dX6_dinner_5 : decode cX6_dinner 5 = .ok (.iload_n 1, 1) := by decide +kernel
theorem dX6_dinner_6 : decode cX6_dinner 6 = .ok (.invokestatic 60, 3) := by decide +kernel
theorem dX6_dinner_9 : decode cX6_dinner 9 = .ok (.ifCond .ne 5, 3) := by decide +kernel
theorem dX6_dinner_12 : decode cX6_dinner 12 = .ok (.iconst (-1), 1) := by decide +kernel
theorem dX6_dinner_13 : decode cX6_dinner 13 = .ok (.ireturn, 1) := by decide +kernel
theorem dX6_dinner_14 : decode cX6_dinner 14 = .ok (.iload_n 2, 1) := by decide +kernel
theorem dX6_dinner_15 : decode cX6_dinner 15 = .ok (.iconst 3, 1) := by decide +kernel
theorem dX6_dinner_16 : decode cX6_dinner 16 = .ok (.invokestatic 64, 3) := by decide +kernel
theorem dX6_dinner_19 : decode cX6_dinner 19 = .ok (.ifCond .eq 21, 3) := by decide +kernel
theorem dX6_dinner_22 : decode cX6_dinner 22 = .ok (.iload 4, 2) := by decide +kernel
theorem dX6_dinner_24 : decode cX6_dinner 24 = .ok (.bipush 41, 2) := by decide +kernel
theorem dX6_dinner_26 : decode cX6_dinner 26 = .ok (.invokestatic 64, 3) := by decide +kernel
theorem dX6_dinner_29 : decode cX6_dinner 29 = .ok (.ifCond .eq 11, 3) := by decide +kernel
theorem dX6_dinner_32 : decode cX6_dinner 32 = .ok (.iload 5, 2) := by decide +kernel
theorem dX6_dinner_34 : decode cX6_dinner 34 = .ok (.invokestatic 141, 3) := by decide +kernel
theorem dX6_dinner_37 : decode cX6_dinner 37 = .ok (.ifCond .ne 6, 3) := by decide +kernel
theorem dX6_dinner_40 : decode cX6_dinner 40 = .ok (.bipush (-2), 2) := by decide +kernel
theorem dX6_dinner_42 : decode cX6_dinner 42 = .ok (.ireturn, 1) := by decide +kernel
theorem dX6_dinner_43 : decode cX6_dinner 43 = .ok (.aload_n 0, 1) := by decide +kernel
theorem dX6_dinner_44 : decode cX6_dinner 44 = .ok (.getfield 13, 3) := by decide +kernel
theorem dX6_dinner_47 : decode cX6_dinner 47 = .ok (.iload_n 1, 1) := by decide +kernel
theorem dX6_dinner_48 : decode cX6_dinner 48 = .ok (.aaload, 1) := by decide +kernel
theorem dX6_dinner_49 : decode cX6_dinner 49 = .ok (.astore 6, 2) := by decide +kernel
theorem dX6_dinner_51 : decode cX6_dinner 51 = .ok (.aload 6, 2) := by decide +kernel
theorem dX6_dinner_53 : decode cX6_dinner 53 = .ok (.iload_n 2, 1) := by decide +kernel
theorem dX6_dinner_54 : decode cX6_dinner 54 = .ok (.iload_n 3, 1) := by decide +kernel
theorem dX6_dinner_55 : decode cX6_dinner 55 = .ok (.iload 4, 2) := by decide +kernel
theorem dX6_dinner_57 : decode cX6_dinner 57 = .ok (.invokevirtual 68, 3) := by decide +kernel
theorem dX6_dinner_60 : decode cX6_dinner 60 = .ok (.istore 7, 2) := by decide +kernel
theorem dX6_dinner_62 : decode cX6_dinner 62 = .ok (.iload 7, 2) := by decide +kernel
theorem dX6_dinner_64 : decode cX6_dinner 64 = .ok (.ifCond .eq 10, 3) := by decide +kernel
theorem dX6_dinner_67 : decode cX6_dinner 67 = .ok (.aload_n 0, 1) := by decide +kernel
theorem dX6_dinner_68 : decode cX6_dinner 68 = .ok (.iload 7, 2) := by decide +kernel
theorem dX6_dinner_70 : decode cX6_dinner 70 = .ok (.invokevirtual 72, 3) := by decide +kernel
theorem dX6_dinner_73 : decode cX6_dinner 73 = .ok (.ireturn, 1) := by decide +kernel
theorem dX6_dinner_74 : decode cX6_dinner 74 = .ok (.aload_n 0, 1) := by decide +kernel
theorem dX6_dinner_75 : decode cX6_dinner 75 = .ok (.getfield 48, 3) := by decide +kernel
theorem dX6_dinner_78 : decode cX6_dinner 78 = .ok (.invokevirtual 125, 3) := by decide +kernel
theorem dX6_dinner_81 : decode cX6_dinner 81 = .ok (.ifCond .ne 6, 3) := by decide +kernel
theorem dX6_dinner_84 : decode cX6_dinner 84 = .ok (.bipush (-3), 2) := by decide +kernel
theorem dX6_dinner_86 : decode cX6_dinner 86 = .ok (.ireturn, 1) := by decide +kernel
theorem dX6_dinner_87 : decode cX6_dinner 87 = .ok (.aload 6, 2) := by decide +kernel
theorem dX6_dinner_89 : decode cX6_dinner 89 = .ok (.iload_n 3, 1) := by decide +kernel
theorem dX6_dinner_90 : decode cX6_dinner 90 = .ok (.iload 4, 2) := by decide +kernel
theorem dX6_dinner_92 : decode cX6_dinner 92 = .ok (.invokevirtual 144, 3) := by decide +kernel
theorem dX6_dinner_95 : decode cX6_dinner 95 = .ok (.ifCond .ne 6, 3) := by decide +kernel
theorem dX6_dinner_98 : decode cX6_dinner 98 = .ok (.bipush (-2), 2) := by decide +kernel
theorem dX6_dinner_100 : decode cX6_dinner 100 = .ok (.ireturn, 1) := by decide +kernel
theorem dX6_dinner_101 : decode cX6_dinner 101 = .ok (.aload_n 0, 1) := by decide +kernel
theorem dX6_dinner_102 : decode cX6_dinner 102 = .ok (.getfield 27, 3) := by decide +kernel
theorem dX6_dinner_105 : decode cX6_dinner 105 = .ok (.aload_n 0, 1) := by decide +kernel
theorem dX6_dinner_106 : decode cX6_dinner 106 = .ok (.getfield 48, 3) := by decide +kernel
theorem dX6_dinner_109 : decode cX6_dinner 109 = .ok (.aload 6, 2) := by decide +kernel
theorem dX6_dinner_111 : decode cX6_dinner 111 = .ok (.getfield 76, 3) := by decide +kernel
theorem dX6_dinner_114 : decode cX6_dinner 114 = .ok (.iload_n 3, 1) := by decide +kernel
theorem dX6_dinner_115 : decode cX6_dinner 115 = .ok (.iload 4, 2) := by decide +kernel
theorem dX6_dinner_117 : decode cX6_dinner 117 = .ok (.invokevirtual 147, 3) := by decide +kernel
theorem dX6_dinner_120 : decode cX6_dinner 120 = .ok (.aload_n 0, 1) := by decide +kernel
theorem dX6_dinner_121 : decode cX6_dinner 121 = .ok (.iload 5, 2) := by decide +kernel
theorem dX6_dinner_123 : decode cX6_dinner 123 = .ok (.invokevirtual 151, 3) := by decide +kernel
theorem dX6_dinner_126 : decode cX6_dinner 126 = .ok (.ireturn, 1) := by decide +kernel
theorem dX6_isAskedOfDinner_0 : decode cX6_isAskedOfDinner 0 = .ok (.iload_n 0, 1) := by decide +kernel
theorem dX6_isAskedOfDinner_1 : decode cX6_isAskedOfDinner 1 = .ok (.bipush 6, 2) := by decide +kernel
theorem dX6_isAskedOfDinner_3 : decode cX6_isAskedOfDinner 3 = .ok (.invokestatic 64, 3) := by decide +kernel
theorem dX6_isAskedOfDinner_6 : decode cX6_isAskedOfDinner 6 = .ok (.ifCond .ne 15, 3) := by decide +kernel
theorem dX6_isAskedOfDinner_9 : decode cX6_isAskedOfDinner 9 = .ok (.iload_n 0, 1) := by decide +kernel
theorem dX6_isAskedOfDinner_10 : decode cX6_isAskedOfDinner 10 = .ok (.bipush 10, 2) := by decide +kernel
theorem dX6_isAskedOfDinner_12 : decode cX6_isAskedOfDinner 12 = .ok (.if_icmp .lt 13, 3) := by decide +kernel
theorem dX6_isAskedOfDinner_15 : decode cX6_isAskedOfDinner 15 = .ok (.iload_n 0, 1) := by decide +kernel
theorem dX6_isAskedOfDinner_16 : decode cX6_isAskedOfDinner 16 = .ok (.bipush 16, 2) := by decide +kernel
theorem dX6_isAskedOfDinner_18 : decode cX6_isAskedOfDinner 18 = .ok (.if_icmp .ge 7, 3) := by decide +kernel
theorem dX6_isAskedOfDinner_21 : decode cX6_isAskedOfDinner 21 = .ok (.iconst 1, 1) := by decide +kernel
theorem dX6_isAskedOfDinner_22 : decode cX6_isAskedOfDinner 22 = .ok (.goto 4, 3) := by decide +kernel
theorem dX6_isAskedOfDinner_25 : decode cX6_isAskedOfDinner 25 = .ok (.iconst 0, 1) := by decide +kernel
theorem dX6_isAskedOfDinner_26 : decode cX6_isAskedOfDinner 26 = .ok (.ireturn, 1) := by decide +kernel
theorem dX6_answerOfDinner_0 : decode cX6_answerOfDinner 0 = .ok (.iload_n 1, 1) := by decide +kernel
theorem dX6_answerOfDinner_1 : decode cX6_answerOfDinner 1 = .ok (.iconst 1, 1) := by decide +kernel
theorem dX6_answerOfDinner_2 : decode cX6_answerOfDinner 2 = .ok (.if_icmp .ne 11, 3) := by decide +kernel
theorem dX6_answerOfDinner_5 : decode cX6_answerOfDinner 5 = .ok (.aload_n 0, 1) := by decide +kernel
theorem dX6_answerOfDinner_6 : decode cX6_answerOfDinner 6 = .ok (.getfield 27, 3) := by decide +kernel
theorem dX6_answerOfDinner_9 : decode cX6_answerOfDinner 9 = .ok (.getfield 154, 3) := by decide +kernel
theorem dX6_answerOfDinner_12 : decode cX6_answerOfDinner 12 = .ok (.ireturn, 1) := by decide +kernel
theorem dX6_answerOfDinner_13 : decode cX6_answerOfDinner 13 = .ok (.aload_n 0, 1) := by decide +kernel
theorem dX6_answerOfDinner_14 : decode cX6_answerOfDinner 14 = .ok (.getfield 27, 3) := by decide +kernel
theorem dX6_answerOfDinner_17 : decode cX6_answerOfDinner 17 = .ok (.getfield 154, 3) := by decide +kernel
theorem dX6_answerOfDinner_20 : decode cX6_answerOfDinner 20 = .ok (.bipush (-9), 2) := by decide +kernel
theorem dX6_answerOfDinner_22 : decode cX6_answerOfDinner 22 = .ok (.if_icmp .eq 14, 3) := by decide +kernel
theorem dX6_answerOfDinner_25 : decode cX6_answerOfDinner 25 = .ok (.bipush (-100), 2) := by decide +kernel
theorem dX6_answerOfDinner_27 : decode cX6_answerOfDinner 27 = .ok (.aload_n 0, 1) := by decide +kernel
theorem dX6_answerOfDinner_28 : decode cX6_answerOfDinner 28 = .ok (.getfield 27, 3) := by decide +kernel
theorem dX6_answerOfDinner_31 : decode cX6_answerOfDinner 31 = .ok (.getfield 154, 3) := by decide +kernel
theorem dX6_answerOfDinner_34 : decode cX6_answerOfDinner 34 = .ok (.isub, 1) := by decide +kernel
theorem dX6_answerOfDinner_35 : decode cX6_answerOfDinner 35 = .ok (.ireturn, 1) := by decide +kernel
theorem dX6_answerOfDinner_36 : decode cX6_answerOfDinner 36 = .ok (.iload_n 1, 1) := by decide +kernel
theorem dX6_answerOfDinner_37 : decode cX6_answerOfDinner 37 = .ok (.tableswitch 101 0 5 #[39, 101, 47, 63, 79, 90], 39) := by decide +kernel
theorem dX6_answerOfDinner_76 : decode cX6_answerOfDinner 76 = .ok (.aload_n 0, 1) := by decide +kernel
theorem dX6_answerOfDinner_77 : decode cX6_answerOfDinner 77 = .ok (.getfield 27, 3) := by decide +kernel
theorem dX6_answerOfDinner_80 : decode cX6_answerOfDinner 80 = .ok (.getfield 157, 3) := by decide +kernel
theorem dX6_answerOfDinner_83 : decode cX6_answerOfDinner 83 = .ok (.ireturn, 1) := by decide +kernel
theorem dX6_answerOfDinner_84 : decode cX6_answerOfDinner 84 = .ok (.aload_n 0, 1) := by decide +kernel
theorem dX6_answerOfDinner_85 : decode cX6_answerOfDinner 85 = .ok (.getfield 48, 3) := by decide +kernel
theorem dX6_answerOfDinner_88 : decode cX6_answerOfDinner 88 = .ok (.iconst 0, 1) := by decide +kernel
theorem dX6_answerOfDinner_89 : decode cX6_answerOfDinner 89 = .ok (.aload_n 0, 1) := by decide +kernel
theorem dX6_answerOfDinner_90 : decode cX6_answerOfDinner 90 = .ok (.getfield 27, 3) := by decide +kernel
theorem dX6_answerOfDinner_93 : decode cX6_answerOfDinner 93 = .ok (.getfield 160, 3) := by decide +kernel
theorem dX6_answerOfDinner_96 : decode cX6_answerOfDinner 96 = .ok (.invokevirtual 129, 3) := by decide +kernel
theorem dX6_answerOfDinner_99 : decode cX6_answerOfDinner 99 = .ok (.ireturn, 1) := by decide +kernel
theorem dX6_answerOfDinner_100 : decode cX6_answerOfDinner 100 = .ok (.aload_n 0, 1) := by decide +kernel
theorem dX6_answerOfDinner_101 : decode cX6_answerOfDinner 101 = .ok (.getfield 48, 3) := by decide +kernel
theorem dX6_answerOfDinner_104 : decode cX6_answerOfDinner 104 = .ok (.iconst 1, 1) := by decide +kernel
theorem dX6_answerOfDinner_105 : decode cX6_answerOfDinner 105 = .ok (.aload_n 0, 1) := by decide +kernel
theorem dX6_answerOfDinner_106 : decode cX6_answerOfDinner 106 = .ok (.getfield 27, 3) := by decide +kernel
theorem dX6_answerOfDinner_109 : decode cX6_answerOfDinner 109 = .ok (.getfield 160, 3) := by decide +kernel
theorem dX6_answerOfDinner_112 : decode cX6_answerOfDinner 112 = .ok (.invokevirtual 129, 3) := by decide +kernel
theorem dX6_answerOfDinner_115 : decode cX6_answerOfDinner 115 = .ok (.ireturn, 1) := by decide +kernel
theorem dX6_answerOfDinner_116 : decode cX6_answerOfDinner 116 = .ok (.aload_n 0, 1) := by decide +kernel
theorem dX6_answerOfDinner_117 : decode cX6_answerOfDinner 117 = .ok (.getfield 27, 3) := by decide +kernel
theorem dX6_answerOfDinner_120 : decode cX6_answerOfDinner 120 = .ok (.getfield 160, 3) := by decide +kernel
theorem dX6_answerOfDinner_123 : decode cX6_answerOfDinner 123 = .ok (.invokestatic 161, 3) := by decide +kernel
theorem dX6_answerOfDinner_126 : decode cX6_answerOfDinner 126 = .ok (.ireturn, 1) := by decide +kernel
theorem dX6_answerOfDinner_127 : decode cX6_answerOfDinner 127 = .ok (.aload_n 0, 1) := by decide +kernel
theorem dX6_answerOfDinner_128 : decode cX6_answerOfDinner 128 = .ok (.getfield 27, 3) := by decide +kernel
theorem dX6_answerOfDinner_131 : decode cX6_answerOfDinner 131 = .ok (.getfield 160, 3) := by decide +kernel
theorem dX6_answerOfDinner_134 : decode cX6_answerOfDinner 134 = .ok (.invokestatic 164, 3) := by decide +kernel
theorem dX6_answerOfDinner_137 : decode cX6_answerOfDinner 137 = .ok (.ireturn, 1) := by decide +kernel
theorem dX6_answerOfDinner_138 : decode cX6_answerOfDinner 138 = .ok (.iload_n 1, 1) := by decide +kernel
theorem dX6_answerOfDinner_139 : decode cX6_answerOfDinner 139 = .ok (.bipush 10, 2) := by decide +kernel
theorem dX6_answerOfDinner_141 : decode cX6_answerOfDinner 141 = .ok (.isub, 1) := by decide +kernel
theorem dX6_answerOfDinner_142 : decode cX6_answerOfDinner 142 = .ok (.istore_n 2, 1) := by decide +kernel
theorem dX6_answerOfDinner_143 : decode cX6_answerOfDinner 143 = .ok (.iload_n 2, 1) := by decide +kernel
theorem dX6_answerOfDinner_144 : decode cX6_answerOfDinner 144 = .ok (.aload_n 0, 1) := by decide +kernel
theorem dX6_answerOfDinner_145 : decode cX6_answerOfDinner 145 = .ok (.getfield 48, 3) := by decide +kernel
theorem dX6_answerOfDinner_148 : decode cX6_answerOfDinner 148 = .ok (.getfield 106, 3) := by decide +kernel
theorem dX6_answerOfDinner_151 : decode cX6_answerOfDinner 151 = .ok (.invokestatic 64, 3) := by decide +kernel
theorem dX6_answerOfDinner_154 : decode cX6_answerOfDinner 154 = .ok (.ifCond .eq 21, 3) := by decide +kernel
theorem dX6_answerOfDinner_157 : decode cX6_answerOfDinner 157 = .ok (.aload_n 0, 1) := by decide +kernel
theorem dX6_answerOfDinner_158 : decode cX6_answerOfDinner 158 = .ok (.getfield 48, 3) := by decide +kernel
theorem dX6_answerOfDinner_161 : decode cX6_answerOfDinner 161 = .ok (.iload_n 2, 1) := by decide +kernel
theorem dX6_answerOfDinner_162 : decode cX6_answerOfDinner 162 = .ok (.aload_n 0, 1) := by decide +kernel
theorem dX6_answerOfDinner_163 : decode cX6_answerOfDinner 163 = .ok (.getfield 27, 3) := by decide +kernel
theorem dX6_answerOfDinner_166 : decode cX6_answerOfDinner 166 = .ok (.getfield 160, 3) := by decide +kernel
theorem dX6_answerOfDinner_169 : decode cX6_answerOfDinner 169 = .ok (.invokevirtual 118, 3) := by decide +kernel
theorem dX6_answerOfDinner_172 : decode cX6_answerOfDinner 172 = .ok (.goto 5, 3) := by decide +kernel
theorem dX6_answerOfDinner_175 : decode cX6_answerOfDinner 175 = .ok (.bipush (-9), 2) := by decide +kernel
theorem dX6_answerOfDinner_177 : decode cX6_answerOfDinner 177 = .ok (.ireturn, 1) := by decide +kernel
theorem dX6_ask_0 : decode cX6_ask 0 = .ok (.iload_n 1, 1) := by decide +kernel
theorem dX6_ask_1 : decode cX6_ask 1 = .ok (.aload_n 0, 1) := by decide +kernel
theorem dX6_ask_2 : decode cX6_ask 2 = .ok (.getfield 48, 3) := by decide +kernel
theorem dX6_ask_5 : decode cX6_ask 5 = .ok (.getfield 106, 3) := by decide +kernel
theorem dX6_ask_8 : decode cX6_ask 8 = .ok (.invokestatic 64, 3) := by decide +kernel
theorem dX6_ask_11 : decode cX6_ask 11 = .ok (.ifCond .eq 11, 3) := by decide +kernel
theorem dX6_ask_14 : decode cX6_ask 14 = .ok (.iload_n 2, 1) := by decide +kernel
theorem dX6_ask_15 : decode cX6_ask 15 = .ok (.iconst 2, 1) := by decide +kernel
theorem dX6_ask_16 : decode cX6_ask 16 = .ok (.invokestatic 64, 3) := by decide +kernel
theorem dX6_ask_19 : decode cX6_ask 19 = .ok (.ifCond .ne 5, 3) := by decide +kernel
theorem dX6_ask_22 : decode cX6_ask 22 = .ok (.iconst (-1), 1) := by decide +kernel
theorem dX6_ask_23 : decode cX6_ask 23 = .ok (.ireturn, 1) := by decide +kernel
theorem dX6_ask_24 : decode cX6_ask 24 = .ok (.iload_n 3, 1) := by decide +kernel
theorem dX6_ask_25 : decode cX6_ask 25 = .ok (.bipush (-2), 2) := by decide +kernel
theorem dX6_ask_27 : decode cX6_ask 27 = .ok (.if_icmp .lt 9, 3) := by decide +kernel
theorem dX6_ask_30 : decode cX6_ask 30 = .ok (.iload_n 3, 1) := by decide +kernel
theorem dX6_ask_31 : decode cX6_ask 31 = .ok (.bipush 15, 2) := by decide +kernel
theorem dX6_ask_33 : decode cX6_ask 33 = .ok (.if_icmp .le 6, 3) := by decide +kernel
theorem dX6_ask_36 : decode cX6_ask 36 = .ok (.bipush (-2), 2) := by decide +kernel
theorem dX6_ask_38 : decode cX6_ask 38 = .ok (.ireturn, 1) := by decide +kernel
theorem dX6_ask_39 : decode cX6_ask 39 = .ok (.aload_n 0, 1) := by decide +kernel
theorem dX6_ask_40 : decode cX6_ask 40 = .ok (.getfield 34, 3) := by decide +kernel
theorem dX6_ask_43 : decode cX6_ask 43 = .ok (.aload_n 0, 1) := by decide +kernel
theorem dX6_ask_44 : decode cX6_ask 44 = .ok (.getfield 48, 3) := by decide +kernel
theorem dX6_ask_47 : decode cX6_ask 47 = .ok (.iload_n 1, 1) := by decide +kernel
theorem dX6_ask_48 : decode cX6_ask 48 = .ok (.iload_n 2, 1) := by decide +kernel
theorem dX6_ask_49 : decode cX6_ask 49 = .ok (.invokevirtual 167, 3) := by decide +kernel
theorem dX6_ask_52 : decode cX6_ask 52 = .ok (.iload_n 3, 1) := by decide +kernel
theorem dX6_ask_53 : decode cX6_ask 53 = .ok (.bipush (-2), 2) := by decide +kernel
theorem dX6_ask_55 : decode cX6_ask 55 = .ok (.if_icmp .ne 15, 3) := by decide +kernel
theorem dX6_ask_58 : decode cX6_ask 58 = .ok (.aload_n 0, 1) := by decide +kernel
theorem dX6_ask_59 : decode cX6_ask 59 = .ok (.getfield 34, 3) := by decide +kernel
theorem dX6_ask_62 : decode cX6_ask 62 = .ok (.aload_n 0, 1) := by decide +kernel
theorem dX6_ask_63 : decode cX6_ask 63 = .ok (.getfield 48, 3) := by decide +kernel
theorem dX6_ask_66 : decode cX6_ask 66 = .ok (.invokevirtual 171, 3) := by decide +kernel
theorem dX6_ask_69 : decode cX6_ask 69 = .ok (.ireturn, 1) := by decide +kernel
theorem dX6_ask_70 : decode cX6_ask 70 = .ok (.iload_n 3, 1) := by decide +kernel
theorem dX6_ask_71 : decode cX6_ask 71 = .ok (.iconst (-1), 1) := by decide +kernel
theorem dX6_ask_72 : decode cX6_ask 72 = .ok (.if_icmp .ne 17, 3) := by decide +kernel
theorem dX6_ask_75 : decode cX6_ask 75 = .ok (.aload_n 0, 1) := by decide +kernel
theorem dX6_ask_76 : decode cX6_ask 76 = .ok (.getfield 34, 3) := by decide +kernel
theorem dX6_ask_79 : decode cX6_ask 79 = .ok (.aload_n 0, 1) := by decide +kernel
theorem dX6_ask_80 : decode cX6_ask 80 = .ok (.getfield 48, 3) := by decide +kernel
theorem dX6_ask_83 : decode cX6_ask 83 = .ok (.invokevirtual 174, 3) := by decide +kernel
theorem dX6_ask_86 : decode cX6_ask 86 = .ok (.goto 15, 3) := by decide +kernel
theorem dX6_ask_89 : decode cX6_ask 89 = .ok (.aload_n 0, 1) := by decide +kernel
theorem dX6_ask_90 : decode cX6_ask 90 = .ok (.getfield 34, 3) := by decide +kernel
theorem dX6_ask_93 : decode cX6_ask 93 = .ok (.aload_n 0, 1) := by decide +kernel
theorem dX6_ask_94 : decode cX6_ask 94 = .ok (.getfield 48, 3) := by decide +kernel
theorem dX6_ask_97 : decode cX6_ask 97 = .ok (.iload_n 3, 1) := by decide +kernel
theorem dX6_ask_98 : decode cX6_ask 98 = .ok (.invokevirtual 177, 3) := by decide +kernel
theorem dX6_ask_101 : decode cX6_ask 101 = .ok (.ireturn, 1) := by decide +kernel
theorem dX6_treaty_0 : decode cX6_treaty 0 = .ok (.iload_n 1, 1) := by decide +kernel
theorem dX6_treaty_1 : decode cX6_treaty 1 = .ok (.iconst (-1), 1) := by decide +kernel
theorem dX6_treaty_2 : decode cX6_treaty 2 = .ok (.if_icmp .lt 9, 3) := by decide +kernel
theorem dX6_treaty_5 : decode cX6_treaty 5 = .ok (.iload_n 1, 1) := by decide +kernel
theorem dX6_treaty_6 : decode cX6_treaty 6 = .ok (.bipush 15, 2) := by decide +kernel
theorem dX6_treaty_8 : decode cX6_treaty 8 = .ok (.if_icmp .le 6, 3) := by decide +kernel
theorem dX6_treaty_11 : decode cX6_treaty 11 = .ok (.bipush (-2), 2) := by decide +kernel
theorem dX6_treaty_13 : decode cX6_treaty 13 = .ok (.ireturn, 1) := by decide +kernel
theorem dX6_treaty_14 : decode cX6_treaty 14 = .ok (.aload_n 0, 1) := by decide +kernel
theorem dX6_treaty_15 : decode cX6_treaty 15 = .ok (.getfield 48, 3) := by decide +kernel
theorem dX6_treaty_18 : decode cX6_treaty 18 = .ok (.invokevirtual 125, 3) := by decide +kernel
theorem dX6_treaty_21 : decode cX6_treaty 21 = .ok (.ifCond .ne 6, 3) := by decide +kernel
theorem dX6_treaty_24 : decode cX6_treaty 24 = .ok (.bipush (-3), 2) := by decide +kernel
theorem dX6_treaty_26 : decode cX6_treaty 26 = .ok (.ireturn, 1) := by decide +kernel
theorem dX6_treaty_27 : decode cX6_treaty 27 = .ok (.aload_n 0, 1) := by decide +kernel
theorem dX6_treaty_28 : decode cX6_treaty 28 = .ok (.getfield 34, 3) := by decide +kernel
theorem dX6_treaty_31 : decode cX6_treaty 31 = .ok (.aload_n 0, 1) := by decide +kernel
theorem dX6_treaty_32 : decode cX6_treaty 32 = .ok (.getfield 48, 3) := by decide +kernel
theorem dX6_treaty_35 : decode cX6_treaty 35 = .ok (.invokevirtual 181, 3) := by decide +kernel
theorem dX6_treaty_38 : decode cX6_treaty 38 = .ok (.iload_n 1, 1) := by decide +kernel
theorem dX6_treaty_39 : decode cX6_treaty 39 = .ok (.iconst (-1), 1) := by decide +kernel
theorem dX6_treaty_40 : decode cX6_treaty 40 = .ok (.if_icmp .ne 17, 3) := by decide +kernel
theorem dX6_treaty_43 : decode cX6_treaty 43 = .ok (.aload_n 0, 1) := by decide +kernel
theorem dX6_treaty_44 : decode cX6_treaty 44 = .ok (.getfield 34, 3) := by decide +kernel
theorem dX6_treaty_47 : decode cX6_treaty 47 = .ok (.aload_n 0, 1) := by decide +kernel
theorem dX6_treaty_48 : decode cX6_treaty 48 = .ok (.getfield 48, 3) := by decide +kernel
theorem dX6_treaty_51 : decode cX6_treaty 51 = .ok (.invokevirtual 174, 3) := by decide +kernel
theorem dX6_treaty_54 : decode cX6_treaty 54 = .ok (.goto 15, 3) := by decide +kernel
theorem dX6_treaty_57 : decode cX6_treaty 57 = .ok (.aload_n 0, 1) := by decide +kernel
theorem dX6_treaty_58 : decode cX6_treaty 58 = .ok (.getfield 34, 3) := by decide +kernel
theorem dX6_treaty_61 : decode cX6_treaty 61 = .ok (.aload_n 0, 1) := by decide +kernel
theorem dX6_treaty_62 : decode cX6_treaty 62 = .ok (.getfield 48, 3) := by decide +kernel
theorem dX6_treaty_65 : decode cX6_treaty 65 = .ok (.iload_n 1, 1) := by decide +kernel
theorem dX6_treaty_66 : decode cX6_treaty 66 = .ok (.invokevirtual 177, 3) := by decide +kernel
theorem dX6_treaty_69 : decode cX6_treaty 69 = .ok (.ireturn, 1) := by decide +kernel
theorem dX6_game_0 : decode cX6_game 0 = .ok (.iload_n 1, 1) := by decide +kernel
theorem dX6_game_1 : decode cX6_game 1 = .ok (.iconst 2, 1) := by decide +kernel
theorem dX6_game_2 : decode cX6_game 2 = .ok (.invokestatic 64, 3) := by decide +kernel
theorem dX6_game_5 : decode cX6_game 5 = .ok (.ifCond .ne 5, 3) := by decide +kernel
theorem dX6_game_8 : decode cX6_game 8 = .ok (.iconst (-1), 1) := by decide +kernel
theorem dX6_game_9 : decode cX6_game 9 = .ok (.ireturn, 1) := by decide +kernel
theorem dX6_game_10 : decode cX6_game 10 = .ok (.iload_n 2, 1) := by decide +kernel
theorem dX6_game_11 : decode cX6_game 11 = .ok (.iconst 1, 1) := by decide +kernel
theorem dX6_game_12 : decode cX6_game 12 = .ok (.if_icmp .lt 17, 3) := by decide +kernel
theorem dX6_game_15 : decode cX6_game 15 = .ok (.iload_n 2, 1) := by decide +kernel
theorem dX6_game_16 : decode cX6_game 16 = .ok (.iconst 4, 1) := by decide +kernel
theorem dX6_game_17 : decode cX6_game 17 = .ok (.if_icmp .gt 12, 3) := by decide +kernel
theorem dX6_game_20 : decode cX6_game 20 = .ok (.iload_n 3, 1) := by decide +kernel
theorem dX6_game_21 : decode cX6_game 21 = .ok (.ifCond .lt 8, 3) := by decide +kernel
theorem dX6_game_24 : decode cX6_game 24 = .ok (.iload_n 3, 1) := by decide +kernel
theorem dX6_game_25 : decode cX6_game 25 = .ok (.iconst 1, 1) := by decide +kernel
theorem dX6_game_26 : decode cX6_game 26 = .ok (.if_icmp .le 6, 3) := by decide +kernel
theorem dX6_game_29 : decode cX6_game 29 = .ok (.bipush (-2), 2) := by decide +kernel
theorem dX6_game_31 : decode cX6_game 31 = .ok (.ireturn, 1) := by decide +kernel
theorem dX6_game_32 : decode cX6_game 32 = .ok (.aload_n 0, 1) := by decide +kernel
theorem dX6_game_33 : decode cX6_game 33 = .ok (.getfield 48, 3) := by decide +kernel
theorem dX6_game_36 : decode cX6_game 36 = .ok (.invokevirtual 125, 3) := by decide +kernel
theorem dX6_game_39 : decode cX6_game 39 = .ok (.ifCond .ne 6, 3) := by decide +kernel
theorem dX6_game_42 : decode cX6_game 42 = .ok (.bipush (-3), 2) := by decide +kernel
theorem dX6_game_44 : decode cX6_game 44 = .ok (.ireturn, 1) := by decide +kernel
theorem dX6_game_45 : decode cX6_game 45 = .ok (.iload_n 3, 1) := by decide +kernel
theorem dX6_game_46 : decode cX6_game 46 = .ok (.ifCond .ne 23, 3) := by decide +kernel
theorem dX6_game_49 : decode cX6_game 49 = .ok (.bipush 100, 2) := by decide +kernel
theorem dX6_game_51 : decode cX6_game 51 = .ok (.aload_n 0, 1) := by decide +kernel
theorem dX6_game_52 : decode cX6_game 52 = .ok (.getfield 48, 3) := by decide +kernel
theorem dX6_game_55 : decode cX6_game 55 = .ok (.aload_n 0, 1) := by decide +kernel
theorem dX6_game_56 : decode cX6_game 56 = .ok (.getfield 48, 3) := by decide +kernel
theorem dX6_game_59 : decode cX6_game 59 = .ok (.getfield 115, 3) := by decide +kernel
theorem dX6_game_62 : decode cX6_game 62 = .ok (.iload_n 1, 1) := by decide +kernel
theorem dX6_game_63 : decode cX6_game 63 = .ok (.iload_n 2, 1) := by decide +kernel
theorem dX6_game_64 : decode cX6_game 64 = .ok (.invokevirtual 185, 3) := by decide +kernel
theorem dX6_game_67 : decode cX6_game 67 = .ok (.iadd, 1) := by decide +kernel
theorem dX6_game_68 : decode cX6_game 68 = .ok (.ireturn, 1) := by decide +kernel
theorem dX6_game_69 : decode cX6_game 69 = .ok (.aload_n 0, 1) := by decide +kernel
theorem dX6_game_70 : decode cX6_game 70 = .ok (.getfield 48, 3) := by decide +kernel
theorem dX6_game_73 : decode cX6_game 73 = .ok (.iload_n 1, 1) := by decide +kernel
theorem dX6_game_74 : decode cX6_game 74 = .ok (.iload_n 2, 1) := by decide +kernel
theorem dX6_game_75 : decode cX6_game 75 = .ok (.invokevirtual 188, 3) := by decide +kernel
theorem dX6_game_78 : decode cX6_game 78 = .ok (.ireturn, 1) := by decide +kernel
theorem dX6_spilt_0 : decode cX6_spilt 0 = .ok (.aload_n 0, 1) := by decide +kernel
theorem dX6_spilt_1 : decode cX6_spilt 1 = .ok (.getfield 48, 3) := by decide +kernel
theorem dX6_spilt_4 : decode cX6_spilt 4 = .ok (.invokevirtual 125, 3) := by decide +kernel
theorem dX6_spilt_7 : decode cX6_spilt 7 = .ok (.ifCond .ne 6, 3) := by decide +kernel
theorem dX6_spilt_10 : decode cX6_spilt 10 = .ok (.bipush (-3), 2) := by decide +kernel
theorem dX6_spilt_12 : decode cX6_spilt 12 = .ok (.ireturn, 1) := by decide +kernel
theorem dX6_spilt_13 : decode cX6_spilt 13 = .ok (.iload_n 1, 1) := by decide +kernel
theorem dX6_spilt_14 : decode cX6_spilt 14 = .ok (.iconst 1, 1) := by decide +kernel
theorem dX6_spilt_15 : decode cX6_spilt 15 = .ok (.aload_n 0, 1) := by decide +kernel
theorem dX6_spilt_16 : decode cX6_spilt 16 = .ok (.getfield 48, 3) := by decide +kernel
theorem dX6_spilt_19 : decode cX6_spilt 19 = .ok (.getfield 91, 3) := by decide +kernel
theorem dX6_spilt_22 : decode cX6_spilt 22 = .ok (.ishl, 1) := by decide +kernel
theorem dX6_spilt_23 : decode cX6_spilt 23 = .ok (.invokestatic 64, 3) := by decide +kernel
theorem dX6_spilt_26 : decode cX6_spilt 26 = .ok (.ifCond .ne 6, 3) := by decide +kernel
theorem dX6_spilt_29 : decode cX6_spilt 29 = .ok (.bipush (-2), 2) := by decide +kernel
theorem dX6_spilt_31 : decode cX6_spilt 31 = .ok (.ireturn, 1) := by decide +kernel
theorem dX6_spilt_32 : decode cX6_spilt 32 = .ok (.aload_n 0, 1) := by decide +kernel
theorem dX6_spilt_33 : decode cX6_spilt 33 = .ok (.getfield 48, 3) := by decide +kernel
theorem dX6_spilt_36 : decode cX6_spilt 36 = .ok (.iload_n 1, 1) := by decide +kernel
theorem dX6_spilt_37 : decode cX6_spilt 37 = .ok (.invokevirtual 191, 3) := by decide +kernel
theorem dX6_spilt_40 : decode cX6_spilt 40 = .ok (.ireturn, 1) := by decide +kernel
theorem dX6_home_0 : decode cX6_home 0 = .ok (.iload_n 1, 1) := by decide +kernel
theorem dX6_home_1 : decode cX6_home 1 = .ok (.bipush 21, 2) := by decide +kernel
theorem dX6_home_3 : decode cX6_home 3 = .ok (.invokestatic 64, 3) := by decide +kernel
theorem dX6_home_6 : decode cX6_home 6 = .ok (.ifCond .eq 13, 3) := by decide +kernel
theorem dX6_home_9 : decode cX6_home 9 = .ok (.aload_n 0, 1) := by decide +kernel
theorem dX6_home_10 : decode cX6_home 10 = .ok (.getfield 48, 3) := by decide +kernel
theorem dX6_home_13 : decode cX6_home 13 = .ok (.invokevirtual 125, 3) := by decide +kernel
theorem dX6_home_16 : decode cX6_home 16 = .ok (.ifCond .ne 7, 3) := by decide +kernel
theorem dX6_home_19 : decode cX6_home 19 = .ok (.ldc2_w 194, 3) := by decide +kernel
theorem dX6_home_22 : decode cX6_home 22 = .ok (.lreturn, 1) := by decide +kernel
theorem dX6_home_23 : decode cX6_home 23 = .ok (.aload_n 0, 1) := by decide +kernel
theorem dX6_home_24 : decode cX6_home 24 = .ok (.getfield 41, 3) := by decide +kernel
theorem dX6_home_27 : decode cX6_home 27 = .ok (.aload_n 0, 1) := by decide +kernel
theorem dX6_home_28 : decode cX6_home 28 = .ok (.getfield 48, 3) := by decide +kernel
theorem dX6_home_31 : decode cX6_home 31 = .ok (.iload_n 1, 1) := by decide +kernel
theorem dX6_home_32 : decode cX6_home 32 = .ok (.iconst 0, 1) := by decide +kernel
theorem dX6_home_33 : decode cX6_home 33 = .ok (.invokevirtual 196, 3) := by decide +kernel
theorem dX6_home_36 : decode cX6_home 36 = .ok (.aload_n 0, 1) := by decide +kernel
theorem dX6_home_37 : decode cX6_home 37 = .ok (.getfield 41, 3) := by decide +kernel
theorem dX6_home_40 : decode cX6_home 40 = .ok (.getfield 200, 3) := by decide +kernel
theorem dX6_home_43 : decode cX6_home 43 = .ok (.aload_n 0, 1) := by decide +kernel
theorem dX6_home_44 : decode cX6_home 44 = .ok (.getfield 48, 3) := by decide +kernel
theorem dX6_home_47 : decode cX6_home 47 = .ok (.getfield 115, 3) := by decide +kernel
theorem dX6_home_50 : decode cX6_home 50 = .ok (.invokestatic 161, 3) := by decide +kernel
theorem dX6_home_53 : decode cX6_home 53 = .ok (.laload, 1) := by decide +kernel
theorem dX6_home_54 : decode cX6_home 54 = .ok (.lreturn, 1) := by decide +kernel
theorem dX6_reading_0 : decode cX6_reading 0 = .ok (.iload_n 1, 1) := by decide +kernel
theorem dX6_reading_1 : decode cX6_reading 1 = .ok (.aload_n 0, 1) := by decide +kernel
theorem dX6_reading_2 : decode cX6_reading 2 = .ok (.getfield 48, 3) := by decide +kernel
theorem dX6_reading_5 : decode cX6_reading 5 = .ok (.getfield 91, 3) := by decide +kernel
theorem dX6_reading_8 : decode cX6_reading 8 = .ok (.invokestatic 64, 3) := by decide +kernel
theorem dX6_reading_11 : decode cX6_reading 11 = .ok (.ifCond .ne 5, 3) := by decide +kernel
theorem dX6_reading_14 : decode cX6_reading 14 = .ok (.iconst (-1), 1) := by decide +kernel
theorem dX6_reading_15 : decode cX6_reading 15 = .ok (.ireturn, 1) := by decide +kernel
theorem dX6_reading_16 : decode cX6_reading 16 = .ok (.iload_n 2, 1) := by decide +kernel
theorem dX6_reading_17 : decode cX6_reading 17 = .ok (.bipush 20, 2) := by decide +kernel
theorem dX6_reading_19 : decode cX6_reading 19 = .ok (.invokestatic 64, 3) := by decide +kernel
theorem dX6_reading_22 : decode cX6_reading 22 = .ok (.ifCond .ne 6, 3) := by decide +kernel
theorem dX6_reading_25 : decode cX6_reading 25 = .ok (.bipush (-2), 2) := by decide +kernel
theorem dX6_reading_27 : decode cX6_reading 27 = .ok (.ireturn, 1) := by decide +kernel
theorem dX6_reading_28 : decode cX6_reading 28 = .ok (.aload_n 0, 1) := by decide +kernel
theorem dX6_reading_29 : decode cX6_reading 29 = .ok (.getfield 48, 3) := by decide +kernel
theorem dX6_reading_32 : decode cX6_reading 32 = .ok (.getfield 204, 3) := by decide +kernel
theorem dX6_reading_35 : decode cX6_reading 35 = .ok (.bipush 8, 2) := by decide +kernel
theorem dX6_reading_37 : decode cX6_reading 37 = .ok (.if_icmp .lt 6, 3) := by decide +kernel
theorem dX6_reading_40 : decode cX6_reading 40 = .ok (.bipush (-4), 2) := by decide +kernel
theorem dX6_reading_42 : decode cX6_reading 42 = .ok (.ireturn, 1) := by decide +kernel
theorem dX6_reading_43 : decode cX6_reading 43 = .ok (.aload_n 0, 1) := by decide +kernel
theorem dX6_reading_44 : decode cX6_reading 44 = .ok (.getfield 48, 3) := by decide +kernel
theorem dX6_reading_47 : decode cX6_reading 47 = .ok (.getfield 207, 3) := by decide +kernel
theorem dX6_reading_50 : decode cX6_reading 50 = .ok (.aload_n 0, 1) := by decide +kernel
theorem dX6_reading_51 : decode cX6_reading 51 = .ok (.getfield 48, 3) := by decide +kernel
theorem dX6_reading_54 : decode cX6_reading 54 = .ok (.getfield 204, 3) := by decide +kernel
theorem dX6_reading_57 : decode cX6_reading 57 = .ok (.iload_n 1, 1) := by decide +kernel
theorem dX6_reading_58 : decode cX6_reading 58 = .ok (.iastore, 1) := by decide +kernel
theorem dX6_reading_59 : decode cX6_reading 59 = .ok (.aload_n 0, 1) := by decide +kernel
theorem dX6_reading_60 : decode cX6_reading 60 = .ok (.getfield 48, 3) := by decide +kernel
theorem dX6_reading_63 : decode cX6_reading 63 = .ok (.getfield 210, 3) := by decide +kernel
theorem dX6_reading_66 : decode cX6_reading 66 = .ok (.aload_n 0, 1) := by decide +kernel
theorem dX6_reading_67 : decode cX6_reading 67 = .ok (.getfield 48, 3) := by decide +kernel
theorem dX6_reading_70 : decode cX6_reading 70 = .ok (.getfield 204, 3) := by decide +kernel
theorem dX6_reading_73 : decode cX6_reading 73 = .ok (.iload_n 2, 1) := by decide +kernel
theorem dX6_reading_74 : decode cX6_reading 74 = .ok (.iastore, 1) := by decide +kernel
theorem dX6_reading_75 : decode cX6_reading 75 = .ok (.aload_n 0, 1) := by decide +kernel
theorem dX6_reading_76 : decode cX6_reading 76 = .ok (.getfield 48, 3) := by decide +kernel
theorem dX6_reading_79 : decode cX6_reading 79 = .ok (.dup, 1) := by decide +kernel
theorem dX6_reading_80 : decode cX6_reading 80 = .ok (.getfield 204, 3) := by decide +kernel
theorem dX6_reading_83 : decode cX6_reading 83 = .ok (.iconst 1, 1) := by decide +kernel
theorem dX6_reading_84 : decode cX6_reading 84 = .ok (.iadd, 1) := by decide +kernel
theorem dX6_reading_85 : decode cX6_reading 85 = .ok (.putfield 204, 3) := by decide +kernel
theorem dX6_reading_88 : decode cX6_reading 88 = .ok (.aload_n 0, 1) := by decide +kernel
theorem dX6_reading_89 : decode cX6_reading 89 = .ok (.getfield 48, 3) := by decide +kernel
theorem dX6_reading_92 : decode cX6_reading 92 = .ok (.getfield 204, 3) := by decide +kernel
theorem dX6_reading_95 : decode cX6_reading 95 = .ok (.iconst 1, 1) := by decide +kernel
theorem dX6_reading_96 : decode cX6_reading 96 = .ok (.isub, 1) := by decide +kernel
theorem dX6_reading_97 : decode cX6_reading 97 = .ok (.ireturn, 1) := by decide +kernel
theorem dX6_back_0 : decode cX6_back 0 = .ok (.iload_n 1, 1) := by decide +kernel
theorem dX6_back_1 : decode cX6_back 1 = .ok (.aload_n 0, 1) := by decide +kernel
theorem dX6_back_2 : decode cX6_back 2 = .ok (.getfield 48, 3) := by decide +kernel
theorem dX6_back_5 : decode cX6_back 5 = .ok (.getfield 204, 3) := by decide +kernel
theorem dX6_back_8 : decode cX6_back 8 = .ok (.iconst 1, 1) := by decide +kernel
theorem dX6_back_9 : decode cX6_back 9 = .ok (.iadd, 1) := by decide +kernel
theorem dX6_back_10 : decode cX6_back 10 = .ok (.invokestatic 64, 3) := by decide +kernel
theorem dX6_back_13 : decode cX6_back 13 = .ok (.ifCond .ne 6, 3) := by decide +kernel
theorem dX6_back_16 : decode cX6_back 16 = .ok (.bipush (-2), 2) := by decide +kernel
theorem dX6_back_18 : decode cX6_back 18 = .ok (.ireturn, 1) := by decide +kernel
theorem dX6_back_19 : decode cX6_back 19 = .ok (.aload_n 0, 1) := by decide +kernel
theorem dX6_back_20 : decode cX6_back 20 = .ok (.getfield 48, 3) := by decide +kernel
theorem dX6_back_23 : decode cX6_back 23 = .ok (.dup, 1) := by decide +kernel
theorem dX6_back_24 : decode cX6_back 24 = .ok (.getfield 204, 3) := by decide +kernel
theorem dX6_back_27 : decode cX6_back 27 = .ok (.iload_n 1, 1) := by decide +kernel
theorem dX6_back_28 : decode cX6_back 28 = .ok (.isub, 1) := by decide +kernel
theorem dX6_back_29 : decode cX6_back 29 = .ok (.putfield 204, 3) := by decide +kernel
theorem dX6_back_32 : decode cX6_back 32 = .ok (.aload_n 0, 1) := by decide +kernel
theorem dX6_back_33 : decode cX6_back 33 = .ok (.getfield 48, 3) := by decide +kernel
theorem dX6_back_36 : decode cX6_back 36 = .ok (.getfield 204, 3) := by decide +kernel
theorem dX6_back_39 : decode cX6_back 39 = .ok (.ireturn, 1) := by decide +kernel
theorem dX6_mouths_0 : decode cX6_mouths 0 = .ok (.iload_n 1, 1) := by decide +kernel
theorem dX6_mouths_1 : decode cX6_mouths 1 = .ok (.aload_n 0, 1) := by decide +kernel
theorem dX6_mouths_2 : decode cX6_mouths 2 = .ok (.getfield 48, 3) := by decide +kernel
theorem dX6_mouths_5 : decode cX6_mouths 5 = .ok (.getfield 91, 3) := by decide +kernel
theorem dX6_mouths_8 : decode cX6_mouths 8 = .ok (.invokestatic 64, 3) := by decide +kernel
theorem dX6_mouths_11 : decode cX6_mouths 11 = .ok (.ifCond .ne 5, 3) := by decide +kernel
theorem dX6_mouths_14 : decode cX6_mouths 14 = .ok (.iconst (-1), 1) := by decide +kernel
theorem dX6_mouths_15 : decode cX6_mouths 15 = .ok (.ireturn, 1) := by decide +kernel
theorem dX6_mouths_16 : decode cX6_mouths 16 = .ok (.iconst 0, 1) := by decide +kernel
theorem dX6_mouths_17 : decode cX6_mouths 17 = .ok (.istore_n 2, 1) := by decide +kernel
theorem dX6_mouths_18 : decode cX6_mouths 18 = .ok (.iconst 0, 1) := by decide +kernel
theorem dX6_mouths_19 : decode cX6_mouths 19 = .ok (.istore_n 3, 1) := by decide +kernel
theorem dX6_mouths_20 : decode cX6_mouths 20 = .ok (.iload_n 3, 1) := by decide +kernel
theorem dX6_mouths_21 : decode cX6_mouths 21 = .ok (.bipush 10, 2) := by decide +kernel
theorem dX6_mouths_23 : decode cX6_mouths 23 = .ok (.if_icmp .ge 43, 3) := by decide +kernel
theorem dX6_mouths_26 : decode cX6_mouths 26 = .ok (.aload_n 0, 1) := by decide +kernel
theorem dX6_mouths_27 : decode cX6_mouths 27 = .ok (.getfield 48, 3) := by decide +kernel
theorem dX6_mouths_30 : decode cX6_mouths 30 = .ok (.iload_n 1, 1) := by decide +kernel
theorem dX6_mouths_31 : decode cX6_mouths 31 = .ok (.aload_n 0, 1) := by decide +kernel
theorem dX6_mouths_32 : decode cX6_mouths 32 = .ok (.getfield 48, 3) := by decide +kernel
theorem dX6_mouths_35 : decode cX6_mouths 35 = .ok (.getfield 94, 3) := by decide +kernel
theorem dX6_mouths_38 : decode cX6_mouths 38 = .ok (.iload_n 1, 1) := by decide +kernel
theorem dX6_mouths_39 : decode cX6_mouths 39 = .ok (.iaload, 1) := by decide +kernel
theorem dX6_mouths_40 : decode cX6_mouths 40 = .ok (.iload_n 3, 1) := by decide +kernel
theorem dX6_mouths_41 : decode cX6_mouths 41 = .ok (.aload_n 0, 1) := by decide +kernel
theorem dX6_mouths_42 : decode cX6_mouths 42 = .ok (.getfield 48, 3) := by decide +kernel
theorem dX6_mouths_45 : decode cX6_mouths 45 = .ok (.getfield 132, 3) := by decide +kernel
theorem dX6_mouths_48 : decode cX6_mouths 48 = .ok (.invokevirtual 213, 3) := by decide +kernel
theorem dX6_mouths_51 : decode cX6_mouths 51 = .ok (.ifCond .eq 9, 3) := by decide +kernel
theorem dX6_mouths_54 : decode cX6_mouths 54 = .ok (.iload_n 2, 1) := by decide +kernel
theorem dX6_mouths_55 : decode cX6_mouths 55 = .ok (.iconst 1, 1) := by decide +kernel
theorem dX6_mouths_56 : decode cX6_mouths 56 = .ok (.iload_n 3, 1) := by decide +kernel
theorem dX6_mouths_57 : decode cX6_mouths 57 = .ok (.ishl, 1) := by decide +kernel
theorem dX6_mouths_58 : decode cX6_mouths 58 = .ok (.ior, 1) := by decide +kernel
theorem dX6_mouths_59 : decode cX6_mouths 59 = .ok (.istore_n 2, 1) := by decide +kernel
theorem dX6_mouths_60 : decode cX6_mouths 60 = .ok (.iinc 3 1, 3) := by decide +kernel
theorem dX6_mouths_63 : decode cX6_mouths 63 = .ok (.goto (-43), 3) := by decide +kernel
theorem dX6_mouths_66 : decode cX6_mouths 66 = .ok (.iload_n 2, 1) := by decide +kernel
theorem dX6_mouths_67 : decode cX6_mouths 67 = .ok (.ireturn, 1) := by decide +kernel
theorem dX6_kinds_0 : decode cX6_kinds 0 = .ok (.iload_n 1, 1) := by decide +kernel
theorem dX6_kinds_1 : decode cX6_kinds 1 = .ok (.aload_n 0, 1) := by decide +kernel
theorem dX6_kinds_2 : decode cX6_kinds 2 = .ok (.getfield 48, 3) := by decide +kernel
theorem dX6_kinds_5 : decode cX6_kinds 5 = .ok (.getfield 91, 3) := by decide +kernel
theorem dX6_kinds_8 : decode cX6_kinds 8 = .ok (.invokestatic 64, 3) := by decide +kernel
theorem dX6_kinds_11 : decode cX6_kinds 11 = .ok (.ifCond .ne 5, 3) := by decide +kernel
theorem dX6_kinds_14 : decode cX6_kinds 14 = .ok (.iconst (-1), 1) := by decide +kernel
theorem dX6_kinds_15 : decode cX6_kinds 15 = .ok (.ireturn, 1) := by decide +kernel
theorem dX6_kinds_16 : decode cX6_kinds 16 = .ok (.iconst 0, 1) := by decide +kernel
theorem dX6_kinds_17 : decode cX6_kinds 17 = .ok (.istore_n 2, 1) := by decide +kernel
theorem dX6_kinds_18 : decode cX6_kinds 18 = .ok (.iconst 0, 1) := by decide +kernel
theorem dX6_kinds_19 : decode cX6_kinds 19 = .ok (.istore_n 3, 1) := by decide +kernel
theorem dX6_kinds_20 : decode cX6_kinds 20 = .ok (.iload_n 3, 1) := by decide +kernel
theorem dX6_kinds_21 : decode cX6_kinds 21 = .ok (.iconst 3, 1) := by decide +kernel
theorem dX6_kinds_22 : decode cX6_kinds 22 = .ok (.if_icmp .ge 43, 3) := by decide +kernel
theorem dX6_kinds_25 : decode cX6_kinds 25 = .ok (.aload_n 0, 1) := by decide +kernel
theorem dX6_kinds_26 : decode cX6_kinds 26 = .ok (.getfield 48, 3) := by decide +kernel
theorem dX6_kinds_29 : decode cX6_kinds 29 = .ok (.iload_n 1, 1) := by decide +kernel
theorem dX6_kinds_30 : decode cX6_kinds 30 = .ok (.iload_n 3, 1) := by decide +kernel
theorem dX6_kinds_31 : decode cX6_kinds 31 = .ok (.aload_n 0, 1) := by decide +kernel
theorem dX6_kinds_32 : decode cX6_kinds 32 = .ok (.getfield 48, 3) := by decide +kernel
theorem dX6_kinds_35 : decode cX6_kinds 35 = .ok (.getfield 97, 3) := by decide +kernel
theorem dX6_kinds_38 : decode cX6_kinds 38 = .ok (.iload_n 1, 1) := by decide +kernel
theorem dX6_kinds_39 : decode cX6_kinds 39 = .ok (.iaload, 1) := by decide +kernel
theorem dX6_kinds_40 : decode cX6_kinds 40 = .ok (.aload_n 0, 1) := by decide +kernel
theorem dX6_kinds_41 : decode cX6_kinds 41 = .ok (.getfield 48, 3) := by decide +kernel
theorem dX6_kinds_44 : decode cX6_kinds 44 = .ok (.getfield 132, 3) := by decide +kernel
theorem dX6_kinds_47 : decode cX6_kinds 47 = .ok (.invokevirtual 213, 3) := by decide +kernel
theorem dX6_kinds_50 : decode cX6_kinds 50 = .ok (.ifCond .eq 9, 3) := by decide +kernel
theorem dX6_kinds_53 : decode cX6_kinds 53 = .ok (.iload_n 2, 1) := by decide +kernel
theorem dX6_kinds_54 : decode cX6_kinds 54 = .ok (.iconst 1, 1) := by decide +kernel
theorem dX6_kinds_55 : decode cX6_kinds 55 = .ok (.iload_n 3, 1) := by decide +kernel
theorem dX6_kinds_56 : decode cX6_kinds 56 = .ok (.ishl, 1) := by decide +kernel
theorem dX6_kinds_57 : decode cX6_kinds 57 = .ok (.ior, 1) := by decide +kernel
theorem dX6_kinds_58 : decode cX6_kinds 58 = .ok (.istore_n 2, 1) := by decide +kernel
theorem dX6_kinds_59 : decode cX6_kinds 59 = .ok (.iinc 3 1, 3) := by decide +kernel
theorem dX6_kinds_62 : decode cX6_kinds 62 = .ok (.goto (-42), 3) := by decide +kernel
theorem dX6_kinds_65 : decode cX6_kinds 65 = .ok (.iload_n 2, 1) := by decide +kernel
theorem dX6_kinds_66 : decode cX6_kinds 66 = .ok (.ireturn, 1) := by decide +kernel
theorem dX6_soups_0 : decode cX6_soups 0 = .ok (.aload_n 0, 1) := by decide +kernel
theorem dX6_soups_1 : decode cX6_soups 1 = .ok (.getfield 48, 3) := by decide +kernel
theorem dX6_soups_4 : decode cX6_soups 4 = .ok (.invokevirtual 125, 3) := by decide +kernel
theorem dX6_soups_7 : decode cX6_soups 7 = .ok (.ifCond .ne 6, 3) := by decide +kernel
theorem dX6_soups_10 : decode cX6_soups 10 = .ok (.bipush (-3), 2) := by decide +kernel
theorem dX6_soups_12 : decode cX6_soups 12 = .ok (.ireturn, 1) := by decide +kernel
theorem dX6_soups_13 : decode cX6_soups 13 = .ok (.iconst 0, 1) := by decide +kernel
theorem dX6_soups_14 : decode cX6_soups 14 = .ok (.istore_n 1, 1) := by decide +kernel
theorem dX6_soups_15 : decode cX6_soups 15 = .ok (.iconst 0, 1) := by decide +kernel
theorem dX6_soups_16 : decode cX6_soups 16 = .ok (.istore_n 2, 1) := by decide +kernel
theorem dX6_soups_17 : decode cX6_soups 17 = .ok (.iload_n 2, 1) := by decide +kernel
theorem dX6_soups_18 : decode cX6_soups 18 = .ok (.iconst 4, 1) := by decide +kernel
theorem dX6_soups_19 : decode cX6_soups 19 = .ok (.if_icmp .ge 45, 3) := by decide +kernel
theorem dX6_soups_22 : decode cX6_soups 22 = .ok (.aload_n 0, 1) := by decide +kernel
theorem dX6_soups_23 : decode cX6_soups 23 = .ok (.getfield 48, 3) := by decide +kernel
theorem dX6_soups_26 : decode cX6_soups 26 = .ok (.iconst 0, 1) := by decide +kernel
theorem dX6_soups_27 : decode cX6_soups 27 = .ok (.aload_n 0, 1) := by decide +kernel
theorem dX6_soups_28 : decode cX6_soups 28 = .ok (.getfield 48, 3) := by decide +kernel
theorem dX6_soups_31 : decode cX6_soups 31 = .ok (.getfield 94, 3) := by decide +kernel
theorem dX6_soups_34 : decode cX6_soups 34 = .ok (.iconst 0, 1) := by decide +kernel
theorem dX6_soups_35 : decode cX6_soups 35 = .ok (.iaload, 1) := by decide +kernel
theorem dX6_soups_36 : decode cX6_soups 36 = .ok (.aload_n 0, 1) := by decide +kernel
theorem dX6_soups_37 : decode cX6_soups 37 = .ok (.getfield 48, 3) := by decide +kernel
theorem dX6_soups_40 : decode cX6_soups 40 = .ok (.getfield 97, 3) := by decide +kernel
theorem dX6_soups_43 : decode cX6_soups 43 = .ok (.iconst 0, 1) := by decide +kernel
theorem dX6_soups_44 : decode cX6_soups 44 = .ok (.iaload, 1) := by decide +kernel
theorem dX6_soups_45 : decode cX6_soups 45 = .ok (.iload_n 2, 1) := by decide +kernel
theorem dX6_soups_46 : decode cX6_soups 46 = .ok (.invokevirtual 213, 3) := by decide +kernel
theorem dX6_soups_49 : decode cX6_soups 49 = .ok (.ifCond .eq 9, 3) := by decide +kernel
theorem dX6_soups_52 : decode cX6_soups 52 = .ok (.iload_n 1, 1) := by decide +kernel
theorem dX6_soups_53 : decode cX6_soups 53 = .ok (.iconst 1, 1) := by decide +kernel
theorem dX6_soups_54 : decode cX6_soups 54 = .ok (.iload_n 2, 1) := by decide +kernel
theorem dX6_soups_55 : decode cX6_soups 55 = .ok (.ishl, 1) := by decide +kernel
theorem dX6_soups_56 : decode cX6_soups 56 = .ok (.ior, 1) := by decide +kernel
theorem dX6_soups_57 : decode cX6_soups 57 = .ok (.istore_n 1, 1) := by decide +kernel
theorem dX6_soups_58 : decode cX6_soups 58 = .ok (.iinc 2 1, 3) := by decide +kernel
theorem dX6_soups_61 : decode cX6_soups 61 = .ok (.goto (-44), 3) := by decide +kernel
theorem dX6_soups_64 : decode cX6_soups 64 = .ok (.iload_n 1, 1) := by decide +kernel
theorem dX6_soups_65 : decode cX6_soups 65 = .ok (.ireturn, 1) := by decide +kernel
theorem dX6_odds_0 : decode cX6_odds 0 = .ok (.iload_n 1, 1) := by decide +kernel
theorem dX6_odds_1 : decode cX6_odds 1 = .ok (.aload_n 0, 1) := by decide +kernel
theorem dX6_odds_2 : decode cX6_odds 2 = .ok (.getfield 48, 3) := by decide +kernel
theorem dX6_odds_5 : decode cX6_odds 5 = .ok (.getfield 106, 3) := by decide +kernel
theorem dX6_odds_8 : decode cX6_odds 8 = .ok (.invokestatic 64, 3) := by decide +kernel
theorem dX6_odds_11 : decode cX6_odds 11 = .ok (.ifCond .eq 11, 3) := by decide +kernel
theorem dX6_odds_14 : decode cX6_odds 14 = .ok (.iload_n 2, 1) := by decide +kernel
theorem dX6_odds_15 : decode cX6_odds 15 = .ok (.iconst 2, 1) := by decide +kernel
theorem dX6_odds_16 : decode cX6_odds 16 = .ok (.invokestatic 64, 3) := by decide +kernel
theorem dX6_odds_19 : decode cX6_odds 19 = .ok (.ifCond .ne 7, 3) := by decide +kernel
theorem dX6_odds_22 : decode cX6_odds 22 = .ok (.ldc2_w 194, 3) := by decide +kernel
theorem dX6_odds_25 : decode cX6_odds 25 = .ok (.lreturn, 1) := by decide +kernel
theorem dX6_odds_26 : decode cX6_odds 26 = .ok (.iload_n 3, 1) := by decide +kernel
theorem dX6_odds_27 : decode cX6_odds 27 = .ok (.bipush 9, 2) := by decide +kernel
theorem dX6_odds_29 : decode cX6_odds 29 = .ok (.invokestatic 64, 3) := by decide +kernel
theorem dX6_odds_32 : decode cX6_odds 32 = .ok (.ifCond .eq 14, 3) := by decide +kernel
theorem dX6_odds_35 : decode cX6_odds 35 = .ok (.iload 4, 2) := by decide +kernel
theorem dX6_odds_37 : decode cX6_odds 37 = .ok (.ifCond .lt 9, 3) := by decide +kernel
theorem dX6_odds_40 : decode cX6_odds 40 = .ok (.iload 4, 2) := by decide +kernel
theorem dX6_odds_42 : decode cX6_odds 42 = .ok (.iconst 1, 1) := by decide +kernel
theorem dX6_odds_43 : decode cX6_odds 43 = .ok (.if_icmp .le 7, 3) := by decide +kernel
theorem dX6_odds_46 : decode cX6_odds 46 = .ok (.ldc2_w 194, 3) := by decide +kernel
theorem dX6_odds_49 : decode cX6_odds 49 = .ok (.lreturn, 1) := by decide +kernel
theorem dX6_odds_50 : decode cX6_odds 50 = .ok (.aload_n 0, 1) := by decide +kernel
theorem dX6_odds_51 : decode cX6_odds 51 = .ok (.getfield 41, 3) := by decide +kernel
theorem dX6_odds_54 : decode cX6_odds 54 = .ok (.aload_n 0, 1) := by decide +kernel
theorem dX6_odds_55 : decode cX6_odds 55 = .ok (.getfield 48, 3) := by decide +kernel
theorem dX6_odds_58 : decode cX6_odds 58 = .ok (.iload_n 3, 1) := by decide +kernel
theorem dX6_odds_59 : decode cX6_odds 59 = .ok (.iconst 1, 1) := by decide +kernel
theorem dX6_odds_60 : decode cX6_odds 60 = .ok (.invokevirtual 196, 3) := by decide +kernel
theorem dX6_odds_63 : decode cX6_odds 63 = .ok (.aload_n 0, 1) := by decide +kernel
theorem dX6_odds_64 : decode cX6_odds 64 = .ok (.getfield 41, 3) := by decide +kernel
theorem dX6_odds_67 : decode cX6_odds 67 = .ok (.aload_n 0, 1) := by decide +kernel
theorem dX6_odds_68 : decode cX6_odds 68 = .ok (.getfield 48, 3) := by decide +kernel
theorem dX6_odds_71 : decode cX6_odds 71 = .ok (.iload_n 1, 1) := by decide +kernel
theorem dX6_odds_72 : decode cX6_odds 72 = .ok (.iload_n 2, 1) := by decide +kernel
theorem dX6_odds_73 : decode cX6_odds 73 = .ok (.invokevirtual 217, 3) := by decide +kernel
theorem dX6_odds_76 : decode cX6_odds 76 = .ok (.lstore 5, 2) := by decide +kernel
theorem dX6_odds_78 : decode cX6_odds 78 = .ok (.lconst 1, 1) := by decide +kernel
theorem dX6_odds_79 : decode cX6_odds 79 = .ok (.iload_n 3, 1) := by decide +kernel
theorem dX6_odds_80 : decode cX6_odds 80 = .ok (.lshl, 1) := by decide +kernel
theorem dX6_odds_81 : decode cX6_odds 81 = .ok (.lstore 7, 2) := by decide +kernel
theorem dX6_odds_83 : decode cX6_odds 83 = .ok (.iconst 0, 1) := by decide +kernel
theorem dX6_odds_84 : decode cX6_odds 84 = .ok (.istore 9, 2) := by decide +kernel
theorem dX6_odds_86 : decode cX6_odds 86 = .ok (.iload 9, 2) := by decide +kernel
theorem dX6_odds_88 : decode cX6_odds 88 = .ok (.iload_n 3, 1) := by decide +kernel
theorem dX6_odds_89 : decode cX6_odds 89 = .ok (.if_icmp .ge 36, 3) := by decide +kernel
theorem dX6_odds_92 : decode cX6_odds 92 = .ok (.lload 5, 2) := by decide +kernel
theorem dX6_odds_94 : decode cX6_odds 94 = .ok (.ldc2_w 221, 3) := by decide +kernel
theorem dX6_odds_97 : decode cX6_odds 97 = .ok (.lrem, 1) := by decide +kernel
theorem dX6_odds_98 : decode cX6_odds 98 = .ok (.lconst 0, 1) := by decide +kernel
theorem dX6_odds_99 : decode cX6_odds 99 = .ok (.lcmp, 1) := by decide +kernel
theorem dX6_odds_100 : decode cX6_odds 100 = .ok (.ifCond .ne 25, 3) := by decide +kernel
theorem dX6_odds_103 : decode cX6_odds 103 = .ok (.lload 5, 2) := by decide +kernel
theorem dX6_odds_105 : decode cX6_odds 105 = .ok (.ldc2_w 221, 3) := by decide +kernel
theorem dX6_odds_108 : decode cX6_odds 108 = .ok (.ldiv, 1) := by decide +kernel
theorem dX6_odds_109 : decode cX6_odds 109 = .ok (.lstore 5, 2) := by decide +kernel
theorem dX6_odds_111 : decode cX6_odds 111 = .ok (.lload 7, 2) := by decide +kernel
theorem dX6_odds_113 : decode cX6_odds 113 = .ok (.ldc2_w 221, 3) := by decide +kernel
theorem dX6_odds_116 : decode cX6_odds 116 = .ok (.ldiv, 1) := by decide +kernel
theorem dX6_odds_117 : decode cX6_odds 117 = .ok (.lstore 7, 2) := by decide +kernel
theorem dX6_odds_119 : decode cX6_odds 119 = .ok (.iinc 9 1, 3) := by decide +kernel
theorem dX6_odds_122 : decode cX6_odds 122 = .ok (.goto (-36), 3) := by decide +kernel
theorem dX6_odds_125 : decode cX6_odds 125 = .ok (.iload 4, 2) := by decide +kernel
theorem dX6_odds_127 : decode cX6_odds 127 = .ok (.ifCond .ne 8, 3) := by decide +kernel
theorem dX6_odds_130 : decode cX6_odds 130 = .ok (.lload 5, 2) := by decide +kernel
theorem dX6_odds_132 : decode cX6_odds 132 = .ok (.goto 5, 3) := by decide +kernel
theorem dX6_odds_135 : decode cX6_odds 135 = .ok (.lload 7, 2) := by decide +kernel
theorem dX6_odds_137 : decode cX6_odds 137 = .ok (.lreturn, 1) := by decide +kernel
theorem dX6_sheet_0 : decode cX6_sheet 0 = .ok (.aload_n 0, 1) := by decide +kernel
theorem dX6_sheet_1 : decode cX6_sheet 1 = .ok (.iconst 0, 1) := by decide +kernel
theorem dX6_sheet_2 : decode cX6_sheet 2 = .ok (.putfield 56, 3) := by decide +kernel
theorem dX6_sheet_5 : decode cX6_sheet 5 = .ok (.iload_n 1, 1) := by decide +kernel
theorem dX6_sheet_6 : decode cX6_sheet 6 = .ok (.invokestatic 60, 3) := by decide +kernel
theorem dX6_sheet_9 : decode cX6_sheet 9 = .ok (.ifCond .ne 5, 3) := by decide +kernel
theorem dX6_sheet_12 : decode cX6_sheet 12 = .ok (.iconst (-1), 1) := by decide +kernel
theorem dX6_sheet_13 : decode cX6_sheet 13 = .ok (.ireturn, 1) := by decide +kernel
theorem dX6_sheet_14 : decode cX6_sheet 14 = .ok (.iload_n 2, 1) := by decide +kernel
theorem dX6_sheet_15 : decode cX6_sheet 15 = .ok (.iconst 3, 1) := by decide +kernel
theorem dX6_sheet_16 : decode cX6_sheet 16 = .ok (.invokestatic 64, 3) := by decide +kernel
theorem dX6_sheet_19 : decode cX6_sheet 19 = .ok (.ifCond .eq 9, 3) := by decide +kernel
theorem dX6_sheet_22 : decode cX6_sheet 22 = .ok (.iload_n 3, 1) := by decide +kernel
theorem dX6_sheet_23 : decode cX6_sheet 23 = .ok (.bipush 60, 2) := by decide +kernel
theorem dX6_sheet_25 : decode cX6_sheet 25 = .ok (.if_icmp .le 6, 3) := by decide +kernel
theorem dX6_sheet_28 : decode cX6_sheet 28 = .ok (.bipush (-2), 2) := by decide +kernel
theorem dX6_sheet_30 : decode cX6_sheet 30 = .ok (.ireturn, 1) := by decide +kernel
theorem dX6_sheet_31 : decode cX6_sheet 31 = .ok (.iload_n 3, 1) := by decide +kernel
theorem dX6_sheet_32 : decode cX6_sheet 32 = .ok (.ifCond .ge 9, 3) := by decide +kernel
theorem dX6_sheet_35 : decode cX6_sheet 35 = .ok (.aload_n 0, 1) := by decide +kernel
theorem dX6_sheet_36 : decode cX6_sheet 36 = .ok (.iconst 4, 1) := by decide +kernel
theorem dX6_sheet_37 : decode cX6_sheet 37 = .ok (.invokevirtual 72, 3) := by decide +kernel
theorem dX6_sheet_40 : decode cX6_sheet 40 = .ok (.ireturn, 1) := by decide +kernel
theorem dX6_sheet_41 : decode cX6_sheet 41 = .ok (.aload_n 0, 1) := by decide +kernel
theorem dX6_sheet_42 : decode cX6_sheet 42 = .ok (.getfield 13, 3) := by decide +kernel
theorem dX6_sheet_45 : decode cX6_sheet 45 = .ok (.iload_n 1, 1) := by decide +kernel
theorem dX6_sheet_46 : decode cX6_sheet 46 = .ok (.aaload, 1) := by decide +kernel
theorem dX6_sheet_47 : decode cX6_sheet 47 = .ok (.iload_n 2, 1) := by decide +kernel
theorem dX6_sheet_48 : decode cX6_sheet 48 = .ok (.iload_n 3, 1) := by decide +kernel
theorem dX6_sheet_49 : decode cX6_sheet 49 = .ok (.invokevirtual 223, 3) := by decide +kernel
theorem dX6_sheet_52 : decode cX6_sheet 52 = .ok (.iconst 1, 1) := by decide +kernel
theorem dX6_sheet_53 : decode cX6_sheet 53 = .ok (.ireturn, 1) := by decide +kernel
theorem dX6_lose_0 : decode cX6_lose 0 = .ok (.iload_n 1, 1) := by decide +kernel
theorem dX6_lose_1 : decode cX6_lose 1 = .ok (.invokestatic 60, 3) := by decide +kernel
theorem dX6_lose_4 : decode cX6_lose 4 = .ok (.ifCond .ne 5, 3) := by decide +kernel
theorem dX6_lose_7 : decode cX6_lose 7 = .ok (.iconst (-1), 1) := by decide +kernel
theorem dX6_lose_8 : decode cX6_lose 8 = .ok (.ireturn, 1) := by decide +kernel
theorem dX6_lose_9 : decode cX6_lose 9 = .ok (.aload_n 0, 1) := by decide +kernel
theorem dX6_lose_10 : decode cX6_lose 10 = .ok (.getfield 13, 3) := by decide +kernel
theorem dX6_lose_13 : decode cX6_lose 13 = .ok (.iload_n 1, 1) := by decide +kernel
theorem dX6_lose_14 : decode cX6_lose 14 = .ok (.aaload, 1) := by decide +kernel
theorem dX6_lose_15 : decode cX6_lose 15 = .ok (.getfield 227, 3) := by decide +kernel
theorem dX6_lose_18 : decode cX6_lose 18 = .ok (.ifCond .eq 7, 3) := by decide +kernel
theorem dX6_lose_21 : decode cX6_lose 21 = .ok (.iconst 1, 1) := by decide +kernel
theorem dX6_lose_22 : decode cX6_lose 22 = .ok (.goto 4, 3) := by decide +kernel
theorem dX6_lose_25 : decode cX6_lose 25 = .ok (.iconst 0, 1) := by decide +kernel
theorem dX6_lose_26 : decode cX6_lose 26 = .ok (.istore_n 2, 1) := by decide +kernel
theorem dX6_lose_27 : decode cX6_lose 27 = .ok (.aload_n 0, 1) := by decide +kernel
theorem dX6_lose_28 : decode cX6_lose 28 = .ok (.getfield 13, 3) := by decide +kernel
theorem dX6_lose_31 : decode cX6_lose 31 = .ok (.iload_n 1, 1) := by decide +kernel
theorem dX6_lose_32 : decode cX6_lose 32 = .ok (.aaload, 1) := by decide +kernel
theorem dX6_lose_33 : decode cX6_lose 33 = .ok (.iconst 0, 1) := by decide +kernel
theorem dX6_lose_34 : decode cX6_lose 34 = .ok (.putfield 227, 3) := by decide +kernel
theorem dX6_lose_37 : decode cX6_lose 37 = .ok (.iload_n 2, 1) := by decide +kernel
theorem dX6_lose_38 : decode cX6_lose 38 = .ok (.ireturn, 1) := by decide +kernel
theorem dX6_put_0 : decode cX6_put 0 = .ok (.aload_n 0, 1) := by decide +kernel
theorem dX6_put_1 : decode cX6_put 1 = .ok (.iconst 0, 1) := by decide +kernel
theorem dX6_put_2 : decode cX6_put 2 = .ok (.putfield 56, 3) := by decide +kernel
theorem dX6_put_5 : decode cX6_put 5 = .ok (.iload_n 1, 1) := by decide +kernel
theorem dX6_put_6 : decode cX6_put 6 = .ok (.invokestatic 60, 3) := by decide +kernel
theorem dX6_put_9 : decode cX6_put 9 = .ok (.ifCond .ne 5, 3) := by decide +kernel
theorem dX6_put_12 : decode cX6_put 12 = .ok (.iconst (-1), 1) := by decide +kernel
theorem dX6_put_13 : decode cX6_put 13 = .ok (.ireturn, 1) := by decide +kernel
theorem dX6_put_14 : decode cX6_put 14 = .ok (.aload_n 0, 1) := by decide +kernel
theorem dX6_put_15 : decode cX6_put 15 = .ok (.getfield 13, 3) := by decide +kernel
theorem dX6_put_18 : decode cX6_put 18 = .ok (.iload_n 1, 1) := by decide +kernel
theorem dX6_put_19 : decode cX6_put 19 = .ok (.aaload, 1) := by decide +kernel
theorem dX6_put_20 : decode cX6_put 20 = .ok (.astore 4, 2) := by decide +kernel
theorem dX6_put_22 : decode cX6_put 22 = .ok (.aload 4, 2) := by decide +kernel
theorem dX6_put_24 : decode cX6_put 24 = .ok (.getfield 227, 3) := by decide +kernel
theorem dX6_put_27 : decode cX6_put 27 = .ok (.ifCond .ne 9, 3) := by decide +kernel
theorem dX6_put_30 : decode cX6_put 30 = .ok (.aload_n 0, 1) := by decide +kernel
theorem dX6_put_31 : decode cX6_put 31 = .ok (.iconst 1, 1) := by decide +kernel
theorem dX6_put_32 : decode cX6_put 32 = .ok (.invokevirtual 72, 3) := by decide +kernel
theorem dX6_put_35 : decode cX6_put 35 = .ok (.ireturn, 1) := by decide +kernel
theorem dX6_put_36 : decode cX6_put 36 = .ok (.aload 4, 2) := by decide +kernel
theorem dX6_put_38 : decode cX6_put 38 = .ok (.iload_n 2, 1) := by decide +kernel
theorem dX6_put_39 : decode cX6_put 39 = .ok (.iconst 1, 1) := by decide +kernel
theorem dX6_put_40 : decode cX6_put 40 = .ok (.invokevirtual 231, 3) := by decide +kernel
theorem dX6_put_43 : decode cX6_put 43 = .ok (.ifCond .ne 9, 3) := by decide +kernel
theorem dX6_put_46 : decode cX6_put 46 = .ok (.aload_n 0, 1) := by decide +kernel
theorem dX6_put_47 : decode cX6_put 47 = .ok (.iconst 3, 1) := by decide +kernel
theorem dX6_put_48 : decode cX6_put 48 = .ok (.invokevirtual 72, 3) := by decide +kernel
theorem dX6_put_51 : decode cX6_put 51 = .ok (.ireturn, 1) := by decide +kernel
theorem dX6_put_52 : decode cX6_put 52 = .ok (.aload 4, 2) := by decide +kernel
theorem dX6_put_54 : decode cX6_put 54 = .ok (.getfield 76, 3) := by decide +kernel
theorem dX6_put_57 : decode cX6_put 57 = .ok (.iload_n 2, 1) := by decide +kernel
theorem dX6_put_58 : decode cX6_put 58 = .ok (.aload 4, 2) := by decide +kernel
theorem dX6_put_60 : decode cX6_put 60 = .ok (.iload_n 3, 1) := by decide +kernel
theorem dX6_put_61 : decode cX6_put 61 = .ok (.invokevirtual 234, 3) := by decide +kernel
theorem dX6_put_64 : decode cX6_put 64 = .ok (.iastore, 1) := by decide +kernel
theorem dX6_put_65 : decode cX6_put 65 = .ok (.iconst 1, 1) := by decide +kernel
theorem dX6_put_66 : decode cX6_put 66 = .ok (.ireturn, 1) := by decide +kernel
theorem dX6_cell_0 : decode cX6_cell 0 = .ok (.aload_n 0, 1) := by decide +kernel
theorem dX6_cell_1 : decode cX6_cell 1 = .ok (.iconst 0, 1) := by decide +kernel
theorem dX6_cell_2 : decode cX6_cell 2 = .ok (.putfield 56, 3) := by decide +kernel
theorem dX6_cell_5 : decode cX6_cell 5 = .ok (.iload_n 1, 1) := by decide +kernel
theorem dX6_cell_6 : decode cX6_cell 6 = .ok (.invokestatic 60, 3) := by decide +kernel
theorem dX6_cell_9 : decode cX6_cell 9 = .ok (.ifCond .eq 11, 3) := by decide +kernel
theorem dX6_cell_12 : decode cX6_cell 12 = .ok (.iload_n 3, 1) := by decide +kernel
theorem dX6_cell_13 : decode cX6_cell 13 = .ok (.iconst 3, 1) := by decide +kernel
theorem dX6_cell_14 : decode cX6_cell 14 = .ok (.invokestatic 64, 3) := by decide +kernel
theorem dX6_cell_17 : decode cX6_cell 17 = .ok (.ifCond .ne 7, 3) := by decide +kernel
theorem dX6_cell_20 : decode cX6_cell 20 = .ok (.ldc2_w 194, 3) := by decide +kernel
theorem dX6_cell_23 : decode cX6_cell 23 = .ok (.lreturn, 1) := by decide +kernel
theorem dX6_cell_24 : decode cX6_cell 24 = .ok (.aload_n 0, 1) := by decide +kernel
theorem dX6_cell_25 : decode cX6_cell 25 = .ok (.aload_n 0, 1) := by decide +kernel
theorem dX6_cell_26 : decode cX6_cell 26 = .ok (.getfield 13, 3) := by decide +kernel
theorem dX6_cell_29 : decode cX6_cell 29 = .ok (.iload_n 1, 1) := by decide +kernel
theorem dX6_cell_30 : decode cX6_cell 30 = .ok (.aaload, 1) := by decide +kernel
theorem dX6_cell_31 : decode cX6_cell 31 = .ok (.iload_n 3, 1) := by decide +kernel
theorem dX6_cell_32 : decode cX6_cell 32 = .ok (.iload_n 2, 1) := by decide +kernel
theorem dX6_cell_33 : decode cX6_cell 33 = .ok (.iconst 1, 1) := by decide +kernel
theorem dX6_cell_34 : decode cX6_cell 34 = .ok (.invokevirtual 68, 3) := by decide +kernel
theorem dX6_cell_37 : decode cX6_cell 37 = .ok (.putfield 56, 3) := by decide +kernel
theorem dX6_cell_40 : decode cX6_cell 40 = .ok (.aload_n 0, 1) := by decide +kernel
theorem dX6_cell_41 : decode cX6_cell 41 = .ok (.getfield 56, 3) := by decide +kernel
theorem dX6_cell_44 : decode cX6_cell 44 = .ok (.ifCond .ne 18, 3) := by decide +kernel
theorem dX6_cell_47 : decode cX6_cell 47 = .ok (.aload_n 0, 1) := by decide +kernel
theorem dX6_cell_48 : decode cX6_cell 48 = .ok (.getfield 13, 3) := by decide +kernel
theorem dX6_cell_51 : decode cX6_cell 51 = .ok (.iload_n 1, 1) := by decide +kernel
theorem dX6_cell_52 : decode cX6_cell 52 = .ok (.aaload, 1) := by decide +kernel
theorem dX6_cell_53 : decode cX6_cell 53 = .ok (.getfield 76, 3) := by decide +kernel
theorem dX6_cell_56 : decode cX6_cell 56 = .ok (.iload_n 2, 1) := by decide +kernel
theorem dX6_cell_57 : decode cX6_cell 57 = .ok (.iaload, 1) := by decide +kernel
theorem dX6_cell_58 : decode cX6_cell 58 = .ok (.i2l, 1) := by decide +kernel
theorem dX6_cell_59 : decode cX6_cell 59 = .ok (.goto 6, 3) := by decide +kernel
theorem dX6_cell_62 : decode cX6_cell 62 = .ok (.ldc2_w 194, 3) := by decide +kernel
theorem dX6_cell_65 : decode cX6_cell 65 = .ok (.lreturn, 1) := by decide +kernel
theorem dX6_copy_0 : decode cX6_copy 0 = .ok (.aload_n 0, 1) := by decide +kernel
theorem dX6_copy_1 : decode cX6_copy 1 = .ok (.iconst 0, 1) := by decide +kernel
theorem dX6_copy_2 : decode cX6_copy 2 = .ok (.putfield 56, 3) := by decide +kernel
theorem dX6_copy_5 : decode cX6_copy 5 = .ok (.iload_n 1, 1) := by decide +kernel
theorem dX6_copy_6 : decode cX6_copy 6 = .ok (.invokestatic 60, 3) := by decide +kernel
theorem dX6_copy_9 : decode cX6_copy 9 = .ok (.ifCond .eq 10, 3) := by decide +kernel
theorem dX6_copy_12 : decode cX6_copy 12 = .ok (.iload_n 3, 1) := by decide +kernel
theorem dX6_copy_13 : decode cX6_copy 13 = .ok (.invokestatic 60, 3) := by decide +kernel
theorem dX6_copy_16 : decode cX6_copy 16 = .ok (.ifCond .ne 5, 3) := by decide +kernel
theorem dX6_copy_19 : decode cX6_copy 19 = .ok (.iconst (-1), 1) := by decide +kernel
theorem dX6_copy_20 : decode cX6_copy 20 = .ok (.ireturn, 1) := by decide +kernel
theorem dX6_copy_21 : decode cX6_copy 21 = .ok (.aload_n 0, 1) := by decide +kernel
theorem dX6_copy_22 : decode cX6_copy 22 = .ok (.getfield 13, 3) := by decide +kernel
theorem dX6_copy_25 : decode cX6_copy 25 = .ok (.iload_n 1, 1) := by decide +kernel
theorem dX6_copy_26 : decode cX6_copy 26 = .ok (.aaload, 1) := by decide +kernel
theorem dX6_copy_27 : decode cX6_copy 27 = .ok (.astore 6, 2) := by decide +kernel
theorem dX6_copy_29 : decode cX6_copy 29 = .ok (.aload_n 0, 1) := by decide +kernel
theorem dX6_copy_30 : decode cX6_copy 30 = .ok (.getfield 13, 3) := by decide +kernel
theorem dX6_copy_33 : decode cX6_copy 33 = .ok (.iload_n 3, 1) := by decide +kernel
theorem dX6_copy_34 : decode cX6_copy 34 = .ok (.aaload, 1) := by decide +kernel
theorem dX6_copy_35 : decode cX6_copy 35 = .ok (.astore 7, 2) := by decide +kernel
theorem dX6_copy_37 : decode cX6_copy 37 = .ok (.aload 6, 2) := by decide +kernel
theorem dX6_copy_39 : decode cX6_copy 39 = .ok (.getfield 227, 3) := by decide +kernel
theorem dX6_copy_42 : decode cX6_copy 42 = .ok (.ifCond .eq 11, 3) := by decide +kernel
theorem dX6_copy_45 : decode cX6_copy 45 = .ok (.aload 7, 2) := by decide +kernel
theorem dX6_copy_47 : decode cX6_copy 47 = .ok (.getfield 227, 3) := by decide +kernel
theorem dX6_copy_50 : decode cX6_copy 50 = .ok (.ifCond .ne 9, 3) := by decide +kernel
theorem dX6_copy_53 : decode cX6_copy 53 = .ok (.aload_n 0, 1) := by decide +kernel
theorem dX6_copy_54 : decode cX6_copy 54 = .ok (.iconst 1, 1) := by decide +kernel
theorem dX6_copy_55 : decode cX6_copy 55 = .ok (.invokevirtual 72, 3) := by decide +kernel
theorem dX6_copy_58 : decode cX6_copy 58 = .ok (.ireturn, 1) := by decide +kernel
theorem dX6_copy_59 : decode cX6_copy 59 = .ok (.aload 6, 2) := by decide +kernel
theorem dX6_copy_61 : decode cX6_copy 61 = .ok (.getfield 237, 3) := by decide +kernel
theorem dX6_copy_64 : decode cX6_copy 64 = .ok (.aload 7, 2) := by decide +kernel
theorem dX6_copy_66 : decode cX6_copy 66 = .ok (.getfield 237, 3) := by decide +kernel
theorem dX6_copy_69 : decode cX6_copy 69 = .ok (.if_icmp .eq 9, 3) := by decide +kernel
theorem dX6_copy_72 : decode cX6_copy 72 = .ok (.aload_n 0, 1) := by decide +kernel
theorem dX6_copy_73 : decode cX6_copy 73 = .ok (.iconst 2, 1) := by decide +kernel
theorem dX6_copy_74 : decode cX6_copy 74 = .ok (.invokevirtual 72, 3) := by decide +kernel
theorem dX6_copy_77 : decode cX6_copy 77 = .ok (.ireturn, 1) := by decide +kernel
theorem dX6_copy_78 : decode cX6_copy 78 = .ok (.aload 6, 2) := by decide +kernel
theorem dX6_copy_80 : decode cX6_copy 80 = .ok (.iload_n 2, 1) := by decide +kernel
theorem dX6_copy_81 : decode cX6_copy 81 = .ok (.iload 5, 2) := by decide +kernel
theorem dX6_copy_83 : decode cX6_copy 83 = .ok (.invokevirtual 231, 3) := by decide +kernel
theorem dX6_copy_86 : decode cX6_copy 86 = .ok (.ifCond .eq 15, 3) := by decide +kernel
theorem dX6_copy_89 : decode cX6_copy 89 = .ok (.aload 7, 2) := by decide +kernel
theorem dX6_copy_91 : decode cX6_copy 91 = .ok (.iload 4, 2) := by decide +kernel
theorem dX6_copy_93 : decode cX6_copy 93 = .ok (.iload 5, 2) := by decide +kernel
theorem dX6_copy_95 : decode cX6_copy 95 = .ok (.invokevirtual 231, 3) := by decide +kernel
theorem dX6_copy_98 : decode cX6_copy 98 = .ok (.ifCond .ne 9, 3) := by decide +kernel
theorem dX6_copy_101 : decode cX6_copy 101 = .ok (.aload_n 0, 1) := by decide +kernel
theorem dX6_copy_102 : decode cX6_copy 102 = .ok (.iconst 3, 1) := by decide +kernel
theorem dX6_copy_103 : decode cX6_copy 103 = .ok (.invokevirtual 72, 3) := by decide +kernel
theorem dX6_copy_106 : decode cX6_copy 106 = .ok (.ireturn, 1) := by decide +kernel
theorem dX6_copy_107 : decode cX6_copy 107 = .ok (.aload 6, 2) := by decide +kernel
theorem dX6_copy_109 : decode cX6_copy 109 = .ok (.getfield 76, 3) := by decide +kernel
theorem dX6_copy_112 : decode cX6_copy 112 = .ok (.iload_n 2, 1) := by decide +kernel
theorem dX6_copy_113 : decode cX6_copy 113 = .ok (.aload 7, 2) := by decide +kernel
theorem dX6_copy_115 : decode cX6_copy 115 = .ok (.getfield 76, 3) := by decide +kernel
theorem dX6_copy_118 : decode cX6_copy 118 = .ok (.iload 4, 2) := by decide +kernel
theorem dX6_copy_120 : decode cX6_copy 120 = .ok (.iload 5, 2) := by decide +kernel
theorem dX6_copy_122 : decode cX6_copy 122 = .ok (.invokestatic 240, 3) := by decide +kernel
theorem dX6_copy_125 : decode cX6_copy 125 = .ok (.iload 5, 2) := by decide +kernel
theorem dX6_copy_127 : decode cX6_copy 127 = .ok (.ireturn, 1) := by decide +kernel
theorem dX6_tell_0 : decode cX6_tell 0 = .ok (.iload_n 1, 1) := by decide +kernel
theorem dX6_tell_1 : decode cX6_tell 1 = .ok (.aload_n 0, 1) := by decide +kernel
theorem dX6_tell_2 : decode cX6_tell 2 = .ok (.getfield 48, 3) := by decide +kernel
theorem dX6_tell_5 : decode cX6_tell 5 = .ok (.getfield 91, 3) := by decide +kernel
theorem dX6_tell_8 : decode cX6_tell 8 = .ok (.invokestatic 64, 3) := by decide +kernel
theorem dX6_tell_11 : decode cX6_tell 11 = .ok (.ifCond .ne 5, 3) := by decide +kernel
theorem dX6_tell_14 : decode cX6_tell 14 = .ok (.iconst (-1), 1) := by decide +kernel
theorem dX6_tell_15 : decode cX6_tell 15 = .ok (.ireturn, 1) := by decide +kernel
theorem dX6_tell_16 : decode cX6_tell 16 = .ok (.aload_n 0, 1) := by decide +kernel
theorem dX6_tell_17 : decode cX6_tell 17 = .ok (.getfield 48, 3) := by decide +kernel
theorem dX6_tell_20 : decode cX6_tell 20 = .ok (.getfield 94, 3) := by decide +kernel
theorem dX6_tell_23 : decode cX6_tell 23 = .ok (.iload_n 1, 1) := by decide +kernel
theorem dX6_tell_24 : decode cX6_tell 24 = .ok (.iaload, 1) := by decide +kernel
theorem dX6_tell_25 : decode cX6_tell 25 = .ok (.lookupswitch 39 #[(1, 33), (2, 27)], 27) := by decide +kernel
theorem dX6_tell_52 : decode cX6_tell 52 = .ok (.aload_n 0, 1) := by decide +kernel
theorem dX6_tell_53 : decode cX6_tell 53 = .ok (.iload_n 1, 1) := by decide +kernel
theorem dX6_tell_54 : decode cX6_tell 54 = .ok (.invokevirtual 246, 3) := by decide +kernel
theorem dX6_tell_57 : decode cX6_tell 57 = .ok (.ireturn, 1) := by decide +kernel
theorem dX6_tell_58 : decode cX6_tell 58 = .ok (.aload_n 0, 1) := by decide +kernel
theorem dX6_tell_59 : decode cX6_tell 59 = .ok (.iload_n 1, 1) := by decide +kernel
theorem dX6_tell_60 : decode cX6_tell 60 = .ok (.invokevirtual 249, 3) := by decide +kernel
theorem dX6_tell_63 : decode cX6_tell 63 = .ok (.ireturn, 1) := by decide +kernel
theorem dX6_tell_64 : decode cX6_tell 64 = .ok (.aload_n 0, 1) := by decide +kernel
theorem dX6_tell_65 : decode cX6_tell 65 = .ok (.iload_n 1, 1) := by decide +kernel
theorem dX6_tell_66 : decode cX6_tell 66 = .ok (.invokevirtual 252, 3) := by decide +kernel
theorem dX6_tell_69 : decode cX6_tell 69 = .ok (.ireturn, 1) := by decide +kernel
theorem dX6_guestTells_0 : decode cX6_guestTells 0 = .ok (.aload_n 0, 1) := by decide +kernel
theorem dX6_guestTells_1 : decode cX6_guestTells 1 = .ok (.iconst 1, 1) := by decide +kernel
theorem dX6_guestTells_2 : decode cX6_guestTells 2 = .ok (.invokevirtual 255, 3) := by decide +kernel
theorem dX6_guestTells_5 : decode cX6_guestTells 5 = .ok (.aload_n 0, 1) := by decide +kernel
theorem dX6_guestTells_6 : decode cX6_guestTells 6 = .ok (.getfield 48, 3) := by decide +kernel
theorem dX6_guestTells_9 : decode cX6_guestTells 9 = .ok (.getfield 97, 3) := by decide +kernel
theorem dX6_guestTells_12 : decode cX6_guestTells 12 = .ok (.iload_n 1, 1) := by decide +kernel
theorem dX6_guestTells_13 : decode cX6_guestTells 13 = .ok (.iaload, 1) := by decide +kernel
theorem dX6_guestTells_14 : decode cX6_guestTells 14 = .ok (.ireturn, 1) := by decide +kernel
theorem dX6_auntTells_0 : decode cX6_auntTells 0 = .ok (.aload_n 0, 1) := by decide +kernel
theorem dX6_auntTells_1 : decode cX6_auntTells 1 = .ok (.iconst 2, 1) := by decide +kernel
theorem dX6_auntTells_2 : decode cX6_auntTells 2 = .ok (.invokevirtual 255, 3) := by decide +kernel
theorem dX6_auntTells_5 : decode cX6_auntTells 5 = .ok (.aload_n 0, 1) := by decide +kernel
theorem dX6_auntTells_6 : decode cX6_auntTells 6 = .ok (.iload_n 1, 1) := by decide +kernel
theorem dX6_auntTells_7 : decode cX6_auntTells 7 = .ok (.invokevirtual 252, 3) := by decide +kernel
theorem dX6_auntTells_10 : decode cX6_auntTells 10 = .ok (.bipush 100, 2) := by decide +kernel
theorem dX6_auntTells_12 : decode cX6_auntTells 12 = .ok (.iadd, 1) := by decide +kernel
theorem dX6_auntTells_13 : decode cX6_auntTells 13 = .ok (.ireturn, 1) := by decide +kernel
theorem dX6_childTells_0 : decode cX6_childTells 0 = .ok (.aload_n 0, 1) := by decide +kernel
theorem dX6_childTells_1 : decode cX6_childTells 1 = .ok (.iconst 3, 1) := by decide +kernel
theorem dX6_childTells_2 : decode cX6_childTells 2 = .ok (.invokevirtual 255, 3) := by decide +kernel
theorem dX6_childTells_5 : decode cX6_childTells 5 = .ok (.aload_n 0, 1) := by decide +kernel
theorem dX6_childTells_6 : decode cX6_childTells 6 = .ok (.iload_n 1, 1) := by decide +kernel
theorem dX6_childTells_7 : decode cX6_childTells 7 = .ok (.invokevirtual 249, 3) := by decide +kernel
theorem dX6_childTells_10 : decode cX6_childTells 10 = .ok (.aload_n 0, 1) := by decide +kernel
theorem dX6_childTells_11 : decode cX6_childTells 11 = .ok (.iload_n 1, 1) := by decide +kernel
theorem dX6_childTells_12 : decode cX6_childTells 12 = .ok (.invokevirtual 252, 3) := by decide +kernel
theorem dX6_childTells_15 : decode cX6_childTells 15 = .ok (.iadd, 1) := by decide +kernel
theorem dX6_childTells_16 : decode cX6_childTells 16 = .ok (.ireturn, 1) := by decide +kernel
theorem dX6_toast_0 : decode cX6_toast 0 = .ok (.iload_n 1, 1) := by decide +kernel
theorem dX6_toast_1 : decode cX6_toast 1 = .ok (.aload_n 0, 1) := by decide +kernel
theorem dX6_toast_2 : decode cX6_toast 2 = .ok (.getfield 48, 3) := by decide +kernel
theorem dX6_toast_5 : decode cX6_toast 5 = .ok (.getfield 91, 3) := by decide +kernel
theorem dX6_toast_8 : decode cX6_toast 8 = .ok (.invokestatic 64, 3) := by decide +kernel
theorem dX6_toast_11 : decode cX6_toast 11 = .ok (.ifCond .ne 5, 3) := by decide +kernel
theorem dX6_toast_14 : decode cX6_toast 14 = .ok (.iconst (-1), 1) := by decide +kernel
theorem dX6_toast_15 : decode cX6_toast 15 = .ok (.ireturn, 1) := by decide +kernel
theorem dX6_toast_16 : decode cX6_toast 16 = .ok (.aload_n 0, 1) := by decide +kernel
theorem dX6_toast_17 : decode cX6_toast 17 = .ok (.getfield 48, 3) := by decide +kernel
theorem dX6_toast_20 : decode cX6_toast 20 = .ok (.getfield 94, 3) := by decide +kernel
theorem dX6_toast_23 : decode cX6_toast 23 = .ok (.iload_n 1, 1) := by decide +kernel
theorem dX6_toast_24 : decode cX6_toast 24 = .ok (.iaload, 1) := by decide +kernel
theorem dX6_toast_25 : decode cX6_toast 25 = .ok (.iconst 2, 1) := by decide +kernel
theorem dX6_toast_26 : decode cX6_toast 26 = .ok (.if_icmp .ne 11, 3) := by decide +kernel
theorem dX6_toast_29 : decode cX6_toast 29 = .ok (.aload_n 0, 1) := by decide +kernel
theorem dX6_toast_30 : decode cX6_toast 30 = .ok (.iconst 5, 1) := by decide +kernel
theorem dX6_toast_31 : decode cX6_toast 31 = .ok (.invokevirtual 255, 3) := by decide +kernel
theorem dX6_toast_34 : decode cX6_toast 34 = .ok (.bipush 20, 2) := by decide +kernel
theorem dX6_toast_36 : decode cX6_toast 36 = .ok (.ireturn, 1) := by decide +kernel
theorem dX6_toast_37 : decode cX6_toast 37 = .ok (.aload_n 0, 1) := by decide +kernel
theorem dX6_toast_38 : decode cX6_toast 38 = .ok (.iconst 4, 1) := by decide +kernel
theorem dX6_toast_39 : decode cX6_toast 39 = .ok (.invokevirtual 255, 3) := by decide +kernel
theorem dX6_toast_42 : decode cX6_toast 42 = .ok (.iload_n 1, 1) := by decide +kernel
theorem dX6_toast_43 : decode cX6_toast 43 = .ok (.ireturn, 1) := by decide +kernel
theorem dX6_leave_0 : decode cX6_leave 0 = .ok (.aload_n 0, 1) := by decide +kernel
theorem dX6_leave_1 : decode cX6_leave 1 = .ok (.bipush 31, 2) := by decide +kernel
theorem dX6_leave_3 : decode cX6_leave 3 = .ok (.aload_n 0, 1) := by decide +kernel
theorem dX6_leave_4 : decode cX6_leave 4 = .ok (.getfield 259, 3) := by decide +kernel
theorem dX6_leave_7 : decode cX6_leave 7 = .ok (.imul, 1) := by decide +kernel
theorem dX6_leave_8 : decode cX6_leave 8 = .ok (.iload_n 1, 1) := by decide +kernel
theorem dX6_leave_9 : decode cX6_leave 9 = .ok (.iadd, 1) := by decide +kernel
theorem dX6_leave_10 : decode cX6_leave 10 = .ok (.putfield 259, 3) := by decide +kernel
theorem dX6_leave_13 : decode cX6_leave 13 = .ok (.return_, 1) := by decide +kernel
theorem dX6_as_0 : decode cX6_as 0 = .ok (.aload_n 0, 1) := by decide +kernel
theorem dX6_as_1 : decode cX6_as 1 = .ok (.iconst 0, 1) := by decide +kernel
theorem dX6_as_2 : decode cX6_as 2 = .ok (.putfield 56, 3) := by decide +kernel
theorem dX6_as_5 : decode cX6_as 5 = .ok (.iload_n 1, 1) := by decide +kernel
theorem dX6_as_6 : decode cX6_as 6 = .ok (.aload_n 0, 1) := by decide +kernel
theorem dX6_as_7 : decode cX6_as 7 = .ok (.getfield 48, 3) := by decide +kernel
theorem dX6_as_10 : decode cX6_as 10 = .ok (.getfield 91, 3) := by decide +kernel
theorem dX6_as_13 : decode cX6_as 13 = .ok (.invokestatic 64, 3) := by decide +kernel
theorem dX6_as_16 : decode cX6_as 16 = .ok (.ifCond .ne 5, 3) := by decide +kernel
theorem dX6_as_19 : decode cX6_as 19 = .ok (.iconst (-1), 1) := by decide +kernel
theorem dX6_as_20 : decode cX6_as 20 = .ok (.ireturn, 1) := by decide +kernel
theorem dX6_as_21 : decode cX6_as 21 = .ok (.iload_n 2, 1) := by decide +kernel
theorem dX6_as_22 : decode cX6_as 22 = .ok (.iconst 3, 1) := by decide +kernel
theorem dX6_as_23 : decode cX6_as 23 = .ok (.invokestatic 64, 3) := by decide +kernel
theorem dX6_as_26 : decode cX6_as 26 = .ok (.ifCond .ne 6, 3) := by decide +kernel
theorem dX6_as_29 : decode cX6_as 29 = .ok (.bipush (-2), 2) := by decide +kernel
theorem dX6_as_31 : decode cX6_as 31 = .ok (.ireturn, 1) := by decide +kernel
theorem dX6_as_32 : decode cX6_as 32 = .ok (.aload_n 0, 1) := by decide +kernel
theorem dX6_as_33 : decode cX6_as 33 = .ok (.getfield 48, 3) := by decide +kernel
theorem dX6_as_36 : decode cX6_as 36 = .ok (.getfield 94, 3) := by decide +kernel
theorem dX6_as_39 : decode cX6_as 39 = .ok (.iload_n 1, 1) := by decide +kernel
theorem dX6_as_40 : decode cX6_as 40 = .ok (.iaload, 1) := by decide +kernel
theorem dX6_as_41 : decode cX6_as 41 = .ok (.iload_n 2, 1) := by decide +kernel
theorem dX6_as_42 : decode cX6_as 42 = .ok (.if_icmp .lt 7, 3) := by decide +kernel
theorem dX6_as_45 : decode cX6_as 45 = .ok (.iconst 1, 1) := by decide +kernel
theorem dX6_as_46 : decode cX6_as 46 = .ok (.goto 8, 3) := by decide +kernel
theorem dX6_as_49 : decode cX6_as 49 = .ok (.aload_n 0, 1) := by decide +kernel
theorem dX6_as_50 : decode cX6_as 50 = .ok (.iconst 2, 1) := by decide +kernel
theorem dX6_as_51 : decode cX6_as 51 = .ok (.invokevirtual 72, 3) := by decide +kernel
theorem dX6_as_54 : decode cX6_as 54 = .ok (.ireturn, 1) := by decide +kernel
theorem dX6_trace_0 : decode cX6_trace 0 = .ok (.aload_n 0, 1) := by decide +kernel
theorem dX6_trace_1 : decode cX6_trace 1 = .ok (.getfield 259, 3) := by decide +kernel
theorem dX6_trace_4 : decode cX6_trace 4 = .ok (.ireturn, 1) := by decide +kernel
theorem dX6_fault_0 : decode cX6_fault 0 = .ok (.aload_n 0, 1) := by decide +kernel
theorem dX6_fault_1 : decode cX6_fault 1 = .ok (.getfield 56, 3) := by decide +kernel
theorem dX6_fault_4 : decode cX6_fault 4 = .ok (.ireturn, 1) := by decide +kernel
theorem dX6_many_0 : decode cX6_many 0 = .ok (.iload_n 1, 1) := by decide +kernel
theorem dX6_many_1 : decode cX6_many 1 = .ok (.tableswitch 93 0 5 #[39, 47, 55, 63, 74, 85], 39) := by decide +kernel
theorem dX6_many_40 : decode cX6_many 40 = .ok (.aload_n 0, 1) := by decide +kernel
theorem dX6_many_41 : decode cX6_many 41 = .ok (.getfield 48, 3) := by decide +kernel
theorem dX6_many_44 : decode cX6_many 44 = .ok (.getfield 91, 3) := by decide +kernel
theorem dX6_many_47 : decode cX6_many 47 = .ok (.ireturn, 1) := by decide +kernel
theorem dX6_many_48 : decode cX6_many 48 = .ok (.aload_n 0, 1) := by decide +kernel
theorem dX6_many_49 : decode cX6_many 49 = .ok (.getfield 48, 3) := by decide +kernel
theorem dX6_many_52 : decode cX6_many 52 = .ok (.getfield 106, 3) := by decide +kernel
theorem dX6_many_55 : decode cX6_many 55 = .ok (.ireturn, 1) := by decide +kernel
theorem dX6_many_56 : decode cX6_many 56 = .ok (.aload_n 0, 1) := by decide +kernel
theorem dX6_many_57 : decode cX6_many 57 = .ok (.getfield 48, 3) := by decide +kernel
theorem dX6_many_60 : decode cX6_many 60 = .ok (.getfield 132, 3) := by decide +kernel
theorem dX6_many_63 : decode cX6_many 63 = .ok (.ireturn, 1) := by decide +kernel
theorem dX6_many_64 : decode cX6_many 64 = .ok (.aload_n 0, 1) := by decide +kernel
theorem dX6_many_65 : decode cX6_many 65 = .ok (.getfield 48, 3) := by decide +kernel
theorem dX6_many_68 : decode cX6_many 68 = .ok (.getfield 115, 3) := by decide +kernel
theorem dX6_many_71 : decode cX6_many 71 = .ok (.invokestatic 161, 3) := by decide +kernel
theorem dX6_many_74 : decode cX6_many 74 = .ok (.ireturn, 1) := by decide +kernel
theorem dX6_many_75 : decode cX6_many 75 = .ok (.aload_n 0, 1) := by decide +kernel
theorem dX6_many_76 : decode cX6_many 76 = .ok (.getfield 48, 3) := by decide +kernel
theorem dX6_many_79 : decode cX6_many 79 = .ok (.getfield 115, 3) := by decide +kernel
theorem dX6_many_82 : decode cX6_many 82 = .ok (.invokestatic 164, 3) := by decide +kernel
theorem dX6_many_85 : decode cX6_many 85 = .ok (.ireturn, 1) := by decide +kernel
theorem dX6_many_86 : decode cX6_many 86 = .ok (.aload_n 0, 1) := by decide +kernel
theorem dX6_many_87 : decode cX6_many 87 = .ok (.getfield 48, 3) := by decide +kernel
theorem dX6_many_90 : decode cX6_many 90 = .ok (.getfield 204, 3) := by decide +kernel
theorem dX6_many_93 : decode cX6_many 93 = .ok (.ireturn, 1) := by decide +kernel
theorem dX6_many_94 : decode cX6_many 94 = .ok (.bipush (-2), 2) := by decide +kernel
theorem dX6_many_96 : decode cX6_many 96 = .ok (.ireturn, 1) := by decide +kernel
theorem dX6_broken_0 : decode cX6_broken 0 = .ok (.aload_n 0, 1) := by decide +kernel
theorem dX6_broken_1 : decode cX6_broken 1 = .ok (.iload_n 1, 1) := by decide +kernel
theorem dX6_broken_2 : decode cX6_broken 2 = .ok (.putfield 56, 3) := by decide +kernel
theorem dX6_broken_5 : decode cX6_broken 5 = .ok (.bipush (-10), 2) := by decide +kernel
theorem dX6_broken_7 : decode cX6_broken 7 = .ok (.iload_n 1, 1) := by decide +kernel
theorem dX6_broken_8 : decode cX6_broken 8 = .ok (.isub, 1) := by decide +kernel
theorem dX6_broken_9 : decode cX6_broken 9 = .ok (.ireturn, 1) := by decide +kernel
theorem dX6_isSheet_0 : decode cX6_isSheet 0 = .ok (.iload_n 0, 1) := by decide +kernel
theorem dX6_isSheet_1 : decode cX6_isSheet 1 = .ok (.iconst 4, 1) := by decide +kernel
theorem dX6_isSheet_2 : decode cX6_isSheet 2 = .ok (.invokestatic 64, 3) := by decide +kernel
theorem dX6_isSheet_5 : decode cX6_isSheet 5 = .ok (.ireturn, 1) := by decide +kernel
theorem dX6_isBelow_0 : decode cX6_isBelow 0 = .ok (.iload_n 0, 1) := by decide +kernel
theorem dX6_isBelow_1 : decode cX6_isBelow 1 = .ok (.ifCond .lt 12, 3) := by decide +kernel
theorem dX6_isBelow_4 : decode cX6_isBelow 4 = .ok (.iload_n 0, 1) := by decide +kernel
theorem dX6_isBelow_5 : decode cX6_isBelow 5 = .ok (.iload_n 1, 1) := by decide +kernel
theorem dX6_isBelow_6 : decode cX6_isBelow 6 = .ok (.if_icmp .ge 7, 3) := by decide +kernel
theorem dX6_isBelow_9 : decode cX6_isBelow 9 = .ok (.iconst 1, 1) := by decide +kernel
theorem dX6_isBelow_10 : decode cX6_isBelow 10 = .ok (.goto 4, 3) := by decide +kernel
theorem dX6_isBelow_13 : decode cX6_isBelow 13 = .ok (.iconst 0, 1) := by decide +kernel
theorem dX6_isBelow_14 : decode cX6_isBelow 14 = .ok (.ireturn, 1) := by decide +kernel
theorem dX6_borderOf_0 : decode cX6_borderOf 0 = .ok (.iload_n 0, 1) := by decide +kernel
theorem dX6_borderOf_1 : decode cX6_borderOf 1 = .ok (.bipush 8, 2) := by decide +kernel
theorem dX6_borderOf_3 : decode cX6_borderOf 3 = .ok (.imul, 1) := by decide +kernel
theorem dX6_borderOf_4 : decode cX6_borderOf 4 = .ok (.iload_n 1, 1) := by decide +kernel
theorem dX6_borderOf_5 : decode cX6_borderOf 5 = .ok (.iadd, 1) := by decide +kernel
theorem dX6_borderOf_6 : decode cX6_borderOf 6 = .ok (.ireturn, 1) := by decide +kernel
theorem dX6_saltOf_0 : decode cX6_saltOf 0 = .ok (.iload_n 0, 1) := by decide +kernel
theorem dX6_saltOf_1 : decode cX6_saltOf 1 = .ok (.bipush 8, 2) := by decide +kernel
theorem dX6_saltOf_3 : decode cX6_saltOf 3 = .ok (.idiv, 1) := by decide +kernel
theorem dX6_saltOf_4 : decode cX6_saltOf 4 = .ok (.ireturn, 1) := by decide +kernel
theorem dX6_pepperOf_0 : decode cX6_pepperOf 0 = .ok (.iload_n 0, 1) := by decide +kernel
theorem dX6_pepperOf_1 : decode cX6_pepperOf 1 = .ok (.bipush 8, 2) := by decide +kernel
theorem dX6_pepperOf_3 : decode cX6_pepperOf 3 = .ok (.irem, 1) := by decide +kernel
theorem dX6_pepperOf_4 : decode cX6_pepperOf 4 = .ok (.ireturn, 1) := by decide +kernel
theorem dX6_standsAt_0 : decode cX6_standsAt 0 = .ok (.iload_n 1, 1) := by decide +kernel
theorem dX6_standsAt_1 : decode cX6_standsAt 1 = .ok (.iconst 2, 1) := by decide +kernel
theorem dX6_standsAt_2 : decode cX6_standsAt 2 = .ok (.if_icmp .ge 10, 3) := by decide +kernel
theorem dX6_standsAt_5 : decode cX6_standsAt 5 = .ok (.iload_n 0, 1) := by decide +kernel
theorem dX6_standsAt_6 : decode cX6_standsAt 6 = .ok (.invokestatic 161, 3) := by decide +kernel
theorem dX6_standsAt_9 : decode cX6_standsAt 9 = .ok (.goto 7, 3) := by decide +kernel
theorem dX6_standsAt_12 : decode cX6_standsAt 12 = .ok (.iload_n 0, 1) := by decide +kernel
theorem dX6_standsAt_13 : decode cX6_standsAt 13 = .ok (.invokestatic 164, 3) := by decide +kernel
theorem dX6_standsAt_16 : decode cX6_standsAt 16 = .ok (.ireturn, 1) := by decide +kernel
theorem dJ6_bitCount_0f7a4_0 : decode cJ6_bitCount_0f7a4 0 = .ok (.iload_n 0, 1) := by decide +kernel
theorem dJ6_bitCount_0f7a4_1 : decode cJ6_bitCount_0f7a4 1 = .ok (.iload_n 0, 1) := by decide +kernel
theorem dJ6_bitCount_0f7a4_2 : decode cJ6_bitCount_0f7a4 2 = .ok (.iconst 1, 1) := by decide +kernel
theorem dJ6_bitCount_0f7a4_3 : decode cJ6_bitCount_0f7a4 3 = .ok (.iushr, 1) := by decide +kernel
theorem dJ6_bitCount_0f7a4_4 : decode cJ6_bitCount_0f7a4 4 = .ok (.ldc_w 265, 3) := by decide +kernel
theorem dJ6_bitCount_0f7a4_7 : decode cJ6_bitCount_0f7a4 7 = .ok (.iand, 1) := by decide +kernel
theorem dJ6_bitCount_0f7a4_8 : decode cJ6_bitCount_0f7a4 8 = .ok (.isub, 1) := by decide +kernel
theorem dJ6_bitCount_0f7a4_9 : decode cJ6_bitCount_0f7a4 9 = .ok (.istore_n 0, 1) := by decide +kernel
theorem dJ6_bitCount_0f7a4_10 : decode cJ6_bitCount_0f7a4 10 = .ok (.iload_n 0, 1) := by decide +kernel
theorem dJ6_bitCount_0f7a4_11 : decode cJ6_bitCount_0f7a4 11 = .ok (.ldc_w 266, 3) := by decide +kernel
theorem dJ6_bitCount_0f7a4_14 : decode cJ6_bitCount_0f7a4 14 = .ok (.iand, 1) := by decide +kernel
theorem dJ6_bitCount_0f7a4_15 : decode cJ6_bitCount_0f7a4 15 = .ok (.iload_n 0, 1) := by decide +kernel
theorem dJ6_bitCount_0f7a4_16 : decode cJ6_bitCount_0f7a4 16 = .ok (.iconst 2, 1) := by decide +kernel
theorem dJ6_bitCount_0f7a4_17 : decode cJ6_bitCount_0f7a4 17 = .ok (.iushr, 1) := by decide +kernel
theorem dJ6_bitCount_0f7a4_18 : decode cJ6_bitCount_0f7a4 18 = .ok (.ldc_w 266, 3) := by decide +kernel
theorem dJ6_bitCount_0f7a4_21 : decode cJ6_bitCount_0f7a4 21 = .ok (.iand, 1) := by decide +kernel
theorem dJ6_bitCount_0f7a4_22 : decode cJ6_bitCount_0f7a4 22 = .ok (.iadd, 1) := by decide +kernel
theorem dJ6_bitCount_0f7a4_23 : decode cJ6_bitCount_0f7a4 23 = .ok (.istore_n 0, 1) := by decide +kernel
theorem dJ6_bitCount_0f7a4_24 : decode cJ6_bitCount_0f7a4 24 = .ok (.iload_n 0, 1) := by decide +kernel
theorem dJ6_bitCount_0f7a4_25 : decode cJ6_bitCount_0f7a4 25 = .ok (.iload_n 0, 1) := by decide +kernel
theorem dJ6_bitCount_0f7a4_26 : decode cJ6_bitCount_0f7a4 26 = .ok (.iconst 4, 1) := by decide +kernel
theorem dJ6_bitCount_0f7a4_27 : decode cJ6_bitCount_0f7a4 27 = .ok (.iushr, 1) := by decide +kernel
theorem dJ6_bitCount_0f7a4_28 : decode cJ6_bitCount_0f7a4 28 = .ok (.iadd, 1) := by decide +kernel
theorem dJ6_bitCount_0f7a4_29 : decode cJ6_bitCount_0f7a4 29 = .ok (.ldc_w 267, 3) := by decide +kernel
theorem dJ6_bitCount_0f7a4_32 : decode cJ6_bitCount_0f7a4 32 = .ok (.iand, 1) := by decide +kernel
theorem dJ6_bitCount_0f7a4_33 : decode cJ6_bitCount_0f7a4 33 = .ok (.istore_n 0, 1) := by decide +kernel
theorem dJ6_bitCount_0f7a4_34 : decode cJ6_bitCount_0f7a4 34 = .ok (.iload_n 0, 1) := by decide +kernel
theorem dJ6_bitCount_0f7a4_35 : decode cJ6_bitCount_0f7a4 35 = .ok (.iload_n 0, 1) := by decide +kernel
theorem dJ6_bitCount_0f7a4_36 : decode cJ6_bitCount_0f7a4 36 = .ok (.bipush 8, 2) := by decide +kernel
theorem dJ6_bitCount_0f7a4_38 : decode cJ6_bitCount_0f7a4 38 = .ok (.iushr, 1) := by decide +kernel
theorem dJ6_bitCount_0f7a4_39 : decode cJ6_bitCount_0f7a4 39 = .ok (.iadd, 1) := by decide +kernel
theorem dJ6_bitCount_0f7a4_40 : decode cJ6_bitCount_0f7a4 40 = .ok (.istore_n 0, 1) := by decide +kernel
theorem dJ6_bitCount_0f7a4_41 : decode cJ6_bitCount_0f7a4 41 = .ok (.iload_n 0, 1) := by decide +kernel
theorem dJ6_bitCount_0f7a4_42 : decode cJ6_bitCount_0f7a4 42 = .ok (.iload_n 0, 1) := by decide +kernel
theorem dJ6_bitCount_0f7a4_43 : decode cJ6_bitCount_0f7a4 43 = .ok (.bipush 16, 2) := by decide +kernel
theorem dJ6_bitCount_0f7a4_45 : decode cJ6_bitCount_0f7a4 45 = .ok (.iushr, 1) := by decide +kernel
theorem dJ6_bitCount_0f7a4_46 : decode cJ6_bitCount_0f7a4 46 = .ok (.iadd, 1) := by decide +kernel
theorem dJ6_bitCount_0f7a4_47 : decode cJ6_bitCount_0f7a4 47 = .ok (.istore_n 0, 1) := by decide +kernel
theorem dJ6_bitCount_0f7a4_48 : decode cJ6_bitCount_0f7a4 48 = .ok (.iload_n 0, 1) := by decide +kernel
theorem dJ6_bitCount_0f7a4_49 : decode cJ6_bitCount_0f7a4 49 = .ok (.bipush 63, 2) := by decide +kernel
theorem dJ6_bitCount_0f7a4_51 : decode cJ6_bitCount_0f7a4 51 = .ok (.iand, 1) := by decide +kernel
theorem dJ6_bitCount_0f7a4_52 : decode cJ6_bitCount_0f7a4 52 = .ok (.ireturn, 1) := by decide +kernel
theorem dJ9_max_7cf53_0 : decode cJ9_max_7cf53 0 = .ok (.iload_n 0, 1) := by decide +kernel
theorem dJ9_max_7cf53_1 : decode cJ9_max_7cf53 1 = .ok (.iload_n 1, 1) := by decide +kernel
theorem dJ9_max_7cf53_2 : decode cJ9_max_7cf53 2 = .ok (.if_icmp .lt 7, 3) := by decide +kernel
theorem dJ9_max_7cf53_5 : decode cJ9_max_7cf53 5 = .ok (.iload_n 0, 1) := by decide +kernel
theorem dJ9_max_7cf53_6 : decode cJ9_max_7cf53 6 = .ok (.goto 4, 3) := by decide +kernel
theorem dJ9_max_7cf53_9 : decode cJ9_max_7cf53 9 = .ok (.iload_n 1, 1) := by decide +kernel
theorem dJ9_max_7cf53_10 : decode cJ9_max_7cf53 10 = .ok (.ireturn, 1) := by decide +kernel
theorem dJ9_min_7cf53_0 : decode cJ9_min_7cf53 0 = .ok (.iload_n 0, 1) := by decide +kernel
theorem dJ9_min_7cf53_1 : decode cJ9_min_7cf53 1 = .ok (.iload_n 1, 1) := by decide +kernel
theorem dJ9_min_7cf53_2 : decode cJ9_min_7cf53 2 = .ok (.if_icmp .gt 7, 3) := by decide +kernel
theorem dJ9_min_7cf53_5 : decode cJ9_min_7cf53 5 = .ok (.iload_n 0, 1) := by decide +kernel
theorem dJ9_min_7cf53_6 : decode cJ9_min_7cf53 6 = .ok (.goto 4, 3) := by decide +kernel
theorem dJ9_min_7cf53_9 : decode cJ9_min_7cf53 9 = .ok (.iload_n 1, 1) := by decide +kernel
theorem dJ9_min_7cf53_10 : decode cJ9_min_7cf53 10 = .ok (.ireturn, 1) := by decide +kernel
theorem dJ7_fill_d0a16_0 : decode cJ7_fill_d0a16 0 = .ok (.iconst 0, 1) := by decide +kernel
theorem dJ7_fill_d0a16_1 : decode cJ7_fill_d0a16 1 = .ok (.istore_n 3, 1) := by decide +kernel
theorem dJ7_fill_d0a16_2 : decode cJ7_fill_d0a16 2 = .ok (.aload_n 0, 1) := by decide +kernel
theorem dJ7_fill_d0a16_3 : decode cJ7_fill_d0a16 3 = .ok (.arraylength, 1) := by decide +kernel
theorem dJ7_fill_d0a16_4 : decode cJ7_fill_d0a16 4 = .ok (.istore 4, 2) := by decide +kernel
theorem dJ7_fill_d0a16_6 : decode cJ7_fill_d0a16 6 = .ok (.iload_n 3, 1) := by decide +kernel
theorem dJ7_fill_d0a16_7 : decode cJ7_fill_d0a16 7 = .ok (.iload 4, 2) := by decide +kernel
theorem dJ7_fill_d0a16_9 : decode cJ7_fill_d0a16 9 = .ok (.if_icmp .ge 13, 3) := by decide +kernel
theorem dJ7_fill_d0a16_12 : decode cJ7_fill_d0a16 12 = .ok (.aload_n 0, 1) := by decide +kernel
theorem dJ7_fill_d0a16_13 : decode cJ7_fill_d0a16 13 = .ok (.iload_n 3, 1) := by decide +kernel
theorem dJ7_fill_d0a16_14 : decode cJ7_fill_d0a16 14 = .ok (.lload_n 1, 1) := by decide +kernel
theorem dJ7_fill_d0a16_15 : decode cJ7_fill_d0a16 15 = .ok (.lastore, 1) := by decide +kernel
theorem dJ7_fill_d0a16_16 : decode cJ7_fill_d0a16 16 = .ok (.iinc 3 1, 3) := by decide +kernel
theorem dJ7_fill_d0a16_19 : decode cJ7_fill_d0a16 19 = .ok (.goto (-13), 3) := by decide +kernel
theorem dJ7_fill_d0a16_22 : decode cJ7_fill_d0a16 22 = .ok (.return_, 1) := by decide +kernel
theorem dJ7_fill_53178_0 : decode cJ7_fill_53178 0 = .ok (.iconst 0, 1) := by decide +kernel
theorem dJ7_fill_53178_1 : decode cJ7_fill_53178 1 = .ok (.istore_n 2, 1) := by decide +kernel
theorem dJ7_fill_53178_2 : decode cJ7_fill_53178 2 = .ok (.aload_n 0, 1) := by decide +kernel
theorem dJ7_fill_53178_3 : decode cJ7_fill_53178 3 = .ok (.arraylength, 1) := by decide +kernel
theorem dJ7_fill_53178_4 : decode cJ7_fill_53178 4 = .ok (.istore_n 3, 1) := by decide +kernel
theorem dJ7_fill_53178_5 : decode cJ7_fill_53178 5 = .ok (.iload_n 2, 1) := by decide +kernel
theorem dJ7_fill_53178_6 : decode cJ7_fill_53178 6 = .ok (.iload_n 3, 1) := by decide +kernel
theorem dJ7_fill_53178_7 : decode cJ7_fill_53178 7 = .ok (.if_icmp .ge 13, 3) := by decide +kernel
theorem dJ7_fill_53178_10 : decode cJ7_fill_53178 10 = .ok (.aload_n 0, 1) := by decide +kernel
theorem dJ7_fill_53178_11 : decode cJ7_fill_53178 11 = .ok (.iload_n 2, 1) := by decide +kernel
theorem dJ7_fill_53178_12 : decode cJ7_fill_53178 12 = .ok (.iload_n 1, 1) := by decide +kernel
theorem dJ7_fill_53178_13 : decode cJ7_fill_53178 13 = .ok (.iastore, 1) := by decide +kernel
theorem dJ7_fill_53178_14 : decode cJ7_fill_53178 14 = .ok (.iinc 2 1, 3) := by decide +kernel
theorem dJ7_fill_53178_17 : decode cJ7_fill_53178 17 = .ok (.goto (-12), 3) := by decide +kernel
theorem dJ7_fill_53178_20 : decode cJ7_fill_53178 20 = .ok (.return_, 1) := by decide +kernel
