theorem dX6_runs_9 : decode cX6_runs 9 = .ok (.ifCond .eq 15, 3) := by decide +kernel
theorem dX6_runs_12 : decode cX6_runs 12 = .ok (.iload_n 2, 1) := by decide +kernel
theorem dX6_runs_13 : decode cX6_runs 13 = .ok (.i2l, 1) := by decide +kernel
theorem dX6_runs_14 : decode cX6_runs 14 = .ok (.lconst 0, 1) := by decide +kernel
theorem dX6_runs_15 : decode cX6_runs 15 = .ok (.ldc2_w 102, 3) := by decide +kernel
theorem dX6_runs_18 : decode cX6_runs 18 = .ok (.invokestatic 50, 3) := by decide +kernel
theorem dX6_runs_21 : decode cX6_runs 21 = .ok (.ifCond .ne 5, 3) := by decide +kernel
theorem dX6_runs_24 : decode cX6_runs 24 = .ok (.iconst (-1), 1) := by decide +kernel
theorem dX6_runs_25 : decode cX6_runs 25 = .ok (.ireturn, 1) := by decide +kernel
theorem dX6_runs_26 : decode cX6_runs 26 = .ok (.aload_n 0, 1) := by decide +kernel
theorem dX6_runs_27 : decode cX6_runs 27 = .ok (.iconst 0, 1) := by decide +kernel
theorem dX6_runs_28 : decode cX6_runs 28 = .ok (.iload_n 1, 1) := by decide +kernel
theorem dX6_runs_29 : decode cX6_runs 29 = .ok (.invokevirtual 179, 3) := by decide +kernel
theorem dX6_runs_32 : decode cX6_runs 32 = .ok (.istore_n 3, 1) := by decide +kernel
theorem dX6_runs_33 : decode cX6_runs 33 = .ok (.iload_n 2, 1) := by decide +kernel
theorem dX6_runs_34 : decode cX6_runs 34 = .ok (.tableswitch 47 0 3 #[30, 32, 37, 42], 30) := by decide +kernel
theorem dX6_runs_64 : decode cX6_runs 64 = .ok (.iload_n 3, 1) := by decide +kernel
theorem dX6_runs_65 : decode cX6_runs 65 = .ok (.ireturn, 1) := by decide +kernel
theorem dX6_runs_66 : decode cX6_runs 66 = .ok (.aload_n 0, 1) := by decide +kernel
theorem dX6_runs_67 : decode cX6_runs 67 = .ok (.getfield 165, 3) := by decide +kernel
theorem dX6_runs_70 : decode cX6_runs 70 = .ok (.ireturn, 1) := by decide +kernel
theorem dX6_runs_71 : decode cX6_runs 71 = .ok (.aload_n 0, 1) := by decide +kernel
theorem dX6_runs_72 : decode cX6_runs 72 = .ok (.getfield 168, 3) := by decide +kernel
theorem dX6_runs_75 : decode cX6_runs 75 = .ok (.ireturn, 1) := by decide +kernel
theorem dX6_runs_76 : decode cX6_runs 76 = .ok (.aload_n 0, 1) := by decide +kernel
theorem dX6_runs_77 : decode cX6_runs 77 = .ok (.getfield 171, 3) := by decide +kernel
theorem dX6_runs_80 : decode cX6_runs 80 = .ok (.ireturn, 1) := by decide +kernel
theorem dX6_runs_81 : decode cX6_runs 81 = .ok (.aload_n 0, 1) := by decide +kernel
theorem dX6_runs_82 : decode cX6_runs 82 = .ok (.bipush 92, 2) := by decide +kernel
theorem dX6_runs_84 : decode cX6_runs 84 = .ok (.bipush 10, 2) := by decide +kernel
theorem dX6_runs_86 : decode cX6_runs 86 = .ok (.invokevirtual 134, 3) := by decide +kernel
theorem dX6_runs_89 : decode cX6_runs 89 = .ok (.ireturn, 1) := by decide +kernel
theorem dX6_ahead_0 : decode cX6_ahead 0 = .ok (.aload_n 0, 1) := by decide +kernel
theorem dX6_ahead_1 : decode cX6_ahead 1 = .ok (.iload_n 1, 1) := by decide +kernel
theorem dX6_ahead_2 : decode cX6_ahead 2 = .ok (.invokevirtual 137, 3) := by decide +kernel
theorem dX6_ahead_5 : decode cX6_ahead 5 = .ok (.ifCond .eq 25, 3) := by decide +kernel
theorem dX6_ahead_8 : decode cX6_ahead 8 = .ok (.iload_n 2, 1) := by decide +kernel
theorem dX6_ahead_9 : decode cX6_ahead 9 = .ok (.i2l, 1) := by decide +kernel
theorem dX6_ahead_10 : decode cX6_ahead 10 = .ok (.lconst 0, 1) := by decide +kernel
theorem dX6_ahead_11 : decode cX6_ahead 11 = .ok (.ldc2_w 177, 3) := by decide +kernel
theorem dX6_ahead_14 : decode cX6_ahead 14 = .ok (.invokestatic 50, 3) := by decide +kernel
theorem dX6_ahead_17 : decode cX6_ahead 17 = .ok (.ifCond .eq 13, 3) := by decide +kernel
theorem dX6_ahead_20 : decode cX6_ahead 20 = .ok (.iload_n 3, 1) := by decide +kernel
theorem dX6_ahead_21 : decode cX6_ahead 21 = .ok (.i2l, 1) := by decide +kernel
theorem dX6_ahead_22 : decode cX6_ahead 22 = .ok (.lconst 0, 1) := by decide +kernel
theorem dX6_ahead_23 : decode cX6_ahead 23 = .ok (.lconst 1, 1) := by decide +kernel
theorem dX6_ahead_24 : decode cX6_ahead 24 = .ok (.invokestatic 50, 3) := by decide +kernel
theorem dX6_ahead_27 : decode cX6_ahead 27 = .ok (.ifCond .ne 5, 3) := by decide +kernel
theorem dX6_ahead_30 : decode cX6_ahead 30 = .ok (.iconst (-1), 1) := by decide +kernel
theorem dX6_ahead_31 : decode cX6_ahead 31 = .ok (.ireturn, 1) := by decide +kernel
theorem dX6_ahead_32 : decode cX6_ahead 32 = .ok (.aload_n 0, 1) := by decide +kernel
theorem dX6_ahead_33 : decode cX6_ahead 33 = .ok (.iconst 0, 1) := by decide +kernel
theorem dX6_ahead_34 : decode cX6_ahead 34 = .ok (.iload_n 2, 1) := by decide +kernel
theorem dX6_ahead_35 : decode cX6_ahead 35 = .ok (.invokevirtual 179, 3) := by decide +kernel
theorem dX6_ahead_38 : decode cX6_ahead 38 = .ok (.pop, 1) := by decide +kernel
theorem dX6_ahead_39 : decode cX6_ahead 39 = .ok (.iload_n 3, 1) := by decide +kernel
theorem dX6_ahead_40 : decode cX6_ahead 40 = .ok (.ifCond .ne 15, 3) := by decide +kernel
theorem dX6_ahead_43 : decode cX6_ahead 43 = .ok (.aload_n 0, 1) := by decide +kernel
theorem dX6_ahead_44 : decode cX6_ahead 44 = .ok (.getfield 7, 3) := by decide +kernel
theorem dX6_ahead_47 : decode cX6_ahead 47 = .ok (.bipush 102, 2) := by decide +kernel
theorem dX6_ahead_49 : decode cX6_ahead 49 = .ok (.iload_n 1, 1) := by decide +kernel
theorem dX6_ahead_50 : decode cX6_ahead 50 = .ok (.iadd, 1) := by decide +kernel
theorem dX6_ahead_51 : decode cX6_ahead 51 = .ok (.iaload, 1) := by decide +kernel
theorem dX6_ahead_52 : decode cX6_ahead 52 = .ok (.goto 22, 3) := by decide +kernel
theorem dX6_ahead_55 : decode cX6_ahead 55 = .ok (.aload_n 0, 1) := by decide +kernel
theorem dX6_ahead_56 : decode cX6_ahead 56 = .ok (.getfield 7, 3) := by decide +kernel
theorem dX6_ahead_59 : decode cX6_ahead 59 = .ok (.bipush 107, 2) := by decide +kernel
theorem dX6_ahead_61 : decode cX6_ahead 61 = .ok (.iload_n 1, 1) := by decide +kernel
theorem dX6_ahead_62 : decode cX6_ahead 62 = .ok (.iadd, 1) := by decide +kernel
theorem dX6_ahead_63 : decode cX6_ahead 63 = .ok (.iaload, 1) := by decide +kernel
theorem dX6_ahead_64 : decode cX6_ahead 64 = .ok (.aload_n 0, 1) := by decide +kernel
theorem dX6_ahead_65 : decode cX6_ahead 65 = .ok (.getfield 7, 3) := by decide +kernel
theorem dX6_ahead_68 : decode cX6_ahead 68 = .ok (.bipush 15, 2) := by decide +kernel
theorem dX6_ahead_70 : decode cX6_ahead 70 = .ok (.iload_n 1, 1) := by decide +kernel
theorem dX6_ahead_71 : decode cX6_ahead 71 = .ok (.iadd, 1) := by decide +kernel
theorem dX6_ahead_72 : decode cX6_ahead 72 = .ok (.iaload, 1) := by decide +kernel
theorem dX6_ahead_73 : decode cX6_ahead 73 = .ok (.isub, 1) := by decide +kernel
theorem dX6_ahead_74 : decode cX6_ahead 74 = .ok (.ireturn, 1) := by decide +kernel
theorem dX6_beats_0 : decode cX6_beats 0 = .ok (.iload_n 1, 1) := by decide +kernel
theorem dX6_beats_1 : decode cX6_beats 1 = .ok (.i2l, 1) := by decide +kernel
theorem dX6_beats_2 : decode cX6_beats 2 = .ok (.lconst 0, 1) := by decide +kernel
theorem dX6_beats_3 : decode cX6_beats 3 = .ok (.ldc2_w 177, 3) := by decide +kernel
theorem dX6_beats_6 : decode cX6_beats 6 = .ok (.invokestatic 50, 3) := by decide +kernel
theorem dX6_beats_9 : decode cX6_beats 9 = .ok (.ifCond .ne 5, 3) := by decide +kernel
theorem dX6_beats_12 : decode cX6_beats 12 = .ok (.iconst (-1), 1) := by decide +kernel
theorem dX6_beats_13 : decode cX6_beats 13 = .ok (.ireturn, 1) := by decide +kernel
theorem dX6_beats_14 : decode cX6_beats 14 = .ok (.aload_n 0, 1) := by decide +kernel
theorem dX6_beats_15 : decode cX6_beats 15 = .ok (.iconst 0, 1) := by decide +kernel
theorem dX6_beats_16 : decode cX6_beats 16 = .ok (.iload_n 1, 1) := by decide +kernel
theorem dX6_beats_17 : decode cX6_beats 17 = .ok (.invokevirtual 179, 3) := by decide +kernel
theorem dX6_beats_20 : decode cX6_beats 20 = .ok (.pop, 1) := by decide +kernel
theorem dX6_beats_21 : decode cX6_beats 21 = .ok (.aload_n 0, 1) := by decide +kernel
theorem dX6_beats_22 : decode cX6_beats 22 = .ok (.bipush 92, 2) := by decide +kernel
theorem dX6_beats_24 : decode cX6_beats 24 = .ok (.invokevirtual 124, 3) := by decide +kernel
theorem dX6_beats_27 : decode cX6_beats 27 = .ok (.ireturn, 1) := by decide +kernel
theorem dX6_meetOn_0 : decode cX6_meetOn 0 = .ok (.aload_n 0, 1) := by decide +kernel
theorem dX6_meetOn_1 : decode cX6_meetOn 1 = .ok (.iload_n 1, 1) := by decide +kernel
theorem dX6_meetOn_2 : decode cX6_meetOn 2 = .ok (.bipush 92, 2) := by decide +kernel
theorem dX6_meetOn_4 : decode cX6_meetOn 4 = .ok (.invokevirtual 161, 3) := by decide +kernel
theorem dX6_meetOn_7 : decode cX6_meetOn 7 = .ok (.iconst 0, 1) := by decide +kernel
theorem dX6_meetOn_8 : decode cX6_meetOn 8 = .ok (.istore_n 2, 1) := by decide +kernel
theorem dX6_meetOn_9 : decode cX6_meetOn 9 = .ok (.iload_n 2, 1) := by decide +kernel
theorem dX6_meetOn_10 : decode cX6_meetOn 10 = .ok (.sipush 300, 3) := by decide +kernel
theorem dX6_meetOn_13 : decode cX6_meetOn 13 = .ok (.if_icmp .gt 33, 3) := by decide +kernel
theorem dX6_meetOn_16 : decode cX6_meetOn 16 = .ok (.aload_n 0, 1) := by decide +kernel
theorem dX6_meetOn_17 : decode cX6_meetOn 17 = .ok (.bipush 92, 2) := by decide +kernel
theorem dX6_meetOn_19 : decode cX6_meetOn 19 = .ok (.iconst 0, 1) := by decide +kernel
theorem dX6_meetOn_20 : decode cX6_meetOn 20 = .ok (.invokevirtual 157, 3) := by decide +kernel
theorem dX6_meetOn_23 : decode cX6_meetOn 23 = .ok (.istore_n 3, 1) := by decide +kernel
theorem dX6_meetOn_24 : decode cX6_meetOn 24 = .ok (.iload_n 3, 1) := by decide +kernel
theorem dX6_meetOn_25 : decode cX6_meetOn 25 = .ok (.ifCond .le 15, 3) := by decide +kernel
theorem dX6_meetOn_28 : decode cX6_meetOn 28 = .ok (.iload_n 3, 1) := by decide +kernel
theorem dX6_meetOn_29 : decode cX6_meetOn 29 = .ok (.aload_n 0, 1) := by decide +kernel
theorem dX6_meetOn_30 : decode cX6_meetOn 30 = .ok (.bipush 92, 2) := by decide +kernel
theorem dX6_meetOn_32 : decode cX6_meetOn 32 = .ok (.invokevirtual 174, 3) := by decide +kernel
theorem dX6_meetOn_35 : decode cX6_meetOn 35 = .ok (.if_icmp .ne 5, 3) := by decide +kernel
theorem dX6_meetOn_38 : decode cX6_meetOn 38 = .ok (.iload_n 2, 1) := by decide +kernel
theorem dX6_meetOn_39 : decode cX6_meetOn 39 = .ok (.ireturn, 1) := by decide +kernel
theorem dX6_meetOn_40 : decode cX6_meetOn 40 = .ok (.iinc 2 1, 3) := by decide +kernel
theorem dX6_meetOn_43 : decode cX6_meetOn 43 = .ok (.goto (-34), 3) := by decide +kernel
theorem dX6_meetOn_46 : decode cX6_meetOn 46 = .ok (.sipush 1000, 3) := by decide +kernel
theorem dX6_meetOn_49 : decode cX6_meetOn 49 = .ok (.ireturn, 1) := by decide +kernel
theorem dX6_together_0 : decode cX6_together 0 = .ok (.aload_n 0, 1) := by decide +kernel
theorem dX6_together_1 : decode cX6_together 1 = .ok (.iconst 0, 1) := by decide +kernel
theorem dX6_together_2 : decode cX6_together 2 = .ok (.invokevirtual 182, 3) := by decide +kernel
theorem dX6_together_5 : decode cX6_together 5 = .ok (.istore_n 1, 1) := by decide +kernel
theorem dX6_together_6 : decode cX6_together 6 = .ok (.iload_n 1, 1) := by decide +kernel
theorem dX6_together_7 : decode cX6_together 7 = .ok (.sipush 1000, 3) := by decide +kernel
theorem dX6_together_10 : decode cX6_together 10 = .ok (.if_icmp .ne 8, 3) := by decide +kernel
theorem dX6_together_13 : decode cX6_together 13 = .ok (.bipush (-4), 2) := by decide +kernel
theorem dX6_together_15 : decode cX6_together 15 = .ok (.goto 4, 3) := by decide +kernel
theorem dX6_together_18 : decode cX6_together 18 = .ok (.iload_n 1, 1) := by decide +kernel
theorem dX6_together_19 : decode cX6_together 19 = .ok (.ireturn, 1) := by decide +kernel
theorem dX6_again_0 : decode cX6_again 0 = .ok (.aload_n 0, 1) := by decide +kernel
theorem dX6_again_1 : decode cX6_again 1 = .ok (.iconst 0, 1) := by decide +kernel
theorem dX6_again_2 : decode cX6_again 2 = .ok (.bipush 92, 2) := by decide +kernel
theorem dX6_again_4 : decode cX6_again 4 = .ok (.invokevirtual 161, 3) := by decide +kernel
theorem dX6_again_7 : decode cX6_again 7 = .ok (.iconst 1, 1) := by decide +kernel
theorem dX6_again_8 : decode cX6_again 8 = .ok (.istore_n 1, 1) := by decide +kernel
theorem dX6_again_9 : decode cX6_again 9 = .ok (.iload_n 1, 1) := by decide +kernel
theorem dX6_again_10 : decode cX6_again 10 = .ok (.sipush 300, 3) := by decide +kernel
theorem dX6_again_13 : decode cX6_again 13 = .ok (.if_icmp .gt 75, 3) := by decide +kernel
theorem dX6_again_16 : decode cX6_again 16 = .ok (.aload_n 0, 1) := by decide +kernel
theorem dX6_again_17 : decode cX6_again 17 = .ok (.bipush 92, 2) := by decide +kernel
theorem dX6_again_19 : decode cX6_again 19 = .ok (.iconst 0, 1) := by decide +kernel
theorem dX6_again_20 : decode cX6_again 20 = .ok (.invokevirtual 157, 3) := by decide +kernel
theorem dX6_again_23 : decode cX6_again 23 = .ok (.pop, 1) := by decide +kernel
theorem dX6_again_24 : decode cX6_again 24 = .ok (.iconst 1, 1) := by decide +kernel
theorem dX6_again_25 : decode cX6_again 25 = .ok (.istore_n 2, 1) := by decide +kernel
theorem dX6_again_26 : decode cX6_again 26 = .ok (.iconst 0, 1) := by decide +kernel
theorem dX6_again_27 : decode cX6_again 27 = .ok (.istore_n 3, 1) := by decide +kernel
theorem dX6_again_28 : decode cX6_again 28 = .ok (.iload_n 3, 1) := by decide +kernel
theorem dX6_again_29 : decode cX6_again 29 = .ok (.aload_n 0, 1) := by decide +kernel
theorem dX6_again_30 : decode cX6_again 30 = .ok (.getfield 7, 3) := by decide +kernel
theorem dX6_again_33 : decode cX6_again 33 = .ok (.bipush 20, 2) := by decide +kernel
theorem dX6_again_35 : decode cX6_again 35 = .ok (.iaload, 1) := by decide +kernel
theorem dX6_again_36 : decode cX6_again 36 = .ok (.if_icmp .ge 40, 3) := by decide +kernel
theorem dX6_again_39 : decode cX6_again 39 = .ok (.iload_n 2, 1) := by decide +kernel
theorem dX6_again_40 : decode cX6_again 40 = .ok (.ifCond .eq 28, 3) := by decide +kernel
theorem dX6_again_43 : decode cX6_again 43 = .ok (.aload_n 0, 1) := by decide +kernel
theorem dX6_again_44 : decode cX6_again 44 = .ok (.getfield 7, 3) := by decide +kernel
theorem dX6_again_47 : decode cX6_again 47 = .ok (.bipush 102, 2) := by decide +kernel
theorem dX6_again_49 : decode cX6_again 49 = .ok (.iload_n 3, 1) := by decide +kernel
theorem dX6_again_50 : decode cX6_again 50 = .ok (.iadd, 1) := by decide +kernel
theorem dX6_again_51 : decode cX6_again 51 = .ok (.iaload, 1) := by decide +kernel
theorem dX6_again_52 : decode cX6_again 52 = .ok (.aload_n 0, 1) := by decide +kernel
theorem dX6_again_53 : decode cX6_again 53 = .ok (.getfield 7, 3) := by decide +kernel
theorem dX6_again_56 : decode cX6_again 56 = .ok (.bipush 10, 2) := by decide +kernel
theorem dX6_again_58 : decode cX6_again 58 = .ok (.iload_n 3, 1) := by decide +kernel
theorem dX6_again_59 : decode cX6_again 59 = .ok (.iadd, 1) := by decide +kernel
theorem dX6_again_60 : decode cX6_again 60 = .ok (.iaload, 1) := by decide +kernel
theorem dX6_again_61 : decode cX6_again 61 = .ok (.if_icmp .ne 7, 3) := by decide +kernel
theorem dX6_again_64 : decode cX6_again 64 = .ok (.iconst 1, 1) := by decide +kernel
theorem dX6_again_65 : decode cX6_again 65 = .ok (.goto 4, 3) := by decide +kernel
theorem dX6_again_68 : decode cX6_again 68 = .ok (.iconst 0, 1) := by decide +kernel
theorem dX6_again_69 : decode cX6_again 69 = .ok (.istore_n 2, 1) := by decide +kernel
theorem dX6_again_70 : decode cX6_again 70 = .ok (.iinc 3 1, 3) := by decide +kernel
theorem dX6_again_73 : decode cX6_again 73 = .ok (.goto (-45), 3) := by decide +kernel
theorem dX6_again_76 : decode cX6_again 76 = .ok (.iload_n 2, 1) := by decide +kernel
theorem dX6_again_77 : decode cX6_again 77 = .ok (.ifCond .eq 5, 3) := by decide +kernel
theorem dX6_again_80 : decode cX6_again 80 = .ok (.iload_n 1, 1) := by decide +kernel
theorem dX6_again_81 : decode cX6_again 81 = .ok (.ireturn, 1) := by decide +kernel
theorem dX6_again_82 : decode cX6_again 82 = .ok (.iinc 1 1, 3) := by decide +kernel
theorem dX6_again_85 : decode cX6_again 85 = .ok (.goto (-76), 3) := by decide +kernel
theorem dX6_again_88 : decode cX6_again 88 = .ok (.bipush (-4), 2) := by decide +kernel
theorem dX6_again_90 : decode cX6_again 90 = .ok (.ireturn, 1) := by decide +kernel
theorem dX6_soonestAt_0 : decode cX6_soonestAt 0 = .ok (.sipush 1000, 3) := by decide +kernel
theorem dX6_soonestAt_3 : decode cX6_soonestAt 3 = .ok (.istore 6, 2) := by decide +kernel
theorem dX6_soonestAt_5 : decode cX6_soonestAt 5 = .ok (.bipush (-4), 2) := by decide +kernel
theorem dX6_soonestAt_7 : decode cX6_soonestAt 7 = .ok (.istore 7, 2) := by decide +kernel
theorem dX6_soonestAt_9 : decode cX6_soonestAt 9 = .ok (.aload_n 0, 1) := by decide +kernel
theorem dX6_soonestAt_10 : decode cX6_soonestAt 10 = .ok (.iconst 0, 1) := by decide +kernel
theorem dX6_soonestAt_11 : decode cX6_soonestAt 11 = .ok (.bipush 115, 2) := by decide +kernel
theorem dX6_soonestAt_13 : decode cX6_soonestAt 13 = .ok (.invokevirtual 161, 3) := by decide +kernel
theorem dX6_soonestAt_16 : decode cX6_soonestAt 16 = .ok (.iload_n 2, 1) := by decide +kernel
theorem dX6_soonestAt_17 : decode cX6_soonestAt 17 = .ok (.istore 8, 2) := by decide +kernel
theorem dX6_soonestAt_19 : decode cX6_soonestAt 19 = .ok (.iload 8, 2) := by decide +kernel
theorem dX6_soonestAt_21 : decode cX6_soonestAt 21 = .ok (.iload_n 3, 1) := by decide +kernel
theorem dX6_soonestAt_22 : decode cX6_soonestAt 22 = .ok (.if_icmp .gt 63, 3) := by decide +kernel
theorem dX6_soonestAt_25 : decode cX6_soonestAt 25 = .ok (.aload_n 0, 1) := by decide +kernel
theorem dX6_soonestAt_26 : decode cX6_soonestAt 26 = .ok (.getfield 7, 3) := by decide +kernel
theorem dX6_soonestAt_29 : decode cX6_soonestAt 29 = .ok (.bipush 115, 2) := by decide +kernel
theorem dX6_soonestAt_31 : decode cX6_soonestAt 31 = .ok (.iload_n 1, 1) := by decide +kernel
theorem dX6_soonestAt_32 : decode cX6_soonestAt 32 = .ok (.iadd, 1) := by decide +kernel
theorem dX6_soonestAt_33 : decode cX6_soonestAt 33 = .ok (.iload 8, 2) := by decide +kernel
theorem dX6_soonestAt_35 : decode cX6_soonestAt 35 = .ok (.iload 4, 2) := by decide +kernel
theorem dX6_soonestAt_37 : decode cX6_soonestAt 37 = .ok (.isub, 1) := by decide +kernel
theorem dX6_soonestAt_38 : decode cX6_soonestAt 38 = .ok (.iastore, 1) := by decide +kernel
theorem dX6_soonestAt_39 : decode cX6_soonestAt 39 = .ok (.aload_n 0, 1) := by decide +kernel
theorem dX6_soonestAt_40 : decode cX6_soonestAt 40 = .ok (.bipush 115, 2) := by decide +kernel
theorem dX6_soonestAt_42 : decode cX6_soonestAt 42 = .ok (.invokevirtual 182, 3) := by decide +kernel
theorem dX6_soonestAt_45 : decode cX6_soonestAt 45 = .ok (.istore 9, 2) := by decide +kernel
theorem dX6_soonestAt_47 : decode cX6_soonestAt 47 = .ok (.iload 9, 2) := by decide +kernel
theorem dX6_soonestAt_49 : decode cX6_soonestAt 49 = .ok (.iload 6, 2) := by decide +kernel
theorem dX6_soonestAt_51 : decode cX6_soonestAt 51 = .ok (.if_icmp .ge 8, 3) := by decide +kernel
theorem dX6_soonestAt_54 : decode cX6_soonestAt 54 = .ok (.iload 8, 2) := by decide +kernel
theorem dX6_soonestAt_56 : decode cX6_soonestAt 56 = .ok (.goto 5, 3) := by decide +kernel
theorem dX6_soonestAt_59 : decode cX6_soonestAt 59 = .ok (.iload 7, 2) := by decide +kernel
theorem dX6_soonestAt_61 : decode cX6_soonestAt 61 = .ok (.istore 7, 2) := by decide +kernel
theorem dX6_soonestAt_63 : decode cX6_soonestAt 63 = .ok (.iload 9, 2) := by decide +kernel
theorem dX6_soonestAt_65 : decode cX6_soonestAt 65 = .ok (.iload 6, 2) := by decide +kernel
theorem dX6_soonestAt_67 : decode cX6_soonestAt 67 = .ok (.if_icmp .ge 8, 3) := by decide +kernel
theorem dX6_soonestAt_70 : decode cX6_soonestAt 70 = .ok (.iload 9, 2) := by decide +kernel
theorem dX6_soonestAt_72 : decode cX6_soonestAt 72 = .ok (.goto 5, 3) := by decide +kernel
theorem dX6_soonestAt_75 : decode cX6_soonestAt 75 = .ok (.iload 6, 2) := by decide +kernel
theorem dX6_soonestAt_77 : decode cX6_soonestAt 77 = .ok (.istore 6, 2) := by decide +kernel
theorem dX6_soonestAt_79 : decode cX6_soonestAt 79 = .ok (.iinc 8 1, 3) := by decide +kernel
theorem dX6_soonestAt_82 : decode cX6_soonestAt 82 = .ok (.goto (-63), 3) := by decide +kernel
theorem dX6_soonestAt_85 : decode cX6_soonestAt 85 = .ok (.iload 7, 2) := by decide +kernel
theorem dX6_soonestAt_87 : decode cX6_soonestAt 87 = .ok (.bipush (-4), 2) := by decide +kernel
theorem dX6_soonestAt_89 : decode cX6_soonestAt 89 = .ok (.if_icmp .eq 8, 3) := by decide +kernel
theorem dX6_soonestAt_92 : decode cX6_soonestAt 92 = .ok (.iload 5, 2) := by decide +kernel
theorem dX6_soonestAt_94 : decode cX6_soonestAt 94 = .ok (.ifCond .ne 8, 3) := by decide +kernel
theorem dX6_soonestAt_97 : decode cX6_soonestAt 97 = .ok (.iload 7, 2) := by decide +kernel
theorem dX6_soonestAt_99 : decode cX6_soonestAt 99 = .ok (.goto 5, 3) := by decide +kernel
theorem dX6_soonestAt_102 : decode cX6_soonestAt 102 = .ok (.iload 6, 2) := by decide +kernel
theorem dX6_soonestAt_104 : decode cX6_soonestAt 104 = .ok (.ireturn, 1) := by decide +kernel
theorem dX6_periodOn_0 : decode cX6_periodOn 0 = .ok (.aload_n 0, 1) := by decide +kernel
theorem dX6_periodOn_1 : decode cX6_periodOn 1 = .ok (.getfield 7, 3) := by decide +kernel
theorem dX6_periodOn_4 : decode cX6_periodOn 4 = .ok (.iload_n 1, 1) := by decide +kernel
theorem dX6_periodOn_5 : decode cX6_periodOn 5 = .ok (.iconst 5, 1) := by decide +kernel
theorem dX6_periodOn_6 : decode cX6_periodOn 6 = .ok (.iadd, 1) := by decide +kernel
theorem dX6_periodOn_7 : decode cX6_periodOn 7 = .ok (.iload_n 2, 1) := by decide +kernel
theorem dX6_periodOn_8 : decode cX6_periodOn 8 = .ok (.iadd, 1) := by decide +kernel
theorem dX6_periodOn_9 : decode cX6_periodOn 9 = .ok (.iload_n 3, 1) := by decide +kernel
theorem dX6_periodOn_10 : decode cX6_periodOn 10 = .ok (.iastore, 1) := by decide +kernel
theorem dX6_periodOn_11 : decode cX6_periodOn 11 = .ok (.aload_n 0, 1) := by decide +kernel
theorem dX6_periodOn_12 : decode cX6_periodOn 12 = .ok (.getfield 7, 3) := by decide +kernel
theorem dX6_periodOn_15 : decode cX6_periodOn 15 = .ok (.iload_n 1, 1) := by decide +kernel
theorem dX6_periodOn_16 : decode cX6_periodOn 16 = .ok (.bipush 10, 2) := by decide +kernel
theorem dX6_periodOn_18 : decode cX6_periodOn 18 = .ok (.iadd, 1) := by decide +kernel
theorem dX6_periodOn_19 : decode cX6_periodOn 19 = .ok (.iload_n 2, 1) := by decide +kernel
theorem dX6_periodOn_20 : decode cX6_periodOn 20 = .ok (.iadd, 1) := by decide +kernel
theorem dX6_periodOn_21 : decode cX6_periodOn 21 = .ok (.aload_n 0, 1) := by decide +kernel
theorem dX6_periodOn_22 : decode cX6_periodOn 22 = .ok (.getfield 7, 3) := by decide +kernel
theorem dX6_periodOn_25 : decode cX6_periodOn 25 = .ok (.iload_n 1, 1) := by decide +kernel
theorem dX6_periodOn_26 : decode cX6_periodOn 26 = .ok (.bipush 10, 2) := by decide +kernel
theorem dX6_periodOn_28 : decode cX6_periodOn 28 = .ok (.iadd, 1) := by decide +kernel
theorem dX6_periodOn_29 : decode cX6_periodOn 29 = .ok (.iload_n 2, 1) := by decide +kernel
theorem dX6_periodOn_30 : decode cX6_periodOn 30 = .ok (.iadd, 1) := by decide +kernel
theorem dX6_periodOn_31 : decode cX6_periodOn 31 = .ok (.iaload, 1) := by decide +kernel
theorem dX6_periodOn_32 : decode cX6_periodOn 32 = .ok (.iload_n 3, 1) := by decide +kernel
theorem dX6_periodOn_33 : decode cX6_periodOn 33 = .ok (.if_icmp .lt 9, 3) := by decide +kernel
theorem dX6_periodOn_36 : decode cX6_periodOn 36 = .ok (.iload_n 3, 1) := by decide +kernel
theorem dX6_periodOn_37 : decode cX6_periodOn 37 = .ok (.iconst 1, 1) := by decide +kernel
theorem dX6_periodOn_38 : decode cX6_periodOn 38 = .ok (.isub, 1) := by decide +kernel
theorem dX6_periodOn_39 : decode cX6_periodOn 39 = .ok (.goto 14, 3) := by decide +kernel
theorem dX6_periodOn_42 : decode cX6_periodOn 42 = .ok (.aload_n 0, 1) := by decide +kernel
theorem dX6_periodOn_43 : decode cX6_periodOn 43 = .ok (.getfield 7, 3) := by decide +kernel
theorem dX6_periodOn_46 : decode cX6_periodOn 46 = .ok (.iload_n 1, 1) := by decide +kernel
theorem dX6_periodOn_47 : decode cX6_periodOn 47 = .ok (.bipush 10, 2) := by decide +kernel
theorem dX6_periodOn_49 : decode cX6_periodOn 49 = .ok (.iadd, 1) := by decide +kernel
theorem dX6_periodOn_50 : decode cX6_periodOn 50 = .ok (.iload_n 2, 1) := by decide +kernel
theorem dX6_periodOn_51 : decode cX6_periodOn 51 = .ok (.iadd, 1) := by decide +kernel
theorem dX6_periodOn_52 : decode cX6_periodOn 52 = .ok (.iaload, 1) := by decide +kernel
theorem dX6_periodOn_53 : decode cX6_periodOn 53 = .ok (.iastore, 1) := by decide +kernel
theorem dX6_periodOn_54 : decode cX6_periodOn 54 = .ok (.return_, 1) := by decide +kernel
theorem dX6_period_0 : decode cX6_period 0 = .ok (.aload_n 0, 1) := by decide +kernel
theorem dX6_period_1 : decode cX6_period 1 = .ok (.iload_n 1, 1) := by decide +kernel
theorem dX6_period_2 : decode cX6_period 2 = .ok (.invokevirtual 137, 3) := by decide +kernel
theorem dX6_period_5 : decode cX6_period 5 = .ok (.ifCond .eq 13, 3) := by decide +kernel
theorem dX6_period_8 : decode cX6_period 8 = .ok (.iload_n 2, 1) := by decide +kernel
theorem dX6_period_9 : decode cX6_period 9 = .ok (.i2l, 1) := by decide +kernel
theorem dX6_period_10 : decode cX6_period 10 = .ok (.lconst 0, 1) := by decide +kernel
theorem dX6_period_11 : decode cX6_period 11 = .ok (.lconst 1, 1) := by decide +kernel
theorem dX6_period_12 : decode cX6_period 12 = .ok (.invokestatic 50, 3) := by decide +kernel
theorem dX6_period_15 : decode cX6_period 15 = .ok (.ifCond .ne 5, 3) := by decide +kernel
theorem dX6_period_18 : decode cX6_period 18 = .ok (.iconst (-1), 1) := by decide +kernel
theorem dX6_period_19 : decode cX6_period 19 = .ok (.ireturn, 1) := by decide +kernel
theorem dX6_period_20 : decode cX6_period 20 = .ok (.sipush 1000, 3) := by decide +kernel
theorem dX6_period_23 : decode cX6_period 23 = .ok (.istore_n 3, 1) := by decide +kernel
theorem dX6_period_24 : decode cX6_period 24 = .ok (.bipush (-4), 2) := by decide +kernel
theorem dX6_period_26 : decode cX6_period 26 = .ok (.istore 4, 2) := by decide +kernel
theorem dX6_period_28 : decode cX6_period 28 = .ok (.iconst 2, 1) := by decide +kernel
theorem dX6_period_29 : decode cX6_period 29 = .ok (.istore 5, 2) := by decide +kernel
theorem dX6_period_31 : decode cX6_period 31 = .ok (.iload 5, 2) := by decide +kernel
theorem dX6_period_33 : decode cX6_period 33 = .ok (.bipush 30, 2) := by decide +kernel
theorem dX6_period_35 : decode cX6_period 35 = .ok (.if_icmp .gt 61, 3) := by decide +kernel
theorem dX6_period_38 : decode cX6_period 38 = .ok (.aload_n 0, 1) := by decide +kernel
theorem dX6_period_39 : decode cX6_period 39 = .ok (.iconst 0, 1) := by decide +kernel
theorem dX6_period_40 : decode cX6_period 40 = .ok (.bipush 115, 2) := by decide +kernel
theorem dX6_period_42 : decode cX6_period 42 = .ok (.invokevirtual 161, 3) := by decide +kernel
theorem dX6_period_45 : decode cX6_period 45 = .ok (.aload_n 0, 1) := by decide +kernel
theorem dX6_period_46 : decode cX6_period 46 = .ok (.bipush 115, 2) := by decide +kernel
theorem dX6_period_48 : decode cX6_period 48 = .ok (.iload_n 1, 1) := by decide +kernel
theorem dX6_period_49 : decode cX6_period 49 = .ok (.iload 5, 2) := by decide +kernel
theorem dX6_period_51 : decode cX6_period 51 = .ok (.invokevirtual 185, 3) := by decide +kernel
theorem dX6_period_54 : decode cX6_period 54 = .ok (.aload_n 0, 1) := by decide +kernel
theorem dX6_period_55 : decode cX6_period 55 = .ok (.bipush 115, 2) := by decide +kernel
theorem dX6_period_57 : decode cX6_period 57 = .ok (.invokevirtual 182, 3) := by decide +kernel
theorem dX6_period_60 : decode cX6_period 60 = .ok (.istore 6, 2) := by decide +kernel
theorem dX6_period_62 : decode cX6_period 62 = .ok (.iload 6, 2) := by decide +kernel
theorem dX6_period_64 : decode cX6_period 64 = .ok (.iload_n 3, 1) := by decide +kernel
theorem dX6_period_65 : decode cX6_period 65 = .ok (.if_icmp .ge 8, 3) := by decide +kernel
theorem dX6_period_68 : decode cX6_period 68 = .ok (.iload 5, 2) := by decide +kernel
theorem dX6_period_70 : decode cX6_period 70 = .ok (.goto 5, 3) := by decide +kernel
theorem dX6_period_73 : decode cX6_period 73 = .ok (.iload 4, 2) := by decide +kernel
theorem dX6_period_75 : decode cX6_period 75 = .ok (.istore 4, 2) := by decide +kernel
theorem dX6_period_77 : decode cX6_period 77 = .ok (.iload 6, 2) := by decide +kernel
theorem dX6_period_79 : decode cX6_period 79 = .ok (.iload_n 3, 1) := by decide +kernel
theorem dX6_period_80 : decode cX6_period 80 = .ok (.if_icmp .ge 8, 3) := by decide +kernel
theorem dX6_period_83 : decode cX6_period 83 = .ok (.iload 6, 2) := by decide +kernel
theorem dX6_period_85 : decode cX6_period 85 = .ok (.goto 4, 3) := by decide +kernel
theorem dX6_period_88 : decode cX6_period 88 = .ok (.iload_n 3, 1) := by decide +kernel
theorem dX6_period_89 : decode cX6_period 89 = .ok (.istore_n 3, 1) := by decide +kernel
theorem dX6_period_90 : decode cX6_period 90 = .ok (.iinc 5 1, 3) := by decide +kernel
theorem dX6_period_93 : decode cX6_period 93 = .ok (.goto (-62), 3) := by decide +kernel
theorem dX6_period_96 : decode cX6_period 96 = .ok (.iload 4, 2) := by decide +kernel
theorem dX6_period_98 : decode cX6_period 98 = .ok (.bipush (-4), 2) := by decide +kernel
theorem dX6_period_100 : decode cX6_period 100 = .ok (.if_icmp .eq 7, 3) := by decide +kernel
theorem dX6_period_103 : decode cX6_period 103 = .ok (.iload_n 2, 1) := by decide +kernel
theorem dX6_period_104 : decode cX6_period 104 = .ok (.ifCond .ne 8, 3) := by decide +kernel
theorem dX6_period_107 : decode cX6_period 107 = .ok (.iload 4, 2) := by decide +kernel
theorem dX6_period_109 : decode cX6_period 109 = .ok (.goto 4, 3) := by decide +kernel
theorem dX6_period_112 : decode cX6_period 112 = .ok (.iload_n 3, 1) := by decide +kernel
theorem dX6_period_113 : decode cX6_period 113 = .ok (.ireturn, 1) := by decide +kernel
theorem dX6_hand_0 : decode cX6_hand 0 = .ok (.aload_n 0, 1) := by decide +kernel
theorem dX6_hand_1 : decode cX6_hand 1 = .ok (.iload_n 1, 1) := by decide +kernel
theorem dX6_hand_2 : decode cX6_hand 2 = .ok (.invokevirtual 137, 3) := by decide +kernel
theorem dX6_hand_5 : decode cX6_hand 5 = .ok (.ifCond .eq 37, 3) := by decide +kernel
theorem dX6_hand_8 : decode cX6_hand 8 = .ok (.iload_n 2, 1) := by decide +kernel
theorem dX6_hand_9 : decode cX6_hand 9 = .ok (.i2l, 1) := by decide +kernel
theorem dX6_hand_10 : decode cX6_hand 10 = .ok (.lconst 0, 1) := by decide +kernel
theorem dX6_hand_11 : decode cX6_hand 11 = .ok (.lconst 1, 1) := by decide +kernel
theorem dX6_hand_12 : decode cX6_hand 12 = .ok (.invokestatic 50, 3) := by decide +kernel
theorem dX6_hand_15 : decode cX6_hand 15 = .ok (.ifCond .eq 27, 3) := by decide +kernel
theorem dX6_hand_18 : decode cX6_hand 18 = .ok (.aload_n 0, 1) := by decide +kernel
theorem dX6_hand_19 : decode cX6_hand 19 = .ok (.bipush 10, 2) := by decide +kernel
theorem dX6_hand_21 : decode cX6_hand 21 = .ok (.iload_n 1, 1) := by decide +kernel
theorem dX6_hand_22 : decode cX6_hand 22 = .ok (.iadd, 1) := by decide +kernel
theorem dX6_hand_23 : decode cX6_hand 23 = .ok (.iconst 0, 1) := by decide +kernel
theorem dX6_hand_24 : decode cX6_hand 24 = .ok (.aload_n 0, 1) := by decide +kernel
theorem dX6_hand_25 : decode cX6_hand 25 = .ok (.getfield 7, 3) := by decide +kernel
theorem dX6_hand_28 : decode cX6_hand 28 = .ok (.iconst 5, 1) := by decide +kernel
theorem dX6_hand_29 : decode cX6_hand 29 = .ok (.iload_n 1, 1) := by decide +kernel
theorem dX6_hand_30 : decode cX6_hand 30 = .ok (.iadd, 1) := by decide +kernel
theorem dX6_hand_31 : decode cX6_hand 31 = .ok (.iaload, 1) := by decide +kernel
theorem dX6_hand_32 : decode cX6_hand 32 = .ok (.iconst 1, 1) := by decide +kernel
theorem dX6_hand_33 : decode cX6_hand 33 = .ok (.isub, 1) := by decide +kernel
theorem dX6_hand_34 : decode cX6_hand 34 = .ok (.iconst 0, 1) := by decide +kernel
theorem dX6_hand_35 : decode cX6_hand 35 = .ok (.iload_n 2, 1) := by decide +kernel
theorem dX6_hand_36 : decode cX6_hand 36 = .ok (.invokevirtual 188, 3) := by decide +kernel
theorem dX6_hand_39 : decode cX6_hand 39 = .ok (.goto 4, 3) := by decide +kernel
theorem dX6_hand_42 : decode cX6_hand 42 = .ok (.iconst (-1), 1) := by decide +kernel
theorem dX6_hand_43 : decode cX6_hand 43 = .ok (.ireturn, 1) := by decide +kernel
theorem dX6_kind_0 : decode cX6_kind 0 = .ok (.aload_n 0, 1) := by decide +kernel
theorem dX6_kind_1 : decode cX6_kind 1 = .ok (.iload_n 1, 1) := by decide +kernel
theorem dX6_kind_2 : decode cX6_kind 2 = .ok (.invokevirtual 137, 3) := by decide +kernel
theorem dX6_kind_5 : decode cX6_kind 5 = .ok (.ifCond .eq 25, 3) := by decide +kernel
theorem dX6_kind_8 : decode cX6_kind 8 = .ok (.iload_n 2, 1) := by decide +kernel
theorem dX6_kind_9 : decode cX6_kind 9 = .ok (.i2l, 1) := by decide +kernel
theorem dX6_kind_10 : decode cX6_kind 10 = .ok (.lconst 0, 1) := by decide +kernel
theorem dX6_kind_11 : decode cX6_kind 11 = .ok (.lconst 1, 1) := by decide +kernel
theorem dX6_kind_12 : decode cX6_kind 12 = .ok (.invokestatic 50, 3) := by decide +kernel
theorem dX6_kind_15 : decode cX6_kind 15 = .ok (.ifCond .eq 15, 3) := by decide +kernel
theorem dX6_kind_18 : decode cX6_kind 18 = .ok (.aload_n 0, 1) := by decide +kernel
theorem dX6_kind_19 : decode cX6_kind 19 = .ok (.iload_n 1, 1) := by decide +kernel
theorem dX6_kind_20 : decode cX6_kind 20 = .ok (.iconst 0, 1) := by decide +kernel
theorem dX6_kind_21 : decode cX6_kind 21 = .ok (.iconst 3, 1) := by decide +kernel
theorem dX6_kind_22 : decode cX6_kind 22 = .ok (.iconst 0, 1) := by decide +kernel
theorem dX6_kind_23 : decode cX6_kind 23 = .ok (.iload_n 2, 1) := by decide +kernel
theorem dX6_kind_24 : decode cX6_kind 24 = .ok (.invokevirtual 188, 3) := by decide +kernel
theorem dX6_kind_27 : decode cX6_kind 27 = .ok (.goto 4, 3) := by decide +kernel
theorem dX6_kind_30 : decode cX6_kind 30 = .ok (.iconst (-1), 1) := by decide +kernel
theorem dX6_kind_31 : decode cX6_kind 31 = .ok (.ireturn, 1) := by decide +kernel
theorem dX6_force_0 : decode cX6_force 0 = .ok (.iload_n 1, 1) := by decide +kernel
theorem dX6_force_1 : decode cX6_force 1 = .ok (.i2l, 1) := by decide +kernel
theorem dX6_force_2 : decode cX6_force 2 = .ok (.lconst 0, 1) := by decide +kernel
theorem dX6_force_3 : decode cX6_force 3 = .ok (.lconst 1, 1) := by decide +kernel
theorem dX6_force_4 : decode cX6_force 4 = .ok (.invokestatic 50, 3) := by decide +kernel
theorem dX6_force_7 : decode cX6_force 7 = .ok (.ifCond .eq 16, 3) := by decide +kernel
theorem dX6_force_10 : decode cX6_force 10 = .ok (.aload_n 0, 1) := by decide +kernel
theorem dX6_force_11 : decode cX6_force 11 = .ok (.bipush 21, 2) := by decide +kernel
theorem dX6_force_13 : decode cX6_force 13 = .ok (.iconst 0, 1) := by decide +kernel
theorem dX6_force_14 : decode cX6_force 14 = .ok (.iconst 5, 1) := by decide +kernel
theorem dX6_force_15 : decode cX6_force 15 = .ok (.iconst 1, 1) := by decide +kernel
theorem dX6_force_16 : decode cX6_force 16 = .ok (.iload_n 1, 1) := by decide +kernel
theorem dX6_force_17 : decode cX6_force 17 = .ok (.invokevirtual 188, 3) := by decide +kernel
theorem dX6_force_20 : decode cX6_force 20 = .ok (.goto 4, 3) := by decide +kernel
theorem dX6_force_23 : decode cX6_force 23 = .ok (.iconst (-1), 1) := by decide +kernel
theorem dX6_force_24 : decode cX6_force 24 = .ok (.ireturn, 1) := by decide +kernel
theorem dX6_away_0 : decode cX6_away 0 = .ok (.iload_n 1, 1) := by decide +kernel
theorem dX6_away_1 : decode cX6_away 1 = .ok (.i2l, 1) := by decide +kernel
theorem dX6_away_2 : decode cX6_away 2 = .ok (.lconst 0, 1) := by decide +kernel
theorem dX6_away_3 : decode cX6_away 3 = .ok (.lconst 1, 1) := by decide +kernel
theorem dX6_away_4 : decode cX6_away 4 = .ok (.invokestatic 50, 3) := by decide +kernel
theorem dX6_away_7 : decode cX6_away 7 = .ok (.ifCond .ne 5, 3) := by decide +kernel
theorem dX6_away_10 : decode cX6_away 10 = .ok (.iconst (-1), 1) := by decide +kernel
theorem dX6_away_11 : decode cX6_away 11 = .ok (.ireturn, 1) := by decide +kernel
theorem dX6_away_12 : decode cX6_away 12 = .ok (.aload_n 0, 1) := by decide +kernel
theorem dX6_away_13 : decode cX6_away 13 = .ok (.iconst 0, 1) := by decide +kernel
theorem dX6_away_14 : decode cX6_away 14 = .ok (.invokevirtual 182, 3) := by decide +kernel
theorem dX6_away_17 : decode cX6_away 17 = .ok (.istore_n 2, 1) := by decide +kernel
theorem dX6_away_18 : decode cX6_away 18 = .ok (.bipush (-4), 2) := by decide +kernel
theorem dX6_away_20 : decode cX6_away 20 = .ok (.istore_n 3, 1) := by decide +kernel
theorem dX6_away_21 : decode cX6_away 21 = .ok (.iconst 0, 1) := by decide +kernel
theorem dX6_away_22 : decode cX6_away 22 = .ok (.istore 4, 2) := by decide +kernel
theorem dX6_away_24 : decode cX6_away 24 = .ok (.iload 4, 2) := by decide +kernel
theorem dX6_away_26 : decode cX6_away 26 = .ok (.aload_n 0, 1) := by decide +kernel
theorem dX6_away_27 : decode cX6_away 27 = .ok (.getfield 7, 3) := by decide +kernel
theorem dX6_away_30 : decode cX6_away 30 = .ok (.bipush 20, 2) := by decide +kernel
theorem dX6_away_32 : decode cX6_away 32 = .ok (.iaload, 1) := by decide +kernel
theorem dX6_away_33 : decode cX6_away 33 = .ok (.if_icmp .ge 54, 3) := by decide +kernel
theorem dX6_away_36 : decode cX6_away 36 = .ok (.aload_n 0, 1) := by decide +kernel
theorem dX6_away_37 : decode cX6_away 37 = .ok (.iload 4, 2) := by decide +kernel
theorem dX6_away_39 : decode cX6_away 39 = .ok (.putfield 25, 3) := by decide +kernel
theorem dX6_away_42 : decode cX6_away 42 = .ok (.aload_n 0, 1) := by decide +kernel
theorem dX6_away_43 : decode cX6_away 43 = .ok (.iconst 0, 1) := by decide +kernel
theorem dX6_away_44 : decode cX6_away 44 = .ok (.invokevirtual 182, 3) := by decide +kernel
theorem dX6_away_47 : decode cX6_away 47 = .ok (.istore 5, 2) := by decide +kernel
theorem dX6_away_49 : decode cX6_away 49 = .ok (.aload_n 0, 1) := by decide +kernel
theorem dX6_away_50 : decode cX6_away 50 = .ok (.bipush (-4), 2) := by decide +kernel
theorem dX6_away_52 : decode cX6_away 52 = .ok (.putfield 25, 3) := by decide +kernel
theorem dX6_away_55 : decode cX6_away 55 = .ok (.iload 5, 2) := by decide +kernel
theorem dX6_away_57 : decode cX6_away 57 = .ok (.iload_n 2, 1) := by decide +kernel
theorem dX6_away_58 : decode cX6_away 58 = .ok (.if_icmp .ge 8, 3) := by decide +kernel
theorem dX6_away_61 : decode cX6_away 61 = .ok (.iload 4, 2) := by decide +kernel
theorem dX6_away_63 : decode cX6_away 63 = .ok (.goto 4, 3) := by decide +kernel
theorem dX6_away_66 : decode cX6_away 66 = .ok (.iload_n 3, 1) := by decide +kernel
theorem dX6_away_67 : decode cX6_away 67 = .ok (.istore_n 3, 1) := by decide +kernel
theorem dX6_away_68 : decode cX6_away 68 = .ok (.iload 5, 2) := by decide +kernel
theorem dX6_away_70 : decode cX6_away 70 = .ok (.iload_n 2, 1) := by decide +kernel
theorem dX6_away_71 : decode cX6_away 71 = .ok (.if_icmp .ge 8, 3) := by decide +kernel
theorem dX6_away_74 : decode cX6_away 74 = .ok (.iload 5, 2) := by decide +kernel
theorem dX6_away_76 : decode cX6_away 76 = .ok (.goto 4, 3) := by decide +kernel
theorem dX6_away_79 : decode cX6_away 79 = .ok (.iload_n 2, 1) := by decide +kernel
theorem dX6_away_80 : decode cX6_away 80 = .ok (.istore_n 2, 1) := by decide +kernel
theorem dX6_away_81 : decode cX6_away 81 = .ok (.iinc 4 1, 3) := by decide +kernel
theorem dX6_away_84 : decode cX6_away 84 = .ok (.goto (-60), 3) := by decide +kernel
theorem dX6_away_87 : decode cX6_away 87 = .ok (.iload_n 3, 1) := by decide +kernel
theorem dX6_away_88 : decode cX6_away 88 = .ok (.bipush (-4), 2) := by decide +kernel
theorem dX6_away_90 : decode cX6_away 90 = .ok (.if_icmp .eq 7, 3) := by decide +kernel
theorem dX6_away_93 : decode cX6_away 93 = .ok (.iload_n 1, 1) := by decide +kernel
theorem dX6_away_94 : decode cX6_away 94 = .ok (.ifCond .ne 7, 3) := by decide +kernel
theorem dX6_away_97 : decode cX6_away 97 = .ok (.iload_n 3, 1) := by decide +kernel
theorem dX6_away_98 : decode cX6_away 98 = .ok (.goto 4, 3) := by decide +kernel
theorem dX6_away_101 : decode cX6_away 101 = .ok (.iload_n 2, 1) := by decide +kernel
theorem dX6_away_102 : decode cX6_away 102 = .ok (.ireturn, 1) := by decide +kernel
theorem dX6_lowest_0 : decode cX6_lowest 0 = .ok (.lload_n 0, 1) := by decide +kernel
theorem dX6_lowest_1 : decode cX6_lowest 1 = .ok (.lstore 5, 2) := by decide +kernel
theorem dX6_lowest_3 : decode cX6_lowest 3 = .ok (.lload_n 2, 1) := by decide +kernel
theorem dX6_lowest_4 : decode cX6_lowest 4 = .ok (.lstore 7, 2) := by decide +kernel
theorem dX6_lowest_6 : decode cX6_lowest 6 = .ok (.lload 7, 2) := by decide +kernel
theorem dX6_lowest_8 : decode cX6_lowest 8 = .ok (.lconst 0, 1) := by decide +kernel
theorem dX6_lowest_9 : decode cX6_lowest 9 = .ok (.lcmp, 1) := by decide +kernel
theorem dX6_lowest_10 : decode cX6_lowest 10 = .ok (.ifCond .eq 21, 3) := by decide +kernel
theorem dX6_lowest_13 : decode cX6_lowest 13 = .ok (.lload 5, 2) := by decide +kernel
theorem dX6_lowest_15 : decode cX6_lowest 15 = .ok (.lload 7, 2) := by decide +kernel
theorem dX6_lowest_17 : decode cX6_lowest 17 = .ok (.lrem, 1) := by decide +kernel
theorem dX6_lowest_18 : decode cX6_lowest 18 = .ok (.lstore 9, 2) := by decide +kernel
theorem dX6_lowest_20 : decode cX6_lowest 20 = .ok (.lload 7, 2) := by decide +kernel
theorem dX6_lowest_22 : decode cX6_lowest 22 = .ok (.lstore 5, 2) := by decide +kernel
theorem dX6_lowest_24 : decode cX6_lowest 24 = .ok (.lload 9, 2) := by decide +kernel
theorem dX6_lowest_26 : decode cX6_lowest 26 = .ok (.lstore 7, 2) := by decide +kernel
theorem dX6_lowest_28 : decode cX6_lowest 28 = .ok (.goto (-22), 3) := by decide +kernel
theorem dX6_lowest_31 : decode cX6_lowest 31 = .ok (.iload 4, 2) := by decide +kernel
theorem dX6_lowest_33 : decode cX6_lowest 33 = .ok (.ifCond .ne 7, 3) := by decide +kernel
theorem dX6_lowest_36 : decode cX6_lowest 36 = .ok (.lload_n 0, 1) := by decide +kernel
theorem dX6_lowest_37 : decode cX6_lowest 37 = .ok (.goto 4, 3) := by decide +kernel
theorem dX6_lowest_40 : decode cX6_lowest 40 = .ok (.lload_n 2, 1) := by decide +kernel
theorem dX6_lowest_41 : decode cX6_lowest 41 = .ok (.lload 5, 2) := by decide +kernel
theorem dX6_lowest_43 : decode cX6_lowest 43 = .ok (.ldiv, 1) := by decide +kernel
theorem dX6_lowest_44 : decode cX6_lowest 44 = .ok (.lreturn, 1) := by decide +kernel
theorem dX6_byHeld_0 : decode cX6_byHeld 0 = .ok (.lconst 0, 1) := by decide +kernel
theorem dX6_byHeld_1 : decode cX6_byHeld 1 = .ok (.lstore 5, 2) := by decide +kernel
theorem dX6_byHeld_3 : decode cX6_byHeld 3 = .ok (.lconst 1, 1) := by decide +kernel
theorem dX6_byHeld_4 : decode cX6_byHeld 4 = .ok (.lstore 7, 2) := by decide +kernel
theorem dX6_byHeld_6 : decode cX6_byHeld 6 = .ok (.iconst 0, 1) := by decide +kernel
theorem dX6_byHeld_7 : decode cX6_byHeld 7 = .ok (.istore 9, 2) := by decide +kernel
theorem dX6_byHeld_9 : decode cX6_byHeld 9 = .ok (.iload 9, 2) := by decide +kernel
theorem dX6_byHeld_11 : decode cX6_byHeld 11 = .ok (.iload_n 3, 1) := by decide +kernel
theorem dX6_byHeld_12 : decode cX6_byHeld 12 = .ok (.if_icmp .ge 17, 3) := by decide +kernel
theorem dX6_byHeld_15 : decode cX6_byHeld 15 = .ok (.lload 7, 2) := by decide +kernel
theorem dX6_byHeld_17 : decode cX6_byHeld 17 = .ok (.ldc2_w 192, 3) := by decide +kernel
theorem dX6_byHeld_20 : decode cX6_byHeld 20 = .ok (.lmul, 1) := by decide +kernel
theorem dX6_byHeld_21 : decode cX6_byHeld 21 = .ok (.lstore 7, 2) := by decide +kernel
theorem dX6_byHeld_23 : decode cX6_byHeld 23 = .ok (.iinc 9 1, 3) := by decide +kernel
theorem dX6_byHeld_26 : decode cX6_byHeld 26 = .ok (.goto (-17), 3) := by decide +kernel
theorem dX6_byHeld_29 : decode cX6_byHeld 29 = .ok (.iconst 0, 1) := by decide +kernel
theorem dX6_byHeld_30 : decode cX6_byHeld 30 = .ok (.istore 9, 2) := by decide +kernel
theorem dX6_byHeld_32 : decode cX6_byHeld 32 = .ok (.iload 9, 2) := by decide +kernel
theorem dX6_byHeld_34 : decode cX6_byHeld 34 = .ok (.iconst 1, 1) := by decide +kernel
theorem dX6_byHeld_35 : decode cX6_byHeld 35 = .ok (.iload_n 3, 1) := by decide +kernel
theorem dX6_byHeld_36 : decode cX6_byHeld 36 = .ok (.ishl, 1) := by decide +kernel
theorem dX6_byHeld_37 : decode cX6_byHeld 37 = .ok (.if_icmp .ge 121, 3) := by decide +kernel
theorem dX6_byHeld_40 : decode cX6_byHeld 40 = .ok (.lconst 1, 1) := by decide +kernel
theorem dX6_byHeld_41 : decode cX6_byHeld 41 = .ok (.lstore 10, 2) := by decide +kernel
theorem dX6_byHeld_43 : decode cX6_byHeld 43 = .ok (.iconst 0, 1) := by decide +kernel
theorem dX6_byHeld_44 : decode cX6_byHeld 44 = .ok (.istore 12, 2) := by decide +kernel
theorem dX6_byHeld_46 : decode cX6_byHeld 46 = .ok (.aload_n 0, 1) := by decide +kernel
theorem dX6_byHeld_47 : decode cX6_byHeld 47 = .ok (.iconst 0, 1) := by decide +kernel
theorem dX6_byHeld_48 : decode cX6_byHeld 48 = .ok (.bipush 92, 2) := by decide +kernel
theorem dX6_byHeld_50 : decode cX6_byHeld 50 = .ok (.invokevirtual 161, 3) := by decide +kernel
theorem dX6_byHeld_53 : decode cX6_byHeld 53 = .ok (.iconst 0, 1) := by decide +kernel
theorem dX6_byHeld_54 : decode cX6_byHeld 54 = .ok (.istore 13, 2) := by decide +kernel
theorem dX6_byHeld_56 : decode cX6_byHeld 56 = .ok (.iload 13, 2) := by decide +kernel
theorem dX6_byHeld_58 : decode cX6_byHeld 58 = .ok (.iload_n 3, 1) := by decide +kernel
theorem dX6_byHeld_59 : decode cX6_byHeld 59 = .ok (.if_icmp .ge 63, 3) := by decide +kernel
theorem dX6_byHeld_62 : decode cX6_byHeld 62 = .ok (.iload 9, 2) := by decide +kernel
theorem dX6_byHeld_64 : decode cX6_byHeld 64 = .ok (.iload 13, 2) := by decide +kernel
theorem dX6_byHeld_66 : decode cX6_byHeld 66 = .ok (.ishr, 1) := by decide +kernel
theorem dX6_byHeld_67 : decode cX6_byHeld 67 = .ok (.iconst 1, 1) := by decide +kernel
theorem dX6_byHeld_68 : decode cX6_byHeld 68 = .ok (.iand, 1) := by decide +kernel
theorem dX6_byHeld_69 : decode cX6_byHeld 69 = .ok (.iconst 1, 1) := by decide +kernel
theorem dX6_byHeld_70 : decode cX6_byHeld 70 = .ok (.if_icmp .ne 7, 3) := by decide +kernel
theorem dX6_byHeld_73 : decode cX6_byHeld 73 = .ok (.iconst 1, 1) := by decide +kernel
theorem dX6_byHeld_74 : decode cX6_byHeld 74 = .ok (.goto 4, 3) := by decide +kernel
theorem dX6_byHeld_77 : decode cX6_byHeld 77 = .ok (.iconst 0, 1) := by decide +kernel
theorem dX6_byHeld_78 : decode cX6_byHeld 78 = .ok (.istore 14, 2) := by decide +kernel
theorem dX6_byHeld_80 : decode cX6_byHeld 80 = .ok (.lload 10, 2) := by decide +kernel
theorem dX6_byHeld_82 : decode cX6_byHeld 82 = .ok (.iload 14, 2) := by decide +kernel
theorem dX6_byHeld_84 : decode cX6_byHeld 84 = .ok (.ifCond .eq 8, 3) := by decide +kernel
theorem dX6_byHeld_87 : decode cX6_byHeld 87 = .ok (.iload_n 1, 1) := by decide +kernel
theorem dX6_byHeld_88 : decode cX6_byHeld 88 = .ok (.i2l, 1) := by decide +kernel
theorem dX6_byHeld_89 : decode cX6_byHeld 89 = .ok (.goto 8, 3) := by decide +kernel
theorem dX6_byHeld_92 : decode cX6_byHeld 92 = .ok (.bipush 10, 2) := by decide +kernel
theorem dX6_byHeld_94 : decode cX6_byHeld 94 = .ok (.iload_n 1, 1) := by decide +kernel
theorem dX6_byHeld_95 : decode cX6_byHeld 95 = .ok (.isub, 1) := by decide +kernel
theorem dX6_byHeld_96 : decode cX6_byHeld 96 = .ok (.i2l, 1) := by decide +kernel
theorem dX6_byHeld_97 : decode cX6_byHeld 97 = .ok (.lmul, 1) := by decide +kernel
theorem dX6_byHeld_98 : decode cX6_byHeld 98 = .ok (.lstore 10, 2) := by decide +kernel
theorem dX6_byHeld_100 : decode cX6_byHeld 100 = .ok (.iload 12, 2) := by decide +kernel
theorem dX6_byHeld_102 : decode cX6_byHeld 102 = .ok (.aload_n 0, 1) := by decide +kernel
theorem dX6_byHeld_103 : decode cX6_byHeld 103 = .ok (.bipush 92, 2) := by decide +kernel
theorem dX6_byHeld_105 : decode cX6_byHeld 105 = .ok (.iload 14, 2) := by decide +kernel
theorem dX6_byHeld_107 : decode cX6_byHeld 107 = .ok (.invokevirtual 157, 3) := by decide +kernel
theorem dX6_byHeld_110 : decode cX6_byHeld 110 = .ok (.invokestatic 127, 3) := by decide +kernel
theorem dX6_byHeld_113 : decode cX6_byHeld 113 = .ok (.iadd, 1) := by decide +kernel
theorem dX6_byHeld_114 : decode cX6_byHeld 114 = .ok (.istore 12, 2) := by decide +kernel
theorem dX6_byHeld_116 : decode cX6_byHeld 116 = .ok (.iinc 13 1, 3) := by decide +kernel
theorem dX6_byHeld_119 : decode cX6_byHeld 119 = .ok (.goto (-63), 3) := by decide +kernel
theorem dX6_byHeld_122 : decode cX6_byHeld 122 = .ok (.lload 5, 2) := by decide +kernel
theorem dX6_byHeld_124 : decode cX6_byHeld 124 = .ok (.lload 10, 2) := by decide +kernel
theorem dX6_byHeld_126 : decode cX6_byHeld 126 = .ok (.iload_n 2, 1) := by decide +kernel
theorem dX6_byHeld_127 : decode cX6_byHeld 127 = .ok (.bipush (-4), 2) := by decide +kernel
theorem dX6_byHeld_129 : decode cX6_byHeld 129 = .ok (.if_icmp .ne 8, 3) := by decide +kernel
theorem dX6_byHeld_132 : decode cX6_byHeld 132 = .ok (.iload 12, 2) := by decide +kernel
theorem dX6_byHeld_134 : decode cX6_byHeld 134 = .ok (.goto 13, 3) := by decide +kernel
theorem dX6_byHeld_137 : decode cX6_byHeld 137 = .ok (.aload_n 0, 1) := by decide +kernel
theorem dX6_byHeld_138 : decode cX6_byHeld 138 = .ok (.bipush 92, 2) := by decide +kernel
theorem dX6_byHeld_140 : decode cX6_byHeld 140 = .ok (.invokevirtual 124, 3) := by decide +kernel
theorem dX6_byHeld_143 : decode cX6_byHeld 143 = .ok (.iload_n 2, 1) := by decide +kernel
theorem dX6_byHeld_144 : decode cX6_byHeld 144 = .ok (.ishr, 1) := by decide +kernel
theorem dX6_byHeld_145 : decode cX6_byHeld 145 = .ok (.iconst 1, 1) := by decide +kernel
theorem dX6_byHeld_146 : decode cX6_byHeld 146 = .ok (.iand, 1) := by decide +kernel
theorem dX6_byHeld_147 : decode cX6_byHeld 147 = .ok (.i2l, 1) := by decide +kernel
theorem dX6_byHeld_148 : decode cX6_byHeld 148 = .ok (.lmul, 1) := by decide +kernel
theorem dX6_byHeld_149 : decode cX6_byHeld 149 = .ok (.ladd, 1) := by decide +kernel
theorem dX6_byHeld_150 : decode cX6_byHeld 150 = .ok (.lstore 5, 2) := by decide +kernel
theorem dX6_byHeld_152 : decode cX6_byHeld 152 = .ok (.iinc 9 1, 3) := by decide +kernel
theorem dX6_byHeld_155 : decode cX6_byHeld 155 = .ok (.goto (-123), 3) := by decide +kernel
theorem dX6_byHeld_158 : decode cX6_byHeld 158 = .ok (.lload 5, 2) := by decide +kernel
theorem dX6_byHeld_160 : decode cX6_byHeld 160 = .ok (.lload 7, 2) := by decide +kernel
theorem dX6_byHeld_162 : decode cX6_byHeld 162 = .ok (.iload 4, 2) := by decide +kernel
theorem dX6_byHeld_164 : decode cX6_byHeld 164 = .ok (.invokestatic 194, 3) := by decide +kernel
theorem dX6_byHeld_167 : decode cX6_byHeld 167 = .ok (.lreturn, 1) := by decide +kernel
theorem dX6_luck_0 : decode cX6_luck 0 = .ok (.iload_n 1, 1) := by decide +kernel
theorem dX6_luck_1 : decode cX6_luck 1 = .ok (.i2l, 1) := by decide +kernel
theorem dX6_luck_2 : decode cX6_luck 2 = .ok (.lconst 0, 1) := by decide +kernel
theorem dX6_luck_3 : decode cX6_luck 3 = .ok (.ldc2_w 192, 3) := by decide +kernel
theorem dX6_luck_6 : decode cX6_luck 6 = .ok (.invokestatic 50, 3) := by decide +kernel
theorem dX6_luck_9 : decode cX6_luck 9 = .ok (.ifCond .eq 46, 3) := by decide +kernel
theorem dX6_luck_12 : decode cX6_luck 12 = .ok (.aload_n 0, 1) := by decide +kernel
theorem dX6_luck_13 : decode cX6_luck 13 = .ok (.iload_n 2, 1) := by decide +kernel
theorem dX6_luck_14 : decode cX6_luck 14 = .ok (.invokevirtual 137, 3) := by decide +kernel
theorem dX6_luck_17 : decode cX6_luck 17 = .ok (.ifCond .eq 38, 3) := by decide +kernel
theorem dX6_luck_20 : decode cX6_luck 20 = .ok (.iload_n 3, 1) := by decide +kernel
theorem dX6_luck_21 : decode cX6_luck 21 = .ok (.i2l, 1) := by decide +kernel
theorem dX6_luck_22 : decode cX6_luck 22 = .ok (.lconst 0, 1) := by decide +kernel
theorem dX6_luck_23 : decode cX6_luck 23 = .ok (.ldc2_w 198, 3) := by decide +kernel
theorem dX6_luck_26 : decode cX6_luck 26 = .ok (.invokestatic 50, 3) := by decide +kernel
theorem dX6_luck_29 : decode cX6_luck 29 = .ok (.ifCond .eq 26, 3) := by decide +kernel
theorem dX6_luck_32 : decode cX6_luck 32 = .ok (.iload 4, 2) := by decide +kernel
theorem dX6_luck_34 : decode cX6_luck 34 = .ok (.i2l, 1) := by decide +kernel
theorem dX6_luck_35 : decode cX6_luck 35 = .ok (.lconst 0, 1) := by decide +kernel
theorem dX6_luck_36 : decode cX6_luck 36 = .ok (.lconst 1, 1) := by decide +kernel
theorem dX6_luck_37 : decode cX6_luck 37 = .ok (.invokestatic 50, 3) := by decide +kernel
theorem dX6_luck_40 : decode cX6_luck 40 = .ok (.ifCond .eq 15, 3) := by decide +kernel
theorem dX6_luck_43 : decode cX6_luck 43 = .ok (.aload_n 0, 1) := by decide +kernel
theorem dX6_luck_44 : decode cX6_luck 44 = .ok (.iload_n 1, 1) := by decide +kernel
theorem dX6_luck_45 : decode cX6_luck 45 = .ok (.iload_n 2, 1) := by decide +kernel
theorem dX6_luck_46 : decode cX6_luck 46 = .ok (.iload_n 3, 1) := by decide +kernel
theorem dX6_luck_47 : decode cX6_luck 47 = .ok (.iload 4, 2) := by decide +kernel
theorem dX6_luck_49 : decode cX6_luck 49 = .ok (.invokevirtual 200, 3) := by decide +kernel
theorem dX6_luck_52 : decode cX6_luck 52 = .ok (.goto 6, 3) := by decide +kernel
theorem dX6_luck_55 : decode cX6_luck 55 = .ok (.ldc2_w 204, 3) := by decide +kernel
theorem dX6_luck_58 : decode cX6_luck 58 = .ok (.lreturn, 1) := by decide +kernel
theorem dX6_mean_0 : decode cX6_mean 0 = .ok (.iload_n 1, 1) := by decide +kernel
theorem dX6_mean_1 : decode cX6_mean 1 = .ok (.i2l, 1) := by decide +kernel
theorem dX6_mean_2 : decode cX6_mean 2 = .ok (.lconst 0, 1) := by decide +kernel
theorem dX6_mean_3 : decode cX6_mean 3 = .ok (.ldc2_w 192, 3) := by decide +kernel
theorem dX6_mean_6 : decode cX6_mean 6 = .ok (.invokestatic 50, 3) := by decide +kernel
theorem dX6_mean_9 : decode cX6_mean 9 = .ok (.ifCond .eq 37, 3) := by decide +kernel
theorem dX6_mean_12 : decode cX6_mean 12 = .ok (.iload_n 2, 1) := by decide +kernel
theorem dX6_mean_13 : decode cX6_mean 13 = .ok (.i2l, 1) := by decide +kernel
theorem dX6_mean_14 : decode cX6_mean 14 = .ok (.lconst 0, 1) := by decide +kernel
theorem dX6_mean_15 : decode cX6_mean 15 = .ok (.ldc2_w 198, 3) := by decide +kernel
theorem dX6_mean_18 : decode cX6_mean 18 = .ok (.invokestatic 50, 3) := by decide +kernel
theorem dX6_mean_21 : decode cX6_mean 21 = .ok (.ifCond .eq 25, 3) := by decide +kernel
theorem dX6_mean_24 : decode cX6_mean 24 = .ok (.iload_n 3, 1) := by decide +kernel
theorem dX6_mean_25 : decode cX6_mean 25 = .ok (.i2l, 1) := by decide +kernel
theorem dX6_mean_26 : decode cX6_mean 26 = .ok (.lconst 0, 1) := by decide +kernel
theorem dX6_mean_27 : decode cX6_mean 27 = .ok (.lconst 1, 1) := by decide +kernel
theorem dX6_mean_28 : decode cX6_mean 28 = .ok (.invokestatic 50, 3) := by decide +kernel
theorem dX6_mean_31 : decode cX6_mean 31 = .ok (.ifCond .eq 15, 3) := by decide +kernel
theorem dX6_mean_34 : decode cX6_mean 34 = .ok (.aload_n 0, 1) := by decide +kernel
theorem dX6_mean_35 : decode cX6_mean 35 = .ok (.iload_n 1, 1) := by decide +kernel
theorem dX6_mean_36 : decode cX6_mean 36 = .ok (.bipush (-4), 2) := by decide +kernel
theorem dX6_mean_38 : decode cX6_mean 38 = .ok (.iload_n 2, 1) := by decide +kernel
theorem dX6_mean_39 : decode cX6_mean 39 = .ok (.iload_n 3, 1) := by decide +kernel
theorem dX6_mean_40 : decode cX6_mean 40 = .ok (.invokevirtual 200, 3) := by decide +kernel
theorem dX6_mean_43 : decode cX6_mean 43 = .ok (.goto 6, 3) := by decide +kernel
theorem dX6_mean_46 : decode cX6_mean 46 = .ok (.ldc2_w 204, 3) := by decide +kernel
theorem dX6_mean_49 : decode cX6_mean 49 = .ok (.lreturn, 1) := by decide +kernel
theorem dX6_see_0 : decode cX6_see 0 = .ok (.iload_n 1, 1) := by decide +kernel
theorem dX6_see_1 : decode cX6_see 1 = .ok (.i2l, 1) := by decide +kernel
theorem dX6_see_2 : decode cX6_see 2 = .ok (.lconst 0, 1) := by decide +kernel
theorem dX6_see_3 : decode cX6_see 3 = .ok (.ldc2_w 206, 3) := by decide +kernel
theorem dX6_see_6 : decode cX6_see 6 = .ok (.invokestatic 50, 3) := by decide +kernel
theorem dX6_see_9 : decode cX6_see 9 = .ok (.ifCond .eq 21, 3) := by decide +kernel
theorem dX6_see_12 : decode cX6_see 12 = .ok (.aload_n 0, 1) := by decide +kernel
theorem dX6_see_13 : decode cX6_see 13 = .ok (.iload_n 2, 1) := by decide +kernel
theorem dX6_see_14 : decode cX6_see 14 = .ok (.invokevirtual 137, 3) := by decide +kernel
theorem dX6_see_17 : decode cX6_see 17 = .ok (.ifCond .eq 13, 3) := by decide +kernel
theorem dX6_see_20 : decode cX6_see 20 = .ok (.iload_n 3, 1) := by decide +kernel
theorem dX6_see_21 : decode cX6_see 21 = .ok (.i2l, 1) := by decide +kernel
theorem dX6_see_22 : decode cX6_see 22 = .ok (.lconst 0, 1) := by decide +kernel
theorem dX6_see_23 : decode cX6_see 23 = .ok (.lconst 1, 1) := by decide +kernel
theorem dX6_see_24 : decode cX6_see 24 = .ok (.invokestatic 50, 3) := by decide +kernel
theorem dX6_see_27 : decode cX6_see 27 = .ok (.ifCond .ne 5, 3) := by decide +kernel
theorem dX6_see_30 : decode cX6_see 30 = .ok (.iconst (-1), 1) := by decide +kernel
theorem dX6_see_31 : decode cX6_see 31 = .ok (.ireturn, 1) := by decide +kernel
theorem dX6_see_32 : decode cX6_see 32 = .ok (.aload_n 0, 1) := by decide +kernel
theorem dX6_see_33 : decode cX6_see 33 = .ok (.getfield 117, 3) := by decide +kernel
theorem dX6_see_36 : decode cX6_see 36 = .ok (.bipush 6, 2) := by decide +kernel
theorem dX6_see_38 : decode cX6_see 38 = .ok (.if_icmp .ne 6, 3) := by decide +kernel
theorem dX6_see_41 : decode cX6_see 41 = .ok (.bipush (-3), 2) := by decide +kernel
theorem dX6_see_43 : decode cX6_see 43 = .ok (.ireturn, 1) := by decide +kernel
theorem dX6_see_44 : decode cX6_see 44 = .ok (.aload_n 0, 1) := by decide +kernel
theorem dX6_see_45 : decode cX6_see 45 = .ok (.getfield 29, 3) := by decide +kernel
theorem dX6_see_48 : decode cX6_see 48 = .ok (.iconst 3, 1) := by decide +kernel
theorem dX6_see_49 : decode cX6_see 49 = .ok (.aload_n 0, 1) := by decide +kernel
theorem dX6_see_50 : decode cX6_see 50 = .ok (.getfield 117, 3) := by decide +kernel
theorem dX6_see_53 : decode cX6_see 53 = .ok (.imul, 1) := by decide +kernel
theorem dX6_see_54 : decode cX6_see 54 = .ok (.iload_n 1, 1) := by decide +kernel
theorem dX6_see_55 : decode cX6_see 55 = .ok (.iastore, 1) := by decide +kernel
theorem dX6_see_56 : decode cX6_see 56 = .ok (.aload_n 0, 1) := by decide +kernel
theorem dX6_see_57 : decode cX6_see 57 = .ok (.getfield 29, 3) := by decide +kernel
theorem dX6_see_60 : decode cX6_see 60 = .ok (.iconst 3, 1) := by decide +kernel
theorem dX6_see_61 : decode cX6_see 61 = .ok (.aload_n 0, 1) := by decide +kernel
theorem dX6_see_62 : decode cX6_see 62 = .ok (.getfield 117, 3) := by decide +kernel
theorem dX6_see_65 : decode cX6_see 65 = .ok (.imul, 1) := by decide +kernel
theorem dX6_see_66 : decode cX6_see 66 = .ok (.iconst 1, 1) := by decide +kernel
theorem dX6_see_67 : decode cX6_see 67 = .ok (.iadd, 1) := by decide +kernel
theorem dX6_see_68 : decode cX6_see 68 = .ok (.iload_n 2, 1) := by decide +kernel
theorem dX6_see_69 : decode cX6_see 69 = .ok (.iastore, 1) := by decide +kernel
theorem dX6_see_70 : decode cX6_see 70 = .ok (.aload_n 0, 1) := by decide +kernel
theorem dX6_see_71 : decode cX6_see 71 = .ok (.getfield 29, 3) := by decide +kernel
theorem dX6_see_74 : decode cX6_see 74 = .ok (.iconst 3, 1) := by decide +kernel
theorem dX6_see_75 : decode cX6_see 75 = .ok (.aload_n 0, 1) := by decide +kernel
theorem dX6_see_76 : decode cX6_see 76 = .ok (.getfield 117, 3) := by decide +kernel
theorem dX6_see_79 : decode cX6_see 79 = .ok (.imul, 1) := by decide +kernel
theorem dX6_see_80 : decode cX6_see 80 = .ok (.iconst 2, 1) := by decide +kernel
theorem dX6_see_81 : decode cX6_see 81 = .ok (.iadd, 1) := by decide +kernel
theorem dX6_see_82 : decode cX6_see 82 = .ok (.iload_n 3, 1) := by decide +kernel
theorem dX6_see_83 : decode cX6_see 83 = .ok (.iastore, 1) := by decide +kernel
theorem dX6_see_84 : decode cX6_see 84 = .ok (.aload_n 0, 1) := by decide +kernel
theorem dX6_see_85 : decode cX6_see 85 = .ok (.dup, 1) := by decide +kernel
theorem dX6_see_86 : decode cX6_see 86 = .ok (.getfield 117, 3) := by decide +kernel
theorem dX6_see_89 : decode cX6_see 89 = .ok (.iconst 1, 1) := by decide +kernel
theorem dX6_see_90 : decode cX6_see 90 = .ok (.iadd, 1) := by decide +kernel
theorem dX6_see_91 : decode cX6_see 91 = .ok (.putfield 117, 3) := by decide +kernel
theorem dX6_see_94 : decode cX6_see 94 = .ok (.aload_n 0, 1) := by decide +kernel
theorem dX6_see_95 : decode cX6_see 95 = .ok (.getfield 117, 3) := by decide +kernel
theorem dX6_see_98 : decode cX6_see 98 = .ok (.ireturn, 1) := by decide +kernel
theorem dX6_forget_0 : decode cX6_forget 0 = .ok (.iload_n 1, 1) := by decide +kernel
theorem dX6_forget_1 : decode cX6_forget 1 = .ok (.i2l, 1) := by decide +kernel
theorem dX6_forget_2 : decode cX6_forget 2 = .ok (.lconst 0, 1) := by decide +kernel
theorem dX6_forget_3 : decode cX6_forget 3 = .ok (.aload_n 0, 1) := by decide +kernel
theorem dX6_forget_4 : decode cX6_forget 4 = .ok (.getfield 117, 3) := by decide +kernel
theorem dX6_forget_7 : decode cX6_forget 7 = .ok (.i2l, 1) := by decide +kernel
theorem dX6_forget_8 : decode cX6_forget 8 = .ok (.invokestatic 50, 3) := by decide +kernel
theorem dX6_forget_11 : decode cX6_forget 11 = .ok (.ifCond .ne 5, 3) := by decide +kernel
theorem dX6_forget_14 : decode cX6_forget 14 = .ok (.iconst (-1), 1) := by decide +kernel
theorem dX6_forget_15 : decode cX6_forget 15 = .ok (.ireturn, 1) := by decide +kernel
theorem dX6_forget_16 : decode cX6_forget 16 = .ok (.aload_n 0, 1) := by decide +kernel
theorem dX6_forget_17 : decode cX6_forget 17 = .ok (.getfield 117, 3) := by decide +kernel
theorem dX6_forget_20 : decode cX6_forget 20 = .ok (.istore_n 2, 1) := by decide +kernel
theorem dX6_forget_21 : decode cX6_forget 21 = .ok (.aload_n 0, 1) := by decide +kernel
theorem dX6_forget_22 : decode cX6_forget 22 = .ok (.iload_n 1, 1) := by decide +kernel
theorem dX6_forget_23 : decode cX6_forget 23 = .ok (.putfield 117, 3) := by decide +kernel
theorem dX6_forget_26 : decode cX6_forget 26 = .ok (.iload_n 2, 1) := by decide +kernel
theorem dX6_forget_27 : decode cX6_forget 27 = .ok (.ireturn, 1) := by decide +kernel
theorem dX6_isAsSeen_0 : decode cX6_isAsSeen 0 = .ok (.aload_n 0, 1) := by decide +kernel
theorem dX6_isAsSeen_1 : decode cX6_isAsSeen 1 = .ok (.iload_n 1, 1) := by decide +kernel
theorem dX6_isAsSeen_2 : decode cX6_isAsSeen 2 = .ok (.bipush 92, 2) := by decide +kernel
theorem dX6_isAsSeen_4 : decode cX6_isAsSeen 4 = .ok (.invokevirtual 161, 3) := by decide +kernel
theorem dX6_isAsSeen_7 : decode cX6_isAsSeen 7 = .ok (.iconst 1, 1) := by decide +kernel
theorem dX6_isAsSeen_8 : decode cX6_isAsSeen 8 = .ok (.istore_n 3, 1) := by decide +kernel
theorem dX6_isAsSeen_9 : decode cX6_isAsSeen 9 = .ok (.iconst 0, 1) := by decide +kernel
theorem dX6_isAsSeen_10 : decode cX6_isAsSeen 10 = .ok (.istore 4, 2) := by decide +kernel
theorem dX6_isAsSeen_12 : decode cX6_isAsSeen 12 = .ok (.iload 4, 2) := by decide +kernel
theorem dX6_isAsSeen_14 : decode cX6_isAsSeen 14 = .ok (.bipush 60, 2) := by decide +kernel
theorem dX6_isAsSeen_16 : decode cX6_isAsSeen 16 = .ok (.if_icmp .gt 104, 3) := by decide +kernel
theorem dX6_isAsSeen_19 : decode cX6_isAsSeen 19 = .ok (.aload_n 0, 1) := by decide +kernel
theorem dX6_isAsSeen_20 : decode cX6_isAsSeen 20 = .ok (.bipush 92, 2) := by decide +kernel
theorem dX6_isAsSeen_22 : decode cX6_isAsSeen 22 = .ok (.iconst 0, 1) := by decide +kernel
theorem dX6_isAsSeen_23 : decode cX6_isAsSeen 23 = .ok (.invokevirtual 157, 3) := by decide +kernel
theorem dX6_isAsSeen_26 : decode cX6_isAsSeen 26 = .ok (.istore 5, 2) := by decide +kernel
theorem dX6_isAsSeen_28 : decode cX6_isAsSeen 28 = .ok (.aload_n 0, 1) := by decide +kernel
theorem dX6_isAsSeen_29 : decode cX6_isAsSeen 29 = .ok (.getfield 32, 3) := by decide +kernel
theorem dX6_isAsSeen_32 : decode cX6_isAsSeen 32 = .ok (.bipush 61, 2) := by decide +kernel
theorem dX6_isAsSeen_34 : decode cX6_isAsSeen 34 = .ok (.iload_n 2, 1) := by decide +kernel
theorem dX6_isAsSeen_35 : decode cX6_isAsSeen 35 = .ok (.imul, 1) := by decide +kernel
theorem dX6_isAsSeen_36 : decode cX6_isAsSeen 36 = .ok (.iload 4, 2) := by decide +kernel
theorem dX6_isAsSeen_38 : decode cX6_isAsSeen 38 = .ok (.iadd, 1) := by decide +kernel
theorem dX6_isAsSeen_39 : decode cX6_isAsSeen 39 = .ok (.iload 5, 2) := by decide +kernel
theorem dX6_isAsSeen_41 : decode cX6_isAsSeen 41 = .ok (.iastore, 1) := by decide +kernel
theorem dX6_isAsSeen_42 : decode cX6_isAsSeen 42 = .ok (.iconst 0, 1) := by decide +kernel
theorem dX6_isAsSeen_43 : decode cX6_isAsSeen 43 = .ok (.istore 6, 2) := by decide +kernel
theorem dX6_isAsSeen_45 : decode cX6_isAsSeen 45 = .ok (.iload 6, 2) := by decide +kernel
theorem dX6_isAsSeen_47 : decode cX6_isAsSeen 47 = .ok (.aload_n 0, 1) := by decide +kernel
theorem dX6_isAsSeen_48 : decode cX6_isAsSeen 48 = .ok (.getfield 117, 3) := by decide +kernel
theorem dX6_isAsSeen_51 : decode cX6_isAsSeen 51 = .ok (.if_icmp .ge 63, 3) := by decide +kernel
theorem dX6_isAsSeen_54 : decode cX6_isAsSeen 54 = .ok (.iload_n 3, 1) := by decide +kernel
theorem dX6_isAsSeen_55 : decode cX6_isAsSeen 55 = .ok (.ifCond .eq 51, 3) := by decide +kernel
theorem dX6_isAsSeen_58 : decode cX6_isAsSeen 58 = .ok (.aload_n 0, 1) := by decide +kernel
theorem dX6_isAsSeen_59 : decode cX6_isAsSeen 59 = .ok (.getfield 29, 3) := by decide +kernel
theorem dX6_isAsSeen_62 : decode cX6_isAsSeen 62 = .ok (.iconst 3, 1) := by decide +kernel
theorem dX6_isAsSeen_63 : decode cX6_isAsSeen 63 = .ok (.iload 6, 2) := by decide +kernel
theorem dX6_isAsSeen_65 : decode cX6_isAsSeen 65 = .ok (.imul, 1) := by decide +kernel
theorem dX6_isAsSeen_66 : decode cX6_isAsSeen 66 = .ok (.iaload, 1) := by decide +kernel
theorem dX6_isAsSeen_67 : decode cX6_isAsSeen 67 = .ok (.iload 4, 2) := by decide +kernel
theorem dX6_isAsSeen_69 : decode cX6_isAsSeen 69 = .ok (.if_icmp .ne 33, 3) := by decide +kernel
theorem dX6_isAsSeen_72 : decode cX6_isAsSeen 72 = .ok (.iload 5, 2) := by decide +kernel
theorem dX6_isAsSeen_74 : decode cX6_isAsSeen 74 = .ok (.aload_n 0, 1) := by decide +kernel
theorem dX6_isAsSeen_75 : decode cX6_isAsSeen 75 = .ok (.getfield 29, 3) := by decide +kernel
theorem dX6_isAsSeen_78 : decode cX6_isAsSeen 78 = .ok (.iconst 3, 1) := by decide +kernel
theorem dX6_isAsSeen_79 : decode cX6_isAsSeen 79 = .ok (.iload 6, 2) := by decide +kernel
theorem dX6_isAsSeen_81 : decode cX6_isAsSeen 81 = .ok (.imul, 1) := by decide +kernel
theorem dX6_isAsSeen_82 : decode cX6_isAsSeen 82 = .ok (.iconst 1, 1) := by decide +kernel
theorem dX6_isAsSeen_83 : decode cX6_isAsSeen 83 = .ok (.iadd, 1) := by decide +kernel
theorem dX6_isAsSeen_84 : decode cX6_isAsSeen 84 = .ok (.iaload, 1) := by decide +kernel
theorem dX6_isAsSeen_85 : decode cX6_isAsSeen 85 = .ok (.ishr, 1) := by decide +kernel
theorem dX6_isAsSeen_86 : decode cX6_isAsSeen 86 = .ok (.iconst 1, 1) := by decide +kernel
theorem dX6_isAsSeen_87 : decode cX6_isAsSeen 87 = .ok (.iand, 1) := by decide +kernel
theorem dX6_isAsSeen_88 : decode cX6_isAsSeen 88 = .ok (.aload_n 0, 1) := by decide +kernel
theorem dX6_isAsSeen_89 : decode cX6_isAsSeen 89 = .ok (.getfield 29, 3) := by decide +kernel
theorem dX6_isAsSeen_92 : decode cX6_isAsSeen 92 = .ok (.iconst 3, 1) := by decide +kernel
theorem dX6_isAsSeen_93 : decode cX6_isAsSeen 93 = .ok (.iload 6, 2) := by decide +kernel
theorem dX6_isAsSeen_95 : decode cX6_isAsSeen 95 = .ok (.imul, 1) := by decide +kernel
theorem dX6_isAsSeen_96 : decode cX6_isAsSeen 96 = .ok (.iconst 2, 1) := by decide +kernel
theorem dX6_isAsSeen_97 : decode cX6_isAsSeen 97 = .ok (.iadd, 1) := by decide +kernel
theorem dX6_isAsSeen_98 : decode cX6_isAsSeen 98 = .ok (.iaload, 1) := by decide +kernel
theorem dX6_isAsSeen_99 : decode cX6_isAsSeen 99 = .ok (.if_icmp .ne 7, 3) := by decide +kernel
theorem dX6_isAsSeen_102 : decode cX6_isAsSeen 102 = .ok (.iconst 1, 1) := by decide +kernel
theorem dX6_isAsSeen_103 : decode cX6_isAsSeen 103 = .ok (.goto 4, 3) := by decide +kernel
theorem dX6_isAsSeen_106 : decode cX6_isAsSeen 106 = .ok (.iconst 0, 1) := by decide +kernel
theorem dX6_isAsSeen_107 : decode cX6_isAsSeen 107 = .ok (.istore_n 3, 1) := by decide +kernel
theorem dX6_isAsSeen_108 : decode cX6_isAsSeen 108 = .ok (.iinc 6 1, 3) := by decide +kernel
theorem dX6_isAsSeen_111 : decode cX6_isAsSeen 111 = .ok (.goto (-66), 3) := by decide +kernel
theorem dX6_isAsSeen_114 : decode cX6_isAsSeen 114 = .ok (.iinc 4 1, 3) := by decide +kernel
theorem dX6_isAsSeen_117 : decode cX6_isAsSeen 117 = .ok (.goto (-105), 3) := by decide +kernel
theorem dX6_isAsSeen_120 : decode cX6_isAsSeen 120 = .ok (.iload_n 3, 1) := by decide +kernel
theorem dX6_isAsSeen_121 : decode cX6_isAsSeen 121 = .ok (.ireturn, 1) := by decide +kernel
theorem dX6_kinds_0 : decode cX6_kinds 0 = .ok (.aload_n 0, 1) := by decide +kernel
theorem dX6_kinds_1 : decode cX6_kinds 1 = .ok (.iload_n 1, 1) := by decide +kernel
theorem dX6_kinds_2 : decode cX6_kinds 2 = .ok (.invokevirtual 137, 3) := by decide +kernel
theorem dX6_kinds_5 : decode cX6_kinds 5 = .ok (.ifCond .ne 5, 3) := by decide +kernel
theorem dX6_kinds_8 : decode cX6_kinds 8 = .ok (.iconst (-1), 1) := by decide +kernel
theorem dX6_kinds_9 : decode cX6_kinds 9 = .ok (.ireturn, 1) := by decide +kernel
theorem dX6_kinds_10 : decode cX6_kinds 10 = .ok (.iconst 0, 1) := by decide +kernel
theorem dX6_kinds_11 : decode cX6_kinds 11 = .ok (.istore_n 2, 1) := by decide +kernel
theorem dX6_kinds_12 : decode cX6_kinds 12 = .ok (.aload_n 0, 1) := by decide +kernel
theorem dX6_kinds_13 : decode cX6_kinds 13 = .ok (.iconst 0, 1) := by decide +kernel
theorem dX6_kinds_14 : decode cX6_kinds 14 = .ok (.bipush 115, 2) := by decide +kernel
theorem dX6_kinds_16 : decode cX6_kinds 16 = .ok (.invokevirtual 161, 3) := by decide +kernel
theorem dX6_kinds_19 : decode cX6_kinds 19 = .ok (.iconst 0, 1) := by decide +kernel
theorem dX6_kinds_20 : decode cX6_kinds 20 = .ok (.istore_n 3, 1) := by decide +kernel
theorem dX6_kinds_21 : decode cX6_kinds 21 = .ok (.iload_n 3, 1) := by decide +kernel
theorem dX6_kinds_22 : decode cX6_kinds 22 = .ok (.iconst 4, 1) := by decide +kernel
theorem dX6_kinds_23 : decode cX6_kinds 23 = .ok (.if_icmp .ge 39, 3) := by decide +kernel
theorem dX6_kinds_26 : decode cX6_kinds 26 = .ok (.aload_n 0, 1) := by decide +kernel
theorem dX6_kinds_27 : decode cX6_kinds 27 = .ok (.getfield 7, 3) := by decide +kernel
theorem dX6_kinds_30 : decode cX6_kinds 30 = .ok (.bipush 115, 2) := by decide +kernel
theorem dX6_kinds_32 : decode cX6_kinds 32 = .ok (.iload_n 1, 1) := by decide +kernel
theorem dX6_kinds_33 : decode cX6_kinds 33 = .ok (.iadd, 1) := by decide +kernel
theorem dX6_kinds_34 : decode cX6_kinds 34 = .ok (.iload_n 3, 1) := by decide +kernel
theorem dX6_kinds_35 : decode cX6_kinds 35 = .ok (.iastore, 1) := by decide +kernel
theorem dX6_kinds_36 : decode cX6_kinds 36 = .ok (.iload_n 2, 1) := by decide +kernel
theorem dX6_kinds_37 : decode cX6_kinds 37 = .ok (.aload_n 0, 1) := by decide +kernel
theorem dX6_kinds_38 : decode cX6_kinds 38 = .ok (.bipush 115, 2) := by decide +kernel
theorem dX6_kinds_40 : decode cX6_kinds 40 = .ok (.iconst 0, 1) := by decide +kernel
theorem dX6_kinds_41 : decode cX6_kinds 41 = .ok (.invokevirtual 208, 3) := by decide +kernel
theorem dX6_kinds_44 : decode cX6_kinds 44 = .ok (.ifCond .eq 9, 3) := by decide +kernel
theorem dX6_kinds_47 : decode cX6_kinds 47 = .ok (.iconst 1, 1) := by decide +kernel
theorem dX6_kinds_48 : decode cX6_kinds 48 = .ok (.iload_n 3, 1) := by decide +kernel
theorem dX6_kinds_49 : decode cX6_kinds 49 = .ok (.ishl, 1) := by decide +kernel
theorem dX6_kinds_50 : decode cX6_kinds 50 = .ok (.goto 4, 3) := by decide +kernel
theorem dX6_kinds_53 : decode cX6_kinds 53 = .ok (.iconst 0, 1) := by decide +kernel
theorem dX6_kinds_54 : decode cX6_kinds 54 = .ok (.ior, 1) := by decide +kernel
theorem dX6_kinds_55 : decode cX6_kinds 55 = .ok (.istore_n 2, 1) := by decide +kernel
theorem dX6_kinds_56 : decode cX6_kinds 56 = .ok (.iinc 3 1, 3) := by decide +kernel
theorem dX6_kinds_59 : decode cX6_kinds 59 = .ok (.goto (-38), 3) := by decide +kernel
theorem dX6_kinds_62 : decode cX6_kinds 62 = .ok (.iload_n 2, 1) := by decide +kernel
theorem dX6_kinds_63 : decode cX6_kinds 63 = .ok (.ireturn, 1) := by decide +kernel
theorem dX6_periods_0 : decode cX6_periods 0 = .ok (.aload_n 0, 1) := by decide +kernel
theorem dX6_periods_1 : decode cX6_periods 1 = .ok (.iload_n 1, 1) := by decide +kernel
theorem dX6_periods_2 : decode cX6_periods 2 = .ok (.invokevirtual 137, 3) := by decide +kernel
theorem dX6_periods_5 : decode cX6_periods 5 = .ok (.ifCond .ne 5, 3) := by decide +kernel
theorem dX6_periods_8 : decode cX6_periods 8 = .ok (.iconst (-1), 1) := by decide +kernel
theorem dX6_periods_9 : decode cX6_periods 9 = .ok (.ireturn, 1) := by decide +kernel
theorem dX6_periods_10 : decode cX6_periods 10 = .ok (.iconst 0, 1) := by decide +kernel
theorem dX6_periods_11 : decode cX6_periods 11 = .ok (.istore_n 2, 1) := by decide +kernel
theorem dX6_periods_12 : decode cX6_periods 12 = .ok (.iconst 2, 1) := by decide +kernel
theorem dX6_periods_13 : decode cX6_periods 13 = .ok (.istore_n 3, 1) := by decide +kernel
theorem dX6_periods_14 : decode cX6_periods 14 = .ok (.iload_n 3, 1) := by decide +kernel
theorem dX6_periods_15 : decode cX6_periods 15 = .ok (.bipush 30, 2) := by decide +kernel
theorem dX6_periods_17 : decode cX6_periods 17 = .ok (.if_icmp .gt 44, 3) := by decide +kernel
theorem dX6_periods_20 : decode cX6_periods 20 = .ok (.aload_n 0, 1) := by decide +kernel
theorem dX6_periods_21 : decode cX6_periods 21 = .ok (.iconst 0, 1) := by decide +kernel
theorem dX6_periods_22 : decode cX6_periods 22 = .ok (.bipush 115, 2) := by decide +kernel
theorem dX6_periods_24 : decode cX6_periods 24 = .ok (.invokevirtual 161, 3) := by decide +kernel
theorem dX6_periods_27 : decode cX6_periods 27 = .ok (.aload_n 0, 1) := by decide +kernel
theorem dX6_periods_28 : decode cX6_periods 28 = .ok (.bipush 115, 2) := by decide +kernel
theorem dX6_periods_30 : decode cX6_periods 30 = .ok (.iload_n 1, 1) := by decide +kernel
theorem dX6_periods_31 : decode cX6_periods 31 = .ok (.iload_n 3, 1) := by decide +kernel
theorem dX6_periods_32 : decode cX6_periods 32 = .ok (.invokevirtual 185, 3) := by decide +kernel
theorem dX6_periods_35 : decode cX6_periods 35 = .ok (.iload_n 2, 1) := by decide +kernel
theorem dX6_periods_36 : decode cX6_periods 36 = .ok (.aload_n 0, 1) := by decide +kernel
theorem dX6_periods_37 : decode cX6_periods 37 = .ok (.bipush 115, 2) := by decide +kernel
theorem dX6_periods_39 : decode cX6_periods 39 = .ok (.iconst 0, 1) := by decide +kernel
theorem dX6_periods_40 : decode cX6_periods 40 = .ok (.invokevirtual 208, 3) := by decide +kernel
theorem dX6_periods_43 : decode cX6_periods 43 = .ok (.ifCond .eq 9, 3) := by decide +kernel
theorem dX6_periods_46 : decode cX6_periods 46 = .ok (.iconst 1, 1) := by decide +kernel
theorem dX6_periods_47 : decode cX6_periods 47 = .ok (.iload_n 3, 1) := by decide +kernel
theorem dX6_periods_48 : decode cX6_periods 48 = .ok (.ishl, 1) := by decide +kernel
theorem dX6_periods_49 : decode cX6_periods 49 = .ok (.goto 4, 3) := by decide +kernel
theorem dX6_periods_52 : decode cX6_periods 52 = .ok (.iconst 0, 1) := by decide +kernel
theorem dX6_periods_53 : decode cX6_periods 53 = .ok (.ior, 1) := by decide +kernel
theorem dX6_periods_54 : decode cX6_periods 54 = .ok (.istore_n 2, 1) := by decide +kernel
theorem dX6_periods_55 : decode cX6_periods 55 = .ok (.iinc 3 1, 3) := by decide +kernel
theorem dX6_periods_58 : decode cX6_periods 58 = .ok (.goto (-44), 3) := by decide +kernel
theorem dX6_periods_61 : decode cX6_periods 61 = .ok (.iload_n 2, 1) := by decide +kernel
theorem dX6_periods_62 : decode cX6_periods 62 = .ok (.ireturn, 1) := by decide +kernel
theorem dX6_handsOf_0 : decode cX6_handsOf 0 = .ok (.iconst 0, 1) := by decide +kernel
theorem dX6_handsOf_1 : decode cX6_handsOf 1 = .ok (.istore_n 2, 1) := by decide +kernel
theorem dX6_handsOf_2 : decode cX6_handsOf 2 = .ok (.aload_n 0, 1) := by decide +kernel
theorem dX6_handsOf_3 : decode cX6_handsOf 3 = .ok (.iconst 0, 1) := by decide +kernel
theorem dX6_handsOf_4 : decode cX6_handsOf 4 = .ok (.bipush 115, 2) := by decide +kernel
theorem dX6_handsOf_6 : decode cX6_handsOf 6 = .ok (.invokevirtual 161, 3) := by decide +kernel
theorem dX6_handsOf_9 : decode cX6_handsOf 9 = .ok (.iconst 0, 1) := by decide +kernel
theorem dX6_handsOf_10 : decode cX6_handsOf 10 = .ok (.istore_n 3, 1) := by decide +kernel
theorem dX6_handsOf_11 : decode cX6_handsOf 11 = .ok (.iload_n 3, 1) := by decide +kernel
theorem dX6_handsOf_12 : decode cX6_handsOf 12 = .ok (.aload_n 0, 1) := by decide +kernel
theorem dX6_handsOf_13 : decode cX6_handsOf 13 = .ok (.getfield 7, 3) := by decide +kernel
theorem dX6_handsOf_16 : decode cX6_handsOf 16 = .ok (.iconst 5, 1) := by decide +kernel
theorem dX6_handsOf_17 : decode cX6_handsOf 17 = .ok (.iload_n 1, 1) := by decide +kernel
theorem dX6_handsOf_18 : decode cX6_handsOf 18 = .ok (.iadd, 1) := by decide +kernel
theorem dX6_handsOf_19 : decode cX6_handsOf 19 = .ok (.iaload, 1) := by decide +kernel
theorem dX6_handsOf_20 : decode cX6_handsOf 20 = .ok (.if_icmp .ge 39, 3) := by decide +kernel
theorem dX6_handsOf_23 : decode cX6_handsOf 23 = .ok (.aload_n 0, 1) := by decide +kernel
theorem dX6_handsOf_24 : decode cX6_handsOf 24 = .ok (.getfield 7, 3) := by decide +kernel
theorem dX6_handsOf_27 : decode cX6_handsOf 27 = .ok (.bipush 125, 2) := by decide +kernel
theorem dX6_handsOf_29 : decode cX6_handsOf 29 = .ok (.iload_n 1, 1) := by decide +kernel
theorem dX6_handsOf_30 : decode cX6_handsOf 30 = .ok (.iadd, 1) := by decide +kernel
theorem dX6_handsOf_31 : decode cX6_handsOf 31 = .ok (.iload_n 3, 1) := by decide +kernel
theorem dX6_handsOf_32 : decode cX6_handsOf 32 = .ok (.iastore, 1) := by decide +kernel
theorem dX6_handsOf_33 : decode cX6_handsOf 33 = .ok (.iload_n 2, 1) := by decide +kernel
theorem dX6_handsOf_34 : decode cX6_handsOf 34 = .ok (.aload_n 0, 1) := by decide +kernel
theorem dX6_handsOf_35 : decode cX6_handsOf 35 = .ok (.bipush 115, 2) := by decide +kernel
theorem dX6_handsOf_37 : decode cX6_handsOf 37 = .ok (.iload_n 3, 1) := by decide +kernel
theorem dX6_handsOf_38 : decode cX6_handsOf 38 = .ok (.invokevirtual 208, 3) := by decide +kernel
theorem dX6_handsOf_41 : decode cX6_handsOf 41 = .ok (.ifCond .eq 9, 3) := by decide +kernel
theorem dX6_handsOf_44 : decode cX6_handsOf 44 = .ok (.iconst 1, 1) := by decide +kernel
theorem dX6_handsOf_45 : decode cX6_handsOf 45 = .ok (.iload_n 3, 1) := by decide +kernel
theorem dX6_handsOf_46 : decode cX6_handsOf 46 = .ok (.ishl, 1) := by decide +kernel
theorem dX6_handsOf_47 : decode cX6_handsOf 47 = .ok (.goto 4, 3) := by decide +kernel
theorem dX6_handsOf_50 : decode cX6_handsOf 50 = .ok (.iconst 0, 1) := by decide +kernel
theorem dX6_handsOf_51 : decode cX6_handsOf 51 = .ok (.ior, 1) := by decide +kernel
theorem dX6_handsOf_52 : decode cX6_handsOf 52 = .ok (.istore_n 2, 1) := by decide +kernel
theorem dX6_handsOf_53 : decode cX6_handsOf 53 = .ok (.iinc 3 1, 3) := by decide +kernel
theorem dX6_handsOf_56 : decode cX6_handsOf 56 = .ok (.goto (-45), 3) := by decide +kernel
theorem dX6_handsOf_59 : decode cX6_handsOf 59 = .ok (.iload_n 2, 1) := by decide +kernel
theorem dX6_handsOf_60 : decode cX6_handsOf 60 = .ok (.ireturn, 1) := by decide +kernel
theorem dX6_hands_0 : decode cX6_hands 0 = .ok (.aload_n 0, 1) := by decide +kernel
theorem dX6_hands_1 : decode cX6_hands 1 = .ok (.iload_n 1, 1) := by decide +kernel
theorem dX6_hands_2 : decode cX6_hands 2 = .ok (.invokevirtual 137, 3) := by decide +kernel
theorem dX6_hands_5 : decode cX6_hands 5 = .ok (.ifCond .eq 11, 3) := by decide +kernel
theorem dX6_hands_8 : decode cX6_hands 8 = .ok (.aload_n 0, 1) := by decide +kernel
theorem dX6_hands_9 : decode cX6_hands 9 = .ok (.iload_n 1, 1) := by decide +kernel
theorem dX6_hands_10 : decode cX6_hands 10 = .ok (.invokevirtual 211, 3) := by decide +kernel
theorem dX6_hands_13 : decode cX6_hands 13 = .ok (.goto 4, 3) := by decide +kernel
theorem dX6_hands_16 : decode cX6_hands 16 = .ok (.iconst (-1), 1) := by decide +kernel
theorem dX6_hands_17 : decode cX6_hands 17 = .ok (.ireturn, 1) := by decide +kernel
theorem dX6_ask_0 : decode cX6_ask 0 = .ok (.aload_n 0, 1) := by decide +kernel
theorem dX6_ask_1 : decode cX6_ask 1 = .ok (.iload_n 1, 1) := by decide +kernel
theorem dX6_ask_2 : decode cX6_ask 2 = .ok (.invokevirtual 137, 3) := by decide +kernel
theorem dX6_ask_5 : decode cX6_ask 5 = .ok (.ifCond .eq 13, 3) := by decide +kernel
theorem dX6_ask_8 : decode cX6_ask 8 = .ok (.iload_n 2, 1) := by decide +kernel
theorem dX6_ask_9 : decode cX6_ask 9 = .ok (.i2l, 1) := by decide +kernel
theorem dX6_ask_10 : decode cX6_ask 10 = .ok (.lconst 0, 1) := by decide +kernel
theorem dX6_ask_11 : decode cX6_ask 11 = .ok (.lconst 1, 1) := by decide +kernel
theorem dX6_ask_12 : decode cX6_ask 12 = .ok (.invokestatic 50, 3) := by decide +kernel
theorem dX6_ask_15 : decode cX6_ask 15 = .ok (.ifCond .ne 5, 3) := by decide +kernel
theorem dX6_ask_18 : decode cX6_ask 18 = .ok (.iconst (-1), 1) := by decide +kernel
theorem dX6_ask_19 : decode cX6_ask 19 = .ok (.ireturn, 1) := by decide +kernel
theorem dX6_ask_20 : decode cX6_ask 20 = .ok (.aload_n 0, 1) := by decide +kernel
theorem dX6_ask_21 : decode cX6_ask 21 = .ok (.iload_n 1, 1) := by decide +kernel
theorem dX6_ask_22 : decode cX6_ask 22 = .ok (.invokevirtual 211, 3) := by decide +kernel
theorem dX6_ask_25 : decode cX6_ask 25 = .ok (.istore_n 3, 1) := by decide +kernel
theorem dX6_ask_26 : decode cX6_ask 26 = .ok (.iload_n 3, 1) := by decide +kernel
theorem dX6_ask_27 : decode cX6_ask 27 = .ok (.invokestatic 127, 3) := by decide +kernel
theorem dX6_ask_30 : decode cX6_ask 30 = .ok (.istore 4, 2) := by decide +kernel
theorem dX6_ask_32 : decode cX6_ask 32 = .ok (.iload 4, 2) := by decide +kernel
theorem dX6_ask_34 : decode cX6_ask 34 = .ok (.istore 5, 2) := by decide +kernel
theorem dX6_ask_36 : decode cX6_ask 36 = .ok (.bipush (-4), 2) := by decide +kernel
theorem dX6_ask_38 : decode cX6_ask 38 = .ok (.istore 6, 2) := by decide +kernel
theorem dX6_ask_40 : decode cX6_ask 40 = .ok (.iconst 0, 1) := by decide +kernel
theorem dX6_ask_41 : decode cX6_ask 41 = .ok (.istore 7, 2) := by decide +kernel
theorem dX6_ask_43 : decode cX6_ask 43 = .ok (.iload 7, 2) := by decide +kernel
theorem dX6_ask_45 : decode cX6_ask 45 = .ok (.bipush 60, 2) := by decide +kernel
theorem dX6_ask_47 : decode cX6_ask 47 = .ok (.if_icmp .gt 124, 3) := by decide +kernel
theorem dX6_ask_50 : decode cX6_ask 50 = .ok (.iconst 0, 1) := by decide +kernel
theorem dX6_ask_51 : decode cX6_ask 51 = .ok (.istore 8, 2) := by decide +kernel
theorem dX6_ask_53 : decode cX6_ask 53 = .ok (.iconst 0, 1) := by decide +kernel
theorem dX6_ask_54 : decode cX6_ask 54 = .ok (.istore 9, 2) := by decide +kernel
theorem dX6_ask_56 : decode cX6_ask 56 = .ok (.iload 9, 2) := by decide +kernel
theorem dX6_ask_58 : decode cX6_ask 58 = .ok (.aload_n 0, 1) := by decide +kernel
theorem dX6_ask_59 : decode cX6_ask 59 = .ok (.getfield 7, 3) := by decide +kernel
theorem dX6_ask_62 : decode cX6_ask 62 = .ok (.iconst 5, 1) := by decide +kernel
theorem dX6_ask_63 : decode cX6_ask 63 = .ok (.iload_n 1, 1) := by decide +kernel
theorem dX6_ask_64 : decode cX6_ask 64 = .ok (.iadd, 1) := by decide +kernel
theorem dX6_ask_65 : decode cX6_ask 65 = .ok (.iaload, 1) := by decide +kernel
theorem dX6_ask_66 : decode cX6_ask 66 = .ok (.if_icmp .ge 45, 3) := by decide +kernel
theorem dX6_ask_69 : decode cX6_ask 69 = .ok (.iload 8, 2) := by decide +kernel
theorem dX6_ask_71 : decode cX6_ask 71 = .ok (.iload_n 3, 1) := by decide +kernel
theorem dX6_ask_72 : decode cX6_ask 72 = .ok (.iload 9, 2) := by decide +kernel
theorem dX6_ask_74 : decode cX6_ask 74 = .ok (.ishr, 1) := by decide +kernel
theorem dX6_ask_75 : decode cX6_ask 75 = .ok (.iconst 1, 1) := by decide +kernel
theorem dX6_ask_76 : decode cX6_ask 76 = .ok (.iand, 1) := by decide +kernel
theorem dX6_ask_77 : decode cX6_ask 77 = .ok (.iconst 1, 1) := by decide +kernel
theorem dX6_ask_78 : decode cX6_ask 78 = .ok (.if_icmp .ne 23, 3) := by decide +kernel
theorem dX6_ask_81 : decode cX6_ask 81 = .ok (.aload_n 0, 1) := by decide +kernel
theorem dX6_ask_82 : decode cX6_ask 82 = .ok (.getfield 32, 3) := by decide +kernel
theorem dX6_ask_85 : decode cX6_ask 85 = .ok (.bipush 61, 2) := by decide +kernel
theorem dX6_ask_87 : decode cX6_ask 87 = .ok (.iload 9, 2) := by decide +kernel
theorem dX6_ask_89 : decode cX6_ask 89 = .ok (.imul, 1) := by decide +kernel
theorem dX6_ask_90 : decode cX6_ask 90 = .ok (.iload 7, 2) := by decide +kernel
theorem dX6_ask_92 : decode cX6_ask 92 = .ok (.iadd, 1) := by decide +kernel
theorem dX6_ask_93 : decode cX6_ask 93 = .ok (.iaload, 1) := by decide +kernel
theorem dX6_ask_94 : decode cX6_ask 94 = .ok (.iload_n 1, 1) := by decide +kernel
theorem dX6_ask_95 : decode cX6_ask 95 = .ok (.ishr, 1) := by decide +kernel
theorem dX6_ask_96 : decode cX6_ask 96 = .ok (.iconst 1, 1) := by decide +kernel
theorem dX6_ask_97 : decode cX6_ask 97 = .ok (.iand, 1) := by decide +kernel
theorem dX6_ask_98 : decode cX6_ask 98 = .ok (.goto 4, 3) := by decide +kernel
theorem dX6_ask_101 : decode cX6_ask 101 = .ok (.iconst 0, 1) := by decide +kernel
theorem dX6_ask_102 : decode cX6_ask 102 = .ok (.iadd, 1) := by decide +kernel
theorem dX6_ask_103 : decode cX6_ask 103 = .ok (.istore 8, 2) := by decide +kernel
theorem dX6_ask_105 : decode cX6_ask 105 = .ok (.iinc 9 1, 3) := by decide +kernel
theorem dX6_ask_108 : decode cX6_ask 108 = .ok (.goto (-52), 3) := by decide +kernel
theorem dX6_ask_111 : decode cX6_ask 111 = .ok (.iload 8, 2) := by decide +kernel
theorem dX6_ask_113 : decode cX6_ask 113 = .ok (.iload 4, 2) := by decide +kernel
theorem dX6_ask_115 : decode cX6_ask 115 = .ok (.iload 8, 2) := by decide +kernel
theorem dX6_ask_117 : decode cX6_ask 117 = .ok (.isub, 1) := by decide +kernel
theorem dX6_ask_118 : decode cX6_ask 118 = .ok (.if_icmp .le 8, 3) := by decide +kernel
theorem dX6_ask_121 : decode cX6_ask 121 = .ok (.iload 8, 2) := by decide +kernel
theorem dX6_ask_123 : decode cX6_ask 123 = .ok (.goto 8, 3) := by decide +kernel
theorem dX6_ask_126 : decode cX6_ask 126 = .ok (.iload 4, 2) := by decide +kernel
theorem dX6_ask_128 : decode cX6_ask 128 = .ok (.iload 8, 2) := by decide +kernel
theorem dX6_ask_130 : decode cX6_ask 130 = .ok (.isub, 1) := by decide +kernel
theorem dX6_ask_131 : decode cX6_ask 131 = .ok (.istore 9, 2) := by decide +kernel
theorem dX6_ask_133 : decode cX6_ask 133 = .ok (.iload 9, 2) := by decide +kernel
theorem dX6_ask_135 : decode cX6_ask 135 = .ok (.iload 5, 2) := by decide +kernel
theorem dX6_ask_137 : decode cX6_ask 137 = .ok (.if_icmp .ge 8, 3) := by decide +kernel
theorem dX6_ask_140 : decode cX6_ask 140 = .ok (.iload 7, 2) := by decide +kernel
theorem dX6_ask_142 : decode cX6_ask 142 = .ok (.goto 5, 3) := by decide +kernel
theorem dX6_ask_145 : decode cX6_ask 145 = .ok (.iload 6, 2) := by decide +kernel
theorem dX6_ask_147 : decode cX6_ask 147 = .ok (.istore 6, 2) := by decide +kernel
theorem dX6_ask_149 : decode cX6_ask 149 = .ok (.iload 9, 2) := by decide +kernel
theorem dX6_ask_151 : decode cX6_ask 151 = .ok (.iload 5, 2) := by decide +kernel
theorem dX6_ask_153 : decode cX6_ask 153 = .ok (.if_icmp .ge 8, 3) := by decide +kernel
theorem dX6_ask_156 : decode cX6_ask 156 = .ok (.iload 9, 2) := by decide +kernel
theorem dX6_ask_158 : decode cX6_ask 158 = .ok (.goto 5, 3) := by decide +kernel
theorem dX6_ask_161 : decode cX6_ask 161 = .ok (.iload 5, 2) := by decide +kernel
theorem dX6_ask_163 : decode cX6_ask 163 = .ok (.istore 5, 2) := by decide +kernel
theorem dX6_ask_165 : decode cX6_ask 165 = .ok (.iinc 7 1, 3) := by decide +kernel
theorem dX6_ask_168 : decode cX6_ask 168 = .ok (.goto (-125), 3) := by decide +kernel
theorem dX6_ask_171 : decode cX6_ask 171 = .ok (.iload 6, 2) := by decide +kernel
theorem dX6_ask_173 : decode cX6_ask 173 = .ok (.bipush (-4), 2) := by decide +kernel
theorem dX6_ask_175 : decode cX6_ask 175 = .ok (.if_icmp .eq 7, 3) := by decide +kernel
theorem dX6_ask_178 : decode cX6_ask 178 = .ok (.iload_n 2, 1) := by decide +kernel
theorem dX6_ask_179 : decode cX6_ask 179 = .ok (.ifCond .ne 8, 3) := by decide +kernel
theorem dX6_ask_182 : decode cX6_ask 182 = .ok (.iload 6, 2) := by decide +kernel
theorem dX6_ask_184 : decode cX6_ask 184 = .ok (.goto 5, 3) := by decide +kernel
theorem dX6_ask_187 : decode cX6_ask 187 = .ok (.iload 5, 2) := by decide +kernel
theorem dX6_ask_189 : decode cX6_ask 189 = .ok (.ireturn, 1) := by decide +kernel
theorem dX6_drift_0 : decode cX6_drift 0 = .ok (.iload_n 2, 1) := by decide +kernel
theorem dX6_drift_1 : decode cX6_drift 1 = .ok (.i2l, 1) := by decide +kernel
theorem dX6_drift_2 : decode cX6_drift 2 = .ok (.lconst 1, 1) := by decide +kernel
theorem dX6_drift_3 : decode cX6_drift 3 = .ok (.ldc2_w 177, 3) := by decide +kernel
theorem dX6_drift_6 : decode cX6_drift 6 = .ok (.invokestatic 50, 3) := by decide +kernel
theorem dX6_drift_9 : decode cX6_drift 9 = .ok (.ifCond .eq 13, 3) := by decide +kernel
theorem dX6_drift_12 : decode cX6_drift 12 = .ok (.iload_n 3, 1) := by decide +kernel
theorem dX6_drift_13 : decode cX6_drift 13 = .ok (.i2l, 1) := by decide +kernel
theorem dX6_drift_14 : decode cX6_drift 14 = .ok (.lconst 0, 1) := by decide +kernel
theorem dX6_drift_15 : decode cX6_drift 15 = .ok (.lconst 1, 1) := by decide +kernel
theorem dX6_drift_16 : decode cX6_drift 16 = .ok (.invokestatic 50, 3) := by decide +kernel
theorem dX6_drift_19 : decode cX6_drift 19 = .ok (.ifCond .ne 5, 3) := by decide +kernel
theorem dX6_drift_22 : decode cX6_drift 22 = .ok (.iconst (-1), 1) := by decide +kernel
theorem dX6_drift_23 : decode cX6_drift 23 = .ok (.ireturn, 1) := by decide +kernel
theorem dX6_drift_24 : decode cX6_drift 24 = .ok (.aload_n 0, 1) := by decide +kernel
theorem dX6_drift_25 : decode cX6_drift 25 = .ok (.getfield 7, 3) := by decide +kernel
theorem dX6_drift_28 : decode cX6_drift 28 = .ok (.bipush 20, 2) := by decide +kernel
theorem dX6_drift_30 : decode cX6_drift 30 = .ok (.iaload, 1) := by decide +kernel
theorem dX6_drift_31 : decode cX6_drift 31 = .ok (.ifCond .ne 6, 3) := by decide +kernel
theorem dX6_drift_34 : decode cX6_drift 34 = .ok (.bipush (-2), 2) := by decide +kernel
theorem dX6_drift_36 : decode cX6_drift 36 = .ok (.ireturn, 1) := by decide +kernel
theorem dX6_drift_37 : decode cX6_drift 37 = .ok (.aload_n 0, 1) := by decide +kernel
theorem dX6_drift_38 : decode cX6_drift 38 = .ok (.iconst 0, 1) := by decide +kernel
theorem dX6_drift_39 : decode cX6_drift 39 = .ok (.bipush 92, 2) := by decide +kernel
theorem dX6_drift_41 : decode cX6_drift 41 = .ok (.invokevirtual 161, 3) := by decide +kernel
theorem dX6_drift_44 : decode cX6_drift 44 = .ok (.iconst 0, 1) := by decide +kernel
theorem dX6_drift_45 : decode cX6_drift 45 = .ok (.istore 4, 2) := by decide +kernel
theorem dX6_drift_47 : decode cX6_drift 47 = .ok (.iload_n 1, 1) := by decide +kernel
theorem dX6_drift_48 : decode cX6_drift 48 = .ok (.istore 5, 2) := by decide +kernel
theorem dX6_drift_50 : decode cX6_drift 50 = .ok (.iconst 0, 1) := by decide +kernel
theorem dX6_drift_51 : decode cX6_drift 51 = .ok (.istore 6, 2) := by decide +kernel
theorem dX6_drift_53 : decode cX6_drift 53 = .ok (.iload 6, 2) := by decide +kernel
theorem dX6_drift_55 : decode cX6_drift 55 = .ok (.iload_n 2, 1) := by decide +kernel
theorem dX6_drift_56 : decode cX6_drift 56 = .ok (.if_icmp .ge 71, 3) := by decide +kernel
theorem dX6_drift_59 : decode cX6_drift 59 = .ok (.iload 5, 2) := by decide +kernel
theorem dX6_drift_61 : decode cX6_drift 61 = .ok (.ldc 214, 2) := by decide +kernel
theorem dX6_drift_63 : decode cX6_drift 63 = .ok (.imul, 1) := by decide +kernel
theorem dX6_drift_64 : decode cX6_drift 64 = .ok (.sipush 12345, 3) := by decide +kernel
theorem dX6_drift_67 : decode cX6_drift 67 = .ok (.iadd, 1) := by decide +kernel
theorem dX6_drift_68 : decode cX6_drift 68 = .ok (.istore 5, 2) := by decide +kernel
theorem dX6_drift_70 : decode cX6_drift 70 = .ok (.iload 5, 2) := by decide +kernel
theorem dX6_drift_72 : decode cX6_drift 72 = .ok (.bipush 16, 2) := by decide +kernel
theorem dX6_drift_74 : decode cX6_drift 74 = .ok (.ishr, 1) := by decide +kernel
theorem dX6_drift_75 : decode cX6_drift 75 = .ok (.sipush 32767, 3) := by decide +kernel
theorem dX6_drift_78 : decode cX6_drift 78 = .ok (.iand, 1) := by decide +kernel
theorem dX6_drift_79 : decode cX6_drift 79 = .ok (.istore 7, 2) := by decide +kernel
theorem dX6_drift_81 : decode cX6_drift 81 = .ok (.aload_n 0, 1) := by decide +kernel
theorem dX6_drift_82 : decode cX6_drift 82 = .ok (.bipush 92, 2) := by decide +kernel
theorem dX6_drift_84 : decode cX6_drift 84 = .ok (.iload 7, 2) := by decide +kernel
theorem dX6_drift_86 : decode cX6_drift 86 = .ok (.aload_n 0, 1) := by decide +kernel
theorem dX6_drift_87 : decode cX6_drift 87 = .ok (.getfield 7, 3) := by decide +kernel
theorem dX6_drift_90 : decode cX6_drift 90 = .ok (.bipush 20, 2) := by decide +kernel
theorem dX6_drift_92 : decode cX6_drift 92 = .ok (.iaload, 1) := by decide +kernel
theorem dX6_drift_93 : decode cX6_drift 93 = .ok (.irem, 1) := by decide +kernel
theorem dX6_drift_94 : decode cX6_drift 94 = .ok (.iconst 1, 1) := by decide +kernel
theorem dX6_drift_95 : decode cX6_drift 95 = .ok (.iload 7, 2) := by decide +kernel
theorem dX6_drift_97 : decode cX6_drift 97 = .ok (.bipush 8, 2) := by decide +kernel
theorem dX6_drift_99 : decode cX6_drift 99 = .ok (.idiv, 1) := by decide +kernel
theorem dX6_drift_100 : decode cX6_drift 100 = .ok (.iconst 5, 1) := by decide +kernel
theorem dX6_drift_101 : decode cX6_drift 101 = .ok (.irem, 1) := by decide +kernel
theorem dX6_drift_102 : decode cX6_drift 102 = .ok (.iadd, 1) := by decide +kernel
theorem dX6_drift_103 : decode cX6_drift 103 = .ok (.invokevirtual 130, 3) := by decide +kernel
theorem dX6_drift_106 : decode cX6_drift 106 = .ok (.iload 4, 2) := by decide +kernel
theorem dX6_drift_108 : decode cX6_drift 108 = .ok (.aload_n 0, 1) := by decide +kernel
theorem dX6_drift_109 : decode cX6_drift 109 = .ok (.bipush 92, 2) := by decide +kernel
theorem dX6_drift_111 : decode cX6_drift 111 = .ok (.iconst 0, 1) := by decide +kernel
theorem dX6_drift_112 : decode cX6_drift 112 = .ok (.invokevirtual 157, 3) := by decide +kernel
theorem dX6_drift_115 : decode cX6_drift 115 = .ok (.invokestatic 127, 3) := by decide +kernel
theorem dX6_drift_118 : decode cX6_drift 118 = .ok (.iadd, 1) := by decide +kernel
theorem dX6_drift_119 : decode cX6_drift 119 = .ok (.istore 4, 2) := by decide +kernel
theorem dX6_drift_121 : decode cX6_drift 121 = .ok (.iinc 6 1, 3) := by decide +kernel
theorem dX6_drift_124 : decode cX6_drift 124 = .ok (.goto (-71), 3) := by decide +kernel
theorem dX6_drift_127 : decode cX6_drift 127 = .ok (.iload_n 3, 1) := by decide +kernel
theorem dX6_drift_128 : decode cX6_drift 128 = .ok (.ifCond .ne 8, 3) := by decide +kernel
theorem dX6_drift_131 : decode cX6_drift 131 = .ok (.iload 4, 2) := by decide +kernel
theorem dX6_drift_133 : decode cX6_drift 133 = .ok (.goto 11, 3) := by decide +kernel
theorem dX6_drift_136 : decode cX6_drift 136 = .ok (.aload_n 0, 1) := by decide +kernel
theorem dX6_drift_137 : decode cX6_drift 137 = .ok (.bipush 92, 2) := by decide +kernel
theorem dX6_drift_139 : decode cX6_drift 139 = .ok (.bipush 10, 2) := by decide +kernel
theorem dX6_drift_141 : decode cX6_drift 141 = .ok (.invokevirtual 134, 3) := by decide +kernel
theorem dX6_drift_144 : decode cX6_drift 144 = .ok (.ireturn, 1) := by decide +kernel
theorem dX6_keep_0 : decode cX6_keep 0 = .ok (.iload_n 1, 1) := by decide +kernel
theorem dX6_keep_1 : decode cX6_keep 1 = .ok (.i2l, 1) := by decide +kernel
theorem dX6_keep_2 : decode cX6_keep 2 = .ok (.lconst 0, 1) := by decide +kernel
theorem dX6_keep_3 : decode cX6_keep 3 = .ok (.lconst 1, 1) := by decide +kernel
theorem dX6_keep_4 : decode cX6_keep 4 = .ok (.invokestatic 50, 3) := by decide +kernel
theorem dX6_keep_7 : decode cX6_keep 7 = .ok (.ifCond .ne 5, 3) := by decide +kernel
theorem dX6_keep_10 : decode cX6_keep 10 = .ok (.iconst (-1), 1) := by decide +kernel
theorem dX6_keep_11 : decode cX6_keep 11 = .ok (.ireturn, 1) := by decide +kernel
theorem dX6_keep_12 : decode cX6_keep 12 = .ok (.aload_n 0, 1) := by decide +kernel
theorem dX6_keep_13 : decode cX6_keep 13 = .ok (.iconst 0, 1) := by decide +kernel
theorem dX6_keep_14 : decode cX6_keep 14 = .ok (.bipush 23, 2) := by decide +kernel
theorem dX6_keep_16 : decode cX6_keep 16 = .ok (.iload_n 1, 1) := by decide +kernel
theorem dX6_keep_17 : decode cX6_keep 17 = .ok (.iconst 1, 1) := by decide +kernel
theorem dX6_keep_18 : decode cX6_keep 18 = .ok (.iadd, 1) := by decide +kernel
theorem dX6_keep_19 : decode cX6_keep 19 = .ok (.imul, 1) := by decide +kernel
theorem dX6_keep_20 : decode cX6_keep 20 = .ok (.invokevirtual 161, 3) := by decide +kernel
theorem dX6_keep_23 : decode cX6_keep 23 = .ok (.aload_n 0, 1) := by decide +kernel
theorem dX6_keep_24 : decode cX6_keep 24 = .ok (.getfield 35, 3) := by decide +kernel
theorem dX6_keep_27 : decode cX6_keep 27 = .ok (.iload_n 1, 1) := by decide +kernel
theorem dX6_keep_28 : decode cX6_keep 28 = .ok (.baload, 1) := by decide +kernel
theorem dX6_keep_29 : decode cX6_keep 29 = .ok (.ifCond .eq 7, 3) := by decide +kernel
theorem dX6_keep_32 : decode cX6_keep 32 = .ok (.iconst 1, 1) := by decide +kernel
theorem dX6_keep_33 : decode cX6_keep 33 = .ok (.goto 4, 3) := by decide +kernel
theorem dX6_keep_36 : decode cX6_keep 36 = .ok (.iconst 0, 1) := by decide +kernel
theorem dX6_keep_37 : decode cX6_keep 37 = .ok (.istore_n 2, 1) := by decide +kernel
theorem dX6_keep_38 : decode cX6_keep 38 = .ok (.aload_n 0, 1) := by decide +kernel
theorem dX6_keep_39 : decode cX6_keep 39 = .ok (.getfield 35, 3) := by decide +kernel
theorem dX6_keep_42 : decode cX6_keep 42 = .ok (.iload_n 1, 1) := by decide +kernel
theorem dX6_keep_43 : decode cX6_keep 43 = .ok (.iconst 1, 1) := by decide +kernel
theorem dX6_keep_44 : decode cX6_keep 44 = .ok (.bastore, 1) := by decide +kernel
theorem dX6_keep_45 : decode cX6_keep 45 = .ok (.iload_n 2, 1) := by decide +kernel
theorem dX6_keep_46 : decode cX6_keep 46 = .ok (.ireturn, 1) := by decide +kernel
theorem dX6_back_0 : decode cX6_back 0 = .ok (.iload_n 1, 1) := by decide +kernel
theorem dX6_back_1 : decode cX6_back 1 = .ok (.i2l, 1) := by decide +kernel
theorem dX6_back_2 : decode cX6_back 2 = .ok (.lconst 0, 1) := by decide +kernel
theorem dX6_back_3 : decode cX6_back 3 = .ok (.lconst 1, 1) := by decide +kernel
theorem dX6_back_4 : decode cX6_back 4 = .ok (.invokestatic 50, 3) := by decide +kernel
theorem dX6_back_7 : decode cX6_back 7 = .ok (.ifCond .ne 5, 3) := by decide +kernel
theorem dX6_back_10 : decode cX6_back 10 = .ok (.iconst (-1), 1) := by decide +kernel
theorem dX6_back_11 : decode cX6_back 11 = .ok (.ireturn, 1) := by decide +kernel
theorem dX6_back_12 : decode cX6_back 12 = .ok (.aload_n 0, 1) := by decide +kernel
theorem dX6_back_13 : decode cX6_back 13 = .ok (.getfield 35, 3) := by decide +kernel
theorem dX6_back_16 : decode cX6_back 16 = .ok (.iload_n 1, 1) := by decide +kernel
theorem dX6_back_17 : decode cX6_back 17 = .ok (.baload, 1) := by decide +kernel
theorem dX6_back_18 : decode cX6_back 18 = .ok (.ifCond .ne 6, 3) := by decide +kernel
theorem dX6_back_21 : decode cX6_back 21 = .ok (.bipush (-2), 2) := by decide +kernel
theorem dX6_back_23 : decode cX6_back 23 = .ok (.ireturn, 1) := by decide +kernel
theorem dX6_back_24 : decode cX6_back 24 = .ok (.aload_n 0, 1) := by decide +kernel
theorem dX6_back_25 : decode cX6_back 25 = .ok (.bipush 23, 2) := by decide +kernel
theorem dX6_back_27 : decode cX6_back 27 = .ok (.iload_n 1, 1) := by decide +kernel
theorem dX6_back_28 : decode cX6_back 28 = .ok (.iconst 1, 1) := by decide +kernel
theorem dX6_back_29 : decode cX6_back 29 = .ok (.iadd, 1) := by decide +kernel
theorem dX6_back_30 : decode cX6_back 30 = .ok (.imul, 1) := by decide +kernel
theorem dX6_back_31 : decode cX6_back 31 = .ok (.iconst 0, 1) := by decide +kernel
theorem dX6_back_32 : decode cX6_back 32 = .ok (.invokevirtual 161, 3) := by decide +kernel
theorem dX6_back_35 : decode cX6_back 35 = .ok (.aload_n 0, 1) := by decide +kernel
theorem dX6_back_36 : decode cX6_back 36 = .ok (.getfield 7, 3) := by decide +kernel
theorem dX6_back_39 : decode cX6_back 39 = .ok (.bipush 22, 2) := by decide +kernel
theorem dX6_back_41 : decode cX6_back 41 = .ok (.iaload, 1) := by decide +kernel
theorem dX6_back_42 : decode cX6_back 42 = .ok (.ireturn, 1) := by decide +kernel
theorem dX6_sheet_0 : decode cX6_sheet 0 = .ok (.iload_n 1, 1) := by decide +kernel
theorem dX6_sheet_1 : decode cX6_sheet 1 = .ok (.i2l, 1) := by decide +kernel
theorem dX6_sheet_2 : decode cX6_sheet 2 = .ok (.lconst 0, 1) := by decide +kernel
theorem dX6_sheet_3 : decode cX6_sheet 3 = .ok (.ldc2_w 141, 3) := by decide +kernel
theorem dX6_sheet_6 : decode cX6_sheet 6 = .ok (.invokestatic 50, 3) := by decide +kernel
theorem dX6_sheet_9 : decode cX6_sheet 9 = .ok (.ifCond .eq 21, 3) := by decide +kernel
theorem dX6_sheet_12 : decode cX6_sheet 12 = .ok (.iload_n 2, 1) := by decide +kernel
theorem dX6_sheet_13 : decode cX6_sheet 13 = .ok (.i2l, 1) := by decide +kernel
theorem dX6_sheet_14 : decode cX6_sheet 14 = .ok (.lconst 0, 1) := by decide +kernel
theorem dX6_sheet_15 : decode cX6_sheet 15 = .ok (.ldc2_w 143, 3) := by decide +kernel
theorem dX6_sheet_18 : decode cX6_sheet 18 = .ok (.invokestatic 50, 3) := by decide +kernel
theorem dX6_sheet_21 : decode cX6_sheet 21 = .ok (.ifCond .eq 9, 3) := by decide +kernel
theorem dX6_sheet_24 : decode cX6_sheet 24 = .ok (.iload_n 3, 1) := by decide +kernel
theorem dX6_sheet_25 : decode cX6_sheet 25 = .ok (.bipush 40, 2) := by decide +kernel
theorem dX6_sheet_27 : decode cX6_sheet 27 = .ok (.if_icmp .le 5, 3) := by decide +kernel
theorem dX6_sheet_30 : decode cX6_sheet 30 = .ok (.iconst (-1), 1) := by decide +kernel
theorem dX6_sheet_31 : decode cX6_sheet 31 = .ok (.ireturn, 1) := by decide +kernel
theorem dX6_sheet_32 : decode cX6_sheet 32 = .ok (.iload_n 3, 1) := by decide +kernel
theorem dX6_sheet_33 : decode cX6_sheet 33 = .ok (.ifCond .ge 6, 3) := by decide +kernel
theorem dX6_sheet_36 : decode cX6_sheet 36 = .ok (.bipush (-14), 2) := by decide +kernel
theorem dX6_sheet_38 : decode cX6_sheet 38 = .ok (.ireturn, 1) := by decide +kernel
theorem dX6_sheet_39 : decode cX6_sheet 39 = .ok (.aload_n 0, 1) := by decide +kernel
theorem dX6_sheet_40 : decode cX6_sheet 40 = .ok (.getfield 39, 3) := by decide +kernel
theorem dX6_sheet_43 : decode cX6_sheet 43 = .ok (.iload_n 1, 1) := by decide +kernel
theorem dX6_sheet_44 : decode cX6_sheet 44 = .ok (.iload_n 2, 1) := by decide +kernel
theorem dX6_sheet_45 : decode cX6_sheet 45 = .ok (.iastore, 1) := by decide +kernel
theorem dX6_sheet_46 : decode cX6_sheet 46 = .ok (.aload_n 0, 1) := by decide +kernel
theorem dX6_sheet_47 : decode cX6_sheet 47 = .ok (.getfield 42, 3) := by decide +kernel
theorem dX6_sheet_50 : decode cX6_sheet 50 = .ok (.iload_n 1, 1) := by decide +kernel
theorem dX6_sheet_51 : decode cX6_sheet 51 = .ok (.iload_n 3, 1) := by decide +kernel
theorem dX6_sheet_52 : decode cX6_sheet 52 = .ok (.iastore, 1) := by decide +kernel
theorem dX6_sheet_53 : decode cX6_sheet 53 = .ok (.iconst 0, 1) := by decide +kernel
theorem dX6_sheet_54 : decode cX6_sheet 54 = .ok (.istore 4, 2) := by decide +kernel
theorem dX6_sheet_56 : decode cX6_sheet 56 = .ok (.iload 4, 2) := by decide +kernel
theorem dX6_sheet_58 : decode cX6_sheet 58 = .ok (.bipush 40, 2) := by decide +kernel
theorem dX6_sheet_60 : decode cX6_sheet 60 = .ok (.if_icmp .ge 22, 3) := by decide +kernel
theorem dX6_sheet_63 : decode cX6_sheet 63 = .ok (.aload_n 0, 1) := by decide +kernel
theorem dX6_sheet_64 : decode cX6_sheet 64 = .ok (.getfield 45, 3) := by decide +kernel
theorem dX6_sheet_67 : decode cX6_sheet 67 = .ok (.bipush 40, 2) := by decide +kernel
theorem dX6_sheet_69 : decode cX6_sheet 69 = .ok (.iload_n 1, 1) := by decide +kernel
theorem dX6_sheet_70 : decode cX6_sheet 70 = .ok (.imul, 1) := by decide +kernel
theorem dX6_sheet_71 : decode cX6_sheet 71 = .ok (.iload 4, 2) := by decide +kernel
theorem dX6_sheet_73 : decode cX6_sheet 73 = .ok (.iadd, 1) := by decide +kernel
theorem dX6_sheet_74 : decode cX6_sheet 74 = .ok (.iconst 0, 1) := by decide +kernel
theorem dX6_sheet_75 : decode cX6_sheet 75 = .ok (.iastore, 1) := by decide +kernel
theorem dX6_sheet_76 : decode cX6_sheet 76 = .ok (.iinc 4 1, 3) := by decide +kernel
theorem dX6_sheet_79 : decode cX6_sheet 79 = .ok (.goto (-23), 3) := by decide +kernel
theorem dX6_sheet_82 : decode cX6_sheet 82 = .ok (.iconst 1, 1) := by decide +kernel
theorem dX6_sheet_83 : decode cX6_sheet 83 = .ok (.ireturn, 1) := by decide +kernel
theorem dX6_lay_0 : decode cX6_lay 0 = .ok (.iload_n 1, 1) := by decide +kernel
theorem dX6_lay_1 : decode cX6_lay 1 = .ok (.i2l, 1) := by decide +kernel
theorem dX6_lay_2 : decode cX6_lay 2 = .ok (.lconst 0, 1) := by decide +kernel
theorem dX6_lay_3 : decode cX6_lay 3 = .ok (.ldc2_w 141, 3) := by decide +kernel
theorem dX6_lay_6 : decode cX6_lay 6 = .ok (.invokestatic 50, 3) := by decide +kernel
theorem dX6_lay_9 : decode cX6_lay 9 = .ok (.ifCond .ne 5, 3) := by decide +kernel
theorem dX6_lay_12 : decode cX6_lay 12 = .ok (.iconst (-1), 1) := by decide +kernel
theorem dX6_lay_13 : decode cX6_lay 13 = .ok (.ireturn, 1) := by decide +kernel
theorem dX6_lay_14 : decode cX6_lay 14 = .ok (.aload_n 0, 1) := by decide +kernel
theorem dX6_lay_15 : decode cX6_lay 15 = .ok (.getfield 39, 3) := by decide +kernel
theorem dX6_lay_18 : decode cX6_lay 18 = .ok (.iload_n 1, 1) := by decide +kernel
theorem dX6_lay_19 : decode cX6_lay 19 = .ok (.iaload, 1) := by decide +kernel
theorem dX6_lay_20 : decode cX6_lay 20 = .ok (.bipush (-4), 2) := by decide +kernel
theorem dX6_lay_22 : decode cX6_lay 22 = .ok (.if_icmp .ne 6, 3) := by decide +kernel
theorem dX6_lay_25 : decode cX6_lay 25 = .ok (.bipush (-11), 2) := by decide +kernel
theorem dX6_lay_27 : decode cX6_lay 27 = .ok (.ireturn, 1) := by decide +kernel
theorem dX6_lay_28 : decode cX6_lay 28 = .ok (.iload_n 2, 1) := by decide +kernel
theorem dX6_lay_29 : decode cX6_lay 29 = .ok (.i2l, 1) := by decide +kernel
theorem dX6_lay_30 : decode cX6_lay 30 = .ok (.lconst 0, 1) := by decide +kernel
theorem dX6_lay_31 : decode cX6_lay 31 = .ok (.aload_n 0, 1) := by decide +kernel
theorem dX6_lay_32 : decode cX6_lay 32 = .ok (.getfield 42, 3) := by decide +kernel
theorem dX6_lay_35 : decode cX6_lay 35 = .ok (.iload_n 1, 1) := by decide +kernel
theorem dX6_lay_36 : decode cX6_lay 36 = .ok (.iaload, 1) := by decide +kernel
theorem dX6_lay_37 : decode cX6_lay 37 = .ok (.iconst 1, 1) := by decide +kernel
theorem dX6_lay_38 : decode cX6_lay 38 = .ok (.isub, 1) := by decide +kernel
theorem dX6_lay_39 : decode cX6_lay 39 = .ok (.i2l, 1) := by decide +kernel
theorem dX6_lay_40 : decode cX6_lay 40 = .ok (.invokestatic 50, 3) := by decide +kernel
theorem dX6_lay_43 : decode cX6_lay 43 = .ok (.ifCond .ne 6, 3) := by decide +kernel
theorem dX6_lay_46 : decode cX6_lay 46 = .ok (.bipush (-12), 2) := by decide +kernel
theorem dX6_lay_48 : decode cX6_lay 48 = .ok (.ireturn, 1) := by decide +kernel
theorem dX6_lay_49 : decode cX6_lay 49 = .ok (.aload_n 0, 1) := by decide +kernel
theorem dX6_lay_50 : decode cX6_lay 50 = .ok (.getfield 45, 3) := by decide +kernel
theorem dX6_lay_53 : decode cX6_lay 53 = .ok (.bipush 40, 2) := by decide +kernel
theorem dX6_lay_55 : decode cX6_lay 55 = .ok (.iload_n 1, 1) := by decide +kernel
theorem dX6_lay_56 : decode cX6_lay 56 = .ok (.imul, 1) := by decide +kernel
theorem dX6_lay_57 : decode cX6_lay 57 = .ok (.iload_n 2, 1) := by decide +kernel
theorem dX6_lay_58 : decode cX6_lay 58 = .ok (.iadd, 1) := by decide +kernel
theorem dX6_lay_59 : decode cX6_lay 59 = .ok (.aload_n 0, 1) := by decide +kernel
theorem dX6_lay_60 : decode cX6_lay 60 = .ok (.getfield 39, 3) := by decide +kernel
theorem dX6_lay_63 : decode cX6_lay 63 = .ok (.iload_n 1, 1) := by decide +kernel
theorem dX6_lay_64 : decode cX6_lay 64 = .ok (.iaload, 1) := by decide +kernel
theorem dX6_lay_65 : decode cX6_lay 65 = .ok (.ifCond .ne 13, 3) := by decide +kernel
theorem dX6_lay_68 : decode cX6_lay 68 = .ok (.iload_n 3, 1) := by decide +kernel
theorem dX6_lay_69 : decode cX6_lay 69 = .ok (.bipush 24, 2) := by decide +kernel
theorem dX6_lay_71 : decode cX6_lay 71 = .ok (.ishl, 1) := by decide +kernel
theorem dX6_lay_72 : decode cX6_lay 72 = .ok (.bipush 24, 2) := by decide +kernel
theorem dX6_lay_74 : decode cX6_lay 74 = .ok (.ishr, 1) := by decide +kernel
theorem dX6_lay_75 : decode cX6_lay 75 = .ok (.goto 24, 3) := by decide +kernel
theorem dX6_lay_78 : decode cX6_lay 78 = .ok (.aload_n 0, 1) := by decide +kernel
theorem dX6_lay_79 : decode cX6_lay 79 = .ok (.getfield 39, 3) := by decide +kernel
theorem dX6_lay_82 : decode cX6_lay 82 = .ok (.iload_n 1, 1) := by decide +kernel
theorem dX6_lay_83 : decode cX6_lay 83 = .ok (.iaload, 1) := by decide +kernel
theorem dX6_lay_84 : decode cX6_lay 84 = .ok (.iconst 1, 1) := by decide +kernel
theorem dX6_lay_85 : decode cX6_lay 85 = .ok (.if_icmp .ne 13, 3) := by decide +kernel
theorem dX6_lay_88 : decode cX6_lay 88 = .ok (.iload_n 3, 1) := by decide +kernel
theorem dX6_lay_89 : decode cX6_lay 89 = .ok (.bipush 16, 2) := by decide +kernel
theorem dX6_lay_91 : decode cX6_lay 91 = .ok (.ishl, 1) := by decide +kernel
theorem dX6_lay_92 : decode cX6_lay 92 = .ok (.bipush 16, 2) := by decide +kernel
theorem dX6_lay_94 : decode cX6_lay 94 = .ok (.ishr, 1) := by decide +kernel
theorem dX6_lay_95 : decode cX6_lay 95 = .ok (.goto 4, 3) := by decide +kernel
theorem dX6_lay_98 : decode cX6_lay 98 = .ok (.iload_n 3, 1) := by decide +kernel
theorem dX6_lay_99 : decode cX6_lay 99 = .ok (.iastore, 1) := by decide +kernel
theorem dX6_lay_100 : decode cX6_lay 100 = .ok (.iconst 1, 1) := by decide +kernel
theorem dX6_lay_101 : decode cX6_lay 101 = .ok (.ireturn, 1) := by decide +kernel
theorem dX6_read_0 : decode cX6_read 0 = .ok (.iload_n 1, 1) := by decide +kernel
theorem dX6_read_1 : decode cX6_read 1 = .ok (.i2l, 1) := by decide +kernel
theorem dX6_read_2 : decode cX6_read 2 = .ok (.lconst 0, 1) := by decide +kernel
theorem dX6_read_3 : decode cX6_read 3 = .ok (.ldc2_w 141, 3) := by decide +kernel
theorem dX6_read_6 : decode cX6_read 6 = .ok (.invokestatic 50, 3) := by decide +kernel
theorem dX6_read_9 : decode cX6_read 9 = .ok (.ifCond .eq 28, 3) := by decide +kernel
theorem dX6_read_12 : decode cX6_read 12 = .ok (.iload_n 2, 1) := by decide +kernel
theorem dX6_read_13 : decode cX6_read 13 = .ok (.i2l, 1) := by decide +kernel
theorem dX6_read_14 : decode cX6_read 14 = .ok (.lconst 0, 1) := by decide +kernel
theorem dX6_read_15 : decode cX6_read 15 = .ok (.ldc2_w 143, 3) := by decide +kernel
theorem dX6_read_18 : decode cX6_read 18 = .ok (.invokestatic 50, 3) := by decide +kernel
theorem dX6_read_21 : decode cX6_read 21 = .ok (.ifCond .eq 16, 3) := by decide +kernel
theorem dX6_read_24 : decode cX6_read 24 = .ok (.iload 4, 2) := by decide +kernel
theorem dX6_read_26 : decode cX6_read 26 = .ok (.i2l, 1) := by decide +kernel
theorem dX6_read_27 : decode cX6_read 27 = .ok (.lconst 0, 1) := by decide +kernel
theorem dX6_read_28 : decode cX6_read 28 = .ok (.ldc2_w 215, 3) := by decide +kernel
theorem dX6_read_31 : decode cX6_read 31 = .ok (.invokestatic 50, 3) := by decide +kernel
theorem dX6_read_34 : decode cX6_read 34 = .ok (.ifCond .ne 5, 3) := by decide +kernel
theorem dX6_read_37 : decode cX6_read 37 = .ok (.iconst (-1), 1) := by decide +kernel
theorem dX6_read_38 : decode cX6_read 38 = .ok (.ireturn, 1) := by decide +kernel
theorem dX6_read_39 : decode cX6_read 39 = .ok (.aload_n 0, 1) := by decide +kernel
theorem dX6_read_40 : decode cX6_read 40 = .ok (.iconst 0, 1) := by decide +kernel
theorem dX6_read_41 : decode cX6_read 41 = .ok (.bipush 69, 2) := by decide +kernel
theorem dX6_read_43 : decode cX6_read 43 = .ok (.invokevirtual 161, 3) := by decide +kernel
theorem dX6_read_46 : decode cX6_read 46 = .ok (.iconst 0, 1) := by decide +kernel
theorem dX6_read_47 : decode cX6_read 47 = .ok (.istore 5, 2) := by decide +kernel
theorem dX6_read_49 : decode cX6_read 49 = .ok (.iconst 0, 1) := by decide +kernel
theorem dX6_read_50 : decode cX6_read 50 = .ok (.istore 6, 2) := by decide +kernel
theorem dX6_read_52 : decode cX6_read 52 = .ok (.iconst 0, 1) := by decide +kernel
theorem dX6_read_53 : decode cX6_read 53 = .ok (.istore 7, 2) := by decide +kernel
theorem dX6_read_55 : decode cX6_read 55 = .ok (.iload 7, 2) := by decide +kernel
theorem dX6_read_57 : decode cX6_read 57 = .ok (.iconst 2, 1) := by decide +kernel
theorem dX6_read_58 : decode cX6_read 58 = .ok (.iload 4, 2) := by decide +kernel
theorem dX6_read_60 : decode cX6_read 60 = .ok (.imul, 1) := by decide +kernel
theorem dX6_read_61 : decode cX6_read 61 = .ok (.if_icmp .ge 136, 3) := by decide +kernel
theorem dX6_read_64 : decode cX6_read 64 = .ok (.iload 5, 2) := by decide +kernel
theorem dX6_read_66 : decode cX6_read 66 = .ok (.ifCond .ne 131, 3) := by decide +kernel
theorem dX6_read_69 : decode cX6_read 69 = .ok (.aload_n 0, 1) := by decide +kernel
theorem dX6_read_70 : decode cX6_read 70 = .ok (.getfield 39, 3) := by decide +kernel
theorem dX6_read_73 : decode cX6_read 73 = .ok (.iload_n 1, 1) := by decide +kernel
theorem dX6_read_74 : decode cX6_read 74 = .ok (.iaload, 1) := by decide +kernel
theorem dX6_read_75 : decode cX6_read 75 = .ok (.bipush (-4), 2) := by decide +kernel
theorem dX6_read_77 : decode cX6_read 77 = .ok (.if_icmp .ne 7, 3) := by decide +kernel
theorem dX6_read_80 : decode cX6_read 80 = .ok (.iconst 1, 1) := by decide +kernel
theorem dX6_read_81 : decode cX6_read 81 = .ok (.goto 44, 3) := by decide +kernel
theorem dX6_read_84 : decode cX6_read 84 = .ok (.aload_n 0, 1) := by decide +kernel
theorem dX6_read_85 : decode cX6_read 85 = .ok (.getfield 39, 3) := by decide +kernel
theorem dX6_read_88 : decode cX6_read 88 = .ok (.iload_n 1, 1) := by decide +kernel
theorem dX6_read_89 : decode cX6_read 89 = .ok (.iaload, 1) := by decide +kernel
theorem dX6_read_90 : decode cX6_read 90 = .ok (.iload_n 2, 1) := by decide +kernel
theorem dX6_read_91 : decode cX6_read 91 = .ok (.if_icmp .eq 7, 3) := by decide +kernel
theorem dX6_read_94 : decode cX6_read 94 = .ok (.iconst 3, 1) := by decide +kernel
theorem dX6_read_95 : decode cX6_read 95 = .ok (.goto 30, 3) := by decide +kernel
theorem dX6_read_98 : decode cX6_read 98 = .ok (.iload_n 3, 1) := by decide +kernel
theorem dX6_read_99 : decode cX6_read 99 = .ok (.i2l, 1) := by decide +kernel
theorem dX6_read_100 : decode cX6_read 100 = .ok (.iload 7, 2) := by decide +kernel
theorem dX6_read_102 : decode cX6_read 102 = .ok (.i2l, 1) := by decide +kernel
theorem dX6_read_103 : decode cX6_read 103 = .ok (.ladd, 1) := by decide +kernel
theorem dX6_read_104 : decode cX6_read 104 = .ok (.lconst 0, 1) := by decide +kernel
theorem dX6_read_105 : decode cX6_read 105 = .ok (.aload_n 0, 1) := by decide +kernel
theorem dX6_read_106 : decode cX6_read 106 = .ok (.getfield 42, 3) := by decide +kernel
theorem dX6_read_109 : decode cX6_read 109 = .ok (.iload_n 1, 1) := by decide +kernel
theorem dX6_read_110 : decode cX6_read 110 = .ok (.iaload, 1) := by decide +kernel
theorem dX6_read_111 : decode cX6_read 111 = .ok (.iconst 1, 1) := by decide +kernel
theorem dX6_read_112 : decode cX6_read 112 = .ok (.isub, 1) := by decide +kernel
theorem dX6_read_113 : decode cX6_read 113 = .ok (.i2l, 1) := by decide +kernel
theorem dX6_read_114 : decode cX6_read 114 = .ok (.invokestatic 50, 3) := by decide +kernel
theorem dX6_read_117 : decode cX6_read 117 = .ok (.ifCond .ne 7, 3) := by decide +kernel
theorem dX6_read_120 : decode cX6_read 120 = .ok (.iconst 2, 1) := by decide +kernel
theorem dX6_read_121 : decode cX6_read 121 = .ok (.goto 4, 3) := by decide +kernel
theorem dX6_read_124 : decode cX6_read 124 = .ok (.iconst 0, 1) := by decide +kernel
theorem dX6_read_125 : decode cX6_read 125 = .ok (.istore 5, 2) := by decide +kernel
theorem dX6_read_127 : decode cX6_read 127 = .ok (.iload 5, 2) := by decide +kernel
theorem dX6_read_129 : decode cX6_read 129 = .ok (.ifCond .ne 62, 3) := by decide +kernel
theorem dX6_read_132 : decode cX6_read 132 = .ok (.iload 7, 2) := by decide +kernel
theorem dX6_read_134 : decode cX6_read 134 = .ok (.iconst 2, 1) := by decide +kernel
theorem dX6_read_135 : decode cX6_read 135 = .ok (.irem, 1) := by decide +kernel
theorem dX6_read_136 : decode cX6_read 136 = .ok (.iconst 1, 1) := by decide +kernel
theorem dX6_read_137 : decode cX6_read 137 = .ok (.if_icmp .ne 54, 3) := by decide +kernel
theorem dX6_read_140 : decode cX6_read 140 = .ok (.bipush 40, 2) := by decide +kernel
theorem dX6_read_142 : decode cX6_read 142 = .ok (.iload_n 1, 1) := by decide +kernel
theorem dX6_read_143 : decode cX6_read 143 = .ok (.imul, 1) := by decide +kernel
theorem dX6_read_144 : decode cX6_read 144 = .ok (.iload_n 3, 1) := by decide +kernel
theorem dX6_read_145 : decode cX6_read 145 = .ok (.iadd, 1) := by decide +kernel
theorem dX6_read_146 : decode cX6_read 146 = .ok (.iload 7, 2) := by decide +kernel
theorem dX6_read_148 : decode cX6_read 148 = .ok (.iadd, 1) := by decide +kernel
theorem dX6_read_149 : decode cX6_read 149 = .ok (.istore 8, 2) := by decide +kernel
theorem dX6_read_151 : decode cX6_read 151 = .ok (.aload_n 0, 1) := by decide +kernel
theorem dX6_read_152 : decode cX6_read 152 = .ok (.aload_n 0, 1) := by decide +kernel
theorem dX6_read_153 : decode cX6_read 153 = .ok (.getfield 45, 3) := by decide +kernel
theorem dX6_read_156 : decode cX6_read 156 = .ok (.iload 8, 2) := by decide +kernel
theorem dX6_read_158 : decode cX6_read 158 = .ok (.iconst 1, 1) := by decide +kernel
theorem dX6_read_159 : decode cX6_read 159 = .ok (.isub, 1) := by decide +kernel
theorem dX6_read_160 : decode cX6_read 160 = .ok (.iaload, 1) := by decide +kernel
theorem dX6_read_161 : decode cX6_read 161 = .ok (.iconst 2, 1) := by decide +kernel
theorem dX6_read_162 : decode cX6_read 162 = .ok (.aload_n 0, 1) := by decide +kernel
theorem dX6_read_163 : decode cX6_read 163 = .ok (.getfield 45, 3) := by decide +kernel
theorem dX6_read_166 : decode cX6_read 166 = .ok (.iload 8, 2) := by decide +kernel
theorem dX6_read_168 : decode cX6_read 168 = .ok (.iaload, 1) := by decide +kernel
theorem dX6_read_169 : decode cX6_read 169 = .ok (.invokevirtual 149, 3) := by decide +kernel
theorem dX6_read_172 : decode cX6_read 172 = .ok (.ifCond .ge 16, 3) := by decide +kernel
theorem dX6_read_175 : decode cX6_read 175 = .ok (.aload_n 0, 1) := by decide +kernel
theorem dX6_read_176 : decode cX6_read 176 = .ok (.bipush 69, 2) := by decide +kernel
theorem dX6_read_178 : decode cX6_read 178 = .ok (.iconst 0, 1) := by decide +kernel
theorem dX6_read_179 : decode cX6_read 179 = .ok (.invokevirtual 161, 3) := by decide +kernel
theorem dX6_read_182 : decode cX6_read 182 = .ok (.bipush (-20), 2) := by decide +kernel
theorem dX6_read_184 : decode cX6_read 184 = .ok (.iload 6, 2) := by decide +kernel
theorem dX6_read_186 : decode cX6_read 186 = .ok (.isub, 1) := by decide +kernel
theorem dX6_read_187 : decode cX6_read 187 = .ok (.ireturn, 1) := by decide +kernel
theorem dX6_read_188 : decode cX6_read 188 = .ok (.iinc 6 1, 3) := by decide +kernel
theorem dX6_read_191 : decode cX6_read 191 = .ok (.iinc 7 1, 3) := by decide +kernel
theorem dX6_read_194 : decode cX6_read 194 = .ok (.goto (-139), 3) := by decide +kernel
theorem dX6_read_197 : decode cX6_read 197 = .ok (.aload_n 0, 1) := by decide +kernel
theorem dX6_read_198 : decode cX6_read 198 = .ok (.iload 5, 2) := by decide +kernel
theorem dX6_read_200 : decode cX6_read 200 = .ok (.putfield 217, 3) := by decide +kernel
theorem dX6_read_203 : decode cX6_read 203 = .ok (.iload 6, 2) := by decide +kernel
theorem dX6_read_205 : decode cX6_read 205 = .ok (.ireturn, 1) := by decide +kernel
theorem dX6_torn_0 : decode cX6_torn 0 = .ok (.aload_n 0, 1) := by decide +kernel
theorem dX6_torn_1 : decode cX6_torn 1 = .ok (.getfield 217, 3) := by decide +kernel
theorem dX6_torn_4 : decode cX6_torn 4 = .ok (.ireturn, 1) := by decide +kernel
theorem dX6_count_0 : decode cX6_count 0 = .ok (.iload_n 1, 1) := by decide +kernel
theorem dX6_count_1 : decode cX6_count 1 = .ok (.tableswitch 116 0 5 #[39, 44, 74, 79, 102, 109], 39) := by decide +kernel
theorem dX6_count_40 : decode cX6_count 40 = .ok (.aload_n 0, 1) := by decide +kernel
theorem dX6_count_41 : decode cX6_count 41 = .ok (.getfield 117, 3) := by decide +kernel
theorem dX6_count_44 : decode cX6_count 44 = .ok (.ireturn, 1) := by decide +kernel
theorem dX6_count_45 : decode cX6_count 45 = .ok (.aload_n 0, 1) := by decide +kernel
theorem dX6_count_46 : decode cX6_count 46 = .ok (.getfield 35, 3) := by decide +kernel
theorem dX6_count_49 : decode cX6_count 49 = .ok (.iconst 0, 1) := by decide +kernel
theorem dX6_count_50 : decode cX6_count 50 = .ok (.baload, 1) := by decide +kernel
theorem dX6_count_51 : decode cX6_count 51 = .ok (.ifCond .eq 7, 3) := by decide +kernel
theorem dX6_count_54 : decode cX6_count 54 = .ok (.iconst 1, 1) := by decide +kernel
theorem dX6_count_55 : decode cX6_count 55 = .ok (.goto 4, 3) := by decide +kernel
theorem dX6_count_58 : decode cX6_count 58 = .ok (.iconst 0, 1) := by decide +kernel
theorem dX6_count_59 : decode cX6_count 59 = .ok (.aload_n 0, 1) := by decide +kernel
theorem dX6_count_60 : decode cX6_count 60 = .ok (.getfield 35, 3) := by decide +kernel
theorem dX6_count_63 : decode cX6_count 63 = .ok (.iconst 1, 1) := by decide +kernel
theorem dX6_count_64 : decode cX6_count 64 = .ok (.baload, 1) := by decide +kernel
theorem dX6_count_65 : decode cX6_count 65 = .ok (.ifCond .eq 7, 3) := by decide +kernel
theorem dX6_count_68 : decode cX6_count 68 = .ok (.iconst 1, 1) := by decide +kernel
theorem dX6_count_69 : decode cX6_count 69 = .ok (.goto 4, 3) := by decide +kernel
theorem dX6_count_72 : decode cX6_count 72 = .ok (.iconst 0, 1) := by decide +kernel
theorem dX6_count_73 : decode cX6_count 73 = .ok (.iadd, 1) := by decide +kernel
theorem dX6_count_74 : decode cX6_count 74 = .ok (.ireturn, 1) := by decide +kernel
theorem dX6_count_75 : decode cX6_count 75 = .ok (.aload_n 0, 1) := by decide +kernel
theorem dX6_count_76 : decode cX6_count 76 = .ok (.getfield 54, 3) := by decide +kernel
theorem dX6_count_79 : decode cX6_count 79 = .ok (.ireturn, 1) := by decide +kernel
theorem dX6_count_80 : decode cX6_count 80 = .ok (.aload_n 0, 1) := by decide +kernel
theorem dX6_count_81 : decode cX6_count 81 = .ok (.getfield 39, 3) := by decide +kernel
theorem dX6_count_84 : decode cX6_count 84 = .ok (.iconst 0, 1) := by decide +kernel
theorem dX6_count_85 : decode cX6_count 85 = .ok (.iaload, 1) := by decide +kernel
theorem dX6_count_86 : decode cX6_count 86 = .ok (.bipush (-4), 2) := by decide +kernel
theorem dX6_count_88 : decode cX6_count 88 = .ok (.if_icmp .ne 8, 3) := by decide +kernel
theorem dX6_count_91 : decode cX6_count 91 = .ok (.bipush (-4), 2) := by decide +kernel
theorem dX6_count_93 : decode cX6_count 93 = .ok (.goto 9, 3) := by decide +kernel
theorem dX6_count_96 : decode cX6_count 96 = .ok (.aload_n 0, 1) := by decide +kernel
theorem dX6_count_97 : decode cX6_count 97 = .ok (.getfield 42, 3) := by decide +kernel
theorem dX6_count_100 : decode cX6_count 100 = .ok (.iconst 0, 1) := by decide +kernel
theorem dX6_count_101 : decode cX6_count 101 = .ok (.iaload, 1) := by decide +kernel
theorem dX6_count_102 : decode cX6_count 102 = .ok (.ireturn, 1) := by decide +kernel
theorem dX6_count_103 : decode cX6_count 103 = .ok (.aload_n 0, 1) := by decide +kernel
theorem dX6_count_104 : decode cX6_count 104 = .ok (.iconst 0, 1) := by decide +kernel
theorem dX6_count_105 : decode cX6_count 105 = .ok (.iconst 5, 1) := by decide +kernel
theorem dX6_count_106 : decode cX6_count 106 = .ok (.invokevirtual 134, 3) := by decide +kernel
theorem dX6_count_109 : decode cX6_count 109 = .ok (.ireturn, 1) := by decide +kernel
theorem dX6_count_110 : decode cX6_count 110 = .ok (.aload_n 0, 1) := by decide +kernel
theorem dX6_count_111 : decode cX6_count 111 = .ok (.iconst 0, 1) := by decide +kernel
theorem dX6_count_112 : decode cX6_count 112 = .ok (.iconst 0, 1) := by decide +kernel
theorem dX6_count_113 : decode cX6_count 113 = .ok (.invokevirtual 134, 3) := by decide +kernel
theorem dX6_count_116 : decode cX6_count 116 = .ok (.ireturn, 1) := by decide +kernel
theorem dX6_count_117 : decode cX6_count 117 = .ok (.iconst (-1), 1) := by decide +kernel
theorem dX6_count_118 : decode cX6_count 118 = .ok (.ireturn, 1) := by decide +kernel
