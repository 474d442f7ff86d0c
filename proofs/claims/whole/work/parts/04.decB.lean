theorem dX5_init_0 : decode cX5_init 0 = .ok (.aload_n 0, 1) := by decide +kernel
theorem dX5_init_1 : decode cX5_init 1 = .ok (.invokespecial 3, 3) := by decide +kernel
theorem dX5_init_4 : decode cX5_init 4 = .ok (.aload_n 0, 1) := by decide +kernel
theorem dX5_init_5 : decode cX5_init 5 = .ok (.new 9, 3) := by decide +kernel
theorem dX5_init_8 : decode cX5_init 8 = .ok (.dup, 1) := by decide +kernel
theorem dX5_init_9 : decode cX5_init 9 = .ok (.invokespecial 11, 3) := by decide +kernel
theorem dX5_init_12 : decode cX5_init 12 = .ok (.putfield 12, 3) := by decide +kernel
theorem dX5_init_15 : decode cX5_init 15 = .ok (.aload_n 0, 1) := by decide +kernel
theorem dX5_init_16 : decode cX5_init 16 = .ok (.new 9, 3) := by decide +kernel
theorem dX5_init_19 : decode cX5_init 19 = .ok (.dup, 1) := by decide +kernel
theorem dX5_init_20 : decode cX5_init 20 = .ok (.invokespecial 11, 3) := by decide +kernel
theorem dX5_init_23 : decode cX5_init 23 = .ok (.putfield 16, 3) := by decide +kernel
theorem dX5_init_26 : decode cX5_init 26 = .ok (.aload_n 0, 1) := by decide +kernel
theorem dX5_init_27 : decode cX5_init 27 = .ok (.iconst 2, 1) := by decide +kernel
theorem dX5_init_28 : decode cX5_init 28 = .ok (.anewarray 9, 3) := by decide +kernel
theorem dX5_init_31 : decode cX5_init 31 = .ok (.putfield 19, 3) := by decide +kernel
theorem dX5_init_34 : decode cX5_init 34 = .ok (.aload_n 0, 1) := by decide +kernel
theorem dX5_init_35 : decode cX5_init 35 = .ok (.iconst 2, 1) := by decide +kernel
theorem dX5_init_36 : decode cX5_init 36 = .ok (.newarray .boolean, 2) := by decide +kernel
theorem dX5_init_38 : decode cX5_init 38 = .ok (.putfield 23, 3) := by decide +kernel
theorem dX5_init_41 : decode cX5_init 41 = .ok (.aload_n 0, 1) := by decide +kernel
theorem dX5_init_42 : decode cX5_init 42 = .ok (.new 27, 3) := by decide +kernel
theorem dX5_init_45 : decode cX5_init 45 = .ok (.dup, 1) := by decide +kernel
theorem dX5_init_46 : decode cX5_init 46 = .ok (.invokespecial 29, 3) := by decide +kernel
theorem dX5_init_49 : decode cX5_init 49 = .ok (.putfield 30, 3) := by decide +kernel
theorem dX5_init_52 : decode cX5_init 52 = .ok (.aload_n 0, 1) := by decide +kernel
theorem dX5_init_53 : decode cX5_init 53 = .ok (.new 34, 3) := by decide +kernel
theorem dX5_init_56 : decode cX5_init 56 = .ok (.dup, 1) := by decide +kernel
theorem dX5_init_57 : decode cX5_init 57 = .ok (.invokespecial 36, 3) := by decide +kernel
theorem dX5_init_60 : decode cX5_init 60 = .ok (.putfield 37, 3) := by decide +kernel
theorem dX5_init_63 : decode cX5_init 63 = .ok (.aload_n 0, 1) := by decide +kernel
theorem dX5_init_64 : decode cX5_init 64 = .ok (.iconst 4, 1) := by decide +kernel
theorem dX5_init_65 : decode cX5_init 65 = .ok (.anewarray 41, 3) := by decide +kernel
theorem dX5_init_68 : decode cX5_init 68 = .ok (.putfield 43, 3) := by decide +kernel
theorem dX5_init_71 : decode cX5_init 71 = .ok (.aload_n 0, 1) := by decide +kernel
theorem dX5_init_72 : decode cX5_init 72 = .ok (.new 47, 3) := by decide +kernel
theorem dX5_init_75 : decode cX5_init 75 = .ok (.dup, 1) := by decide +kernel
theorem dX5_init_76 : decode cX5_init 76 = .ok (.invokespecial 49, 3) := by decide +kernel
theorem dX5_init_79 : decode cX5_init 79 = .ok (.putfield 50, 3) := by decide +kernel
theorem dX5_init_82 : decode cX5_init 82 = .ok (.aload_n 0, 1) := by decide +kernel
theorem dX5_init_83 : decode cX5_init 83 = .ok (.bipush 61, 2) := by decide +kernel
theorem dX5_init_85 : decode cX5_init 85 = .ok (.newarray .int, 2) := by decide +kernel
theorem dX5_init_87 : decode cX5_init 87 = .ok (.putfield 54, 3) := by decide +kernel
theorem dX5_init_90 : decode cX5_init 90 = .ok (.iconst 0, 1) := by decide +kernel
theorem dX5_init_91 : decode cX5_init 91 = .ok (.istore_n 1, 1) := by decide +kernel
theorem dX5_init_92 : decode cX5_init 92 = .ok (.iload_n 1, 1) := by decide +kernel
theorem dX5_init_93 : decode cX5_init 93 = .ok (.iconst 2, 1) := by decide +kernel
theorem dX5_init_94 : decode cX5_init 94 = .ok (.if_icmp .ge 22, 3) := by decide +kernel
theorem dX5_init_97 : decode cX5_init 97 = .ok (.aload_n 0, 1) := by decide +kernel
theorem dX5_init_98 : decode cX5_init 98 = .ok (.getfield 19, 3) := by decide +kernel
theorem dX5_init_101 : decode cX5_init 101 = .ok (.iload_n 1, 1) := by decide +kernel
theorem dX5_init_102 : decode cX5_init 102 = .ok (.new 9, 3) := by decide +kernel
theorem dX5_init_105 : decode cX5_init 105 = .ok (.dup, 1) := by decide +kernel
theorem dX5_init_106 : decode cX5_init 106 = .ok (.invokespecial 11, 3) := by decide +kernel
theorem dX5_init_109 : decode cX5_init 109 = .ok (.aastore, 1) := by decide +kernel
theorem dX5_init_110 : decode cX5_init 110 = .ok (.iinc 1 1, 3) := by decide +kernel
theorem dX5_init_113 : decode cX5_init 113 = .ok (.goto (-21), 3) := by decide +kernel
theorem dX5_init_116 : decode cX5_init 116 = .ok (.iconst 0, 1) := by decide +kernel
theorem dX5_init_117 : decode cX5_init 117 = .ok (.istore_n 1, 1) := by decide +kernel
theorem dX5_init_118 : decode cX5_init 118 = .ok (.iload_n 1, 1) := by decide +kernel
theorem dX5_init_119 : decode cX5_init 119 = .ok (.iconst 4, 1) := by decide +kernel
theorem dX5_init_120 : decode cX5_init 120 = .ok (.if_icmp .ge 22, 3) := by decide +kernel
theorem dX5_init_123 : decode cX5_init 123 = .ok (.aload_n 0, 1) := by decide +kernel
theorem dX5_init_124 : decode cX5_init 124 = .ok (.getfield 43, 3) := by decide +kernel
theorem dX5_init_127 : decode cX5_init 127 = .ok (.iload_n 1, 1) := by decide +kernel
theorem dX5_init_128 : decode cX5_init 128 = .ok (.new 41, 3) := by decide +kernel
theorem dX5_init_131 : decode cX5_init 131 = .ok (.dup, 1) := by decide +kernel
theorem dX5_init_132 : decode cX5_init 132 = .ok (.invokespecial 58, 3) := by decide +kernel
theorem dX5_init_135 : decode cX5_init 135 = .ok (.aastore, 1) := by decide +kernel
theorem dX5_init_136 : decode cX5_init 136 = .ok (.iinc 1 1, 3) := by decide +kernel
theorem dX5_init_139 : decode cX5_init 139 = .ok (.goto (-21), 3) := by decide +kernel
theorem dX5_init_142 : decode cX5_init 142 = .ok (.return_, 1) := by decide +kernel
theorem dX5_feed_0 : decode cX5_feed 0 = .ok (.iload_n 1, 1) := by decide +kernel
theorem dX5_feed_1 : decode cX5_feed 1 = .ok (.iconst 0, 1) := by decide +kernel
theorem dX5_feed_2 : decode cX5_feed 2 = .ok (.bipush 127, 2) := by decide +kernel
theorem dX5_feed_4 : decode cX5_feed 4 = .ok (.invokestatic 59, 3) := by decide +kernel
theorem dX5_feed_7 : decode cX5_feed 7 = .ok (.ifCond .ne 5, 3) := by decide +kernel
theorem dX5_feed_10 : decode cX5_feed 10 = .ok (.iconst (-1), 1) := by decide +kernel
theorem dX5_feed_11 : decode cX5_feed 11 = .ok (.ireturn, 1) := by decide +kernel
theorem dX5_feed_12 : decode cX5_feed 12 = .ok (.aload_n 0, 1) := by decide +kernel
theorem dX5_feed_13 : decode cX5_feed 13 = .ok (.getfield 30, 3) := by decide +kernel
theorem dX5_feed_16 : decode cX5_feed 16 = .ok (.getfield 63, 3) := by decide +kernel
theorem dX5_feed_19 : decode cX5_feed 19 = .ok (.sipush 160, 3) := by decide +kernel
theorem dX5_feed_22 : decode cX5_feed 22 = .ok (.if_icmp .lt 6, 3) := by decide +kernel
theorem dX5_feed_25 : decode cX5_feed 25 = .ok (.bipush (-3), 2) := by decide +kernel
theorem dX5_feed_27 : decode cX5_feed 27 = .ok (.ireturn, 1) := by decide +kernel
theorem dX5_feed_28 : decode cX5_feed 28 = .ok (.aload_n 0, 1) := by decide +kernel
theorem dX5_feed_29 : decode cX5_feed 29 = .ok (.getfield 30, 3) := by decide +kernel
theorem dX5_feed_32 : decode cX5_feed 32 = .ok (.getfield 67, 3) := by decide +kernel
theorem dX5_feed_35 : decode cX5_feed 35 = .ok (.aload_n 0, 1) := by decide +kernel
theorem dX5_feed_36 : decode cX5_feed 36 = .ok (.getfield 30, 3) := by decide +kernel
theorem dX5_feed_39 : decode cX5_feed 39 = .ok (.getfield 63, 3) := by decide +kernel
theorem dX5_feed_42 : decode cX5_feed 42 = .ok (.iload_n 1, 1) := by decide +kernel
theorem dX5_feed_43 : decode cX5_feed 43 = .ok (.i2b, 1) := by decide +kernel
theorem dX5_feed_44 : decode cX5_feed 44 = .ok (.bastore, 1) := by decide +kernel
theorem dX5_feed_45 : decode cX5_feed 45 = .ok (.aload_n 0, 1) := by decide +kernel
theorem dX5_feed_46 : decode cX5_feed 46 = .ok (.getfield 30, 3) := by decide +kernel
theorem dX5_feed_49 : decode cX5_feed 49 = .ok (.dup, 1) := by decide +kernel
theorem dX5_feed_50 : decode cX5_feed 50 = .ok (.getfield 63, 3) := by decide +kernel
theorem dX5_feed_53 : decode cX5_feed 53 = .ok (.iconst 1, 1) := by decide +kernel
theorem dX5_feed_54 : decode cX5_feed 54 = .ok (.iadd, 1) := by decide +kernel
theorem dX5_feed_55 : decode cX5_feed 55 = .ok (.putfield 63, 3) := by decide +kernel
theorem dX5_feed_58 : decode cX5_feed 58 = .ok (.aload_n 0, 1) := by decide +kernel
theorem dX5_feed_59 : decode cX5_feed 59 = .ok (.getfield 30, 3) := by decide +kernel
theorem dX5_feed_62 : decode cX5_feed 62 = .ok (.getfield 63, 3) := by decide +kernel
theorem dX5_feed_65 : decode cX5_feed 65 = .ok (.ireturn, 1) := by decide +kernel
theorem dX5_end_0 : decode cX5_end 0 = .ok (.iload_n 1, 1) := by decide +kernel
theorem dX5_end_1 : decode cX5_end 1 = .ok (.iconst 0, 1) := by decide +kernel
theorem dX5_end_2 : decode cX5_end 2 = .ok (.aload_n 0, 1) := by decide +kernel
theorem dX5_end_3 : decode cX5_end 3 = .ok (.getfield 30, 3) := by decide +kernel
theorem dX5_end_6 : decode cX5_end 6 = .ok (.getfield 63, 3) := by decide +kernel
theorem dX5_end_9 : decode cX5_end 9 = .ok (.invokestatic 59, 3) := by decide +kernel
theorem dX5_end_12 : decode cX5_end 12 = .ok (.ifCond .ne 5, 3) := by decide +kernel
theorem dX5_end_15 : decode cX5_end 15 = .ok (.iconst (-1), 1) := by decide +kernel
theorem dX5_end_16 : decode cX5_end 16 = .ok (.ireturn, 1) := by decide +kernel
theorem dX5_end_17 : decode cX5_end 17 = .ok (.aload_n 0, 1) := by decide +kernel
theorem dX5_end_18 : decode cX5_end 18 = .ok (.getfield 30, 3) := by decide +kernel
theorem dX5_end_21 : decode cX5_end 21 = .ok (.getfield 63, 3) := by decide +kernel
theorem dX5_end_24 : decode cX5_end 24 = .ok (.istore_n 2, 1) := by decide +kernel
theorem dX5_end_25 : decode cX5_end 25 = .ok (.aload_n 0, 1) := by decide +kernel
theorem dX5_end_26 : decode cX5_end 26 = .ok (.getfield 30, 3) := by decide +kernel
theorem dX5_end_29 : decode cX5_end 29 = .ok (.iload_n 1, 1) := by decide +kernel
theorem dX5_end_30 : decode cX5_end 30 = .ok (.putfield 63, 3) := by decide +kernel
theorem dX5_end_33 : decode cX5_end 33 = .ok (.iload_n 2, 1) := by decide +kernel
theorem dX5_end_34 : decode cX5_end 34 = .ok (.ireturn, 1) := by decide +kernel
theorem dX5_text_0 : decode cX5_text 0 = .ok (.aload_n 0, 1) := by decide +kernel
theorem dX5_text_1 : decode cX5_text 1 = .ok (.getfield 16, 3) := by decide +kernel
theorem dX5_text_4 : decode cX5_text 4 = .ok (.invokevirtual 71, 3) := by decide +kernel
theorem dX5_text_7 : decode cX5_text 7 = .ok (.aload_n 0, 1) := by decide +kernel
theorem dX5_text_8 : decode cX5_text 8 = .ok (.getfield 30, 3) := by decide +kernel
theorem dX5_text_11 : decode cX5_text 11 = .ok (.aload_n 0, 1) := by decide +kernel
theorem dX5_text_12 : decode cX5_text 12 = .ok (.getfield 16, 3) := by decide +kernel
theorem dX5_text_15 : decode cX5_text 15 = .ok (.invokevirtual 74, 3) := by decide +kernel
theorem dX5_text_18 : decode cX5_text 18 = .ok (.aload_n 0, 1) := by decide +kernel
theorem dX5_text_19 : decode cX5_text 19 = .ok (.getfield 30, 3) := by decide +kernel
theorem dX5_text_22 : decode cX5_text 22 = .ok (.iconst 0, 1) := by decide +kernel
theorem dX5_text_23 : decode cX5_text 23 = .ok (.putfield 63, 3) := by decide +kernel
theorem dX5_text_26 : decode cX5_text 26 = .ok (.aload_n 0, 1) := by decide +kernel
theorem dX5_text_27 : decode cX5_text 27 = .ok (.aload_n 0, 1) := by decide +kernel
theorem dX5_text_28 : decode cX5_text 28 = .ok (.getfield 30, 3) := by decide +kernel
theorem dX5_text_31 : decode cX5_text 31 = .ok (.getfield 78, 3) := by decide +kernel
theorem dX5_text_34 : decode cX5_text 34 = .ok (.putfield 81, 3) := by decide +kernel
theorem dX5_text_37 : decode cX5_text 37 = .ok (.aload_n 0, 1) := by decide +kernel
theorem dX5_text_38 : decode cX5_text 38 = .ok (.getfield 81, 3) := by decide +kernel
theorem dX5_text_41 : decode cX5_text 41 = .ok (.ifCond .eq 14, 3) := by decide +kernel
theorem dX5_text_44 : decode cX5_text 44 = .ok (.bipush (-10), 2) := by decide +kernel
theorem dX5_text_46 : decode cX5_text 46 = .ok (.aload_n 0, 1) := by decide +kernel
theorem dX5_text_47 : decode cX5_text 47 = .ok (.getfield 30, 3) := by decide +kernel
theorem dX5_text_50 : decode cX5_text 50 = .ok (.getfield 84, 3) := by decide +kernel
theorem dX5_text_53 : decode cX5_text 53 = .ok (.isub, 1) := by decide +kernel
theorem dX5_text_54 : decode cX5_text 54 = .ok (.ireturn, 1) := by decide +kernel
theorem dX5_text_55 : decode cX5_text 55 = .ok (.aload_n 0, 1) := by decide +kernel
theorem dX5_text_56 : decode cX5_text 56 = .ok (.getfield 12, 3) := by decide +kernel
theorem dX5_text_59 : decode cX5_text 59 = .ok (.aload_n 0, 1) := by decide +kernel
theorem dX5_text_60 : decode cX5_text 60 = .ok (.getfield 16, 3) := by decide +kernel
theorem dX5_text_63 : decode cX5_text 63 = .ok (.invokevirtual 87, 3) := by decide +kernel
theorem dX5_text_66 : decode cX5_text 66 = .ok (.aload_n 0, 1) := by decide +kernel
theorem dX5_text_67 : decode cX5_text 67 = .ok (.getfield 37, 3) := by decide +kernel
theorem dX5_text_70 : decode cX5_text 70 = .ok (.iconst 0, 1) := by decide +kernel
theorem dX5_text_71 : decode cX5_text 71 = .ok (.putfield 90, 3) := by decide +kernel
theorem dX5_text_74 : decode cX5_text 74 = .ok (.iconst 0, 1) := by decide +kernel
theorem dX5_text_75 : decode cX5_text 75 = .ok (.istore_n 1, 1) := by decide +kernel
theorem dX5_text_76 : decode cX5_text 76 = .ok (.iload_n 1, 1) := by decide +kernel
theorem dX5_text_77 : decode cX5_text 77 = .ok (.iconst 2, 1) := by decide +kernel
theorem dX5_text_78 : decode cX5_text 78 = .ok (.if_icmp .ge 16, 3) := by decide +kernel
theorem dX5_text_81 : decode cX5_text 81 = .ok (.aload_n 0, 1) := by decide +kernel
theorem dX5_text_82 : decode cX5_text 82 = .ok (.getfield 23, 3) := by decide +kernel
theorem dX5_text_85 : decode cX5_text 85 = .ok (.iload_n 1, 1) := by decide +kernel
theorem dX5_text_86 : decode cX5_text 86 = .ok (.iconst 0, 1) := by decide +kernel
theorem dX5_text_87 : decode cX5_text 87 = .ok (.bastore, 1) := by decide +kernel
theorem dX5_text_88 : decode cX5_text 88 = .ok (.iinc 1 1, 3) := by decide +kernel
theorem dX5_text_91 : decode cX5_text 91 = .ok (.goto (-15), 3) := by decide +kernel
theorem dX5_text_94 : decode cX5_text 94 = .ok (.aload_n 0, 1) := by decide +kernel
theorem dX5_text_95 : decode cX5_text 95 = .ok (.getfield 30, 3) := by decide +kernel
theorem dX5_text_98 : decode cX5_text 98 = .ok (.getfield 93, 3) := by decide +kernel
theorem dX5_text_101 : decode cX5_text 101 = .ok (.ireturn, 1) := by decide +kernel
theorem dX5_fault_0 : decode cX5_fault 0 = .ok (.aload_n 0, 1) := by decide +kernel
theorem dX5_fault_1 : decode cX5_fault 1 = .ok (.getfield 81, 3) := by decide +kernel
theorem dX5_fault_4 : decode cX5_fault 4 = .ok (.ireturn, 1) := by decide +kernel
theorem dX5_rule_0 : decode cX5_rule 0 = .ok (.iload_n 1, 1) := by decide +kernel
theorem dX5_rule_1 : decode cX5_rule 1 = .ok (.tableswitch 96 0 5 #[39, 47, 55, 63, 75, 84], 39) := by decide +kernel
theorem dX5_rule_40 : decode cX5_rule 40 = .ok (.aload_n 0, 1) := by decide +kernel
theorem dX5_rule_41 : decode cX5_rule 41 = .ok (.getfield 12, 3) := by decide +kernel
theorem dX5_rule_44 : decode cX5_rule 44 = .ok (.getfield 96, 3) := by decide +kernel
theorem dX5_rule_47 : decode cX5_rule 47 = .ok (.ireturn, 1) := by decide +kernel
theorem dX5_rule_48 : decode cX5_rule 48 = .ok (.aload_n 0, 1) := by decide +kernel
theorem dX5_rule_49 : decode cX5_rule 49 = .ok (.getfield 12, 3) := by decide +kernel
theorem dX5_rule_52 : decode cX5_rule 52 = .ok (.getfield 99, 3) := by decide +kernel
theorem dX5_rule_55 : decode cX5_rule 55 = .ok (.ireturn, 1) := by decide +kernel
theorem dX5_rule_56 : decode cX5_rule 56 = .ok (.aload_n 0, 1) := by decide +kernel
theorem dX5_rule_57 : decode cX5_rule 57 = .ok (.getfield 12, 3) := by decide +kernel
theorem dX5_rule_60 : decode cX5_rule 60 = .ok (.getfield 102, 3) := by decide +kernel
theorem dX5_rule_63 : decode cX5_rule 63 = .ok (.ireturn, 1) := by decide +kernel
theorem dX5_rule_64 : decode cX5_rule 64 = .ok (.aload_n 0, 1) := by decide +kernel
theorem dX5_rule_65 : decode cX5_rule 65 = .ok (.aload_n 0, 1) := by decide +kernel
theorem dX5_rule_66 : decode cX5_rule 66 = .ok (.getfield 12, 3) := by decide +kernel
theorem dX5_rule_69 : decode cX5_rule 69 = .ok (.getfield 105, 3) := by decide +kernel
theorem dX5_rule_72 : decode cX5_rule 72 = .ok (.invokevirtual 108, 3) := by decide +kernel
theorem dX5_rule_75 : decode cX5_rule 75 = .ok (.ireturn, 1) := by decide +kernel
theorem dX5_rule_76 : decode cX5_rule 76 = .ok (.aload_n 0, 1) := by decide +kernel
theorem dX5_rule_77 : decode cX5_rule 77 = .ok (.invokevirtual 112, 3) := by decide +kernel
theorem dX5_rule_80 : decode cX5_rule 80 = .ok (.iconst 0, 1) := by decide +kernel
theorem dX5_rule_81 : decode cX5_rule 81 = .ok (.invokevirtual 116, 3) := by decide +kernel
theorem dX5_rule_84 : decode cX5_rule 84 = .ok (.ireturn, 1) := by decide +kernel
theorem dX5_rule_85 : decode cX5_rule 85 = .ok (.aload_n 0, 1) := by decide +kernel
theorem dX5_rule_86 : decode cX5_rule 86 = .ok (.aload_n 0, 1) := by decide +kernel
theorem dX5_rule_87 : decode cX5_rule 87 = .ok (.getfield 12, 3) := by decide +kernel
theorem dX5_rule_90 : decode cX5_rule 90 = .ok (.getfield 120, 3) := by decide +kernel
theorem dX5_rule_93 : decode cX5_rule 93 = .ok (.invokevirtual 108, 3) := by decide +kernel
theorem dX5_rule_96 : decode cX5_rule 96 = .ok (.ireturn, 1) := by decide +kernel
theorem dX5_rule_97 : decode cX5_rule 97 = .ok (.iconst (-1), 1) := by decide +kernel
theorem dX5_rule_98 : decode cX5_rule 98 = .ok (.ireturn, 1) := by decide +kernel
theorem dX5_clock_0 : decode cX5_clock 0 = .ok (.aload_n 0, 1) := by decide +kernel
theorem dX5_clock_1 : decode cX5_clock 1 = .ok (.iload_n 1, 1) := by decide +kernel
theorem dX5_clock_2 : decode cX5_clock 2 = .ok (.invokevirtual 123, 3) := by decide +kernel
theorem dX5_clock_5 : decode cX5_clock 5 = .ok (.ifCond .ne 5, 3) := by decide +kernel
theorem dX5_clock_8 : decode cX5_clock 8 = .ok (.iconst (-1), 1) := by decide +kernel
theorem dX5_clock_9 : decode cX5_clock 9 = .ok (.ireturn, 1) := by decide +kernel
theorem dX5_clock_10 : decode cX5_clock 10 = .ok (.iload_n 2, 1) := by decide +kernel
theorem dX5_clock_11 : decode cX5_clock 11 = .ok (.tableswitch 90 0 4 #[33, 43, 53, 63, 73], 33) := by decide +kernel
theorem dX5_clock_44 : decode cX5_clock 44 = .ok (.aload_n 0, 1) := by decide +kernel
theorem dX5_clock_45 : decode cX5_clock 45 = .ok (.getfield 12, 3) := by decide +kernel
theorem dX5_clock_48 : decode cX5_clock 48 = .ok (.getfield 127, 3) := by decide +kernel
theorem dX5_clock_51 : decode cX5_clock 51 = .ok (.iload_n 1, 1) := by decide +kernel
theorem dX5_clock_52 : decode cX5_clock 52 = .ok (.iaload, 1) := by decide +kernel
theorem dX5_clock_53 : decode cX5_clock 53 = .ok (.ireturn, 1) := by decide +kernel
theorem dX5_clock_54 : decode cX5_clock 54 = .ok (.aload_n 0, 1) := by decide +kernel
theorem dX5_clock_55 : decode cX5_clock 55 = .ok (.getfield 12, 3) := by decide +kernel
theorem dX5_clock_58 : decode cX5_clock 58 = .ok (.getfield 130, 3) := by decide +kernel
theorem dX5_clock_61 : decode cX5_clock 61 = .ok (.iload_n 1, 1) := by decide +kernel
theorem dX5_clock_62 : decode cX5_clock 62 = .ok (.iaload, 1) := by decide +kernel
theorem dX5_clock_63 : decode cX5_clock 63 = .ok (.ireturn, 1) := by decide +kernel
theorem dX5_clock_64 : decode cX5_clock 64 = .ok (.aload_n 0, 1) := by decide +kernel
theorem dX5_clock_65 : decode cX5_clock 65 = .ok (.getfield 12, 3) := by decide +kernel
theorem dX5_clock_68 : decode cX5_clock 68 = .ok (.getfield 120, 3) := by decide +kernel
theorem dX5_clock_71 : decode cX5_clock 71 = .ok (.iload_n 1, 1) := by decide +kernel
theorem dX5_clock_72 : decode cX5_clock 72 = .ok (.iaload, 1) := by decide +kernel
theorem dX5_clock_73 : decode cX5_clock 73 = .ok (.ireturn, 1) := by decide +kernel
theorem dX5_clock_74 : decode cX5_clock 74 = .ok (.aload_n 0, 1) := by decide +kernel
theorem dX5_clock_75 : decode cX5_clock 75 = .ok (.getfield 12, 3) := by decide +kernel
theorem dX5_clock_78 : decode cX5_clock 78 = .ok (.getfield 105, 3) := by decide +kernel
theorem dX5_clock_81 : decode cX5_clock 81 = .ok (.iload_n 1, 1) := by decide +kernel
theorem dX5_clock_82 : decode cX5_clock 82 = .ok (.iaload, 1) := by decide +kernel
theorem dX5_clock_83 : decode cX5_clock 83 = .ok (.ireturn, 1) := by decide +kernel
theorem dX5_clock_84 : decode cX5_clock 84 = .ok (.aload_n 0, 1) := by decide +kernel
theorem dX5_clock_85 : decode cX5_clock 85 = .ok (.getfield 12, 3) := by decide +kernel
theorem dX5_clock_88 : decode cX5_clock 88 = .ok (.iload_n 1, 1) := by decide +kernel
theorem dX5_clock_89 : decode cX5_clock 89 = .ok (.invokevirtual 133, 3) := by decide +kernel
theorem dX5_clock_92 : decode cX5_clock 92 = .ok (.ifCond .eq 7, 3) := by decide +kernel
theorem dX5_clock_95 : decode cX5_clock 95 = .ok (.iconst 1, 1) := by decide +kernel
theorem dX5_clock_96 : decode cX5_clock 96 = .ok (.goto 4, 3) := by decide +kernel
theorem dX5_clock_99 : decode cX5_clock 99 = .ok (.iconst 0, 1) := by decide +kernel
theorem dX5_clock_100 : decode cX5_clock 100 = .ok (.ireturn, 1) := by decide +kernel
theorem dX5_clock_101 : decode cX5_clock 101 = .ok (.iconst (-1), 1) := by decide +kernel
theorem dX5_clock_102 : decode cX5_clock 102 = .ok (.ireturn, 1) := by decide +kernel
theorem dX5_alter_0 : decode cX5_alter 0 = .ok (.aload_n 0, 1) := by decide +kernel
theorem dX5_alter_1 : decode cX5_alter 1 = .ok (.iload_n 1, 1) := by decide +kernel
theorem dX5_alter_2 : decode cX5_alter 2 = .ok (.invokevirtual 123, 3) := by decide +kernel
theorem dX5_alter_5 : decode cX5_alter 5 = .ok (.ifCond .ne 5, 3) := by decide +kernel
theorem dX5_alter_8 : decode cX5_alter 8 = .ok (.iconst (-1), 1) := by decide +kernel
theorem dX5_alter_9 : decode cX5_alter 9 = .ok (.ireturn, 1) := by decide +kernel
theorem dX5_alter_10 : decode cX5_alter 10 = .ok (.iload_n 2, 1) := by decide +kernel
theorem dX5_alter_11 : decode cX5_alter 11 = .ok (.tableswitch 55 0 2 #[25, 35, 45], 25) := by decide +kernel
theorem dX5_alter_36 : decode cX5_alter 36 = .ok (.aload_n 0, 1) := by decide +kernel
theorem dX5_alter_37 : decode cX5_alter 37 = .ok (.getfield 12, 3) := by decide +kernel
theorem dX5_alter_40 : decode cX5_alter 40 = .ok (.iload_n 1, 1) := by decide +kernel
theorem dX5_alter_41 : decode cX5_alter 41 = .ok (.iload_n 3, 1) := by decide +kernel
theorem dX5_alter_42 : decode cX5_alter 42 = .ok (.invokevirtual 136, 3) := by decide +kernel
theorem dX5_alter_45 : decode cX5_alter 45 = .ok (.ireturn, 1) := by decide +kernel
theorem dX5_alter_46 : decode cX5_alter 46 = .ok (.aload_n 0, 1) := by decide +kernel
theorem dX5_alter_47 : decode cX5_alter 47 = .ok (.getfield 12, 3) := by decide +kernel
theorem dX5_alter_50 : decode cX5_alter 50 = .ok (.iload_n 1, 1) := by decide +kernel
theorem dX5_alter_51 : decode cX5_alter 51 = .ok (.iload_n 3, 1) := by decide +kernel
theorem dX5_alter_52 : decode cX5_alter 52 = .ok (.invokevirtual 140, 3) := by decide +kernel
theorem dX5_alter_55 : decode cX5_alter 55 = .ok (.ireturn, 1) := by decide +kernel
theorem dX5_alter_56 : decode cX5_alter 56 = .ok (.aload_n 0, 1) := by decide +kernel
theorem dX5_alter_57 : decode cX5_alter 57 = .ok (.getfield 12, 3) := by decide +kernel
theorem dX5_alter_60 : decode cX5_alter 60 = .ok (.iload_n 1, 1) := by decide +kernel
theorem dX5_alter_61 : decode cX5_alter 61 = .ok (.iload_n 3, 1) := by decide +kernel
theorem dX5_alter_62 : decode cX5_alter 62 = .ok (.invokevirtual 143, 3) := by decide +kernel
theorem dX5_alter_65 : decode cX5_alter 65 = .ok (.ireturn, 1) := by decide +kernel
theorem dX5_alter_66 : decode cX5_alter 66 = .ok (.iconst (-1), 1) := by decide +kernel
theorem dX5_alter_67 : decode cX5_alter 67 = .ok (.ireturn, 1) := by decide +kernel
theorem dX5_push_0 : decode cX5_push 0 = .ok (.iload_n 1, 1) := by decide +kernel
theorem dX5_push_1 : decode cX5_push 1 = .ok (.iconst 0, 1) := by decide +kernel
theorem dX5_push_2 : decode cX5_push 2 = .ok (.iconst 5, 1) := by decide +kernel
theorem dX5_push_3 : decode cX5_push 3 = .ok (.invokestatic 59, 3) := by decide +kernel
theorem dX5_push_6 : decode cX5_push 6 = .ok (.ifCond .ne 5, 3) := by decide +kernel
theorem dX5_push_9 : decode cX5_push 9 = .ok (.iconst (-1), 1) := by decide +kernel
theorem dX5_push_10 : decode cX5_push 10 = .ok (.ireturn, 1) := by decide +kernel
theorem dX5_push_11 : decode cX5_push 11 = .ok (.aload_n 0, 1) := by decide +kernel
theorem dX5_push_12 : decode cX5_push 12 = .ok (.getfield 12, 3) := by decide +kernel
theorem dX5_push_15 : decode cX5_push 15 = .ok (.getfield 99, 3) := by decide +kernel
theorem dX5_push_18 : decode cX5_push 18 = .ok (.istore_n 2, 1) := by decide +kernel
theorem dX5_push_19 : decode cX5_push 19 = .ok (.aload_n 0, 1) := by decide +kernel
theorem dX5_push_20 : decode cX5_push 20 = .ok (.getfield 12, 3) := by decide +kernel
theorem dX5_push_23 : decode cX5_push 23 = .ok (.iload_n 1, 1) := by decide +kernel
theorem dX5_push_24 : decode cX5_push 24 = .ok (.putfield 99, 3) := by decide +kernel
theorem dX5_push_27 : decode cX5_push 27 = .ok (.iload_n 2, 1) := by decide +kernel
theorem dX5_push_28 : decode cX5_push 28 = .ok (.ireturn, 1) := by decide +kernel
theorem dX5_hang_0 : decode cX5_hang 0 = .ok (.iload_n 1, 1) := by decide +kernel
theorem dX5_hang_1 : decode cX5_hang 1 = .ok (.iconst 0, 1) := by decide +kernel
theorem dX5_hang_2 : decode cX5_hang 2 = .ok (.iconst 3, 1) := by decide +kernel
theorem dX5_hang_3 : decode cX5_hang 3 = .ok (.invokestatic 59, 3) := by decide +kernel
theorem dX5_hang_6 : decode cX5_hang 6 = .ok (.ifCond .eq 13, 3) := by decide +kernel
theorem dX5_hang_9 : decode cX5_hang 9 = .ok (.iload_n 2, 1) := by decide +kernel
theorem dX5_hang_10 : decode cX5_hang 10 = .ok (.iconst 2, 1) := by decide +kernel
theorem dX5_hang_11 : decode cX5_hang 11 = .ok (.bipush 30, 2) := by decide +kernel
theorem dX5_hang_13 : decode cX5_hang 13 = .ok (.invokestatic 59, 3) := by decide +kernel
theorem dX5_hang_16 : decode cX5_hang 16 = .ok (.ifCond .ne 5, 3) := by decide +kernel
theorem dX5_hang_19 : decode cX5_hang 19 = .ok (.iconst (-1), 1) := by decide +kernel
theorem dX5_hang_20 : decode cX5_hang 20 = .ok (.ireturn, 1) := by decide +kernel
theorem dX5_hang_21 : decode cX5_hang 21 = .ok (.aload_n 0, 1) := by decide +kernel
theorem dX5_hang_22 : decode cX5_hang 22 = .ok (.getfield 12, 3) := by decide +kernel
theorem dX5_hang_25 : decode cX5_hang 25 = .ok (.getfield 96, 3) := by decide +kernel
theorem dX5_hang_28 : decode cX5_hang 28 = .ok (.iconst 5, 1) := by decide +kernel
theorem dX5_hang_29 : decode cX5_hang 29 = .ok (.if_icmp .lt 6, 3) := by decide +kernel
theorem dX5_hang_32 : decode cX5_hang 32 = .ok (.bipush (-3), 2) := by decide +kernel
theorem dX5_hang_34 : decode cX5_hang 34 = .ok (.ireturn, 1) := by decide +kernel
theorem dX5_hang_35 : decode cX5_hang 35 = .ok (.aload_n 0, 1) := by decide +kernel
theorem dX5_hang_36 : decode cX5_hang 36 = .ok (.getfield 12, 3) := by decide +kernel
theorem dX5_hang_39 : decode cX5_hang 39 = .ok (.iload_n 1, 1) := by decide +kernel
theorem dX5_hang_40 : decode cX5_hang 40 = .ok (.iload_n 2, 1) := by decide +kernel
theorem dX5_hang_41 : decode cX5_hang 41 = .ok (.iconst 0, 1) := by decide +kernel
theorem dX5_hang_42 : decode cX5_hang 42 = .ok (.invokevirtual 146, 3) := by decide +kernel
theorem dX5_hang_45 : decode cX5_hang 45 = .ok (.aload_n 0, 1) := by decide +kernel
theorem dX5_hang_46 : decode cX5_hang 46 = .ok (.getfield 12, 3) := by decide +kernel
theorem dX5_hang_49 : decode cX5_hang 49 = .ok (.getfield 96, 3) := by decide +kernel
theorem dX5_hang_52 : decode cX5_hang 52 = .ok (.ireturn, 1) := by decide +kernel
theorem dX5_cut_0 : decode cX5_cut 0 = .ok (.iload_n 1, 1) := by decide +kernel
theorem dX5_cut_1 : decode cX5_cut 1 = .ok (.iconst 0, 1) := by decide +kernel
theorem dX5_cut_2 : decode cX5_cut 2 = .ok (.aload_n 0, 1) := by decide +kernel
theorem dX5_cut_3 : decode cX5_cut 3 = .ok (.getfield 12, 3) := by decide +kernel
theorem dX5_cut_6 : decode cX5_cut 6 = .ok (.getfield 96, 3) := by decide +kernel
theorem dX5_cut_9 : decode cX5_cut 9 = .ok (.invokestatic 59, 3) := by decide +kernel
theorem dX5_cut_12 : decode cX5_cut 12 = .ok (.ifCond .ne 5, 3) := by decide +kernel
theorem dX5_cut_15 : decode cX5_cut 15 = .ok (.iconst (-1), 1) := by decide +kernel
theorem dX5_cut_16 : decode cX5_cut 16 = .ok (.ireturn, 1) := by decide +kernel
theorem dX5_cut_17 : decode cX5_cut 17 = .ok (.aload_n 0, 1) := by decide +kernel
theorem dX5_cut_18 : decode cX5_cut 18 = .ok (.getfield 12, 3) := by decide +kernel
theorem dX5_cut_21 : decode cX5_cut 21 = .ok (.getfield 96, 3) := by decide +kernel
theorem dX5_cut_24 : decode cX5_cut 24 = .ok (.istore_n 2, 1) := by decide +kernel
theorem dX5_cut_25 : decode cX5_cut 25 = .ok (.aload_n 0, 1) := by decide +kernel
theorem dX5_cut_26 : decode cX5_cut 26 = .ok (.getfield 12, 3) := by decide +kernel
theorem dX5_cut_29 : decode cX5_cut 29 = .ok (.iload_n 1, 1) := by decide +kernel
theorem dX5_cut_30 : decode cX5_cut 30 = .ok (.putfield 96, 3) := by decide +kernel
theorem dX5_cut_33 : decode cX5_cut 33 = .ok (.iload_n 2, 1) := by decide +kernel
theorem dX5_cut_34 : decode cX5_cut 34 = .ok (.ireturn, 1) := by decide +kernel
theorem dX5_knock_0 : decode cX5_knock 0 = .ok (.aload_n 0, 1) := by decide +kernel
theorem dX5_knock_1 : decode cX5_knock 1 = .ok (.iload_n 1, 1) := by decide +kernel
theorem dX5_knock_2 : decode cX5_knock 2 = .ok (.invokevirtual 123, 3) := by decide +kernel
theorem dX5_knock_5 : decode cX5_knock 5 = .ok (.ifCond .eq 12, 3) := by decide +kernel
theorem dX5_knock_8 : decode cX5_knock 8 = .ok (.iload_n 2, 1) := by decide +kernel
theorem dX5_knock_9 : decode cX5_knock 9 = .ok (.iconst 1, 1) := by decide +kernel
theorem dX5_knock_10 : decode cX5_knock 10 = .ok (.iconst 5, 1) := by decide +kernel
theorem dX5_knock_11 : decode cX5_knock 11 = .ok (.invokestatic 59, 3) := by decide +kernel
theorem dX5_knock_14 : decode cX5_knock 14 = .ok (.ifCond .ne 5, 3) := by decide +kernel
theorem dX5_knock_17 : decode cX5_knock 17 = .ok (.iconst (-1), 1) := by decide +kernel
theorem dX5_knock_18 : decode cX5_knock 18 = .ok (.ireturn, 1) := by decide +kernel
theorem dX5_knock_19 : decode cX5_knock 19 = .ok (.aload_n 0, 1) := by decide +kernel
theorem dX5_knock_20 : decode cX5_knock 20 = .ok (.getfield 12, 3) := by decide +kernel
theorem dX5_knock_23 : decode cX5_knock 23 = .ok (.iload_n 1, 1) := by decide +kernel
theorem dX5_knock_24 : decode cX5_knock 24 = .ok (.iload_n 2, 1) := by decide +kernel
theorem dX5_knock_25 : decode cX5_knock 25 = .ok (.invokevirtual 150, 3) := by decide +kernel
theorem dX5_knock_28 : decode cX5_knock 28 = .ok (.aload_n 0, 1) := by decide +kernel
theorem dX5_knock_29 : decode cX5_knock 29 = .ok (.getfield 12, 3) := by decide +kernel
theorem dX5_knock_32 : decode cX5_knock 32 = .ok (.getfield 120, 3) := by decide +kernel
theorem dX5_knock_35 : decode cX5_knock 35 = .ok (.iload_n 1, 1) := by decide +kernel
theorem dX5_knock_36 : decode cX5_knock 36 = .ok (.iaload, 1) := by decide +kernel
theorem dX5_knock_37 : decode cX5_knock 37 = .ok (.ireturn, 1) := by decide +kernel
theorem dX5_ticks_0 : decode cX5_ticks 0 = .ok (.iload_n 1, 1) := by decide +kernel
theorem dX5_ticks_1 : decode cX5_ticks 1 = .ok (.iconst 0, 1) := by decide +kernel
theorem dX5_ticks_2 : decode cX5_ticks 2 = .ok (.bipush 100, 2) := by decide +kernel
theorem dX5_ticks_4 : decode cX5_ticks 4 = .ok (.invokestatic 59, 3) := by decide +kernel
theorem dX5_ticks_7 : decode cX5_ticks 7 = .ok (.ifCond .ne 5, 3) := by decide +kernel
theorem dX5_ticks_10 : decode cX5_ticks 10 = .ok (.iconst (-1), 1) := by decide +kernel
theorem dX5_ticks_11 : decode cX5_ticks 11 = .ok (.ireturn, 1) := by decide +kernel
theorem dX5_ticks_12 : decode cX5_ticks 12 = .ok (.aload_n 0, 1) := by decide +kernel
theorem dX5_ticks_13 : decode cX5_ticks 13 = .ok (.getfield 12, 3) := by decide +kernel
theorem dX5_ticks_16 : decode cX5_ticks 16 = .ok (.getfield 102, 3) := by decide +kernel
theorem dX5_ticks_19 : decode cX5_ticks 19 = .ok (.iload_n 1, 1) := by decide +kernel
theorem dX5_ticks_20 : decode cX5_ticks 20 = .ok (.iadd, 1) := by decide +kernel
theorem dX5_ticks_21 : decode cX5_ticks 21 = .ok (.sipush 10000, 3) := by decide +kernel
theorem dX5_ticks_24 : decode cX5_ticks 24 = .ok (.if_icmp .lt 6, 3) := by decide +kernel
theorem dX5_ticks_27 : decode cX5_ticks 27 = .ok (.bipush (-3), 2) := by decide +kernel
theorem dX5_ticks_29 : decode cX5_ticks 29 = .ok (.ireturn, 1) := by decide +kernel
theorem dX5_ticks_30 : decode cX5_ticks 30 = .ok (.aload_n 0, 1) := by decide +kernel
theorem dX5_ticks_31 : decode cX5_ticks 31 = .ok (.getfield 12, 3) := by decide +kernel
theorem dX5_ticks_34 : decode cX5_ticks 34 = .ok (.iload_n 1, 1) := by decide +kernel
theorem dX5_ticks_35 : decode cX5_ticks 35 = .ok (.invokevirtual 154, 3) := by decide +kernel
theorem dX5_ticks_38 : decode cX5_ticks 38 = .ok (.ireturn, 1) := by decide +kernel
theorem dX5_runs_0 : decode cX5_runs 0 = .ok (.iload_n 1, 1) := by decide +kernel
theorem dX5_runs_1 : decode cX5_runs 1 = .ok (.iconst 0, 1) := by decide +kernel
theorem dX5_runs_2 : decode cX5_runs 2 = .ok (.sipush 300, 3) := by decide +kernel
theorem dX5_runs_5 : decode cX5_runs 5 = .ok (.invokestatic 59, 3) := by decide +kernel
theorem dX5_runs_8 : decode cX5_runs 8 = .ok (.ifCond .eq 12, 3) := by decide +kernel
theorem dX5_runs_11 : decode cX5_runs 11 = .ok (.iload_n 2, 1) := by decide +kernel
theorem dX5_runs_12 : decode cX5_runs 12 = .ok (.iconst 0, 1) := by decide +kernel
theorem dX5_runs_13 : decode cX5_runs 13 = .ok (.iconst 4, 1) := by decide +kernel
theorem dX5_runs_14 : decode cX5_runs 14 = .ok (.invokestatic 59, 3) := by decide +kernel
theorem dX5_runs_17 : decode cX5_runs 17 = .ok (.ifCond .ne 5, 3) := by decide +kernel
theorem dX5_runs_20 : decode cX5_runs 20 = .ok (.iconst (-1), 1) := by decide +kernel
theorem dX5_runs_21 : decode cX5_runs 21 = .ok (.ireturn, 1) := by decide +kernel
theorem dX5_runs_22 : decode cX5_runs 22 = .ok (.aload_n 0, 1) := by decide +kernel
theorem dX5_runs_23 : decode cX5_runs 23 = .ok (.invokevirtual 112, 3) := by decide +kernel
theorem dX5_runs_26 : decode cX5_runs 26 = .ok (.pop, 1) := by decide +kernel
theorem dX5_runs_27 : decode cX5_runs 27 = .ok (.aload_n 0, 1) := by decide +kernel
theorem dX5_runs_28 : decode cX5_runs 28 = .ok (.getfield 16, 3) := by decide +kernel
theorem dX5_runs_31 : decode cX5_runs 31 = .ok (.invokevirtual 158, 3) := by decide +kernel
theorem dX5_runs_34 : decode cX5_runs 34 = .ok (.istore_n 3, 1) := by decide +kernel
theorem dX5_runs_35 : decode cX5_runs 35 = .ok (.iconst 0, 1) := by decide +kernel
theorem dX5_runs_36 : decode cX5_runs 36 = .ok (.istore 4, 2) := by decide +kernel
theorem dX5_runs_38 : decode cX5_runs 38 = .ok (.iconst 0, 1) := by decide +kernel
theorem dX5_runs_39 : decode cX5_runs 39 = .ok (.istore 5, 2) := by decide +kernel
theorem dX5_runs_41 : decode cX5_runs 41 = .ok (.iconst 0, 1) := by decide +kernel
theorem dX5_runs_42 : decode cX5_runs 42 = .ok (.istore 6, 2) := by decide +kernel
theorem dX5_runs_44 : decode cX5_runs 44 = .ok (.iconst 0, 1) := by decide +kernel
theorem dX5_runs_45 : decode cX5_runs 45 = .ok (.istore 7, 2) := by decide +kernel
theorem dX5_runs_47 : decode cX5_runs 47 = .ok (.iconst 0, 1) := by decide +kernel
theorem dX5_runs_48 : decode cX5_runs 48 = .ok (.istore 8, 2) := by decide +kernel
theorem dX5_runs_50 : decode cX5_runs 50 = .ok (.iload 8, 2) := by decide +kernel
theorem dX5_runs_52 : decode cX5_runs 52 = .ok (.iload_n 1, 1) := by decide +kernel
theorem dX5_runs_53 : decode cX5_runs 53 = .ok (.if_icmp .ge 66, 3) := by decide +kernel
theorem dX5_runs_56 : decode cX5_runs 56 = .ok (.aload_n 0, 1) := by decide +kernel
theorem dX5_runs_57 : decode cX5_runs 57 = .ok (.getfield 16, 3) := by decide +kernel
theorem dX5_runs_60 : decode cX5_runs 60 = .ok (.iconst 0, 1) := by decide +kernel
theorem dX5_runs_61 : decode cX5_runs 61 = .ok (.invokevirtual 116, 3) := by decide +kernel
theorem dX5_runs_64 : decode cX5_runs 64 = .ok (.istore 9, 2) := by decide +kernel
theorem dX5_runs_66 : decode cX5_runs 66 = .ok (.iload 9, 2) := by decide +kernel
theorem dX5_runs_68 : decode cX5_runs 68 = .ok (.invokestatic 162, 3) := by decide +kernel
theorem dX5_runs_71 : decode cX5_runs 71 = .ok (.istore 10, 2) := by decide +kernel
theorem dX5_runs_73 : decode cX5_runs 73 = .ok (.iload 4, 2) := by decide +kernel
theorem dX5_runs_75 : decode cX5_runs 75 = .ok (.iload 10, 2) := by decide +kernel
theorem dX5_runs_77 : decode cX5_runs 77 = .ok (.iadd, 1) := by decide +kernel
theorem dX5_runs_78 : decode cX5_runs 78 = .ok (.istore 4, 2) := by decide +kernel
theorem dX5_runs_80 : decode cX5_runs 80 = .ok (.iload 6, 2) := by decide +kernel
theorem dX5_runs_82 : decode cX5_runs 82 = .ok (.iload 10, 2) := by decide +kernel
theorem dX5_runs_84 : decode cX5_runs 84 = .ok (.invokestatic 167, 3) := by decide +kernel
theorem dX5_runs_87 : decode cX5_runs 87 = .ok (.istore 6, 2) := by decide +kernel
theorem dX5_runs_89 : decode cX5_runs 89 = .ok (.iload 9, 2) := by decide +kernel
theorem dX5_runs_91 : decode cX5_runs 91 = .ok (.ifCond .eq 22, 3) := by decide +kernel
theorem dX5_runs_94 : decode cX5_runs 94 = .ok (.iinc 5 1, 3) := by decide +kernel
theorem dX5_runs_97 : decode cX5_runs 97 = .ok (.iload 7, 2) := by decide +kernel
theorem dX5_runs_99 : decode cX5_runs 99 = .ok (.iload 9, 2) := by decide +kernel
theorem dX5_runs_101 : decode cX5_runs 101 = .ok (.iload_n 3, 1) := by decide +kernel
theorem dX5_runs_102 : decode cX5_runs 102 = .ok (.if_icmp .ne 7, 3) := by decide +kernel
theorem dX5_runs_105 : decode cX5_runs 105 = .ok (.iconst 1, 1) := by decide +kernel
theorem dX5_runs_106 : decode cX5_runs 106 = .ok (.goto 4, 3) := by decide +kernel
theorem dX5_runs_109 : decode cX5_runs 109 = .ok (.iconst 0, 1) := by decide +kernel
theorem dX5_runs_110 : decode cX5_runs 110 = .ok (.iadd, 1) := by decide +kernel
theorem dX5_runs_111 : decode cX5_runs 111 = .ok (.istore 7, 2) := by decide +kernel
theorem dX5_runs_113 : decode cX5_runs 113 = .ok (.iinc 8 1, 3) := by decide +kernel
theorem dX5_runs_116 : decode cX5_runs 116 = .ok (.goto (-66), 3) := by decide +kernel
theorem dX5_runs_119 : decode cX5_runs 119 = .ok (.iload_n 2, 1) := by decide +kernel
theorem dX5_runs_120 : decode cX5_runs 120 = .ok (.tableswitch 44 0 3 #[32, 35, 38, 41], 32) := by decide +kernel
theorem dX5_runs_152 : decode cX5_runs 152 = .ok (.iload 4, 2) := by decide +kernel
theorem dX5_runs_154 : decode cX5_runs 154 = .ok (.ireturn, 1) := by decide +kernel
theorem dX5_runs_155 : decode cX5_runs 155 = .ok (.iload 5, 2) := by decide +kernel
theorem dX5_runs_157 : decode cX5_runs 157 = .ok (.ireturn, 1) := by decide +kernel
theorem dX5_runs_158 : decode cX5_runs 158 = .ok (.iload 6, 2) := by decide +kernel
theorem dX5_runs_160 : decode cX5_runs 160 = .ok (.ireturn, 1) := by decide +kernel
theorem dX5_runs_161 : decode cX5_runs 161 = .ok (.iload 7, 2) := by decide +kernel
theorem dX5_runs_163 : decode cX5_runs 163 = .ok (.ireturn, 1) := by decide +kernel
theorem dX5_runs_164 : decode cX5_runs 164 = .ok (.aload_n 0, 1) := by decide +kernel
theorem dX5_runs_165 : decode cX5_runs 165 = .ok (.getfield 16, 3) := by decide +kernel
theorem dX5_runs_168 : decode cX5_runs 168 = .ok (.invokevirtual 172, 3) := by decide +kernel
theorem dX5_runs_171 : decode cX5_runs 171 = .ok (.ireturn, 1) := by decide +kernel
theorem dX5_ahead_0 : decode cX5_ahead 0 = .ok (.aload_n 0, 1) := by decide +kernel
theorem dX5_ahead_1 : decode cX5_ahead 1 = .ok (.iload_n 1, 1) := by decide +kernel
theorem dX5_ahead_2 : decode cX5_ahead 2 = .ok (.invokevirtual 123, 3) := by decide +kernel
theorem dX5_ahead_5 : decode cX5_ahead 5 = .ok (.ifCond .eq 23, 3) := by decide +kernel
theorem dX5_ahead_8 : decode cX5_ahead 8 = .ok (.iload_n 2, 1) := by decide +kernel
theorem dX5_ahead_9 : decode cX5_ahead 9 = .ok (.iconst 0, 1) := by decide +kernel
theorem dX5_ahead_10 : decode cX5_ahead 10 = .ok (.sipush 300, 3) := by decide +kernel
theorem dX5_ahead_13 : decode cX5_ahead 13 = .ok (.invokestatic 59, 3) := by decide +kernel
theorem dX5_ahead_16 : decode cX5_ahead 16 = .ok (.ifCond .eq 12, 3) := by decide +kernel
theorem dX5_ahead_19 : decode cX5_ahead 19 = .ok (.iload_n 3, 1) := by decide +kernel
theorem dX5_ahead_20 : decode cX5_ahead 20 = .ok (.iconst 0, 1) := by decide +kernel
theorem dX5_ahead_21 : decode cX5_ahead 21 = .ok (.iconst 1, 1) := by decide +kernel
theorem dX5_ahead_22 : decode cX5_ahead 22 = .ok (.invokestatic 59, 3) := by decide +kernel
theorem dX5_ahead_25 : decode cX5_ahead 25 = .ok (.ifCond .ne 5, 3) := by decide +kernel
theorem dX5_ahead_28 : decode cX5_ahead 28 = .ok (.iconst (-1), 1) := by decide +kernel
theorem dX5_ahead_29 : decode cX5_ahead 29 = .ok (.ireturn, 1) := by decide +kernel
theorem dX5_ahead_30 : decode cX5_ahead 30 = .ok (.aload_n 0, 1) := by decide +kernel
theorem dX5_ahead_31 : decode cX5_ahead 31 = .ok (.invokevirtual 112, 3) := by decide +kernel
theorem dX5_ahead_34 : decode cX5_ahead 34 = .ok (.iload_n 2, 1) := by decide +kernel
theorem dX5_ahead_35 : decode cX5_ahead 35 = .ok (.invokevirtual 154, 3) := by decide +kernel
theorem dX5_ahead_38 : decode cX5_ahead 38 = .ok (.pop, 1) := by decide +kernel
theorem dX5_ahead_39 : decode cX5_ahead 39 = .ok (.iload_n 3, 1) := by decide +kernel
theorem dX5_ahead_40 : decode cX5_ahead 40 = .ok (.ifCond .ne 15, 3) := by decide +kernel
theorem dX5_ahead_43 : decode cX5_ahead 43 = .ok (.aload_n 0, 1) := by decide +kernel
theorem dX5_ahead_44 : decode cX5_ahead 44 = .ok (.getfield 16, 3) := by decide +kernel
theorem dX5_ahead_47 : decode cX5_ahead 47 = .ok (.getfield 120, 3) := by decide +kernel
theorem dX5_ahead_50 : decode cX5_ahead 50 = .ok (.iload_n 1, 1) := by decide +kernel
theorem dX5_ahead_51 : decode cX5_ahead 51 = .ok (.iaload, 1) := by decide +kernel
theorem dX5_ahead_52 : decode cX5_ahead 52 = .ok (.goto 22, 3) := by decide +kernel
theorem dX5_ahead_55 : decode cX5_ahead 55 = .ok (.aload_n 0, 1) := by decide +kernel
theorem dX5_ahead_56 : decode cX5_ahead 56 = .ok (.getfield 16, 3) := by decide +kernel
theorem dX5_ahead_59 : decode cX5_ahead 59 = .ok (.getfield 105, 3) := by decide +kernel
theorem dX5_ahead_62 : decode cX5_ahead 62 = .ok (.iload_n 1, 1) := by decide +kernel
theorem dX5_ahead_63 : decode cX5_ahead 63 = .ok (.iaload, 1) := by decide +kernel
theorem dX5_ahead_64 : decode cX5_ahead 64 = .ok (.aload_n 0, 1) := by decide +kernel
theorem dX5_ahead_65 : decode cX5_ahead 65 = .ok (.getfield 12, 3) := by decide +kernel
theorem dX5_ahead_68 : decode cX5_ahead 68 = .ok (.getfield 105, 3) := by decide +kernel
theorem dX5_ahead_71 : decode cX5_ahead 71 = .ok (.iload_n 1, 1) := by decide +kernel
theorem dX5_ahead_72 : decode cX5_ahead 72 = .ok (.iaload, 1) := by decide +kernel
theorem dX5_ahead_73 : decode cX5_ahead 73 = .ok (.isub, 1) := by decide +kernel
theorem dX5_ahead_74 : decode cX5_ahead 74 = .ok (.ireturn, 1) := by decide +kernel
theorem dX5_beats_0 : decode cX5_beats 0 = .ok (.iload_n 1, 1) := by decide +kernel
theorem dX5_beats_1 : decode cX5_beats 1 = .ok (.iconst 0, 1) := by decide +kernel
theorem dX5_beats_2 : decode cX5_beats 2 = .ok (.sipush 300, 3) := by decide +kernel
theorem dX5_beats_5 : decode cX5_beats 5 = .ok (.invokestatic 59, 3) := by decide +kernel
theorem dX5_beats_8 : decode cX5_beats 8 = .ok (.ifCond .ne 5, 3) := by decide +kernel
theorem dX5_beats_11 : decode cX5_beats 11 = .ok (.iconst (-1), 1) := by decide +kernel
theorem dX5_beats_12 : decode cX5_beats 12 = .ok (.ireturn, 1) := by decide +kernel
theorem dX5_beats_13 : decode cX5_beats 13 = .ok (.aload_n 0, 1) := by decide +kernel
theorem dX5_beats_14 : decode cX5_beats 14 = .ok (.invokevirtual 112, 3) := by decide +kernel
theorem dX5_beats_17 : decode cX5_beats 17 = .ok (.iload_n 1, 1) := by decide +kernel
theorem dX5_beats_18 : decode cX5_beats 18 = .ok (.invokevirtual 154, 3) := by decide +kernel
theorem dX5_beats_21 : decode cX5_beats 21 = .ok (.pop, 1) := by decide +kernel
theorem dX5_beats_22 : decode cX5_beats 22 = .ok (.aload_n 0, 1) := by decide +kernel
theorem dX5_beats_23 : decode cX5_beats 23 = .ok (.getfield 16, 3) := by decide +kernel
theorem dX5_beats_26 : decode cX5_beats 26 = .ok (.iconst 0, 1) := by decide +kernel
theorem dX5_beats_27 : decode cX5_beats 27 = .ok (.invokevirtual 116, 3) := by decide +kernel
theorem dX5_beats_30 : decode cX5_beats 30 = .ok (.ireturn, 1) := by decide +kernel
theorem dX5_together_0 : decode cX5_together 0 = .ok (.aload_n 0, 1) := by decide +kernel
theorem dX5_together_1 : decode cX5_together 1 = .ok (.invokevirtual 112, 3) := by decide +kernel
theorem dX5_together_4 : decode cX5_together 4 = .ok (.sipush 300, 3) := by decide +kernel
theorem dX5_together_7 : decode cX5_together 7 = .ok (.invokevirtual 175, 3) := by decide +kernel
theorem dX5_together_10 : decode cX5_together 10 = .ok (.ireturn, 1) := by decide +kernel
theorem dX5_again_0 : decode cX5_again 0 = .ok (.aload_n 0, 1) := by decide +kernel
theorem dX5_again_1 : decode cX5_again 1 = .ok (.invokevirtual 112, 3) := by decide +kernel
theorem dX5_again_4 : decode cX5_again 4 = .ok (.pop, 1) := by decide +kernel
theorem dX5_again_5 : decode cX5_again 5 = .ok (.iconst 1, 1) := by decide +kernel
theorem dX5_again_6 : decode cX5_again 6 = .ok (.istore_n 1, 1) := by decide +kernel
theorem dX5_again_7 : decode cX5_again 7 = .ok (.iload_n 1, 1) := by decide +kernel
theorem dX5_again_8 : decode cX5_again 8 = .ok (.sipush 300, 3) := by decide +kernel
theorem dX5_again_11 : decode cX5_again 11 = .ok (.if_icmp .gt 34, 3) := by decide +kernel
theorem dX5_again_14 : decode cX5_again 14 = .ok (.aload_n 0, 1) := by decide +kernel
theorem dX5_again_15 : decode cX5_again 15 = .ok (.getfield 16, 3) := by decide +kernel
theorem dX5_again_18 : decode cX5_again 18 = .ok (.iconst 0, 1) := by decide +kernel
theorem dX5_again_19 : decode cX5_again 19 = .ok (.invokevirtual 116, 3) := by decide +kernel
theorem dX5_again_22 : decode cX5_again 22 = .ok (.pop, 1) := by decide +kernel
theorem dX5_again_23 : decode cX5_again 23 = .ok (.aload_n 0, 1) := by decide +kernel
theorem dX5_again_24 : decode cX5_again 24 = .ok (.getfield 16, 3) := by decide +kernel
theorem dX5_again_27 : decode cX5_again 27 = .ok (.aload_n 0, 1) := by decide +kernel
theorem dX5_again_28 : decode cX5_again 28 = .ok (.getfield 12, 3) := by decide +kernel
theorem dX5_again_31 : decode cX5_again 31 = .ok (.invokevirtual 178, 3) := by decide +kernel
theorem dX5_again_34 : decode cX5_again 34 = .ok (.ifCond .eq 5, 3) := by decide +kernel
theorem dX5_again_37 : decode cX5_again 37 = .ok (.iload_n 1, 1) := by decide +kernel
theorem dX5_again_38 : decode cX5_again 38 = .ok (.ireturn, 1) := by decide +kernel
theorem dX5_again_39 : decode cX5_again 39 = .ok (.iinc 1 1, 3) := by decide +kernel
theorem dX5_again_42 : decode cX5_again 42 = .ok (.goto (-35), 3) := by decide +kernel
theorem dX5_again_45 : decode cX5_again 45 = .ok (.bipush (-4), 2) := by decide +kernel
theorem dX5_again_47 : decode cX5_again 47 = .ok (.ireturn, 1) := by decide +kernel
theorem dX5_period_0 : decode cX5_period 0 = .ok (.aload_n 0, 1) := by decide +kernel
theorem dX5_period_1 : decode cX5_period 1 = .ok (.iload_n 1, 1) := by decide +kernel
theorem dX5_period_2 : decode cX5_period 2 = .ok (.invokevirtual 123, 3) := by decide +kernel
theorem dX5_period_5 : decode cX5_period 5 = .ok (.ifCond .eq 12, 3) := by decide +kernel
theorem dX5_period_8 : decode cX5_period 8 = .ok (.iload_n 2, 1) := by decide +kernel
theorem dX5_period_9 : decode cX5_period 9 = .ok (.iconst 0, 1) := by decide +kernel
theorem dX5_period_10 : decode cX5_period 10 = .ok (.iconst 1, 1) := by decide +kernel
theorem dX5_period_11 : decode cX5_period 11 = .ok (.invokestatic 59, 3) := by decide +kernel
theorem dX5_period_14 : decode cX5_period 14 = .ok (.ifCond .ne 5, 3) := by decide +kernel
theorem dX5_period_17 : decode cX5_period 17 = .ok (.iconst (-1), 1) := by decide +kernel
theorem dX5_period_18 : decode cX5_period 18 = .ok (.ireturn, 1) := by decide +kernel
theorem dX5_period_19 : decode cX5_period 19 = .ok (.aload_n 0, 1) := by decide +kernel
theorem dX5_period_20 : decode cX5_period 20 = .ok (.getfield 50, 3) := by decide +kernel
theorem dX5_period_23 : decode cX5_period 23 = .ok (.sipush 300, 3) := by decide +kernel
theorem dX5_period_26 : decode cX5_period 26 = .ok (.invokevirtual 182, 3) := by decide +kernel
theorem dX5_period_29 : decode cX5_period 29 = .ok (.iconst 2, 1) := by decide +kernel
theorem dX5_period_30 : decode cX5_period 30 = .ok (.istore_n 3, 1) := by decide +kernel
theorem dX5_period_31 : decode cX5_period 31 = .ok (.iload_n 3, 1) := by decide +kernel
theorem dX5_period_32 : decode cX5_period 32 = .ok (.bipush 30, 2) := by decide +kernel
theorem dX5_period_34 : decode cX5_period 34 = .ok (.if_icmp .gt 23, 3) := by decide +kernel
theorem dX5_period_37 : decode cX5_period 37 = .ok (.aload_n 0, 1) := by decide +kernel
theorem dX5_period_38 : decode cX5_period 38 = .ok (.getfield 50, 3) := by decide +kernel
theorem dX5_period_41 : decode cX5_period 41 = .ok (.iload_n 3, 1) := by decide +kernel
theorem dX5_period_42 : decode cX5_period 42 = .ok (.aload_n 0, 1) := by decide +kernel
theorem dX5_period_43 : decode cX5_period 43 = .ok (.iload_n 1, 1) := by decide +kernel
theorem dX5_period_44 : decode cX5_period 44 = .ok (.iload_n 3, 1) := by decide +kernel
theorem dX5_period_45 : decode cX5_period 45 = .ok (.invokevirtual 186, 3) := by decide +kernel
theorem dX5_period_48 : decode cX5_period 48 = .ok (.invokevirtual 190, 3) := by decide +kernel
theorem dX5_period_51 : decode cX5_period 51 = .ok (.iinc 3 1, 3) := by decide +kernel
theorem dX5_period_54 : decode cX5_period 54 = .ok (.goto (-23), 3) := by decide +kernel
theorem dX5_period_57 : decode cX5_period 57 = .ok (.aload_n 0, 1) := by decide +kernel
theorem dX5_period_58 : decode cX5_period 58 = .ok (.getfield 50, 3) := by decide +kernel
theorem dX5_period_61 : decode cX5_period 61 = .ok (.iload_n 2, 1) := by decide +kernel
theorem dX5_period_62 : decode cX5_period 62 = .ok (.invokevirtual 194, 3) := by decide +kernel
theorem dX5_period_65 : decode cX5_period 65 = .ok (.ireturn, 1) := by decide +kernel
theorem dX5_hand_0 : decode cX5_hand 0 = .ok (.aload_n 0, 1) := by decide +kernel
theorem dX5_hand_1 : decode cX5_hand 1 = .ok (.iload_n 1, 1) := by decide +kernel
theorem dX5_hand_2 : decode cX5_hand 2 = .ok (.invokevirtual 123, 3) := by decide +kernel
theorem dX5_hand_5 : decode cX5_hand 5 = .ok (.ifCond .eq 12, 3) := by decide +kernel
theorem dX5_hand_8 : decode cX5_hand 8 = .ok (.iload_n 2, 1) := by decide +kernel
theorem dX5_hand_9 : decode cX5_hand 9 = .ok (.iconst 0, 1) := by decide +kernel
theorem dX5_hand_10 : decode cX5_hand 10 = .ok (.iconst 1, 1) := by decide +kernel
theorem dX5_hand_11 : decode cX5_hand 11 = .ok (.invokestatic 59, 3) := by decide +kernel
theorem dX5_hand_14 : decode cX5_hand 14 = .ok (.ifCond .ne 5, 3) := by decide +kernel
theorem dX5_hand_17 : decode cX5_hand 17 = .ok (.iconst (-1), 1) := by decide +kernel
theorem dX5_hand_18 : decode cX5_hand 18 = .ok (.ireturn, 1) := by decide +kernel
theorem dX5_hand_19 : decode cX5_hand 19 = .ok (.aload_n 0, 1) := by decide +kernel
theorem dX5_hand_20 : decode cX5_hand 20 = .ok (.getfield 50, 3) := by decide +kernel
theorem dX5_hand_23 : decode cX5_hand 23 = .ok (.sipush 300, 3) := by decide +kernel
theorem dX5_hand_26 : decode cX5_hand 26 = .ok (.invokevirtual 182, 3) := by decide +kernel
theorem dX5_hand_29 : decode cX5_hand 29 = .ok (.iconst 0, 1) := by decide +kernel
theorem dX5_hand_30 : decode cX5_hand 30 = .ok (.istore_n 3, 1) := by decide +kernel
theorem dX5_hand_31 : decode cX5_hand 31 = .ok (.iload_n 3, 1) := by decide +kernel
theorem dX5_hand_32 : decode cX5_hand 32 = .ok (.aload_n 0, 1) := by decide +kernel
theorem dX5_hand_33 : decode cX5_hand 33 = .ok (.getfield 12, 3) := by decide +kernel
theorem dX5_hand_36 : decode cX5_hand 36 = .ok (.getfield 130, 3) := by decide +kernel
theorem dX5_hand_39 : decode cX5_hand 39 = .ok (.iload_n 1, 1) := by decide +kernel
theorem dX5_hand_40 : decode cX5_hand 40 = .ok (.iaload, 1) := by decide +kernel
theorem dX5_hand_41 : decode cX5_hand 41 = .ok (.if_icmp .ge 23, 3) := by decide +kernel
theorem dX5_hand_44 : decode cX5_hand 44 = .ok (.aload_n 0, 1) := by decide +kernel
theorem dX5_hand_45 : decode cX5_hand 45 = .ok (.getfield 50, 3) := by decide +kernel
theorem dX5_hand_48 : decode cX5_hand 48 = .ok (.iload_n 3, 1) := by decide +kernel
theorem dX5_hand_49 : decode cX5_hand 49 = .ok (.aload_n 0, 1) := by decide +kernel
theorem dX5_hand_50 : decode cX5_hand 50 = .ok (.iload_n 1, 1) := by decide +kernel
theorem dX5_hand_51 : decode cX5_hand 51 = .ok (.iload_n 3, 1) := by decide +kernel
theorem dX5_hand_52 : decode cX5_hand 52 = .ok (.invokevirtual 197, 3) := by decide +kernel
theorem dX5_hand_55 : decode cX5_hand 55 = .ok (.invokevirtual 190, 3) := by decide +kernel
theorem dX5_hand_58 : decode cX5_hand 58 = .ok (.iinc 3 1, 3) := by decide +kernel
theorem dX5_hand_61 : decode cX5_hand 61 = .ok (.goto (-30), 3) := by decide +kernel
theorem dX5_hand_64 : decode cX5_hand 64 = .ok (.aload_n 0, 1) := by decide +kernel
theorem dX5_hand_65 : decode cX5_hand 65 = .ok (.getfield 50, 3) := by decide +kernel
theorem dX5_hand_68 : decode cX5_hand 68 = .ok (.iload_n 2, 1) := by decide +kernel
theorem dX5_hand_69 : decode cX5_hand 69 = .ok (.invokevirtual 194, 3) := by decide +kernel
theorem dX5_hand_72 : decode cX5_hand 72 = .ok (.ireturn, 1) := by decide +kernel
theorem dX5_kind_0 : decode cX5_kind 0 = .ok (.aload_n 0, 1) := by decide +kernel
theorem dX5_kind_1 : decode cX5_kind 1 = .ok (.iload_n 1, 1) := by decide +kernel
theorem dX5_kind_2 : decode cX5_kind 2 = .ok (.invokevirtual 123, 3) := by decide +kernel
theorem dX5_kind_5 : decode cX5_kind 5 = .ok (.ifCond .eq 12, 3) := by decide +kernel
theorem dX5_kind_8 : decode cX5_kind 8 = .ok (.iload_n 2, 1) := by decide +kernel
theorem dX5_kind_9 : decode cX5_kind 9 = .ok (.iconst 0, 1) := by decide +kernel
theorem dX5_kind_10 : decode cX5_kind 10 = .ok (.iconst 1, 1) := by decide +kernel
theorem dX5_kind_11 : decode cX5_kind 11 = .ok (.invokestatic 59, 3) := by decide +kernel
theorem dX5_kind_14 : decode cX5_kind 14 = .ok (.ifCond .ne 5, 3) := by decide +kernel
theorem dX5_kind_17 : decode cX5_kind 17 = .ok (.iconst (-1), 1) := by decide +kernel
theorem dX5_kind_18 : decode cX5_kind 18 = .ok (.ireturn, 1) := by decide +kernel
theorem dX5_kind_19 : decode cX5_kind 19 = .ok (.aload_n 0, 1) := by decide +kernel
theorem dX5_kind_20 : decode cX5_kind 20 = .ok (.getfield 50, 3) := by decide +kernel
theorem dX5_kind_23 : decode cX5_kind 23 = .ok (.sipush 300, 3) := by decide +kernel
theorem dX5_kind_26 : decode cX5_kind 26 = .ok (.invokevirtual 182, 3) := by decide +kernel
theorem dX5_kind_29 : decode cX5_kind 29 = .ok (.iconst 0, 1) := by decide +kernel
theorem dX5_kind_30 : decode cX5_kind 30 = .ok (.istore_n 3, 1) := by decide +kernel
theorem dX5_kind_31 : decode cX5_kind 31 = .ok (.iload_n 3, 1) := by decide +kernel
theorem dX5_kind_32 : decode cX5_kind 32 = .ok (.iconst 3, 1) := by decide +kernel
theorem dX5_kind_33 : decode cX5_kind 33 = .ok (.if_icmp .gt 23, 3) := by decide +kernel
theorem dX5_kind_36 : decode cX5_kind 36 = .ok (.aload_n 0, 1) := by decide +kernel
theorem dX5_kind_37 : decode cX5_kind 37 = .ok (.getfield 50, 3) := by decide +kernel
theorem dX5_kind_40 : decode cX5_kind 40 = .ok (.iload_n 3, 1) := by decide +kernel
theorem dX5_kind_41 : decode cX5_kind 41 = .ok (.aload_n 0, 1) := by decide +kernel
theorem dX5_kind_42 : decode cX5_kind 42 = .ok (.iload_n 1, 1) := by decide +kernel
theorem dX5_kind_43 : decode cX5_kind 43 = .ok (.iload_n 3, 1) := by decide +kernel
theorem dX5_kind_44 : decode cX5_kind 44 = .ok (.invokevirtual 200, 3) := by decide +kernel
theorem dX5_kind_47 : decode cX5_kind 47 = .ok (.invokevirtual 190, 3) := by decide +kernel
theorem dX5_kind_50 : decode cX5_kind 50 = .ok (.iinc 3 1, 3) := by decide +kernel
theorem dX5_kind_53 : decode cX5_kind 53 = .ok (.goto (-22), 3) := by decide +kernel
theorem dX5_kind_56 : decode cX5_kind 56 = .ok (.aload_n 0, 1) := by decide +kernel
theorem dX5_kind_57 : decode cX5_kind 57 = .ok (.getfield 50, 3) := by decide +kernel
theorem dX5_kind_60 : decode cX5_kind 60 = .ok (.iload_n 2, 1) := by decide +kernel
theorem dX5_kind_61 : decode cX5_kind 61 = .ok (.invokevirtual 194, 3) := by decide +kernel
theorem dX5_kind_64 : decode cX5_kind 64 = .ok (.ireturn, 1) := by decide +kernel
theorem dX5_force_0 : decode cX5_force 0 = .ok (.iload_n 1, 1) := by decide +kernel
theorem dX5_force_1 : decode cX5_force 1 = .ok (.iconst 0, 1) := by decide +kernel
theorem dX5_force_2 : decode cX5_force 2 = .ok (.iconst 1, 1) := by decide +kernel
theorem dX5_force_3 : decode cX5_force 3 = .ok (.invokestatic 59, 3) := by decide +kernel
theorem dX5_force_6 : decode cX5_force 6 = .ok (.ifCond .ne 5, 3) := by decide +kernel
theorem dX5_force_9 : decode cX5_force 9 = .ok (.iconst (-1), 1) := by decide +kernel
theorem dX5_force_10 : decode cX5_force 10 = .ok (.ireturn, 1) := by decide +kernel
theorem dX5_force_11 : decode cX5_force 11 = .ok (.aload_n 0, 1) := by decide +kernel
theorem dX5_force_12 : decode cX5_force 12 = .ok (.getfield 50, 3) := by decide +kernel
theorem dX5_force_15 : decode cX5_force 15 = .ok (.sipush 300, 3) := by decide +kernel
theorem dX5_force_18 : decode cX5_force 18 = .ok (.invokevirtual 182, 3) := by decide +kernel
theorem dX5_force_21 : decode cX5_force 21 = .ok (.iconst 0, 1) := by decide +kernel
theorem dX5_force_22 : decode cX5_force 22 = .ok (.istore_n 2, 1) := by decide +kernel
theorem dX5_force_23 : decode cX5_force 23 = .ok (.iload_n 2, 1) := by decide +kernel
theorem dX5_force_24 : decode cX5_force 24 = .ok (.iconst 5, 1) := by decide +kernel
theorem dX5_force_25 : decode cX5_force 25 = .ok (.if_icmp .gt 29, 3) := by decide +kernel
theorem dX5_force_28 : decode cX5_force 28 = .ok (.aload_n 0, 1) := by decide +kernel
theorem dX5_force_29 : decode cX5_force 29 = .ok (.invokevirtual 112, 3) := by decide +kernel
theorem dX5_force_32 : decode cX5_force 32 = .ok (.iload_n 2, 1) := by decide +kernel
theorem dX5_force_33 : decode cX5_force 33 = .ok (.putfield 99, 3) := by decide +kernel
theorem dX5_force_36 : decode cX5_force 36 = .ok (.aload_n 0, 1) := by decide +kernel
theorem dX5_force_37 : decode cX5_force 37 = .ok (.getfield 50, 3) := by decide +kernel
theorem dX5_force_40 : decode cX5_force 40 = .ok (.iload_n 2, 1) := by decide +kernel
theorem dX5_force_41 : decode cX5_force 41 = .ok (.aload_n 0, 1) := by decide +kernel
theorem dX5_force_42 : decode cX5_force 42 = .ok (.getfield 16, 3) := by decide +kernel
theorem dX5_force_45 : decode cX5_force 45 = .ok (.invokevirtual 190, 3) := by decide +kernel
theorem dX5_force_48 : decode cX5_force 48 = .ok (.iinc 2 1, 3) := by decide +kernel
theorem dX5_force_51 : decode cX5_force 51 = .ok (.goto (-28), 3) := by decide +kernel
theorem dX5_force_54 : decode cX5_force 54 = .ok (.aload_n 0, 1) := by decide +kernel
theorem dX5_force_55 : decode cX5_force 55 = .ok (.getfield 50, 3) := by decide +kernel
theorem dX5_force_58 : decode cX5_force 58 = .ok (.iload_n 1, 1) := by decide +kernel
theorem dX5_force_59 : decode cX5_force 59 = .ok (.invokevirtual 194, 3) := by decide +kernel
theorem dX5_force_62 : decode cX5_force 62 = .ok (.ireturn, 1) := by decide +kernel
theorem dX5_away_0 : decode cX5_away 0 = .ok (.iload_n 1, 1) := by decide +kernel
theorem dX5_away_1 : decode cX5_away 1 = .ok (.iconst 0, 1) := by decide +kernel
theorem dX5_away_2 : decode cX5_away 2 = .ok (.iconst 1, 1) := by decide +kernel
theorem dX5_away_3 : decode cX5_away 3 = .ok (.invokestatic 59, 3) := by decide +kernel
theorem dX5_away_6 : decode cX5_away 6 = .ok (.ifCond .ne 5, 3) := by decide +kernel
theorem dX5_away_9 : decode cX5_away 9 = .ok (.iconst (-1), 1) := by decide +kernel
theorem dX5_away_10 : decode cX5_away 10 = .ok (.ireturn, 1) := by decide +kernel
theorem dX5_away_11 : decode cX5_away 11 = .ok (.aload_n 0, 1) := by decide +kernel
theorem dX5_away_12 : decode cX5_away 12 = .ok (.invokevirtual 112, 3) := by decide +kernel
theorem dX5_away_15 : decode cX5_away 15 = .ok (.sipush 300, 3) := by decide +kernel
theorem dX5_away_18 : decode cX5_away 18 = .ok (.invokevirtual 175, 3) := by decide +kernel
theorem dX5_away_21 : decode cX5_away 21 = .ok (.istore_n 2, 1) := by decide +kernel
theorem dX5_away_22 : decode cX5_away 22 = .ok (.aload_n 0, 1) := by decide +kernel
theorem dX5_away_23 : decode cX5_away 23 = .ok (.getfield 50, 3) := by decide +kernel
theorem dX5_away_26 : decode cX5_away 26 = .ok (.iload_n 2, 1) := by decide +kernel
theorem dX5_away_27 : decode cX5_away 27 = .ok (.bipush (-4), 2) := by decide +kernel
theorem dX5_away_29 : decode cX5_away 29 = .ok (.if_icmp .ne 9, 3) := by decide +kernel
theorem dX5_away_32 : decode cX5_away 32 = .ok (.sipush 300, 3) := by decide +kernel
theorem dX5_away_35 : decode cX5_away 35 = .ok (.goto 6, 3) := by decide +kernel
theorem dX5_away_38 : decode cX5_away 38 = .ok (.iload_n 2, 1) := by decide +kernel
theorem dX5_away_39 : decode cX5_away 39 = .ok (.iconst 1, 1) := by decide +kernel
theorem dX5_away_40 : decode cX5_away 40 = .ok (.isub, 1) := by decide +kernel
theorem dX5_away_41 : decode cX5_away 41 = .ok (.invokevirtual 182, 3) := by decide +kernel
theorem dX5_away_44 : decode cX5_away 44 = .ok (.iconst 0, 1) := by decide +kernel
theorem dX5_away_45 : decode cX5_away 45 = .ok (.istore_n 3, 1) := by decide +kernel
theorem dX5_away_46 : decode cX5_away 46 = .ok (.iload_n 3, 1) := by decide +kernel
theorem dX5_away_47 : decode cX5_away 47 = .ok (.aload_n 0, 1) := by decide +kernel
theorem dX5_away_48 : decode cX5_away 48 = .ok (.getfield 12, 3) := by decide +kernel
theorem dX5_away_51 : decode cX5_away 51 = .ok (.getfield 96, 3) := by decide +kernel
theorem dX5_away_54 : decode cX5_away 54 = .ok (.if_icmp .ge 29, 3) := by decide +kernel
theorem dX5_away_57 : decode cX5_away 57 = .ok (.aload_n 0, 1) := by decide +kernel
theorem dX5_away_58 : decode cX5_away 58 = .ok (.invokevirtual 112, 3) := by decide +kernel
theorem dX5_away_61 : decode cX5_away 61 = .ok (.iload_n 3, 1) := by decide +kernel
theorem dX5_away_62 : decode cX5_away 62 = .ok (.invokevirtual 203, 3) := by decide +kernel
theorem dX5_away_65 : decode cX5_away 65 = .ok (.aload_n 0, 1) := by decide +kernel
theorem dX5_away_66 : decode cX5_away 66 = .ok (.getfield 50, 3) := by decide +kernel
theorem dX5_away_69 : decode cX5_away 69 = .ok (.iload_n 3, 1) := by decide +kernel
theorem dX5_away_70 : decode cX5_away 70 = .ok (.aload_n 0, 1) := by decide +kernel
theorem dX5_away_71 : decode cX5_away 71 = .ok (.getfield 16, 3) := by decide +kernel
theorem dX5_away_74 : decode cX5_away 74 = .ok (.invokevirtual 190, 3) := by decide +kernel
theorem dX5_away_77 : decode cX5_away 77 = .ok (.iinc 3 1, 3) := by decide +kernel
theorem dX5_away_80 : decode cX5_away 80 = .ok (.goto (-34), 3) := by decide +kernel
theorem dX5_away_83 : decode cX5_away 83 = .ok (.aload_n 0, 1) := by decide +kernel
theorem dX5_away_84 : decode cX5_away 84 = .ok (.getfield 50, 3) := by decide +kernel
theorem dX5_away_87 : decode cX5_away 87 = .ok (.iload_n 1, 1) := by decide +kernel
theorem dX5_away_88 : decode cX5_away 88 = .ok (.invokevirtual 194, 3) := by decide +kernel
theorem dX5_away_91 : decode cX5_away 91 = .ok (.ireturn, 1) := by decide +kernel
theorem dX5_luck_0 : decode cX5_luck 0 = .ok (.iload_n 1, 1) := by decide +kernel
theorem dX5_luck_1 : decode cX5_luck 1 = .ok (.iconst 0, 1) := by decide +kernel
theorem dX5_luck_2 : decode cX5_luck 2 = .ok (.bipush 10, 2) := by decide +kernel
theorem dX5_luck_4 : decode cX5_luck 4 = .ok (.invokestatic 59, 3) := by decide +kernel
theorem dX5_luck_7 : decode cX5_luck 7 = .ok (.ifCond .eq 31, 3) := by decide +kernel
theorem dX5_luck_10 : decode cX5_luck 10 = .ok (.aload_n 0, 1) := by decide +kernel
theorem dX5_luck_11 : decode cX5_luck 11 = .ok (.iload_n 2, 1) := by decide +kernel
theorem dX5_luck_12 : decode cX5_luck 12 = .ok (.invokevirtual 123, 3) := by decide +kernel
theorem dX5_luck_15 : decode cX5_luck 15 = .ok (.ifCond .eq 23, 3) := by decide +kernel
theorem dX5_luck_18 : decode cX5_luck 18 = .ok (.iload_n 3, 1) := by decide +kernel
theorem dX5_luck_19 : decode cX5_luck 19 = .ok (.iconst 0, 1) := by decide +kernel
theorem dX5_luck_20 : decode cX5_luck 20 = .ok (.bipush 8, 2) := by decide +kernel
theorem dX5_luck_22 : decode cX5_luck 22 = .ok (.invokestatic 59, 3) := by decide +kernel
theorem dX5_luck_25 : decode cX5_luck 25 = .ok (.ifCond .eq 13, 3) := by decide +kernel
theorem dX5_luck_28 : decode cX5_luck 28 = .ok (.iload 4, 2) := by decide +kernel
theorem dX5_luck_30 : decode cX5_luck 30 = .ok (.iconst 0, 1) := by decide +kernel
theorem dX5_luck_31 : decode cX5_luck 31 = .ok (.iconst 1, 1) := by decide +kernel
theorem dX5_luck_32 : decode cX5_luck 32 = .ok (.invokestatic 59, 3) := by decide +kernel
theorem dX5_luck_35 : decode cX5_luck 35 = .ok (.ifCond .ne 7, 3) := by decide +kernel
theorem dX5_luck_38 : decode cX5_luck 38 = .ok (.ldc2_w 206, 3) := by decide +kernel
theorem dX5_luck_41 : decode cX5_luck 41 = .ok (.lreturn, 1) := by decide +kernel
theorem dX5_luck_42 : decode cX5_luck 42 = .ok (.lconst 0, 1) := by decide +kernel
theorem dX5_luck_43 : decode cX5_luck 43 = .ok (.lstore 5, 2) := by decide +kernel
theorem dX5_luck_45 : decode cX5_luck 45 = .ok (.iconst 0, 1) := by decide +kernel
theorem dX5_luck_46 : decode cX5_luck 46 = .ok (.istore 7, 2) := by decide +kernel
theorem dX5_luck_48 : decode cX5_luck 48 = .ok (.iload 7, 2) := by decide +kernel
theorem dX5_luck_50 : decode cX5_luck 50 = .ok (.iconst 1, 1) := by decide +kernel
theorem dX5_luck_51 : decode cX5_luck 51 = .ok (.iload_n 3, 1) := by decide +kernel
theorem dX5_luck_52 : decode cX5_luck 52 = .ok (.ishl, 1) := by decide +kernel
theorem dX5_luck_53 : decode cX5_luck 53 = .ok (.if_icmp .ge 47, 3) := by decide +kernel
theorem dX5_luck_56 : decode cX5_luck 56 = .ok (.aload_n 0, 1) := by decide +kernel
theorem dX5_luck_57 : decode cX5_luck 57 = .ok (.invokevirtual 112, 3) := by decide +kernel
theorem dX5_luck_60 : decode cX5_luck 60 = .ok (.iload_n 3, 1) := by decide +kernel
theorem dX5_luck_61 : decode cX5_luck 61 = .ok (.iload 7, 2) := by decide +kernel
theorem dX5_luck_63 : decode cX5_luck 63 = .ok (.invokevirtual 208, 3) := by decide +kernel
theorem dX5_luck_66 : decode cX5_luck 66 = .ok (.pop, 1) := by decide +kernel
theorem dX5_luck_67 : decode cX5_luck 67 = .ok (.aload_n 0, 1) := by decide +kernel
theorem dX5_luck_68 : decode cX5_luck 68 = .ok (.getfield 16, 3) := by decide +kernel
theorem dX5_luck_71 : decode cX5_luck 71 = .ok (.iconst 0, 1) := by decide +kernel
theorem dX5_luck_72 : decode cX5_luck 72 = .ok (.invokevirtual 116, 3) := by decide +kernel
theorem dX5_luck_75 : decode cX5_luck 75 = .ok (.iload_n 2, 1) := by decide +kernel
theorem dX5_luck_76 : decode cX5_luck 76 = .ok (.invokestatic 211, 3) := by decide +kernel
theorem dX5_luck_79 : decode cX5_luck 79 = .ok (.ifCond .eq 15, 3) := by decide +kernel
theorem dX5_luck_82 : decode cX5_luck 82 = .ok (.lload 5, 2) := by decide +kernel
theorem dX5_luck_84 : decode cX5_luck 84 = .ok (.iload 7, 2) := by decide +kernel
theorem dX5_luck_86 : decode cX5_luck 86 = .ok (.iload_n 1, 1) := by decide +kernel
theorem dX5_luck_87 : decode cX5_luck 87 = .ok (.iload_n 3, 1) := by decide +kernel
theorem dX5_luck_88 : decode cX5_luck 88 = .ok (.invokestatic 215, 3) := by decide +kernel
theorem dX5_luck_91 : decode cX5_luck 91 = .ok (.ladd, 1) := by decide +kernel
theorem dX5_luck_92 : decode cX5_luck 92 = .ok (.lstore 5, 2) := by decide +kernel
theorem dX5_luck_94 : decode cX5_luck 94 = .ok (.iinc 7 1, 3) := by decide +kernel
theorem dX5_luck_97 : decode cX5_luck 97 = .ok (.goto (-49), 3) := by decide +kernel
theorem dX5_luck_100 : decode cX5_luck 100 = .ok (.lload 5, 2) := by decide +kernel
theorem dX5_luck_102 : decode cX5_luck 102 = .ok (.bipush 10, 2) := by decide +kernel
theorem dX5_luck_104 : decode cX5_luck 104 = .ok (.iload_n 3, 1) := by decide +kernel
theorem dX5_luck_105 : decode cX5_luck 105 = .ok (.invokestatic 219, 3) := by decide +kernel
theorem dX5_luck_108 : decode cX5_luck 108 = .ok (.iload 4, 2) := by decide +kernel
theorem dX5_luck_110 : decode cX5_luck 110 = .ok (.invokestatic 223, 3) := by decide +kernel
theorem dX5_luck_113 : decode cX5_luck 113 = .ok (.lreturn, 1) := by decide +kernel
theorem dX5_mean_0 : decode cX5_mean 0 = .ok (.iload_n 1, 1) := by decide +kernel
theorem dX5_mean_1 : decode cX5_mean 1 = .ok (.iconst 0, 1) := by decide +kernel
theorem dX5_mean_2 : decode cX5_mean 2 = .ok (.bipush 10, 2) := by decide +kernel
theorem dX5_mean_4 : decode cX5_mean 4 = .ok (.invokestatic 59, 3) := by decide +kernel
theorem dX5_mean_7 : decode cX5_mean 7 = .ok (.ifCond .eq 22, 3) := by decide +kernel
theorem dX5_mean_10 : decode cX5_mean 10 = .ok (.iload_n 2, 1) := by decide +kernel
theorem dX5_mean_11 : decode cX5_mean 11 = .ok (.iconst 0, 1) := by decide +kernel
theorem dX5_mean_12 : decode cX5_mean 12 = .ok (.bipush 8, 2) := by decide +kernel
theorem dX5_mean_14 : decode cX5_mean 14 = .ok (.invokestatic 59, 3) := by decide +kernel
theorem dX5_mean_17 : decode cX5_mean 17 = .ok (.ifCond .eq 12, 3) := by decide +kernel
theorem dX5_mean_20 : decode cX5_mean 20 = .ok (.iload_n 3, 1) := by decide +kernel
theorem dX5_mean_21 : decode cX5_mean 21 = .ok (.iconst 0, 1) := by decide +kernel
theorem dX5_mean_22 : decode cX5_mean 22 = .ok (.iconst 1, 1) := by decide +kernel
theorem dX5_mean_23 : decode cX5_mean 23 = .ok (.invokestatic 59, 3) := by decide +kernel
theorem dX5_mean_26 : decode cX5_mean 26 = .ok (.ifCond .ne 7, 3) := by decide +kernel
theorem dX5_mean_29 : decode cX5_mean 29 = .ok (.ldc2_w 206, 3) := by decide +kernel
theorem dX5_mean_32 : decode cX5_mean 32 = .ok (.lreturn, 1) := by decide +kernel
theorem dX5_mean_33 : decode cX5_mean 33 = .ok (.lconst 0, 1) := by decide +kernel
theorem dX5_mean_34 : decode cX5_mean 34 = .ok (.lstore 4, 2) := by decide +kernel
theorem dX5_mean_36 : decode cX5_mean 36 = .ok (.iconst 0, 1) := by decide +kernel
theorem dX5_mean_37 : decode cX5_mean 37 = .ok (.istore 6, 2) := by decide +kernel
theorem dX5_mean_39 : decode cX5_mean 39 = .ok (.iload 6, 2) := by decide +kernel
theorem dX5_mean_41 : decode cX5_mean 41 = .ok (.iconst 1, 1) := by decide +kernel
theorem dX5_mean_42 : decode cX5_mean 42 = .ok (.iload_n 2, 1) := by decide +kernel
theorem dX5_mean_43 : decode cX5_mean 43 = .ok (.ishl, 1) := by decide +kernel
theorem dX5_mean_44 : decode cX5_mean 44 = .ok (.if_icmp .ge 33, 3) := by decide +kernel
theorem dX5_mean_47 : decode cX5_mean 47 = .ok (.lload 4, 2) := by decide +kernel
theorem dX5_mean_49 : decode cX5_mean 49 = .ok (.aload_n 0, 1) := by decide +kernel
theorem dX5_mean_50 : decode cX5_mean 50 = .ok (.invokevirtual 112, 3) := by decide +kernel
theorem dX5_mean_53 : decode cX5_mean 53 = .ok (.iload_n 2, 1) := by decide +kernel
theorem dX5_mean_54 : decode cX5_mean 54 = .ok (.iload 6, 2) := by decide +kernel
theorem dX5_mean_56 : decode cX5_mean 56 = .ok (.invokevirtual 208, 3) := by decide +kernel
theorem dX5_mean_59 : decode cX5_mean 59 = .ok (.i2l, 1) := by decide +kernel
theorem dX5_mean_60 : decode cX5_mean 60 = .ok (.iload 6, 2) := by decide +kernel
theorem dX5_mean_62 : decode cX5_mean 62 = .ok (.iload_n 1, 1) := by decide +kernel
theorem dX5_mean_63 : decode cX5_mean 63 = .ok (.iload_n 2, 1) := by decide +kernel
theorem dX5_mean_64 : decode cX5_mean 64 = .ok (.invokestatic 215, 3) := by decide +kernel
theorem dX5_mean_67 : decode cX5_mean 67 = .ok (.lmul, 1) := by decide +kernel
theorem dX5_mean_68 : decode cX5_mean 68 = .ok (.ladd, 1) := by decide +kernel
theorem dX5_mean_69 : decode cX5_mean 69 = .ok (.lstore 4, 2) := by decide +kernel
theorem dX5_mean_71 : decode cX5_mean 71 = .ok (.iinc 6 1, 3) := by decide +kernel
theorem dX5_mean_74 : decode cX5_mean 74 = .ok (.goto (-35), 3) := by decide +kernel
theorem dX5_mean_77 : decode cX5_mean 77 = .ok (.lload 4, 2) := by decide +kernel
theorem dX5_mean_79 : decode cX5_mean 79 = .ok (.bipush 10, 2) := by decide +kernel
theorem dX5_mean_81 : decode cX5_mean 81 = .ok (.iload_n 2, 1) := by decide +kernel
theorem dX5_mean_82 : decode cX5_mean 82 = .ok (.invokestatic 219, 3) := by decide +kernel
theorem dX5_mean_85 : decode cX5_mean 85 = .ok (.iload_n 3, 1) := by decide +kernel
theorem dX5_mean_86 : decode cX5_mean 86 = .ok (.invokestatic 223, 3) := by decide +kernel
theorem dX5_mean_89 : decode cX5_mean 89 = .ok (.lreturn, 1) := by decide +kernel
theorem dX5_see_0 : decode cX5_see 0 = .ok (.iload_n 1, 1) := by decide +kernel
theorem dX5_see_1 : decode cX5_see 1 = .ok (.iconst 0, 1) := by decide +kernel
theorem dX5_see_2 : decode cX5_see 2 = .ok (.bipush 60, 2) := by decide +kernel
theorem dX5_see_4 : decode cX5_see 4 = .ok (.invokestatic 59, 3) := by decide +kernel
theorem dX5_see_7 : decode cX5_see 7 = .ok (.ifCond .eq 20, 3) := by decide +kernel
theorem dX5_see_10 : decode cX5_see 10 = .ok (.aload_n 0, 1) := by decide +kernel
theorem dX5_see_11 : decode cX5_see 11 = .ok (.iload_n 2, 1) := by decide +kernel
theorem dX5_see_12 : decode cX5_see 12 = .ok (.invokevirtual 123, 3) := by decide +kernel
theorem dX5_see_15 : decode cX5_see 15 = .ok (.ifCond .eq 12, 3) := by decide +kernel
theorem dX5_see_18 : decode cX5_see 18 = .ok (.iload_n 3, 1) := by decide +kernel
theorem dX5_see_19 : decode cX5_see 19 = .ok (.iconst 0, 1) := by decide +kernel
theorem dX5_see_20 : decode cX5_see 20 = .ok (.iconst 1, 1) := by decide +kernel
theorem dX5_see_21 : decode cX5_see 21 = .ok (.invokestatic 59, 3) := by decide +kernel
theorem dX5_see_24 : decode cX5_see 24 = .ok (.ifCond .ne 5, 3) := by decide +kernel
theorem dX5_see_27 : decode cX5_see 27 = .ok (.iconst (-1), 1) := by decide +kernel
theorem dX5_see_28 : decode cX5_see 28 = .ok (.ireturn, 1) := by decide +kernel
theorem dX5_see_29 : decode cX5_see 29 = .ok (.aload_n 0, 1) := by decide +kernel
theorem dX5_see_30 : decode cX5_see 30 = .ok (.getfield 37, 3) := by decide +kernel
theorem dX5_see_33 : decode cX5_see 33 = .ok (.getfield 90, 3) := by decide +kernel
theorem dX5_see_36 : decode cX5_see 36 = .ok (.bipush 6, 2) := by decide +kernel
theorem dX5_see_38 : decode cX5_see 38 = .ok (.if_icmp .lt 6, 3) := by decide +kernel
theorem dX5_see_41 : decode cX5_see 41 = .ok (.bipush (-3), 2) := by decide +kernel
theorem dX5_see_43 : decode cX5_see 43 = .ok (.ireturn, 1) := by decide +kernel
theorem dX5_see_44 : decode cX5_see 44 = .ok (.aload_n 0, 1) := by decide +kernel
theorem dX5_see_45 : decode cX5_see 45 = .ok (.getfield 37, 3) := by decide +kernel
theorem dX5_see_48 : decode cX5_see 48 = .ok (.iload_n 1, 1) := by decide +kernel
theorem dX5_see_49 : decode cX5_see 49 = .ok (.iload_n 2, 1) := by decide +kernel
theorem dX5_see_50 : decode cX5_see 50 = .ok (.iload_n 3, 1) := by decide +kernel
theorem dX5_see_51 : decode cX5_see 51 = .ok (.invokevirtual 227, 3) := by decide +kernel
theorem dX5_see_54 : decode cX5_see 54 = .ok (.aload_n 0, 1) := by decide +kernel
theorem dX5_see_55 : decode cX5_see 55 = .ok (.getfield 37, 3) := by decide +kernel
theorem dX5_see_58 : decode cX5_see 58 = .ok (.getfield 90, 3) := by decide +kernel
theorem dX5_see_61 : decode cX5_see 61 = .ok (.ireturn, 1) := by decide +kernel
theorem dX5_forget_0 : decode cX5_forget 0 = .ok (.iload_n 1, 1) := by decide +kernel
theorem dX5_forget_1 : decode cX5_forget 1 = .ok (.iconst 0, 1) := by decide +kernel
theorem dX5_forget_2 : decode cX5_forget 2 = .ok (.aload_n 0, 1) := by decide +kernel
theorem dX5_forget_3 : decode cX5_forget 3 = .ok (.getfield 37, 3) := by decide +kernel
theorem dX5_forget_6 : decode cX5_forget 6 = .ok (.getfield 90, 3) := by decide +kernel
theorem dX5_forget_9 : decode cX5_forget 9 = .ok (.invokestatic 59, 3) := by decide +kernel
theorem dX5_forget_12 : decode cX5_forget 12 = .ok (.ifCond .ne 5, 3) := by decide +kernel
theorem dX5_forget_15 : decode cX5_forget 15 = .ok (.iconst (-1), 1) := by decide +kernel
theorem dX5_forget_16 : decode cX5_forget 16 = .ok (.ireturn, 1) := by decide +kernel
theorem dX5_forget_17 : decode cX5_forget 17 = .ok (.aload_n 0, 1) := by decide +kernel
theorem dX5_forget_18 : decode cX5_forget 18 = .ok (.getfield 37, 3) := by decide +kernel
theorem dX5_forget_21 : decode cX5_forget 21 = .ok (.getfield 90, 3) := by decide +kernel
theorem dX5_forget_24 : decode cX5_forget 24 = .ok (.istore_n 2, 1) := by decide +kernel
theorem dX5_forget_25 : decode cX5_forget 25 = .ok (.aload_n 0, 1) := by decide +kernel
theorem dX5_forget_26 : decode cX5_forget 26 = .ok (.getfield 37, 3) := by decide +kernel
theorem dX5_forget_29 : decode cX5_forget 29 = .ok (.iload_n 1, 1) := by decide +kernel
theorem dX5_forget_30 : decode cX5_forget 30 = .ok (.putfield 90, 3) := by decide +kernel
theorem dX5_forget_33 : decode cX5_forget 33 = .ok (.iload_n 2, 1) := by decide +kernel
theorem dX5_forget_34 : decode cX5_forget 34 = .ok (.ireturn, 1) := by decide +kernel
theorem dX5_kinds_0 : decode cX5_kinds 0 = .ok (.aload_n 0, 1) := by decide +kernel
theorem dX5_kinds_1 : decode cX5_kinds 1 = .ok (.iload_n 1, 1) := by decide +kernel
theorem dX5_kinds_2 : decode cX5_kinds 2 = .ok (.invokevirtual 123, 3) := by decide +kernel
theorem dX5_kinds_5 : decode cX5_kinds 5 = .ok (.ifCond .ne 5, 3) := by decide +kernel
theorem dX5_kinds_8 : decode cX5_kinds 8 = .ok (.iconst (-1), 1) := by decide +kernel
theorem dX5_kinds_9 : decode cX5_kinds 9 = .ok (.ireturn, 1) := by decide +kernel
theorem dX5_kinds_10 : decode cX5_kinds 10 = .ok (.iconst 0, 1) := by decide +kernel
theorem dX5_kinds_11 : decode cX5_kinds 11 = .ok (.istore_n 2, 1) := by decide +kernel
theorem dX5_kinds_12 : decode cX5_kinds 12 = .ok (.iconst 0, 1) := by decide +kernel
theorem dX5_kinds_13 : decode cX5_kinds 13 = .ok (.istore_n 3, 1) := by decide +kernel
theorem dX5_kinds_14 : decode cX5_kinds 14 = .ok (.iload_n 3, 1) := by decide +kernel
theorem dX5_kinds_15 : decode cX5_kinds 15 = .ok (.iconst 3, 1) := by decide +kernel
theorem dX5_kinds_16 : decode cX5_kinds 16 = .ok (.if_icmp .gt 31, 3) := by decide +kernel
theorem dX5_kinds_19 : decode cX5_kinds 19 = .ok (.aload_n 0, 1) := by decide +kernel
theorem dX5_kinds_20 : decode cX5_kinds 20 = .ok (.getfield 37, 3) := by decide +kernel
theorem dX5_kinds_23 : decode cX5_kinds 23 = .ok (.aload_n 0, 1) := by decide +kernel
theorem dX5_kinds_24 : decode cX5_kinds 24 = .ok (.iload_n 1, 1) := by decide +kernel
theorem dX5_kinds_25 : decode cX5_kinds 25 = .ok (.iload_n 3, 1) := by decide +kernel
theorem dX5_kinds_26 : decode cX5_kinds 26 = .ok (.invokevirtual 200, 3) := by decide +kernel
theorem dX5_kinds_29 : decode cX5_kinds 29 = .ok (.invokevirtual 230, 3) := by decide +kernel
theorem dX5_kinds_32 : decode cX5_kinds 32 = .ok (.ifCond .eq 9, 3) := by decide +kernel
theorem dX5_kinds_35 : decode cX5_kinds 35 = .ok (.iload_n 2, 1) := by decide +kernel
theorem dX5_kinds_36 : decode cX5_kinds 36 = .ok (.iconst 1, 1) := by decide +kernel
theorem dX5_kinds_37 : decode cX5_kinds 37 = .ok (.iload_n 3, 1) := by decide +kernel
theorem dX5_kinds_38 : decode cX5_kinds 38 = .ok (.ishl, 1) := by decide +kernel
theorem dX5_kinds_39 : decode cX5_kinds 39 = .ok (.ior, 1) := by decide +kernel
theorem dX5_kinds_40 : decode cX5_kinds 40 = .ok (.istore_n 2, 1) := by decide +kernel
theorem dX5_kinds_41 : decode cX5_kinds 41 = .ok (.iinc 3 1, 3) := by decide +kernel
theorem dX5_kinds_44 : decode cX5_kinds 44 = .ok (.goto (-30), 3) := by decide +kernel
theorem dX5_kinds_47 : decode cX5_kinds 47 = .ok (.iload_n 2, 1) := by decide +kernel
theorem dX5_kinds_48 : decode cX5_kinds 48 = .ok (.ireturn, 1) := by decide +kernel
theorem dX5_periods_0 : decode cX5_periods 0 = .ok (.aload_n 0, 1) := by decide +kernel
theorem dX5_periods_1 : decode cX5_periods 1 = .ok (.iload_n 1, 1) := by decide +kernel
theorem dX5_periods_2 : decode cX5_periods 2 = .ok (.invokevirtual 123, 3) := by decide +kernel
theorem dX5_periods_5 : decode cX5_periods 5 = .ok (.ifCond .ne 5, 3) := by decide +kernel
theorem dX5_periods_8 : decode cX5_periods 8 = .ok (.iconst (-1), 1) := by decide +kernel
theorem dX5_periods_9 : decode cX5_periods 9 = .ok (.ireturn, 1) := by decide +kernel
theorem dX5_periods_10 : decode cX5_periods 10 = .ok (.iconst 0, 1) := by decide +kernel
theorem dX5_periods_11 : decode cX5_periods 11 = .ok (.istore_n 2, 1) := by decide +kernel
theorem dX5_periods_12 : decode cX5_periods 12 = .ok (.iconst 2, 1) := by decide +kernel
theorem dX5_periods_13 : decode cX5_periods 13 = .ok (.istore_n 3, 1) := by decide +kernel
theorem dX5_periods_14 : decode cX5_periods 14 = .ok (.iload_n 3, 1) := by decide +kernel
theorem dX5_periods_15 : decode cX5_periods 15 = .ok (.bipush 30, 2) := by decide +kernel
theorem dX5_periods_17 : decode cX5_periods 17 = .ok (.if_icmp .gt 31, 3) := by decide +kernel
theorem dX5_periods_20 : decode cX5_periods 20 = .ok (.aload_n 0, 1) := by decide +kernel
theorem dX5_periods_21 : decode cX5_periods 21 = .ok (.getfield 37, 3) := by decide +kernel
theorem dX5_periods_24 : decode cX5_periods 24 = .ok (.aload_n 0, 1) := by decide +kernel
theorem dX5_periods_25 : decode cX5_periods 25 = .ok (.iload_n 1, 1) := by decide +kernel
theorem dX5_periods_26 : decode cX5_periods 26 = .ok (.iload_n 3, 1) := by decide +kernel
theorem dX5_periods_27 : decode cX5_periods 27 = .ok (.invokevirtual 186, 3) := by decide +kernel
theorem dX5_periods_30 : decode cX5_periods 30 = .ok (.invokevirtual 230, 3) := by decide +kernel
theorem dX5_periods_33 : decode cX5_periods 33 = .ok (.ifCond .eq 9, 3) := by decide +kernel
theorem dX5_periods_36 : decode cX5_periods 36 = .ok (.iload_n 2, 1) := by decide +kernel
theorem dX5_periods_37 : decode cX5_periods 37 = .ok (.iconst 1, 1) := by decide +kernel
theorem dX5_periods_38 : decode cX5_periods 38 = .ok (.iload_n 3, 1) := by decide +kernel
theorem dX5_periods_39 : decode cX5_periods 39 = .ok (.ishl, 1) := by decide +kernel
theorem dX5_periods_40 : decode cX5_periods 40 = .ok (.ior, 1) := by decide +kernel
theorem dX5_periods_41 : decode cX5_periods 41 = .ok (.istore_n 2, 1) := by decide +kernel
theorem dX5_periods_42 : decode cX5_periods 42 = .ok (.iinc 3 1, 3) := by decide +kernel
theorem dX5_periods_45 : decode cX5_periods 45 = .ok (.goto (-31), 3) := by decide +kernel
theorem dX5_periods_48 : decode cX5_periods 48 = .ok (.iload_n 2, 1) := by decide +kernel
theorem dX5_periods_49 : decode cX5_periods 49 = .ok (.ireturn, 1) := by decide +kernel
theorem dX5_hands_0 : decode cX5_hands 0 = .ok (.aload_n 0, 1) := by decide +kernel
theorem dX5_hands_1 : decode cX5_hands 1 = .ok (.iload_n 1, 1) := by decide +kernel
theorem dX5_hands_2 : decode cX5_hands 2 = .ok (.invokevirtual 123, 3) := by decide +kernel
theorem dX5_hands_5 : decode cX5_hands 5 = .ok (.ifCond .eq 11, 3) := by decide +kernel
theorem dX5_hands_8 : decode cX5_hands 8 = .ok (.aload_n 0, 1) := by decide +kernel
theorem dX5_hands_9 : decode cX5_hands 9 = .ok (.iload_n 1, 1) := by decide +kernel
theorem dX5_hands_10 : decode cX5_hands 10 = .ok (.invokevirtual 233, 3) := by decide +kernel
theorem dX5_hands_13 : decode cX5_hands 13 = .ok (.goto 4, 3) := by decide +kernel
theorem dX5_hands_16 : decode cX5_hands 16 = .ok (.iconst (-1), 1) := by decide +kernel
theorem dX5_hands_17 : decode cX5_hands 17 = .ok (.ireturn, 1) := by decide +kernel
theorem dX5_ask_0 : decode cX5_ask 0 = .ok (.aload_n 0, 1) := by decide +kernel
theorem dX5_ask_1 : decode cX5_ask 1 = .ok (.iload_n 1, 1) := by decide +kernel
theorem dX5_ask_2 : decode cX5_ask 2 = .ok (.invokevirtual 123, 3) := by decide +kernel
theorem dX5_ask_5 : decode cX5_ask 5 = .ok (.ifCond .eq 12, 3) := by decide +kernel
theorem dX5_ask_8 : decode cX5_ask 8 = .ok (.iload_n 2, 1) := by decide +kernel
theorem dX5_ask_9 : decode cX5_ask 9 = .ok (.iconst 0, 1) := by decide +kernel
theorem dX5_ask_10 : decode cX5_ask 10 = .ok (.iconst 1, 1) := by decide +kernel
theorem dX5_ask_11 : decode cX5_ask 11 = .ok (.invokestatic 59, 3) := by decide +kernel
theorem dX5_ask_14 : decode cX5_ask 14 = .ok (.ifCond .ne 5, 3) := by decide +kernel
theorem dX5_ask_17 : decode cX5_ask 17 = .ok (.iconst (-1), 1) := by decide +kernel
theorem dX5_ask_18 : decode cX5_ask 18 = .ok (.ireturn, 1) := by decide +kernel
theorem dX5_ask_19 : decode cX5_ask 19 = .ok (.aload_n 0, 1) := by decide +kernel
theorem dX5_ask_20 : decode cX5_ask 20 = .ok (.iload_n 1, 1) := by decide +kernel
theorem dX5_ask_21 : decode cX5_ask 21 = .ok (.invokevirtual 233, 3) := by decide +kernel
theorem dX5_ask_24 : decode cX5_ask 24 = .ok (.istore_n 3, 1) := by decide +kernel
theorem dX5_ask_25 : decode cX5_ask 25 = .ok (.aload_n 0, 1) := by decide +kernel
theorem dX5_ask_26 : decode cX5_ask 26 = .ok (.iload_n 1, 1) := by decide +kernel
theorem dX5_ask_27 : decode cX5_ask 27 = .ok (.iload_n 3, 1) := by decide +kernel
theorem dX5_ask_28 : decode cX5_ask 28 = .ok (.invokevirtual 236, 3) := by decide +kernel
theorem dX5_ask_31 : decode cX5_ask 31 = .ok (.iload_n 3, 1) := by decide +kernel
theorem dX5_ask_32 : decode cX5_ask 32 = .ok (.invokestatic 162, 3) := by decide +kernel
theorem dX5_ask_35 : decode cX5_ask 35 = .ok (.istore 4, 2) := by decide +kernel
theorem dX5_ask_37 : decode cX5_ask 37 = .ok (.iload 4, 2) := by decide +kernel
theorem dX5_ask_39 : decode cX5_ask 39 = .ok (.istore 5, 2) := by decide +kernel
theorem dX5_ask_41 : decode cX5_ask 41 = .ok (.bipush (-4), 2) := by decide +kernel
theorem dX5_ask_43 : decode cX5_ask 43 = .ok (.istore 6, 2) := by decide +kernel
theorem dX5_ask_45 : decode cX5_ask 45 = .ok (.iconst 0, 1) := by decide +kernel
theorem dX5_ask_46 : decode cX5_ask 46 = .ok (.istore 7, 2) := by decide +kernel
theorem dX5_ask_48 : decode cX5_ask 48 = .ok (.iload 7, 2) := by decide +kernel
theorem dX5_ask_50 : decode cX5_ask 50 = .ok (.bipush 60, 2) := by decide +kernel
theorem dX5_ask_52 : decode cX5_ask 52 = .ok (.if_icmp .gt 46, 3) := by decide +kernel
theorem dX5_ask_55 : decode cX5_ask 55 = .ok (.aload_n 0, 1) := by decide +kernel
theorem dX5_ask_56 : decode cX5_ask 56 = .ok (.getfield 54, 3) := by decide +kernel
theorem dX5_ask_59 : decode cX5_ask 59 = .ok (.iload 7, 2) := by decide +kernel
theorem dX5_ask_61 : decode cX5_ask 61 = .ok (.iaload, 1) := by decide +kernel
theorem dX5_ask_62 : decode cX5_ask 62 = .ok (.iload 4, 2) := by decide +kernel
theorem dX5_ask_64 : decode cX5_ask 64 = .ok (.aload_n 0, 1) := by decide +kernel
theorem dX5_ask_65 : decode cX5_ask 65 = .ok (.getfield 54, 3) := by decide +kernel
theorem dX5_ask_68 : decode cX5_ask 68 = .ok (.iload 7, 2) := by decide +kernel
theorem dX5_ask_70 : decode cX5_ask 70 = .ok (.iaload, 1) := by decide +kernel
theorem dX5_ask_71 : decode cX5_ask 71 = .ok (.isub, 1) := by decide +kernel
theorem dX5_ask_72 : decode cX5_ask 72 = .ok (.invokestatic 167, 3) := by decide +kernel
theorem dX5_ask_75 : decode cX5_ask 75 = .ok (.istore 8, 2) := by decide +kernel
theorem dX5_ask_77 : decode cX5_ask 77 = .ok (.iload 8, 2) := by decide +kernel
theorem dX5_ask_79 : decode cX5_ask 79 = .ok (.iload 5, 2) := by decide +kernel
theorem dX5_ask_81 : decode cX5_ask 81 = .ok (.if_icmp .ge 11, 3) := by decide +kernel
theorem dX5_ask_84 : decode cX5_ask 84 = .ok (.iload 8, 2) := by decide +kernel
theorem dX5_ask_86 : decode cX5_ask 86 = .ok (.istore 5, 2) := by decide +kernel
theorem dX5_ask_88 : decode cX5_ask 88 = .ok (.iload 7, 2) := by decide +kernel
theorem dX5_ask_90 : decode cX5_ask 90 = .ok (.istore 6, 2) := by decide +kernel
theorem dX5_ask_92 : decode cX5_ask 92 = .ok (.iinc 7 1, 3) := by decide +kernel
theorem dX5_ask_95 : decode cX5_ask 95 = .ok (.goto (-47), 3) := by decide +kernel
theorem dX5_ask_98 : decode cX5_ask 98 = .ok (.iload 6, 2) := by decide +kernel
theorem dX5_ask_100 : decode cX5_ask 100 = .ok (.bipush (-4), 2) := by decide +kernel
theorem dX5_ask_102 : decode cX5_ask 102 = .ok (.if_icmp .eq 7, 3) := by decide +kernel
theorem dX5_ask_105 : decode cX5_ask 105 = .ok (.iload_n 2, 1) := by decide +kernel
theorem dX5_ask_106 : decode cX5_ask 106 = .ok (.ifCond .ne 8, 3) := by decide +kernel
theorem dX5_ask_109 : decode cX5_ask 109 = .ok (.iload 6, 2) := by decide +kernel
theorem dX5_ask_111 : decode cX5_ask 111 = .ok (.goto 5, 3) := by decide +kernel
theorem dX5_ask_114 : decode cX5_ask 114 = .ok (.iload 5, 2) := by decide +kernel
theorem dX5_ask_116 : decode cX5_ask 116 = .ok (.ireturn, 1) := by decide +kernel
theorem dX5_drift_0 : decode cX5_drift 0 = .ok (.iload_n 2, 1) := by decide +kernel
theorem dX5_drift_1 : decode cX5_drift 1 = .ok (.iconst 1, 1) := by decide +kernel
theorem dX5_drift_2 : decode cX5_drift 2 = .ok (.sipush 300, 3) := by decide +kernel
theorem dX5_drift_5 : decode cX5_drift 5 = .ok (.invokestatic 59, 3) := by decide +kernel
theorem dX5_drift_8 : decode cX5_drift 8 = .ok (.ifCond .eq 12, 3) := by decide +kernel
theorem dX5_drift_11 : decode cX5_drift 11 = .ok (.iload_n 3, 1) := by decide +kernel
theorem dX5_drift_12 : decode cX5_drift 12 = .ok (.iconst 0, 1) := by decide +kernel
theorem dX5_drift_13 : decode cX5_drift 13 = .ok (.iconst 1, 1) := by decide +kernel
theorem dX5_drift_14 : decode cX5_drift 14 = .ok (.invokestatic 59, 3) := by decide +kernel
theorem dX5_drift_17 : decode cX5_drift 17 = .ok (.ifCond .ne 5, 3) := by decide +kernel
theorem dX5_drift_20 : decode cX5_drift 20 = .ok (.iconst (-1), 1) := by decide +kernel
theorem dX5_drift_21 : decode cX5_drift 21 = .ok (.ireturn, 1) := by decide +kernel
theorem dX5_drift_22 : decode cX5_drift 22 = .ok (.aload_n 0, 1) := by decide +kernel
theorem dX5_drift_23 : decode cX5_drift 23 = .ok (.getfield 12, 3) := by decide +kernel
theorem dX5_drift_26 : decode cX5_drift 26 = .ok (.getfield 96, 3) := by decide +kernel
theorem dX5_drift_29 : decode cX5_drift 29 = .ok (.ifCond .ne 6, 3) := by decide +kernel
theorem dX5_drift_32 : decode cX5_drift 32 = .ok (.bipush (-2), 2) := by decide +kernel
theorem dX5_drift_34 : decode cX5_drift 34 = .ok (.ireturn, 1) := by decide +kernel
theorem dX5_drift_35 : decode cX5_drift 35 = .ok (.aload_n 0, 1) := by decide +kernel
theorem dX5_drift_36 : decode cX5_drift 36 = .ok (.invokevirtual 112, 3) := by decide +kernel
theorem dX5_drift_39 : decode cX5_drift 39 = .ok (.pop, 1) := by decide +kernel
theorem dX5_drift_40 : decode cX5_drift 40 = .ok (.iload_n 1, 1) := by decide +kernel
theorem dX5_drift_41 : decode cX5_drift 41 = .ok (.istore 4, 2) := by decide +kernel
theorem dX5_drift_43 : decode cX5_drift 43 = .ok (.iconst 0, 1) := by decide +kernel
theorem dX5_drift_44 : decode cX5_drift 44 = .ok (.istore 5, 2) := by decide +kernel
theorem dX5_drift_46 : decode cX5_drift 46 = .ok (.iconst 0, 1) := by decide +kernel
theorem dX5_drift_47 : decode cX5_drift 47 = .ok (.istore 6, 2) := by decide +kernel
theorem dX5_drift_49 : decode cX5_drift 49 = .ok (.iload 6, 2) := by decide +kernel
theorem dX5_drift_51 : decode cX5_drift 51 = .ok (.iload_n 2, 1) := by decide +kernel
theorem dX5_drift_52 : decode cX5_drift 52 = .ok (.if_icmp .ge 73, 3) := by decide +kernel
theorem dX5_drift_55 : decode cX5_drift 55 = .ok (.iload 4, 2) := by decide +kernel
theorem dX5_drift_57 : decode cX5_drift 57 = .ok (.ldc 239, 2) := by decide +kernel
theorem dX5_drift_59 : decode cX5_drift 59 = .ok (.imul, 1) := by decide +kernel
theorem dX5_drift_60 : decode cX5_drift 60 = .ok (.sipush 12345, 3) := by decide +kernel
theorem dX5_drift_63 : decode cX5_drift 63 = .ok (.iadd, 1) := by decide +kernel
theorem dX5_drift_64 : decode cX5_drift 64 = .ok (.istore 4, 2) := by decide +kernel
theorem dX5_drift_66 : decode cX5_drift 66 = .ok (.iload 4, 2) := by decide +kernel
theorem dX5_drift_68 : decode cX5_drift 68 = .ok (.bipush 16, 2) := by decide +kernel
theorem dX5_drift_70 : decode cX5_drift 70 = .ok (.iushr, 1) := by decide +kernel
theorem dX5_drift_71 : decode cX5_drift 71 = .ok (.sipush 32767, 3) := by decide +kernel
theorem dX5_drift_74 : decode cX5_drift 74 = .ok (.iand, 1) := by decide +kernel
theorem dX5_drift_75 : decode cX5_drift 75 = .ok (.istore 7, 2) := by decide +kernel
theorem dX5_drift_77 : decode cX5_drift 77 = .ok (.aload_n 0, 1) := by decide +kernel
theorem dX5_drift_78 : decode cX5_drift 78 = .ok (.getfield 16, 3) := by decide +kernel
theorem dX5_drift_81 : decode cX5_drift 81 = .ok (.iload 7, 2) := by decide +kernel
theorem dX5_drift_83 : decode cX5_drift 83 = .ok (.aload_n 0, 1) := by decide +kernel
theorem dX5_drift_84 : decode cX5_drift 84 = .ok (.getfield 12, 3) := by decide +kernel
theorem dX5_drift_87 : decode cX5_drift 87 = .ok (.getfield 96, 3) := by decide +kernel
theorem dX5_drift_90 : decode cX5_drift 90 = .ok (.irem, 1) := by decide +kernel
theorem dX5_drift_91 : decode cX5_drift 91 = .ok (.iconst 1, 1) := by decide +kernel
theorem dX5_drift_92 : decode cX5_drift 92 = .ok (.iload 7, 2) := by decide +kernel
theorem dX5_drift_94 : decode cX5_drift 94 = .ok (.bipush 8, 2) := by decide +kernel
theorem dX5_drift_96 : decode cX5_drift 96 = .ok (.idiv, 1) := by decide +kernel
theorem dX5_drift_97 : decode cX5_drift 97 = .ok (.iconst 5, 1) := by decide +kernel
theorem dX5_drift_98 : decode cX5_drift 98 = .ok (.irem, 1) := by decide +kernel
theorem dX5_drift_99 : decode cX5_drift 99 = .ok (.iadd, 1) := by decide +kernel
theorem dX5_drift_100 : decode cX5_drift 100 = .ok (.invokevirtual 150, 3) := by decide +kernel
theorem dX5_drift_103 : decode cX5_drift 103 = .ok (.iload 5, 2) := by decide +kernel
theorem dX5_drift_105 : decode cX5_drift 105 = .ok (.aload_n 0, 1) := by decide +kernel
theorem dX5_drift_106 : decode cX5_drift 106 = .ok (.getfield 16, 3) := by decide +kernel
theorem dX5_drift_109 : decode cX5_drift 109 = .ok (.iconst 0, 1) := by decide +kernel
theorem dX5_drift_110 : decode cX5_drift 110 = .ok (.invokevirtual 116, 3) := by decide +kernel
theorem dX5_drift_113 : decode cX5_drift 113 = .ok (.invokestatic 162, 3) := by decide +kernel
theorem dX5_drift_116 : decode cX5_drift 116 = .ok (.iadd, 1) := by decide +kernel
theorem dX5_drift_117 : decode cX5_drift 117 = .ok (.istore 5, 2) := by decide +kernel
theorem dX5_drift_119 : decode cX5_drift 119 = .ok (.iinc 6 1, 3) := by decide +kernel
theorem dX5_drift_122 : decode cX5_drift 122 = .ok (.goto (-73), 3) := by decide +kernel
theorem dX5_drift_125 : decode cX5_drift 125 = .ok (.iload_n 3, 1) := by decide +kernel
theorem dX5_drift_126 : decode cX5_drift 126 = .ok (.ifCond .ne 8, 3) := by decide +kernel
theorem dX5_drift_129 : decode cX5_drift 129 = .ok (.iload 5, 2) := by decide +kernel
theorem dX5_drift_131 : decode cX5_drift 131 = .ok (.goto 10, 3) := by decide +kernel
theorem dX5_drift_134 : decode cX5_drift 134 = .ok (.aload_n 0, 1) := by decide +kernel
theorem dX5_drift_135 : decode cX5_drift 135 = .ok (.getfield 16, 3) := by decide +kernel
theorem dX5_drift_138 : decode cX5_drift 138 = .ok (.invokevirtual 172, 3) := by decide +kernel
theorem dX5_drift_141 : decode cX5_drift 141 = .ok (.ireturn, 1) := by decide +kernel
theorem dX5_keep_0 : decode cX5_keep 0 = .ok (.iload_n 1, 1) := by decide +kernel
theorem dX5_keep_1 : decode cX5_keep 1 = .ok (.iconst 0, 1) := by decide +kernel
theorem dX5_keep_2 : decode cX5_keep 2 = .ok (.iconst 1, 1) := by decide +kernel
theorem dX5_keep_3 : decode cX5_keep 3 = .ok (.invokestatic 59, 3) := by decide +kernel
theorem dX5_keep_6 : decode cX5_keep 6 = .ok (.ifCond .ne 5, 3) := by decide +kernel
theorem dX5_keep_9 : decode cX5_keep 9 = .ok (.iconst (-1), 1) := by decide +kernel
theorem dX5_keep_10 : decode cX5_keep 10 = .ok (.ireturn, 1) := by decide +kernel
theorem dX5_keep_11 : decode cX5_keep 11 = .ok (.aload_n 0, 1) := by decide +kernel
theorem dX5_keep_12 : decode cX5_keep 12 = .ok (.getfield 23, 3) := by decide +kernel
theorem dX5_keep_15 : decode cX5_keep 15 = .ok (.iload_n 1, 1) := by decide +kernel
theorem dX5_keep_16 : decode cX5_keep 16 = .ok (.baload, 1) := by decide +kernel
theorem dX5_keep_17 : decode cX5_keep 17 = .ok (.ifCond .eq 7, 3) := by decide +kernel
theorem dX5_keep_20 : decode cX5_keep 20 = .ok (.iconst 1, 1) := by decide +kernel
theorem dX5_keep_21 : decode cX5_keep 21 = .ok (.goto 4, 3) := by decide +kernel
theorem dX5_keep_24 : decode cX5_keep 24 = .ok (.iconst 0, 1) := by decide +kernel
theorem dX5_keep_25 : decode cX5_keep 25 = .ok (.istore_n 2, 1) := by decide +kernel
theorem dX5_keep_26 : decode cX5_keep 26 = .ok (.aload_n 0, 1) := by decide +kernel
theorem dX5_keep_27 : decode cX5_keep 27 = .ok (.getfield 19, 3) := by decide +kernel
theorem dX5_keep_30 : decode cX5_keep 30 = .ok (.iload_n 1, 1) := by decide +kernel
theorem dX5_keep_31 : decode cX5_keep 31 = .ok (.aaload, 1) := by decide +kernel
theorem dX5_keep_32 : decode cX5_keep 32 = .ok (.aload_n 0, 1) := by decide +kernel
theorem dX5_keep_33 : decode cX5_keep 33 = .ok (.getfield 12, 3) := by decide +kernel
theorem dX5_keep_36 : decode cX5_keep 36 = .ok (.invokevirtual 87, 3) := by decide +kernel
theorem dX5_keep_39 : decode cX5_keep 39 = .ok (.aload_n 0, 1) := by decide +kernel
theorem dX5_keep_40 : decode cX5_keep 40 = .ok (.getfield 23, 3) := by decide +kernel
theorem dX5_keep_43 : decode cX5_keep 43 = .ok (.iload_n 1, 1) := by decide +kernel
theorem dX5_keep_44 : decode cX5_keep 44 = .ok (.iconst 1, 1) := by decide +kernel
theorem dX5_keep_45 : decode cX5_keep 45 = .ok (.bastore, 1) := by decide +kernel
theorem dX5_keep_46 : decode cX5_keep 46 = .ok (.iload_n 2, 1) := by decide +kernel
theorem dX5_keep_47 : decode cX5_keep 47 = .ok (.ireturn, 1) := by decide +kernel
theorem dX5_back_0 : decode cX5_back 0 = .ok (.iload_n 1, 1) := by decide +kernel
theorem dX5_back_1 : decode cX5_back 1 = .ok (.iconst 0, 1) := by decide +kernel
theorem dX5_back_2 : decode cX5_back 2 = .ok (.iconst 1, 1) := by decide +kernel
theorem dX5_back_3 : decode cX5_back 3 = .ok (.invokestatic 59, 3) := by decide +kernel
theorem dX5_back_6 : decode cX5_back 6 = .ok (.ifCond .ne 5, 3) := by decide +kernel
theorem dX5_back_9 : decode cX5_back 9 = .ok (.iconst (-1), 1) := by decide +kernel
theorem dX5_back_10 : decode cX5_back 10 = .ok (.ireturn, 1) := by decide +kernel
theorem dX5_back_11 : decode cX5_back 11 = .ok (.aload_n 0, 1) := by decide +kernel
theorem dX5_back_12 : decode cX5_back 12 = .ok (.getfield 23, 3) := by decide +kernel
theorem dX5_back_15 : decode cX5_back 15 = .ok (.iload_n 1, 1) := by decide +kernel
theorem dX5_back_16 : decode cX5_back 16 = .ok (.baload, 1) := by decide +kernel
theorem dX5_back_17 : decode cX5_back 17 = .ok (.ifCond .ne 6, 3) := by decide +kernel
theorem dX5_back_20 : decode cX5_back 20 = .ok (.bipush (-2), 2) := by decide +kernel
theorem dX5_back_22 : decode cX5_back 22 = .ok (.ireturn, 1) := by decide +kernel
theorem dX5_back_23 : decode cX5_back 23 = .ok (.aload_n 0, 1) := by decide +kernel
theorem dX5_back_24 : decode cX5_back 24 = .ok (.getfield 12, 3) := by decide +kernel
theorem dX5_back_27 : decode cX5_back 27 = .ok (.aload_n 0, 1) := by decide +kernel
theorem dX5_back_28 : decode cX5_back 28 = .ok (.getfield 19, 3) := by decide +kernel
theorem dX5_back_31 : decode cX5_back 31 = .ok (.iload_n 1, 1) := by decide +kernel
theorem dX5_back_32 : decode cX5_back 32 = .ok (.aaload, 1) := by decide +kernel
theorem dX5_back_33 : decode cX5_back 33 = .ok (.invokevirtual 87, 3) := by decide +kernel
theorem dX5_back_36 : decode cX5_back 36 = .ok (.aload_n 0, 1) := by decide +kernel
theorem dX5_back_37 : decode cX5_back 37 = .ok (.getfield 12, 3) := by decide +kernel
theorem dX5_back_40 : decode cX5_back 40 = .ok (.getfield 102, 3) := by decide +kernel
theorem dX5_back_43 : decode cX5_back 43 = .ok (.ireturn, 1) := by decide +kernel
theorem dX5_sheet_0 : decode cX5_sheet 0 = .ok (.iload_n 1, 1) := by decide +kernel
theorem dX5_sheet_1 : decode cX5_sheet 1 = .ok (.invokestatic 240, 3) := by decide +kernel
theorem dX5_sheet_4 : decode cX5_sheet 4 = .ok (.ifCond .eq 18, 3) := by decide +kernel
theorem dX5_sheet_7 : decode cX5_sheet 7 = .ok (.iload_n 2, 1) := by decide +kernel
theorem dX5_sheet_8 : decode cX5_sheet 8 = .ok (.iconst 0, 1) := by decide +kernel
theorem dX5_sheet_9 : decode cX5_sheet 9 = .ok (.iconst 2, 1) := by decide +kernel
theorem dX5_sheet_10 : decode cX5_sheet 10 = .ok (.invokestatic 59, 3) := by decide +kernel
theorem dX5_sheet_13 : decode cX5_sheet 13 = .ok (.ifCond .eq 9, 3) := by decide +kernel
theorem dX5_sheet_16 : decode cX5_sheet 16 = .ok (.iload_n 3, 1) := by decide +kernel
theorem dX5_sheet_17 : decode cX5_sheet 17 = .ok (.bipush 40, 2) := by decide +kernel
theorem dX5_sheet_19 : decode cX5_sheet 19 = .ok (.if_icmp .le 5, 3) := by decide +kernel
theorem dX5_sheet_22 : decode cX5_sheet 22 = .ok (.iconst (-1), 1) := by decide +kernel
theorem dX5_sheet_23 : decode cX5_sheet 23 = .ok (.ireturn, 1) := by decide +kernel
theorem dX5_sheet_24 : decode cX5_sheet 24 = .ok (.iload_n 3, 1) := by decide +kernel
theorem dX5_sheet_25 : decode cX5_sheet 25 = .ok (.ifCond .ge 6, 3) := by decide +kernel
theorem dX5_sheet_28 : decode cX5_sheet 28 = .ok (.bipush (-14), 2) := by decide +kernel
theorem dX5_sheet_30 : decode cX5_sheet 30 = .ok (.ireturn, 1) := by decide +kernel
theorem dX5_sheet_31 : decode cX5_sheet 31 = .ok (.aload_n 0, 1) := by decide +kernel
theorem dX5_sheet_32 : decode cX5_sheet 32 = .ok (.getfield 43, 3) := by decide +kernel
theorem dX5_sheet_35 : decode cX5_sheet 35 = .ok (.iload_n 1, 1) := by decide +kernel
theorem dX5_sheet_36 : decode cX5_sheet 36 = .ok (.aaload, 1) := by decide +kernel
theorem dX5_sheet_37 : decode cX5_sheet 37 = .ok (.iload_n 2, 1) := by decide +kernel
theorem dX5_sheet_38 : decode cX5_sheet 38 = .ok (.iload_n 3, 1) := by decide +kernel
theorem dX5_sheet_39 : decode cX5_sheet 39 = .ok (.invokevirtual 243, 3) := by decide +kernel
theorem dX5_sheet_42 : decode cX5_sheet 42 = .ok (.iconst 1, 1) := by decide +kernel
theorem dX5_sheet_43 : decode cX5_sheet 43 = .ok (.ireturn, 1) := by decide +kernel
theorem dX5_lay_0 : decode cX5_lay 0 = .ok (.iload_n 1, 1) := by decide +kernel
theorem dX5_lay_1 : decode cX5_lay 1 = .ok (.invokestatic 240, 3) := by decide +kernel
theorem dX5_lay_4 : decode cX5_lay 4 = .ok (.ifCond .ne 5, 3) := by decide +kernel
theorem dX5_lay_7 : decode cX5_lay 7 = .ok (.iconst (-1), 1) := by decide +kernel
theorem dX5_lay_8 : decode cX5_lay 8 = .ok (.ireturn, 1) := by decide +kernel
theorem dX5_lay_9 : decode cX5_lay 9 = .ok (.aload_n 0, 1) := by decide +kernel
theorem dX5_lay_10 : decode cX5_lay 10 = .ok (.getfield 43, 3) := by decide +kernel
theorem dX5_lay_13 : decode cX5_lay 13 = .ok (.iload_n 1, 1) := by decide +kernel
theorem dX5_lay_14 : decode cX5_lay 14 = .ok (.aaload, 1) := by decide +kernel
theorem dX5_lay_15 : decode cX5_lay 15 = .ok (.iload_n 2, 1) := by decide +kernel
theorem dX5_lay_16 : decode cX5_lay 16 = .ok (.invokevirtual 246, 3) := by decide +kernel
theorem dX5_lay_19 : decode cX5_lay 19 = .ok (.istore 4, 2) := by decide +kernel
theorem dX5_lay_21 : decode cX5_lay 21 = .ok (.iload 4, 2) := by decide +kernel
theorem dX5_lay_23 : decode cX5_lay 23 = .ok (.ifCond .eq 9, 3) := by decide +kernel
theorem dX5_lay_26 : decode cX5_lay 26 = .ok (.bipush (-10), 2) := by decide +kernel
theorem dX5_lay_28 : decode cX5_lay 28 = .ok (.iload 4, 2) := by decide +kernel
theorem dX5_lay_30 : decode cX5_lay 30 = .ok (.isub, 1) := by decide +kernel
theorem dX5_lay_31 : decode cX5_lay 31 = .ok (.ireturn, 1) := by decide +kernel
theorem dX5_lay_32 : decode cX5_lay 32 = .ok (.aload_n 0, 1) := by decide +kernel
theorem dX5_lay_33 : decode cX5_lay 33 = .ok (.getfield 43, 3) := by decide +kernel
theorem dX5_lay_36 : decode cX5_lay 36 = .ok (.iload_n 1, 1) := by decide +kernel
theorem dX5_lay_37 : decode cX5_lay 37 = .ok (.aaload, 1) := by decide +kernel
theorem dX5_lay_38 : decode cX5_lay 38 = .ok (.iload_n 2, 1) := by decide +kernel
theorem dX5_lay_39 : decode cX5_lay 39 = .ok (.iload_n 3, 1) := by decide +kernel
theorem dX5_lay_40 : decode cX5_lay 40 = .ok (.invokevirtual 249, 3) := by decide +kernel
theorem dX5_lay_43 : decode cX5_lay 43 = .ok (.iconst 1, 1) := by decide +kernel
theorem dX5_lay_44 : decode cX5_lay 44 = .ok (.ireturn, 1) := by decide +kernel
theorem dX5_read_0 : decode cX5_read 0 = .ok (.iload_n 1, 1) := by decide +kernel
theorem dX5_read_1 : decode cX5_read 1 = .ok (.invokestatic 240, 3) := by decide +kernel
theorem dX5_read_4 : decode cX5_read 4 = .ok (.ifCond .eq 23, 3) := by decide +kernel
theorem dX5_read_7 : decode cX5_read 7 = .ok (.iload_n 2, 1) := by decide +kernel
theorem dX5_read_8 : decode cX5_read 8 = .ok (.iconst 0, 1) := by decide +kernel
theorem dX5_read_9 : decode cX5_read 9 = .ok (.iconst 2, 1) := by decide +kernel
theorem dX5_read_10 : decode cX5_read 10 = .ok (.invokestatic 59, 3) := by decide +kernel
theorem dX5_read_13 : decode cX5_read 13 = .ok (.ifCond .eq 14, 3) := by decide +kernel
theorem dX5_read_16 : decode cX5_read 16 = .ok (.iload 4, 2) := by decide +kernel
theorem dX5_read_18 : decode cX5_read 18 = .ok (.iconst 0, 1) := by decide +kernel
theorem dX5_read_19 : decode cX5_read 19 = .ok (.bipush 20, 2) := by decide +kernel
theorem dX5_read_21 : decode cX5_read 21 = .ok (.invokestatic 59, 3) := by decide +kernel
theorem dX5_read_24 : decode cX5_read 24 = .ok (.ifCond .ne 5, 3) := by decide +kernel
theorem dX5_read_27 : decode cX5_read 27 = .ok (.iconst (-1), 1) := by decide +kernel
theorem dX5_read_28 : decode cX5_read 28 = .ok (.ireturn, 1) := by decide +kernel
theorem dX5_read_29 : decode cX5_read 29 = .ok (.aload_n 0, 1) := by decide +kernel
theorem dX5_read_30 : decode cX5_read 30 = .ok (.invokevirtual 112, 3) := by decide +kernel
theorem dX5_read_33 : decode cX5_read 33 = .ok (.pop, 1) := by decide +kernel
theorem dX5_read_34 : decode cX5_read 34 = .ok (.aload_n 0, 1) := by decide +kernel
theorem dX5_read_35 : decode cX5_read 35 = .ok (.getfield 43, 3) := by decide +kernel
theorem dX5_read_38 : decode cX5_read 38 = .ok (.iload_n 1, 1) := by decide +kernel
theorem dX5_read_39 : decode cX5_read 39 = .ok (.aaload, 1) := by decide +kernel
theorem dX5_read_40 : decode cX5_read 40 = .ok (.astore 5, 2) := by decide +kernel
theorem dX5_read_42 : decode cX5_read 42 = .ok (.iconst 0, 1) := by decide +kernel
theorem dX5_read_43 : decode cX5_read 43 = .ok (.istore 6, 2) := by decide +kernel
theorem dX5_read_45 : decode cX5_read 45 = .ok (.iconst 0, 1) := by decide +kernel
theorem dX5_read_46 : decode cX5_read 46 = .ok (.istore 7, 2) := by decide +kernel
theorem dX5_read_48 : decode cX5_read 48 = .ok (.iload 6, 2) := by decide +kernel
theorem dX5_read_50 : decode cX5_read 50 = .ok (.iload 4, 2) := by decide +kernel
theorem dX5_read_52 : decode cX5_read 52 = .ok (.if_icmp .ge 69, 3) := by decide +kernel
theorem dX5_read_55 : decode cX5_read 55 = .ok (.iload_n 3, 1) := by decide +kernel
theorem dX5_read_56 : decode cX5_read 56 = .ok (.iconst 2, 1) := by decide +kernel
theorem dX5_read_57 : decode cX5_read 57 = .ok (.iload 6, 2) := by decide +kernel
theorem dX5_read_59 : decode cX5_read 59 = .ok (.imul, 1) := by decide +kernel
theorem dX5_read_60 : decode cX5_read 60 = .ok (.iadd, 1) := by decide +kernel
theorem dX5_read_61 : decode cX5_read 61 = .ok (.istore 8, 2) := by decide +kernel
theorem dX5_read_63 : decode cX5_read 63 = .ok (.aload 5, 2) := by decide +kernel
theorem dX5_read_65 : decode cX5_read 65 = .ok (.iload_n 2, 1) := by decide +kernel
theorem dX5_read_66 : decode cX5_read 66 = .ok (.iload 8, 2) := by decide +kernel
theorem dX5_read_68 : decode cX5_read 68 = .ok (.invokevirtual 252, 3) := by decide +kernel
theorem dX5_read_71 : decode cX5_read 71 = .ok (.istore 7, 2) := by decide +kernel
theorem dX5_read_73 : decode cX5_read 73 = .ok (.iload 7, 2) := by decide +kernel
theorem dX5_read_75 : decode cX5_read 75 = .ok (.ifCond .eq 6, 3) := by decide +kernel
theorem dX5_read_78 : decode cX5_read 78 = .ok (.goto 43, 3) := by decide +kernel
theorem dX5_read_81 : decode cX5_read 81 = .ok (.aload_n 0, 1) := by decide +kernel
theorem dX5_read_82 : decode cX5_read 82 = .ok (.getfield 16, 3) := by decide +kernel
theorem dX5_read_85 : decode cX5_read 85 = .ok (.aload 5, 2) := by decide +kernel
theorem dX5_read_87 : decode cX5_read 87 = .ok (.getfield 255, 3) := by decide +kernel
theorem dX5_read_90 : decode cX5_read 90 = .ok (.iload 8, 2) := by decide +kernel
theorem dX5_read_92 : decode cX5_read 92 = .ok (.iaload, 1) := by decide +kernel
theorem dX5_read_93 : decode cX5_read 93 = .ok (.aload 5, 2) := by decide +kernel
theorem dX5_read_95 : decode cX5_read 95 = .ok (.getfield 255, 3) := by decide +kernel
theorem dX5_read_98 : decode cX5_read 98 = .ok (.iload 8, 2) := by decide +kernel
theorem dX5_read_100 : decode cX5_read 100 = .ok (.iconst 1, 1) := by decide +kernel
theorem dX5_read_101 : decode cX5_read 101 = .ok (.iadd, 1) := by decide +kernel
theorem dX5_read_102 : decode cX5_read 102 = .ok (.iaload, 1) := by decide +kernel
theorem dX5_read_103 : decode cX5_read 103 = .ok (.invokevirtual 258, 3) := by decide +kernel
theorem dX5_read_106 : decode cX5_read 106 = .ok (.ifCond .ne 9, 3) := by decide +kernel
theorem dX5_read_109 : decode cX5_read 109 = .ok (.bipush (-20), 2) := by decide +kernel
theorem dX5_read_111 : decode cX5_read 111 = .ok (.iload 6, 2) := by decide +kernel
theorem dX5_read_113 : decode cX5_read 113 = .ok (.isub, 1) := by decide +kernel
theorem dX5_read_114 : decode cX5_read 114 = .ok (.ireturn, 1) := by decide +kernel
theorem dX5_read_115 : decode cX5_read 115 = .ok (.iinc 6 1, 3) := by decide +kernel
theorem dX5_read_118 : decode cX5_read 118 = .ok (.goto (-70), 3) := by decide +kernel
theorem dX5_read_121 : decode cX5_read 121 = .ok (.aload_n 0, 1) := by decide +kernel
theorem dX5_read_122 : decode cX5_read 122 = .ok (.getfield 12, 3) := by decide +kernel
theorem dX5_read_125 : decode cX5_read 125 = .ok (.aload_n 0, 1) := by decide +kernel
theorem dX5_read_126 : decode cX5_read 126 = .ok (.getfield 16, 3) := by decide +kernel
theorem dX5_read_129 : decode cX5_read 129 = .ok (.invokevirtual 87, 3) := by decide +kernel
theorem dX5_read_132 : decode cX5_read 132 = .ok (.aload_n 0, 1) := by decide +kernel
theorem dX5_read_133 : decode cX5_read 133 = .ok (.iload 7, 2) := by decide +kernel
theorem dX5_read_135 : decode cX5_read 135 = .ok (.putfield 261, 3) := by decide +kernel
theorem dX5_read_138 : decode cX5_read 138 = .ok (.iload 6, 2) := by decide +kernel
theorem dX5_read_140 : decode cX5_read 140 = .ok (.ireturn, 1) := by decide +kernel
theorem dX5_torn_0 : decode cX5_torn 0 = .ok (.aload_n 0, 1) := by decide +kernel
theorem dX5_torn_1 : decode cX5_torn 1 = .ok (.getfield 261, 3) := by decide +kernel
theorem dX5_torn_4 : decode cX5_torn 4 = .ok (.ireturn, 1) := by decide +kernel
theorem dX5_count_0 : decode cX5_count 0 = .ok (.iload_n 1, 1) := by decide +kernel
theorem dX5_count_1 : decode cX5_count 1 = .ok (.tableswitch 112 0 5 #[39, 47, 52, 60, 88, 100], 39) := by decide +kernel
theorem dX5_count_40 : decode cX5_count 40 = .ok (.aload_n 0, 1) := by decide +kernel
theorem dX5_count_41 : decode cX5_count 41 = .ok (.getfield 37, 3) := by decide +kernel
theorem dX5_count_44 : decode cX5_count 44 = .ok (.getfield 90, 3) := by decide +kernel
theorem dX5_count_47 : decode cX5_count 47 = .ok (.ireturn, 1) := by decide +kernel
theorem dX5_count_48 : decode cX5_count 48 = .ok (.aload_n 0, 1) := by decide +kernel
theorem dX5_count_49 : decode cX5_count 49 = .ok (.invokevirtual 264, 3) := by decide +kernel
theorem dX5_count_52 : decode cX5_count 52 = .ok (.ireturn, 1) := by decide +kernel
theorem dX5_count_53 : decode cX5_count 53 = .ok (.aload_n 0, 1) := by decide +kernel
theorem dX5_count_54 : decode cX5_count 54 = .ok (.getfield 30, 3) := by decide +kernel
theorem dX5_count_57 : decode cX5_count 57 = .ok (.getfield 63, 3) := by decide +kernel
theorem dX5_count_60 : decode cX5_count 60 = .ok (.ireturn, 1) := by decide +kernel
theorem dX5_count_61 : decode cX5_count 61 = .ok (.aload_n 0, 1) := by decide +kernel
theorem dX5_count_62 : decode cX5_count 62 = .ok (.getfield 43, 3) := by decide +kernel
theorem dX5_count_65 : decode cX5_count 65 = .ok (.iconst 0, 1) := by decide +kernel
theorem dX5_count_66 : decode cX5_count 66 = .ok (.aaload, 1) := by decide +kernel
theorem dX5_count_67 : decode cX5_count 67 = .ok (.getfield 267, 3) := by decide +kernel
theorem dX5_count_70 : decode cX5_count 70 = .ok (.iconst (-1), 1) := by decide +kernel
theorem dX5_count_71 : decode cX5_count 71 = .ok (.if_icmp .ne 8, 3) := by decide +kernel
theorem dX5_count_74 : decode cX5_count 74 = .ok (.bipush (-4), 2) := by decide +kernel
theorem dX5_count_76 : decode cX5_count 76 = .ok (.goto 12, 3) := by decide +kernel
theorem dX5_count_79 : decode cX5_count 79 = .ok (.aload_n 0, 1) := by decide +kernel
theorem dX5_count_80 : decode cX5_count 80 = .ok (.getfield 43, 3) := by decide +kernel
theorem dX5_count_83 : decode cX5_count 83 = .ok (.iconst 0, 1) := by decide +kernel
theorem dX5_count_84 : decode cX5_count 84 = .ok (.aaload, 1) := by decide +kernel
theorem dX5_count_85 : decode cX5_count 85 = .ok (.getfield 270, 3) := by decide +kernel
theorem dX5_count_88 : decode cX5_count 88 = .ok (.ireturn, 1) := by decide +kernel
theorem dX5_count_89 : decode cX5_count 89 = .ok (.aload_n 0, 1) := by decide +kernel
theorem dX5_count_90 : decode cX5_count 90 = .ok (.aload_n 0, 1) := by decide +kernel
theorem dX5_count_91 : decode cX5_count 91 = .ok (.getfield 12, 3) := by decide +kernel
theorem dX5_count_94 : decode cX5_count 94 = .ok (.getfield 130, 3) := by decide +kernel
theorem dX5_count_97 : decode cX5_count 97 = .ok (.invokevirtual 108, 3) := by decide +kernel
theorem dX5_count_100 : decode cX5_count 100 = .ok (.ireturn, 1) := by decide +kernel
theorem dX5_count_101 : decode cX5_count 101 = .ok (.aload_n 0, 1) := by decide +kernel
theorem dX5_count_102 : decode cX5_count 102 = .ok (.aload_n 0, 1) := by decide +kernel
theorem dX5_count_103 : decode cX5_count 103 = .ok (.getfield 12, 3) := by decide +kernel
theorem dX5_count_106 : decode cX5_count 106 = .ok (.getfield 127, 3) := by decide +kernel
theorem dX5_count_109 : decode cX5_count 109 = .ok (.invokevirtual 108, 3) := by decide +kernel
theorem dX5_count_112 : decode cX5_count 112 = .ok (.ireturn, 1) := by decide +kernel
theorem dX5_count_113 : decode cX5_count 113 = .ok (.iconst (-1), 1) := by decide +kernel
theorem dX5_count_114 : decode cX5_count 114 = .ok (.ireturn, 1) := by decide +kernel
theorem dX5_isWithin_0 : decode cX5_isWithin 0 = .ok (.iload_n 0, 1) := by decide +kernel
theorem dX5_isWithin_1 : decode cX5_isWithin 1 = .ok (.iload_n 1, 1) := by decide +kernel
theorem dX5_isWithin_2 : decode cX5_isWithin 2 = .ok (.if_icmp .lt 12, 3) := by decide +kernel
theorem dX5_isWithin_5 : decode cX5_isWithin 5 = .ok (.iload_n 0, 1) := by decide +kernel
theorem dX5_isWithin_6 : decode cX5_isWithin 6 = .ok (.iload_n 2, 1) := by decide +kernel
theorem dX5_isWithin_7 : decode cX5_isWithin 7 = .ok (.if_icmp .gt 7, 3) := by decide +kernel
theorem dX5_isWithin_10 : decode cX5_isWithin 10 = .ok (.iconst 1, 1) := by decide +kernel
theorem dX5_isWithin_11 : decode cX5_isWithin 11 = .ok (.goto 4, 3) := by decide +kernel
theorem dX5_isWithin_14 : decode cX5_isWithin 14 = .ok (.iconst 0, 1) := by decide +kernel
theorem dX5_isWithin_15 : decode cX5_isWithin 15 = .ok (.ireturn, 1) := by decide +kernel
theorem dX5_isBitSet_0 : decode cX5_isBitSet 0 = .ok (.iload_n 0, 1) := by decide +kernel
theorem dX5_isBitSet_1 : decode cX5_isBitSet 1 = .ok (.iload_n 1, 1) := by decide +kernel
theorem dX5_isBitSet_2 : decode cX5_isBitSet 2 = .ok (.ishr, 1) := by decide +kernel
theorem dX5_isBitSet_3 : decode cX5_isBitSet 3 = .ok (.iconst 1, 1) := by decide +kernel
theorem dX5_isBitSet_4 : decode cX5_isBitSet 4 = .ok (.iand, 1) := by decide +kernel
theorem dX5_isBitSet_5 : decode cX5_isBitSet 5 = .ok (.ifCond .eq 7, 3) := by decide +kernel
theorem dX5_isBitSet_8 : decode cX5_isBitSet 8 = .ok (.iconst 1, 1) := by decide +kernel
theorem dX5_isBitSet_9 : decode cX5_isBitSet 9 = .ok (.goto 4, 3) := by decide +kernel
theorem dX5_isBitSet_12 : decode cX5_isBitSet 12 = .ok (.iconst 0, 1) := by decide +kernel
theorem dX5_isBitSet_13 : decode cX5_isBitSet 13 = .ok (.ireturn, 1) := by decide +kernel
theorem dX5_isClock_0 : decode cX5_isClock 0 = .ok (.iload_n 1, 1) := by decide +kernel
theorem dX5_isClock_1 : decode cX5_isClock 1 = .ok (.ifCond .lt 18, 3) := by decide +kernel
theorem dX5_isClock_4 : decode cX5_isClock 4 = .ok (.iload_n 1, 1) := by decide +kernel
theorem dX5_isClock_5 : decode cX5_isClock 5 = .ok (.aload_n 0, 1) := by decide +kernel
theorem dX5_isClock_6 : decode cX5_isClock 6 = .ok (.getfield 12, 3) := by decide +kernel
theorem dX5_isClock_9 : decode cX5_isClock 9 = .ok (.getfield 96, 3) := by decide +kernel
theorem dX5_isClock_12 : decode cX5_isClock 12 = .ok (.if_icmp .ge 7, 3) := by decide +kernel
theorem dX5_isClock_15 : decode cX5_isClock 15 = .ok (.iconst 1, 1) := by decide +kernel
theorem dX5_isClock_16 : decode cX5_isClock 16 = .ok (.goto 4, 3) := by decide +kernel
theorem dX5_isClock_19 : decode cX5_isClock 19 = .ok (.iconst 0, 1) := by decide +kernel
theorem dX5_isClock_20 : decode cX5_isClock 20 = .ok (.ireturn, 1) := by decide +kernel
theorem dX5_isSheet_0 : decode cX5_isSheet 0 = .ok (.iload_n 0, 1) := by decide +kernel
theorem dX5_isSheet_1 : decode cX5_isSheet 1 = .ok (.ifCond .lt 12, 3) := by decide +kernel
theorem dX5_isSheet_4 : decode cX5_isSheet 4 = .ok (.iload_n 0, 1) := by decide +kernel
theorem dX5_isSheet_5 : decode cX5_isSheet 5 = .ok (.iconst 4, 1) := by decide +kernel
theorem dX5_isSheet_6 : decode cX5_isSheet 6 = .ok (.if_icmp .ge 7, 3) := by decide +kernel
theorem dX5_isSheet_9 : decode cX5_isSheet 9 = .ok (.iconst 1, 1) := by decide +kernel
theorem dX5_isSheet_10 : decode cX5_isSheet 10 = .ok (.goto 4, 3) := by decide +kernel
theorem dX5_isSheet_13 : decode cX5_isSheet 13 = .ok (.iconst 0, 1) := by decide +kernel
theorem dX5_isSheet_14 : decode cX5_isSheet 14 = .ok (.ireturn, 1) := by decide +kernel
theorem dX5_imagesKept_0 : decode cX5_imagesKept 0 = .ok (.iconst 0, 1) := by decide +kernel
theorem dX5_imagesKept_1 : decode cX5_imagesKept 1 = .ok (.istore_n 1, 1) := by decide +kernel
theorem dX5_imagesKept_2 : decode cX5_imagesKept 2 = .ok (.iconst 0, 1) := by decide +kernel
theorem dX5_imagesKept_3 : decode cX5_imagesKept 3 = .ok (.istore_n 2, 1) := by decide +kernel
theorem dX5_imagesKept_4 : decode cX5_imagesKept 4 = .ok (.iload_n 2, 1) := by decide +kernel
theorem dX5_imagesKept_5 : decode cX5_imagesKept 5 = .ok (.iconst 2, 1) := by decide +kernel
theorem dX5_imagesKept_6 : decode cX5_imagesKept 6 = .ok (.if_icmp .ge 26, 3) := by decide +kernel
theorem dX5_imagesKept_9 : decode cX5_imagesKept 9 = .ok (.iload_n 1, 1) := by decide +kernel
theorem dX5_imagesKept_10 : decode cX5_imagesKept 10 = .ok (.aload_n 0, 1) := by decide +kernel
theorem dX5_imagesKept_11 : decode cX5_imagesKept 11 = .ok (.getfield 23, 3) := by decide +kernel
theorem dX5_imagesKept_14 : decode cX5_imagesKept 14 = .ok (.iload_n 2, 1) := by decide +kernel
theorem dX5_imagesKept_15 : decode cX5_imagesKept 15 = .ok (.baload, 1) := by decide +kernel
theorem dX5_imagesKept_16 : decode cX5_imagesKept 16 = .ok (.ifCond .eq 7, 3) := by decide +kernel
theorem dX5_imagesKept_19 : decode cX5_imagesKept 19 = .ok (.iconst 1, 1) := by decide +kernel
theorem dX5_imagesKept_20 : decode cX5_imagesKept 20 = .ok (.goto 4, 3) := by decide +kernel
theorem dX5_imagesKept_23 : decode cX5_imagesKept 23 = .ok (.iconst 0, 1) := by decide +kernel
theorem dX5_imagesKept_24 : decode cX5_imagesKept 24 = .ok (.iadd, 1) := by decide +kernel
theorem dX5_imagesKept_25 : decode cX5_imagesKept 25 = .ok (.istore_n 1, 1) := by decide +kernel
theorem dX5_imagesKept_26 : decode cX5_imagesKept 26 = .ok (.iinc 2 1, 3) := by decide +kernel
theorem dX5_imagesKept_29 : decode cX5_imagesKept 29 = .ok (.goto (-25), 3) := by decide +kernel
theorem dX5_imagesKept_32 : decode cX5_imagesKept 32 = .ok (.iload_n 1, 1) := by decide +kernel
theorem dX5_imagesKept_33 : decode cX5_imagesKept 33 = .ok (.ireturn, 1) := by decide +kernel
theorem dX5_sumOf_0 : decode cX5_sumOf 0 = .ok (.iconst 0, 1) := by decide +kernel
theorem dX5_sumOf_1 : decode cX5_sumOf 1 = .ok (.istore_n 2, 1) := by decide +kernel
theorem dX5_sumOf_2 : decode cX5_sumOf 2 = .ok (.iconst 0, 1) := by decide +kernel
theorem dX5_sumOf_3 : decode cX5_sumOf 3 = .ok (.istore_n 3, 1) := by decide +kernel
theorem dX5_sumOf_4 : decode cX5_sumOf 4 = .ok (.iload_n 3, 1) := by decide +kernel
theorem dX5_sumOf_5 : decode cX5_sumOf 5 = .ok (.aload_n 0, 1) := by decide +kernel
theorem dX5_sumOf_6 : decode cX5_sumOf 6 = .ok (.getfield 12, 3) := by decide +kernel
theorem dX5_sumOf_9 : decode cX5_sumOf 9 = .ok (.getfield 96, 3) := by decide +kernel
theorem dX5_sumOf_12 : decode cX5_sumOf 12 = .ok (.if_icmp .ge 15, 3) := by decide +kernel
theorem dX5_sumOf_15 : decode cX5_sumOf 15 = .ok (.iload_n 2, 1) := by decide +kernel
theorem dX5_sumOf_16 : decode cX5_sumOf 16 = .ok (.aload_n 1, 1) := by decide +kernel
theorem dX5_sumOf_17 : decode cX5_sumOf 17 = .ok (.iload_n 3, 1) := by decide +kernel
theorem dX5_sumOf_18 : decode cX5_sumOf 18 = .ok (.iaload, 1) := by decide +kernel
theorem dX5_sumOf_19 : decode cX5_sumOf 19 = .ok (.iadd, 1) := by decide +kernel
theorem dX5_sumOf_20 : decode cX5_sumOf 20 = .ok (.istore_n 2, 1) := by decide +kernel
theorem dX5_sumOf_21 : decode cX5_sumOf 21 = .ok (.iinc 3 1, 3) := by decide +kernel
theorem dX5_sumOf_24 : decode cX5_sumOf 24 = .ok (.goto (-20), 3) := by decide +kernel
theorem dX5_sumOf_27 : decode cX5_sumOf 27 = .ok (.iload_n 2, 1) := by decide +kernel
theorem dX5_sumOf_28 : decode cX5_sumOf 28 = .ok (.ireturn, 1) := by decide +kernel
theorem dX5_tryNow_0 : decode cX5_tryNow 0 = .ok (.aload_n 0, 1) := by decide +kernel
theorem dX5_tryNow_1 : decode cX5_tryNow 1 = .ok (.getfield 16, 3) := by decide +kernel
theorem dX5_tryNow_4 : decode cX5_tryNow 4 = .ok (.aload_n 0, 1) := by decide +kernel
theorem dX5_tryNow_5 : decode cX5_tryNow 5 = .ok (.getfield 12, 3) := by decide +kernel
theorem dX5_tryNow_8 : decode cX5_tryNow 8 = .ok (.invokevirtual 87, 3) := by decide +kernel
theorem dX5_tryNow_11 : decode cX5_tryNow 11 = .ok (.aload_n 0, 1) := by decide +kernel
theorem dX5_tryNow_12 : decode cX5_tryNow 12 = .ok (.getfield 16, 3) := by decide +kernel
theorem dX5_tryNow_15 : decode cX5_tryNow 15 = .ok (.areturn, 1) := by decide +kernel
theorem dX5_tryKind_0 : decode cX5_tryKind 0 = .ok (.aload_n 0, 1) := by decide +kernel
theorem dX5_tryKind_1 : decode cX5_tryKind 1 = .ok (.invokevirtual 112, 3) := by decide +kernel
theorem dX5_tryKind_4 : decode cX5_tryKind 4 = .ok (.getfield 127, 3) := by decide +kernel
theorem dX5_tryKind_7 : decode cX5_tryKind 7 = .ok (.iload_n 1, 1) := by decide +kernel
theorem dX5_tryKind_8 : decode cX5_tryKind 8 = .ok (.iload_n 2, 1) := by decide +kernel
theorem dX5_tryKind_9 : decode cX5_tryKind 9 = .ok (.iastore, 1) := by decide +kernel
theorem dX5_tryKind_10 : decode cX5_tryKind 10 = .ok (.aload_n 0, 1) := by decide +kernel
theorem dX5_tryKind_11 : decode cX5_tryKind 11 = .ok (.getfield 16, 3) := by decide +kernel
theorem dX5_tryKind_14 : decode cX5_tryKind 14 = .ok (.areturn, 1) := by decide +kernel
theorem dX5_tryPeriod_0 : decode cX5_tryPeriod 0 = .ok (.aload_n 0, 1) := by decide +kernel
theorem dX5_tryPeriod_1 : decode cX5_tryPeriod 1 = .ok (.invokevirtual 112, 3) := by decide +kernel
theorem dX5_tryPeriod_4 : decode cX5_tryPeriod 4 = .ok (.getfield 130, 3) := by decide +kernel
theorem dX5_tryPeriod_7 : decode cX5_tryPeriod 7 = .ok (.iload_n 1, 1) := by decide +kernel
theorem dX5_tryPeriod_8 : decode cX5_tryPeriod 8 = .ok (.iload_n 2, 1) := by decide +kernel
theorem dX5_tryPeriod_9 : decode cX5_tryPeriod 9 = .ok (.iastore, 1) := by decide +kernel
theorem dX5_tryPeriod_10 : decode cX5_tryPeriod 10 = .ok (.aload_n 0, 1) := by decide +kernel
theorem dX5_tryPeriod_11 : decode cX5_tryPeriod 11 = .ok (.getfield 16, 3) := by decide +kernel
theorem dX5_tryPeriod_14 : decode cX5_tryPeriod 14 = .ok (.getfield 120, 3) := by decide +kernel
theorem dX5_tryPeriod_17 : decode cX5_tryPeriod 17 = .ok (.iload_n 1, 1) := by decide +kernel
theorem dX5_tryPeriod_18 : decode cX5_tryPeriod 18 = .ok (.aload_n 0, 1) := by decide +kernel
theorem dX5_tryPeriod_19 : decode cX5_tryPeriod 19 = .ok (.getfield 16, 3) := by decide +kernel
theorem dX5_tryPeriod_22 : decode cX5_tryPeriod 22 = .ok (.getfield 120, 3) := by decide +kernel
theorem dX5_tryPeriod_25 : decode cX5_tryPeriod 25 = .ok (.iload_n 1, 1) := by decide +kernel
theorem dX5_tryPeriod_26 : decode cX5_tryPeriod 26 = .ok (.iaload, 1) := by decide +kernel
theorem dX5_tryPeriod_27 : decode cX5_tryPeriod 27 = .ok (.iload_n 2, 1) := by decide +kernel
theorem dX5_tryPeriod_28 : decode cX5_tryPeriod 28 = .ok (.iconst 1, 1) := by decide +kernel
theorem dX5_tryPeriod_29 : decode cX5_tryPeriod 29 = .ok (.isub, 1) := by decide +kernel
theorem dX5_tryPeriod_30 : decode cX5_tryPeriod 30 = .ok (.invokestatic 273, 3) := by decide +kernel
theorem dX5_tryPeriod_33 : decode cX5_tryPeriod 33 = .ok (.iastore, 1) := by decide +kernel
theorem dX5_tryPeriod_34 : decode cX5_tryPeriod 34 = .ok (.aload_n 0, 1) := by decide +kernel
theorem dX5_tryPeriod_35 : decode cX5_tryPeriod 35 = .ok (.getfield 16, 3) := by decide +kernel
theorem dX5_tryPeriod_38 : decode cX5_tryPeriod 38 = .ok (.areturn, 1) := by decide +kernel
theorem dX5_tryHand_0 : decode cX5_tryHand 0 = .ok (.aload_n 0, 1) := by decide +kernel
theorem dX5_tryHand_1 : decode cX5_tryHand 1 = .ok (.invokevirtual 112, 3) := by decide +kernel
theorem dX5_tryHand_4 : decode cX5_tryHand 4 = .ok (.getfield 120, 3) := by decide +kernel
theorem dX5_tryHand_7 : decode cX5_tryHand 7 = .ok (.iload_n 1, 1) := by decide +kernel
theorem dX5_tryHand_8 : decode cX5_tryHand 8 = .ok (.iload_n 2, 1) := by decide +kernel
theorem dX5_tryHand_9 : decode cX5_tryHand 9 = .ok (.iastore, 1) := by decide +kernel
theorem dX5_tryHand_10 : decode cX5_tryHand 10 = .ok (.aload_n 0, 1) := by decide +kernel
theorem dX5_tryHand_11 : decode cX5_tryHand 11 = .ok (.getfield 16, 3) := by decide +kernel
theorem dX5_tryHand_14 : decode cX5_tryHand 14 = .ok (.areturn, 1) := by decide +kernel
theorem dX5_handsAsSeen_0 : decode cX5_handsAsSeen 0 = .ok (.iconst 0, 1) := by decide +kernel
theorem dX5_handsAsSeen_1 : decode cX5_handsAsSeen 1 = .ok (.istore_n 2, 1) := by decide +kernel
theorem dX5_handsAsSeen_2 : decode cX5_handsAsSeen 2 = .ok (.iconst 0, 1) := by decide +kernel
theorem dX5_handsAsSeen_3 : decode cX5_handsAsSeen 3 = .ok (.istore_n 3, 1) := by decide +kernel
theorem dX5_handsAsSeen_4 : decode cX5_handsAsSeen 4 = .ok (.iload_n 3, 1) := by decide +kernel
theorem dX5_handsAsSeen_5 : decode cX5_handsAsSeen 5 = .ok (.aload_n 0, 1) := by decide +kernel
theorem dX5_handsAsSeen_6 : decode cX5_handsAsSeen 6 = .ok (.getfield 12, 3) := by decide +kernel
theorem dX5_handsAsSeen_9 : decode cX5_handsAsSeen 9 = .ok (.getfield 130, 3) := by decide +kernel
theorem dX5_handsAsSeen_12 : decode cX5_handsAsSeen 12 = .ok (.iload_n 1, 1) := by decide +kernel
theorem dX5_handsAsSeen_13 : decode cX5_handsAsSeen 13 = .ok (.iaload, 1) := by decide +kernel
theorem dX5_handsAsSeen_14 : decode cX5_handsAsSeen 14 = .ok (.if_icmp .ge 31, 3) := by decide +kernel
theorem dX5_handsAsSeen_17 : decode cX5_handsAsSeen 17 = .ok (.aload_n 0, 1) := by decide +kernel
theorem dX5_handsAsSeen_18 : decode cX5_handsAsSeen 18 = .ok (.getfield 37, 3) := by decide +kernel
theorem dX5_handsAsSeen_21 : decode cX5_handsAsSeen 21 = .ok (.aload_n 0, 1) := by decide +kernel
theorem dX5_handsAsSeen_22 : decode cX5_handsAsSeen 22 = .ok (.iload_n 1, 1) := by decide +kernel
theorem dX5_handsAsSeen_23 : decode cX5_handsAsSeen 23 = .ok (.iload_n 3, 1) := by decide +kernel
theorem dX5_handsAsSeen_24 : decode cX5_handsAsSeen 24 = .ok (.invokevirtual 197, 3) := by decide +kernel
theorem dX5_handsAsSeen_27 : decode cX5_handsAsSeen 27 = .ok (.invokevirtual 230, 3) := by decide +kernel
theorem dX5_handsAsSeen_30 : decode cX5_handsAsSeen 30 = .ok (.ifCond .eq 9, 3) := by decide +kernel
theorem dX5_handsAsSeen_33 : decode cX5_handsAsSeen 33 = .ok (.iload_n 2, 1) := by decide +kernel
theorem dX5_handsAsSeen_34 : decode cX5_handsAsSeen 34 = .ok (.iconst 1, 1) := by decide +kernel
theorem dX5_handsAsSeen_35 : decode cX5_handsAsSeen 35 = .ok (.iload_n 3, 1) := by decide +kernel
theorem dX5_handsAsSeen_36 : decode cX5_handsAsSeen 36 = .ok (.ishl, 1) := by decide +kernel
theorem dX5_handsAsSeen_37 : decode cX5_handsAsSeen 37 = .ok (.ior, 1) := by decide +kernel
theorem dX5_handsAsSeen_38 : decode cX5_handsAsSeen 38 = .ok (.istore_n 2, 1) := by decide +kernel
theorem dX5_handsAsSeen_39 : decode cX5_handsAsSeen 39 = .ok (.iinc 3 1, 3) := by decide +kernel
theorem dX5_handsAsSeen_42 : decode cX5_handsAsSeen 42 = .ok (.goto (-38), 3) := by decide +kernel
theorem dX5_handsAsSeen_45 : decode cX5_handsAsSeen 45 = .ok (.iload_n 2, 1) := by decide +kernel
theorem dX5_handsAsSeen_46 : decode cX5_handsAsSeen 46 = .ok (.ireturn, 1) := by decide +kernel
theorem dX5_listenForAll_0 : decode cX5_listenForAll 0 = .ok (.aload_n 0, 1) := by decide +kernel
theorem dX5_listenForAll_1 : decode cX5_listenForAll 1 = .ok (.getfield 54, 3) := by decide +kernel
theorem dX5_listenForAll_4 : decode cX5_listenForAll 4 = .ok (.iconst 0, 1) := by decide +kernel
theorem dX5_listenForAll_5 : decode cX5_listenForAll 5 = .ok (.invokestatic 276, 3) := by decide +kernel
theorem dX5_listenForAll_8 : decode cX5_listenForAll 8 = .ok (.iconst 0, 1) := by decide +kernel
theorem dX5_listenForAll_9 : decode cX5_listenForAll 9 = .ok (.istore_n 3, 1) := by decide +kernel
theorem dX5_listenForAll_10 : decode cX5_listenForAll 10 = .ok (.iload_n 3, 1) := by decide +kernel
theorem dX5_listenForAll_11 : decode cX5_listenForAll 11 = .ok (.aload_n 0, 1) := by decide +kernel
theorem dX5_listenForAll_12 : decode cX5_listenForAll 12 = .ok (.getfield 12, 3) := by decide +kernel
theorem dX5_listenForAll_15 : decode cX5_listenForAll 15 = .ok (.getfield 130, 3) := by decide +kernel
theorem dX5_listenForAll_18 : decode cX5_listenForAll 18 = .ok (.iload_n 1, 1) := by decide +kernel
theorem dX5_listenForAll_19 : decode cX5_listenForAll 19 = .ok (.iaload, 1) := by decide +kernel
theorem dX5_listenForAll_20 : decode cX5_listenForAll 20 = .ok (.if_icmp .ge 65, 3) := by decide +kernel
theorem dX5_listenForAll_23 : decode cX5_listenForAll 23 = .ok (.iload_n 2, 1) := by decide +kernel
theorem dX5_listenForAll_24 : decode cX5_listenForAll 24 = .ok (.iload_n 3, 1) := by decide +kernel
theorem dX5_listenForAll_25 : decode cX5_listenForAll 25 = .ok (.invokestatic 211, 3) := by decide +kernel
theorem dX5_listenForAll_28 : decode cX5_listenForAll 28 = .ok (.ifCond .ne 6, 3) := by decide +kernel
theorem dX5_listenForAll_31 : decode cX5_listenForAll 31 = .ok (.goto 48, 3) := by decide +kernel
theorem dX5_listenForAll_34 : decode cX5_listenForAll 34 = .ok (.aload_n 0, 1) := by decide +kernel
theorem dX5_listenForAll_35 : decode cX5_listenForAll 35 = .ok (.iload_n 1, 1) := by decide +kernel
theorem dX5_listenForAll_36 : decode cX5_listenForAll 36 = .ok (.iload_n 3, 1) := by decide +kernel
theorem dX5_listenForAll_37 : decode cX5_listenForAll 37 = .ok (.invokevirtual 197, 3) := by decide +kernel
theorem dX5_listenForAll_40 : decode cX5_listenForAll 40 = .ok (.pop, 1) := by decide +kernel
theorem dX5_listenForAll_41 : decode cX5_listenForAll 41 = .ok (.iconst 0, 1) := by decide +kernel
theorem dX5_listenForAll_42 : decode cX5_listenForAll 42 = .ok (.istore 4, 2) := by decide +kernel
theorem dX5_listenForAll_44 : decode cX5_listenForAll 44 = .ok (.iload 4, 2) := by decide +kernel
theorem dX5_listenForAll_46 : decode cX5_listenForAll 46 = .ok (.bipush 60, 2) := by decide +kernel
theorem dX5_listenForAll_48 : decode cX5_listenForAll 48 = .ok (.if_icmp .gt 31, 3) := by decide +kernel
theorem dX5_listenForAll_51 : decode cX5_listenForAll 51 = .ok (.aload_n 0, 1) := by decide +kernel
theorem dX5_listenForAll_52 : decode cX5_listenForAll 52 = .ok (.getfield 54, 3) := by decide +kernel
theorem dX5_listenForAll_55 : decode cX5_listenForAll 55 = .ok (.iload 4, 2) := by decide +kernel
theorem dX5_listenForAll_57 : decode cX5_listenForAll 57 = .ok (.dup2, 1) := by decide +kernel
theorem dX5_listenForAll_58 : decode cX5_listenForAll 58 = .ok (.iaload, 1) := by decide +kernel
theorem dX5_listenForAll_59 : decode cX5_listenForAll 59 = .ok (.aload_n 0, 1) := by decide +kernel
theorem dX5_listenForAll_60 : decode cX5_listenForAll 60 = .ok (.getfield 16, 3) := by decide +kernel
theorem dX5_listenForAll_63 : decode cX5_listenForAll 63 = .ok (.iconst 0, 1) := by decide +kernel
theorem dX5_listenForAll_64 : decode cX5_listenForAll 64 = .ok (.invokevirtual 116, 3) := by decide +kernel
theorem dX5_listenForAll_67 : decode cX5_listenForAll 67 = .ok (.iload_n 1, 1) := by decide +kernel
theorem dX5_listenForAll_68 : decode cX5_listenForAll 68 = .ok (.ishr, 1) := by decide +kernel
theorem dX5_listenForAll_69 : decode cX5_listenForAll 69 = .ok (.iconst 1, 1) := by decide +kernel
theorem dX5_listenForAll_70 : decode cX5_listenForAll 70 = .ok (.iand, 1) := by decide +kernel
theorem dX5_listenForAll_71 : decode cX5_listenForAll 71 = .ok (.iadd, 1) := by decide +kernel
theorem dX5_listenForAll_72 : decode cX5_listenForAll 72 = .ok (.iastore, 1) := by decide +kernel
theorem dX5_listenForAll_73 : decode cX5_listenForAll 73 = .ok (.iinc 4 1, 3) := by decide +kernel
theorem dX5_listenForAll_76 : decode cX5_listenForAll 76 = .ok (.goto (-32), 3) := by decide +kernel
theorem dX5_listenForAll_79 : decode cX5_listenForAll 79 = .ok (.iinc 3 1, 3) := by decide +kernel
theorem dX5_listenForAll_82 : decode cX5_listenForAll 82 = .ok (.goto (-72), 3) := by decide +kernel
theorem dX5_listenForAll_85 : decode cX5_listenForAll 85 = .ok (.return_, 1) := by decide +kernel
theorem dX5_weightOf_0 : decode cX5_weightOf 0 = .ok (.iload_n 0, 1) := by decide +kernel
theorem dX5_weightOf_1 : decode cX5_weightOf 1 = .ok (.invokestatic 162, 3) := by decide +kernel
theorem dX5_weightOf_4 : decode cX5_weightOf 4 = .ok (.istore_n 3, 1) := by decide +kernel
theorem dX5_weightOf_5 : decode cX5_weightOf 5 = .ok (.iload_n 1, 1) := by decide +kernel
theorem dX5_weightOf_6 : decode cX5_weightOf 6 = .ok (.iload_n 3, 1) := by decide +kernel
theorem dX5_weightOf_7 : decode cX5_weightOf 7 = .ok (.invokestatic 219, 3) := by decide +kernel
theorem dX5_weightOf_10 : decode cX5_weightOf 10 = .ok (.bipush 10, 2) := by decide +kernel
theorem dX5_weightOf_12 : decode cX5_weightOf 12 = .ok (.iload_n 1, 1) := by decide +kernel
theorem dX5_weightOf_13 : decode cX5_weightOf 13 = .ok (.isub, 1) := by decide +kernel
theorem dX5_weightOf_14 : decode cX5_weightOf 14 = .ok (.iload_n 2, 1) := by decide +kernel
theorem dX5_weightOf_15 : decode cX5_weightOf 15 = .ok (.iload_n 3, 1) := by decide +kernel
theorem dX5_weightOf_16 : decode cX5_weightOf 16 = .ok (.isub, 1) := by decide +kernel
theorem dX5_weightOf_17 : decode cX5_weightOf 17 = .ok (.invokestatic 219, 3) := by decide +kernel
theorem dX5_weightOf_20 : decode cX5_weightOf 20 = .ok (.lmul, 1) := by decide +kernel
theorem dX5_weightOf_21 : decode cX5_weightOf 21 = .ok (.lreturn, 1) := by decide +kernel
theorem dX5_powerOf_0 : decode cX5_powerOf 0 = .ok (.lconst 1, 1) := by decide +kernel
theorem dX5_powerOf_1 : decode cX5_powerOf 1 = .ok (.lstore_n 2, 1) := by decide +kernel
theorem dX5_powerOf_2 : decode cX5_powerOf 2 = .ok (.iconst 0, 1) := by decide +kernel
theorem dX5_powerOf_3 : decode cX5_powerOf 3 = .ok (.istore 4, 2) := by decide +kernel
theorem dX5_powerOf_5 : decode cX5_powerOf 5 = .ok (.iload 4, 2) := by decide +kernel
theorem dX5_powerOf_7 : decode cX5_powerOf 7 = .ok (.iload_n 1, 1) := by decide +kernel
theorem dX5_powerOf_8 : decode cX5_powerOf 8 = .ok (.if_icmp .ge 14, 3) := by decide +kernel
theorem dX5_powerOf_11 : decode cX5_powerOf 11 = .ok (.lload_n 2, 1) := by decide +kernel
theorem dX5_powerOf_12 : decode cX5_powerOf 12 = .ok (.iload_n 0, 1) := by decide +kernel
theorem dX5_powerOf_13 : decode cX5_powerOf 13 = .ok (.i2l, 1) := by decide +kernel
theorem dX5_powerOf_14 : decode cX5_powerOf 14 = .ok (.lmul, 1) := by decide +kernel
theorem dX5_powerOf_15 : decode cX5_powerOf 15 = .ok (.lstore_n 2, 1) := by decide +kernel
theorem dX5_powerOf_16 : decode cX5_powerOf 16 = .ok (.iinc 4 1, 3) := by decide +kernel
theorem dX5_powerOf_19 : decode cX5_powerOf 19 = .ok (.goto (-14), 3) := by decide +kernel
theorem dX5_powerOf_22 : decode cX5_powerOf 22 = .ok (.lload_n 2, 1) := by decide +kernel
theorem dX5_powerOf_23 : decode cX5_powerOf 23 = .ok (.lreturn, 1) := by decide +kernel
theorem dX5_fraction_0 : decode cX5_fraction 0 = .ok (.lload_n 0, 1) := by decide +kernel
theorem dX5_fraction_1 : decode cX5_fraction 1 = .ok (.lload_n 2, 1) := by decide +kernel
theorem dX5_fraction_2 : decode cX5_fraction 2 = .ok (.invokestatic 282, 3) := by decide +kernel
theorem dX5_fraction_5 : decode cX5_fraction 5 = .ok (.lstore 5, 2) := by decide +kernel
theorem dX5_fraction_7 : decode cX5_fraction 7 = .ok (.lload 5, 2) := by decide +kernel
theorem dX5_fraction_9 : decode cX5_fraction 9 = .ok (.lconst 0, 1) := by decide +kernel
theorem dX5_fraction_10 : decode cX5_fraction 10 = .ok (.lcmp, 1) := by decide +kernel
theorem dX5_fraction_11 : decode cX5_fraction 11 = .ok (.ifCond .ne 5, 3) := by decide +kernel
theorem dX5_fraction_14 : decode cX5_fraction 14 = .ok (.lconst 0, 1) := by decide +kernel
theorem dX5_fraction_15 : decode cX5_fraction 15 = .ok (.lreturn, 1) := by decide +kernel
theorem dX5_fraction_16 : decode cX5_fraction 16 = .ok (.iload 4, 2) := by decide +kernel
theorem dX5_fraction_18 : decode cX5_fraction 18 = .ok (.ifCond .ne 7, 3) := by decide +kernel
theorem dX5_fraction_21 : decode cX5_fraction 21 = .ok (.lload_n 0, 1) := by decide +kernel
theorem dX5_fraction_22 : decode cX5_fraction 22 = .ok (.goto 4, 3) := by decide +kernel
theorem dX5_fraction_25 : decode cX5_fraction 25 = .ok (.lload_n 2, 1) := by decide +kernel
theorem dX5_fraction_26 : decode cX5_fraction 26 = .ok (.lload 5, 2) := by decide +kernel
theorem dX5_fraction_28 : decode cX5_fraction 28 = .ok (.ldiv, 1) := by decide +kernel
theorem dX5_fraction_29 : decode cX5_fraction 29 = .ok (.lreturn, 1) := by decide +kernel
theorem dX5_commonDivisor_0 : decode cX5_commonDivisor 0 = .ok (.lload_n 0, 1) := by decide +kernel
theorem dX5_commonDivisor_1 : decode cX5_commonDivisor 1 = .ok (.lstore 4, 2) := by decide +kernel
theorem dX5_commonDivisor_3 : decode cX5_commonDivisor 3 = .ok (.lload_n 2, 1) := by decide +kernel
theorem dX5_commonDivisor_4 : decode cX5_commonDivisor 4 = .ok (.lstore 6, 2) := by decide +kernel
theorem dX5_commonDivisor_6 : decode cX5_commonDivisor 6 = .ok (.iconst 0, 1) := by decide +kernel
theorem dX5_commonDivisor_7 : decode cX5_commonDivisor 7 = .ok (.istore 8, 2) := by decide +kernel
theorem dX5_commonDivisor_9 : decode cX5_commonDivisor 9 = .ok (.iload 8, 2) := by decide +kernel
theorem dX5_commonDivisor_11 : decode cX5_commonDivisor 11 = .ok (.sipush 200, 3) := by decide +kernel
theorem dX5_commonDivisor_14 : decode cX5_commonDivisor 14 = .ok (.if_icmp .ge 31, 3) := by decide +kernel
theorem dX5_commonDivisor_17 : decode cX5_commonDivisor 17 = .ok (.lload 6, 2) := by decide +kernel
theorem dX5_commonDivisor_19 : decode cX5_commonDivisor 19 = .ok (.lconst 0, 1) := by decide +kernel
theorem dX5_commonDivisor_20 : decode cX5_commonDivisor 20 = .ok (.lcmp, 1) := by decide +kernel
theorem dX5_commonDivisor_21 : decode cX5_commonDivisor 21 = .ok (.ifCond .eq 24, 3) := by decide +kernel
theorem dX5_commonDivisor_24 : decode cX5_commonDivisor 24 = .ok (.lload 4, 2) := by decide +kernel
theorem dX5_commonDivisor_26 : decode cX5_commonDivisor 26 = .ok (.lload 6, 2) := by decide +kernel
theorem dX5_commonDivisor_28 : decode cX5_commonDivisor 28 = .ok (.lrem, 1) := by decide +kernel
theorem dX5_commonDivisor_29 : decode cX5_commonDivisor 29 = .ok (.lstore 9, 2) := by decide +kernel
theorem dX5_commonDivisor_31 : decode cX5_commonDivisor 31 = .ok (.lload 6, 2) := by decide +kernel
theorem dX5_commonDivisor_33 : decode cX5_commonDivisor 33 = .ok (.lstore 4, 2) := by decide +kernel
theorem dX5_commonDivisor_35 : decode cX5_commonDivisor 35 = .ok (.lload 9, 2) := by decide +kernel
theorem dX5_commonDivisor_37 : decode cX5_commonDivisor 37 = .ok (.lstore 6, 2) := by decide +kernel
theorem dX5_commonDivisor_39 : decode cX5_commonDivisor 39 = .ok (.iinc 8 1, 3) := by decide +kernel
theorem dX5_commonDivisor_42 : decode cX5_commonDivisor 42 = .ok (.goto (-33), 3) := by decide +kernel
theorem dX5_commonDivisor_45 : decode cX5_commonDivisor 45 = .ok (.lload 4, 2) := by decide +kernel
theorem dX5_commonDivisor_47 : decode cX5_commonDivisor 47 = .ok (.lreturn, 1) := by decide +kernel
