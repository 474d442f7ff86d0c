theorem dX0_init_0 : decode cX0_init 0 = .ok (.aload_n 0, 1) := by decide +kernel
theorem dX0_init_1 : decode cX0_init 1 = .ok (.invokespecial 3, 3) := by decide +kernel
theorem dX0_init_4 : decode cX0_init 4 = .ok (.aload_n 0, 1) := by decide +kernel
theorem dX0_init_5 : decode cX0_init 5 = .ok (.iconst 5, 1) := by decide +kernel
theorem dX0_init_6 : decode cX0_init 6 = .ok (.newarray .int, 2) := by decide +kernel
theorem dX0_init_8 : decode cX0_init 8 = .ok (.putfield 9, 3) := by decide +kernel
theorem dX0_init_11 : decode cX0_init 11 = .ok (.aload_n 0, 1) := by decide +kernel
theorem dX0_init_12 : decode cX0_init 12 = .ok (.iconst 5, 1) := by decide +kernel
theorem dX0_init_13 : decode cX0_init 13 = .ok (.newarray .int, 2) := by decide +kernel
theorem dX0_init_15 : decode cX0_init 15 = .ok (.putfield 15, 3) := by decide +kernel
theorem dX0_init_18 : decode cX0_init 18 = .ok (.aload_n 0, 1) := by decide +kernel
theorem dX0_init_19 : decode cX0_init 19 = .ok (.iconst 5, 1) := by decide +kernel
theorem dX0_init_20 : decode cX0_init 20 = .ok (.newarray .int, 2) := by decide +kernel
theorem dX0_init_22 : decode cX0_init 22 = .ok (.putfield 18, 3) := by decide +kernel
theorem dX0_init_25 : decode cX0_init 25 = .ok (.aload_n 0, 1) := by decide +kernel
theorem dX0_init_26 : decode cX0_init 26 = .ok (.iconst 5, 1) := by decide +kernel
theorem dX0_init_27 : decode cX0_init 27 = .ok (.newarray .int, 2) := by decide +kernel
theorem dX0_init_29 : decode cX0_init 29 = .ok (.putfield 21, 3) := by decide +kernel
theorem dX0_init_32 : decode cX0_init 32 = .ok (.aload_n 0, 1) := by decide +kernel
theorem dX0_init_33 : decode cX0_init 33 = .ok (.iconst 1, 1) := by decide +kernel
theorem dX0_init_34 : decode cX0_init 34 = .ok (.putfield 24, 3) := by decide +kernel
theorem dX0_init_37 : decode cX0_init 37 = .ok (.return_, 1) := by decide +kernel
theorem dX0_empty_0 : decode cX0_empty 0 = .ok (.aload_n 0, 1) := by decide +kernel
theorem dX0_empty_1 : decode cX0_empty 1 = .ok (.iconst 0, 1) := by decide +kernel
theorem dX0_empty_2 : decode cX0_empty 2 = .ok (.putfield 28, 3) := by decide +kernel
theorem dX0_empty_5 : decode cX0_empty 5 = .ok (.aload_n 0, 1) := by decide +kernel
theorem dX0_empty_6 : decode cX0_empty 6 = .ok (.iconst 1, 1) := by decide +kernel
theorem dX0_empty_7 : decode cX0_empty 7 = .ok (.putfield 24, 3) := by decide +kernel
theorem dX0_empty_10 : decode cX0_empty 10 = .ok (.aload_n 0, 1) := by decide +kernel
theorem dX0_empty_11 : decode cX0_empty 11 = .ok (.iconst 0, 1) := by decide +kernel
theorem dX0_empty_12 : decode cX0_empty 12 = .ok (.putfield 31, 3) := by decide +kernel
theorem dX0_empty_15 : decode cX0_empty 15 = .ok (.return_, 1) := by decide +kernel
theorem dX0_takeFrom_0 : decode cX0_takeFrom 0 = .ok (.aload_n 0, 1) := by decide +kernel
theorem dX0_takeFrom_1 : decode cX0_takeFrom 1 = .ok (.aload_n 1, 1) := by decide +kernel
theorem dX0_takeFrom_2 : decode cX0_takeFrom 2 = .ok (.getfield 28, 3) := by decide +kernel
theorem dX0_takeFrom_5 : decode cX0_takeFrom 5 = .ok (.putfield 28, 3) := by decide +kernel
theorem dX0_takeFrom_8 : decode cX0_takeFrom 8 = .ok (.aload_n 0, 1) := by decide +kernel
theorem dX0_takeFrom_9 : decode cX0_takeFrom 9 = .ok (.aload_n 1, 1) := by decide +kernel
theorem dX0_takeFrom_10 : decode cX0_takeFrom 10 = .ok (.getfield 24, 3) := by decide +kernel
theorem dX0_takeFrom_13 : decode cX0_takeFrom 13 = .ok (.putfield 24, 3) := by decide +kernel
theorem dX0_takeFrom_16 : decode cX0_takeFrom 16 = .ok (.aload_n 0, 1) := by decide +kernel
theorem dX0_takeFrom_17 : decode cX0_takeFrom 17 = .ok (.aload_n 1, 1) := by decide +kernel
theorem dX0_takeFrom_18 : decode cX0_takeFrom 18 = .ok (.getfield 31, 3) := by decide +kernel
theorem dX0_takeFrom_21 : decode cX0_takeFrom 21 = .ok (.putfield 31, 3) := by decide +kernel
theorem dX0_takeFrom_24 : decode cX0_takeFrom 24 = .ok (.aload_n 1, 1) := by decide +kernel
theorem dX0_takeFrom_25 : decode cX0_takeFrom 25 = .ok (.getfield 9, 3) := by decide +kernel
theorem dX0_takeFrom_28 : decode cX0_takeFrom 28 = .ok (.iconst 0, 1) := by decide +kernel
theorem dX0_takeFrom_29 : decode cX0_takeFrom 29 = .ok (.aload_n 0, 1) := by decide +kernel
theorem dX0_takeFrom_30 : decode cX0_takeFrom 30 = .ok (.getfield 9, 3) := by decide +kernel
theorem dX0_takeFrom_33 : decode cX0_takeFrom 33 = .ok (.iconst 0, 1) := by decide +kernel
theorem dX0_takeFrom_34 : decode cX0_takeFrom 34 = .ok (.iconst 5, 1) := by decide +kernel
theorem dX0_takeFrom_35 : decode cX0_takeFrom 35 = .ok (.invokestatic 34, 3) := by decide +kernel
theorem dX0_takeFrom_38 : decode cX0_takeFrom 38 = .ok (.aload_n 1, 1) := by decide +kernel
theorem dX0_takeFrom_39 : decode cX0_takeFrom 39 = .ok (.getfield 15, 3) := by decide +kernel
theorem dX0_takeFrom_42 : decode cX0_takeFrom 42 = .ok (.iconst 0, 1) := by decide +kernel
theorem dX0_takeFrom_43 : decode cX0_takeFrom 43 = .ok (.aload_n 0, 1) := by decide +kernel
theorem dX0_takeFrom_44 : decode cX0_takeFrom 44 = .ok (.getfield 15, 3) := by decide +kernel
theorem dX0_takeFrom_47 : decode cX0_takeFrom 47 = .ok (.iconst 0, 1) := by decide +kernel
theorem dX0_takeFrom_48 : decode cX0_takeFrom 48 = .ok (.iconst 5, 1) := by decide +kernel
theorem dX0_takeFrom_49 : decode cX0_takeFrom 49 = .ok (.invokestatic 34, 3) := by decide +kernel
theorem dX0_takeFrom_52 : decode cX0_takeFrom 52 = .ok (.aload_n 1, 1) := by decide +kernel
theorem dX0_takeFrom_53 : decode cX0_takeFrom 53 = .ok (.getfield 18, 3) := by decide +kernel
theorem dX0_takeFrom_56 : decode cX0_takeFrom 56 = .ok (.iconst 0, 1) := by decide +kernel
theorem dX0_takeFrom_57 : decode cX0_takeFrom 57 = .ok (.aload_n 0, 1) := by decide +kernel
theorem dX0_takeFrom_58 : decode cX0_takeFrom 58 = .ok (.getfield 18, 3) := by decide +kernel
theorem dX0_takeFrom_61 : decode cX0_takeFrom 61 = .ok (.iconst 0, 1) := by decide +kernel
theorem dX0_takeFrom_62 : decode cX0_takeFrom 62 = .ok (.iconst 5, 1) := by decide +kernel
theorem dX0_takeFrom_63 : decode cX0_takeFrom 63 = .ok (.invokestatic 34, 3) := by decide +kernel
theorem dX0_takeFrom_66 : decode cX0_takeFrom 66 = .ok (.aload_n 1, 1) := by decide +kernel
theorem dX0_takeFrom_67 : decode cX0_takeFrom 67 = .ok (.getfield 21, 3) := by decide +kernel
theorem dX0_takeFrom_70 : decode cX0_takeFrom 70 = .ok (.iconst 0, 1) := by decide +kernel
theorem dX0_takeFrom_71 : decode cX0_takeFrom 71 = .ok (.aload_n 0, 1) := by decide +kernel
theorem dX0_takeFrom_72 : decode cX0_takeFrom 72 = .ok (.getfield 21, 3) := by decide +kernel
theorem dX0_takeFrom_75 : decode cX0_takeFrom 75 = .ok (.iconst 0, 1) := by decide +kernel
theorem dX0_takeFrom_76 : decode cX0_takeFrom 76 = .ok (.iconst 5, 1) := by decide +kernel
theorem dX0_takeFrom_77 : decode cX0_takeFrom 77 = .ok (.invokestatic 34, 3) := by decide +kernel
theorem dX0_takeFrom_80 : decode cX0_takeFrom 80 = .ok (.return_, 1) := by decide +kernel
theorem dX0_addClock_0 : decode cX0_addClock 0 = .ok (.aload_n 0, 1) := by decide +kernel
theorem dX0_addClock_1 : decode cX0_addClock 1 = .ok (.getfield 28, 3) := by decide +kernel
theorem dX0_addClock_4 : decode cX0_addClock 4 = .ok (.iconst 5, 1) := by decide +kernel
theorem dX0_addClock_5 : decode cX0_addClock 5 = .ok (.if_icmp .lt 4, 3) := by decide +kernel
theorem dX0_addClock_8 : decode cX0_addClock 8 = .ok (.return_, 1) := by decide +kernel
theorem dX0_addClock_9 : decode cX0_addClock 9 = .ok (.aload_n 0, 1) := by decide +kernel
theorem dX0_addClock_10 : decode cX0_addClock 10 = .ok (.getfield 9, 3) := by decide +kernel
theorem dX0_addClock_13 : decode cX0_addClock 13 = .ok (.aload_n 0, 1) := by decide +kernel
theorem dX0_addClock_14 : decode cX0_addClock 14 = .ok (.getfield 28, 3) := by decide +kernel
theorem dX0_addClock_17 : decode cX0_addClock 17 = .ok (.iload_n 1, 1) := by decide +kernel
theorem dX0_addClock_18 : decode cX0_addClock 18 = .ok (.iastore, 1) := by decide +kernel
theorem dX0_addClock_19 : decode cX0_addClock 19 = .ok (.aload_n 0, 1) := by decide +kernel
theorem dX0_addClock_20 : decode cX0_addClock 20 = .ok (.getfield 15, 3) := by decide +kernel
theorem dX0_addClock_23 : decode cX0_addClock 23 = .ok (.aload_n 0, 1) := by decide +kernel
theorem dX0_addClock_24 : decode cX0_addClock 24 = .ok (.getfield 28, 3) := by decide +kernel
theorem dX0_addClock_27 : decode cX0_addClock 27 = .ok (.iload_n 2, 1) := by decide +kernel
theorem dX0_addClock_28 : decode cX0_addClock 28 = .ok (.iastore, 1) := by decide +kernel
theorem dX0_addClock_29 : decode cX0_addClock 29 = .ok (.aload_n 0, 1) := by decide +kernel
theorem dX0_addClock_30 : decode cX0_addClock 30 = .ok (.getfield 18, 3) := by decide +kernel
theorem dX0_addClock_33 : decode cX0_addClock 33 = .ok (.aload_n 0, 1) := by decide +kernel
theorem dX0_addClock_34 : decode cX0_addClock 34 = .ok (.getfield 28, 3) := by decide +kernel
theorem dX0_addClock_37 : decode cX0_addClock 37 = .ok (.iload_n 3, 1) := by decide +kernel
theorem dX0_addClock_38 : decode cX0_addClock 38 = .ok (.iastore, 1) := by decide +kernel
theorem dX0_addClock_39 : decode cX0_addClock 39 = .ok (.aload_n 0, 1) := by decide +kernel
theorem dX0_addClock_40 : decode cX0_addClock 40 = .ok (.getfield 21, 3) := by decide +kernel
theorem dX0_addClock_43 : decode cX0_addClock 43 = .ok (.aload_n 0, 1) := by decide +kernel
theorem dX0_addClock_44 : decode cX0_addClock 44 = .ok (.getfield 28, 3) := by decide +kernel
theorem dX0_addClock_47 : decode cX0_addClock 47 = .ok (.iconst 0, 1) := by decide +kernel
theorem dX0_addClock_48 : decode cX0_addClock 48 = .ok (.iastore, 1) := by decide +kernel
theorem dX0_addClock_49 : decode cX0_addClock 49 = .ok (.aload_n 0, 1) := by decide +kernel
theorem dX0_addClock_50 : decode cX0_addClock 50 = .ok (.dup, 1) := by decide +kernel
theorem dX0_addClock_51 : decode cX0_addClock 51 = .ok (.getfield 28, 3) := by decide +kernel
theorem dX0_addClock_54 : decode cX0_addClock 54 = .ok (.iconst 1, 1) := by decide +kernel
theorem dX0_addClock_55 : decode cX0_addClock 55 = .ok (.iadd, 1) := by decide +kernel
theorem dX0_addClock_56 : decode cX0_addClock 56 = .ok (.putfield 28, 3) := by decide +kernel
theorem dX0_addClock_59 : decode cX0_addClock 59 = .ok (.return_, 1) := by decide +kernel
theorem dX0_takeAway_0 : decode cX0_takeAway 0 = .ok (.iload_n 1, 1) := by decide +kernel
theorem dX0_takeAway_1 : decode cX0_takeAway 1 = .ok (.istore_n 2, 1) := by decide +kernel
theorem dX0_takeAway_2 : decode cX0_takeAway 2 = .ok (.iload_n 2, 1) := by decide +kernel
theorem dX0_takeAway_3 : decode cX0_takeAway 3 = .ok (.iconst 1, 1) := by decide +kernel
theorem dX0_takeAway_4 : decode cX0_takeAway 4 = .ok (.iadd, 1) := by decide +kernel
theorem dX0_takeAway_5 : decode cX0_takeAway 5 = .ok (.aload_n 0, 1) := by decide +kernel
theorem dX0_takeAway_6 : decode cX0_takeAway 6 = .ok (.getfield 28, 3) := by decide +kernel
theorem dX0_takeAway_9 : decode cX0_takeAway 9 = .ok (.if_icmp .ge 65, 3) := by decide +kernel
theorem dX0_takeAway_12 : decode cX0_takeAway 12 = .ok (.aload_n 0, 1) := by decide +kernel
theorem dX0_takeAway_13 : decode cX0_takeAway 13 = .ok (.getfield 9, 3) := by decide +kernel
theorem dX0_takeAway_16 : decode cX0_takeAway 16 = .ok (.iload_n 2, 1) := by decide +kernel
theorem dX0_takeAway_17 : decode cX0_takeAway 17 = .ok (.aload_n 0, 1) := by decide +kernel
theorem dX0_takeAway_18 : decode cX0_takeAway 18 = .ok (.getfield 9, 3) := by decide +kernel
theorem dX0_takeAway_21 : decode cX0_takeAway 21 = .ok (.iload_n 2, 1) := by decide +kernel
theorem dX0_takeAway_22 : decode cX0_takeAway 22 = .ok (.iconst 1, 1) := by decide +kernel
theorem dX0_takeAway_23 : decode cX0_takeAway 23 = .ok (.iadd, 1) := by decide +kernel
theorem dX0_takeAway_24 : decode cX0_takeAway 24 = .ok (.iaload, 1) := by decide +kernel
theorem dX0_takeAway_25 : decode cX0_takeAway 25 = .ok (.iastore, 1) := by decide +kernel
theorem dX0_takeAway_26 : decode cX0_takeAway 26 = .ok (.aload_n 0, 1) := by decide +kernel
theorem dX0_takeAway_27 : decode cX0_takeAway 27 = .ok (.getfield 15, 3) := by decide +kernel
theorem dX0_takeAway_30 : decode cX0_takeAway 30 = .ok (.iload_n 2, 1) := by decide +kernel
theorem dX0_takeAway_31 : decode cX0_takeAway 31 = .ok (.aload_n 0, 1) := by decide +kernel
theorem dX0_takeAway_32 : decode cX0_takeAway 32 = .ok (.getfield 15, 3) := by decide +kernel
theorem dX0_takeAway_35 : decode cX0_takeAway 35 = .ok (.iload_n 2, 1) := by decide +kernel
theorem dX0_takeAway_36 : decode cX0_takeAway 36 = .ok (.iconst 1, 1) := by decide +kernel
theorem dX0_takeAway_37 : decode cX0_takeAway 37 = .ok (.iadd, 1) := by decide +kernel
theorem dX0_takeAway_38 : decode cX0_takeAway 38 = .ok (.iaload, 1) := by decide +kernel
theorem dX0_takeAway_39 : decode cX0_takeAway 39 = .ok (.iastore, 1) := by decide +kernel
theorem dX0_takeAway_40 : decode cX0_takeAway 40 = .ok (.aload_n 0, 1) := by decide +kernel
theorem dX0_takeAway_41 : decode cX0_takeAway 41 = .ok (.getfield 18, 3) := by decide +kernel
theorem dX0_takeAway_44 : decode cX0_takeAway 44 = .ok (.iload_n 2, 1) := by decide +kernel
theorem dX0_takeAway_45 : decode cX0_takeAway 45 = .ok (.aload_n 0, 1) := by decide +kernel
theorem dX0_takeAway_46 : decode cX0_takeAway 46 = .ok (.getfield 18, 3) := by decide +kernel
theorem dX0_takeAway_49 : decode cX0_takeAway 49 = .ok (.iload_n 2, 1) := by decide +kernel
theorem dX0_takeAway_50 : decode cX0_takeAway 50 = .ok (.iconst 1, 1) := by decide +kernel
theorem dX0_takeAway_51 : decode cX0_takeAway 51 = .ok (.iadd, 1) := by decide +kernel
theorem dX0_takeAway_52 : decode cX0_takeAway 52 = .ok (.iaload, 1) := by decide +kernel
theorem dX0_takeAway_53 : decode cX0_takeAway 53 = .ok (.iastore, 1) := by decide +kernel
theorem dX0_takeAway_54 : decode cX0_takeAway 54 = .ok (.aload_n 0, 1) := by decide +kernel
theorem dX0_takeAway_55 : decode cX0_takeAway 55 = .ok (.getfield 21, 3) := by decide +kernel
theorem dX0_takeAway_58 : decode cX0_takeAway 58 = .ok (.iload_n 2, 1) := by decide +kernel
theorem dX0_takeAway_59 : decode cX0_takeAway 59 = .ok (.aload_n 0, 1) := by decide +kernel
theorem dX0_takeAway_60 : decode cX0_takeAway 60 = .ok (.getfield 21, 3) := by decide +kernel
theorem dX0_takeAway_63 : decode cX0_takeAway 63 = .ok (.iload_n 2, 1) := by decide +kernel
theorem dX0_takeAway_64 : decode cX0_takeAway 64 = .ok (.iconst 1, 1) := by decide +kernel
theorem dX0_takeAway_65 : decode cX0_takeAway 65 = .ok (.iadd, 1) := by decide +kernel
theorem dX0_takeAway_66 : decode cX0_takeAway 66 = .ok (.iaload, 1) := by decide +kernel
theorem dX0_takeAway_67 : decode cX0_takeAway 67 = .ok (.iastore, 1) := by decide +kernel
theorem dX0_takeAway_68 : decode cX0_takeAway 68 = .ok (.iinc 2 1, 3) := by decide +kernel
theorem dX0_takeAway_71 : decode cX0_takeAway 71 = .ok (.goto (-69), 3) := by decide +kernel
theorem dX0_takeAway_74 : decode cX0_takeAway 74 = .ok (.aload_n 0, 1) := by decide +kernel
theorem dX0_takeAway_75 : decode cX0_takeAway 75 = .ok (.dup, 1) := by decide +kernel
theorem dX0_takeAway_76 : decode cX0_takeAway 76 = .ok (.getfield 28, 3) := by decide +kernel
theorem dX0_takeAway_79 : decode cX0_takeAway 79 = .ok (.iconst 1, 1) := by decide +kernel
theorem dX0_takeAway_80 : decode cX0_takeAway 80 = .ok (.isub, 1) := by decide +kernel
theorem dX0_takeAway_81 : decode cX0_takeAway 81 = .ok (.putfield 28, 3) := by decide +kernel
theorem dX0_takeAway_84 : decode cX0_takeAway 84 = .ok (.return_, 1) := by decide +kernel
theorem dX0_alterKind_0 : decode cX0_alterKind 0 = .ok (.iload_n 2, 1) := by decide +kernel
theorem dX0_alterKind_1 : decode cX0_alterKind 1 = .ok (.iconst 0, 1) := by decide +kernel
theorem dX0_alterKind_2 : decode cX0_alterKind 2 = .ok (.iconst 3, 1) := by decide +kernel
theorem dX0_alterKind_3 : decode cX0_alterKind 3 = .ok (.invokestatic 40, 3) := by decide +kernel
theorem dX0_alterKind_6 : decode cX0_alterKind 6 = .ok (.ifCond .ne 5, 3) := by decide +kernel
theorem dX0_alterKind_9 : decode cX0_alterKind 9 = .ok (.iconst (-1), 1) := by decide +kernel
theorem dX0_alterKind_10 : decode cX0_alterKind 10 = .ok (.ireturn, 1) := by decide +kernel
theorem dX0_alterKind_11 : decode cX0_alterKind 11 = .ok (.aload_n 0, 1) := by decide +kernel
theorem dX0_alterKind_12 : decode cX0_alterKind 12 = .ok (.getfield 9, 3) := by decide +kernel
theorem dX0_alterKind_15 : decode cX0_alterKind 15 = .ok (.iload_n 1, 1) := by decide +kernel
theorem dX0_alterKind_16 : decode cX0_alterKind 16 = .ok (.iaload, 1) := by decide +kernel
theorem dX0_alterKind_17 : decode cX0_alterKind 17 = .ok (.istore_n 3, 1) := by decide +kernel
theorem dX0_alterKind_18 : decode cX0_alterKind 18 = .ok (.aload_n 0, 1) := by decide +kernel
theorem dX0_alterKind_19 : decode cX0_alterKind 19 = .ok (.getfield 9, 3) := by decide +kernel
theorem dX0_alterKind_22 : decode cX0_alterKind 22 = .ok (.iload_n 1, 1) := by decide +kernel
theorem dX0_alterKind_23 : decode cX0_alterKind 23 = .ok (.iload_n 2, 1) := by decide +kernel
theorem dX0_alterKind_24 : decode cX0_alterKind 24 = .ok (.iastore, 1) := by decide +kernel
theorem dX0_alterKind_25 : decode cX0_alterKind 25 = .ok (.iload_n 3, 1) := by decide +kernel
theorem dX0_alterKind_26 : decode cX0_alterKind 26 = .ok (.ireturn, 1) := by decide +kernel
theorem dX0_alterPeriod_0 : decode cX0_alterPeriod 0 = .ok (.iload_n 2, 1) := by decide +kernel
theorem dX0_alterPeriod_1 : decode cX0_alterPeriod 1 = .ok (.iconst 2, 1) := by decide +kernel
theorem dX0_alterPeriod_2 : decode cX0_alterPeriod 2 = .ok (.bipush 30, 2) := by decide +kernel
theorem dX0_alterPeriod_4 : decode cX0_alterPeriod 4 = .ok (.invokestatic 40, 3) := by decide +kernel
theorem dX0_alterPeriod_7 : decode cX0_alterPeriod 7 = .ok (.ifCond .ne 5, 3) := by decide +kernel
theorem dX0_alterPeriod_10 : decode cX0_alterPeriod 10 = .ok (.iconst (-1), 1) := by decide +kernel
theorem dX0_alterPeriod_11 : decode cX0_alterPeriod 11 = .ok (.ireturn, 1) := by decide +kernel
theorem dX0_alterPeriod_12 : decode cX0_alterPeriod 12 = .ok (.aload_n 0, 1) := by decide +kernel
theorem dX0_alterPeriod_13 : decode cX0_alterPeriod 13 = .ok (.getfield 18, 3) := by decide +kernel
theorem dX0_alterPeriod_16 : decode cX0_alterPeriod 16 = .ok (.iload_n 1, 1) := by decide +kernel
theorem dX0_alterPeriod_17 : decode cX0_alterPeriod 17 = .ok (.iaload, 1) := by decide +kernel
theorem dX0_alterPeriod_18 : decode cX0_alterPeriod 18 = .ok (.iload_n 2, 1) := by decide +kernel
theorem dX0_alterPeriod_19 : decode cX0_alterPeriod 19 = .ok (.if_icmp .lt 6, 3) := by decide +kernel
theorem dX0_alterPeriod_22 : decode cX0_alterPeriod 22 = .ok (.bipush (-2), 2) := by decide +kernel
theorem dX0_alterPeriod_24 : decode cX0_alterPeriod 24 = .ok (.ireturn, 1) := by decide +kernel
theorem dX0_alterPeriod_25 : decode cX0_alterPeriod 25 = .ok (.aload_n 0, 1) := by decide +kernel
theorem dX0_alterPeriod_26 : decode cX0_alterPeriod 26 = .ok (.getfield 15, 3) := by decide +kernel
theorem dX0_alterPeriod_29 : decode cX0_alterPeriod 29 = .ok (.iload_n 1, 1) := by decide +kernel
theorem dX0_alterPeriod_30 : decode cX0_alterPeriod 30 = .ok (.iaload, 1) := by decide +kernel
theorem dX0_alterPeriod_31 : decode cX0_alterPeriod 31 = .ok (.istore_n 3, 1) := by decide +kernel
theorem dX0_alterPeriod_32 : decode cX0_alterPeriod 32 = .ok (.aload_n 0, 1) := by decide +kernel
theorem dX0_alterPeriod_33 : decode cX0_alterPeriod 33 = .ok (.getfield 15, 3) := by decide +kernel
theorem dX0_alterPeriod_36 : decode cX0_alterPeriod 36 = .ok (.iload_n 1, 1) := by decide +kernel
theorem dX0_alterPeriod_37 : decode cX0_alterPeriod 37 = .ok (.iload_n 2, 1) := by decide +kernel
theorem dX0_alterPeriod_38 : decode cX0_alterPeriod 38 = .ok (.iastore, 1) := by decide +kernel
theorem dX0_alterPeriod_39 : decode cX0_alterPeriod 39 = .ok (.iload_n 3, 1) := by decide +kernel
theorem dX0_alterPeriod_40 : decode cX0_alterPeriod 40 = .ok (.ireturn, 1) := by decide +kernel
theorem dX0_alterHand_0 : decode cX0_alterHand 0 = .ok (.iload_n 2, 1) := by decide +kernel
theorem dX0_alterHand_1 : decode cX0_alterHand 1 = .ok (.iconst 0, 1) := by decide +kernel
theorem dX0_alterHand_2 : decode cX0_alterHand 2 = .ok (.bipush 29, 2) := by decide +kernel
theorem dX0_alterHand_4 : decode cX0_alterHand 4 = .ok (.invokestatic 40, 3) := by decide +kernel
theorem dX0_alterHand_7 : decode cX0_alterHand 7 = .ok (.ifCond .ne 5, 3) := by decide +kernel
theorem dX0_alterHand_10 : decode cX0_alterHand 10 = .ok (.iconst (-1), 1) := by decide +kernel
theorem dX0_alterHand_11 : decode cX0_alterHand 11 = .ok (.ireturn, 1) := by decide +kernel
theorem dX0_alterHand_12 : decode cX0_alterHand 12 = .ok (.iload_n 2, 1) := by decide +kernel
theorem dX0_alterHand_13 : decode cX0_alterHand 13 = .ok (.aload_n 0, 1) := by decide +kernel
theorem dX0_alterHand_14 : decode cX0_alterHand 14 = .ok (.getfield 15, 3) := by decide +kernel
theorem dX0_alterHand_17 : decode cX0_alterHand 17 = .ok (.iload_n 1, 1) := by decide +kernel
theorem dX0_alterHand_18 : decode cX0_alterHand 18 = .ok (.iaload, 1) := by decide +kernel
theorem dX0_alterHand_19 : decode cX0_alterHand 19 = .ok (.if_icmp .lt 6, 3) := by decide +kernel
theorem dX0_alterHand_22 : decode cX0_alterHand 22 = .ok (.bipush (-2), 2) := by decide +kernel
theorem dX0_alterHand_24 : decode cX0_alterHand 24 = .ok (.ireturn, 1) := by decide +kernel
theorem dX0_alterHand_25 : decode cX0_alterHand 25 = .ok (.aload_n 0, 1) := by decide +kernel
theorem dX0_alterHand_26 : decode cX0_alterHand 26 = .ok (.getfield 18, 3) := by decide +kernel
theorem dX0_alterHand_29 : decode cX0_alterHand 29 = .ok (.iload_n 1, 1) := by decide +kernel
theorem dX0_alterHand_30 : decode cX0_alterHand 30 = .ok (.iaload, 1) := by decide +kernel
theorem dX0_alterHand_31 : decode cX0_alterHand 31 = .ok (.istore_n 3, 1) := by decide +kernel
theorem dX0_alterHand_32 : decode cX0_alterHand 32 = .ok (.aload_n 0, 1) := by decide +kernel
theorem dX0_alterHand_33 : decode cX0_alterHand 33 = .ok (.getfield 18, 3) := by decide +kernel
theorem dX0_alterHand_36 : decode cX0_alterHand 36 = .ok (.iload_n 1, 1) := by decide +kernel
theorem dX0_alterHand_37 : decode cX0_alterHand 37 = .ok (.iload_n 2, 1) := by decide +kernel
theorem dX0_alterHand_38 : decode cX0_alterHand 38 = .ok (.iastore, 1) := by decide +kernel
theorem dX0_alterHand_39 : decode cX0_alterHand 39 = .ok (.iload_n 3, 1) := by decide +kernel
theorem dX0_alterHand_40 : decode cX0_alterHand 40 = .ok (.ireturn, 1) := by decide +kernel
theorem dX0_takesHand_0 : decode cX0_takesHand 0 = .ok (.iload_n 1, 1) := by decide +kernel
theorem dX0_takesHand_1 : decode cX0_takesHand 1 = .ok (.iconst 0, 1) := by decide +kernel
theorem dX0_takesHand_2 : decode cX0_takesHand 2 = .ok (.aload_n 0, 1) := by decide +kernel
theorem dX0_takesHand_3 : decode cX0_takesHand 3 = .ok (.getfield 28, 3) := by decide +kernel
theorem dX0_takesHand_6 : decode cX0_takesHand 6 = .ok (.iconst 1, 1) := by decide +kernel
theorem dX0_takesHand_7 : decode cX0_takesHand 7 = .ok (.isub, 1) := by decide +kernel
theorem dX0_takesHand_8 : decode cX0_takesHand 8 = .ok (.invokestatic 40, 3) := by decide +kernel
theorem dX0_takesHand_11 : decode cX0_takesHand 11 = .ok (.ifCond .eq 16, 3) := by decide +kernel
theorem dX0_takesHand_14 : decode cX0_takesHand 14 = .ok (.aload_n 0, 1) := by decide +kernel
theorem dX0_takesHand_15 : decode cX0_takesHand 15 = .ok (.iload_n 1, 1) := by decide +kernel
theorem dX0_takesHand_16 : decode cX0_takesHand 16 = .ok (.iload_n 2, 1) := by decide +kernel
theorem dX0_takesHand_17 : decode cX0_takesHand 17 = .ok (.invokevirtual 44, 3) := by decide +kernel
theorem dX0_takesHand_20 : decode cX0_takesHand 20 = .ok (.ifCond .lt 7, 3) := by decide +kernel
theorem dX0_takesHand_23 : decode cX0_takesHand 23 = .ok (.iconst 1, 1) := by decide +kernel
theorem dX0_takesHand_24 : decode cX0_takesHand 24 = .ok (.goto 4, 3) := by decide +kernel
theorem dX0_takesHand_27 : decode cX0_takesHand 27 = .ok (.iconst 0, 1) := by decide +kernel
theorem dX0_takesHand_28 : decode cX0_takesHand 28 = .ok (.ireturn, 1) := by decide +kernel
theorem dX0_shove_0 : decode cX0_shove 0 = .ok (.aload_n 0, 1) := by decide +kernel
theorem dX0_shove_1 : decode cX0_shove 1 = .ok (.getfield 9, 3) := by decide +kernel
theorem dX0_shove_4 : decode cX0_shove 4 = .ok (.iload_n 1, 1) := by decide +kernel
theorem dX0_shove_5 : decode cX0_shove 5 = .ok (.iaload, 1) := by decide +kernel
theorem dX0_shove_6 : decode cX0_shove 6 = .ok (.lookupswitch 42 #[(0, 26), (2, 33)], 26) := by decide +kernel
theorem dX0_shove_32 : decode cX0_shove 32 = .ok (.iload_n 2, 1) := by decide +kernel
theorem dX0_shove_33 : decode cX0_shove 33 = .ok (.aload_n 0, 1) := by decide +kernel
theorem dX0_shove_34 : decode cX0_shove 34 = .ok (.getfield 24, 3) := by decide +kernel
theorem dX0_shove_37 : decode cX0_shove 37 = .ok (.imul, 1) := by decide +kernel
theorem dX0_shove_38 : decode cX0_shove 38 = .ok (.ireturn, 1) := by decide +kernel
theorem dX0_shove_39 : decode cX0_shove 39 = .ok (.iload_n 2, 1) := by decide +kernel
theorem dX0_shove_40 : decode cX0_shove 40 = .ok (.iconst 1, 1) := by decide +kernel
theorem dX0_shove_41 : decode cX0_shove 41 = .ok (.isub, 1) := by decide +kernel
theorem dX0_shove_42 : decode cX0_shove 42 = .ok (.aload_n 0, 1) := by decide +kernel
theorem dX0_shove_43 : decode cX0_shove 43 = .ok (.getfield 24, 3) := by decide +kernel
theorem dX0_shove_46 : decode cX0_shove 46 = .ok (.imul, 1) := by decide +kernel
theorem dX0_shove_47 : decode cX0_shove 47 = .ok (.ireturn, 1) := by decide +kernel
theorem dX0_shove_48 : decode cX0_shove 48 = .ok (.iload_n 2, 1) := by decide +kernel
theorem dX0_shove_49 : decode cX0_shove 49 = .ok (.aload_n 0, 1) := by decide +kernel
theorem dX0_shove_50 : decode cX0_shove 50 = .ok (.getfield 24, 3) := by decide +kernel
theorem dX0_shove_53 : decode cX0_shove 53 = .ok (.imul, 1) := by decide +kernel
theorem dX0_shove_54 : decode cX0_shove 54 = .ok (.iconst 2, 1) := by decide +kernel
theorem dX0_shove_55 : decode cX0_shove 55 = .ok (.idiv, 1) := by decide +kernel
theorem dX0_shove_56 : decode cX0_shove 56 = .ok (.ireturn, 1) := by decide +kernel
theorem dX0_goesOn_0 : decode cX0_goesOn 0 = .ok (.aload_n 0, 1) := by decide +kernel
theorem dX0_goesOn_1 : decode cX0_goesOn 1 = .ok (.getfield 9, 3) := by decide +kernel
theorem dX0_goesOn_4 : decode cX0_goesOn 4 = .ok (.iload_n 1, 1) := by decide +kernel
theorem dX0_goesOn_5 : decode cX0_goesOn 5 = .ok (.iaload, 1) := by decide +kernel
theorem dX0_goesOn_6 : decode cX0_goesOn 6 = .ok (.iconst 3, 1) := by decide +kernel
theorem dX0_goesOn_7 : decode cX0_goesOn 7 = .ok (.if_icmp .eq 24, 3) := by decide +kernel
theorem dX0_goesOn_10 : decode cX0_goesOn 10 = .ok (.iconst 2, 1) := by decide +kernel
theorem dX0_goesOn_11 : decode cX0_goesOn 11 = .ok (.aload_n 0, 1) := by decide +kernel
theorem dX0_goesOn_12 : decode cX0_goesOn 12 = .ok (.getfield 18, 3) := by decide +kernel
theorem dX0_goesOn_15 : decode cX0_goesOn 15 = .ok (.iload_n 1, 1) := by decide +kernel
theorem dX0_goesOn_16 : decode cX0_goesOn 16 = .ok (.iaload, 1) := by decide +kernel
theorem dX0_goesOn_17 : decode cX0_goesOn 17 = .ok (.imul, 1) := by decide +kernel
theorem dX0_goesOn_18 : decode cX0_goesOn 18 = .ok (.aload_n 0, 1) := by decide +kernel
theorem dX0_goesOn_19 : decode cX0_goesOn 19 = .ok (.getfield 15, 3) := by decide +kernel
theorem dX0_goesOn_22 : decode cX0_goesOn 22 = .ok (.iload_n 1, 1) := by decide +kernel
theorem dX0_goesOn_23 : decode cX0_goesOn 23 = .ok (.iaload, 1) := by decide +kernel
theorem dX0_goesOn_24 : decode cX0_goesOn 24 = .ok (.if_icmp .lt 7, 3) := by decide +kernel
theorem dX0_goesOn_27 : decode cX0_goesOn 27 = .ok (.iconst 1, 1) := by decide +kernel
theorem dX0_goesOn_28 : decode cX0_goesOn 28 = .ok (.goto 4, 3) := by decide +kernel
theorem dX0_goesOn_31 : decode cX0_goesOn 31 = .ok (.iconst 0, 1) := by decide +kernel
theorem dX0_goesOn_32 : decode cX0_goesOn 32 = .ok (.ireturn, 1) := by decide +kernel
theorem dX0_shift_0 : decode cX0_shift 0 = .ok (.aload_n 0, 1) := by decide +kernel
theorem dX0_shift_1 : decode cX0_shift 1 = .ok (.iload_n 1, 1) := by decide +kernel
theorem dX0_shift_2 : decode cX0_shift 2 = .ok (.iload_n 2, 1) := by decide +kernel
theorem dX0_shift_3 : decode cX0_shift 3 = .ok (.invokevirtual 48, 3) := by decide +kernel
theorem dX0_shift_6 : decode cX0_shift 6 = .ok (.istore_n 3, 1) := by decide +kernel
theorem dX0_shift_7 : decode cX0_shift 7 = .ok (.aload_n 0, 1) := by decide +kernel
theorem dX0_shift_8 : decode cX0_shift 8 = .ok (.getfield 18, 3) := by decide +kernel
theorem dX0_shift_11 : decode cX0_shift 11 = .ok (.iload_n 1, 1) := by decide +kernel
theorem dX0_shift_12 : decode cX0_shift 12 = .ok (.aload_n 0, 1) := by decide +kernel
theorem dX0_shift_13 : decode cX0_shift 13 = .ok (.iload_n 1, 1) := by decide +kernel
theorem dX0_shift_14 : decode cX0_shift 14 = .ok (.invokevirtual 51, 3) := by decide +kernel
theorem dX0_shift_17 : decode cX0_shift 17 = .ok (.ifCond .eq 25, 3) := by decide +kernel
theorem dX0_shift_20 : decode cX0_shift 20 = .ok (.aload_n 0, 1) := by decide +kernel
theorem dX0_shift_21 : decode cX0_shift 21 = .ok (.getfield 18, 3) := by decide +kernel
theorem dX0_shift_24 : decode cX0_shift 24 = .ok (.iload_n 1, 1) := by decide +kernel
theorem dX0_shift_25 : decode cX0_shift 25 = .ok (.iaload, 1) := by decide +kernel
theorem dX0_shift_26 : decode cX0_shift 26 = .ok (.iload_n 3, 1) := by decide +kernel
theorem dX0_shift_27 : decode cX0_shift 27 = .ok (.iadd, 1) := by decide +kernel
theorem dX0_shift_28 : decode cX0_shift 28 = .ok (.aload_n 0, 1) := by decide +kernel
theorem dX0_shift_29 : decode cX0_shift 29 = .ok (.getfield 15, 3) := by decide +kernel
theorem dX0_shift_32 : decode cX0_shift 32 = .ok (.iload_n 1, 1) := by decide +kernel
theorem dX0_shift_33 : decode cX0_shift 33 = .ok (.iaload, 1) := by decide +kernel
theorem dX0_shift_34 : decode cX0_shift 34 = .ok (.iconst 1, 1) := by decide +kernel
theorem dX0_shift_35 : decode cX0_shift 35 = .ok (.isub, 1) := by decide +kernel
theorem dX0_shift_36 : decode cX0_shift 36 = .ok (.invokestatic 55, 3) := by decide +kernel
theorem dX0_shift_39 : decode cX0_shift 39 = .ok (.goto 15, 3) := by decide +kernel
theorem dX0_shift_42 : decode cX0_shift 42 = .ok (.aload_n 0, 1) := by decide +kernel
theorem dX0_shift_43 : decode cX0_shift 43 = .ok (.getfield 18, 3) := by decide +kernel
theorem dX0_shift_46 : decode cX0_shift 46 = .ok (.iload_n 1, 1) := by decide +kernel
theorem dX0_shift_47 : decode cX0_shift 47 = .ok (.iaload, 1) := by decide +kernel
theorem dX0_shift_48 : decode cX0_shift 48 = .ok (.iload_n 3, 1) := by decide +kernel
theorem dX0_shift_49 : decode cX0_shift 49 = .ok (.isub, 1) := by decide +kernel
theorem dX0_shift_50 : decode cX0_shift 50 = .ok (.iconst 0, 1) := by decide +kernel
theorem dX0_shift_51 : decode cX0_shift 51 = .ok (.invokestatic 60, 3) := by decide +kernel
theorem dX0_shift_54 : decode cX0_shift 54 = .ok (.iastore, 1) := by decide +kernel
theorem dX0_shift_55 : decode cX0_shift 55 = .ok (.return_, 1) := by decide +kernel
theorem dX0_step_0 : decode cX0_step 0 = .ok (.aload_n 0, 1) := by decide +kernel
theorem dX0_step_1 : decode cX0_step 1 = .ok (.invokevirtual 63, 3) := by decide +kernel
theorem dX0_step_4 : decode cX0_step 4 = .ok (.istore_n 2, 1) := by decide +kernel
theorem dX0_step_5 : decode cX0_step 5 = .ok (.iload_n 2, 1) := by decide +kernel
theorem dX0_step_6 : decode cX0_step 6 = .ok (.ifCond .eq 12, 3) := by decide +kernel
theorem dX0_step_9 : decode cX0_step 9 = .ok (.iload_n 1, 1) := by decide +kernel
theorem dX0_step_10 : decode cX0_step 10 = .ok (.ifCond .ne 8, 3) := by decide +kernel
theorem dX0_step_13 : decode cX0_step 13 = .ok (.aload_n 0, 1) := by decide +kernel
theorem dX0_step_14 : decode cX0_step 14 = .ok (.iload_n 2, 1) := by decide +kernel
theorem dX0_step_15 : decode cX0_step 15 = .ok (.invokevirtual 67, 3) := by decide +kernel
theorem dX0_step_18 : decode cX0_step 18 = .ok (.aload_n 0, 1) := by decide +kernel
theorem dX0_step_19 : decode cX0_step 19 = .ok (.dup, 1) := by decide +kernel
theorem dX0_step_20 : decode cX0_step 20 = .ok (.getfield 31, 3) := by decide +kernel
theorem dX0_step_23 : decode cX0_step 23 = .ok (.iconst 1, 1) := by decide +kernel
theorem dX0_step_24 : decode cX0_step 24 = .ok (.iadd, 1) := by decide +kernel
theorem dX0_step_25 : decode cX0_step 25 = .ok (.putfield 31, 3) := by decide +kernel
theorem dX0_step_28 : decode cX0_step 28 = .ok (.iload_n 2, 1) := by decide +kernel
theorem dX0_step_29 : decode cX0_step 29 = .ok (.ireturn, 1) := by decide +kernel
theorem dX0_moveHands_0 : decode cX0_moveHands 0 = .ok (.iconst 0, 1) := by decide +kernel
theorem dX0_moveHands_1 : decode cX0_moveHands 1 = .ok (.istore_n 1, 1) := by decide +kernel
theorem dX0_moveHands_2 : decode cX0_moveHands 2 = .ok (.iconst 0, 1) := by decide +kernel
theorem dX0_moveHands_3 : decode cX0_moveHands 3 = .ok (.istore_n 2, 1) := by decide +kernel
theorem dX0_moveHands_4 : decode cX0_moveHands 4 = .ok (.iload_n 2, 1) := by decide +kernel
theorem dX0_moveHands_5 : decode cX0_moveHands 5 = .ok (.aload_n 0, 1) := by decide +kernel
theorem dX0_moveHands_6 : decode cX0_moveHands 6 = .ok (.getfield 28, 3) := by decide +kernel
theorem dX0_moveHands_9 : decode cX0_moveHands 9 = .ok (.if_icmp .ge 57, 3) := by decide +kernel
theorem dX0_moveHands_12 : decode cX0_moveHands 12 = .ok (.aload_n 0, 1) := by decide +kernel
theorem dX0_moveHands_13 : decode cX0_moveHands 13 = .ok (.getfield 18, 3) := by decide +kernel
theorem dX0_moveHands_16 : decode cX0_moveHands 16 = .ok (.iload_n 2, 1) := by decide +kernel
theorem dX0_moveHands_17 : decode cX0_moveHands 17 = .ok (.dup2, 1) := by decide +kernel
theorem dX0_moveHands_18 : decode cX0_moveHands 18 = .ok (.iaload, 1) := by decide +kernel
theorem dX0_moveHands_19 : decode cX0_moveHands 19 = .ok (.iconst 1, 1) := by decide +kernel
theorem dX0_moveHands_20 : decode cX0_moveHands 20 = .ok (.iadd, 1) := by decide +kernel
theorem dX0_moveHands_21 : decode cX0_moveHands 21 = .ok (.iastore, 1) := by decide +kernel
theorem dX0_moveHands_22 : decode cX0_moveHands 22 = .ok (.aload_n 0, 1) := by decide +kernel
theorem dX0_moveHands_23 : decode cX0_moveHands 23 = .ok (.getfield 18, 3) := by decide +kernel
theorem dX0_moveHands_26 : decode cX0_moveHands 26 = .ok (.iload_n 2, 1) := by decide +kernel
theorem dX0_moveHands_27 : decode cX0_moveHands 27 = .ok (.iaload, 1) := by decide +kernel
theorem dX0_moveHands_28 : decode cX0_moveHands 28 = .ok (.aload_n 0, 1) := by decide +kernel
theorem dX0_moveHands_29 : decode cX0_moveHands 29 = .ok (.getfield 15, 3) := by decide +kernel
theorem dX0_moveHands_32 : decode cX0_moveHands 32 = .ok (.iload_n 2, 1) := by decide +kernel
theorem dX0_moveHands_33 : decode cX0_moveHands 33 = .ok (.iaload, 1) := by decide +kernel
theorem dX0_moveHands_34 : decode cX0_moveHands 34 = .ok (.if_icmp .lt 26, 3) := by decide +kernel
theorem dX0_moveHands_37 : decode cX0_moveHands 37 = .ok (.aload_n 0, 1) := by decide +kernel
theorem dX0_moveHands_38 : decode cX0_moveHands 38 = .ok (.getfield 18, 3) := by decide +kernel
theorem dX0_moveHands_41 : decode cX0_moveHands 41 = .ok (.iload_n 2, 1) := by decide +kernel
theorem dX0_moveHands_42 : decode cX0_moveHands 42 = .ok (.iconst 0, 1) := by decide +kernel
theorem dX0_moveHands_43 : decode cX0_moveHands 43 = .ok (.iastore, 1) := by decide +kernel
theorem dX0_moveHands_44 : decode cX0_moveHands 44 = .ok (.aload_n 0, 1) := by decide +kernel
theorem dX0_moveHands_45 : decode cX0_moveHands 45 = .ok (.getfield 21, 3) := by decide +kernel
theorem dX0_moveHands_48 : decode cX0_moveHands 48 = .ok (.iload_n 2, 1) := by decide +kernel
theorem dX0_moveHands_49 : decode cX0_moveHands 49 = .ok (.dup2, 1) := by decide +kernel
theorem dX0_moveHands_50 : decode cX0_moveHands 50 = .ok (.iaload, 1) := by decide +kernel
theorem dX0_moveHands_51 : decode cX0_moveHands 51 = .ok (.iconst 1, 1) := by decide +kernel
theorem dX0_moveHands_52 : decode cX0_moveHands 52 = .ok (.iadd, 1) := by decide +kernel
theorem dX0_moveHands_53 : decode cX0_moveHands 53 = .ok (.iastore, 1) := by decide +kernel
theorem dX0_moveHands_54 : decode cX0_moveHands 54 = .ok (.iload_n 1, 1) := by decide +kernel
theorem dX0_moveHands_55 : decode cX0_moveHands 55 = .ok (.iconst 1, 1) := by decide +kernel
theorem dX0_moveHands_56 : decode cX0_moveHands 56 = .ok (.iload_n 2, 1) := by decide +kernel
theorem dX0_moveHands_57 : decode cX0_moveHands 57 = .ok (.ishl, 1) := by decide +kernel
theorem dX0_moveHands_58 : decode cX0_moveHands 58 = .ok (.ior, 1) := by decide +kernel
theorem dX0_moveHands_59 : decode cX0_moveHands 59 = .ok (.istore_n 1, 1) := by decide +kernel
theorem dX0_moveHands_60 : decode cX0_moveHands 60 = .ok (.iinc 2 1, 3) := by decide +kernel
theorem dX0_moveHands_63 : decode cX0_moveHands 63 = .ok (.goto (-59), 3) := by decide +kernel
theorem dX0_moveHands_66 : decode cX0_moveHands 66 = .ok (.iload_n 1, 1) := by decide +kernel
theorem dX0_moveHands_67 : decode cX0_moveHands 67 = .ok (.ireturn, 1) := by decide +kernel
theorem dX0_shake_0 : decode cX0_shake 0 = .ok (.iload_n 1, 1) := by decide +kernel
theorem dX0_shake_1 : decode cX0_shake 1 = .ok (.invokestatic 71, 3) := by decide +kernel
theorem dX0_shake_4 : decode cX0_shake 4 = .ok (.istore_n 2, 1) := by decide +kernel
theorem dX0_shake_5 : decode cX0_shake 5 = .ok (.iconst 0, 1) := by decide +kernel
theorem dX0_shake_6 : decode cX0_shake 6 = .ok (.istore_n 3, 1) := by decide +kernel
theorem dX0_shake_7 : decode cX0_shake 7 = .ok (.iload_n 3, 1) := by decide +kernel
theorem dX0_shake_8 : decode cX0_shake 8 = .ok (.aload_n 0, 1) := by decide +kernel
theorem dX0_shake_9 : decode cX0_shake 9 = .ok (.getfield 28, 3) := by decide +kernel
theorem dX0_shake_12 : decode cX0_shake 12 = .ok (.if_icmp .ge 23, 3) := by decide +kernel
theorem dX0_shake_15 : decode cX0_shake 15 = .ok (.iload_n 1, 1) := by decide +kernel
theorem dX0_shake_16 : decode cX0_shake 16 = .ok (.iload_n 3, 1) := by decide +kernel
theorem dX0_shake_17 : decode cX0_shake 17 = .ok (.invokestatic 77, 3) := by decide +kernel
theorem dX0_shake_20 : decode cX0_shake 20 = .ok (.ifCond .ne 9, 3) := by decide +kernel
theorem dX0_shake_23 : decode cX0_shake 23 = .ok (.aload_n 0, 1) := by decide +kernel
theorem dX0_shake_24 : decode cX0_shake 24 = .ok (.iload_n 3, 1) := by decide +kernel
theorem dX0_shake_25 : decode cX0_shake 25 = .ok (.iload_n 2, 1) := by decide +kernel
theorem dX0_shake_26 : decode cX0_shake 26 = .ok (.invokevirtual 81, 3) := by decide +kernel
theorem dX0_shake_29 : decode cX0_shake 29 = .ok (.iinc 3 1, 3) := by decide +kernel
theorem dX0_shake_32 : decode cX0_shake 32 = .ok (.goto (-25), 3) := by decide +kernel
theorem dX0_shake_35 : decode cX0_shake 35 = .ok (.return_, 1) := by decide +kernel
theorem dX0_stepMany_0 : decode cX0_stepMany 0 = .ok (.aload_n 0, 1) := by decide +kernel
theorem dX0_stepMany_1 : decode cX0_stepMany 1 = .ok (.iload_n 1, 1) := by decide +kernel
theorem dX0_stepMany_2 : decode cX0_stepMany 2 = .ok (.iconst 0, 1) := by decide +kernel
theorem dX0_stepMany_3 : decode cX0_stepMany 3 = .ok (.invokevirtual 85, 3) := by decide +kernel
theorem dX0_stepMany_6 : decode cX0_stepMany 6 = .ok (.ireturn, 1) := by decide +kernel
theorem dX0_stepHeld_0 : decode cX0_stepHeld 0 = .ok (.iconst 0, 1) := by decide +kernel
theorem dX0_stepHeld_1 : decode cX0_stepHeld 1 = .ok (.istore_n 3, 1) := by decide +kernel
theorem dX0_stepHeld_2 : decode cX0_stepHeld 2 = .ok (.iconst 0, 1) := by decide +kernel
theorem dX0_stepHeld_3 : decode cX0_stepHeld 3 = .ok (.istore 4, 2) := by decide +kernel
theorem dX0_stepHeld_5 : decode cX0_stepHeld 5 = .ok (.iload 4, 2) := by decide +kernel
theorem dX0_stepHeld_7 : decode cX0_stepHeld 7 = .ok (.iload_n 1, 1) := by decide +kernel
theorem dX0_stepHeld_8 : decode cX0_stepHeld 8 = .ok (.if_icmp .ge 40, 3) := by decide +kernel
theorem dX0_stepHeld_11 : decode cX0_stepHeld 11 = .ok (.iload_n 3, 1) := by decide +kernel
theorem dX0_stepHeld_12 : decode cX0_stepHeld 12 = .ok (.aload_n 0, 1) := by decide +kernel
theorem dX0_stepHeld_13 : decode cX0_stepHeld 13 = .ok (.iload 4, 2) := by decide +kernel
theorem dX0_stepHeld_15 : decode cX0_stepHeld 15 = .ok (.bipush 32, 2) := by decide +kernel
theorem dX0_stepHeld_17 : decode cX0_stepHeld 17 = .ok (.if_icmp .ge 16, 3) := by decide +kernel
theorem dX0_stepHeld_20 : decode cX0_stepHeld 20 = .ok (.iload_n 2, 1) := by decide +kernel
theorem dX0_stepHeld_21 : decode cX0_stepHeld 21 = .ok (.iload 4, 2) := by decide +kernel
theorem dX0_stepHeld_23 : decode cX0_stepHeld 23 = .ok (.invokestatic 77, 3) := by decide +kernel
theorem dX0_stepHeld_26 : decode cX0_stepHeld 26 = .ok (.ifCond .eq 7, 3) := by decide +kernel
theorem dX0_stepHeld_29 : decode cX0_stepHeld 29 = .ok (.iconst 1, 1) := by decide +kernel
theorem dX0_stepHeld_30 : decode cX0_stepHeld 30 = .ok (.goto 4, 3) := by decide +kernel
theorem dX0_stepHeld_33 : decode cX0_stepHeld 33 = .ok (.iconst 0, 1) := by decide +kernel
theorem dX0_stepHeld_34 : decode cX0_stepHeld 34 = .ok (.invokevirtual 88, 3) := by decide +kernel
theorem dX0_stepHeld_37 : decode cX0_stepHeld 37 = .ok (.invokestatic 71, 3) := by decide +kernel
theorem dX0_stepHeld_40 : decode cX0_stepHeld 40 = .ok (.iadd, 1) := by decide +kernel
theorem dX0_stepHeld_41 : decode cX0_stepHeld 41 = .ok (.istore_n 3, 1) := by decide +kernel
theorem dX0_stepHeld_42 : decode cX0_stepHeld 42 = .ok (.iinc 4 1, 3) := by decide +kernel
theorem dX0_stepHeld_45 : decode cX0_stepHeld 45 = .ok (.goto (-40), 3) := by decide +kernel
theorem dX0_stepHeld_48 : decode cX0_stepHeld 48 = .ok (.iload_n 3, 1) := by decide +kernel
theorem dX0_stepHeld_49 : decode cX0_stepHeld 49 = .ok (.ireturn, 1) := by decide +kernel
theorem dX0_everyClock_0 : decode cX0_everyClock 0 = .ok (.iconst 1, 1) := by decide +kernel
theorem dX0_everyClock_1 : decode cX0_everyClock 1 = .ok (.aload_n 0, 1) := by decide +kernel
theorem dX0_everyClock_2 : decode cX0_everyClock 2 = .ok (.getfield 28, 3) := by decide +kernel
theorem dX0_everyClock_5 : decode cX0_everyClock 5 = .ok (.ishl, 1) := by decide +kernel
theorem dX0_everyClock_6 : decode cX0_everyClock 6 = .ok (.iconst 1, 1) := by decide +kernel
theorem dX0_everyClock_7 : decode cX0_everyClock 7 = .ok (.isub, 1) := by decide +kernel
theorem dX0_everyClock_8 : decode cX0_everyClock 8 = .ok (.ireturn, 1) := by decide +kernel
theorem dX0_firstTogether_0 : decode cX0_firstTogether 0 = .ok (.aload_n 0, 1) := by decide +kernel
theorem dX0_firstTogether_1 : decode cX0_firstTogether 1 = .ok (.getfield 28, 3) := by decide +kernel
theorem dX0_firstTogether_4 : decode cX0_firstTogether 4 = .ok (.ifCond .ne 6, 3) := by decide +kernel
theorem dX0_firstTogether_7 : decode cX0_firstTogether 7 = .ok (.bipush (-4), 2) := by decide +kernel
theorem dX0_firstTogether_9 : decode cX0_firstTogether 9 = .ok (.ireturn, 1) := by decide +kernel
theorem dX0_firstTogether_10 : decode cX0_firstTogether 10 = .ok (.aload_n 0, 1) := by decide +kernel
theorem dX0_firstTogether_11 : decode cX0_firstTogether 11 = .ok (.invokevirtual 92, 3) := by decide +kernel
theorem dX0_firstTogether_14 : decode cX0_firstTogether 14 = .ok (.istore_n 2, 1) := by decide +kernel
theorem dX0_firstTogether_15 : decode cX0_firstTogether 15 = .ok (.iconst 0, 1) := by decide +kernel
theorem dX0_firstTogether_16 : decode cX0_firstTogether 16 = .ok (.istore_n 3, 1) := by decide +kernel
theorem dX0_firstTogether_17 : decode cX0_firstTogether 17 = .ok (.iload_n 3, 1) := by decide +kernel
theorem dX0_firstTogether_18 : decode cX0_firstTogether 18 = .ok (.iload_n 1, 1) := by decide +kernel
theorem dX0_firstTogether_19 : decode cX0_firstTogether 19 = .ok (.if_icmp .gt 20, 3) := by decide +kernel
theorem dX0_firstTogether_22 : decode cX0_firstTogether 22 = .ok (.aload_n 0, 1) := by decide +kernel
theorem dX0_firstTogether_23 : decode cX0_firstTogether 23 = .ok (.iconst 0, 1) := by decide +kernel
theorem dX0_firstTogether_24 : decode cX0_firstTogether 24 = .ok (.invokevirtual 88, 3) := by decide +kernel
theorem dX0_firstTogether_27 : decode cX0_firstTogether 27 = .ok (.iload_n 2, 1) := by decide +kernel
theorem dX0_firstTogether_28 : decode cX0_firstTogether 28 = .ok (.if_icmp .ne 5, 3) := by decide +kernel
theorem dX0_firstTogether_31 : decode cX0_firstTogether 31 = .ok (.iload_n 3, 1) := by decide +kernel
theorem dX0_firstTogether_32 : decode cX0_firstTogether 32 = .ok (.ireturn, 1) := by decide +kernel
theorem dX0_firstTogether_33 : decode cX0_firstTogether 33 = .ok (.iinc 3 1, 3) := by decide +kernel
theorem dX0_firstTogether_36 : decode cX0_firstTogether 36 = .ok (.goto (-19), 3) := by decide +kernel
theorem dX0_firstTogether_39 : decode cX0_firstTogether 39 = .ok (.bipush (-4), 2) := by decide +kernel
theorem dX0_firstTogether_41 : decode cX0_firstTogether 41 = .ok (.ireturn, 1) := by decide +kernel
theorem dX0_hasHandsOf_0 : decode cX0_hasHandsOf 0 = .ok (.iconst 0, 1) := by decide +kernel
theorem dX0_hasHandsOf_1 : decode cX0_hasHandsOf 1 = .ok (.istore_n 2, 1) := by decide +kernel
theorem dX0_hasHandsOf_2 : decode cX0_hasHandsOf 2 = .ok (.iload_n 2, 1) := by decide +kernel
theorem dX0_hasHandsOf_3 : decode cX0_hasHandsOf 3 = .ok (.aload_n 0, 1) := by decide +kernel
theorem dX0_hasHandsOf_4 : decode cX0_hasHandsOf 4 = .ok (.getfield 28, 3) := by decide +kernel
theorem dX0_hasHandsOf_7 : decode cX0_hasHandsOf 7 = .ok (.if_icmp .ge 26, 3) := by decide +kernel
theorem dX0_hasHandsOf_10 : decode cX0_hasHandsOf 10 = .ok (.aload_n 0, 1) := by decide +kernel
theorem dX0_hasHandsOf_11 : decode cX0_hasHandsOf 11 = .ok (.getfield 18, 3) := by decide +kernel
theorem dX0_hasHandsOf_14 : decode cX0_hasHandsOf 14 = .ok (.iload_n 2, 1) := by decide +kernel
theorem dX0_hasHandsOf_15 : decode cX0_hasHandsOf 15 = .ok (.iaload, 1) := by decide +kernel
theorem dX0_hasHandsOf_16 : decode cX0_hasHandsOf 16 = .ok (.aload_n 1, 1) := by decide +kernel
theorem dX0_hasHandsOf_17 : decode cX0_hasHandsOf 17 = .ok (.getfield 18, 3) := by decide +kernel
theorem dX0_hasHandsOf_20 : decode cX0_hasHandsOf 20 = .ok (.iload_n 2, 1) := by decide +kernel
theorem dX0_hasHandsOf_21 : decode cX0_hasHandsOf 21 = .ok (.iaload, 1) := by decide +kernel
theorem dX0_hasHandsOf_22 : decode cX0_hasHandsOf 22 = .ok (.if_icmp .eq 5, 3) := by decide +kernel
theorem dX0_hasHandsOf_25 : decode cX0_hasHandsOf 25 = .ok (.iconst 0, 1) := by decide +kernel
theorem dX0_hasHandsOf_26 : decode cX0_hasHandsOf 26 = .ok (.ireturn, 1) := by decide +kernel
theorem dX0_hasHandsOf_27 : decode cX0_hasHandsOf 27 = .ok (.iinc 2 1, 3) := by decide +kernel
theorem dX0_hasHandsOf_30 : decode cX0_hasHandsOf 30 = .ok (.goto (-28), 3) := by decide +kernel
theorem dX0_hasHandsOf_33 : decode cX0_hasHandsOf 33 = .ok (.iconst 1, 1) := by decide +kernel
theorem dX0_hasHandsOf_34 : decode cX0_hasHandsOf 34 = .ok (.ireturn, 1) := by decide +kernel
theorem dX0_sumOfHands_0 : decode cX0_sumOfHands 0 = .ok (.iconst 0, 1) := by decide +kernel
theorem dX0_sumOfHands_1 : decode cX0_sumOfHands 1 = .ok (.istore_n 1, 1) := by decide +kernel
theorem dX0_sumOfHands_2 : decode cX0_sumOfHands 2 = .ok (.iconst 0, 1) := by decide +kernel
theorem dX0_sumOfHands_3 : decode cX0_sumOfHands 3 = .ok (.istore_n 2, 1) := by decide +kernel
theorem dX0_sumOfHands_4 : decode cX0_sumOfHands 4 = .ok (.iload_n 2, 1) := by decide +kernel
theorem dX0_sumOfHands_5 : decode cX0_sumOfHands 5 = .ok (.aload_n 0, 1) := by decide +kernel
theorem dX0_sumOfHands_6 : decode cX0_sumOfHands 6 = .ok (.getfield 28, 3) := by decide +kernel
theorem dX0_sumOfHands_9 : decode cX0_sumOfHands 9 = .ok (.if_icmp .ge 18, 3) := by decide +kernel
theorem dX0_sumOfHands_12 : decode cX0_sumOfHands 12 = .ok (.iload_n 1, 1) := by decide +kernel
theorem dX0_sumOfHands_13 : decode cX0_sumOfHands 13 = .ok (.aload_n 0, 1) := by decide +kernel
theorem dX0_sumOfHands_14 : decode cX0_sumOfHands 14 = .ok (.getfield 18, 3) := by decide +kernel
theorem dX0_sumOfHands_17 : decode cX0_sumOfHands 17 = .ok (.iload_n 2, 1) := by decide +kernel
theorem dX0_sumOfHands_18 : decode cX0_sumOfHands 18 = .ok (.iaload, 1) := by decide +kernel
theorem dX0_sumOfHands_19 : decode cX0_sumOfHands 19 = .ok (.iadd, 1) := by decide +kernel
theorem dX0_sumOfHands_20 : decode cX0_sumOfHands 20 = .ok (.istore_n 1, 1) := by decide +kernel
theorem dX0_sumOfHands_21 : decode cX0_sumOfHands 21 = .ok (.iinc 2 1, 3) := by decide +kernel
theorem dX0_sumOfHands_24 : decode cX0_sumOfHands 24 = .ok (.goto (-20), 3) := by decide +kernel
theorem dX0_sumOfHands_27 : decode cX0_sumOfHands 27 = .ok (.iload_n 1, 1) := by decide +kernel
theorem dX0_sumOfHands_28 : decode cX0_sumOfHands 28 = .ok (.ireturn, 1) := by decide +kernel
theorem dX1_init_0 : decode cX1_init 0 = .ok (.aload_n 0, 1) := by decide +kernel
theorem dX1_init_1 : decode cX1_init 1 = .ok (.invokespecial 3, 3) := by decide +kernel
theorem dX1_init_4 : decode cX1_init 4 = .ok (.return_, 1) := by decide +kernel
theorem dX1_restart_0 : decode cX1_restart 0 = .ok (.aload_n 0, 1) := by decide +kernel
theorem dX1_restart_1 : decode cX1_restart 1 = .ok (.bipush (-4), 2) := by decide +kernel
theorem dX1_restart_3 : decode cX1_restart 3 = .ok (.putfield 9, 3) := by decide +kernel
theorem dX1_restart_6 : decode cX1_restart 6 = .ok (.aload_n 0, 1) := by decide +kernel
theorem dX1_restart_7 : decode cX1_restart 7 = .ok (.bipush (-4), 2) := by decide +kernel
theorem dX1_restart_9 : decode cX1_restart 9 = .ok (.putfield 15, 3) := by decide +kernel
theorem dX1_restart_12 : decode cX1_restart 12 = .ok (.aload_n 0, 1) := by decide +kernel
theorem dX1_restart_13 : decode cX1_restart 13 = .ok (.iload_n 1, 1) := by decide +kernel
theorem dX1_restart_14 : decode cX1_restart 14 = .ok (.putfield 18, 3) := by decide +kernel
theorem dX1_restart_17 : decode cX1_restart 17 = .ok (.return_, 1) := by decide +kernel
theorem dX1_offer_0 : decode cX1_offer 0 = .ok (.aload_n 2, 1) := by decide +kernel
theorem dX1_offer_1 : decode cX1_offer 1 = .ok (.aload_n 0, 1) := by decide +kernel
theorem dX1_offer_2 : decode cX1_offer 2 = .ok (.getfield 18, 3) := by decide +kernel
theorem dX1_offer_5 : decode cX1_offer 5 = .ok (.invokevirtual 21, 3) := by decide +kernel
theorem dX1_offer_8 : decode cX1_offer 8 = .ok (.istore_n 3, 1) := by decide +kernel
theorem dX1_offer_9 : decode cX1_offer 9 = .ok (.iload_n 3, 1) := by decide +kernel
theorem dX1_offer_10 : decode cX1_offer 10 = .ok (.bipush (-4), 2) := by decide +kernel
theorem dX1_offer_12 : decode cX1_offer 12 = .ok (.if_icmp .eq 20, 3) := by decide +kernel
theorem dX1_offer_15 : decode cX1_offer 15 = .ok (.aload_n 0, 1) := by decide +kernel
theorem dX1_offer_16 : decode cX1_offer 16 = .ok (.iload_n 1, 1) := by decide +kernel
theorem dX1_offer_17 : decode cX1_offer 17 = .ok (.putfield 9, 3) := by decide +kernel
theorem dX1_offer_20 : decode cX1_offer 20 = .ok (.aload_n 0, 1) := by decide +kernel
theorem dX1_offer_21 : decode cX1_offer 21 = .ok (.iload_n 3, 1) := by decide +kernel
theorem dX1_offer_22 : decode cX1_offer 22 = .ok (.putfield 15, 3) := by decide +kernel
theorem dX1_offer_25 : decode cX1_offer 25 = .ok (.aload_n 0, 1) := by decide +kernel
theorem dX1_offer_26 : decode cX1_offer 26 = .ok (.iload_n 3, 1) := by decide +kernel
theorem dX1_offer_27 : decode cX1_offer 27 = .ok (.iconst 1, 1) := by decide +kernel
theorem dX1_offer_28 : decode cX1_offer 28 = .ok (.isub, 1) := by decide +kernel
theorem dX1_offer_29 : decode cX1_offer 29 = .ok (.putfield 18, 3) := by decide +kernel
theorem dX1_offer_32 : decode cX1_offer 32 = .ok (.return_, 1) := by decide +kernel
theorem dX1_answer_0 : decode cX1_answer 0 = .ok (.iload_n 1, 1) := by decide +kernel
theorem dX1_answer_1 : decode cX1_answer 1 = .ok (.ifCond .ne 10, 3) := by decide +kernel
theorem dX1_answer_4 : decode cX1_answer 4 = .ok (.aload_n 0, 1) := by decide +kernel
theorem dX1_answer_5 : decode cX1_answer 5 = .ok (.getfield 9, 3) := by decide +kernel
theorem dX1_answer_8 : decode cX1_answer 8 = .ok (.goto 7, 3) := by decide +kernel
theorem dX1_answer_11 : decode cX1_answer 11 = .ok (.aload_n 0, 1) := by decide +kernel
theorem dX1_answer_12 : decode cX1_answer 12 = .ok (.getfield 15, 3) := by decide +kernel
theorem dX1_answer_15 : decode cX1_answer 15 = .ok (.ireturn, 1) := by decide +kernel
theorem dX2_init_0 : decode cX2_init 0 = .ok (.aload_n 0, 1) := by decide +kernel
theorem dX2_init_1 : decode cX2_init 1 = .ok (.invokespecial 3, 3) := by decide +kernel
theorem dX2_init_4 : decode cX2_init 4 = .ok (.aload_n 0, 1) := by decide +kernel
theorem dX2_init_5 : decode cX2_init 5 = .ok (.sipush 160, 3) := by decide +kernel
theorem dX2_init_8 : decode cX2_init 8 = .ok (.newarray .byte, 2) := by decide +kernel
theorem dX2_init_10 : decode cX2_init 10 = .ok (.putfield 9, 3) := by decide +kernel
theorem dX2_init_13 : decode cX2_init 13 = .ok (.return_, 1) := by decide +kernel
theorem dX2_readText_0 : decode cX2_readText 0 = .ok (.aload_n 0, 1) := by decide +kernel
theorem dX2_readText_1 : decode cX2_readText 1 = .ok (.iconst 0, 1) := by decide +kernel
theorem dX2_readText_2 : decode cX2_readText 2 = .ok (.putfield 15, 3) := by decide +kernel
theorem dX2_readText_5 : decode cX2_readText 5 = .ok (.aload_n 0, 1) := by decide +kernel
theorem dX2_readText_6 : decode cX2_readText 6 = .ok (.iconst 0, 1) := by decide +kernel
theorem dX2_readText_7 : decode cX2_readText 7 = .ok (.putfield 19, 3) := by decide +kernel
theorem dX2_readText_10 : decode cX2_readText 10 = .ok (.aload_n 0, 1) := by decide +kernel
theorem dX2_readText_11 : decode cX2_readText 11 = .ok (.iconst 0, 1) := by decide +kernel
theorem dX2_readText_12 : decode cX2_readText 12 = .ok (.putfield 22, 3) := by decide +kernel
theorem dX2_readText_15 : decode cX2_readText 15 = .ok (.aload_n 0, 1) := by decide +kernel
theorem dX2_readText_16 : decode cX2_readText 16 = .ok (.iconst 0, 1) := by decide +kernel
theorem dX2_readText_17 : decode cX2_readText 17 = .ok (.putfield 25, 3) := by decide +kernel
theorem dX2_readText_20 : decode cX2_readText 20 = .ok (.aload_n 0, 1) := by decide +kernel
theorem dX2_readText_21 : decode cX2_readText 21 = .ok (.iconst 0, 1) := by decide +kernel
theorem dX2_readText_22 : decode cX2_readText 22 = .ok (.putfield 28, 3) := by decide +kernel
theorem dX2_readText_25 : decode cX2_readText 25 = .ok (.aload_n 0, 1) := by decide +kernel
theorem dX2_readText_26 : decode cX2_readText 26 = .ok (.invokevirtual 32, 3) := by decide +kernel
theorem dX2_readText_29 : decode cX2_readText 29 = .ok (.iconst 0, 1) := by decide +kernel
theorem dX2_readText_30 : decode cX2_readText 30 = .ok (.istore_n 2, 1) := by decide +kernel
theorem dX2_readText_31 : decode cX2_readText 31 = .ok (.iload_n 2, 1) := by decide +kernel
theorem dX2_readText_32 : decode cX2_readText 32 = .ok (.sipush 160, 3) := by decide +kernel
theorem dX2_readText_35 : decode cX2_readText 35 = .ok (.if_icmp .ge 32, 3) := by decide +kernel
theorem dX2_readText_38 : decode cX2_readText 38 = .ok (.aload_n 0, 1) := by decide +kernel
theorem dX2_readText_39 : decode cX2_readText 39 = .ok (.getfield 15, 3) := by decide +kernel
theorem dX2_readText_42 : decode cX2_readText 42 = .ok (.ifCond .ne 25, 3) := by decide +kernel
theorem dX2_readText_45 : decode cX2_readText 45 = .ok (.aload_n 0, 1) := by decide +kernel
theorem dX2_readText_46 : decode cX2_readText 46 = .ok (.getfield 35, 3) := by decide +kernel
theorem dX2_readText_49 : decode cX2_readText 49 = .ok (.ifCond .eq 18, 3) := by decide +kernel
theorem dX2_readText_52 : decode cX2_readText 52 = .ok (.aload_n 0, 1) := by decide +kernel
theorem dX2_readText_53 : decode cX2_readText 53 = .ok (.aload_n 1, 1) := by decide +kernel
theorem dX2_readText_54 : decode cX2_readText 54 = .ok (.invokevirtual 38, 3) := by decide +kernel
theorem dX2_readText_57 : decode cX2_readText 57 = .ok (.aload_n 0, 1) := by decide +kernel
theorem dX2_readText_58 : decode cX2_readText 58 = .ok (.invokevirtual 32, 3) := by decide +kernel
theorem dX2_readText_61 : decode cX2_readText 61 = .ok (.iinc 2 1, 3) := by decide +kernel
theorem dX2_readText_64 : decode cX2_readText 64 = .ok (.goto (-33), 3) := by decide +kernel
theorem dX2_readText_67 : decode cX2_readText 67 = .ok (.return_, 1) := by decide +kernel
theorem dX2_readLine_0 : decode cX2_readLine 0 = .ok (.aload_n 0, 1) := by decide +kernel
theorem dX2_readLine_1 : decode cX2_readLine 1 = .ok (.invokevirtual 42, 3) := by decide +kernel
theorem dX2_readLine_4 : decode cX2_readLine 4 = .ok (.istore_n 2, 1) := by decide +kernel
theorem dX2_readLine_5 : decode cX2_readLine 5 = .ok (.iload_n 2, 1) := by decide +kernel
theorem dX2_readLine_6 : decode cX2_readLine 6 = .ok (.iconst 5, 1) := by decide +kernel
theorem dX2_readLine_7 : decode cX2_readLine 7 = .ok (.if_icmp .ne 11, 3) := by decide +kernel
theorem dX2_readLine_10 : decode cX2_readLine 10 = .ok (.aload_n 0, 1) := by decide +kernel
theorem dX2_readLine_11 : decode cX2_readLine 11 = .ok (.iconst 2, 1) := by decide +kernel
theorem dX2_readLine_12 : decode cX2_readLine 12 = .ok (.invokevirtual 46, 3) := by decide +kernel
theorem dX2_readLine_15 : decode cX2_readLine 15 = .ok (.goto 22, 3) := by decide +kernel
theorem dX2_readLine_18 : decode cX2_readLine 18 = .ok (.iload_n 2, 1) := by decide +kernel
theorem dX2_readLine_19 : decode cX2_readLine 19 = .ok (.iconst 4, 1) := by decide +kernel
theorem dX2_readLine_20 : decode cX2_readLine 20 = .ok (.if_icmp .ne 11, 3) := by decide +kernel
theorem dX2_readLine_23 : decode cX2_readLine 23 = .ok (.aload_n 0, 1) := by decide +kernel
theorem dX2_readLine_24 : decode cX2_readLine 24 = .ok (.aload_n 1, 1) := by decide +kernel
theorem dX2_readLine_25 : decode cX2_readLine 25 = .ok (.invokevirtual 50, 3) := by decide +kernel
theorem dX2_readLine_28 : decode cX2_readLine 28 = .ok (.goto 9, 3) := by decide +kernel
theorem dX2_readLine_31 : decode cX2_readLine 31 = .ok (.aload_n 0, 1) := by decide +kernel
theorem dX2_readLine_32 : decode cX2_readLine 32 = .ok (.aload_n 1, 1) := by decide +kernel
theorem dX2_readLine_33 : decode cX2_readLine 33 = .ok (.iload_n 2, 1) := by decide +kernel
theorem dX2_readLine_34 : decode cX2_readLine 34 = .ok (.invokevirtual 53, 3) := by decide +kernel
theorem dX2_readLine_37 : decode cX2_readLine 37 = .ok (.aload_n 0, 1) := by decide +kernel
theorem dX2_readLine_38 : decode cX2_readLine 38 = .ok (.dup, 1) := by decide +kernel
theorem dX2_readLine_39 : decode cX2_readLine 39 = .ok (.getfield 22, 3) := by decide +kernel
theorem dX2_readLine_42 : decode cX2_readLine 42 = .ok (.iconst 1, 1) := by decide +kernel
theorem dX2_readLine_43 : decode cX2_readLine 43 = .ok (.iadd, 1) := by decide +kernel
theorem dX2_readLine_44 : decode cX2_readLine 44 = .ok (.putfield 22, 3) := by decide +kernel
theorem dX2_readLine_47 : decode cX2_readLine 47 = .ok (.return_, 1) := by decide +kernel
theorem dX2_readPush_0 : decode cX2_readPush 0 = .ok (.aload_n 0, 1) := by decide +kernel
theorem dX2_readPush_1 : decode cX2_readPush 1 = .ok (.getfield 28, 3) := by decide +kernel
theorem dX2_readPush_4 : decode cX2_readPush 4 = .ok (.ifCond .eq 9, 3) := by decide +kernel
theorem dX2_readPush_7 : decode cX2_readPush 7 = .ok (.aload_n 0, 1) := by decide +kernel
theorem dX2_readPush_8 : decode cX2_readPush 8 = .ok (.iconst 4, 1) := by decide +kernel
theorem dX2_readPush_9 : decode cX2_readPush 9 = .ok (.invokevirtual 46, 3) := by decide +kernel
theorem dX2_readPush_12 : decode cX2_readPush 12 = .ok (.return_, 1) := by decide +kernel
theorem dX2_readPush_13 : decode cX2_readPush 13 = .ok (.aload_n 0, 1) := by decide +kernel
theorem dX2_readPush_14 : decode cX2_readPush 14 = .ok (.iconst 1, 1) := by decide +kernel
theorem dX2_readPush_15 : decode cX2_readPush 15 = .ok (.putfield 28, 3) := by decide +kernel
theorem dX2_readPush_18 : decode cX2_readPush 18 = .ok (.aload_n 1, 1) := by decide +kernel
theorem dX2_readPush_19 : decode cX2_readPush 19 = .ok (.aload_n 0, 1) := by decide +kernel
theorem dX2_readPush_20 : decode cX2_readPush 20 = .ok (.iconst 0, 1) := by decide +kernel
theorem dX2_readPush_21 : decode cX2_readPush 21 = .ok (.iconst 5, 1) := by decide +kernel
theorem dX2_readPush_22 : decode cX2_readPush 22 = .ok (.invokevirtual 57, 3) := by decide +kernel
theorem dX2_readPush_25 : decode cX2_readPush 25 = .ok (.putfield 61, 3) := by decide +kernel
theorem dX2_readPush_28 : decode cX2_readPush 28 = .ok (.aload_n 0, 1) := by decide +kernel
theorem dX2_readPush_29 : decode cX2_readPush 29 = .ok (.invokevirtual 66, 3) := by decide +kernel
theorem dX2_readPush_32 : decode cX2_readPush 32 = .ok (.return_, 1) := by decide +kernel
theorem dX2_readClock_0 : decode cX2_readClock 0 = .ok (.aload_n 1, 1) := by decide +kernel
theorem dX2_readClock_1 : decode cX2_readClock 1 = .ok (.getfield 69, 3) := by decide +kernel
theorem dX2_readClock_4 : decode cX2_readClock 4 = .ok (.iconst 5, 1) := by decide +kernel
theorem dX2_readClock_5 : decode cX2_readClock 5 = .ok (.if_icmp .lt 9, 3) := by decide +kernel
theorem dX2_readClock_8 : decode cX2_readClock 8 = .ok (.aload_n 0, 1) := by decide +kernel
theorem dX2_readClock_9 : decode cX2_readClock 9 = .ok (.iconst 5, 1) := by decide +kernel
theorem dX2_readClock_10 : decode cX2_readClock 10 = .ok (.invokevirtual 46, 3) := by decide +kernel
theorem dX2_readClock_13 : decode cX2_readClock 13 = .ok (.return_, 1) := by decide +kernel
theorem dX2_readClock_14 : decode cX2_readClock 14 = .ok (.aload_n 0, 1) := by decide +kernel
theorem dX2_readClock_15 : decode cX2_readClock 15 = .ok (.iconst 2, 1) := by decide +kernel
theorem dX2_readClock_16 : decode cX2_readClock 16 = .ok (.bipush 30, 2) := by decide +kernel
theorem dX2_readClock_18 : decode cX2_readClock 18 = .ok (.invokevirtual 57, 3) := by decide +kernel
theorem dX2_readClock_21 : decode cX2_readClock 21 = .ok (.istore_n 3, 1) := by decide +kernel
theorem dX2_readClock_22 : decode cX2_readClock 22 = .ok (.aload_n 0, 1) := by decide +kernel
theorem dX2_readClock_23 : decode cX2_readClock 23 = .ok (.iconst 0, 1) := by decide +kernel
theorem dX2_readClock_24 : decode cX2_readClock 24 = .ok (.iload_n 3, 1) := by decide +kernel
theorem dX2_readClock_25 : decode cX2_readClock 25 = .ok (.iconst 1, 1) := by decide +kernel
theorem dX2_readClock_26 : decode cX2_readClock 26 = .ok (.isub, 1) := by decide +kernel
theorem dX2_readClock_27 : decode cX2_readClock 27 = .ok (.invokevirtual 57, 3) := by decide +kernel
theorem dX2_readClock_30 : decode cX2_readClock 30 = .ok (.istore 4, 2) := by decide +kernel
theorem dX2_readClock_32 : decode cX2_readClock 32 = .ok (.aload_n 0, 1) := by decide +kernel
theorem dX2_readClock_33 : decode cX2_readClock 33 = .ok (.invokevirtual 66, 3) := by decide +kernel
theorem dX2_readClock_36 : decode cX2_readClock 36 = .ok (.aload_n 0, 1) := by decide +kernel
theorem dX2_readClock_37 : decode cX2_readClock 37 = .ok (.getfield 15, 3) := by decide +kernel
theorem dX2_readClock_40 : decode cX2_readClock 40 = .ok (.ifCond .ne 11, 3) := by decide +kernel
theorem dX2_readClock_43 : decode cX2_readClock 43 = .ok (.aload_n 1, 1) := by decide +kernel
theorem dX2_readClock_44 : decode cX2_readClock 44 = .ok (.iload_n 2, 1) := by decide +kernel
theorem dX2_readClock_45 : decode cX2_readClock 45 = .ok (.iload_n 3, 1) := by decide +kernel
theorem dX2_readClock_46 : decode cX2_readClock 46 = .ok (.iload 4, 2) := by decide +kernel
theorem dX2_readClock_48 : decode cX2_readClock 48 = .ok (.invokevirtual 72, 3) := by decide +kernel
theorem dX2_readClock_51 : decode cX2_readClock 51 = .ok (.return_, 1) := by decide +kernel
theorem dX2_readNumber_0 : decode cX2_readNumber 0 = .ok (.aload_n 0, 1) := by decide +kernel
theorem dX2_readNumber_1 : decode cX2_readNumber 1 = .ok (.invokevirtual 32, 3) := by decide +kernel
theorem dX2_readNumber_4 : decode cX2_readNumber 4 = .ok (.aload_n 0, 1) := by decide +kernel
theorem dX2_readNumber_5 : decode cX2_readNumber 5 = .ok (.getfield 15, 3) := by decide +kernel
theorem dX2_readNumber_8 : decode cX2_readNumber 8 = .ok (.ifCond .eq 5, 3) := by decide +kernel
theorem dX2_readNumber_11 : decode cX2_readNumber 11 = .ok (.iload_n 1, 1) := by decide +kernel
theorem dX2_readNumber_12 : decode cX2_readNumber 12 = .ok (.ireturn, 1) := by decide +kernel
theorem dX2_readNumber_13 : decode cX2_readNumber 13 = .ok (.aload_n 0, 1) := by decide +kernel
theorem dX2_readNumber_14 : decode cX2_readNumber 14 = .ok (.getfield 35, 3) := by decide +kernel
theorem dX2_readNumber_17 : decode cX2_readNumber 17 = .ok (.iconst 2, 1) := by decide +kernel
theorem dX2_readNumber_18 : decode cX2_readNumber 18 = .ok (.if_icmp .eq 10, 3) := by decide +kernel
theorem dX2_readNumber_21 : decode cX2_readNumber 21 = .ok (.aload_n 0, 1) := by decide +kernel
theorem dX2_readNumber_22 : decode cX2_readNumber 22 = .ok (.iconst 2, 1) := by decide +kernel
theorem dX2_readNumber_23 : decode cX2_readNumber 23 = .ok (.invokevirtual 46, 3) := by decide +kernel
theorem dX2_readNumber_26 : decode cX2_readNumber 26 = .ok (.iload_n 1, 1) := by decide +kernel
theorem dX2_readNumber_27 : decode cX2_readNumber 27 = .ok (.ireturn, 1) := by decide +kernel
theorem dX2_readNumber_28 : decode cX2_readNumber 28 = .ok (.aload_n 0, 1) := by decide +kernel
theorem dX2_readNumber_29 : decode cX2_readNumber 29 = .ok (.invokevirtual 76, 3) := by decide +kernel
theorem dX2_readNumber_32 : decode cX2_readNumber 32 = .ok (.istore_n 3, 1) := by decide +kernel
theorem dX2_readNumber_33 : decode cX2_readNumber 33 = .ok (.iload_n 3, 1) := by decide +kernel
theorem dX2_readNumber_34 : decode cX2_readNumber 34 = .ok (.iload_n 1, 1) := by decide +kernel
theorem dX2_readNumber_35 : decode cX2_readNumber 35 = .ok (.iload_n 2, 1) := by decide +kernel
theorem dX2_readNumber_36 : decode cX2_readNumber 36 = .ok (.invokestatic 79, 3) := by decide +kernel
theorem dX2_readNumber_39 : decode cX2_readNumber 39 = .ok (.ifCond .ne 8, 3) := by decide +kernel
theorem dX2_readNumber_42 : decode cX2_readNumber 42 = .ok (.aload_n 0, 1) := by decide +kernel
theorem dX2_readNumber_43 : decode cX2_readNumber 43 = .ok (.iconst 3, 1) := by decide +kernel
theorem dX2_readNumber_44 : decode cX2_readNumber 44 = .ok (.invokevirtual 46, 3) := by decide +kernel
theorem dX2_readNumber_47 : decode cX2_readNumber 47 = .ok (.iload_n 3, 1) := by decide +kernel
theorem dX2_readNumber_48 : decode cX2_readNumber 48 = .ok (.ireturn, 1) := by decide +kernel
theorem dX2_readSemicolon_0 : decode cX2_readSemicolon 0 = .ok (.aload_n 0, 1) := by decide +kernel
theorem dX2_readSemicolon_1 : decode cX2_readSemicolon 1 = .ok (.invokevirtual 32, 3) := by decide +kernel
theorem dX2_readSemicolon_4 : decode cX2_readSemicolon 4 = .ok (.aload_n 0, 1) := by decide +kernel
theorem dX2_readSemicolon_5 : decode cX2_readSemicolon 5 = .ok (.getfield 15, 3) := by decide +kernel
theorem dX2_readSemicolon_8 : decode cX2_readSemicolon 8 = .ok (.ifCond .ne 16, 3) := by decide +kernel
theorem dX2_readSemicolon_11 : decode cX2_readSemicolon 11 = .ok (.aload_n 0, 1) := by decide +kernel
theorem dX2_readSemicolon_12 : decode cX2_readSemicolon 12 = .ok (.getfield 35, 3) := by decide +kernel
theorem dX2_readSemicolon_15 : decode cX2_readSemicolon 15 = .ok (.iconst 3, 1) := by decide +kernel
theorem dX2_readSemicolon_16 : decode cX2_readSemicolon 16 = .ok (.if_icmp .eq 8, 3) := by decide +kernel
theorem dX2_readSemicolon_19 : decode cX2_readSemicolon 19 = .ok (.aload_n 0, 1) := by decide +kernel
theorem dX2_readSemicolon_20 : decode cX2_readSemicolon 20 = .ok (.iconst 2, 1) := by decide +kernel
theorem dX2_readSemicolon_21 : decode cX2_readSemicolon 21 = .ok (.invokevirtual 46, 3) := by decide +kernel
theorem dX2_readSemicolon_24 : decode cX2_readSemicolon 24 = .ok (.return_, 1) := by decide +kernel
theorem dX2_nextToken_0 : decode cX2_nextToken 0 = .ok (.aload_n 0, 1) := by decide +kernel
theorem dX2_nextToken_1 : decode cX2_nextToken 1 = .ok (.getfield 15, 3) := by decide +kernel
theorem dX2_nextToken_4 : decode cX2_nextToken 4 = .ok (.ifCond .eq 4, 3) := by decide +kernel
theorem dX2_nextToken_7 : decode cX2_nextToken 7 = .ok (.return_, 1) := by decide +kernel
theorem dX2_nextToken_8 : decode cX2_nextToken 8 = .ok (.aload_n 0, 1) := by decide +kernel
theorem dX2_nextToken_9 : decode cX2_nextToken 9 = .ok (.getfield 25, 3) := by decide +kernel
theorem dX2_nextToken_12 : decode cX2_nextToken 12 = .ok (.aload_n 0, 1) := by decide +kernel
theorem dX2_nextToken_13 : decode cX2_nextToken 13 = .ok (.getfield 83, 3) := by decide +kernel
theorem dX2_nextToken_16 : decode cX2_nextToken 16 = .ok (.if_icmp .ge 30, 3) := by decide +kernel
theorem dX2_nextToken_19 : decode cX2_nextToken 19 = .ok (.aload_n 0, 1) := by decide +kernel
theorem dX2_nextToken_20 : decode cX2_nextToken 20 = .ok (.getfield 9, 3) := by decide +kernel
theorem dX2_nextToken_23 : decode cX2_nextToken 23 = .ok (.aload_n 0, 1) := by decide +kernel
theorem dX2_nextToken_24 : decode cX2_nextToken 24 = .ok (.getfield 25, 3) := by decide +kernel
theorem dX2_nextToken_27 : decode cX2_nextToken 27 = .ok (.baload, 1) := by decide +kernel
theorem dX2_nextToken_28 : decode cX2_nextToken 28 = .ok (.bipush 32, 2) := by decide +kernel
theorem dX2_nextToken_30 : decode cX2_nextToken 30 = .ok (.if_icmp .ne 16, 3) := by decide +kernel
theorem dX2_nextToken_33 : decode cX2_nextToken 33 = .ok (.aload_n 0, 1) := by decide +kernel
theorem dX2_nextToken_34 : decode cX2_nextToken 34 = .ok (.dup, 1) := by decide +kernel
theorem dX2_nextToken_35 : decode cX2_nextToken 35 = .ok (.getfield 25, 3) := by decide +kernel
theorem dX2_nextToken_38 : decode cX2_nextToken 38 = .ok (.iconst 1, 1) := by decide +kernel
theorem dX2_nextToken_39 : decode cX2_nextToken 39 = .ok (.iadd, 1) := by decide +kernel
theorem dX2_nextToken_40 : decode cX2_nextToken 40 = .ok (.putfield 25, 3) := by decide +kernel
theorem dX2_nextToken_43 : decode cX2_nextToken 43 = .ok (.goto (-35), 3) := by decide +kernel
theorem dX2_nextToken_46 : decode cX2_nextToken 46 = .ok (.aload_n 0, 1) := by decide +kernel
theorem dX2_nextToken_47 : decode cX2_nextToken 47 = .ok (.aload_n 0, 1) := by decide +kernel
theorem dX2_nextToken_48 : decode cX2_nextToken 48 = .ok (.getfield 25, 3) := by decide +kernel
theorem dX2_nextToken_51 : decode cX2_nextToken 51 = .ok (.putfield 86, 3) := by decide +kernel
theorem dX2_nextToken_54 : decode cX2_nextToken 54 = .ok (.aload_n 0, 1) := by decide +kernel
theorem dX2_nextToken_55 : decode cX2_nextToken 55 = .ok (.getfield 25, 3) := by decide +kernel
theorem dX2_nextToken_58 : decode cX2_nextToken 58 = .ok (.aload_n 0, 1) := by decide +kernel
theorem dX2_nextToken_59 : decode cX2_nextToken 59 = .ok (.getfield 83, 3) := by decide +kernel
theorem dX2_nextToken_62 : decode cX2_nextToken 62 = .ok (.if_icmp .lt 11, 3) := by decide +kernel
theorem dX2_nextToken_65 : decode cX2_nextToken 65 = .ok (.aload_n 0, 1) := by decide +kernel
theorem dX2_nextToken_66 : decode cX2_nextToken 66 = .ok (.iconst 0, 1) := by decide +kernel
theorem dX2_nextToken_67 : decode cX2_nextToken 67 = .ok (.putfield 35, 3) := by decide +kernel
theorem dX2_nextToken_70 : decode cX2_nextToken 70 = .ok (.goto 112, 3) := by decide +kernel
theorem dX2_nextToken_73 : decode cX2_nextToken 73 = .ok (.aload_n 0, 1) := by decide +kernel
theorem dX2_nextToken_74 : decode cX2_nextToken 74 = .ok (.getfield 9, 3) := by decide +kernel
theorem dX2_nextToken_77 : decode cX2_nextToken 77 = .ok (.aload_n 0, 1) := by decide +kernel
theorem dX2_nextToken_78 : decode cX2_nextToken 78 = .ok (.getfield 25, 3) := by decide +kernel
theorem dX2_nextToken_81 : decode cX2_nextToken 81 = .ok (.baload, 1) := by decide +kernel
theorem dX2_nextToken_82 : decode cX2_nextToken 82 = .ok (.bipush 59, 2) := by decide +kernel
theorem dX2_nextToken_84 : decode cX2_nextToken 84 = .ok (.if_icmp .ne 21, 3) := by decide +kernel
theorem dX2_nextToken_87 : decode cX2_nextToken 87 = .ok (.aload_n 0, 1) := by decide +kernel
theorem dX2_nextToken_88 : decode cX2_nextToken 88 = .ok (.iconst 3, 1) := by decide +kernel
theorem dX2_nextToken_89 : decode cX2_nextToken 89 = .ok (.putfield 35, 3) := by decide +kernel
theorem dX2_nextToken_92 : decode cX2_nextToken 92 = .ok (.aload_n 0, 1) := by decide +kernel
theorem dX2_nextToken_93 : decode cX2_nextToken 93 = .ok (.dup, 1) := by decide +kernel
theorem dX2_nextToken_94 : decode cX2_nextToken 94 = .ok (.getfield 25, 3) := by decide +kernel
theorem dX2_nextToken_97 : decode cX2_nextToken 97 = .ok (.iconst 1, 1) := by decide +kernel
theorem dX2_nextToken_98 : decode cX2_nextToken 98 = .ok (.iadd, 1) := by decide +kernel
theorem dX2_nextToken_99 : decode cX2_nextToken 99 = .ok (.putfield 25, 3) := by decide +kernel
theorem dX2_nextToken_102 : decode cX2_nextToken 102 = .ok (.goto 80, 3) := by decide +kernel
theorem dX2_nextToken_105 : decode cX2_nextToken 105 = .ok (.aload_n 0, 1) := by decide +kernel
theorem dX2_nextToken_106 : decode cX2_nextToken 106 = .ok (.getfield 9, 3) := by decide +kernel
theorem dX2_nextToken_109 : decode cX2_nextToken 109 = .ok (.aload_n 0, 1) := by decide +kernel
theorem dX2_nextToken_110 : decode cX2_nextToken 110 = .ok (.getfield 25, 3) := by decide +kernel
theorem dX2_nextToken_113 : decode cX2_nextToken 113 = .ok (.baload, 1) := by decide +kernel
theorem dX2_nextToken_114 : decode cX2_nextToken 114 = .ok (.bipush 97, 2) := by decide +kernel
theorem dX2_nextToken_116 : decode cX2_nextToken 116 = .ok (.bipush 122, 2) := by decide +kernel
theorem dX2_nextToken_118 : decode cX2_nextToken 118 = .ok (.invokestatic 79, 3) := by decide +kernel
theorem dX2_nextToken_121 : decode cX2_nextToken 121 = .ok (.ifCond .eq 19, 3) := by decide +kernel
theorem dX2_nextToken_124 : decode cX2_nextToken 124 = .ok (.aload_n 0, 1) := by decide +kernel
theorem dX2_nextToken_125 : decode cX2_nextToken 125 = .ok (.iconst 1, 1) := by decide +kernel
theorem dX2_nextToken_126 : decode cX2_nextToken 126 = .ok (.putfield 35, 3) := by decide +kernel
theorem dX2_nextToken_129 : decode cX2_nextToken 129 = .ok (.aload_n 0, 1) := by decide +kernel
theorem dX2_nextToken_130 : decode cX2_nextToken 130 = .ok (.bipush 97, 2) := by decide +kernel
theorem dX2_nextToken_132 : decode cX2_nextToken 132 = .ok (.bipush 122, 2) := by decide +kernel
theorem dX2_nextToken_134 : decode cX2_nextToken 134 = .ok (.invokevirtual 89, 3) := by decide +kernel
theorem dX2_nextToken_137 : decode cX2_nextToken 137 = .ok (.goto 45, 3) := by decide +kernel
theorem dX2_nextToken_140 : decode cX2_nextToken 140 = .ok (.aload_n 0, 1) := by decide +kernel
theorem dX2_nextToken_141 : decode cX2_nextToken 141 = .ok (.iconst 2, 1) := by decide +kernel
theorem dX2_nextToken_142 : decode cX2_nextToken 142 = .ok (.putfield 35, 3) := by decide +kernel
theorem dX2_nextToken_145 : decode cX2_nextToken 145 = .ok (.aload_n 0, 1) := by decide +kernel
theorem dX2_nextToken_146 : decode cX2_nextToken 146 = .ok (.bipush 48, 2) := by decide +kernel
theorem dX2_nextToken_148 : decode cX2_nextToken 148 = .ok (.bipush 57, 2) := by decide +kernel
theorem dX2_nextToken_150 : decode cX2_nextToken 150 = .ok (.invokevirtual 89, 3) := by decide +kernel
theorem dX2_nextToken_153 : decode cX2_nextToken 153 = .ok (.aload_n 0, 1) := by decide +kernel
theorem dX2_nextToken_154 : decode cX2_nextToken 154 = .ok (.getfield 25, 3) := by decide +kernel
theorem dX2_nextToken_157 : decode cX2_nextToken 157 = .ok (.aload_n 0, 1) := by decide +kernel
theorem dX2_nextToken_158 : decode cX2_nextToken 158 = .ok (.getfield 86, 3) := by decide +kernel
theorem dX2_nextToken_161 : decode cX2_nextToken 161 = .ok (.if_icmp .eq 16, 3) := by decide +kernel
theorem dX2_nextToken_164 : decode cX2_nextToken 164 = .ok (.aload_n 0, 1) := by decide +kernel
theorem dX2_nextToken_165 : decode cX2_nextToken 165 = .ok (.getfield 25, 3) := by decide +kernel
theorem dX2_nextToken_168 : decode cX2_nextToken 168 = .ok (.aload_n 0, 1) := by decide +kernel
theorem dX2_nextToken_169 : decode cX2_nextToken 169 = .ok (.getfield 86, 3) := by decide +kernel
theorem dX2_nextToken_172 : decode cX2_nextToken 172 = .ok (.isub, 1) := by decide +kernel
theorem dX2_nextToken_173 : decode cX2_nextToken 173 = .ok (.iconst 2, 1) := by decide +kernel
theorem dX2_nextToken_174 : decode cX2_nextToken 174 = .ok (.if_icmp .le 8, 3) := by decide +kernel
theorem dX2_nextToken_177 : decode cX2_nextToken 177 = .ok (.aload_n 0, 1) := by decide +kernel
theorem dX2_nextToken_178 : decode cX2_nextToken 178 = .ok (.iconst 1, 1) := by decide +kernel
theorem dX2_nextToken_179 : decode cX2_nextToken 179 = .ok (.invokevirtual 46, 3) := by decide +kernel
theorem dX2_nextToken_182 : decode cX2_nextToken 182 = .ok (.return_, 1) := by decide +kernel
theorem dX2_passBytes_0 : decode cX2_passBytes 0 = .ok (.aload_n 0, 1) := by decide +kernel
theorem dX2_passBytes_1 : decode cX2_passBytes 1 = .ok (.getfield 25, 3) := by decide +kernel
theorem dX2_passBytes_4 : decode cX2_passBytes 4 = .ok (.aload_n 0, 1) := by decide +kernel
theorem dX2_passBytes_5 : decode cX2_passBytes 5 = .ok (.getfield 83, 3) := by decide +kernel
theorem dX2_passBytes_8 : decode cX2_passBytes 8 = .ok (.if_icmp .ge 42, 3) := by decide +kernel
theorem dX2_passBytes_11 : decode cX2_passBytes 11 = .ok (.aload_n 0, 1) := by decide +kernel
theorem dX2_passBytes_12 : decode cX2_passBytes 12 = .ok (.getfield 9, 3) := by decide +kernel
theorem dX2_passBytes_15 : decode cX2_passBytes 15 = .ok (.aload_n 0, 1) := by decide +kernel
theorem dX2_passBytes_16 : decode cX2_passBytes 16 = .ok (.getfield 25, 3) := by decide +kernel
theorem dX2_passBytes_19 : decode cX2_passBytes 19 = .ok (.baload, 1) := by decide +kernel
theorem dX2_passBytes_20 : decode cX2_passBytes 20 = .ok (.iload_n 1, 1) := by decide +kernel
theorem dX2_passBytes_21 : decode cX2_passBytes 21 = .ok (.if_icmp .lt 29, 3) := by decide +kernel
theorem dX2_passBytes_24 : decode cX2_passBytes 24 = .ok (.aload_n 0, 1) := by decide +kernel
theorem dX2_passBytes_25 : decode cX2_passBytes 25 = .ok (.getfield 9, 3) := by decide +kernel
theorem dX2_passBytes_28 : decode cX2_passBytes 28 = .ok (.aload_n 0, 1) := by decide +kernel
theorem dX2_passBytes_29 : decode cX2_passBytes 29 = .ok (.getfield 25, 3) := by decide +kernel
theorem dX2_passBytes_32 : decode cX2_passBytes 32 = .ok (.baload, 1) := by decide +kernel
theorem dX2_passBytes_33 : decode cX2_passBytes 33 = .ok (.iload_n 2, 1) := by decide +kernel
theorem dX2_passBytes_34 : decode cX2_passBytes 34 = .ok (.if_icmp .gt 16, 3) := by decide +kernel
theorem dX2_passBytes_37 : decode cX2_passBytes 37 = .ok (.aload_n 0, 1) := by decide +kernel
theorem dX2_passBytes_38 : decode cX2_passBytes 38 = .ok (.dup, 1) := by decide +kernel
theorem dX2_passBytes_39 : decode cX2_passBytes 39 = .ok (.getfield 25, 3) := by decide +kernel
theorem dX2_passBytes_42 : decode cX2_passBytes 42 = .ok (.iconst 1, 1) := by decide +kernel
theorem dX2_passBytes_43 : decode cX2_passBytes 43 = .ok (.iadd, 1) := by decide +kernel
theorem dX2_passBytes_44 : decode cX2_passBytes 44 = .ok (.putfield 25, 3) := by decide +kernel
theorem dX2_passBytes_47 : decode cX2_passBytes 47 = .ok (.goto (-47), 3) := by decide +kernel
theorem dX2_passBytes_50 : decode cX2_passBytes 50 = .ok (.return_, 1) := by decide +kernel
theorem dX2_numberRead_0 : decode cX2_numberRead 0 = .ok (.iconst 0, 1) := by decide +kernel
theorem dX2_numberRead_1 : decode cX2_numberRead 1 = .ok (.istore_n 1, 1) := by decide +kernel
theorem dX2_numberRead_2 : decode cX2_numberRead 2 = .ok (.aload_n 0, 1) := by decide +kernel
theorem dX2_numberRead_3 : decode cX2_numberRead 3 = .ok (.getfield 86, 3) := by decide +kernel
theorem dX2_numberRead_6 : decode cX2_numberRead 6 = .ok (.istore_n 2, 1) := by decide +kernel
theorem dX2_numberRead_7 : decode cX2_numberRead 7 = .ok (.iload_n 2, 1) := by decide +kernel
theorem dX2_numberRead_8 : decode cX2_numberRead 8 = .ok (.aload_n 0, 1) := by decide +kernel
theorem dX2_numberRead_9 : decode cX2_numberRead 9 = .ok (.getfield 25, 3) := by decide +kernel
theorem dX2_numberRead_12 : decode cX2_numberRead 12 = .ok (.if_icmp .ge 24, 3) := by decide +kernel
theorem dX2_numberRead_15 : decode cX2_numberRead 15 = .ok (.iload_n 1, 1) := by decide +kernel
theorem dX2_numberRead_16 : decode cX2_numberRead 16 = .ok (.bipush 10, 2) := by decide +kernel
theorem dX2_numberRead_18 : decode cX2_numberRead 18 = .ok (.imul, 1) := by decide +kernel
theorem dX2_numberRead_19 : decode cX2_numberRead 19 = .ok (.aload_n 0, 1) := by decide +kernel
theorem dX2_numberRead_20 : decode cX2_numberRead 20 = .ok (.getfield 9, 3) := by decide +kernel
theorem dX2_numberRead_23 : decode cX2_numberRead 23 = .ok (.iload_n 2, 1) := by decide +kernel
theorem dX2_numberRead_24 : decode cX2_numberRead 24 = .ok (.baload, 1) := by decide +kernel
theorem dX2_numberRead_25 : decode cX2_numberRead 25 = .ok (.iadd, 1) := by decide +kernel
theorem dX2_numberRead_26 : decode cX2_numberRead 26 = .ok (.bipush 48, 2) := by decide +kernel
theorem dX2_numberRead_28 : decode cX2_numberRead 28 = .ok (.isub, 1) := by decide +kernel
theorem dX2_numberRead_29 : decode cX2_numberRead 29 = .ok (.istore_n 1, 1) := by decide +kernel
theorem dX2_numberRead_30 : decode cX2_numberRead 30 = .ok (.iinc 2 1, 3) := by decide +kernel
theorem dX2_numberRead_33 : decode cX2_numberRead 33 = .ok (.goto (-26), 3) := by decide +kernel
theorem dX2_numberRead_36 : decode cX2_numberRead 36 = .ok (.iload_n 1, 1) := by decide +kernel
theorem dX2_numberRead_37 : decode cX2_numberRead 37 = .ok (.ireturn, 1) := by decide +kernel
theorem dX2_lineNamed_0 : decode cX2_lineNamed 0 = .ok (.aload_n 0, 1) := by decide +kernel
theorem dX2_lineNamed_1 : decode cX2_lineNamed 1 = .ok (.ldc 93, 2) := by decide +kernel
theorem dX2_lineNamed_3 : decode cX2_lineNamed 3 = .ok (.invokevirtual 95, 3) := by decide +kernel
theorem dX2_lineNamed_6 : decode cX2_lineNamed 6 = .ok (.ifCond .eq 5, 3) := by decide +kernel
theorem dX2_lineNamed_9 : decode cX2_lineNamed 9 = .ok (.iconst 0, 1) := by decide +kernel
theorem dX2_lineNamed_10 : decode cX2_lineNamed 10 = .ok (.ireturn, 1) := by decide +kernel
theorem dX2_lineNamed_11 : decode cX2_lineNamed 11 = .ok (.aload_n 0, 1) := by decide +kernel
theorem dX2_lineNamed_12 : decode cX2_lineNamed 12 = .ok (.ldc 99, 2) := by decide +kernel
theorem dX2_lineNamed_14 : decode cX2_lineNamed 14 = .ok (.invokevirtual 95, 3) := by decide +kernel
theorem dX2_lineNamed_17 : decode cX2_lineNamed 17 = .ok (.ifCond .eq 5, 3) := by decide +kernel
theorem dX2_lineNamed_20 : decode cX2_lineNamed 20 = .ok (.iconst 1, 1) := by decide +kernel
theorem dX2_lineNamed_21 : decode cX2_lineNamed 21 = .ok (.ireturn, 1) := by decide +kernel
theorem dX2_lineNamed_22 : decode cX2_lineNamed 22 = .ok (.aload_n 0, 1) := by decide +kernel
theorem dX2_lineNamed_23 : decode cX2_lineNamed 23 = .ok (.ldc 101, 2) := by decide +kernel
theorem dX2_lineNamed_25 : decode cX2_lineNamed 25 = .ok (.invokevirtual 95, 3) := by decide +kernel
theorem dX2_lineNamed_28 : decode cX2_lineNamed 28 = .ok (.ifCond .eq 5, 3) := by decide +kernel
theorem dX2_lineNamed_31 : decode cX2_lineNamed 31 = .ok (.iconst 2, 1) := by decide +kernel
theorem dX2_lineNamed_32 : decode cX2_lineNamed 32 = .ok (.ireturn, 1) := by decide +kernel
theorem dX2_lineNamed_33 : decode cX2_lineNamed 33 = .ok (.aload_n 0, 1) := by decide +kernel
theorem dX2_lineNamed_34 : decode cX2_lineNamed 34 = .ok (.ldc 103, 2) := by decide +kernel
theorem dX2_lineNamed_36 : decode cX2_lineNamed 36 = .ok (.invokevirtual 95, 3) := by decide +kernel
theorem dX2_lineNamed_39 : decode cX2_lineNamed 39 = .ok (.ifCond .eq 5, 3) := by decide +kernel
theorem dX2_lineNamed_42 : decode cX2_lineNamed 42 = .ok (.iconst 3, 1) := by decide +kernel
theorem dX2_lineNamed_43 : decode cX2_lineNamed 43 = .ok (.ireturn, 1) := by decide +kernel
theorem dX2_lineNamed_44 : decode cX2_lineNamed 44 = .ok (.aload_n 0, 1) := by decide +kernel
theorem dX2_lineNamed_45 : decode cX2_lineNamed 45 = .ok (.ldc 105, 2) := by decide +kernel
theorem dX2_lineNamed_47 : decode cX2_lineNamed 47 = .ok (.invokevirtual 95, 3) := by decide +kernel
theorem dX2_lineNamed_50 : decode cX2_lineNamed 50 = .ok (.ifCond .eq 7, 3) := by decide +kernel
theorem dX2_lineNamed_53 : decode cX2_lineNamed 53 = .ok (.iconst 4, 1) := by decide +kernel
theorem dX2_lineNamed_54 : decode cX2_lineNamed 54 = .ok (.goto 4, 3) := by decide +kernel
theorem dX2_lineNamed_57 : decode cX2_lineNamed 57 = .ok (.iconst 5, 1) := by decide +kernel
theorem dX2_lineNamed_58 : decode cX2_lineNamed 58 = .ok (.ireturn, 1) := by decide +kernel
theorem dX2_isName_0 : decode cX2_isName 0 = .ok (.aload_n 0, 1) := by decide +kernel
theorem dX2_isName_1 : decode cX2_isName 1 = .ok (.getfield 35, 3) := by decide +kernel
theorem dX2_isName_4 : decode cX2_isName 4 = .ok (.iconst 1, 1) := by decide +kernel
theorem dX2_isName_5 : decode cX2_isName 5 = .ok (.if_icmp .ne 19, 3) := by decide +kernel
theorem dX2_isName_8 : decode cX2_isName 8 = .ok (.aload_n 0, 1) := by decide +kernel
theorem dX2_isName_9 : decode cX2_isName 9 = .ok (.getfield 25, 3) := by decide +kernel
theorem dX2_isName_12 : decode cX2_isName 12 = .ok (.aload_n 0, 1) := by decide +kernel
theorem dX2_isName_13 : decode cX2_isName 13 = .ok (.getfield 86, 3) := by decide +kernel
theorem dX2_isName_16 : decode cX2_isName 16 = .ok (.isub, 1) := by decide +kernel
theorem dX2_isName_17 : decode cX2_isName 17 = .ok (.aload_n 1, 1) := by decide +kernel
theorem dX2_isName_18 : decode cX2_isName 18 = .ok (.invokevirtual 106, 3) := by decide +kernel
theorem dX2_isName_21 : decode cX2_isName 21 = .ok (.if_icmp .eq 5, 3) := by decide +kernel
theorem dX2_isName_24 : decode cX2_isName 24 = .ok (.iconst 0, 1) := by decide +kernel
theorem dX2_isName_25 : decode cX2_isName 25 = .ok (.ireturn, 1) := by decide +kernel
theorem dX2_isName_26 : decode cX2_isName 26 = .ok (.iconst 0, 1) := by decide +kernel
theorem dX2_isName_27 : decode cX2_isName 27 = .ok (.istore_n 2, 1) := by decide +kernel
theorem dX2_isName_28 : decode cX2_isName 28 = .ok (.iload_n 2, 1) := by decide +kernel
theorem dX2_isName_29 : decode cX2_isName 29 = .ok (.aload_n 1, 1) := by decide +kernel
theorem dX2_isName_30 : decode cX2_isName 30 = .ok (.invokevirtual 106, 3) := by decide +kernel
theorem dX2_isName_33 : decode cX2_isName 33 = .ok (.if_icmp .ge 30, 3) := by decide +kernel
theorem dX2_isName_36 : decode cX2_isName 36 = .ok (.aload_n 0, 1) := by decide +kernel
theorem dX2_isName_37 : decode cX2_isName 37 = .ok (.getfield 9, 3) := by decide +kernel
theorem dX2_isName_40 : decode cX2_isName 40 = .ok (.aload_n 0, 1) := by decide +kernel
theorem dX2_isName_41 : decode cX2_isName 41 = .ok (.getfield 86, 3) := by decide +kernel
theorem dX2_isName_44 : decode cX2_isName 44 = .ok (.iload_n 2, 1) := by decide +kernel
theorem dX2_isName_45 : decode cX2_isName 45 = .ok (.iadd, 1) := by decide +kernel
theorem dX2_isName_46 : decode cX2_isName 46 = .ok (.baload, 1) := by decide +kernel
theorem dX2_isName_47 : decode cX2_isName 47 = .ok (.aload_n 1, 1) := by decide +kernel
theorem dX2_isName_48 : decode cX2_isName 48 = .ok (.iload_n 2, 1) := by decide +kernel
theorem dX2_isName_49 : decode cX2_isName 49 = .ok (.invokevirtual 110, 3) := by decide +kernel
theorem dX2_isName_52 : decode cX2_isName 52 = .ok (.if_icmp .eq 5, 3) := by decide +kernel
theorem dX2_isName_55 : decode cX2_isName 55 = .ok (.iconst 0, 1) := by decide +kernel
theorem dX2_isName_56 : decode cX2_isName 56 = .ok (.ireturn, 1) := by decide +kernel
theorem dX2_isName_57 : decode cX2_isName 57 = .ok (.iinc 2 1, 3) := by decide +kernel
theorem dX2_isName_60 : decode cX2_isName 60 = .ok (.goto (-32), 3) := by decide +kernel
theorem dX2_isName_63 : decode cX2_isName 63 = .ok (.iconst 1, 1) := by decide +kernel
theorem dX2_isName_64 : decode cX2_isName 64 = .ok (.ireturn, 1) := by decide +kernel
theorem dX2_refuse_0 : decode cX2_refuse 0 = .ok (.aload_n 0, 1) := by decide +kernel
theorem dX2_refuse_1 : decode cX2_refuse 1 = .ok (.iload_n 1, 1) := by decide +kernel
theorem dX2_refuse_2 : decode cX2_refuse 2 = .ok (.putfield 15, 3) := by decide +kernel
theorem dX2_refuse_5 : decode cX2_refuse 5 = .ok (.aload_n 0, 1) := by decide +kernel
theorem dX2_refuse_6 : decode cX2_refuse 6 = .ok (.aload_n 0, 1) := by decide +kernel
theorem dX2_refuse_7 : decode cX2_refuse 7 = .ok (.getfield 86, 3) := by decide +kernel
theorem dX2_refuse_10 : decode cX2_refuse 10 = .ok (.putfield 19, 3) := by decide +kernel
theorem dX2_refuse_13 : decode cX2_refuse 13 = .ok (.return_, 1) := by decide +kernel
theorem dX3_init_0 : decode cX3_init 0 = .ok (.aload_n 0, 1) := by decide +kernel
theorem dX3_init_1 : decode cX3_init 1 = .ok (.invokespecial 3, 3) := by decide +kernel
theorem dX3_init_4 : decode cX3_init 4 = .ok (.aload_n 0, 1) := by decide +kernel
theorem dX3_init_5 : decode cX3_init 5 = .ok (.bipush 6, 2) := by decide +kernel
theorem dX3_init_7 : decode cX3_init 7 = .ok (.newarray .int, 2) := by decide +kernel
theorem dX3_init_9 : decode cX3_init 9 = .ok (.putfield 9, 3) := by decide +kernel
theorem dX3_init_12 : decode cX3_init 12 = .ok (.aload_n 0, 1) := by decide +kernel
theorem dX3_init_13 : decode cX3_init 13 = .ok (.bipush 6, 2) := by decide +kernel
theorem dX3_init_15 : decode cX3_init 15 = .ok (.newarray .int, 2) := by decide +kernel
theorem dX3_init_17 : decode cX3_init 17 = .ok (.putfield 15, 3) := by decide +kernel
theorem dX3_init_20 : decode cX3_init 20 = .ok (.aload_n 0, 1) := by decide +kernel
theorem dX3_init_21 : decode cX3_init 21 = .ok (.bipush 6, 2) := by decide +kernel
theorem dX3_init_23 : decode cX3_init 23 = .ok (.newarray .int, 2) := by decide +kernel
theorem dX3_init_25 : decode cX3_init 25 = .ok (.putfield 18, 3) := by decide +kernel
theorem dX3_init_28 : decode cX3_init 28 = .ok (.return_, 1) := by decide +kernel
theorem dX3_add_0 : decode cX3_add 0 = .ok (.aload_n 0, 1) := by decide +kernel
theorem dX3_add_1 : decode cX3_add 1 = .ok (.getfield 21, 3) := by decide +kernel
theorem dX3_add_4 : decode cX3_add 4 = .ok (.bipush 6, 2) := by decide +kernel
theorem dX3_add_6 : decode cX3_add 6 = .ok (.if_icmp .lt 4, 3) := by decide +kernel
theorem dX3_add_9 : decode cX3_add 9 = .ok (.return_, 1) := by decide +kernel
theorem dX3_add_10 : decode cX3_add 10 = .ok (.aload_n 0, 1) := by decide +kernel
theorem dX3_add_11 : decode cX3_add 11 = .ok (.getfield 9, 3) := by decide +kernel
theorem dX3_add_14 : decode cX3_add 14 = .ok (.aload_n 0, 1) := by decide +kernel
theorem dX3_add_15 : decode cX3_add 15 = .ok (.getfield 21, 3) := by decide +kernel
theorem dX3_add_18 : decode cX3_add 18 = .ok (.iload_n 1, 1) := by decide +kernel
theorem dX3_add_19 : decode cX3_add 19 = .ok (.iastore, 1) := by decide +kernel
theorem dX3_add_20 : decode cX3_add 20 = .ok (.aload_n 0, 1) := by decide +kernel
theorem dX3_add_21 : decode cX3_add 21 = .ok (.getfield 15, 3) := by decide +kernel
theorem dX3_add_24 : decode cX3_add 24 = .ok (.aload_n 0, 1) := by decide +kernel
theorem dX3_add_25 : decode cX3_add 25 = .ok (.getfield 21, 3) := by decide +kernel
theorem dX3_add_28 : decode cX3_add 28 = .ok (.iload_n 2, 1) := by decide +kernel
theorem dX3_add_29 : decode cX3_add 29 = .ok (.iastore, 1) := by decide +kernel
theorem dX3_add_30 : decode cX3_add 30 = .ok (.aload_n 0, 1) := by decide +kernel
theorem dX3_add_31 : decode cX3_add 31 = .ok (.getfield 18, 3) := by decide +kernel
theorem dX3_add_34 : decode cX3_add 34 = .ok (.aload_n 0, 1) := by decide +kernel
theorem dX3_add_35 : decode cX3_add 35 = .ok (.getfield 21, 3) := by decide +kernel
theorem dX3_add_38 : decode cX3_add 38 = .ok (.iload_n 3, 1) := by decide +kernel
theorem dX3_add_39 : decode cX3_add 39 = .ok (.iastore, 1) := by decide +kernel
theorem dX3_add_40 : decode cX3_add 40 = .ok (.aload_n 0, 1) := by decide +kernel
theorem dX3_add_41 : decode cX3_add 41 = .ok (.dup, 1) := by decide +kernel
theorem dX3_add_42 : decode cX3_add 42 = .ok (.getfield 21, 3) := by decide +kernel
theorem dX3_add_45 : decode cX3_add 45 = .ok (.iconst 1, 1) := by decide +kernel
theorem dX3_add_46 : decode cX3_add 46 = .ok (.iadd, 1) := by decide +kernel
theorem dX3_add_47 : decode cX3_add 47 = .ok (.putfield 21, 3) := by decide +kernel
theorem dX3_add_50 : decode cX3_add 50 = .ok (.return_, 1) := by decide +kernel
theorem dX3_fits_0 : decode cX3_fits 0 = .ok (.aload_n 0, 1) := by decide +kernel
theorem dX3_fits_1 : decode cX3_fits 1 = .ok (.invokevirtual 25, 3) := by decide +kernel
theorem dX3_fits_4 : decode cX3_fits 4 = .ok (.istore_n 2, 1) := by decide +kernel
theorem dX3_fits_5 : decode cX3_fits 5 = .ok (.iconst 0, 1) := by decide +kernel
theorem dX3_fits_6 : decode cX3_fits 6 = .ok (.istore_n 3, 1) := by decide +kernel
theorem dX3_fits_7 : decode cX3_fits 7 = .ok (.iload_n 3, 1) := by decide +kernel
theorem dX3_fits_8 : decode cX3_fits 8 = .ok (.iload_n 2, 1) := by decide +kernel
theorem dX3_fits_9 : decode cX3_fits 9 = .ok (.if_icmp .gt 24, 3) := by decide +kernel
theorem dX3_fits_12 : decode cX3_fits 12 = .ok (.aload_n 0, 1) := by decide +kernel
theorem dX3_fits_13 : decode cX3_fits 13 = .ok (.iload_n 3, 1) := by decide +kernel
theorem dX3_fits_14 : decode cX3_fits 14 = .ok (.aload_n 1, 1) := by decide +kernel
theorem dX3_fits_15 : decode cX3_fits 15 = .ok (.iconst 0, 1) := by decide +kernel
theorem dX3_fits_16 : decode cX3_fits 16 = .ok (.invokevirtual 29, 3) := by decide +kernel
theorem dX3_fits_19 : decode cX3_fits 19 = .ok (.invokevirtual 35, 3) := by decide +kernel
theorem dX3_fits_22 : decode cX3_fits 22 = .ok (.ifCond .ne 5, 3) := by decide +kernel
theorem dX3_fits_25 : decode cX3_fits 25 = .ok (.iconst 0, 1) := by decide +kernel
theorem dX3_fits_26 : decode cX3_fits 26 = .ok (.ireturn, 1) := by decide +kernel
theorem dX3_fits_27 : decode cX3_fits 27 = .ok (.iinc 3 1, 3) := by decide +kernel
theorem dX3_fits_30 : decode cX3_fits 30 = .ok (.goto (-23), 3) := by decide +kernel
theorem dX3_fits_33 : decode cX3_fits 33 = .ok (.iconst 1, 1) := by decide +kernel
theorem dX3_fits_34 : decode cX3_fits 34 = .ok (.ireturn, 1) := by decide +kernel
theorem dX3_fitsIn_0 : decode cX3_fitsIn 0 = .ok (.iconst 0, 1) := by decide +kernel
theorem dX3_fitsIn_1 : decode cX3_fitsIn 1 = .ok (.istore_n 3, 1) := by decide +kernel
theorem dX3_fitsIn_2 : decode cX3_fitsIn 2 = .ok (.iload_n 3, 1) := by decide +kernel
theorem dX3_fitsIn_3 : decode cX3_fitsIn 3 = .ok (.aload_n 0, 1) := by decide +kernel
theorem dX3_fitsIn_4 : decode cX3_fitsIn 4 = .ok (.getfield 21, 3) := by decide +kernel
theorem dX3_fitsIn_7 : decode cX3_fitsIn 7 = .ok (.if_icmp .ge 40, 3) := by decide +kernel
theorem dX3_fitsIn_10 : decode cX3_fitsIn 10 = .ok (.aload_n 0, 1) := by decide +kernel
theorem dX3_fitsIn_11 : decode cX3_fitsIn 11 = .ok (.getfield 9, 3) := by decide +kernel
theorem dX3_fitsIn_14 : decode cX3_fitsIn 14 = .ok (.iload_n 3, 1) := by decide +kernel
theorem dX3_fitsIn_15 : decode cX3_fitsIn 15 = .ok (.iaload, 1) := by decide +kernel
theorem dX3_fitsIn_16 : decode cX3_fitsIn 16 = .ok (.iload_n 1, 1) := by decide +kernel
theorem dX3_fitsIn_17 : decode cX3_fitsIn 17 = .ok (.if_icmp .ne 24, 3) := by decide +kernel
theorem dX3_fitsIn_20 : decode cX3_fitsIn 20 = .ok (.iload_n 2, 1) := by decide +kernel
theorem dX3_fitsIn_21 : decode cX3_fitsIn 21 = .ok (.aload_n 0, 1) := by decide +kernel
theorem dX3_fitsIn_22 : decode cX3_fitsIn 22 = .ok (.getfield 15, 3) := by decide +kernel
theorem dX3_fitsIn_25 : decode cX3_fitsIn 25 = .ok (.iload_n 3, 1) := by decide +kernel
theorem dX3_fitsIn_26 : decode cX3_fitsIn 26 = .ok (.iaload, 1) := by decide +kernel
theorem dX3_fitsIn_27 : decode cX3_fitsIn 27 = .ok (.ishr, 1) := by decide +kernel
theorem dX3_fitsIn_28 : decode cX3_fitsIn 28 = .ok (.iconst 1, 1) := by decide +kernel
theorem dX3_fitsIn_29 : decode cX3_fitsIn 29 = .ok (.iand, 1) := by decide +kernel
theorem dX3_fitsIn_30 : decode cX3_fitsIn 30 = .ok (.aload_n 0, 1) := by decide +kernel
theorem dX3_fitsIn_31 : decode cX3_fitsIn 31 = .ok (.getfield 18, 3) := by decide +kernel
theorem dX3_fitsIn_34 : decode cX3_fitsIn 34 = .ok (.iload_n 3, 1) := by decide +kernel
theorem dX3_fitsIn_35 : decode cX3_fitsIn 35 = .ok (.iaload, 1) := by decide +kernel
theorem dX3_fitsIn_36 : decode cX3_fitsIn 36 = .ok (.if_icmp .eq 5, 3) := by decide +kernel
theorem dX3_fitsIn_39 : decode cX3_fitsIn 39 = .ok (.iconst 0, 1) := by decide +kernel
theorem dX3_fitsIn_40 : decode cX3_fitsIn 40 = .ok (.ireturn, 1) := by decide +kernel
theorem dX3_fitsIn_41 : decode cX3_fitsIn 41 = .ok (.iinc 3 1, 3) := by decide +kernel
theorem dX3_fitsIn_44 : decode cX3_fitsIn 44 = .ok (.goto (-42), 3) := by decide +kernel
theorem dX3_fitsIn_47 : decode cX3_fitsIn 47 = .ok (.iconst 1, 1) := by decide +kernel
theorem dX3_fitsIn_48 : decode cX3_fitsIn 48 = .ok (.ireturn, 1) := by decide +kernel
theorem dX3_lastTick_0 : decode cX3_lastTick 0 = .ok (.iconst (-1), 1) := by decide +kernel
theorem dX3_lastTick_1 : decode cX3_lastTick 1 = .ok (.istore_n 1, 1) := by decide +kernel
theorem dX3_lastTick_2 : decode cX3_lastTick 2 = .ok (.iconst 0, 1) := by decide +kernel
theorem dX3_lastTick_3 : decode cX3_lastTick 3 = .ok (.istore_n 2, 1) := by decide +kernel
theorem dX3_lastTick_4 : decode cX3_lastTick 4 = .ok (.iload_n 2, 1) := by decide +kernel
theorem dX3_lastTick_5 : decode cX3_lastTick 5 = .ok (.aload_n 0, 1) := by decide +kernel
theorem dX3_lastTick_6 : decode cX3_lastTick 6 = .ok (.getfield 21, 3) := by decide +kernel
theorem dX3_lastTick_9 : decode cX3_lastTick 9 = .ok (.if_icmp .ge 20, 3) := by decide +kernel
theorem dX3_lastTick_12 : decode cX3_lastTick 12 = .ok (.iload_n 1, 1) := by decide +kernel
theorem dX3_lastTick_13 : decode cX3_lastTick 13 = .ok (.aload_n 0, 1) := by decide +kernel
theorem dX3_lastTick_14 : decode cX3_lastTick 14 = .ok (.getfield 9, 3) := by decide +kernel
theorem dX3_lastTick_17 : decode cX3_lastTick 17 = .ok (.iload_n 2, 1) := by decide +kernel
theorem dX3_lastTick_18 : decode cX3_lastTick 18 = .ok (.iaload, 1) := by decide +kernel
theorem dX3_lastTick_19 : decode cX3_lastTick 19 = .ok (.invokestatic 39, 3) := by decide +kernel
theorem dX3_lastTick_22 : decode cX3_lastTick 22 = .ok (.istore_n 1, 1) := by decide +kernel
theorem dX3_lastTick_23 : decode cX3_lastTick 23 = .ok (.iinc 2 1, 3) := by decide +kernel
theorem dX3_lastTick_26 : decode cX3_lastTick 26 = .ok (.goto (-22), 3) := by decide +kernel
theorem dX3_lastTick_29 : decode cX3_lastTick 29 = .ok (.iload_n 1, 1) := by decide +kernel
theorem dX3_lastTick_30 : decode cX3_lastTick 30 = .ok (.ireturn, 1) := by decide +kernel
theorem dX4_init_0 : decode cX4_init 0 = .ok (.aload_n 0, 1) := by decide +kernel
theorem dX4_init_1 : decode cX4_init 1 = .ok (.invokespecial 3, 3) := by decide +kernel
theorem dX4_init_4 : decode cX4_init 4 = .ok (.aload_n 0, 1) := by decide +kernel
theorem dX4_init_5 : decode cX4_init 5 = .ok (.bipush 40, 2) := by decide +kernel
theorem dX4_init_7 : decode cX4_init 7 = .ok (.newarray .int, 2) := by decide +kernel
theorem dX4_init_9 : decode cX4_init 9 = .ok (.putfield 9, 3) := by decide +kernel
theorem dX4_init_12 : decode cX4_init 12 = .ok (.aload_n 0, 1) := by decide +kernel
theorem dX4_init_13 : decode cX4_init 13 = .ok (.iconst (-1), 1) := by decide +kernel
theorem dX4_init_14 : decode cX4_init 14 = .ok (.putfield 15, 3) := by decide +kernel
theorem dX4_init_17 : decode cX4_init 17 = .ok (.return_, 1) := by decide +kernel
theorem dX4_begin_0 : decode cX4_begin 0 = .ok (.aload_n 0, 1) := by decide +kernel
theorem dX4_begin_1 : decode cX4_begin 1 = .ok (.iload_n 1, 1) := by decide +kernel
theorem dX4_begin_2 : decode cX4_begin 2 = .ok (.putfield 15, 3) := by decide +kernel
theorem dX4_begin_5 : decode cX4_begin 5 = .ok (.aload_n 0, 1) := by decide +kernel
theorem dX4_begin_6 : decode cX4_begin 6 = .ok (.iload_n 2, 1) := by decide +kernel
theorem dX4_begin_7 : decode cX4_begin 7 = .ok (.putfield 19, 3) := by decide +kernel
theorem dX4_begin_10 : decode cX4_begin 10 = .ok (.aload_n 0, 1) := by decide +kernel
theorem dX4_begin_11 : decode cX4_begin 11 = .ok (.getfield 9, 3) := by decide +kernel
theorem dX4_begin_14 : decode cX4_begin 14 = .ok (.iconst 0, 1) := by decide +kernel
theorem dX4_begin_15 : decode cX4_begin 15 = .ok (.invokestatic 22, 3) := by decide +kernel
theorem dX4_begin_18 : decode cX4_begin 18 = .ok (.return_, 1) := by decide +kernel
theorem dX4_faultAt_0 : decode cX4_faultAt 0 = .ok (.aload_n 0, 1) := by decide +kernel
theorem dX4_faultAt_1 : decode cX4_faultAt 1 = .ok (.getfield 15, 3) := by decide +kernel
theorem dX4_faultAt_4 : decode cX4_faultAt 4 = .ok (.iconst (-1), 1) := by decide +kernel
theorem dX4_faultAt_5 : decode cX4_faultAt 5 = .ok (.if_icmp .ne 5, 3) := by decide +kernel
theorem dX4_faultAt_8 : decode cX4_faultAt 8 = .ok (.iconst 1, 1) := by decide +kernel
theorem dX4_faultAt_9 : decode cX4_faultAt 9 = .ok (.ireturn, 1) := by decide +kernel
theorem dX4_faultAt_10 : decode cX4_faultAt 10 = .ok (.iload_n 1, 1) := by decide +kernel
theorem dX4_faultAt_11 : decode cX4_faultAt 11 = .ok (.ifCond .lt 11, 3) := by decide +kernel
theorem dX4_faultAt_14 : decode cX4_faultAt 14 = .ok (.iload_n 1, 1) := by decide +kernel
theorem dX4_faultAt_15 : decode cX4_faultAt 15 = .ok (.aload_n 0, 1) := by decide +kernel
theorem dX4_faultAt_16 : decode cX4_faultAt 16 = .ok (.getfield 19, 3) := by decide +kernel
theorem dX4_faultAt_19 : decode cX4_faultAt 19 = .ok (.if_icmp .lt 7, 3) := by decide +kernel
theorem dX4_faultAt_22 : decode cX4_faultAt 22 = .ok (.iconst 2, 1) := by decide +kernel
theorem dX4_faultAt_23 : decode cX4_faultAt 23 = .ok (.goto 4, 3) := by decide +kernel
theorem dX4_faultAt_26 : decode cX4_faultAt 26 = .ok (.iconst 0, 1) := by decide +kernel
theorem dX4_faultAt_27 : decode cX4_faultAt 27 = .ok (.ireturn, 1) := by decide +kernel
theorem dX4_faultOfPair_0 : decode cX4_faultOfPair 0 = .ok (.aload_n 0, 1) := by decide +kernel
theorem dX4_faultOfPair_1 : decode cX4_faultOfPair 1 = .ok (.getfield 15, 3) := by decide +kernel
theorem dX4_faultOfPair_4 : decode cX4_faultOfPair 4 = .ok (.iconst (-1), 1) := by decide +kernel
theorem dX4_faultOfPair_5 : decode cX4_faultOfPair 5 = .ok (.if_icmp .eq 13, 3) := by decide +kernel
theorem dX4_faultOfPair_8 : decode cX4_faultOfPair 8 = .ok (.aload_n 0, 1) := by decide +kernel
theorem dX4_faultOfPair_9 : decode cX4_faultOfPair 9 = .ok (.getfield 15, 3) := by decide +kernel
theorem dX4_faultOfPair_12 : decode cX4_faultOfPair 12 = .ok (.iload_n 1, 1) := by decide +kernel
theorem dX4_faultOfPair_13 : decode cX4_faultOfPair 13 = .ok (.if_icmp .eq 5, 3) := by decide +kernel
theorem dX4_faultOfPair_16 : decode cX4_faultOfPair 16 = .ok (.iconst 3, 1) := by decide +kernel
theorem dX4_faultOfPair_17 : decode cX4_faultOfPair 17 = .ok (.ireturn, 1) := by decide +kernel
theorem dX4_faultOfPair_18 : decode cX4_faultOfPair 18 = .ok (.aload_n 0, 1) := by decide +kernel
theorem dX4_faultOfPair_19 : decode cX4_faultOfPair 19 = .ok (.iload_n 2, 1) := by decide +kernel
theorem dX4_faultOfPair_20 : decode cX4_faultOfPair 20 = .ok (.invokevirtual 28, 3) := by decide +kernel
theorem dX4_faultOfPair_23 : decode cX4_faultOfPair 23 = .ok (.istore_n 3, 1) := by decide +kernel
theorem dX4_faultOfPair_24 : decode cX4_faultOfPair 24 = .ok (.iload_n 3, 1) := by decide +kernel
theorem dX4_faultOfPair_25 : decode cX4_faultOfPair 25 = .ok (.ifCond .eq 7, 3) := by decide +kernel
theorem dX4_faultOfPair_28 : decode cX4_faultOfPair 28 = .ok (.iload_n 3, 1) := by decide +kernel
theorem dX4_faultOfPair_29 : decode cX4_faultOfPair 29 = .ok (.goto 10, 3) := by decide +kernel
theorem dX4_faultOfPair_32 : decode cX4_faultOfPair 32 = .ok (.aload_n 0, 1) := by decide +kernel
theorem dX4_faultOfPair_33 : decode cX4_faultOfPair 33 = .ok (.iload_n 2, 1) := by decide +kernel
theorem dX4_faultOfPair_34 : decode cX4_faultOfPair 34 = .ok (.iconst 1, 1) := by decide +kernel
theorem dX4_faultOfPair_35 : decode cX4_faultOfPair 35 = .ok (.iadd, 1) := by decide +kernel
theorem dX4_faultOfPair_36 : decode cX4_faultOfPair 36 = .ok (.invokevirtual 28, 3) := by decide +kernel
theorem dX4_faultOfPair_39 : decode cX4_faultOfPair 39 = .ok (.ireturn, 1) := by decide +kernel
theorem dX4_put_0 : decode cX4_put 0 = .ok (.aload_n 0, 1) := by decide +kernel
theorem dX4_put_1 : decode cX4_put 1 = .ok (.getfield 15, 3) := by decide +kernel
theorem dX4_put_4 : decode cX4_put 4 = .ok (.lookupswitch 50 #[(0, 28), (1, 39)], 28) := by decide +kernel
theorem dX4_put_32 : decode cX4_put 32 = .ok (.aload_n 0, 1) := by decide +kernel
theorem dX4_put_33 : decode cX4_put 33 = .ok (.getfield 9, 3) := by decide +kernel
theorem dX4_put_36 : decode cX4_put 36 = .ok (.iload_n 1, 1) := by decide +kernel
theorem dX4_put_37 : decode cX4_put 37 = .ok (.iload_n 2, 1) := by decide +kernel
theorem dX4_put_38 : decode cX4_put 38 = .ok (.i2b, 1) := by decide +kernel
theorem dX4_put_39 : decode cX4_put 39 = .ok (.iastore, 1) := by decide +kernel
theorem dX4_put_40 : decode cX4_put 40 = .ok (.goto 21, 3) := by decide +kernel
theorem dX4_put_43 : decode cX4_put 43 = .ok (.aload_n 0, 1) := by decide +kernel
theorem dX4_put_44 : decode cX4_put 44 = .ok (.getfield 9, 3) := by decide +kernel
theorem dX4_put_47 : decode cX4_put 47 = .ok (.iload_n 1, 1) := by decide +kernel
theorem dX4_put_48 : decode cX4_put 48 = .ok (.iload_n 2, 1) := by decide +kernel
theorem dX4_put_49 : decode cX4_put 49 = .ok (.i2s, 1) := by decide +kernel
theorem dX4_put_50 : decode cX4_put 50 = .ok (.iastore, 1) := by decide +kernel
theorem dX4_put_51 : decode cX4_put 51 = .ok (.goto 10, 3) := by decide +kernel
theorem dX4_put_54 : decode cX4_put 54 = .ok (.aload_n 0, 1) := by decide +kernel
theorem dX4_put_55 : decode cX4_put 55 = .ok (.getfield 9, 3) := by decide +kernel
theorem dX4_put_58 : decode cX4_put 58 = .ok (.iload_n 1, 1) := by decide +kernel
theorem dX4_put_59 : decode cX4_put 59 = .ok (.iload_n 2, 1) := by decide +kernel
theorem dX4_put_60 : decode cX4_put 60 = .ok (.iastore, 1) := by decide +kernel
theorem dX4_put_61 : decode cX4_put 61 = .ok (.return_, 1) := by decide +kernel
theorem dJ6_bitCount_0f7a4_0 : decode cJ6_bitCount_0f7a4 0 = .ok (.iload_n 0, 1) := by decide +kernel
theorem dJ6_bitCount_0f7a4_1 : decode cJ6_bitCount_0f7a4 1 = .ok (.iload_n 0, 1) := by decide +kernel
theorem dJ6_bitCount_0f7a4_2 : decode cJ6_bitCount_0f7a4 2 = .ok (.iconst 1, 1) := by decide +kernel
theorem dJ6_bitCount_0f7a4_3 : decode cJ6_bitCount_0f7a4 3 = .ok (.iushr, 1) := by decide +kernel
theorem dJ6_bitCount_0f7a4_4 : decode cJ6_bitCount_0f7a4 4 = .ok (.ldc_w 265, 3) := by decide +kernel
theorem dJ6_bitCount_0f7a4_7 : decode cJ6_bitCount_0f7a4 7 = .ok (.iand, 1) := by decide +kernel
theorem dJ6_bitCount_0f7a4_8 : decode cJ6_bitCount_0f7a4 8 = .ok (.isub, 1) := by decide +kernel
theorem dJ6_bitCount_0f7a4_9 : decode cJ6_bitCount_0f7a4 9 = .ok (.istore_n 0, 1) := by decide +kernel
theorem dJ6_bitCount_0f7a4_10 : decode cJ6_bitCount_0f7a4 10 = .ok (.iload_n 0, 1) := by decide +kernel
theorem dJ6_bitCount_0f7a4_11 : decode cJ6_bitCount_0f7a4 11 = .ok (.ldc_w 266, 3) := by decide +kernel
theorem dJ6_bitCount_0f7a4_14 : decode cJ6_bitCount_0f7a4 14 = .ok (.iand, 1) := by decide +kernel
theorem dJ6_bitCount_0f7a4_15 : decode cJ6_bitCount_0f7a4 15 = .ok (.iload_n 0, 1) := by decide +kernel
theorem dJ6_bitCount_0f7a4_16 : decode cJ6_bitCount_0f7a4 16 = .ok (.iconst 2, 1) := by decide +kernel
theorem dJ6_bitCount_0f7a4_17 : decode cJ6_bitCount_0f7a4 17 = .ok (.iushr, 1) := by decide +kernel
theorem dJ6_bitCount_0f7a4_18 : decode cJ6_bitCount_0f7a4 18 = .ok (.ldc_w 266, 3) := by decide +kernel
theorem dJ6_bitCount_0f7a4_21 : decode cJ6_bitCount_0f7a4 21 = .ok (.iand, 1) := by decide +kernel
theorem dJ6_bitCount_0f7a4_22 : decode cJ6_bitCount_0f7a4 22 = .ok (.iadd, 1) := by decide +kernel
theorem dJ6_bitCount_0f7a4_23 : decode cJ6_bitCount_0f7a4 23 = .ok (.istore_n 0, 1) := by decide +kernel
theorem dJ6_bitCount_0f7a4_24 : decode cJ6_bitCount_0f7a4 24 = .ok (.iload_n 0, 1) := by decide +kernel
theorem dJ6_bitCount_0f7a4_25 : decode cJ6_bitCount_0f7a4 25 = .ok (.iload_n 0, 1) := by decide +kernel
theorem dJ6_bitCount_0f7a4_26 : decode cJ6_bitCount_0f7a4 26 = .ok (.iconst 4, 1) := by decide +kernel
theorem dJ6_bitCount_0f7a4_27 : decode cJ6_bitCount_0f7a4 27 = .ok (.iushr, 1) := by decide +kernel
theorem dJ6_bitCount_0f7a4_28 : decode cJ6_bitCount_0f7a4 28 = .ok (.iadd, 1) := by decide +kernel
theorem dJ6_bitCount_0f7a4_29 : decode cJ6_bitCount_0f7a4 29 = .ok (.ldc_w 267, 3) := by decide +kernel
theorem dJ6_bitCount_0f7a4_32 : decode cJ6_bitCount_0f7a4 32 = .ok (.iand, 1) := by decide +kernel
theorem dJ6_bitCount_0f7a4_33 : decode cJ6_bitCount_0f7a4 33 = .ok (.istore_n 0, 1) := by decide +kernel
theorem dJ6_bitCount_0f7a4_34 : decode cJ6_bitCount_0f7a4 34 = .ok (.iload_n 0, 1) := by decide +kernel
theorem dJ6_bitCount_0f7a4_35 : decode cJ6_bitCount_0f7a4 35 = .ok (.iload_n 0, 1) := by decide +kernel
theorem dJ6_bitCount_0f7a4_36 : decode cJ6_bitCount_0f7a4 36 = .ok (.bipush 8, 2) := by decide +kernel
theorem dJ6_bitCount_0f7a4_38 : decode cJ6_bitCount_0f7a4 38 = .ok (.iushr, 1) := by decide +kernel
theorem dJ6_bitCount_0f7a4_39 : decode cJ6_bitCount_0f7a4 39 = .ok (.iadd, 1) := by decide +kernel
theorem dJ6_bitCount_0f7a4_40 : decode cJ6_bitCount_0f7a4 40 = .ok (.istore_n 0, 1) := by decide +kernel
theorem dJ6_bitCount_0f7a4_41 : decode cJ6_bitCount_0f7a4 41 = .ok (.iload_n 0, 1) := by decide +kernel
theorem dJ6_bitCount_0f7a4_42 : decode cJ6_bitCount_0f7a4 42 = .ok (.iload_n 0, 1) := by decide +kernel
theorem dJ6_bitCount_0f7a4_43 : decode cJ6_bitCount_0f7a4 43 = .ok (.bipush 16, 2) := by decide +kernel
theorem dJ6_bitCount_0f7a4_45 : decode cJ6_bitCount_0f7a4 45 = .ok (.iushr, 1) := by decide +kernel
theorem dJ6_bitCount_0f7a4_46 : decode cJ6_bitCount_0f7a4 46 = .ok (.iadd, 1) := by decide +kernel
theorem dJ6_bitCount_0f7a4_47 : decode cJ6_bitCount_0f7a4 47 = .ok (.istore_n 0, 1) := by decide +kernel
theorem dJ6_bitCount_0f7a4_48 : decode cJ6_bitCount_0f7a4 48 = .ok (.iload_n 0, 1) := by decide +kernel
theorem dJ6_bitCount_0f7a4_49 : decode cJ6_bitCount_0f7a4 49 = .ok (.bipush 63, 2) := by decide +kernel
theorem dJ6_bitCount_0f7a4_51 : decode cJ6_bitCount_0f7a4 51 = .ok (.iand, 1) := by decide +kernel
theorem dJ6_bitCount_0f7a4_52 : decode cJ6_bitCount_0f7a4 52 = .ok (.ireturn, 1) := by decide +kernel
theorem dJ9_max_7cf53_0 : decode cJ9_max_7cf53 0 = .ok (.iload_n 0, 1) := by decide +kernel
theorem dJ9_max_7cf53_1 : decode cJ9_max_7cf53 1 = .ok (.iload_n 1, 1) := by decide +kernel
theorem dJ9_max_7cf53_2 : decode cJ9_max_7cf53 2 = .ok (.if_icmp .lt 7, 3) := by decide +kernel
theorem dJ9_max_7cf53_5 : decode cJ9_max_7cf53 5 = .ok (.iload_n 0, 1) := by decide +kernel
theorem dJ9_max_7cf53_6 : decode cJ9_max_7cf53 6 = .ok (.goto 4, 3) := by decide +kernel
theorem dJ9_max_7cf53_9 : decode cJ9_max_7cf53 9 = .ok (.iload_n 1, 1) := by decide +kernel
theorem dJ9_max_7cf53_10 : decode cJ9_max_7cf53 10 = .ok (.ireturn, 1) := by decide +kernel
theorem dJ9_min_7cf53_0 : decode cJ9_min_7cf53 0 = .ok (.iload_n 0, 1) := by decide +kernel
theorem dJ9_min_7cf53_1 : decode cJ9_min_7cf53 1 = .ok (.iload_n 1, 1) := by decide +kernel
theorem dJ9_min_7cf53_2 : decode cJ9_min_7cf53 2 = .ok (.if_icmp .gt 7, 3) := by decide +kernel
theorem dJ9_min_7cf53_5 : decode cJ9_min_7cf53 5 = .ok (.iload_n 0, 1) := by decide +kernel
theorem dJ9_min_7cf53_6 : decode cJ9_min_7cf53 6 = .ok (.goto 4, 3) := by decide +kernel
theorem dJ9_min_7cf53_9 : decode cJ9_min_7cf53 9 = .ok (.iload_n 1, 1) := by decide +kernel
theorem dJ9_min_7cf53_10 : decode cJ9_min_7cf53 10 = .ok (.ireturn, 1) := by decide +kernel
theorem dJ0_length_8abf5_0 : decode cJ0_length_8abf5 0 = .ok (.aload_n 0, 1) := by decide +kernel
theorem dJ0_length_8abf5_1 : decode cJ0_length_8abf5 1 = .ok (.getfield 9, 3) := by decide +kernel
theorem dJ0_length_8abf5_4 : decode cJ0_length_8abf5 4 = .ok (.arraylength, 1) := by decide +kernel
theorem dJ0_length_8abf5_5 : decode cJ0_length_8abf5 5 = .ok (.aload_n 0, 1) := by decide +kernel
theorem dJ0_length_8abf5_6 : decode cJ0_length_8abf5 6 = .ok (.invokevirtual 335, 3) := by decide +kernel
theorem dJ0_length_8abf5_9 : decode cJ0_length_8abf5 9 = .ok (.ishr, 1) := by decide +kernel
theorem dJ0_length_8abf5_10 : decode cJ0_length_8abf5 10 = .ok (.ireturn, 1) := by decide +kernel
theorem dJ0_charAt_5068e_0 : decode cJ0_charAt_5068e 0 = .ok (.aload_n 0, 1) := by decide +kernel
theorem dJ0_charAt_5068e_1 : decode cJ0_charAt_5068e 1 = .ok (.invokevirtual 492, 3) := by decide +kernel
theorem dJ0_charAt_5068e_4 : decode cJ0_charAt_5068e 4 = .ok (.ifCond .eq 12, 3) := by decide +kernel
theorem dJ0_charAt_5068e_7 : decode cJ0_charAt_5068e 7 = .ok (.aload_n 0, 1) := by decide +kernel
theorem dJ0_charAt_5068e_8 : decode cJ0_charAt_5068e 8 = .ok (.getfield 9, 3) := by decide +kernel
theorem dJ0_charAt_5068e_11 : decode cJ0_charAt_5068e 11 = .ok (.iload_n 1, 1) := by decide +kernel
theorem dJ0_charAt_5068e_12 : decode cJ0_charAt_5068e 12 = .ok (.invokestatic 495, 3) := by decide +kernel
theorem dJ0_charAt_5068e_15 : decode cJ0_charAt_5068e 15 = .ok (.ireturn, 1) := by decide +kernel
theorem dJ0_charAt_5068e_16 : decode cJ0_charAt_5068e 16 = .ok (.aload_n 0, 1) := by decide +kernel
theorem dJ0_charAt_5068e_17 : decode cJ0_charAt_5068e 17 = .ok (.getfield 9, 3) := by decide +kernel
theorem dJ0_charAt_5068e_20 : decode cJ0_charAt_5068e 20 = .ok (.iload_n 1, 1) := by decide +kernel
theorem dJ0_charAt_5068e_21 : decode cJ0_charAt_5068e 21 = .ok (.invokestatic 498, 3) := by decide +kernel
theorem dJ0_charAt_5068e_24 : decode cJ0_charAt_5068e 24 = .ok (.ireturn, 1) := by decide +kernel
theorem dJ0_coder_7d493_0 : decode cJ0_coder_7d493 0 = .ok (.getstatic 38, 3) := by decide +kernel
theorem dJ0_coder_7d493_3 : decode cJ0_coder_7d493 3 = .ok (.ifCond .eq 10, 3) := by decide +kernel
theorem dJ0_coder_7d493_6 : decode cJ0_coder_7d493 6 = .ok (.aload_n 0, 1) := by decide +kernel
theorem dJ0_coder_7d493_7 : decode cJ0_coder_7d493 7 = .ok (.getfield 15, 3) := by decide +kernel
theorem dJ0_coder_7d493_10 : decode cJ0_coder_7d493 10 = .ok (.goto 4, 3) := by decide +kernel
theorem dJ0_coder_7d493_13 : decode cJ0_coder_7d493 13 = .ok (.iconst 1, 1) := by decide +kernel
theorem dJ0_coder_7d493_14 : decode cJ0_coder_7d493 14 = .ok (.ireturn, 1) := by decide +kernel
theorem dJ0_isLatin1_aae02_0 : decode cJ0_isLatin1_aae02 0 = .ok (.getstatic 38, 3) := by decide +kernel
theorem dJ0_isLatin1_aae02_3 : decode cJ0_isLatin1_aae02 3 = .ok (.ifCond .eq 14, 3) := by decide +kernel
theorem dJ0_isLatin1_aae02_6 : decode cJ0_isLatin1_aae02 6 = .ok (.aload_n 0, 1) := by decide +kernel
theorem dJ0_isLatin1_aae02_7 : decode cJ0_isLatin1_aae02 7 = .ok (.getfield 15, 3) := by decide +kernel
theorem dJ0_isLatin1_aae02_10 : decode cJ0_isLatin1_aae02 10 = .ok (.ifCond .ne 7, 3) := by decide +kernel
theorem dJ0_isLatin1_aae02_13 : decode cJ0_isLatin1_aae02 13 = .ok (.iconst 1, 1) := by decide +kernel
theorem dJ0_isLatin1_aae02_14 : decode cJ0_isLatin1_aae02 14 = .ok (.goto 4, 3) := by decide +kernel
theorem dJ0_isLatin1_aae02_17 : decode cJ0_isLatin1_aae02 17 = .ok (.iconst 0, 1) := by decide +kernel
theorem dJ0_isLatin1_aae02_18 : decode cJ0_isLatin1_aae02 18 = .ok (.ireturn, 1) := by decide +kernel
theorem dJ0_checkIndex_df160_0 : decode cJ0_checkIndex_df160 0 = .ok (.iload_n 0, 1) := by decide +kernel
theorem dJ0_checkIndex_df160_1 : decode cJ0_checkIndex_df160 1 = .ok (.iload_n 1, 1) := by decide +kernel
theorem dJ0_checkIndex_df160_2 : decode cJ0_checkIndex_df160 2 = .ok (.getstatic 1053, 3) := by decide +kernel
theorem dJ0_checkIndex_df160_5 : decode cJ0_checkIndex_df160 5 = .ok (.invokestatic 1059, 3) := by decide +kernel
theorem dJ0_checkIndex_df160_8 : decode cJ0_checkIndex_df160 8 = .ok (.pop, 1) := by decide +kernel
theorem dJ0_checkIndex_df160_9 : decode cJ0_checkIndex_df160 9 = .ok (.return_, 1) := by decide +kernel
theorem dJ1_charAt_3b067_0 : decode cJ1_charAt_3b067 0 = .ok (.iload_n 1, 1) := by decide +kernel
theorem dJ1_charAt_3b067_1 : decode cJ1_charAt_3b067 1 = .ok (.aload_n 0, 1) := by decide +kernel
theorem dJ1_charAt_3b067_2 : decode cJ1_charAt_3b067 2 = .ok (.arraylength, 1) := by decide +kernel
theorem dJ1_charAt_3b067_3 : decode cJ1_charAt_3b067 3 = .ok (.invokestatic 9, 3) := by decide +kernel
theorem dJ1_charAt_3b067_6 : decode cJ1_charAt_3b067 6 = .ok (.aload_n 0, 1) := by decide +kernel
theorem dJ1_charAt_3b067_7 : decode cJ1_charAt_3b067 7 = .ok (.iload_n 1, 1) := by decide +kernel
theorem dJ1_charAt_3b067_8 : decode cJ1_charAt_3b067 8 = .ok (.baload, 1) := by decide +kernel
theorem dJ1_charAt_3b067_9 : decode cJ1_charAt_3b067 9 = .ok (.sipush 255, 3) := by decide +kernel
theorem dJ1_charAt_3b067_12 : decode cJ1_charAt_3b067 12 = .ok (.iand, 1) := by decide +kernel
theorem dJ1_charAt_3b067_13 : decode cJ1_charAt_3b067 13 = .ok (.i2c, 1) := by decide +kernel
theorem dJ1_charAt_3b067_14 : decode cJ1_charAt_3b067 14 = .ok (.ireturn, 1) := by decide +kernel
theorem dJ2_getChar_3b067_0 : decode cJ2_getChar_3b067 0 = .ok (.getstatic 44, 3) := by decide +kernel
theorem dJ2_getChar_3b067_3 : decode cJ2_getChar_3b067 3 = .ok (.ifCond .ne 25, 3) := by decide +kernel
theorem dJ2_getChar_3b067_6 : decode cJ2_getChar_3b067 6 = .ok (.iload_n 1, 1) := by decide +kernel
theorem dJ2_getChar_3b067_7 : decode cJ2_getChar_3b067 7 = .ok (.ifCond .lt 11, 3) := by decide +kernel
theorem dJ2_getChar_3b067_10 : decode cJ2_getChar_3b067 10 = .ok (.iload_n 1, 1) := by decide +kernel
theorem dJ2_getChar_3b067_11 : decode cJ2_getChar_3b067 11 = .ok (.aload_n 0, 1) := by decide +kernel
theorem dJ2_getChar_3b067_12 : decode cJ2_getChar_3b067 12 = .ok (.invokestatic 48, 3) := by decide +kernel
theorem dJ2_getChar_3b067_15 : decode cJ2_getChar_3b067 15 = .ok (.if_icmp .lt 13, 3) := by decide +kernel
theorem dJ2_getChar_3b067_18 : decode cJ2_getChar_3b067 18 = .ok (.new 52, 3) := by decide +kernel
theorem dJ2_getChar_3b067_21 : decode cJ2_getChar_3b067 21 = .ok (.dup, 1) := by decide +kernel
theorem dJ2_getChar_3b067_22 : decode cJ2_getChar_3b067 22 = .ok (.ldc 54, 2) := by decide +kernel
theorem dJ2_getChar_3b067_24 : decode cJ2_getChar_3b067 24 = .ok (.invokespecial 56, 3) := by decide +kernel
theorem dJ2_getChar_3b067_27 : decode cJ2_getChar_3b067 27 = .ok (.athrow, 1) := by decide +kernel
theorem dJ2_getChar_3b067_28 : decode cJ2_getChar_3b067 28 = .ok (.iload_n 1, 1) := by decide +kernel
theorem dJ2_getChar_3b067_29 : decode cJ2_getChar_3b067 29 = .ok (.iconst 1, 1) := by decide +kernel
theorem dJ2_getChar_3b067_30 : decode cJ2_getChar_3b067 30 = .ok (.ishl, 1) := by decide +kernel
theorem dJ2_getChar_3b067_31 : decode cJ2_getChar_3b067 31 = .ok (.istore_n 1, 1) := by decide +kernel
theorem dJ2_getChar_3b067_32 : decode cJ2_getChar_3b067 32 = .ok (.aload_n 0, 1) := by decide +kernel
theorem dJ2_getChar_3b067_33 : decode cJ2_getChar_3b067 33 = .ok (.iload_n 1, 1) := by decide +kernel
theorem dJ2_getChar_3b067_34 : decode cJ2_getChar_3b067 34 = .ok (.iinc 1 1, 3) := by decide +kernel
theorem dJ2_getChar_3b067_37 : decode cJ2_getChar_3b067 37 = .ok (.baload, 1) := by decide +kernel
theorem dJ2_getChar_3b067_38 : decode cJ2_getChar_3b067 38 = .ok (.sipush 255, 3) := by decide +kernel
theorem dJ2_getChar_3b067_41 : decode cJ2_getChar_3b067 41 = .ok (.iand, 1) := by decide +kernel
theorem dJ2_getChar_3b067_42 : decode cJ2_getChar_3b067 42 = .ok (.getstatic 59, 3) := by decide +kernel
theorem dJ2_getChar_3b067_45 : decode cJ2_getChar_3b067 45 = .ok (.ishl, 1) := by decide +kernel
theorem dJ2_getChar_3b067_46 : decode cJ2_getChar_3b067 46 = .ok (.aload_n 0, 1) := by decide +kernel
theorem dJ2_getChar_3b067_47 : decode cJ2_getChar_3b067 47 = .ok (.iload_n 1, 1) := by decide +kernel
theorem dJ2_getChar_3b067_48 : decode cJ2_getChar_3b067 48 = .ok (.baload, 1) := by decide +kernel
theorem dJ2_getChar_3b067_49 : decode cJ2_getChar_3b067 49 = .ok (.sipush 255, 3) := by decide +kernel
theorem dJ2_getChar_3b067_52 : decode cJ2_getChar_3b067 52 = .ok (.iand, 1) := by decide +kernel
theorem dJ2_getChar_3b067_53 : decode cJ2_getChar_3b067 53 = .ok (.getstatic 63, 3) := by decide +kernel
theorem dJ2_getChar_3b067_56 : decode cJ2_getChar_3b067 56 = .ok (.ishl, 1) := by decide +kernel
theorem dJ2_getChar_3b067_57 : decode cJ2_getChar_3b067 57 = .ok (.ior, 1) := by decide +kernel
theorem dJ2_getChar_3b067_58 : decode cJ2_getChar_3b067 58 = .ok (.i2c, 1) := by decide +kernel
theorem dJ2_getChar_3b067_59 : decode cJ2_getChar_3b067 59 = .ok (.ireturn, 1) := by decide +kernel
theorem dJ2_length_9d52b_0 : decode cJ2_length_9d52b 0 = .ok (.aload_n 0, 1) := by decide +kernel
theorem dJ2_length_9d52b_1 : decode cJ2_length_9d52b 1 = .ok (.arraylength, 1) := by decide +kernel
theorem dJ2_length_9d52b_2 : decode cJ2_length_9d52b 2 = .ok (.iconst 1, 1) := by decide +kernel
theorem dJ2_length_9d52b_3 : decode cJ2_length_9d52b 3 = .ok (.ishr, 1) := by decide +kernel
theorem dJ2_length_9d52b_4 : decode cJ2_length_9d52b 4 = .ok (.ireturn, 1) := by decide +kernel
theorem dJ2_charAt_3b067_0 : decode cJ2_charAt_3b067 0 = .ok (.iload_n 1, 1) := by decide +kernel
theorem dJ2_charAt_3b067_1 : decode cJ2_charAt_3b067 1 = .ok (.aload_n 0, 1) := by decide +kernel
theorem dJ2_charAt_3b067_2 : decode cJ2_charAt_3b067 2 = .ok (.invokestatic 67, 3) := by decide +kernel
theorem dJ2_charAt_3b067_5 : decode cJ2_charAt_3b067 5 = .ok (.aload_n 0, 1) := by decide +kernel
theorem dJ2_charAt_3b067_6 : decode cJ2_charAt_3b067 6 = .ok (.iload_n 1, 1) := by decide +kernel
theorem dJ2_charAt_3b067_7 : decode cJ2_charAt_3b067 7 = .ok (.invokestatic 71, 3) := by decide +kernel
theorem dJ2_charAt_3b067_10 : decode cJ2_charAt_3b067 10 = .ok (.ireturn, 1) := by decide +kernel
theorem dJ2_checkIndex_2214a_0 : decode cJ2_checkIndex_2214a 0 = .ok (.iload_n 0, 1) := by decide +kernel
theorem dJ2_checkIndex_2214a_1 : decode cJ2_checkIndex_2214a 1 = .ok (.aload_n 1, 1) := by decide +kernel
theorem dJ2_checkIndex_2214a_2 : decode cJ2_checkIndex_2214a 2 = .ok (.invokestatic 48, 3) := by decide +kernel
theorem dJ2_checkIndex_2214a_5 : decode cJ2_checkIndex_2214a 5 = .ok (.invokestatic 414, 3) := by decide +kernel
theorem dJ2_checkIndex_2214a_8 : decode cJ2_checkIndex_2214a 8 = .ok (.return_, 1) := by decide +kernel
theorem dJ7_fill_53178_0 : decode cJ7_fill_53178 0 = .ok (.iconst 0, 1) := by decide +kernel
theorem dJ7_fill_53178_1 : decode cJ7_fill_53178 1 = .ok (.istore_n 2, 1) := by decide +kernel
theorem dJ7_fill_53178_2 : decode cJ7_fill_53178 2 = .ok (.aload_n 0, 1) := by decide +kernel
theorem dJ7_fill_53178_3 : decode cJ7_fill_53178 3 = .ok (.arraylength, 1) := by decide +kernel
theorem dJ7_fill_53178_4 : decode cJ7_fill_53178 4 = .ok (.istore_n 3, 1) := by decide +kernel
theorem dJ7_fill_53178_5 : decode cJ7_fill_53178 5 = .ok (.iload_n 2, 1) := by decide +kernel
theorem dJ7_fill_53178_6 : decode cJ7_fill_53178 6 = .ok (.iload_n 3, 1) := by decide +kernel
theorem dJ7_fill_53178_7 : decode cJ7_fill_53178 7 = .ok (.if_icmp .ge 13, 3) := by decide +kernel
theorem dJ7_fill_53178_10 : decode cJ7_fill_53178 10 = .ok (.aload_n 0, 1) := by decide +kernel
theorem dJ7_fill_53178_11 : decode cJ7_fill_53178 11 = .ok (.iload_n 2, 1) := by decide +kernel
theorem dJ7_fill_53178_12 : decode cJ7_fill_53178 12 = .ok (.iload_n 1, 1) := by decide +kernel
theorem dJ7_fill_53178_13 : decode cJ7_fill_53178 13 = .ok (.iastore, 1) := by decide +kernel
theorem dJ7_fill_53178_14 : decode cJ7_fill_53178 14 = .ok (.iinc 2 1, 3) := by decide +kernel
theorem dJ7_fill_53178_17 : decode cJ7_fill_53178 17 = .ok (.goto (-12), 3) := by decide +kernel
theorem dJ7_fill_53178_20 : decode cJ7_fill_53178 20 = .ok (.return_, 1) := by decide +kernel
theorem dJ3_checkIndex_8e157_0 : decode cJ3_checkIndex_8e157 0 = .ok (.iload_n 0, 1) := by decide +kernel
theorem dJ3_checkIndex_8e157_1 : decode cJ3_checkIndex_8e157 1 = .ok (.ifCond .lt 8, 3) := by decide +kernel
theorem dJ3_checkIndex_8e157_4 : decode cJ3_checkIndex_8e157 4 = .ok (.iload_n 0, 1) := by decide +kernel
theorem dJ3_checkIndex_8e157_5 : decode cJ3_checkIndex_8e157 5 = .ok (.iload_n 1, 1) := by decide +kernel
theorem dJ3_checkIndex_8e157_6 : decode cJ3_checkIndex_8e157 6 = .ok (.if_icmp .lt 10, 3) := by decide +kernel
theorem dJ3_checkIndex_8e157_9 : decode cJ3_checkIndex_8e157 9 = .ok (.aload_n 2, 1) := by decide +kernel
theorem dJ3_checkIndex_8e157_10 : decode cJ3_checkIndex_8e157 10 = .ok (.iload_n 0, 1) := by decide +kernel
theorem dJ3_checkIndex_8e157_11 : decode cJ3_checkIndex_8e157 11 = .ok (.iload_n 1, 1) := by decide +kernel
theorem dJ3_checkIndex_8e157_12 : decode cJ3_checkIndex_8e157 12 = .ok (.invokestatic 95, 3) := by decide +kernel
theorem dJ3_checkIndex_8e157_15 : decode cJ3_checkIndex_8e157 15 = .ok (.athrow, 1) := by decide +kernel
theorem dJ3_checkIndex_8e157_16 : decode cJ3_checkIndex_8e157 16 = .ok (.iload_n 0, 1) := by decide +kernel
theorem dJ3_checkIndex_8e157_17 : decode cJ3_checkIndex_8e157 17 = .ok (.ireturn, 1) := by decide +kernel
