theorem dX8_addWanted_0 : decode cX8_addWanted 0 = .ok (.aload_n 0, 1) := by decide +kernel
theorem dX8_addWanted_1 : decode cX8_addWanted 1 = .ok (.getfield 34, 3) := by decide +kernel
theorem dX8_addWanted_4 : decode cX8_addWanted 4 = .ok (.bipush 8, 2) := by decide +kernel
theorem dX8_addWanted_6 : decode cX8_addWanted 6 = .ok (.if_icmp .lt 5, 3) := by decide +kernel
theorem dX8_addWanted_9 : decode cX8_addWanted 9 = .ok (.iconst (-1), 1) := by decide +kernel
theorem dX8_addWanted_10 : decode cX8_addWanted 10 = .ok (.ireturn, 1) := by decide +kernel
theorem dX8_addWanted_11 : decode cX8_addWanted 11 = .ok (.aload_n 0, 1) := by decide +kernel
theorem dX8_addWanted_12 : decode cX8_addWanted 12 = .ok (.getfield 18, 3) := by decide +kernel
theorem dX8_addWanted_15 : decode cX8_addWanted 15 = .ok (.aload_n 0, 1) := by decide +kernel
theorem dX8_addWanted_16 : decode cX8_addWanted 16 = .ok (.getfield 34, 3) := by decide +kernel
theorem dX8_addWanted_19 : decode cX8_addWanted 19 = .ok (.iload_n 1, 1) := by decide +kernel
theorem dX8_addWanted_20 : decode cX8_addWanted 20 = .ok (.iastore, 1) := by decide +kernel
theorem dX8_addWanted_21 : decode cX8_addWanted 21 = .ok (.aload_n 0, 1) := by decide +kernel
theorem dX8_addWanted_22 : decode cX8_addWanted 22 = .ok (.getfield 21, 3) := by decide +kernel
theorem dX8_addWanted_25 : decode cX8_addWanted 25 = .ok (.aload_n 0, 1) := by decide +kernel
theorem dX8_addWanted_26 : decode cX8_addWanted 26 = .ok (.getfield 34, 3) := by decide +kernel
theorem dX8_addWanted_29 : decode cX8_addWanted 29 = .ok (.iload_n 2, 1) := by decide +kernel
theorem dX8_addWanted_30 : decode cX8_addWanted 30 = .ok (.iastore, 1) := by decide +kernel
theorem dX8_addWanted_31 : decode cX8_addWanted 31 = .ok (.aload_n 0, 1) := by decide +kernel
theorem dX8_addWanted_32 : decode cX8_addWanted 32 = .ok (.dup, 1) := by decide +kernel
theorem dX8_addWanted_33 : decode cX8_addWanted 33 = .ok (.getfield 34, 3) := by decide +kernel
theorem dX8_addWanted_36 : decode cX8_addWanted 36 = .ok (.iconst 1, 1) := by decide +kernel
theorem dX8_addWanted_37 : decode cX8_addWanted 37 = .ok (.iadd, 1) := by decide +kernel
theorem dX8_addWanted_38 : decode cX8_addWanted 38 = .ok (.putfield 34, 3) := by decide +kernel
theorem dX8_addWanted_41 : decode cX8_addWanted 41 = .ok (.aload_n 0, 1) := by decide +kernel
theorem dX8_addWanted_42 : decode cX8_addWanted 42 = .ok (.invokevirtual 44, 3) := by decide +kernel
theorem dX8_addWanted_45 : decode cX8_addWanted 45 = .ok (.aload_n 0, 1) := by decide +kernel
theorem dX8_addWanted_46 : decode cX8_addWanted 46 = .ok (.getfield 34, 3) := by decide +kernel
theorem dX8_addWanted_49 : decode cX8_addWanted 49 = .ok (.iconst 1, 1) := by decide +kernel
theorem dX8_addWanted_50 : decode cX8_addWanted 50 = .ok (.isub, 1) := by decide +kernel
theorem dX8_addWanted_51 : decode cX8_addWanted 51 = .ok (.ireturn, 1) := by decide +kernel
theorem dX8_addWatcher_0 : decode cX8_addWatcher 0 = .ok (.aload_n 0, 1) := by decide +kernel
theorem dX8_addWatcher_1 : decode cX8_addWatcher 1 = .ok (.getfield 30, 3) := by decide +kernel
theorem dX8_addWatcher_4 : decode cX8_addWatcher 4 = .ok (.iconst 4, 1) := by decide +kernel
theorem dX8_addWatcher_5 : decode cX8_addWatcher 5 = .ok (.if_icmp .lt 5, 3) := by decide +kernel
theorem dX8_addWatcher_8 : decode cX8_addWatcher 8 = .ok (.iconst (-1), 1) := by decide +kernel
theorem dX8_addWatcher_9 : decode cX8_addWatcher 9 = .ok (.ireturn, 1) := by decide +kernel
theorem dX8_addWatcher_10 : decode cX8_addWatcher 10 = .ok (.aload_n 0, 1) := by decide +kernel
theorem dX8_addWatcher_11 : decode cX8_addWatcher 11 = .ok (.getfield 11, 3) := by decide +kernel
theorem dX8_addWatcher_14 : decode cX8_addWatcher 14 = .ok (.aload_n 0, 1) := by decide +kernel
theorem dX8_addWatcher_15 : decode cX8_addWatcher 15 = .ok (.getfield 30, 3) := by decide +kernel
theorem dX8_addWatcher_18 : decode cX8_addWatcher 18 = .ok (.iload_n 1, 1) := by decide +kernel
theorem dX8_addWatcher_19 : decode cX8_addWatcher 19 = .ok (.iastore, 1) := by decide +kernel
theorem dX8_addWatcher_20 : decode cX8_addWatcher 20 = .ok (.aload_n 0, 1) := by decide +kernel
theorem dX8_addWatcher_21 : decode cX8_addWatcher 21 = .ok (.getfield 15, 3) := by decide +kernel
theorem dX8_addWatcher_24 : decode cX8_addWatcher 24 = .ok (.aload_n 0, 1) := by decide +kernel
theorem dX8_addWatcher_25 : decode cX8_addWatcher 25 = .ok (.getfield 30, 3) := by decide +kernel
theorem dX8_addWatcher_28 : decode cX8_addWatcher 28 = .ok (.iload_n 2, 1) := by decide +kernel
theorem dX8_addWatcher_29 : decode cX8_addWatcher 29 = .ok (.iastore, 1) := by decide +kernel
theorem dX8_addWatcher_30 : decode cX8_addWatcher 30 = .ok (.aload_n 0, 1) := by decide +kernel
theorem dX8_addWatcher_31 : decode cX8_addWatcher 31 = .ok (.dup, 1) := by decide +kernel
theorem dX8_addWatcher_32 : decode cX8_addWatcher 32 = .ok (.getfield 30, 3) := by decide +kernel
theorem dX8_addWatcher_35 : decode cX8_addWatcher 35 = .ok (.iconst 1, 1) := by decide +kernel
theorem dX8_addWatcher_36 : decode cX8_addWatcher 36 = .ok (.iadd, 1) := by decide +kernel
theorem dX8_addWatcher_37 : decode cX8_addWatcher 37 = .ok (.putfield 30, 3) := by decide +kernel
theorem dX8_addWatcher_40 : decode cX8_addWatcher 40 = .ok (.aload_n 0, 1) := by decide +kernel
theorem dX8_addWatcher_41 : decode cX8_addWatcher 41 = .ok (.invokevirtual 44, 3) := by decide +kernel
theorem dX8_addWatcher_44 : decode cX8_addWatcher 44 = .ok (.aload_n 0, 1) := by decide +kernel
theorem dX8_addWatcher_45 : decode cX8_addWatcher 45 = .ok (.getfield 30, 3) := by decide +kernel
theorem dX8_addWatcher_48 : decode cX8_addWatcher 48 = .ok (.iconst 1, 1) := by decide +kernel
theorem dX8_addWatcher_49 : decode cX8_addWatcher 49 = .ok (.isub, 1) := by decide +kernel
theorem dX8_addWatcher_50 : decode cX8_addWatcher 50 = .ok (.ireturn, 1) := by decide +kernel
theorem dX8_canBothBeSeen_0 : decode cX8_canBothBeSeen 0 = .ok (.aload_n 0, 1) := by decide +kernel
theorem dX8_canBothBeSeen_1 : decode cX8_canBothBeSeen 1 = .ok (.getfield 21, 3) := by decide +kernel
theorem dX8_canBothBeSeen_4 : decode cX8_canBothBeSeen 4 = .ok (.iload_n 1, 1) := by decide +kernel
theorem dX8_canBothBeSeen_5 : decode cX8_canBothBeSeen 5 = .ok (.iaload, 1) := by decide +kernel
theorem dX8_canBothBeSeen_6 : decode cX8_canBothBeSeen 6 = .ok (.aload_n 0, 1) := by decide +kernel
theorem dX8_canBothBeSeen_7 : decode cX8_canBothBeSeen 7 = .ok (.getfield 21, 3) := by decide +kernel
theorem dX8_canBothBeSeen_10 : decode cX8_canBothBeSeen 10 = .ok (.iload_n 2, 1) := by decide +kernel
theorem dX8_canBothBeSeen_11 : decode cX8_canBothBeSeen 11 = .ok (.iaload, 1) := by decide +kernel
theorem dX8_canBothBeSeen_12 : decode cX8_canBothBeSeen 12 = .ok (.isub, 1) := by decide +kernel
theorem dX8_canBothBeSeen_13 : decode cX8_canBothBeSeen 13 = .ok (.invokestatic 64, 3) := by decide +kernel
theorem dX8_canBothBeSeen_16 : decode cX8_canBothBeSeen 16 = .ok (.istore_n 3, 1) := by decide +kernel
theorem dX8_canBothBeSeen_17 : decode cX8_canBothBeSeen 17 = .ok (.iload_n 3, 1) := by decide +kernel
theorem dX8_canBothBeSeen_18 : decode cX8_canBothBeSeen 18 = .ok (.aload_n 0, 1) := by decide +kernel
theorem dX8_canBothBeSeen_19 : decode cX8_canBothBeSeen 19 = .ok (.getfield 18, 3) := by decide +kernel
theorem dX8_canBothBeSeen_22 : decode cX8_canBothBeSeen 22 = .ok (.iload_n 1, 1) := by decide +kernel
theorem dX8_canBothBeSeen_23 : decode cX8_canBothBeSeen 23 = .ok (.iaload, 1) := by decide +kernel
theorem dX8_canBothBeSeen_24 : decode cX8_canBothBeSeen 24 = .ok (.aload_n 0, 1) := by decide +kernel
theorem dX8_canBothBeSeen_25 : decode cX8_canBothBeSeen 25 = .ok (.getfield 18, 3) := by decide +kernel
theorem dX8_canBothBeSeen_28 : decode cX8_canBothBeSeen 28 = .ok (.iload_n 2, 1) := by decide +kernel
theorem dX8_canBothBeSeen_29 : decode cX8_canBothBeSeen 29 = .ok (.iaload, 1) := by decide +kernel
theorem dX8_canBothBeSeen_30 : decode cX8_canBothBeSeen 30 = .ok (.if_icmp .ne 7, 3) := by decide +kernel
theorem dX8_canBothBeSeen_33 : decode cX8_canBothBeSeen 33 = .ok (.iconst 1, 1) := by decide +kernel
theorem dX8_canBothBeSeen_34 : decode cX8_canBothBeSeen 34 = .ok (.goto 4, 3) := by decide +kernel
theorem dX8_canBothBeSeen_37 : decode cX8_canBothBeSeen 37 = .ok (.iconst 2, 1) := by decide +kernel
theorem dX8_canBothBeSeen_38 : decode cX8_canBothBeSeen 38 = .ok (.if_icmp .lt 7, 3) := by decide +kernel
theorem dX8_canBothBeSeen_41 : decode cX8_canBothBeSeen 41 = .ok (.iconst 1, 1) := by decide +kernel
theorem dX8_canBothBeSeen_42 : decode cX8_canBothBeSeen 42 = .ok (.goto 4, 3) := by decide +kernel
theorem dX8_canBothBeSeen_45 : decode cX8_canBothBeSeen 45 = .ok (.iconst 0, 1) := by decide +kernel
theorem dX8_canBothBeSeen_46 : decode cX8_canBothBeSeen 46 = .ok (.ireturn, 1) := by decide +kernel
theorem dX8_canSee_0 : decode cX8_canSee 0 = .ok (.aload_n 0, 1) := by decide +kernel
theorem dX8_canSee_1 : decode cX8_canSee 1 = .ok (.getfield 21, 3) := by decide +kernel
theorem dX8_canSee_4 : decode cX8_canSee 4 = .ok (.iload_n 2, 1) := by decide +kernel
theorem dX8_canSee_5 : decode cX8_canSee 5 = .ok (.iaload, 1) := by decide +kernel
theorem dX8_canSee_6 : decode cX8_canSee 6 = .ok (.aload_n 0, 1) := by decide +kernel
theorem dX8_canSee_7 : decode cX8_canSee 7 = .ok (.getfield 11, 3) := by decide +kernel
theorem dX8_canSee_10 : decode cX8_canSee 10 = .ok (.iload_n 1, 1) := by decide +kernel
theorem dX8_canSee_11 : decode cX8_canSee 11 = .ok (.iaload, 1) := by decide +kernel
theorem dX8_canSee_12 : decode cX8_canSee 12 = .ok (.aload_n 0, 1) := by decide +kernel
theorem dX8_canSee_13 : decode cX8_canSee 13 = .ok (.getfield 15, 3) := by decide +kernel
theorem dX8_canSee_16 : decode cX8_canSee 16 = .ok (.iload_n 1, 1) := by decide +kernel
theorem dX8_canSee_17 : decode cX8_canSee 17 = .ok (.iaload, 1) := by decide +kernel
theorem dX8_canSee_18 : decode cX8_canSee 18 = .ok (.invokestatic 40, 3) := by decide +kernel
theorem dX8_canSee_21 : decode cX8_canSee 21 = .ok (.ifCond .ne 5, 3) := by decide +kernel
theorem dX8_canSee_24 : decode cX8_canSee 24 = .ok (.iconst 0, 1) := by decide +kernel
theorem dX8_canSee_25 : decode cX8_canSee 25 = .ok (.ireturn, 1) := by decide +kernel
theorem dX8_canSee_26 : decode cX8_canSee 26 = .ok (.iconst 0, 1) := by decide +kernel
theorem dX8_canSee_27 : decode cX8_canSee 27 = .ok (.istore_n 3, 1) := by decide +kernel
theorem dX8_canSee_28 : decode cX8_canSee 28 = .ok (.iload_n 3, 1) := by decide +kernel
theorem dX8_canSee_29 : decode cX8_canSee 29 = .ok (.iload_n 2, 1) := by decide +kernel
theorem dX8_canSee_30 : decode cX8_canSee 30 = .ok (.if_icmp .ge 30, 3) := by decide +kernel
theorem dX8_canSee_33 : decode cX8_canSee 33 = .ok (.aload_n 0, 1) := by decide +kernel
theorem dX8_canSee_34 : decode cX8_canSee 34 = .ok (.getfield 24, 3) := by decide +kernel
theorem dX8_canSee_37 : decode cX8_canSee 37 = .ok (.iload_n 3, 1) := by decide +kernel
theorem dX8_canSee_38 : decode cX8_canSee 38 = .ok (.iaload, 1) := by decide +kernel
theorem dX8_canSee_39 : decode cX8_canSee 39 = .ok (.iload_n 1, 1) := by decide +kernel
theorem dX8_canSee_40 : decode cX8_canSee 40 = .ok (.if_icmp .ne 14, 3) := by decide +kernel
theorem dX8_canSee_43 : decode cX8_canSee 43 = .ok (.aload_n 0, 1) := by decide +kernel
theorem dX8_canSee_44 : decode cX8_canSee 44 = .ok (.iload_n 2, 1) := by decide +kernel
theorem dX8_canSee_45 : decode cX8_canSee 45 = .ok (.iload_n 3, 1) := by decide +kernel
theorem dX8_canSee_46 : decode cX8_canSee 46 = .ok (.invokevirtual 61, 3) := by decide +kernel
theorem dX8_canSee_49 : decode cX8_canSee 49 = .ok (.ifCond .ne 5, 3) := by decide +kernel
theorem dX8_canSee_52 : decode cX8_canSee 52 = .ok (.iconst 0, 1) := by decide +kernel
theorem dX8_canSee_53 : decode cX8_canSee 53 = .ok (.ireturn, 1) := by decide +kernel
theorem dX8_canSee_54 : decode cX8_canSee 54 = .ok (.iinc 3 1, 3) := by decide +kernel
theorem dX8_canSee_57 : decode cX8_canSee 57 = .ok (.goto (-29), 3) := by decide +kernel
theorem dX8_canSee_60 : decode cX8_canSee 60 = .ok (.iconst 1, 1) := by decide +kernel
theorem dX8_canSee_61 : decode cX8_canSee 61 = .ok (.ireturn, 1) := by decide +kernel
theorem dX8_init_0 : decode cX8_init 0 = .ok (.aload_n 0, 1) := by decide +kernel
theorem dX8_init_1 : decode cX8_init 1 = .ok (.invokespecial 3, 3) := by decide +kernel
theorem dX8_init_4 : decode cX8_init 4 = .ok (.aload_n 0, 1) := by decide +kernel
theorem dX8_init_5 : decode cX8_init 5 = .ok (.iconst 4, 1) := by decide +kernel
theorem dX8_init_6 : decode cX8_init 6 = .ok (.newarray .int, 2) := by decide +kernel
theorem dX8_init_8 : decode cX8_init 8 = .ok (.putfield 11, 3) := by decide +kernel
theorem dX8_init_11 : decode cX8_init 11 = .ok (.aload_n 0, 1) := by decide +kernel
theorem dX8_init_12 : decode cX8_init 12 = .ok (.iconst 4, 1) := by decide +kernel
theorem dX8_init_13 : decode cX8_init 13 = .ok (.newarray .int, 2) := by decide +kernel
theorem dX8_init_15 : decode cX8_init 15 = .ok (.putfield 15, 3) := by decide +kernel
theorem dX8_init_18 : decode cX8_init 18 = .ok (.aload_n 0, 1) := by decide +kernel
theorem dX8_init_19 : decode cX8_init 19 = .ok (.bipush 8, 2) := by decide +kernel
theorem dX8_init_21 : decode cX8_init 21 = .ok (.newarray .int, 2) := by decide +kernel
theorem dX8_init_23 : decode cX8_init 23 = .ok (.putfield 18, 3) := by decide +kernel
theorem dX8_init_26 : decode cX8_init 26 = .ok (.aload_n 0, 1) := by decide +kernel
theorem dX8_init_27 : decode cX8_init 27 = .ok (.bipush 8, 2) := by decide +kernel
theorem dX8_init_29 : decode cX8_init 29 = .ok (.newarray .int, 2) := by decide +kernel
theorem dX8_init_31 : decode cX8_init 31 = .ok (.putfield 21, 3) := by decide +kernel
theorem dX8_init_34 : decode cX8_init 34 = .ok (.aload_n 0, 1) := by decide +kernel
theorem dX8_init_35 : decode cX8_init 35 = .ok (.bipush 8, 2) := by decide +kernel
theorem dX8_init_37 : decode cX8_init 37 = .ok (.newarray .int, 2) := by decide +kernel
theorem dX8_init_39 : decode cX8_init 39 = .ok (.putfield 24, 3) := by decide +kernel
theorem dX8_init_42 : decode cX8_init 42 = .ok (.aload_n 0, 1) := by decide +kernel
theorem dX8_init_43 : decode cX8_init 43 = .ok (.bipush 8, 2) := by decide +kernel
theorem dX8_init_45 : decode cX8_init 45 = .ok (.newarray .int, 2) := by decide +kernel
theorem dX8_init_47 : decode cX8_init 47 = .ok (.putfield 27, 3) := by decide +kernel
theorem dX8_init_50 : decode cX8_init 50 = .ok (.return_, 1) := by decide +kernel
theorem dX8_planAnew_0 : decode cX8_planAnew 0 = .ok (.aload_n 0, 1) := by decide +kernel
theorem dX8_planAnew_1 : decode cX8_planAnew 1 = .ok (.iconst (-1), 1) := by decide +kernel
theorem dX8_planAnew_2 : decode cX8_planAnew 2 = .ok (.putfield 37, 3) := by decide +kernel
theorem dX8_planAnew_5 : decode cX8_planAnew 5 = .ok (.aload_n 0, 1) := by decide +kernel
theorem dX8_planAnew_6 : decode cX8_planAnew 6 = .ok (.iconst 0, 1) := by decide +kernel
theorem dX8_planAnew_7 : decode cX8_planAnew 7 = .ok (.iconst 0, 1) := by decide +kernel
theorem dX8_planAnew_8 : decode cX8_planAnew 8 = .ok (.invokestatic 47, 3) := by decide +kernel
theorem dX8_planAnew_11 : decode cX8_planAnew 11 = .ok (.return_, 1) := by decide +kernel
theorem dX8_seen_0 : decode cX8_seen 0 = .ok (.aload_n 0, 1) := by decide +kernel
theorem dX8_seen_1 : decode cX8_seen 1 = .ok (.getfield 37, 3) := by decide +kernel
theorem dX8_seen_4 : decode cX8_seen 4 = .ok (.ireturn, 1) := by decide +kernel
theorem dX8_tryFrom_0 : decode cX8_tryFrom 0 = .ok (.iload_n 1, 1) := by decide +kernel
theorem dX8_tryFrom_1 : decode cX8_tryFrom 1 = .ok (.bipush 8, 2) := by decide +kernel
theorem dX8_tryFrom_3 : decode cX8_tryFrom 3 = .ok (.if_icmp .gt 18, 3) := by decide +kernel
theorem dX8_tryFrom_6 : decode cX8_tryFrom 6 = .ok (.iload_n 2, 1) := by decide +kernel
theorem dX8_tryFrom_7 : decode cX8_tryFrom 7 = .ok (.aload_n 0, 1) := by decide +kernel
theorem dX8_tryFrom_8 : decode cX8_tryFrom 8 = .ok (.getfield 34, 3) := by decide +kernel
theorem dX8_tryFrom_11 : decode cX8_tryFrom 11 = .ok (.iadd, 1) := by decide +kernel
theorem dX8_tryFrom_12 : decode cX8_tryFrom 12 = .ok (.iload_n 1, 1) := by decide +kernel
theorem dX8_tryFrom_13 : decode cX8_tryFrom 13 = .ok (.isub, 1) := by decide +kernel
theorem dX8_tryFrom_14 : decode cX8_tryFrom 14 = .ok (.aload_n 0, 1) := by decide +kernel
theorem dX8_tryFrom_15 : decode cX8_tryFrom 15 = .ok (.getfield 37, 3) := by decide +kernel
theorem dX8_tryFrom_18 : decode cX8_tryFrom 18 = .ok (.if_icmp .gt 4, 3) := by decide +kernel
theorem dX8_tryFrom_21 : decode cX8_tryFrom 21 = .ok (.return_, 1) := by decide +kernel
theorem dX8_tryFrom_22 : decode cX8_tryFrom 22 = .ok (.iload_n 1, 1) := by decide +kernel
theorem dX8_tryFrom_23 : decode cX8_tryFrom 23 = .ok (.aload_n 0, 1) := by decide +kernel
theorem dX8_tryFrom_24 : decode cX8_tryFrom 24 = .ok (.getfield 34, 3) := by decide +kernel
theorem dX8_tryFrom_27 : decode cX8_tryFrom 27 = .ok (.if_icmp .lt 24, 3) := by decide +kernel
theorem dX8_tryFrom_30 : decode cX8_tryFrom 30 = .ok (.aload_n 0, 1) := by decide +kernel
theorem dX8_tryFrom_31 : decode cX8_tryFrom 31 = .ok (.iload_n 2, 1) := by decide +kernel
theorem dX8_tryFrom_32 : decode cX8_tryFrom 32 = .ok (.putfield 37, 3) := by decide +kernel
theorem dX8_tryFrom_35 : decode cX8_tryFrom 35 = .ok (.aload_n 0, 1) := by decide +kernel
theorem dX8_tryFrom_36 : decode cX8_tryFrom 36 = .ok (.getfield 24, 3) := by decide +kernel
theorem dX8_tryFrom_39 : decode cX8_tryFrom 39 = .ok (.iconst 0, 1) := by decide +kernel
theorem dX8_tryFrom_40 : decode cX8_tryFrom 40 = .ok (.aload_n 0, 1) := by decide +kernel
theorem dX8_tryFrom_41 : decode cX8_tryFrom 41 = .ok (.getfield 27, 3) := by decide +kernel
theorem dX8_tryFrom_44 : decode cX8_tryFrom 44 = .ok (.iconst 0, 1) := by decide +kernel
theorem dX8_tryFrom_45 : decode cX8_tryFrom 45 = .ok (.bipush 8, 2) := by decide +kernel
theorem dX8_tryFrom_47 : decode cX8_tryFrom 47 = .ok (.invokestatic 51, 3) := by decide +kernel
theorem dX8_tryFrom_50 : decode cX8_tryFrom 50 = .ok (.return_, 1) := by decide +kernel
theorem dX8_tryFrom_51 : decode cX8_tryFrom 51 = .ok (.iconst 0, 1) := by decide +kernel
theorem dX8_tryFrom_52 : decode cX8_tryFrom 52 = .ok (.istore_n 3, 1) := by decide +kernel
theorem dX8_tryFrom_53 : decode cX8_tryFrom 53 = .ok (.iload_n 3, 1) := by decide +kernel
theorem dX8_tryFrom_54 : decode cX8_tryFrom 54 = .ok (.aload_n 0, 1) := by decide +kernel
theorem dX8_tryFrom_55 : decode cX8_tryFrom 55 = .ok (.getfield 30, 3) := by decide +kernel
theorem dX8_tryFrom_58 : decode cX8_tryFrom 58 = .ok (.if_icmp .ge 35, 3) := by decide +kernel
theorem dX8_tryFrom_61 : decode cX8_tryFrom 61 = .ok (.aload_n 0, 1) := by decide +kernel
theorem dX8_tryFrom_62 : decode cX8_tryFrom 62 = .ok (.iload_n 3, 1) := by decide +kernel
theorem dX8_tryFrom_63 : decode cX8_tryFrom 63 = .ok (.iload_n 1, 1) := by decide +kernel
theorem dX8_tryFrom_64 : decode cX8_tryFrom 64 = .ok (.invokevirtual 57, 3) := by decide +kernel
theorem dX8_tryFrom_67 : decode cX8_tryFrom 67 = .ok (.ifCond .eq 20, 3) := by decide +kernel
theorem dX8_tryFrom_70 : decode cX8_tryFrom 70 = .ok (.aload_n 0, 1) := by decide +kernel
theorem dX8_tryFrom_71 : decode cX8_tryFrom 71 = .ok (.getfield 24, 3) := by decide +kernel
theorem dX8_tryFrom_74 : decode cX8_tryFrom 74 = .ok (.iload_n 1, 1) := by decide +kernel
theorem dX8_tryFrom_75 : decode cX8_tryFrom 75 = .ok (.iload_n 3, 1) := by decide +kernel
theorem dX8_tryFrom_76 : decode cX8_tryFrom 76 = .ok (.iastore, 1) := by decide +kernel
theorem dX8_tryFrom_77 : decode cX8_tryFrom 77 = .ok (.aload_n 0, 1) := by decide +kernel
theorem dX8_tryFrom_78 : decode cX8_tryFrom 78 = .ok (.iload_n 1, 1) := by decide +kernel
theorem dX8_tryFrom_79 : decode cX8_tryFrom 79 = .ok (.iconst 1, 1) := by decide +kernel
theorem dX8_tryFrom_80 : decode cX8_tryFrom 80 = .ok (.iadd, 1) := by decide +kernel
theorem dX8_tryFrom_81 : decode cX8_tryFrom 81 = .ok (.iload_n 2, 1) := by decide +kernel
theorem dX8_tryFrom_82 : decode cX8_tryFrom 82 = .ok (.iconst 1, 1) := by decide +kernel
theorem dX8_tryFrom_83 : decode cX8_tryFrom 83 = .ok (.iadd, 1) := by decide +kernel
theorem dX8_tryFrom_84 : decode cX8_tryFrom 84 = .ok (.invokestatic 47, 3) := by decide +kernel
theorem dX8_tryFrom_87 : decode cX8_tryFrom 87 = .ok (.iinc 3 1, 3) := by decide +kernel
theorem dX8_tryFrom_90 : decode cX8_tryFrom 90 = .ok (.goto (-37), 3) := by decide +kernel
theorem dX8_tryFrom_93 : decode cX8_tryFrom 93 = .ok (.aload_n 0, 1) := by decide +kernel
theorem dX8_tryFrom_94 : decode cX8_tryFrom 94 = .ok (.getfield 24, 3) := by decide +kernel
theorem dX8_tryFrom_97 : decode cX8_tryFrom 97 = .ok (.iload_n 1, 1) := by decide +kernel
theorem dX8_tryFrom_98 : decode cX8_tryFrom 98 = .ok (.iconst (-1), 1) := by decide +kernel
theorem dX8_tryFrom_99 : decode cX8_tryFrom 99 = .ok (.iastore, 1) := by decide +kernel
theorem dX8_tryFrom_100 : decode cX8_tryFrom 100 = .ok (.aload_n 0, 1) := by decide +kernel
theorem dX8_tryFrom_101 : decode cX8_tryFrom 101 = .ok (.iload_n 1, 1) := by decide +kernel
theorem dX8_tryFrom_102 : decode cX8_tryFrom 102 = .ok (.iconst 1, 1) := by decide +kernel
theorem dX8_tryFrom_103 : decode cX8_tryFrom 103 = .ok (.iadd, 1) := by decide +kernel
theorem dX8_tryFrom_104 : decode cX8_tryFrom 104 = .ok (.iload_n 2, 1) := by decide +kernel
theorem dX8_tryFrom_105 : decode cX8_tryFrom 105 = .ok (.invokestatic 47, 3) := by decide +kernel
theorem dX8_tryFrom_108 : decode cX8_tryFrom 108 = .ok (.return_, 1) := by decide +kernel
theorem dX8_wanted_0 : decode cX8_wanted 0 = .ok (.aload_n 0, 1) := by decide +kernel
theorem dX8_wanted_1 : decode cX8_wanted 1 = .ok (.getfield 34, 3) := by decide +kernel
theorem dX8_wanted_4 : decode cX8_wanted 4 = .ok (.ireturn, 1) := by decide +kernel
theorem dX8_watcherOf_0 : decode cX8_watcherOf 0 = .ok (.iload_n 1, 1) := by decide +kernel
theorem dX8_watcherOf_1 : decode cX8_watcherOf 1 = .ok (.iconst 0, 1) := by decide +kernel
theorem dX8_watcherOf_2 : decode cX8_watcherOf 2 = .ok (.aload_n 0, 1) := by decide +kernel
theorem dX8_watcherOf_3 : decode cX8_watcherOf 3 = .ok (.getfield 34, 3) := by decide +kernel
theorem dX8_watcherOf_6 : decode cX8_watcherOf 6 = .ok (.iconst 1, 1) := by decide +kernel
theorem dX8_watcherOf_7 : decode cX8_watcherOf 7 = .ok (.isub, 1) := by decide +kernel
theorem dX8_watcherOf_8 : decode cX8_watcherOf 8 = .ok (.invokestatic 40, 3) := by decide +kernel
theorem dX8_watcherOf_11 : decode cX8_watcherOf 11 = .ok (.ifCond .eq 21, 3) := by decide +kernel
theorem dX8_watcherOf_14 : decode cX8_watcherOf 14 = .ok (.iload_n 1, 1) := by decide +kernel
theorem dX8_watcherOf_15 : decode cX8_watcherOf 15 = .ok (.aload_n 0, 1) := by decide +kernel
theorem dX8_watcherOf_16 : decode cX8_watcherOf 16 = .ok (.getfield 27, 3) := by decide +kernel
theorem dX8_watcherOf_19 : decode cX8_watcherOf 19 = .ok (.arraylength, 1) := by decide +kernel
theorem dX8_watcherOf_20 : decode cX8_watcherOf 20 = .ok (.if_icmp .ge 12, 3) := by decide +kernel
theorem dX8_watcherOf_23 : decode cX8_watcherOf 23 = .ok (.aload_n 0, 1) := by decide +kernel
theorem dX8_watcherOf_24 : decode cX8_watcherOf 24 = .ok (.getfield 27, 3) := by decide +kernel
theorem dX8_watcherOf_27 : decode cX8_watcherOf 27 = .ok (.iload_n 1, 1) := by decide +kernel
theorem dX8_watcherOf_28 : decode cX8_watcherOf 28 = .ok (.iaload, 1) := by decide +kernel
theorem dX8_watcherOf_29 : decode cX8_watcherOf 29 = .ok (.goto 4, 3) := by decide +kernel
theorem dX8_watcherOf_32 : decode cX8_watcherOf 32 = .ok (.iconst (-1), 1) := by decide +kernel
theorem dX8_watcherOf_33 : decode cX8_watcherOf 33 = .ok (.ireturn, 1) := by decide +kernel
theorem dX8_watchers_0 : decode cX8_watchers 0 = .ok (.aload_n 0, 1) := by decide +kernel
theorem dX8_watchers_1 : decode cX8_watchers 1 = .ok (.getfield 30, 3) := by decide +kernel
theorem dX8_watchers_4 : decode cX8_watchers 4 = .ok (.ireturn, 1) := by decide +kernel
