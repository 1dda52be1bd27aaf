theorem dX12_days_0 : decode cX12_days 0 = .ok (.aload_n 0, 1) := by decide +kernel
theorem dX12_days_1 : decode cX12_days 1 = .ok (.iconst 0, 1) := by decide +kernel
theorem dX12_days_2 : decode cX12_days 2 = .ok (.putfield 138, 3) := by decide +kernel
theorem dX12_days_5 : decode cX12_days 5 = .ok (.iload_n 1, 1) := by decide +kernel
theorem dX12_days_6 : decode cX12_days 6 = .ok (.iconst 0, 1) := by decide +kernel
theorem dX12_days_7 : decode cX12_days 7 = .ok (.sipush 400, 3) := by decide +kernel
theorem dX12_days_10 : decode cX12_days 10 = .ok (.invokestatic 145, 3) := by decide +kernel
theorem dX12_days_13 : decode cX12_days 13 = .ok (.ifCond .eq 15, 3) := by decide +kernel
theorem dX12_days_16 : decode cX12_days 16 = .ok (.aload_n 0, 1) := by decide +kernel
theorem dX12_days_17 : decode cX12_days 17 = .ok (.getfield 142, 3) := by decide +kernel
theorem dX12_days_20 : decode cX12_days 20 = .ok (.iload_n 1, 1) := by decide +kernel
theorem dX12_days_21 : decode cX12_days 21 = .ok (.iadd, 1) := by decide +kernel
theorem dX12_days_22 : decode cX12_days 22 = .ok (.sipush 1000, 3) := by decide +kernel
theorem dX12_days_25 : decode cX12_days 25 = .ok (.if_icmp .le 5, 3) := by decide +kernel
theorem dX12_days_28 : decode cX12_days 28 = .ok (.iconst (-1), 1) := by decide +kernel
theorem dX12_days_29 : decode cX12_days 29 = .ok (.ireturn, 1) := by decide +kernel
theorem dX12_days_30 : decode cX12_days 30 = .ok (.aload_n 0, 1) := by decide +kernel
theorem dX12_days_31 : decode cX12_days 31 = .ok (.dup, 1) := by decide +kernel
theorem dX12_days_32 : decode cX12_days 32 = .ok (.getfield 142, 3) := by decide +kernel
theorem dX12_days_35 : decode cX12_days 35 = .ok (.iload_n 1, 1) := by decide +kernel
theorem dX12_days_36 : decode cX12_days 36 = .ok (.iadd, 1) := by decide +kernel
theorem dX12_days_37 : decode cX12_days 37 = .ok (.putfield 142, 3) := by decide +kernel
theorem dX12_days_40 : decode cX12_days 40 = .ok (.aload_n 0, 1) := by decide +kernel
theorem dX12_days_41 : decode cX12_days 41 = .ok (.getfield 142, 3) := by decide +kernel
theorem dX12_days_44 : decode cX12_days 44 = .ok (.ireturn, 1) := by decide +kernel
theorem dX12_isDay_0 : decode cX12_isDay 0 = .ok (.iload_n 0, 1) := by decide +kernel
theorem dX12_isDay_1 : decode cX12_isDay 1 = .ok (.iconst 0, 1) := by decide +kernel
theorem dX12_isDay_2 : decode cX12_isDay 2 = .ok (.sipush 1000, 3) := by decide +kernel
theorem dX12_isDay_5 : decode cX12_isDay 5 = .ok (.invokestatic 145, 3) := by decide +kernel
theorem dX12_isDay_8 : decode cX12_isDay 8 = .ok (.ireturn, 1) := by decide +kernel
theorem dX12_isIn_0 : decode cX12_isIn 0 = .ok (.iload_n 0, 1) := by decide +kernel
theorem dX12_isIn_1 : decode cX12_isIn 1 = .ok (.iload_n 1, 1) := by decide +kernel
theorem dX12_isIn_2 : decode cX12_isIn 2 = .ok (.if_icmp .lt 12, 3) := by decide +kernel
theorem dX12_isIn_5 : decode cX12_isIn 5 = .ok (.iload_n 0, 1) := by decide +kernel
theorem dX12_isIn_6 : decode cX12_isIn 6 = .ok (.iload_n 2, 1) := by decide +kernel
theorem dX12_isIn_7 : decode cX12_isIn 7 = .ok (.if_icmp .gt 7, 3) := by decide +kernel
theorem dX12_isIn_10 : decode cX12_isIn 10 = .ok (.iconst 1, 1) := by decide +kernel
theorem dX12_isIn_11 : decode cX12_isIn 11 = .ok (.goto 4, 3) := by decide +kernel
theorem dX12_isIn_14 : decode cX12_isIn 14 = .ok (.iconst 0, 1) := by decide +kernel
theorem dX12_isIn_15 : decode cX12_isIn 15 = .ok (.ireturn, 1) := by decide +kernel
theorem dX12_isKnown_0 : decode cX12_isKnown 0 = .ok (.iload_n 1, 1) := by decide +kernel
theorem dX12_isKnown_1 : decode cX12_isKnown 1 = .ok (.iconst 0, 1) := by decide +kernel
theorem dX12_isKnown_2 : decode cX12_isKnown 2 = .ok (.aload_n 0, 1) := by decide +kernel
theorem dX12_isKnown_3 : decode cX12_isKnown 3 = .ok (.getfield 142, 3) := by decide +kernel
theorem dX12_isKnown_6 : decode cX12_isKnown 6 = .ok (.invokestatic 145, 3) := by decide +kernel
theorem dX12_isKnown_9 : decode cX12_isKnown 9 = .ok (.ireturn, 1) := by decide +kernel
theorem dX12_isLine_0 : decode cX12_isLine 0 = .ok (.iload_n 1, 1) := by decide +kernel
theorem dX12_isLine_1 : decode cX12_isLine 1 = .ok (.ifCond .lt 15, 3) := by decide +kernel
theorem dX12_isLine_4 : decode cX12_isLine 4 = .ok (.iload_n 1, 1) := by decide +kernel
theorem dX12_isLine_5 : decode cX12_isLine 5 = .ok (.aload_n 0, 1) := by decide +kernel
theorem dX12_isLine_6 : decode cX12_isLine 6 = .ok (.getfield 152, 3) := by decide +kernel
theorem dX12_isLine_9 : decode cX12_isLine 9 = .ok (.if_icmp .ge 7, 3) := by decide +kernel
theorem dX12_isLine_12 : decode cX12_isLine 12 = .ok (.iconst 1, 1) := by decide +kernel
theorem dX12_isLine_13 : decode cX12_isLine 13 = .ok (.goto 4, 3) := by decide +kernel
theorem dX12_isLine_16 : decode cX12_isLine 16 = .ok (.iconst 0, 1) := by decide +kernel
theorem dX12_isLine_17 : decode cX12_isLine 17 = .ok (.ireturn, 1) := by decide +kernel
theorem dX12_isLineBy_0 : decode cX12_isLineBy 0 = .ok (.aload_n 0, 1) := by decide +kernel
theorem dX12_isLineBy_1 : decode cX12_isLineBy 1 = .ok (.iload_n 1, 1) := by decide +kernel
theorem dX12_isLineBy_2 : decode cX12_isLineBy 2 = .ok (.invokevirtual 155, 3) := by decide +kernel
theorem dX12_isLineBy_5 : decode cX12_isLineBy 5 = .ok (.ifCond .eq 25, 3) := by decide +kernel
theorem dX12_isLineBy_8 : decode cX12_isLineBy 8 = .ok (.aload_n 0, 1) := by decide +kernel
theorem dX12_isLineBy_9 : decode cX12_isLineBy 9 = .ok (.iload_n 2, 1) := by decide +kernel
theorem dX12_isLineBy_10 : decode cX12_isLineBy 10 = .ok (.invokevirtual 159, 3) := by decide +kernel
theorem dX12_isLineBy_13 : decode cX12_isLineBy 13 = .ok (.ifCond .eq 17, 3) := by decide +kernel
theorem dX12_isLineBy_16 : decode cX12_isLineBy 16 = .ok (.aload_n 0, 1) := by decide +kernel
theorem dX12_isLineBy_17 : decode cX12_isLineBy 17 = .ok (.getfield 46, 3) := by decide +kernel
theorem dX12_isLineBy_20 : decode cX12_isLineBy 20 = .ok (.iload_n 1, 1) := by decide +kernel
theorem dX12_isLineBy_21 : decode cX12_isLineBy 21 = .ok (.iaload, 1) := by decide +kernel
theorem dX12_isLineBy_22 : decode cX12_isLineBy 22 = .ok (.iload_n 2, 1) := by decide +kernel
theorem dX12_isLineBy_23 : decode cX12_isLineBy 23 = .ok (.if_icmp .gt 7, 3) := by decide +kernel
theorem dX12_isLineBy_26 : decode cX12_isLineBy 26 = .ok (.iconst 1, 1) := by decide +kernel
theorem dX12_isLineBy_27 : decode cX12_isLineBy 27 = .ok (.goto 4, 3) := by decide +kernel
theorem dX12_isLineBy_30 : decode cX12_isLineBy 30 = .ok (.iconst 0, 1) := by decide +kernel
theorem dX12_isLineBy_31 : decode cX12_isLineBy 31 = .ok (.ireturn, 1) := by decide +kernel
theorem dX12_isPerson_0 : decode cX12_isPerson 0 = .ok (.iload_n 1, 1) := by decide +kernel
theorem dX12_isPerson_1 : decode cX12_isPerson 1 = .ok (.ifCond .lt 15, 3) := by decide +kernel
theorem dX12_isPerson_4 : decode cX12_isPerson 4 = .ok (.iload_n 1, 1) := by decide +kernel
theorem dX12_isPerson_5 : decode cX12_isPerson 5 = .ok (.aload_n 0, 1) := by decide +kernel
theorem dX12_isPerson_6 : decode cX12_isPerson 6 = .ok (.getfield 149, 3) := by decide +kernel
theorem dX12_isPerson_9 : decode cX12_isPerson 9 = .ok (.if_icmp .ge 7, 3) := by decide +kernel
theorem dX12_isPerson_12 : decode cX12_isPerson 12 = .ok (.iconst 1, 1) := by decide +kernel
theorem dX12_isPerson_13 : decode cX12_isPerson 13 = .ok (.goto 4, 3) := by decide +kernel
theorem dX12_isPerson_16 : decode cX12_isPerson 16 = .ok (.iconst 0, 1) := by decide +kernel
theorem dX12_isPerson_17 : decode cX12_isPerson 17 = .ok (.ireturn, 1) := by decide +kernel
theorem dX12_isSort_0 : decode cX12_isSort 0 = .ok (.iload_n 0, 1) := by decide +kernel
theorem dX12_isSort_1 : decode cX12_isSort 1 = .ok (.iconst 0, 1) := by decide +kernel
theorem dX12_isSort_2 : decode cX12_isSort 2 = .ok (.bipush 9, 2) := by decide +kernel
theorem dX12_isSort_4 : decode cX12_isSort 4 = .ok (.invokestatic 145, 3) := by decide +kernel
theorem dX12_isSort_7 : decode cX12_isSort 7 = .ok (.ireturn, 1) := by decide +kernel
theorem dX12_person_0 : decode cX12_person 0 = .ok (.aload_n 0, 1) := by decide +kernel
theorem dX12_person_1 : decode cX12_person 1 = .ok (.iconst 0, 1) := by decide +kernel
theorem dX12_person_2 : decode cX12_person 2 = .ok (.putfield 138, 3) := by decide +kernel
theorem dX12_person_5 : decode cX12_person 5 = .ok (.aload_n 0, 1) := by decide +kernel
theorem dX12_person_6 : decode cX12_person 6 = .ok (.getfield 149, 3) := by decide +kernel
theorem dX12_person_9 : decode cX12_person 9 = .ok (.bipush 24, 2) := by decide +kernel
theorem dX12_person_11 : decode cX12_person 11 = .ok (.if_icmp .eq 34, 3) := by decide +kernel
theorem dX12_person_14 : decode cX12_person 14 = .ok (.iload_n 1, 1) := by decide +kernel
theorem dX12_person_15 : decode cX12_person 15 = .ok (.iconst 0, 1) := by decide +kernel
theorem dX12_person_16 : decode cX12_person 16 = .ok (.bipush 7, 2) := by decide +kernel
theorem dX12_person_18 : decode cX12_person 18 = .ok (.invokestatic 145, 3) := by decide +kernel
theorem dX12_person_21 : decode cX12_person 21 = .ok (.ifCond .eq 24, 3) := by decide +kernel
theorem dX12_person_24 : decode cX12_person 24 = .ok (.iload_n 2, 1) := by decide +kernel
theorem dX12_person_25 : decode cX12_person 25 = .ok (.bipush 10, 2) := by decide +kernel
theorem dX12_person_27 : decode cX12_person 27 = .ok (.bipush 99, 2) := by decide +kernel
theorem dX12_person_29 : decode cX12_person 29 = .ok (.invokestatic 145, 3) := by decide +kernel
theorem dX12_person_32 : decode cX12_person 32 = .ok (.ifCond .eq 13, 3) := by decide +kernel
theorem dX12_person_35 : decode cX12_person 35 = .ok (.iload_n 3, 1) := by decide +kernel
theorem dX12_person_36 : decode cX12_person 36 = .ok (.iconst 0, 1) := by decide +kernel
theorem dX12_person_37 : decode cX12_person 37 = .ok (.bipush 7, 2) := by decide +kernel
theorem dX12_person_39 : decode cX12_person 39 = .ok (.invokestatic 145, 3) := by decide +kernel
theorem dX12_person_42 : decode cX12_person 42 = .ok (.ifCond .ne 5, 3) := by decide +kernel
theorem dX12_person_45 : decode cX12_person 45 = .ok (.iconst (-1), 1) := by decide +kernel
theorem dX12_person_46 : decode cX12_person 46 = .ok (.ireturn, 1) := by decide +kernel
theorem dX12_person_47 : decode cX12_person 47 = .ok (.aload_n 0, 1) := by decide +kernel
theorem dX12_person_48 : decode cX12_person 48 = .ok (.getfield 9, 3) := by decide +kernel
theorem dX12_person_51 : decode cX12_person 51 = .ok (.aload_n 0, 1) := by decide +kernel
theorem dX12_person_52 : decode cX12_person 52 = .ok (.getfield 149, 3) := by decide +kernel
theorem dX12_person_55 : decode cX12_person 55 = .ok (.iload_n 1, 1) := by decide +kernel
theorem dX12_person_56 : decode cX12_person 56 = .ok (.iastore, 1) := by decide +kernel
theorem dX12_person_57 : decode cX12_person 57 = .ok (.aload_n 0, 1) := by decide +kernel
theorem dX12_person_58 : decode cX12_person 58 = .ok (.getfield 13, 3) := by decide +kernel
theorem dX12_person_61 : decode cX12_person 61 = .ok (.aload_n 0, 1) := by decide +kernel
theorem dX12_person_62 : decode cX12_person 62 = .ok (.getfield 149, 3) := by decide +kernel
theorem dX12_person_65 : decode cX12_person 65 = .ok (.iload_n 2, 1) := by decide +kernel
theorem dX12_person_66 : decode cX12_person 66 = .ok (.iastore, 1) := by decide +kernel
theorem dX12_person_67 : decode cX12_person 67 = .ok (.aload_n 0, 1) := by decide +kernel
theorem dX12_person_68 : decode cX12_person 68 = .ok (.getfield 16, 3) := by decide +kernel
theorem dX12_person_71 : decode cX12_person 71 = .ok (.aload_n 0, 1) := by decide +kernel
theorem dX12_person_72 : decode cX12_person 72 = .ok (.getfield 149, 3) := by decide +kernel
theorem dX12_person_75 : decode cX12_person 75 = .ok (.iload_n 3, 1) := by decide +kernel
theorem dX12_person_76 : decode cX12_person 76 = .ok (.iastore, 1) := by decide +kernel
theorem dX12_person_77 : decode cX12_person 77 = .ok (.aload_n 0, 1) := by decide +kernel
theorem dX12_person_78 : decode cX12_person 78 = .ok (.dup, 1) := by decide +kernel
theorem dX12_person_79 : decode cX12_person 79 = .ok (.getfield 149, 3) := by decide +kernel
theorem dX12_person_82 : decode cX12_person 82 = .ok (.iconst 1, 1) := by decide +kernel
theorem dX12_person_83 : decode cX12_person 83 = .ok (.iadd, 1) := by decide +kernel
theorem dX12_person_84 : decode cX12_person 84 = .ok (.putfield 149, 3) := by decide +kernel
theorem dX12_person_87 : decode cX12_person 87 = .ok (.aload_n 0, 1) := by decide +kernel
theorem dX12_person_88 : decode cX12_person 88 = .ok (.getfield 149, 3) := by decide +kernel
theorem dX12_person_91 : decode cX12_person 91 = .ok (.iconst 1, 1) := by decide +kernel
theorem dX12_person_92 : decode cX12_person 92 = .ok (.isub, 1) := by decide +kernel
theorem dX12_person_93 : decode cX12_person 93 = .ok (.ireturn, 1) := by decide +kernel
theorem dX12_stopsFrom_0 : decode cX12_stopsFrom 0 = .ok (.iconst (-1), 1) := by decide +kernel
theorem dX12_stopsFrom_1 : decode cX12_stopsFrom 1 = .ok (.istore_n 3, 1) := by decide +kernel
theorem dX12_stopsFrom_2 : decode cX12_stopsFrom 2 = .ok (.iconst 0, 1) := by decide +kernel
theorem dX12_stopsFrom_3 : decode cX12_stopsFrom 3 = .ok (.istore 4, 2) := by decide +kernel
theorem dX12_stopsFrom_5 : decode cX12_stopsFrom 5 = .ok (.iload 4, 2) := by decide +kernel
theorem dX12_stopsFrom_7 : decode cX12_stopsFrom 7 = .ok (.aload_n 0, 1) := by decide +kernel
theorem dX12_stopsFrom_8 : decode cX12_stopsFrom 8 = .ok (.getfield 162, 3) := by decide +kernel
theorem dX12_stopsFrom_11 : decode cX12_stopsFrom 11 = .ok (.if_icmp .ge 39, 3) := by decide +kernel
theorem dX12_stopsFrom_14 : decode cX12_stopsFrom 14 = .ok (.aload_n 0, 1) := by decide +kernel
theorem dX12_stopsFrom_15 : decode cX12_stopsFrom 15 = .ok (.getfield 19, 3) := by decide +kernel
theorem dX12_stopsFrom_18 : decode cX12_stopsFrom 18 = .ok (.iload 4, 2) := by decide +kernel
theorem dX12_stopsFrom_20 : decode cX12_stopsFrom 20 = .ok (.iaload, 1) := by decide +kernel
theorem dX12_stopsFrom_21 : decode cX12_stopsFrom 21 = .ok (.iload_n 1, 1) := by decide +kernel
theorem dX12_stopsFrom_22 : decode cX12_stopsFrom 22 = .ok (.if_icmp .ne 22, 3) := by decide +kernel
theorem dX12_stopsFrom_25 : decode cX12_stopsFrom 25 = .ok (.aload_n 0, 1) := by decide +kernel
theorem dX12_stopsFrom_26 : decode cX12_stopsFrom 26 = .ok (.getfield 25, 3) := by decide +kernel
theorem dX12_stopsFrom_29 : decode cX12_stopsFrom 29 = .ok (.iload 4, 2) := by decide +kernel
theorem dX12_stopsFrom_31 : decode cX12_stopsFrom 31 = .ok (.iaload, 1) := by decide +kernel
theorem dX12_stopsFrom_32 : decode cX12_stopsFrom 32 = .ok (.iload_n 2, 1) := by decide +kernel
theorem dX12_stopsFrom_33 : decode cX12_stopsFrom 33 = .ok (.if_icmp .gt 11, 3) := by decide +kernel
theorem dX12_stopsFrom_36 : decode cX12_stopsFrom 36 = .ok (.aload_n 0, 1) := by decide +kernel
theorem dX12_stopsFrom_37 : decode cX12_stopsFrom 37 = .ok (.getfield 22, 3) := by decide +kernel
theorem dX12_stopsFrom_40 : decode cX12_stopsFrom 40 = .ok (.iload 4, 2) := by decide +kernel
theorem dX12_stopsFrom_42 : decode cX12_stopsFrom 42 = .ok (.iaload, 1) := by decide +kernel
theorem dX12_stopsFrom_43 : decode cX12_stopsFrom 43 = .ok (.istore_n 3, 1) := by decide +kernel
theorem dX12_stopsFrom_44 : decode cX12_stopsFrom 44 = .ok (.iinc 4 1, 3) := by decide +kernel
theorem dX12_stopsFrom_47 : decode cX12_stopsFrom 47 = .ok (.goto (-42), 3) := by decide +kernel
theorem dX12_stopsFrom_50 : decode cX12_stopsFrom 50 = .ok (.iload_n 3, 1) := by decide +kernel
theorem dX12_stopsFrom_51 : decode cX12_stopsFrom 51 = .ok (.ireturn, 1) := by decide +kernel
