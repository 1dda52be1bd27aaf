theorem dX10_add_0 : decode cX10_add 0 = .ok (.aload_n 0, 1) := by decide +kernel
theorem dX10_add_1 : decode cX10_add 1 = .ok (.getfield 18, 3) := by decide +kernel
theorem dX10_add_4 : decode cX10_add 4 = .ok (.aload_n 0, 1) := by decide +kernel
theorem dX10_add_5 : decode cX10_add 5 = .ok (.getfield 9, 3) := by decide +kernel
theorem dX10_add_8 : decode cX10_add 8 = .ok (.arraylength, 1) := by decide +kernel
theorem dX10_add_9 : decode cX10_add 9 = .ok (.if_icmp .lt 4, 3) := by decide +kernel
theorem dX10_add_12 : decode cX10_add 12 = .ok (.return_, 1) := by decide +kernel
theorem dX10_add_13 : decode cX10_add 13 = .ok (.aload_n 0, 1) := by decide +kernel
theorem dX10_add_14 : decode cX10_add 14 = .ok (.getfield 18, 3) := by decide +kernel
theorem dX10_add_17 : decode cX10_add 17 = .ok (.istore_n 3, 1) := by decide +kernel
theorem dX10_add_18 : decode cX10_add 18 = .ok (.iload_n 3, 1) := by decide +kernel
theorem dX10_add_19 : decode cX10_add 19 = .ok (.ifCond .le 49, 3) := by decide +kernel
theorem dX10_add_22 : decode cX10_add 22 = .ok (.aload_n 0, 1) := by decide +kernel
theorem dX10_add_23 : decode cX10_add 23 = .ok (.getfield 9, 3) := by decide +kernel
theorem dX10_add_26 : decode cX10_add 26 = .ok (.iload_n 3, 1) := by decide +kernel
theorem dX10_add_27 : decode cX10_add 27 = .ok (.iconst 1, 1) := by decide +kernel
theorem dX10_add_28 : decode cX10_add 28 = .ok (.isub, 1) := by decide +kernel
theorem dX10_add_29 : decode cX10_add 29 = .ok (.iaload, 1) := by decide +kernel
theorem dX10_add_30 : decode cX10_add 30 = .ok (.iload_n 1, 1) := by decide +kernel
theorem dX10_add_31 : decode cX10_add 31 = .ok (.if_icmp .le 37, 3) := by decide +kernel
theorem dX10_add_34 : decode cX10_add 34 = .ok (.aload_n 0, 1) := by decide +kernel
theorem dX10_add_35 : decode cX10_add 35 = .ok (.getfield 9, 3) := by decide +kernel
theorem dX10_add_38 : decode cX10_add 38 = .ok (.iload_n 3, 1) := by decide +kernel
theorem dX10_add_39 : decode cX10_add 39 = .ok (.aload_n 0, 1) := by decide +kernel
theorem dX10_add_40 : decode cX10_add 40 = .ok (.getfield 9, 3) := by decide +kernel
theorem dX10_add_43 : decode cX10_add 43 = .ok (.iload_n 3, 1) := by decide +kernel
theorem dX10_add_44 : decode cX10_add 44 = .ok (.iconst 1, 1) := by decide +kernel
theorem dX10_add_45 : decode cX10_add 45 = .ok (.isub, 1) := by decide +kernel
theorem dX10_add_46 : decode cX10_add 46 = .ok (.iaload, 1) := by decide +kernel
theorem dX10_add_47 : decode cX10_add 47 = .ok (.iastore, 1) := by decide +kernel
theorem dX10_add_48 : decode cX10_add 48 = .ok (.aload_n 0, 1) := by decide +kernel
theorem dX10_add_49 : decode cX10_add 49 = .ok (.getfield 15, 3) := by decide +kernel
theorem dX10_add_52 : decode cX10_add 52 = .ok (.iload_n 3, 1) := by decide +kernel
theorem dX10_add_53 : decode cX10_add 53 = .ok (.aload_n 0, 1) := by decide +kernel
theorem dX10_add_54 : decode cX10_add 54 = .ok (.getfield 15, 3) := by decide +kernel
theorem dX10_add_57 : decode cX10_add 57 = .ok (.iload_n 3, 1) := by decide +kernel
theorem dX10_add_58 : decode cX10_add 58 = .ok (.iconst 1, 1) := by decide +kernel
theorem dX10_add_59 : decode cX10_add 59 = .ok (.isub, 1) := by decide +kernel
theorem dX10_add_60 : decode cX10_add 60 = .ok (.iaload, 1) := by decide +kernel
theorem dX10_add_61 : decode cX10_add 61 = .ok (.iastore, 1) := by decide +kernel
theorem dX10_add_62 : decode cX10_add 62 = .ok (.iinc 3 (-1), 3) := by decide +kernel
theorem dX10_add_65 : decode cX10_add 65 = .ok (.goto (-47), 3) := by decide +kernel
theorem dX10_add_68 : decode cX10_add 68 = .ok (.aload_n 0, 1) := by decide +kernel
theorem dX10_add_69 : decode cX10_add 69 = .ok (.getfield 9, 3) := by decide +kernel
theorem dX10_add_72 : decode cX10_add 72 = .ok (.iload_n 3, 1) := by decide +kernel
theorem dX10_add_73 : decode cX10_add 73 = .ok (.iload_n 1, 1) := by decide +kernel
theorem dX10_add_74 : decode cX10_add 74 = .ok (.iastore, 1) := by decide +kernel
theorem dX10_add_75 : decode cX10_add 75 = .ok (.aload_n 0, 1) := by decide +kernel
theorem dX10_add_76 : decode cX10_add 76 = .ok (.getfield 15, 3) := by decide +kernel
theorem dX10_add_79 : decode cX10_add 79 = .ok (.iload_n 3, 1) := by decide +kernel
theorem dX10_add_80 : decode cX10_add 80 = .ok (.iload_n 2, 1) := by decide +kernel
theorem dX10_add_81 : decode cX10_add 81 = .ok (.iastore, 1) := by decide +kernel
theorem dX10_add_82 : decode cX10_add 82 = .ok (.aload_n 0, 1) := by decide +kernel
theorem dX10_add_83 : decode cX10_add 83 = .ok (.dup, 1) := by decide +kernel
theorem dX10_add_84 : decode cX10_add 84 = .ok (.getfield 18, 3) := by decide +kernel
theorem dX10_add_87 : decode cX10_add 87 = .ok (.iconst 1, 1) := by decide +kernel
theorem dX10_add_88 : decode cX10_add 88 = .ok (.iadd, 1) := by decide +kernel
theorem dX10_add_89 : decode cX10_add 89 = .ok (.putfield 18, 3) := by decide +kernel
theorem dX10_add_92 : decode cX10_add 92 = .ok (.return_, 1) := by decide +kernel
theorem dX10_chanceAt_0 : decode cX10_chanceAt 0 = .ok (.iload_n 1, 1) := by decide +kernel
theorem dX10_chanceAt_1 : decode cX10_chanceAt 1 = .ok (.iconst 1, 1) := by decide +kernel
theorem dX10_chanceAt_2 : decode cX10_chanceAt 2 = .ok (.aload_n 0, 1) := by decide +kernel
theorem dX10_chanceAt_3 : decode cX10_chanceAt 3 = .ok (.getfield 18, 3) := by decide +kernel
theorem dX10_chanceAt_6 : decode cX10_chanceAt 6 = .ok (.iconst 1, 1) := by decide +kernel
theorem dX10_chanceAt_7 : decode cX10_chanceAt 7 = .ok (.isub, 1) := by decide +kernel
theorem dX10_chanceAt_8 : decode cX10_chanceAt 8 = .ok (.invokestatic 30, 3) := by decide +kernel
theorem dX10_chanceAt_11 : decode cX10_chanceAt 11 = .ok (.ifCond .ne 5, 3) := by decide +kernel
theorem dX10_chanceAt_14 : decode cX10_chanceAt 14 = .ok (.iconst (-1), 1) := by decide +kernel
theorem dX10_chanceAt_15 : decode cX10_chanceAt 15 = .ok (.ireturn, 1) := by decide +kernel
theorem dX10_chanceAt_16 : decode cX10_chanceAt 16 = .ok (.aload_n 0, 1) := by decide +kernel
theorem dX10_chanceAt_17 : decode cX10_chanceAt 17 = .ok (.aload_n 0, 1) := by decide +kernel
theorem dX10_chanceAt_18 : decode cX10_chanceAt 18 = .ok (.getfield 18, 3) := by decide +kernel
theorem dX10_chanceAt_21 : decode cX10_chanceAt 21 = .ok (.invokevirtual 22, 3) := by decide +kernel
theorem dX10_chanceAt_24 : decode cX10_chanceAt 24 = .ok (.istore_n 2, 1) := by decide +kernel
theorem dX10_chanceAt_25 : decode cX10_chanceAt 25 = .ok (.aload_n 0, 1) := by decide +kernel
theorem dX10_chanceAt_26 : decode cX10_chanceAt 26 = .ok (.iload_n 1, 1) := by decide +kernel
theorem dX10_chanceAt_27 : decode cX10_chanceAt 27 = .ok (.invokevirtual 22, 3) := by decide +kernel
theorem dX10_chanceAt_30 : decode cX10_chanceAt 30 = .ok (.istore_n 3, 1) := by decide +kernel
theorem dX10_chanceAt_31 : decode cX10_chanceAt 31 = .ok (.aload_n 0, 1) := by decide +kernel
theorem dX10_chanceAt_32 : decode cX10_chanceAt 32 = .ok (.iload_n 3, 1) := by decide +kernel
theorem dX10_chanceAt_33 : decode cX10_chanceAt 33 = .ok (.iload_n 2, 1) := by decide +kernel
theorem dX10_chanceAt_34 : decode cX10_chanceAt 34 = .ok (.iload_n 1, 1) := by decide +kernel
theorem dX10_chanceAt_35 : decode cX10_chanceAt 35 = .ok (.invokevirtual 26, 3) := by decide +kernel
theorem dX10_chanceAt_38 : decode cX10_chanceAt 38 = .ok (.lstore 4, 2) := by decide +kernel
theorem dX10_chanceAt_40 : decode cX10_chanceAt 40 = .ok (.iconst 0, 1) := by decide +kernel
theorem dX10_chanceAt_41 : decode cX10_chanceAt 41 = .ok (.istore 6, 2) := by decide +kernel
theorem dX10_chanceAt_43 : decode cX10_chanceAt 43 = .ok (.iconst 0, 1) := by decide +kernel
theorem dX10_chanceAt_44 : decode cX10_chanceAt 44 = .ok (.istore 7, 2) := by decide +kernel
theorem dX10_chanceAt_46 : decode cX10_chanceAt 46 = .ok (.iload 7, 2) := by decide +kernel
theorem dX10_chanceAt_48 : decode cX10_chanceAt 48 = .ok (.aload_n 0, 1) := by decide +kernel
theorem dX10_chanceAt_49 : decode cX10_chanceAt 49 = .ok (.getfield 18, 3) := by decide +kernel
theorem dX10_chanceAt_52 : decode cX10_chanceAt 52 = .ok (.if_icmp .ge 72, 3) := by decide +kernel
theorem dX10_chanceAt_55 : decode cX10_chanceAt 55 = .ok (.aload_n 0, 1) := by decide +kernel
theorem dX10_chanceAt_56 : decode cX10_chanceAt 56 = .ok (.iload_n 3, 1) := by decide +kernel
theorem dX10_chanceAt_57 : decode cX10_chanceAt 57 = .ok (.iload_n 2, 1) := by decide +kernel
theorem dX10_chanceAt_58 : decode cX10_chanceAt 58 = .ok (.iload_n 1, 1) := by decide +kernel
theorem dX10_chanceAt_59 : decode cX10_chanceAt 59 = .ok (.invokevirtual 26, 3) := by decide +kernel
theorem dX10_chanceAt_62 : decode cX10_chanceAt 62 = .ok (.lload 4, 2) := by decide +kernel
theorem dX10_chanceAt_64 : decode cX10_chanceAt 64 = .ok (.lcmp, 1) := by decide +kernel
theorem dX10_chanceAt_65 : decode cX10_chanceAt 65 = .ok (.ifCond .lt 6, 3) := by decide +kernel
theorem dX10_chanceAt_68 : decode cX10_chanceAt 68 = .ok (.iinc 6 1, 3) := by decide +kernel
theorem dX10_chanceAt_71 : decode cX10_chanceAt 71 = .ok (.iload 7, 2) := by decide +kernel
theorem dX10_chanceAt_73 : decode cX10_chanceAt 73 = .ok (.iload_n 1, 1) := by decide +kernel
theorem dX10_chanceAt_74 : decode cX10_chanceAt 74 = .ok (.iadd, 1) := by decide +kernel
theorem dX10_chanceAt_75 : decode cX10_chanceAt 75 = .ok (.aload_n 0, 1) := by decide +kernel
theorem dX10_chanceAt_76 : decode cX10_chanceAt 76 = .ok (.getfield 18, 3) := by decide +kernel
theorem dX10_chanceAt_79 : decode cX10_chanceAt 79 = .ok (.if_icmp .ge 10, 3) := by decide +kernel
theorem dX10_chanceAt_82 : decode cX10_chanceAt 82 = .ok (.iload 7, 2) := by decide +kernel
theorem dX10_chanceAt_84 : decode cX10_chanceAt 84 = .ok (.iload_n 1, 1) := by decide +kernel
theorem dX10_chanceAt_85 : decode cX10_chanceAt 85 = .ok (.iadd, 1) := by decide +kernel
theorem dX10_chanceAt_86 : decode cX10_chanceAt 86 = .ok (.goto 12, 3) := by decide +kernel
theorem dX10_chanceAt_89 : decode cX10_chanceAt 89 = .ok (.iload 7, 2) := by decide +kernel
theorem dX10_chanceAt_91 : decode cX10_chanceAt 91 = .ok (.iload_n 1, 1) := by decide +kernel
theorem dX10_chanceAt_92 : decode cX10_chanceAt 92 = .ok (.iadd, 1) := by decide +kernel
theorem dX10_chanceAt_93 : decode cX10_chanceAt 93 = .ok (.aload_n 0, 1) := by decide +kernel
theorem dX10_chanceAt_94 : decode cX10_chanceAt 94 = .ok (.getfield 18, 3) := by decide +kernel
theorem dX10_chanceAt_97 : decode cX10_chanceAt 97 = .ok (.isub, 1) := by decide +kernel
theorem dX10_chanceAt_98 : decode cX10_chanceAt 98 = .ok (.istore 8, 2) := by decide +kernel
theorem dX10_chanceAt_100 : decode cX10_chanceAt 100 = .ok (.iload_n 3, 1) := by decide +kernel
theorem dX10_chanceAt_101 : decode cX10_chanceAt 101 = .ok (.aload_n 0, 1) := by decide +kernel
theorem dX10_chanceAt_102 : decode cX10_chanceAt 102 = .ok (.getfield 15, 3) := by decide +kernel
theorem dX10_chanceAt_105 : decode cX10_chanceAt 105 = .ok (.iload 8, 2) := by decide +kernel
theorem dX10_chanceAt_107 : decode cX10_chanceAt 107 = .ok (.iaload, 1) := by decide +kernel
theorem dX10_chanceAt_108 : decode cX10_chanceAt 108 = .ok (.aload_n 0, 1) := by decide +kernel
theorem dX10_chanceAt_109 : decode cX10_chanceAt 109 = .ok (.getfield 15, 3) := by decide +kernel
theorem dX10_chanceAt_112 : decode cX10_chanceAt 112 = .ok (.iload 7, 2) := by decide +kernel
theorem dX10_chanceAt_114 : decode cX10_chanceAt 114 = .ok (.iaload, 1) := by decide +kernel
theorem dX10_chanceAt_115 : decode cX10_chanceAt 115 = .ok (.isub, 1) := by decide +kernel
theorem dX10_chanceAt_116 : decode cX10_chanceAt 116 = .ok (.iadd, 1) := by decide +kernel
theorem dX10_chanceAt_117 : decode cX10_chanceAt 117 = .ok (.istore_n 3, 1) := by decide +kernel
theorem dX10_chanceAt_118 : decode cX10_chanceAt 118 = .ok (.iinc 7 1, 3) := by decide +kernel
theorem dX10_chanceAt_121 : decode cX10_chanceAt 121 = .ok (.goto (-75), 3) := by decide +kernel
theorem dX10_chanceAt_124 : decode cX10_chanceAt 124 = .ok (.iload 6, 2) := by decide +kernel
theorem dX10_chanceAt_126 : decode cX10_chanceAt 126 = .ok (.ireturn, 1) := by decide +kernel
theorem dX10_clear_0 : decode cX10_clear 0 = .ok (.aload_n 0, 1) := by decide +kernel
theorem dX10_clear_1 : decode cX10_clear 1 = .ok (.iconst 0, 1) := by decide +kernel
theorem dX10_clear_2 : decode cX10_clear 2 = .ok (.putfield 18, 3) := by decide +kernel
theorem dX10_clear_5 : decode cX10_clear 5 = .ok (.return_, 1) := by decide +kernel
theorem dX10_dayAt_0 : decode cX10_dayAt 0 = .ok (.iload_n 1, 1) := by decide +kernel
theorem dX10_dayAt_1 : decode cX10_dayAt 1 = .ok (.iconst 1, 1) := by decide +kernel
theorem dX10_dayAt_2 : decode cX10_dayAt 2 = .ok (.aload_n 0, 1) := by decide +kernel
theorem dX10_dayAt_3 : decode cX10_dayAt 3 = .ok (.getfield 18, 3) := by decide +kernel
theorem dX10_dayAt_6 : decode cX10_dayAt 6 = .ok (.invokestatic 30, 3) := by decide +kernel
theorem dX10_dayAt_9 : decode cX10_dayAt 9 = .ok (.ifCond .eq 16, 3) := by decide +kernel
theorem dX10_dayAt_12 : decode cX10_dayAt 12 = .ok (.aload_n 0, 1) := by decide +kernel
theorem dX10_dayAt_13 : decode cX10_dayAt 13 = .ok (.getfield 9, 3) := by decide +kernel
theorem dX10_dayAt_16 : decode cX10_dayAt 16 = .ok (.iload_n 1, 1) := by decide +kernel
theorem dX10_dayAt_17 : decode cX10_dayAt 17 = .ok (.iconst 1, 1) := by decide +kernel
theorem dX10_dayAt_18 : decode cX10_dayAt 18 = .ok (.isub, 1) := by decide +kernel
theorem dX10_dayAt_19 : decode cX10_dayAt 19 = .ok (.iaload, 1) := by decide +kernel
theorem dX10_dayAt_20 : decode cX10_dayAt 20 = .ok (.iconst 1, 1) := by decide +kernel
theorem dX10_dayAt_21 : decode cX10_dayAt 21 = .ok (.iadd, 1) := by decide +kernel
theorem dX10_dayAt_22 : decode cX10_dayAt 22 = .ok (.goto 4, 3) := by decide +kernel
theorem dX10_dayAt_25 : decode cX10_dayAt 25 = .ok (.iconst (-1), 1) := by decide +kernel
theorem dX10_dayAt_26 : decode cX10_dayAt 26 = .ok (.ireturn, 1) := by decide +kernel
theorem dX10_distance_0 : decode cX10_distance 0 = .ok (.aload_n 0, 1) := by decide +kernel
theorem dX10_distance_1 : decode cX10_distance 1 = .ok (.getfield 18, 3) := by decide +kernel
theorem dX10_distance_4 : decode cX10_distance 4 = .ok (.iload_n 3, 1) := by decide +kernel
theorem dX10_distance_5 : decode cX10_distance 5 = .ok (.isub, 1) := by decide +kernel
theorem dX10_distance_6 : decode cX10_distance 6 = .ok (.i2l, 1) := by decide +kernel
theorem dX10_distance_7 : decode cX10_distance 7 = .ok (.lstore 4, 2) := by decide +kernel
theorem dX10_distance_9 : decode cX10_distance 9 = .ok (.iload_n 1, 1) := by decide +kernel
theorem dX10_distance_10 : decode cX10_distance 10 = .ok (.i2l, 1) := by decide +kernel
theorem dX10_distance_11 : decode cX10_distance 11 = .ok (.lload 4, 2) := by decide +kernel
theorem dX10_distance_13 : decode cX10_distance 13 = .ok (.lmul, 1) := by decide +kernel
theorem dX10_distance_14 : decode cX10_distance 14 = .ok (.iload_n 2, 1) := by decide +kernel
theorem dX10_distance_15 : decode cX10_distance 15 = .ok (.iload_n 1, 1) := by decide +kernel
theorem dX10_distance_16 : decode cX10_distance 16 = .ok (.isub, 1) := by decide +kernel
theorem dX10_distance_17 : decode cX10_distance 17 = .ok (.i2l, 1) := by decide +kernel
theorem dX10_distance_18 : decode cX10_distance 18 = .ok (.iload_n 3, 1) := by decide +kernel
theorem dX10_distance_19 : decode cX10_distance 19 = .ok (.i2l, 1) := by decide +kernel
theorem dX10_distance_20 : decode cX10_distance 20 = .ok (.lmul, 1) := by decide +kernel
theorem dX10_distance_21 : decode cX10_distance 21 = .ok (.lsub, 1) := by decide +kernel
theorem dX10_distance_22 : decode cX10_distance 22 = .ok (.invokestatic 34, 3) := by decide +kernel
theorem dX10_distance_25 : decode cX10_distance 25 = .ok (.lreturn, 1) := by decide +kernel
theorem dX10_init_0 : decode cX10_init 0 = .ok (.aload_n 0, 1) := by decide +kernel
theorem dX10_init_1 : decode cX10_init 1 = .ok (.invokespecial 3, 3) := by decide +kernel
theorem dX10_init_4 : decode cX10_init 4 = .ok (.aload_n 0, 1) := by decide +kernel
theorem dX10_init_5 : decode cX10_init 5 = .ok (.sipush 200, 3) := by decide +kernel
theorem dX10_init_8 : decode cX10_init 8 = .ok (.newarray .int, 2) := by decide +kernel
theorem dX10_init_10 : decode cX10_init 10 = .ok (.putfield 9, 3) := by decide +kernel
theorem dX10_init_13 : decode cX10_init 13 = .ok (.aload_n 0, 1) := by decide +kernel
theorem dX10_init_14 : decode cX10_init 14 = .ok (.sipush 200, 3) := by decide +kernel
theorem dX10_init_17 : decode cX10_init 17 = .ok (.newarray .int, 2) := by decide +kernel
theorem dX10_init_19 : decode cX10_init 19 = .ok (.putfield 15, 3) := by decide +kernel
theorem dX10_init_22 : decode cX10_init 22 = .ok (.return_, 1) := by decide +kernel
theorem dX10_split_0 : decode cX10_split 0 = .ok (.iconst (-1), 1) := by decide +kernel
theorem dX10_split_1 : decode cX10_split 1 = .ok (.istore_n 1, 1) := by decide +kernel
theorem dX10_split_2 : decode cX10_split 2 = .ok (.lconst 0, 1) := by decide +kernel
theorem dX10_split_3 : decode cX10_split 3 = .ok (.lstore_n 2, 1) := by decide +kernel
theorem dX10_split_4 : decode cX10_split 4 = .ok (.lconst 1, 1) := by decide +kernel
theorem dX10_split_5 : decode cX10_split 5 = .ok (.lstore 4, 2) := by decide +kernel
theorem dX10_split_7 : decode cX10_split 7 = .ok (.aload_n 0, 1) := by decide +kernel
theorem dX10_split_8 : decode cX10_split 8 = .ok (.aload_n 0, 1) := by decide +kernel
theorem dX10_split_9 : decode cX10_split 9 = .ok (.getfield 18, 3) := by decide +kernel
theorem dX10_split_12 : decode cX10_split 12 = .ok (.invokevirtual 22, 3) := by decide +kernel
theorem dX10_split_15 : decode cX10_split 15 = .ok (.istore 6, 2) := by decide +kernel
theorem dX10_split_17 : decode cX10_split 17 = .ok (.iconst 0, 1) := by decide +kernel
theorem dX10_split_18 : decode cX10_split 18 = .ok (.istore 7, 2) := by decide +kernel
theorem dX10_split_20 : decode cX10_split 20 = .ok (.iconst 1, 1) := by decide +kernel
theorem dX10_split_21 : decode cX10_split 21 = .ok (.istore 8, 2) := by decide +kernel
theorem dX10_split_23 : decode cX10_split 23 = .ok (.iload 8, 2) := by decide +kernel
theorem dX10_split_25 : decode cX10_split 25 = .ok (.aload_n 0, 1) := by decide +kernel
theorem dX10_split_26 : decode cX10_split 26 = .ok (.getfield 18, 3) := by decide +kernel
theorem dX10_split_29 : decode cX10_split 29 = .ok (.if_icmp .ge 99, 3) := by decide +kernel
theorem dX10_split_32 : decode cX10_split 32 = .ok (.iload 7, 2) := by decide +kernel
theorem dX10_split_34 : decode cX10_split 34 = .ok (.aload_n 0, 1) := by decide +kernel
theorem dX10_split_35 : decode cX10_split 35 = .ok (.getfield 15, 3) := by decide +kernel
theorem dX10_split_38 : decode cX10_split 38 = .ok (.iload 8, 2) := by decide +kernel
theorem dX10_split_40 : decode cX10_split 40 = .ok (.iconst 1, 1) := by decide +kernel
theorem dX10_split_41 : decode cX10_split 41 = .ok (.isub, 1) := by decide +kernel
theorem dX10_split_42 : decode cX10_split 42 = .ok (.iaload, 1) := by decide +kernel
theorem dX10_split_43 : decode cX10_split 43 = .ok (.iadd, 1) := by decide +kernel
theorem dX10_split_44 : decode cX10_split 44 = .ok (.istore 7, 2) := by decide +kernel
theorem dX10_split_46 : decode cX10_split 46 = .ok (.aload_n 0, 1) := by decide +kernel
theorem dX10_split_47 : decode cX10_split 47 = .ok (.getfield 9, 3) := by decide +kernel
theorem dX10_split_50 : decode cX10_split 50 = .ok (.iload 8, 2) := by decide +kernel
theorem dX10_split_52 : decode cX10_split 52 = .ok (.iconst 1, 1) := by decide +kernel
theorem dX10_split_53 : decode cX10_split 53 = .ok (.isub, 1) := by decide +kernel
theorem dX10_split_54 : decode cX10_split 54 = .ok (.iaload, 1) := by decide +kernel
theorem dX10_split_55 : decode cX10_split 55 = .ok (.aload_n 0, 1) := by decide +kernel
theorem dX10_split_56 : decode cX10_split 56 = .ok (.getfield 9, 3) := by decide +kernel
theorem dX10_split_59 : decode cX10_split 59 = .ok (.iload 8, 2) := by decide +kernel
theorem dX10_split_61 : decode cX10_split 61 = .ok (.iaload, 1) := by decide +kernel
theorem dX10_split_62 : decode cX10_split 62 = .ok (.if_icmp .ne 6, 3) := by decide +kernel
theorem dX10_split_65 : decode cX10_split 65 = .ok (.goto 57, 3) := by decide +kernel
theorem dX10_split_68 : decode cX10_split 68 = .ok (.aload_n 0, 1) := by decide +kernel
theorem dX10_split_69 : decode cX10_split 69 = .ok (.iload 7, 2) := by decide +kernel
theorem dX10_split_71 : decode cX10_split 71 = .ok (.iload 6, 2) := by decide +kernel
theorem dX10_split_73 : decode cX10_split 73 = .ok (.iload 8, 2) := by decide +kernel
theorem dX10_split_75 : decode cX10_split 75 = .ok (.invokevirtual 26, 3) := by decide +kernel
theorem dX10_split_78 : decode cX10_split 78 = .ok (.lstore 9, 2) := by decide +kernel
theorem dX10_split_80 : decode cX10_split 80 = .ok (.iload 8, 2) := by decide +kernel
theorem dX10_split_82 : decode cX10_split 82 = .ok (.i2l, 1) := by decide +kernel
theorem dX10_split_83 : decode cX10_split 83 = .ok (.aload_n 0, 1) := by decide +kernel
theorem dX10_split_84 : decode cX10_split 84 = .ok (.getfield 18, 3) := by decide +kernel
theorem dX10_split_87 : decode cX10_split 87 = .ok (.iload 8, 2) := by decide +kernel
theorem dX10_split_89 : decode cX10_split 89 = .ok (.isub, 1) := by decide +kernel
theorem dX10_split_90 : decode cX10_split 90 = .ok (.i2l, 1) := by decide +kernel
theorem dX10_split_91 : decode cX10_split 91 = .ok (.lmul, 1) := by decide +kernel
theorem dX10_split_92 : decode cX10_split 92 = .ok (.lstore 11, 2) := by decide +kernel
theorem dX10_split_94 : decode cX10_split 94 = .ok (.iload_n 1, 1) := by decide +kernel
theorem dX10_split_95 : decode cX10_split 95 = .ok (.iconst (-1), 1) := by decide +kernel
theorem dX10_split_96 : decode cX10_split 96 = .ok (.if_icmp .eq 16, 3) := by decide +kernel
theorem dX10_split_99 : decode cX10_split 99 = .ok (.lload 9, 2) := by decide +kernel
theorem dX10_split_101 : decode cX10_split 101 = .ok (.lload 4, 2) := by decide +kernel
theorem dX10_split_103 : decode cX10_split 103 = .ok (.lmul, 1) := by decide +kernel
theorem dX10_split_104 : decode cX10_split 104 = .ok (.lload_n 2, 1) := by decide +kernel
theorem dX10_split_105 : decode cX10_split 105 = .ok (.lload 11, 2) := by decide +kernel
theorem dX10_split_107 : decode cX10_split 107 = .ok (.lmul, 1) := by decide +kernel
theorem dX10_split_108 : decode cX10_split 108 = .ok (.lcmp, 1) := by decide +kernel
theorem dX10_split_109 : decode cX10_split 109 = .ok (.ifCond .le 13, 3) := by decide +kernel
theorem dX10_split_112 : decode cX10_split 112 = .ok (.iload 8, 2) := by decide +kernel
theorem dX10_split_114 : decode cX10_split 114 = .ok (.istore_n 1, 1) := by decide +kernel
theorem dX10_split_115 : decode cX10_split 115 = .ok (.lload 9, 2) := by decide +kernel
theorem dX10_split_117 : decode cX10_split 117 = .ok (.lstore_n 2, 1) := by decide +kernel
theorem dX10_split_118 : decode cX10_split 118 = .ok (.lload 11, 2) := by decide +kernel
theorem dX10_split_120 : decode cX10_split 120 = .ok (.lstore 4, 2) := by decide +kernel
theorem dX10_split_122 : decode cX10_split 122 = .ok (.iinc 8 1, 3) := by decide +kernel
theorem dX10_split_125 : decode cX10_split 125 = .ok (.goto (-102), 3) := by decide +kernel
theorem dX10_split_128 : decode cX10_split 128 = .ok (.iload_n 1, 1) := by decide +kernel
theorem dX10_split_129 : decode cX10_split 129 = .ok (.ireturn, 1) := by decide +kernel
theorem dX10_sumAhead_0 : decode cX10_sumAhead 0 = .ok (.iconst 0, 1) := by decide +kernel
theorem dX10_sumAhead_1 : decode cX10_sumAhead 1 = .ok (.istore_n 2, 1) := by decide +kernel
theorem dX10_sumAhead_2 : decode cX10_sumAhead 2 = .ok (.iconst 0, 1) := by decide +kernel
theorem dX10_sumAhead_3 : decode cX10_sumAhead 3 = .ok (.istore_n 3, 1) := by decide +kernel
theorem dX10_sumAhead_4 : decode cX10_sumAhead 4 = .ok (.iload_n 3, 1) := by decide +kernel
theorem dX10_sumAhead_5 : decode cX10_sumAhead 5 = .ok (.iload_n 1, 1) := by decide +kernel
theorem dX10_sumAhead_6 : decode cX10_sumAhead 6 = .ok (.if_icmp .ge 27, 3) := by decide +kernel
theorem dX10_sumAhead_9 : decode cX10_sumAhead 9 = .ok (.iload_n 3, 1) := by decide +kernel
theorem dX10_sumAhead_10 : decode cX10_sumAhead 10 = .ok (.aload_n 0, 1) := by decide +kernel
theorem dX10_sumAhead_11 : decode cX10_sumAhead 11 = .ok (.getfield 15, 3) := by decide +kernel
theorem dX10_sumAhead_14 : decode cX10_sumAhead 14 = .ok (.arraylength, 1) := by decide +kernel
theorem dX10_sumAhead_15 : decode cX10_sumAhead 15 = .ok (.if_icmp .ge 18, 3) := by decide +kernel
theorem dX10_sumAhead_18 : decode cX10_sumAhead 18 = .ok (.iload_n 2, 1) := by decide +kernel
theorem dX10_sumAhead_19 : decode cX10_sumAhead 19 = .ok (.aload_n 0, 1) := by decide +kernel
theorem dX10_sumAhead_20 : decode cX10_sumAhead 20 = .ok (.getfield 15, 3) := by decide +kernel
theorem dX10_sumAhead_23 : decode cX10_sumAhead 23 = .ok (.iload_n 3, 1) := by decide +kernel
theorem dX10_sumAhead_24 : decode cX10_sumAhead 24 = .ok (.iaload, 1) := by decide +kernel
theorem dX10_sumAhead_25 : decode cX10_sumAhead 25 = .ok (.iadd, 1) := by decide +kernel
theorem dX10_sumAhead_26 : decode cX10_sumAhead 26 = .ok (.istore_n 2, 1) := by decide +kernel
theorem dX10_sumAhead_27 : decode cX10_sumAhead 27 = .ok (.iinc 3 1, 3) := by decide +kernel
theorem dX10_sumAhead_30 : decode cX10_sumAhead 30 = .ok (.goto (-26), 3) := by decide +kernel
theorem dX10_sumAhead_33 : decode cX10_sumAhead 33 = .ok (.iload_n 2, 1) := by decide +kernel
theorem dX10_sumAhead_34 : decode cX10_sumAhead 34 = .ok (.ireturn, 1) := by decide +kernel
