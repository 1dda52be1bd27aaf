theorem dX12_agree_0 : decode cX12_agree 0 = .ok (.aload_n 0, 1) := by decide +kernel
theorem dX12_agree_1 : decode cX12_agree 1 = .ok (.iconst 0, 1) := by decide +kernel
theorem dX12_agree_2 : decode cX12_agree 2 = .ok (.putfield 138, 3) := by decide +kernel
theorem dX12_agree_5 : decode cX12_agree 5 = .ok (.iload_n 1, 1) := by decide +kernel
theorem dX12_agree_6 : decode cX12_agree 6 = .ok (.invokestatic 338, 3) := by decide +kernel
theorem dX12_agree_9 : decode cX12_agree 9 = .ok (.ifCond .eq 33, 3) := by decide +kernel
theorem dX12_agree_12 : decode cX12_agree 12 = .ok (.iload_n 2, 1) := by decide +kernel
theorem dX12_agree_13 : decode cX12_agree 13 = .ok (.invokestatic 338, 3) := by decide +kernel
theorem dX12_agree_16 : decode cX12_agree 16 = .ok (.ifCond .eq 26, 3) := by decide +kernel
theorem dX12_agree_19 : decode cX12_agree 19 = .ok (.iload_n 1, 1) := by decide +kernel
theorem dX12_agree_20 : decode cX12_agree 20 = .ok (.iload_n 2, 1) := by decide +kernel
theorem dX12_agree_21 : decode cX12_agree 21 = .ok (.if_icmp .eq 21, 3) := by decide +kernel
theorem dX12_agree_24 : decode cX12_agree 24 = .ok (.aload_n 0, 1) := by decide +kernel
theorem dX12_agree_25 : decode cX12_agree 25 = .ok (.iload_n 3, 1) := by decide +kernel
theorem dX12_agree_26 : decode cX12_agree 26 = .ok (.invokevirtual 159, 3) := by decide +kernel
theorem dX12_agree_29 : decode cX12_agree 29 = .ok (.ifCond .eq 13, 3) := by decide +kernel
theorem dX12_agree_32 : decode cX12_agree 32 = .ok (.iload 4, 2) := by decide +kernel
theorem dX12_agree_34 : decode cX12_agree 34 = .ok (.iconst 0, 1) := by decide +kernel
theorem dX12_agree_35 : decode cX12_agree 35 = .ok (.iconst 1, 1) := by decide +kernel
theorem dX12_agree_36 : decode cX12_agree 36 = .ok (.invokestatic 145, 3) := by decide +kernel
theorem dX12_agree_39 : decode cX12_agree 39 = .ok (.ifCond .ne 5, 3) := by decide +kernel
theorem dX12_agree_42 : decode cX12_agree 42 = .ok (.iconst (-1), 1) := by decide +kernel
theorem dX12_agree_43 : decode cX12_agree 43 = .ok (.ireturn, 1) := by decide +kernel
theorem dX12_agree_44 : decode cX12_agree 44 = .ok (.iconst 0, 1) := by decide +kernel
theorem dX12_agree_45 : decode cX12_agree 45 = .ok (.istore 5, 2) := by decide +kernel
theorem dX12_agree_47 : decode cX12_agree 47 = .ok (.iconst 0, 1) := by decide +kernel
theorem dX12_agree_48 : decode cX12_agree 48 = .ok (.istore 6, 2) := by decide +kernel
theorem dX12_agree_50 : decode cX12_agree 50 = .ok (.iload 6, 2) := by decide +kernel
theorem dX12_agree_52 : decode cX12_agree 52 = .ok (.aload_n 0, 1) := by decide +kernel
theorem dX12_agree_53 : decode cX12_agree 53 = .ok (.getfield 152, 3) := by decide +kernel
theorem dX12_agree_56 : decode cX12_agree 56 = .ok (.if_icmp .ge 64, 3) := by decide +kernel
theorem dX12_agree_59 : decode cX12_agree 59 = .ok (.aload_n 0, 1) := by decide +kernel
theorem dX12_agree_60 : decode cX12_agree 60 = .ok (.iload_n 1, 1) := by decide +kernel
theorem dX12_agree_61 : decode cX12_agree 61 = .ok (.iload 6, 2) := by decide +kernel
theorem dX12_agree_63 : decode cX12_agree 63 = .ok (.iload_n 3, 1) := by decide +kernel
theorem dX12_agree_64 : decode cX12_agree 64 = .ok (.invokevirtual 341, 3) := by decide +kernel
theorem dX12_agree_67 : decode cX12_agree 67 = .ok (.istore 7, 2) := by decide +kernel
theorem dX12_agree_69 : decode cX12_agree 69 = .ok (.aload_n 0, 1) := by decide +kernel
theorem dX12_agree_70 : decode cX12_agree 70 = .ok (.iload_n 2, 1) := by decide +kernel
theorem dX12_agree_71 : decode cX12_agree 71 = .ok (.iload 6, 2) := by decide +kernel
theorem dX12_agree_73 : decode cX12_agree 73 = .ok (.iload_n 3, 1) := by decide +kernel
theorem dX12_agree_74 : decode cX12_agree 74 = .ok (.invokevirtual 341, 3) := by decide +kernel
theorem dX12_agree_77 : decode cX12_agree 77 = .ok (.istore 8, 2) := by decide +kernel
theorem dX12_agree_79 : decode cX12_agree 79 = .ok (.iload 5, 2) := by decide +kernel
theorem dX12_agree_81 : decode cX12_agree 81 = .ok (.iload 7, 2) := by decide +kernel
theorem dX12_agree_83 : decode cX12_agree 83 = .ok (.iconst (-1), 1) := by decide +kernel
theorem dX12_agree_84 : decode cX12_agree 84 = .ok (.if_icmp .eq 26, 3) := by decide +kernel
theorem dX12_agree_87 : decode cX12_agree 87 = .ok (.iload 8, 2) := by decide +kernel
theorem dX12_agree_89 : decode cX12_agree 89 = .ok (.iconst (-1), 1) := by decide +kernel
theorem dX12_agree_90 : decode cX12_agree 90 = .ok (.if_icmp .eq 20, 3) := by decide +kernel
theorem dX12_agree_93 : decode cX12_agree 93 = .ok (.iload 4, 2) := by decide +kernel
theorem dX12_agree_95 : decode cX12_agree 95 = .ok (.iconst 1, 1) := by decide +kernel
theorem dX12_agree_96 : decode cX12_agree 96 = .ok (.if_icmp .eq 10, 3) := by decide +kernel
theorem dX12_agree_99 : decode cX12_agree 99 = .ok (.iload 7, 2) := by decide +kernel
theorem dX12_agree_101 : decode cX12_agree 101 = .ok (.iload 8, 2) := by decide +kernel
theorem dX12_agree_103 : decode cX12_agree 103 = .ok (.if_icmp .ne 7, 3) := by decide +kernel
theorem dX12_agree_106 : decode cX12_agree 106 = .ok (.iconst 1, 1) := by decide +kernel
theorem dX12_agree_107 : decode cX12_agree 107 = .ok (.goto 4, 3) := by decide +kernel
theorem dX12_agree_110 : decode cX12_agree 110 = .ok (.iconst 0, 1) := by decide +kernel
theorem dX12_agree_111 : decode cX12_agree 111 = .ok (.iadd, 1) := by decide +kernel
theorem dX12_agree_112 : decode cX12_agree 112 = .ok (.istore 5, 2) := by decide +kernel
theorem dX12_agree_114 : decode cX12_agree 114 = .ok (.iinc 6 1, 3) := by decide +kernel
theorem dX12_agree_117 : decode cX12_agree 117 = .ok (.goto (-67), 3) := by decide +kernel
theorem dX12_agree_120 : decode cX12_agree 120 = .ok (.iload 5, 2) := by decide +kernel
theorem dX12_agree_122 : decode cX12_agree 122 = .ok (.ireturn, 1) := by decide +kernel
theorem dX12_alike_0 : decode cX12_alike 0 = .ok (.aload_n 0, 1) := by decide +kernel
theorem dX12_alike_1 : decode cX12_alike 1 = .ok (.iconst 0, 1) := by decide +kernel
theorem dX12_alike_2 : decode cX12_alike 2 = .ok (.putfield 138, 3) := by decide +kernel
theorem dX12_alike_5 : decode cX12_alike 5 = .ok (.aload_n 0, 1) := by decide +kernel
theorem dX12_alike_6 : decode cX12_alike 6 = .ok (.iload_n 1, 1) := by decide +kernel
theorem dX12_alike_7 : decode cX12_alike 7 = .ok (.invokevirtual 165, 3) := by decide +kernel
theorem dX12_alike_10 : decode cX12_alike 10 = .ok (.ifCond .eq 22, 3) := by decide +kernel
theorem dX12_alike_13 : decode cX12_alike 13 = .ok (.iload_n 2, 1) := by decide +kernel
theorem dX12_alike_14 : decode cX12_alike 14 = .ok (.iconst 0, 1) := by decide +kernel
theorem dX12_alike_15 : decode cX12_alike 15 = .ok (.bipush 7, 2) := by decide +kernel
theorem dX12_alike_17 : decode cX12_alike 17 = .ok (.invokestatic 145, 3) := by decide +kernel
theorem dX12_alike_20 : decode cX12_alike 20 = .ok (.ifCond .eq 12, 3) := by decide +kernel
theorem dX12_alike_23 : decode cX12_alike 23 = .ok (.aload_n 0, 1) := by decide +kernel
theorem dX12_alike_24 : decode cX12_alike 24 = .ok (.iload_n 1, 1) := by decide +kernel
theorem dX12_alike_25 : decode cX12_alike 25 = .ok (.iload_n 2, 1) := by decide +kernel
theorem dX12_alike_26 : decode cX12_alike 26 = .ok (.invokevirtual 385, 3) := by decide +kernel
theorem dX12_alike_29 : decode cX12_alike 29 = .ok (.goto 4, 3) := by decide +kernel
theorem dX12_alike_32 : decode cX12_alike 32 = .ok (.iconst (-1), 1) := by decide +kernel
theorem dX12_alike_33 : decode cX12_alike 33 = .ok (.ireturn, 1) := by decide +kernel
theorem dX12_alikeOf_0 : decode cX12_alikeOf 0 = .ok (.iconst 0, 1) := by decide +kernel
theorem dX12_alikeOf_1 : decode cX12_alikeOf 1 = .ok (.istore_n 3, 1) := by decide +kernel
theorem dX12_alikeOf_2 : decode cX12_alikeOf 2 = .ok (.iconst 0, 1) := by decide +kernel
theorem dX12_alikeOf_3 : decode cX12_alikeOf 3 = .ok (.istore 4, 2) := by decide +kernel
theorem dX12_alikeOf_5 : decode cX12_alikeOf 5 = .ok (.iload 4, 2) := by decide +kernel
theorem dX12_alikeOf_7 : decode cX12_alikeOf 7 = .ok (.aload_n 0, 1) := by decide +kernel
theorem dX12_alikeOf_8 : decode cX12_alikeOf 8 = .ok (.getfield 149, 3) := by decide +kernel
theorem dX12_alikeOf_11 : decode cX12_alikeOf 11 = .ok (.if_icmp .ge 93, 3) := by decide +kernel
theorem dX12_alikeOf_14 : decode cX12_alikeOf 14 = .ok (.iload_n 2, 1) := by decide +kernel
theorem dX12_alikeOf_15 : decode cX12_alikeOf 15 = .ok (.iconst 1, 1) := by decide +kernel
theorem dX12_alikeOf_16 : decode cX12_alikeOf 16 = .ok (.iand, 1) := by decide +kernel
theorem dX12_alikeOf_17 : decode cX12_alikeOf 17 = .ok (.ifCond .eq 19, 3) := by decide +kernel
theorem dX12_alikeOf_20 : decode cX12_alikeOf 20 = .ok (.aload_n 0, 1) := by decide +kernel
theorem dX12_alikeOf_21 : decode cX12_alikeOf 21 = .ok (.getfield 9, 3) := by decide +kernel
theorem dX12_alikeOf_24 : decode cX12_alikeOf 24 = .ok (.iload 4, 2) := by decide +kernel
theorem dX12_alikeOf_26 : decode cX12_alikeOf 26 = .ok (.iaload, 1) := by decide +kernel
theorem dX12_alikeOf_27 : decode cX12_alikeOf 27 = .ok (.aload_n 0, 1) := by decide +kernel
theorem dX12_alikeOf_28 : decode cX12_alikeOf 28 = .ok (.getfield 9, 3) := by decide +kernel
theorem dX12_alikeOf_31 : decode cX12_alikeOf 31 = .ok (.iload_n 1, 1) := by decide +kernel
theorem dX12_alikeOf_32 : decode cX12_alikeOf 32 = .ok (.iaload, 1) := by decide +kernel
theorem dX12_alikeOf_33 : decode cX12_alikeOf 33 = .ok (.if_icmp .ne 49, 3) := by decide +kernel
theorem dX12_alikeOf_36 : decode cX12_alikeOf 36 = .ok (.iload_n 2, 1) := by decide +kernel
theorem dX12_alikeOf_37 : decode cX12_alikeOf 37 = .ok (.iconst 2, 1) := by decide +kernel
theorem dX12_alikeOf_38 : decode cX12_alikeOf 38 = .ok (.iand, 1) := by decide +kernel
theorem dX12_alikeOf_39 : decode cX12_alikeOf 39 = .ok (.ifCond .eq 17, 3) := by decide +kernel
theorem dX12_alikeOf_42 : decode cX12_alikeOf 42 = .ok (.aload_n 0, 1) := by decide +kernel
theorem dX12_alikeOf_43 : decode cX12_alikeOf 43 = .ok (.iload 4, 2) := by decide +kernel
theorem dX12_alikeOf_45 : decode cX12_alikeOf 45 = .ok (.invokevirtual 348, 3) := by decide +kernel
theorem dX12_alikeOf_48 : decode cX12_alikeOf 48 = .ok (.aload_n 0, 1) := by decide +kernel
theorem dX12_alikeOf_49 : decode cX12_alikeOf 49 = .ok (.iload_n 1, 1) := by decide +kernel
theorem dX12_alikeOf_50 : decode cX12_alikeOf 50 = .ok (.invokevirtual 348, 3) := by decide +kernel
theorem dX12_alikeOf_53 : decode cX12_alikeOf 53 = .ok (.if_icmp .ne 29, 3) := by decide +kernel
theorem dX12_alikeOf_56 : decode cX12_alikeOf 56 = .ok (.iload_n 2, 1) := by decide +kernel
theorem dX12_alikeOf_57 : decode cX12_alikeOf 57 = .ok (.iconst 4, 1) := by decide +kernel
theorem dX12_alikeOf_58 : decode cX12_alikeOf 58 = .ok (.iand, 1) := by decide +kernel
theorem dX12_alikeOf_59 : decode cX12_alikeOf 59 = .ok (.ifCond .eq 19, 3) := by decide +kernel
theorem dX12_alikeOf_62 : decode cX12_alikeOf 62 = .ok (.aload_n 0, 1) := by decide +kernel
theorem dX12_alikeOf_63 : decode cX12_alikeOf 63 = .ok (.getfield 16, 3) := by decide +kernel
theorem dX12_alikeOf_66 : decode cX12_alikeOf 66 = .ok (.iload 4, 2) := by decide +kernel
theorem dX12_alikeOf_68 : decode cX12_alikeOf 68 = .ok (.iaload, 1) := by decide +kernel
theorem dX12_alikeOf_69 : decode cX12_alikeOf 69 = .ok (.aload_n 0, 1) := by decide +kernel
theorem dX12_alikeOf_70 : decode cX12_alikeOf 70 = .ok (.getfield 16, 3) := by decide +kernel
theorem dX12_alikeOf_73 : decode cX12_alikeOf 73 = .ok (.iload_n 1, 1) := by decide +kernel
theorem dX12_alikeOf_74 : decode cX12_alikeOf 74 = .ok (.iaload, 1) := by decide +kernel
theorem dX12_alikeOf_75 : decode cX12_alikeOf 75 = .ok (.if_icmp .ne 7, 3) := by decide +kernel
theorem dX12_alikeOf_78 : decode cX12_alikeOf 78 = .ok (.iconst 1, 1) := by decide +kernel
theorem dX12_alikeOf_79 : decode cX12_alikeOf 79 = .ok (.goto 4, 3) := by decide +kernel
theorem dX12_alikeOf_82 : decode cX12_alikeOf 82 = .ok (.iconst 0, 1) := by decide +kernel
theorem dX12_alikeOf_83 : decode cX12_alikeOf 83 = .ok (.istore 5, 2) := by decide +kernel
theorem dX12_alikeOf_85 : decode cX12_alikeOf 85 = .ok (.iload_n 3, 1) := by decide +kernel
theorem dX12_alikeOf_86 : decode cX12_alikeOf 86 = .ok (.iload 5, 2) := by decide +kernel
theorem dX12_alikeOf_88 : decode cX12_alikeOf 88 = .ok (.ifCond .eq 7, 3) := by decide +kernel
theorem dX12_alikeOf_91 : decode cX12_alikeOf 91 = .ok (.iconst 1, 1) := by decide +kernel
theorem dX12_alikeOf_92 : decode cX12_alikeOf 92 = .ok (.goto 4, 3) := by decide +kernel
theorem dX12_alikeOf_95 : decode cX12_alikeOf 95 = .ok (.iconst 0, 1) := by decide +kernel
theorem dX12_alikeOf_96 : decode cX12_alikeOf 96 = .ok (.iadd, 1) := by decide +kernel
theorem dX12_alikeOf_97 : decode cX12_alikeOf 97 = .ok (.istore_n 3, 1) := by decide +kernel
theorem dX12_alikeOf_98 : decode cX12_alikeOf 98 = .ok (.iinc 4 1, 3) := by decide +kernel
theorem dX12_alikeOf_101 : decode cX12_alikeOf 101 = .ok (.goto (-96), 3) := by decide +kernel
theorem dX12_alikeOf_104 : decode cX12_alikeOf 104 = .ok (.iload_n 3, 1) := by decide +kernel
theorem dX12_alikeOf_105 : decode cX12_alikeOf 105 = .ok (.ireturn, 1) := by decide +kernel
theorem dX12_apart_0 : decode cX12_apart 0 = .ok (.lconst 0, 1) := by decide +kernel
theorem dX12_apart_1 : decode cX12_apart 1 = .ok (.lstore_n 3, 1) := by decide +kernel
theorem dX12_apart_2 : decode cX12_apart 2 = .ok (.lconst 0, 1) := by decide +kernel
theorem dX12_apart_3 : decode cX12_apart 3 = .ok (.lstore 5, 2) := by decide +kernel
theorem dX12_apart_5 : decode cX12_apart 5 = .ok (.iconst 0, 1) := by decide +kernel
theorem dX12_apart_6 : decode cX12_apart 6 = .ok (.istore 7, 2) := by decide +kernel
theorem dX12_apart_8 : decode cX12_apart 8 = .ok (.iload 7, 2) := by decide +kernel
theorem dX12_apart_10 : decode cX12_apart 10 = .ok (.aload_n 0, 1) := by decide +kernel
theorem dX12_apart_11 : decode cX12_apart 11 = .ok (.getfield 353, 3) := by decide +kernel
theorem dX12_apart_14 : decode cX12_apart 14 = .ok (.if_icmp .ge 48, 3) := by decide +kernel
theorem dX12_apart_17 : decode cX12_apart 17 = .ok (.aload_n 0, 1) := by decide +kernel
theorem dX12_apart_18 : decode cX12_apart 18 = .ok (.getfield 108, 3) := by decide +kernel
theorem dX12_apart_21 : decode cX12_apart 21 = .ok (.iload 7, 2) := by decide +kernel
theorem dX12_apart_23 : decode cX12_apart 23 = .ok (.iload_n 2, 1) := by decide +kernel
theorem dX12_apart_24 : decode cX12_apart 24 = .ok (.iadd, 1) := by decide +kernel
theorem dX12_apart_25 : decode cX12_apart 25 = .ok (.aload_n 0, 1) := by decide +kernel
theorem dX12_apart_26 : decode cX12_apart 26 = .ok (.getfield 353, 3) := by decide +kernel
theorem dX12_apart_29 : decode cX12_apart 29 = .ok (.irem, 1) := by decide +kernel
theorem dX12_apart_30 : decode cX12_apart 30 = .ok (.iaload, 1) := by decide +kernel
theorem dX12_apart_31 : decode cX12_apart 31 = .ok (.istore 8, 2) := by decide +kernel
theorem dX12_apart_33 : decode cX12_apart 33 = .ok (.iload 7, 2) := by decide +kernel
theorem dX12_apart_35 : decode cX12_apart 35 = .ok (.iload_n 1, 1) := by decide +kernel
theorem dX12_apart_36 : decode cX12_apart 36 = .ok (.if_icmp .ge 12, 3) := by decide +kernel
theorem dX12_apart_39 : decode cX12_apart 39 = .ok (.lload_n 3, 1) := by decide +kernel
theorem dX12_apart_40 : decode cX12_apart 40 = .ok (.iload 8, 2) := by decide +kernel
theorem dX12_apart_42 : decode cX12_apart 42 = .ok (.i2l, 1) := by decide +kernel
theorem dX12_apart_43 : decode cX12_apart 43 = .ok (.ladd, 1) := by decide +kernel
theorem dX12_apart_44 : decode cX12_apart 44 = .ok (.lstore_n 3, 1) := by decide +kernel
theorem dX12_apart_45 : decode cX12_apart 45 = .ok (.goto 11, 3) := by decide +kernel
theorem dX12_apart_48 : decode cX12_apart 48 = .ok (.lload 5, 2) := by decide +kernel
theorem dX12_apart_50 : decode cX12_apart 50 = .ok (.iload 8, 2) := by decide +kernel
theorem dX12_apart_52 : decode cX12_apart 52 = .ok (.i2l, 1) := by decide +kernel
theorem dX12_apart_53 : decode cX12_apart 53 = .ok (.ladd, 1) := by decide +kernel
theorem dX12_apart_54 : decode cX12_apart 54 = .ok (.lstore 5, 2) := by decide +kernel
theorem dX12_apart_56 : decode cX12_apart 56 = .ok (.iinc 7 1, 3) := by decide +kernel
theorem dX12_apart_59 : decode cX12_apart 59 = .ok (.goto (-51), 3) := by decide +kernel
theorem dX12_apart_62 : decode cX12_apart 62 = .ok (.lload_n 3, 1) := by decide +kernel
theorem dX12_apart_63 : decode cX12_apart 63 = .ok (.aload_n 0, 1) := by decide +kernel
theorem dX12_apart_64 : decode cX12_apart 64 = .ok (.getfield 353, 3) := by decide +kernel
theorem dX12_apart_67 : decode cX12_apart 67 = .ok (.iload_n 1, 1) := by decide +kernel
theorem dX12_apart_68 : decode cX12_apart 68 = .ok (.isub, 1) := by decide +kernel
theorem dX12_apart_69 : decode cX12_apart 69 = .ok (.i2l, 1) := by decide +kernel
theorem dX12_apart_70 : decode cX12_apart 70 = .ok (.lmul, 1) := by decide +kernel
theorem dX12_apart_71 : decode cX12_apart 71 = .ok (.lload 5, 2) := by decide +kernel
theorem dX12_apart_73 : decode cX12_apart 73 = .ok (.iload_n 1, 1) := by decide +kernel
theorem dX12_apart_74 : decode cX12_apart 74 = .ok (.i2l, 1) := by decide +kernel
theorem dX12_apart_75 : decode cX12_apart 75 = .ok (.lmul, 1) := by decide +kernel
theorem dX12_apart_76 : decode cX12_apart 76 = .ok (.lsub, 1) := by decide +kernel
theorem dX12_apart_77 : decode cX12_apart 77 = .ok (.invokestatic 356, 3) := by decide +kernel
theorem dX12_apart_80 : decode cX12_apart 80 = .ok (.lreturn, 1) := by decide +kernel
theorem dX12_asked_0 : decode cX12_asked 0 = .ok (.aload_n 0, 1) := by decide +kernel
theorem dX12_asked_1 : decode cX12_asked 1 = .ok (.iconst 0, 1) := by decide +kernel
theorem dX12_asked_2 : decode cX12_asked 2 = .ok (.putfield 138, 3) := by decide +kernel
theorem dX12_asked_5 : decode cX12_asked 5 = .ok (.aload_n 0, 1) := by decide +kernel
theorem dX12_asked_6 : decode cX12_asked 6 = .ok (.iload_n 1, 1) := by decide +kernel
theorem dX12_asked_7 : decode cX12_asked 7 = .ok (.invokevirtual 165, 3) := by decide +kernel
theorem dX12_asked_10 : decode cX12_asked 10 = .ok (.ifCond .eq 26, 3) := by decide +kernel
theorem dX12_asked_13 : decode cX12_asked 13 = .ok (.iload_n 2, 1) := by decide +kernel
theorem dX12_asked_14 : decode cX12_asked 14 = .ok (.invokestatic 175, 3) := by decide +kernel
theorem dX12_asked_17 : decode cX12_asked 17 = .ok (.ifCond .eq 19, 3) := by decide +kernel
theorem dX12_asked_20 : decode cX12_asked 20 = .ok (.iload_n 3, 1) := by decide +kernel
theorem dX12_asked_21 : decode cX12_asked 21 = .ok (.invokestatic 168, 3) := by decide +kernel
theorem dX12_asked_24 : decode cX12_asked 24 = .ok (.ifCond .eq 12, 3) := by decide +kernel
theorem dX12_asked_27 : decode cX12_asked 27 = .ok (.aload_n 0, 1) := by decide +kernel
theorem dX12_asked_28 : decode cX12_asked 28 = .ok (.iload 4, 2) := by decide +kernel
theorem dX12_asked_30 : decode cX12_asked 30 = .ok (.invokevirtual 159, 3) := by decide +kernel
theorem dX12_asked_33 : decode cX12_asked 33 = .ok (.ifCond .ne 5, 3) := by decide +kernel
theorem dX12_asked_36 : decode cX12_asked 36 = .ok (.iconst (-1), 1) := by decide +kernel
theorem dX12_asked_37 : decode cX12_asked 37 = .ok (.ireturn, 1) := by decide +kernel
theorem dX12_asked_38 : decode cX12_asked 38 = .ok (.aload_n 0, 1) := by decide +kernel
theorem dX12_asked_39 : decode cX12_asked 39 = .ok (.invokevirtual 295, 3) := by decide +kernel
theorem dX12_asked_42 : decode cX12_asked 42 = .ok (.aload_n 0, 1) := by decide +kernel
theorem dX12_asked_43 : decode cX12_asked 43 = .ok (.iload_n 1, 1) := by decide +kernel
theorem dX12_asked_44 : decode cX12_asked 44 = .ok (.invokevirtual 298, 3) := by decide +kernel
theorem dX12_asked_47 : decode cX12_asked 47 = .ok (.aload_n 0, 1) := by decide +kernel
theorem dX12_asked_48 : decode cX12_asked 48 = .ok (.getfield 65, 3) := by decide +kernel
theorem dX12_asked_51 : decode cX12_asked 51 = .ok (.bipush 116, 2) := by decide +kernel
theorem dX12_asked_53 : decode cX12_asked 53 = .ok (.iload_n 2, 1) := by decide +kernel
theorem dX12_asked_54 : decode cX12_asked 54 = .ok (.iastore, 1) := by decide +kernel
theorem dX12_asked_55 : decode cX12_asked 55 = .ok (.aload_n 0, 1) := by decide +kernel
theorem dX12_asked_56 : decode cX12_asked 56 = .ok (.getfield 65, 3) := by decide +kernel
theorem dX12_asked_59 : decode cX12_asked 59 = .ok (.bipush 107, 2) := by decide +kernel
theorem dX12_asked_61 : decode cX12_asked 61 = .ok (.iload_n 3, 1) := by decide +kernel
theorem dX12_asked_62 : decode cX12_asked 62 = .ok (.iastore, 1) := by decide +kernel
theorem dX12_asked_63 : decode cX12_asked 63 = .ok (.aload_n 0, 1) := by decide +kernel
theorem dX12_asked_64 : decode cX12_asked 64 = .ok (.iload_n 2, 1) := by decide +kernel
theorem dX12_asked_65 : decode cX12_asked 65 = .ok (.iload 4, 2) := by decide +kernel
theorem dX12_asked_67 : decode cX12_asked 67 = .ok (.bipush 113, 2) := by decide +kernel
theorem dX12_asked_69 : decode cX12_asked 69 = .ok (.invokevirtual 301, 3) := by decide +kernel
theorem dX12_asked_72 : decode cX12_asked 72 = .ok (.ifCond .eq 7, 3) := by decide +kernel
theorem dX12_asked_75 : decode cX12_asked 75 = .ok (.iconst 1, 1) := by decide +kernel
theorem dX12_asked_76 : decode cX12_asked 76 = .ok (.goto 4, 3) := by decide +kernel
theorem dX12_asked_79 : decode cX12_asked 79 = .ok (.iconst 0, 1) := by decide +kernel
theorem dX12_asked_80 : decode cX12_asked 80 = .ok (.ireturn, 1) := by decide +kernel
theorem dX12_atom_0 : decode cX12_atom 0 = .ok (.aload_n 0, 1) := by decide +kernel
theorem dX12_atom_1 : decode cX12_atom 1 = .ok (.invokevirtual 208, 3) := by decide +kernel
theorem dX12_atom_4 : decode cX12_atom 4 = .ok (.istore_n 1, 1) := by decide +kernel
theorem dX12_atom_5 : decode cX12_atom 5 = .ok (.iload_n 1, 1) := by decide +kernel
theorem dX12_atom_6 : decode cX12_atom 6 = .ok (.iconst (-1), 1) := by decide +kernel
theorem dX12_atom_7 : decode cX12_atom 7 = .ok (.if_icmp .eq 29, 3) := by decide +kernel
theorem dX12_atom_10 : decode cX12_atom 10 = .ok (.ldc 225, 2) := by decide +kernel
theorem dX12_atom_12 : decode cX12_atom 12 = .ok (.iload_n 1, 1) := by decide +kernel
theorem dX12_atom_13 : decode cX12_atom 13 = .ok (.invokevirtual 227, 3) := by decide +kernel
theorem dX12_atom_16 : decode cX12_atom 16 = .ok (.ifCond .lt 20, 3) := by decide +kernel
theorem dX12_atom_19 : decode cX12_atom 19 = .ok (.aload_n 0, 1) := by decide +kernel
theorem dX12_atom_20 : decode cX12_atom 20 = .ok (.dup, 1) := by decide +kernel
theorem dX12_atom_21 : decode cX12_atom 21 = .ok (.getfield 189, 3) := by decide +kernel
theorem dX12_atom_24 : decode cX12_atom 24 = .ok (.iconst 1, 1) := by decide +kernel
theorem dX12_atom_25 : decode cX12_atom 25 = .ok (.iadd, 1) := by decide +kernel
theorem dX12_atom_26 : decode cX12_atom 26 = .ok (.putfield 189, 3) := by decide +kernel
theorem dX12_atom_29 : decode cX12_atom 29 = .ok (.aload_n 0, 1) := by decide +kernel
theorem dX12_atom_30 : decode cX12_atom 30 = .ok (.getfield 65, 3) := by decide +kernel
theorem dX12_atom_33 : decode cX12_atom 33 = .ok (.iload_n 1, 1) := by decide +kernel
theorem dX12_atom_34 : decode cX12_atom 34 = .ok (.iaload, 1) := by decide +kernel
theorem dX12_atom_35 : decode cX12_atom 35 = .ok (.ireturn, 1) := by decide +kernel
theorem dX12_atom_36 : decode cX12_atom 36 = .ok (.iload_n 1, 1) := by decide +kernel
theorem dX12_atom_37 : decode cX12_atom 37 = .ok (.bipush 91, 2) := by decide +kernel
theorem dX12_atom_39 : decode cX12_atom 39 = .ok (.if_icmp .ne 40, 3) := by decide +kernel
theorem dX12_atom_42 : decode cX12_atom 42 = .ok (.aload_n 0, 1) := by decide +kernel
theorem dX12_atom_43 : decode cX12_atom 43 = .ok (.invokevirtual 232, 3) := by decide +kernel
theorem dX12_atom_46 : decode cX12_atom 46 = .ok (.ifCond .ne 5, 3) := by decide +kernel
theorem dX12_atom_49 : decode cX12_atom 49 = .ok (.iconst 0, 1) := by decide +kernel
theorem dX12_atom_50 : decode cX12_atom 50 = .ok (.ireturn, 1) := by decide +kernel
theorem dX12_atom_51 : decode cX12_atom 51 = .ok (.aload_n 0, 1) := by decide +kernel
theorem dX12_atom_52 : decode cX12_atom 52 = .ok (.invokevirtual 235, 3) := by decide +kernel
theorem dX12_atom_55 : decode cX12_atom 55 = .ok (.istore_n 2, 1) := by decide +kernel
theorem dX12_atom_56 : decode cX12_atom 56 = .ok (.aload_n 0, 1) := by decide +kernel
theorem dX12_atom_57 : decode cX12_atom 57 = .ok (.bipush 93, 2) := by decide +kernel
theorem dX12_atom_59 : decode cX12_atom 59 = .ok (.invokevirtual 238, 3) := by decide +kernel
theorem dX12_atom_62 : decode cX12_atom 62 = .ok (.ifCond .ne 5, 3) := by decide +kernel
theorem dX12_atom_65 : decode cX12_atom 65 = .ok (.iconst 0, 1) := by decide +kernel
theorem dX12_atom_66 : decode cX12_atom 66 = .ok (.ireturn, 1) := by decide +kernel
theorem dX12_atom_67 : decode cX12_atom 67 = .ok (.aload_n 0, 1) := by decide +kernel
theorem dX12_atom_68 : decode cX12_atom 68 = .ok (.dup, 1) := by decide +kernel
theorem dX12_atom_69 : decode cX12_atom 69 = .ok (.getfield 201, 3) := by decide +kernel
theorem dX12_atom_72 : decode cX12_atom 72 = .ok (.iconst 1, 1) := by decide +kernel
theorem dX12_atom_73 : decode cX12_atom 73 = .ok (.isub, 1) := by decide +kernel
theorem dX12_atom_74 : decode cX12_atom 74 = .ok (.putfield 201, 3) := by decide +kernel
theorem dX12_atom_77 : decode cX12_atom 77 = .ok (.iload_n 2, 1) := by decide +kernel
theorem dX12_atom_78 : decode cX12_atom 78 = .ok (.ireturn, 1) := by decide +kernel
theorem dX12_atom_79 : decode cX12_atom 79 = .ok (.aload_n 0, 1) := by decide +kernel
theorem dX12_atom_80 : decode cX12_atom 80 = .ok (.invokevirtual 241, 3) := by decide +kernel
theorem dX12_atom_83 : decode cX12_atom 83 = .ok (.ifCond .ne 8, 3) := by decide +kernel
theorem dX12_atom_86 : decode cX12_atom 86 = .ok (.aload_n 0, 1) := by decide +kernel
theorem dX12_atom_87 : decode cX12_atom 87 = .ok (.invokevirtual 204, 3) := by decide +kernel
theorem dX12_atom_90 : decode cX12_atom 90 = .ok (.pop, 1) := by decide +kernel
theorem dX12_atom_91 : decode cX12_atom 91 = .ok (.iconst 0, 1) := by decide +kernel
theorem dX12_atom_92 : decode cX12_atom 92 = .ok (.istore_n 2, 1) := by decide +kernel
theorem dX12_atom_93 : decode cX12_atom 93 = .ok (.iconst 0, 1) := by decide +kernel
theorem dX12_atom_94 : decode cX12_atom 94 = .ok (.istore_n 3, 1) := by decide +kernel
theorem dX12_atom_95 : decode cX12_atom 95 = .ok (.aload_n 0, 1) := by decide +kernel
theorem dX12_atom_96 : decode cX12_atom 96 = .ok (.invokevirtual 241, 3) := by decide +kernel
theorem dX12_atom_99 : decode cX12_atom 99 = .ok (.ifCond .eq 62, 3) := by decide +kernel
theorem dX12_atom_102 : decode cX12_atom 102 = .ok (.aload_n 0, 1) := by decide +kernel
theorem dX12_atom_103 : decode cX12_atom 103 = .ok (.getfield 198, 3) := by decide +kernel
theorem dX12_atom_106 : decode cX12_atom 106 = .ok (.iconst (-1), 1) := by decide +kernel
theorem dX12_atom_107 : decode cX12_atom 107 = .ok (.if_icmp .ne 54, 3) := by decide +kernel
theorem dX12_atom_110 : decode cX12_atom 110 = .ok (.iload_n 3, 1) := by decide +kernel
theorem dX12_atom_111 : decode cX12_atom 111 = .ok (.iconst 4, 1) := by decide +kernel
theorem dX12_atom_112 : decode cX12_atom 112 = .ok (.if_icmp .ne 10, 3) := by decide +kernel
theorem dX12_atom_115 : decode cX12_atom 115 = .ok (.aload_n 0, 1) := by decide +kernel
theorem dX12_atom_116 : decode cX12_atom 116 = .ok (.invokevirtual 204, 3) := by decide +kernel
theorem dX12_atom_119 : decode cX12_atom 119 = .ok (.pop, 1) := by decide +kernel
theorem dX12_atom_120 : decode cX12_atom 120 = .ok (.iconst 0, 1) := by decide +kernel
theorem dX12_atom_121 : decode cX12_atom 121 = .ok (.ireturn, 1) := by decide +kernel
theorem dX12_atom_122 : decode cX12_atom 122 = .ok (.bipush 10, 2) := by decide +kernel
theorem dX12_atom_124 : decode cX12_atom 124 = .ok (.iload_n 2, 1) := by decide +kernel
theorem dX12_atom_125 : decode cX12_atom 125 = .ok (.imul, 1) := by decide +kernel
theorem dX12_atom_126 : decode cX12_atom 126 = .ok (.aload_n 0, 1) := by decide +kernel
theorem dX12_atom_127 : decode cX12_atom 127 = .ok (.getfield 68, 3) := by decide +kernel
theorem dX12_atom_130 : decode cX12_atom 130 = .ok (.aload_n 0, 1) := by decide +kernel
theorem dX12_atom_131 : decode cX12_atom 131 = .ok (.getfield 195, 3) := by decide +kernel
theorem dX12_atom_134 : decode cX12_atom 134 = .ok (.aload_n 0, 1) := by decide +kernel
theorem dX12_atom_135 : decode cX12_atom 135 = .ok (.getfield 189, 3) := by decide +kernel
theorem dX12_atom_138 : decode cX12_atom 138 = .ok (.iadd, 1) := by decide +kernel
theorem dX12_atom_139 : decode cX12_atom 139 = .ok (.baload, 1) := by decide +kernel
theorem dX12_atom_140 : decode cX12_atom 140 = .ok (.iadd, 1) := by decide +kernel
theorem dX12_atom_141 : decode cX12_atom 141 = .ok (.bipush 48, 2) := by decide +kernel
theorem dX12_atom_143 : decode cX12_atom 143 = .ok (.isub, 1) := by decide +kernel
theorem dX12_atom_144 : decode cX12_atom 144 = .ok (.istore_n 2, 1) := by decide +kernel
theorem dX12_atom_145 : decode cX12_atom 145 = .ok (.aload_n 0, 1) := by decide +kernel
theorem dX12_atom_146 : decode cX12_atom 146 = .ok (.dup, 1) := by decide +kernel
theorem dX12_atom_147 : decode cX12_atom 147 = .ok (.getfield 189, 3) := by decide +kernel
theorem dX12_atom_150 : decode cX12_atom 150 = .ok (.iconst 1, 1) := by decide +kernel
theorem dX12_atom_151 : decode cX12_atom 151 = .ok (.iadd, 1) := by decide +kernel
theorem dX12_atom_152 : decode cX12_atom 152 = .ok (.putfield 189, 3) := by decide +kernel
theorem dX12_atom_155 : decode cX12_atom 155 = .ok (.iinc 3 1, 3) := by decide +kernel
theorem dX12_atom_158 : decode cX12_atom 158 = .ok (.goto (-63), 3) := by decide +kernel
theorem dX12_atom_161 : decode cX12_atom 161 = .ok (.iload_n 2, 1) := by decide +kernel
theorem dX12_atom_162 : decode cX12_atom 162 = .ok (.ireturn, 1) := by decide +kernel
theorem dX12_bearers_0 : decode cX12_bearers 0 = .ok (.aload_n 0, 1) := by decide +kernel
theorem dX12_bearers_1 : decode cX12_bearers 1 = .ok (.iconst 0, 1) := by decide +kernel
theorem dX12_bearers_2 : decode cX12_bearers 2 = .ok (.putfield 138, 3) := by decide +kernel
theorem dX12_bearers_5 : decode cX12_bearers 5 = .ok (.iload_n 1, 1) := by decide +kernel
theorem dX12_bearers_6 : decode cX12_bearers 6 = .ok (.iconst 0, 1) := by decide +kernel
theorem dX12_bearers_7 : decode cX12_bearers 7 = .ok (.bipush 29, 2) := by decide +kernel
theorem dX12_bearers_9 : decode cX12_bearers 9 = .ok (.invokestatic 145, 3) := by decide +kernel
theorem dX12_bearers_12 : decode cX12_bearers 12 = .ok (.ifCond .eq 11, 3) := by decide +kernel
theorem dX12_bearers_15 : decode cX12_bearers 15 = .ok (.aload_n 0, 1) := by decide +kernel
theorem dX12_bearers_16 : decode cX12_bearers 16 = .ok (.iload_n 2, 1) := by decide +kernel
theorem dX12_bearers_17 : decode cX12_bearers 17 = .ok (.invokevirtual 159, 3) := by decide +kernel
theorem dX12_bearers_20 : decode cX12_bearers 20 = .ok (.ifCond .ne 5, 3) := by decide +kernel
theorem dX12_bearers_23 : decode cX12_bearers 23 = .ok (.iconst (-1), 1) := by decide +kernel
theorem dX12_bearers_24 : decode cX12_bearers 24 = .ok (.ireturn, 1) := by decide +kernel
theorem dX12_bearers_25 : decode cX12_bearers 25 = .ok (.iconst 0, 1) := by decide +kernel
theorem dX12_bearers_26 : decode cX12_bearers 26 = .ok (.istore_n 3, 1) := by decide +kernel
theorem dX12_bearers_27 : decode cX12_bearers 27 = .ok (.iconst 0, 1) := by decide +kernel
theorem dX12_bearers_28 : decode cX12_bearers 28 = .ok (.istore 4, 2) := by decide +kernel
theorem dX12_bearers_30 : decode cX12_bearers 30 = .ok (.iload 4, 2) := by decide +kernel
theorem dX12_bearers_32 : decode cX12_bearers 32 = .ok (.aload_n 0, 1) := by decide +kernel
theorem dX12_bearers_33 : decode cX12_bearers 33 = .ok (.getfield 149, 3) := by decide +kernel
theorem dX12_bearers_36 : decode cX12_bearers 36 = .ok (.if_icmp .ge 29, 3) := by decide +kernel
theorem dX12_bearers_39 : decode cX12_bearers 39 = .ok (.iload_n 3, 1) := by decide +kernel
theorem dX12_bearers_40 : decode cX12_bearers 40 = .ok (.aload_n 0, 1) := by decide +kernel
theorem dX12_bearers_41 : decode cX12_bearers 41 = .ok (.iload 4, 2) := by decide +kernel
theorem dX12_bearers_43 : decode cX12_bearers 43 = .ok (.iload_n 1, 1) := by decide +kernel
theorem dX12_bearers_44 : decode cX12_bearers 44 = .ok (.iload_n 2, 1) := by decide +kernel
theorem dX12_bearers_45 : decode cX12_bearers 45 = .ok (.invokevirtual 332, 3) := by decide +kernel
theorem dX12_bearers_48 : decode cX12_bearers 48 = .ok (.iconst (-1), 1) := by decide +kernel
theorem dX12_bearers_49 : decode cX12_bearers 49 = .ok (.if_icmp .eq 7, 3) := by decide +kernel
theorem dX12_bearers_52 : decode cX12_bearers 52 = .ok (.iconst 1, 1) := by decide +kernel
theorem dX12_bearers_53 : decode cX12_bearers 53 = .ok (.goto 4, 3) := by decide +kernel
theorem dX12_bearers_56 : decode cX12_bearers 56 = .ok (.iconst 0, 1) := by decide +kernel
theorem dX12_bearers_57 : decode cX12_bearers 57 = .ok (.iadd, 1) := by decide +kernel
theorem dX12_bearers_58 : decode cX12_bearers 58 = .ok (.istore_n 3, 1) := by decide +kernel
theorem dX12_bearers_59 : decode cX12_bearers 59 = .ok (.iinc 4 1, 3) := by decide +kernel
theorem dX12_bearers_62 : decode cX12_bearers 62 = .ok (.goto (-32), 3) := by decide +kernel
theorem dX12_bearers_65 : decode cX12_bearers 65 = .ok (.iload_n 3, 1) := by decide +kernel
theorem dX12_bearers_66 : decode cX12_bearers 66 = .ok (.ireturn, 1) := by decide +kernel
theorem dX12_beside_0 : decode cX12_beside 0 = .ok (.aload_n 0, 1) := by decide +kernel
theorem dX12_beside_1 : decode cX12_beside 1 = .ok (.iconst 0, 1) := by decide +kernel
theorem dX12_beside_2 : decode cX12_beside 2 = .ok (.putfield 138, 3) := by decide +kernel
theorem dX12_beside_5 : decode cX12_beside 5 = .ok (.iload 4, 2) := by decide +kernel
theorem dX12_beside_7 : decode cX12_beside 7 = .ok (.iconst 0, 1) := by decide +kernel
theorem dX12_beside_8 : decode cX12_beside 8 = .ok (.aload_n 0, 1) := by decide +kernel
theorem dX12_beside_9 : decode cX12_beside 9 = .ok (.getfield 142, 3) := by decide +kernel
theorem dX12_beside_12 : decode cX12_beside 12 = .ok (.invokestatic 145, 3) := by decide +kernel
theorem dX12_beside_15 : decode cX12_beside 15 = .ok (.ifCond .eq 12, 3) := by decide +kernel
theorem dX12_beside_18 : decode cX12_beside 18 = .ok (.aload_n 0, 1) := by decide +kernel
theorem dX12_beside_19 : decode cX12_beside 19 = .ok (.iload_n 1, 1) := by decide +kernel
theorem dX12_beside_20 : decode cX12_beside 20 = .ok (.lload_n 2, 1) := by decide +kernel
theorem dX12_beside_21 : decode cX12_beside 21 = .ok (.invokevirtual 406, 3) := by decide +kernel
theorem dX12_beside_24 : decode cX12_beside 24 = .ok (.ifCond .ne 7, 3) := by decide +kernel
theorem dX12_beside_27 : decode cX12_beside 27 = .ok (.ldc_w 344, 3) := by decide +kernel
theorem dX12_beside_30 : decode cX12_beside 30 = .ok (.ireturn, 1) := by decide +kernel
theorem dX12_beside_31 : decode cX12_beside 31 = .ok (.iconst 0, 1) := by decide +kernel
theorem dX12_beside_32 : decode cX12_beside 32 = .ok (.istore 5, 2) := by decide +kernel
theorem dX12_beside_34 : decode cX12_beside 34 = .ok (.iconst 0, 1) := by decide +kernel
theorem dX12_beside_35 : decode cX12_beside 35 = .ok (.istore 6, 2) := by decide +kernel
theorem dX12_beside_37 : decode cX12_beside 37 = .ok (.iload 6, 2) := by decide +kernel
theorem dX12_beside_39 : decode cX12_beside 39 = .ok (.aload_n 0, 1) := by decide +kernel
theorem dX12_beside_40 : decode cX12_beside 40 = .ok (.getfield 152, 3) := by decide +kernel
theorem dX12_beside_43 : decode cX12_beside 43 = .ok (.if_icmp .ge 52, 3) := by decide +kernel
theorem dX12_beside_46 : decode cX12_beside 46 = .ok (.iload 5, 2) := by decide +kernel
theorem dX12_beside_48 : decode cX12_beside 48 = .ok (.aload_n 0, 1) := by decide +kernel
theorem dX12_beside_49 : decode cX12_beside 49 = .ok (.getfield 31, 3) := by decide +kernel
theorem dX12_beside_52 : decode cX12_beside 52 = .ok (.iload 6, 2) := by decide +kernel
theorem dX12_beside_54 : decode cX12_beside 54 = .ok (.iaload, 1) := by decide +kernel
theorem dX12_beside_55 : decode cX12_beside 55 = .ok (.iload 4, 2) := by decide +kernel
theorem dX12_beside_57 : decode cX12_beside 57 = .ok (.if_icmp .ne 28, 3) := by decide +kernel
theorem dX12_beside_60 : decode cX12_beside 60 = .ok (.aload_n 0, 1) := by decide +kernel
theorem dX12_beside_61 : decode cX12_beside 61 = .ok (.getfield 90, 3) := by decide +kernel
theorem dX12_beside_64 : decode cX12_beside 64 = .ok (.aload_n 0, 1) := by decide +kernel
theorem dX12_beside_65 : decode cX12_beside 65 = .ok (.getfield 28, 3) := by decide +kernel
theorem dX12_beside_68 : decode cX12_beside 68 = .ok (.iload 6, 2) := by decide +kernel
theorem dX12_beside_70 : decode cX12_beside 70 = .ok (.iaload, 1) := by decide +kernel
theorem dX12_beside_71 : decode cX12_beside 71 = .ok (.baload, 1) := by decide +kernel
theorem dX12_beside_72 : decode cX12_beside 72 = .ok (.ifCond .eq 13, 3) := by decide +kernel
theorem dX12_beside_75 : decode cX12_beside 75 = .ok (.aload_n 0, 1) := by decide +kernel
theorem dX12_beside_76 : decode cX12_beside 76 = .ok (.getfield 37, 3) := by decide +kernel
theorem dX12_beside_79 : decode cX12_beside 79 = .ok (.iload 6, 2) := by decide +kernel
theorem dX12_beside_81 : decode cX12_beside 81 = .ok (.iaload, 1) := by decide +kernel
theorem dX12_beside_82 : decode cX12_beside 82 = .ok (.goto 4, 3) := by decide +kernel
theorem dX12_beside_85 : decode cX12_beside 85 = .ok (.iconst 0, 1) := by decide +kernel
theorem dX12_beside_86 : decode cX12_beside 86 = .ok (.iadd, 1) := by decide +kernel
theorem dX12_beside_87 : decode cX12_beside 87 = .ok (.istore 5, 2) := by decide +kernel
theorem dX12_beside_89 : decode cX12_beside 89 = .ok (.iinc 6 1, 3) := by decide +kernel
theorem dX12_beside_92 : decode cX12_beside 92 = .ok (.goto (-55), 3) := by decide +kernel
theorem dX12_beside_95 : decode cX12_beside 95 = .ok (.iload 5, 2) := by decide +kernel
theorem dX12_beside_97 : decode cX12_beside 97 = .ok (.ireturn, 1) := by decide +kernel
theorem dX12_bound_0 : decode cX12_bound 0 = .ok (.ldc2_w 212, 3) := by decide +kernel
theorem dX12_bound_3 : decode cX12_bound 3 = .ok (.ldc2_w 214, 3) := by decide +kernel
theorem dX12_bound_6 : decode cX12_bound 6 = .ok (.lload_n 0, 1) := by decide +kernel
theorem dX12_bound_7 : decode cX12_bound 7 = .ok (.invokestatic 216, 3) := by decide +kernel
theorem dX12_bound_10 : decode cX12_bound 10 = .ok (.invokestatic 222, 3) := by decide +kernel
theorem dX12_bound_13 : decode cX12_bound 13 = .ok (.l2i, 1) := by decide +kernel
theorem dX12_bound_14 : decode cX12_bound 14 = .ok (.ireturn, 1) := by decide +kernel
theorem dX12_buy_0 : decode cX12_buy 0 = .ok (.aload_n 0, 1) := by decide +kernel
theorem dX12_buy_1 : decode cX12_buy 1 = .ok (.iconst 0, 1) := by decide +kernel
theorem dX12_buy_2 : decode cX12_buy 2 = .ok (.putfield 138, 3) := by decide +kernel
theorem dX12_buy_5 : decode cX12_buy 5 = .ok (.iload_n 1, 1) := by decide +kernel
theorem dX12_buy_6 : decode cX12_buy 6 = .ok (.iconst 0, 1) := by decide +kernel
theorem dX12_buy_7 : decode cX12_buy 7 = .ok (.sipush 400, 3) := by decide +kernel
theorem dX12_buy_10 : decode cX12_buy 10 = .ok (.invokestatic 145, 3) := by decide +kernel
theorem dX12_buy_13 : decode cX12_buy 13 = .ok (.ifCond .ne 5, 3) := by decide +kernel
theorem dX12_buy_16 : decode cX12_buy 16 = .ok (.iconst (-1), 1) := by decide +kernel
theorem dX12_buy_17 : decode cX12_buy 17 = .ok (.ireturn, 1) := by decide +kernel
theorem dX12_buy_18 : decode cX12_buy 18 = .ok (.iconst 0, 1) := by decide +kernel
theorem dX12_buy_19 : decode cX12_buy 19 = .ok (.istore_n 2, 1) := by decide +kernel
theorem dX12_buy_20 : decode cX12_buy 20 = .ok (.iconst 1, 1) := by decide +kernel
theorem dX12_buy_21 : decode cX12_buy 21 = .ok (.istore_n 3, 1) := by decide +kernel
theorem dX12_buy_22 : decode cX12_buy 22 = .ok (.iload_n 3, 1) := by decide +kernel
theorem dX12_buy_23 : decode cX12_buy 23 = .ok (.iconst 1, 1) := by decide +kernel
theorem dX12_buy_24 : decode cX12_buy 24 = .ok (.aload_n 0, 1) := by decide +kernel
theorem dX12_buy_25 : decode cX12_buy 25 = .ok (.getfield 393, 3) := by decide +kernel
theorem dX12_buy_28 : decode cX12_buy 28 = .ok (.ishl, 1) := by decide +kernel
theorem dX12_buy_29 : decode cX12_buy 29 = .ok (.if_icmp .ge 81, 3) := by decide +kernel
theorem dX12_buy_32 : decode cX12_buy 32 = .ok (.aload_n 0, 1) := by decide +kernel
theorem dX12_buy_33 : decode cX12_buy 33 = .ok (.iload_n 3, 1) := by decide +kernel
theorem dX12_buy_34 : decode cX12_buy 34 = .ok (.invokevirtual 396, 3) := by decide +kernel
theorem dX12_buy_37 : decode cX12_buy 37 = .ok (.iload_n 1, 1) := by decide +kernel
theorem dX12_buy_38 : decode cX12_buy 38 = .ok (.if_icmp .le 6, 3) := by decide +kernel
theorem dX12_buy_41 : decode cX12_buy 41 = .ok (.goto 63, 3) := by decide +kernel
theorem dX12_buy_44 : decode cX12_buy 44 = .ok (.aload_n 0, 1) := by decide +kernel
theorem dX12_buy_45 : decode cX12_buy 45 = .ok (.iload_n 3, 1) := by decide +kernel
theorem dX12_buy_46 : decode cX12_buy 46 = .ok (.invokevirtual 399, 3) := by decide +kernel
theorem dX12_buy_49 : decode cX12_buy 49 = .ok (.aload_n 0, 1) := by decide +kernel
theorem dX12_buy_50 : decode cX12_buy 50 = .ok (.iload_n 2, 1) := by decide +kernel
theorem dX12_buy_51 : decode cX12_buy 51 = .ok (.invokevirtual 399, 3) := by decide +kernel
theorem dX12_buy_54 : decode cX12_buy 54 = .ok (.isub, 1) := by decide +kernel
theorem dX12_buy_55 : decode cX12_buy 55 = .ok (.istore 4, 2) := by decide +kernel
theorem dX12_buy_57 : decode cX12_buy 57 = .ok (.iload 4, 2) := by decide +kernel
theorem dX12_buy_59 : decode cX12_buy 59 = .ok (.ifCond .ne 16, 3) := by decide +kernel
theorem dX12_buy_62 : decode cX12_buy 62 = .ok (.aload_n 0, 1) := by decide +kernel
theorem dX12_buy_63 : decode cX12_buy 63 = .ok (.iload_n 2, 1) := by decide +kernel
theorem dX12_buy_64 : decode cX12_buy 64 = .ok (.invokevirtual 396, 3) := by decide +kernel
theorem dX12_buy_67 : decode cX12_buy 67 = .ok (.aload_n 0, 1) := by decide +kernel
theorem dX12_buy_68 : decode cX12_buy 68 = .ok (.iload_n 3, 1) := by decide +kernel
theorem dX12_buy_69 : decode cX12_buy 69 = .ok (.invokevirtual 396, 3) := by decide +kernel
theorem dX12_buy_72 : decode cX12_buy 72 = .ok (.isub, 1) := by decide +kernel
theorem dX12_buy_73 : decode cX12_buy 73 = .ok (.istore 4, 2) := by decide +kernel
theorem dX12_buy_75 : decode cX12_buy 75 = .ok (.iload_n 3, 1) := by decide +kernel
theorem dX12_buy_76 : decode cX12_buy 76 = .ok (.iload_n 2, 1) := by decide +kernel
theorem dX12_buy_77 : decode cX12_buy 77 = .ok (.ixor, 1) := by decide +kernel
theorem dX12_buy_78 : decode cX12_buy 78 = .ok (.iload_n 3, 1) := by decide +kernel
theorem dX12_buy_79 : decode cX12_buy 79 = .ok (.iload_n 2, 1) := by decide +kernel
theorem dX12_buy_80 : decode cX12_buy 80 = .ok (.ixor, 1) := by decide +kernel
theorem dX12_buy_81 : decode cX12_buy 81 = .ok (.ineg, 1) := by decide +kernel
theorem dX12_buy_82 : decode cX12_buy 82 = .ok (.iand, 1) := by decide +kernel
theorem dX12_buy_83 : decode cX12_buy 83 = .ok (.istore 5, 2) := by decide +kernel
theorem dX12_buy_85 : decode cX12_buy 85 = .ok (.iload 4, 2) := by decide +kernel
theorem dX12_buy_87 : decode cX12_buy 87 = .ok (.ifCond .gt 15, 3) := by decide +kernel
theorem dX12_buy_90 : decode cX12_buy 90 = .ok (.iload 4, 2) := by decide +kernel
theorem dX12_buy_92 : decode cX12_buy 92 = .ok (.ifCond .ne 12, 3) := by decide +kernel
theorem dX12_buy_95 : decode cX12_buy 95 = .ok (.iload_n 3, 1) := by decide +kernel
theorem dX12_buy_96 : decode cX12_buy 96 = .ok (.iload 5, 2) := by decide +kernel
theorem dX12_buy_98 : decode cX12_buy 98 = .ok (.iand, 1) := by decide +kernel
theorem dX12_buy_99 : decode cX12_buy 99 = .ok (.ifCond .eq 5, 3) := by decide +kernel
theorem dX12_buy_102 : decode cX12_buy 102 = .ok (.iload_n 3, 1) := by decide +kernel
theorem dX12_buy_103 : decode cX12_buy 103 = .ok (.istore_n 2, 1) := by decide +kernel
theorem dX12_buy_104 : decode cX12_buy 104 = .ok (.iinc 3 1, 3) := by decide +kernel
theorem dX12_buy_107 : decode cX12_buy 107 = .ok (.goto (-85), 3) := by decide +kernel
theorem dX12_buy_110 : decode cX12_buy 110 = .ok (.iload_n 2, 1) := by decide +kernel
theorem dX12_buy_111 : decode cX12_buy 111 = .ok (.ireturn, 1) := by decide +kernel
theorem dX12_bytesIn_0 : decode cX12_bytesIn 0 = .ok (.iconst 0, 1) := by decide +kernel
theorem dX12_bytesIn_1 : decode cX12_bytesIn 1 = .ok (.istore_n 1, 1) := by decide +kernel
theorem dX12_bytesIn_2 : decode cX12_bytesIn 2 = .ok (.bipush 24, 2) := by decide +kernel
theorem dX12_bytesIn_4 : decode cX12_bytesIn 4 = .ok (.istore_n 2, 1) := by decide +kernel
theorem dX12_bytesIn_5 : decode cX12_bytesIn 5 = .ok (.iload_n 2, 1) := by decide +kernel
theorem dX12_bytesIn_6 : decode cX12_bytesIn 6 = .ok (.ifCond .lt 27, 3) := by decide +kernel
theorem dX12_bytesIn_9 : decode cX12_bytesIn 9 = .ok (.iload_n 1, 1) := by decide +kernel
theorem dX12_bytesIn_10 : decode cX12_bytesIn 10 = .ok (.iload_n 0, 1) := by decide +kernel
theorem dX12_bytesIn_11 : decode cX12_bytesIn 11 = .ok (.iload_n 2, 1) := by decide +kernel
theorem dX12_bytesIn_12 : decode cX12_bytesIn 12 = .ok (.ishr, 1) := by decide +kernel
theorem dX12_bytesIn_13 : decode cX12_bytesIn 13 = .ok (.sipush 255, 3) := by decide +kernel
theorem dX12_bytesIn_16 : decode cX12_bytesIn 16 = .ok (.iand, 1) := by decide +kernel
theorem dX12_bytesIn_17 : decode cX12_bytesIn 17 = .ok (.ifCond .eq 7, 3) := by decide +kernel
theorem dX12_bytesIn_20 : decode cX12_bytesIn 20 = .ok (.iconst 1, 1) := by decide +kernel
theorem dX12_bytesIn_21 : decode cX12_bytesIn 21 = .ok (.goto 4, 3) := by decide +kernel
theorem dX12_bytesIn_24 : decode cX12_bytesIn 24 = .ok (.iconst 0, 1) := by decide +kernel
theorem dX12_bytesIn_25 : decode cX12_bytesIn 25 = .ok (.iadd, 1) := by decide +kernel
theorem dX12_bytesIn_26 : decode cX12_bytesIn 26 = .ok (.istore_n 1, 1) := by decide +kernel
theorem dX12_bytesIn_27 : decode cX12_bytesIn 27 = .ok (.iinc 2 (-8), 3) := by decide +kernel
theorem dX12_bytesIn_30 : decode cX12_bytesIn 30 = .ok (.goto (-25), 3) := by decide +kernel
theorem dX12_bytesIn_33 : decode cX12_bytesIn 33 = .ok (.iload_n 1, 1) := by decide +kernel
theorem dX12_bytesIn_34 : decode cX12_bytesIn 34 = .ok (.ireturn, 1) := by decide +kernel
theorem dX12_clause_0 : decode cX12_clause 0 = .ok (.aload_n 0, 1) := by decide +kernel
theorem dX12_clause_1 : decode cX12_clause 1 = .ok (.invokevirtual 208, 3) := by decide +kernel
theorem dX12_clause_4 : decode cX12_clause 4 = .ok (.istore_n 1, 1) := by decide +kernel
theorem dX12_clause_5 : decode cX12_clause 5 = .ok (.iload_n 1, 1) := by decide +kernel
theorem dX12_clause_6 : decode cX12_clause 6 = .ok (.iconst (-1), 1) := by decide +kernel
theorem dX12_clause_7 : decode cX12_clause 7 = .ok (.if_icmp .eq 13, 3) := by decide +kernel
theorem dX12_clause_10 : decode cX12_clause 10 = .ok (.ldc_w 270, 3) := by decide +kernel
theorem dX12_clause_13 : decode cX12_clause 13 = .ok (.iload_n 1, 1) := by decide +kernel
theorem dX12_clause_14 : decode cX12_clause 14 = .ok (.invokevirtual 227, 3) := by decide +kernel
theorem dX12_clause_17 : decode cX12_clause 17 = .ok (.ifCond .ge 9, 3) := by decide +kernel
theorem dX12_clause_20 : decode cX12_clause 20 = .ok (.aload_n 0, 1) := by decide +kernel
theorem dX12_clause_21 : decode cX12_clause 21 = .ok (.invokevirtual 204, 3) := by decide +kernel
theorem dX12_clause_24 : decode cX12_clause 24 = .ok (.pop, 1) := by decide +kernel
theorem dX12_clause_25 : decode cX12_clause 25 = .ok (.return_, 1) := by decide +kernel
theorem dX12_clause_26 : decode cX12_clause 26 = .ok (.aload_n 0, 1) := by decide +kernel
theorem dX12_clause_27 : decode cX12_clause 27 = .ok (.dup, 1) := by decide +kernel
theorem dX12_clause_28 : decode cX12_clause 28 = .ok (.getfield 189, 3) := by decide +kernel
theorem dX12_clause_31 : decode cX12_clause 31 = .ok (.iconst 1, 1) := by decide +kernel
theorem dX12_clause_32 : decode cX12_clause 32 = .ok (.iadd, 1) := by decide +kernel
theorem dX12_clause_33 : decode cX12_clause 33 = .ok (.putfield 189, 3) := by decide +kernel
theorem dX12_clause_36 : decode cX12_clause 36 = .ok (.aload_n 0, 1) := by decide +kernel
theorem dX12_clause_37 : decode cX12_clause 37 = .ok (.bipush 58, 2) := by decide +kernel
theorem dX12_clause_39 : decode cX12_clause 39 = .ok (.invokevirtual 238, 3) := by decide +kernel
theorem dX12_clause_42 : decode cX12_clause 42 = .ok (.ifCond .ne 4, 3) := by decide +kernel
theorem dX12_clause_45 : decode cX12_clause 45 = .ok (.return_, 1) := by decide +kernel
theorem dX12_clause_46 : decode cX12_clause 46 = .ok (.iconst 1, 1) := by decide +kernel
theorem dX12_clause_47 : decode cX12_clause 47 = .ok (.istore_n 2, 1) := by decide +kernel
theorem dX12_clause_48 : decode cX12_clause 48 = .ok (.iconst 0, 1) := by decide +kernel
theorem dX12_clause_49 : decode cX12_clause 49 = .ok (.istore_n 3, 1) := by decide +kernel
theorem dX12_clause_50 : decode cX12_clause 50 = .ok (.aload_n 0, 1) := by decide +kernel
theorem dX12_clause_51 : decode cX12_clause 51 = .ok (.invokevirtual 208, 3) := by decide +kernel
theorem dX12_clause_54 : decode cX12_clause 54 = .ok (.istore 4, 2) := by decide +kernel
theorem dX12_clause_56 : decode cX12_clause 56 = .ok (.iload 4, 2) := by decide +kernel
theorem dX12_clause_58 : decode cX12_clause 58 = .ok (.bipush 33, 2) := by decide +kernel
theorem dX12_clause_60 : decode cX12_clause 60 = .ok (.if_icmp .eq 10, 3) := by decide +kernel
theorem dX12_clause_63 : decode cX12_clause 63 = .ok (.iload 4, 2) := by decide +kernel
theorem dX12_clause_65 : decode cX12_clause 65 = .ok (.bipush 40, 2) := by decide +kernel
theorem dX12_clause_67 : decode cX12_clause 67 = .ok (.if_icmp .ne 28, 3) := by decide +kernel
theorem dX12_clause_70 : decode cX12_clause 70 = .ok (.aload_n 0, 1) := by decide +kernel
theorem dX12_clause_71 : decode cX12_clause 71 = .ok (.iconst 0, 1) := by decide +kernel
theorem dX12_clause_72 : decode cX12_clause 72 = .ok (.iconst 0, 1) := by decide +kernel
theorem dX12_clause_73 : decode cX12_clause 73 = .ok (.invokevirtual 260, 3) := by decide +kernel
theorem dX12_clause_76 : decode cX12_clause 76 = .ok (.istore_n 2, 1) := by decide +kernel
theorem dX12_clause_77 : decode cX12_clause 77 = .ok (.aload_n 0, 1) := by decide +kernel
theorem dX12_clause_78 : decode cX12_clause 78 = .ok (.bipush 63, 2) := by decide +kernel
theorem dX12_clause_80 : decode cX12_clause 80 = .ok (.invokevirtual 238, 3) := by decide +kernel
theorem dX12_clause_83 : decode cX12_clause 83 = .ok (.ifCond .ne 4, 3) := by decide +kernel
theorem dX12_clause_86 : decode cX12_clause 86 = .ok (.return_, 1) := by decide +kernel
theorem dX12_clause_87 : decode cX12_clause 87 = .ok (.aload_n 0, 1) := by decide +kernel
theorem dX12_clause_88 : decode cX12_clause 88 = .ok (.invokevirtual 235, 3) := by decide +kernel
theorem dX12_clause_91 : decode cX12_clause 91 = .ok (.istore_n 3, 1) := by decide +kernel
theorem dX12_clause_92 : decode cX12_clause 92 = .ok (.goto 48, 3) := by decide +kernel
theorem dX12_clause_95 : decode cX12_clause 95 = .ok (.aload_n 0, 1) := by decide +kernel
theorem dX12_clause_96 : decode cX12_clause 96 = .ok (.invokevirtual 235, 3) := by decide +kernel
theorem dX12_clause_99 : decode cX12_clause 99 = .ok (.istore_n 3, 1) := by decide +kernel
theorem dX12_clause_100 : decode cX12_clause 100 = .ok (.aload_n 0, 1) := by decide +kernel
theorem dX12_clause_101 : decode cX12_clause 101 = .ok (.getfield 198, 3) := by decide +kernel
theorem dX12_clause_104 : decode cX12_clause 104 = .ok (.iconst (-1), 1) := by decide +kernel
theorem dX12_clause_105 : decode cX12_clause 105 = .ok (.if_icmp .ne 35, 3) := by decide +kernel
theorem dX12_clause_108 : decode cX12_clause 108 = .ok (.aload_n 0, 1) := by decide +kernel
theorem dX12_clause_109 : decode cX12_clause 109 = .ok (.invokevirtual 208, 3) := by decide +kernel
theorem dX12_clause_112 : decode cX12_clause 112 = .ok (.invokestatic 254, 3) := by decide +kernel
theorem dX12_clause_115 : decode cX12_clause 115 = .ok (.ifCond .eq 25, 3) := by decide +kernel
theorem dX12_clause_118 : decode cX12_clause 118 = .ok (.aload_n 0, 1) := by decide +kernel
theorem dX12_clause_119 : decode cX12_clause 119 = .ok (.iconst 1, 1) := by decide +kernel
theorem dX12_clause_120 : decode cX12_clause 120 = .ok (.iload_n 3, 1) := by decide +kernel
theorem dX12_clause_121 : decode cX12_clause 121 = .ok (.invokevirtual 260, 3) := by decide +kernel
theorem dX12_clause_124 : decode cX12_clause 124 = .ok (.istore_n 2, 1) := by decide +kernel
theorem dX12_clause_125 : decode cX12_clause 125 = .ok (.aload_n 0, 1) := by decide +kernel
theorem dX12_clause_126 : decode cX12_clause 126 = .ok (.bipush 63, 2) := by decide +kernel
theorem dX12_clause_128 : decode cX12_clause 128 = .ok (.invokevirtual 238, 3) := by decide +kernel
theorem dX12_clause_131 : decode cX12_clause 131 = .ok (.ifCond .ne 4, 3) := by decide +kernel
theorem dX12_clause_134 : decode cX12_clause 134 = .ok (.return_, 1) := by decide +kernel
theorem dX12_clause_135 : decode cX12_clause 135 = .ok (.aload_n 0, 1) := by decide +kernel
theorem dX12_clause_136 : decode cX12_clause 136 = .ok (.invokevirtual 235, 3) := by decide +kernel
theorem dX12_clause_139 : decode cX12_clause 139 = .ok (.istore_n 3, 1) := by decide +kernel
theorem dX12_clause_140 : decode cX12_clause 140 = .ok (.aload_n 0, 1) := by decide +kernel
theorem dX12_clause_141 : decode cX12_clause 141 = .ok (.getfield 198, 3) := by decide +kernel
theorem dX12_clause_144 : decode cX12_clause 144 = .ok (.iconst (-1), 1) := by decide +kernel
theorem dX12_clause_145 : decode cX12_clause 145 = .ok (.if_icmp .ne 22, 3) := by decide +kernel
theorem dX12_clause_148 : decode cX12_clause 148 = .ok (.aload_n 0, 1) := by decide +kernel
theorem dX12_clause_149 : decode cX12_clause 149 = .ok (.getfield 272, 3) := by decide +kernel
theorem dX12_clause_152 : decode cX12_clause 152 = .ok (.ifCond .ne 15, 3) := by decide +kernel
theorem dX12_clause_155 : decode cX12_clause 155 = .ok (.iload_n 1, 1) := by decide +kernel
theorem dX12_clause_156 : decode cX12_clause 156 = .ok (.aload_n 0, 1) := by decide +kernel
theorem dX12_clause_157 : decode cX12_clause 157 = .ok (.getfield 276, 3) := by decide +kernel
theorem dX12_clause_160 : decode cX12_clause 160 = .ok (.if_icmp .ne 7, 3) := by decide +kernel
theorem dX12_clause_163 : decode cX12_clause 163 = .ok (.iload_n 2, 1) := by decide +kernel
theorem dX12_clause_164 : decode cX12_clause 164 = .ok (.ifCond .ne 4, 3) := by decide +kernel
theorem dX12_clause_167 : decode cX12_clause 167 = .ok (.return_, 1) := by decide +kernel
theorem dX12_clause_168 : decode cX12_clause 168 = .ok (.aload_n 0, 1) := by decide +kernel
theorem dX12_clause_169 : decode cX12_clause 169 = .ok (.iconst 1, 1) := by decide +kernel
theorem dX12_clause_170 : decode cX12_clause 170 = .ok (.putfield 272, 3) := by decide +kernel
theorem dX12_clause_173 : decode cX12_clause 173 = .ok (.aload_n 0, 1) := by decide +kernel
theorem dX12_clause_174 : decode cX12_clause 174 = .ok (.iload_n 3, 1) := by decide +kernel
theorem dX12_clause_175 : decode cX12_clause 175 = .ok (.putfield 279, 3) := by decide +kernel
theorem dX12_clause_178 : decode cX12_clause 178 = .ok (.return_, 1) := by decide +kernel
theorem dX12_compares_0 : decode cX12_compares 0 = .ok (.iload_n 1, 1) := by decide +kernel
theorem dX12_compares_1 : decode cX12_compares 1 = .ok (.ifCond .eq 7, 3) := by decide +kernel
theorem dX12_compares_4 : decode cX12_compares 4 = .ok (.iload_n 2, 1) := by decide +kernel
theorem dX12_compares_5 : decode cX12_compares 5 = .ok (.goto 7, 3) := by decide +kernel
theorem dX12_compares_8 : decode cX12_compares 8 = .ok (.aload_n 0, 1) := by decide +kernel
theorem dX12_compares_9 : decode cX12_compares 9 = .ok (.invokevirtual 235, 3) := by decide +kernel
theorem dX12_compares_12 : decode cX12_compares 12 = .ok (.istore_n 3, 1) := by decide +kernel
theorem dX12_compares_13 : decode cX12_compares 13 = .ok (.aload_n 0, 1) := by decide +kernel
theorem dX12_compares_14 : decode cX12_compares 14 = .ok (.getfield 198, 3) := by decide +kernel
theorem dX12_compares_17 : decode cX12_compares 17 = .ok (.iconst (-1), 1) := by decide +kernel
theorem dX12_compares_18 : decode cX12_compares 18 = .ok (.if_icmp .eq 5, 3) := by decide +kernel
theorem dX12_compares_21 : decode cX12_compares 21 = .ok (.iconst 0, 1) := by decide +kernel
theorem dX12_compares_22 : decode cX12_compares 22 = .ok (.ireturn, 1) := by decide +kernel
theorem dX12_compares_23 : decode cX12_compares 23 = .ok (.aload_n 0, 1) := by decide +kernel
theorem dX12_compares_24 : decode cX12_compares 24 = .ok (.invokevirtual 208, 3) := by decide +kernel
theorem dX12_compares_27 : decode cX12_compares 27 = .ok (.istore 4, 2) := by decide +kernel
theorem dX12_compares_29 : decode cX12_compares 29 = .ok (.iload 4, 2) := by decide +kernel
theorem dX12_compares_31 : decode cX12_compares 31 = .ok (.invokestatic 254, 3) := by decide +kernel
theorem dX12_compares_34 : decode cX12_compares 34 = .ok (.ifCond .ne 8, 3) := by decide +kernel
theorem dX12_compares_37 : decode cX12_compares 37 = .ok (.aload_n 0, 1) := by decide +kernel
theorem dX12_compares_38 : decode cX12_compares 38 = .ok (.invokevirtual 204, 3) := by decide +kernel
theorem dX12_compares_41 : decode cX12_compares 41 = .ok (.ireturn, 1) := by decide +kernel
theorem dX12_compares_42 : decode cX12_compares 42 = .ok (.aload_n 0, 1) := by decide +kernel
theorem dX12_compares_43 : decode cX12_compares 43 = .ok (.dup, 1) := by decide +kernel
theorem dX12_compares_44 : decode cX12_compares 44 = .ok (.getfield 189, 3) := by decide +kernel
theorem dX12_compares_47 : decode cX12_compares 47 = .ok (.iconst 1, 1) := by decide +kernel
theorem dX12_compares_48 : decode cX12_compares 48 = .ok (.iadd, 1) := by decide +kernel
theorem dX12_compares_49 : decode cX12_compares 49 = .ok (.putfield 189, 3) := by decide +kernel
theorem dX12_compares_52 : decode cX12_compares 52 = .ok (.aload_n 0, 1) := by decide +kernel
theorem dX12_compares_53 : decode cX12_compares 53 = .ok (.invokevirtual 235, 3) := by decide +kernel
theorem dX12_compares_56 : decode cX12_compares 56 = .ok (.istore 5, 2) := by decide +kernel
theorem dX12_compares_58 : decode cX12_compares 58 = .ok (.iload 4, 2) := by decide +kernel
theorem dX12_compares_60 : decode cX12_compares 60 = .ok (.bipush 61, 2) := by decide +kernel
theorem dX12_compares_62 : decode cX12_compares 62 = .ok (.if_icmp .ne 17, 3) := by decide +kernel
theorem dX12_compares_65 : decode cX12_compares 65 = .ok (.iload_n 3, 1) := by decide +kernel
theorem dX12_compares_66 : decode cX12_compares 66 = .ok (.iload 5, 2) := by decide +kernel
theorem dX12_compares_68 : decode cX12_compares 68 = .ok (.if_icmp .ne 7, 3) := by decide +kernel
theorem dX12_compares_71 : decode cX12_compares 71 = .ok (.iconst 1, 1) := by decide +kernel
theorem dX12_compares_72 : decode cX12_compares 72 = .ok (.goto 39, 3) := by decide +kernel
theorem dX12_compares_75 : decode cX12_compares 75 = .ok (.iconst 0, 1) := by decide +kernel
theorem dX12_compares_76 : decode cX12_compares 76 = .ok (.goto 35, 3) := by decide +kernel
theorem dX12_compares_79 : decode cX12_compares 79 = .ok (.iload 4, 2) := by decide +kernel
theorem dX12_compares_81 : decode cX12_compares 81 = .ok (.bipush 60, 2) := by decide +kernel
theorem dX12_compares_83 : decode cX12_compares 83 = .ok (.if_icmp .ne 17, 3) := by decide +kernel
theorem dX12_compares_86 : decode cX12_compares 86 = .ok (.iload_n 3, 1) := by decide +kernel
theorem dX12_compares_87 : decode cX12_compares 87 = .ok (.iload 5, 2) := by decide +kernel
theorem dX12_compares_89 : decode cX12_compares 89 = .ok (.if_icmp .ge 7, 3) := by decide +kernel
theorem dX12_compares_92 : decode cX12_compares 92 = .ok (.iconst 1, 1) := by decide +kernel
theorem dX12_compares_93 : decode cX12_compares 93 = .ok (.goto 18, 3) := by decide +kernel
theorem dX12_compares_96 : decode cX12_compares 96 = .ok (.iconst 0, 1) := by decide +kernel
theorem dX12_compares_97 : decode cX12_compares 97 = .ok (.goto 14, 3) := by decide +kernel
theorem dX12_compares_100 : decode cX12_compares 100 = .ok (.iload_n 3, 1) := by decide +kernel
theorem dX12_compares_101 : decode cX12_compares 101 = .ok (.iload 5, 2) := by decide +kernel
theorem dX12_compares_103 : decode cX12_compares 103 = .ok (.if_icmp .le 7, 3) := by decide +kernel
theorem dX12_compares_106 : decode cX12_compares 106 = .ok (.iconst 1, 1) := by decide +kernel
theorem dX12_compares_107 : decode cX12_compares 107 = .ok (.goto 4, 3) := by decide +kernel
theorem dX12_compares_110 : decode cX12_compares 110 = .ok (.iconst 0, 1) := by decide +kernel
theorem dX12_compares_111 : decode cX12_compares 111 = .ok (.ireturn, 1) := by decide +kernel
theorem dX12_condition_0 : decode cX12_condition 0 = .ok (.aload_n 0, 1) := by decide +kernel
theorem dX12_condition_1 : decode cX12_condition 1 = .ok (.iload_n 1, 1) := by decide +kernel
theorem dX12_condition_2 : decode cX12_condition 2 = .ok (.iload_n 2, 1) := by decide +kernel
theorem dX12_condition_3 : decode cX12_condition 3 = .ok (.invokevirtual 267, 3) := by decide +kernel
theorem dX12_condition_6 : decode cX12_condition 6 = .ok (.istore_n 3, 1) := by decide +kernel
theorem dX12_condition_7 : decode cX12_condition 7 = .ok (.aload_n 0, 1) := by decide +kernel
theorem dX12_condition_8 : decode cX12_condition 8 = .ok (.getfield 198, 3) := by decide +kernel
theorem dX12_condition_11 : decode cX12_condition 11 = .ok (.iconst (-1), 1) := by decide +kernel
theorem dX12_condition_12 : decode cX12_condition 12 = .ok (.if_icmp .ne 48, 3) := by decide +kernel
theorem dX12_condition_15 : decode cX12_condition 15 = .ok (.aload_n 0, 1) := by decide +kernel
theorem dX12_condition_16 : decode cX12_condition 16 = .ok (.invokevirtual 208, 3) := by decide +kernel
theorem dX12_condition_19 : decode cX12_condition 19 = .ok (.bipush 124, 2) := by decide +kernel
theorem dX12_condition_21 : decode cX12_condition 21 = .ok (.if_icmp .ne 39, 3) := by decide +kernel
theorem dX12_condition_24 : decode cX12_condition 24 = .ok (.aload_n 0, 1) := by decide +kernel
theorem dX12_condition_25 : decode cX12_condition 25 = .ok (.dup, 1) := by decide +kernel
theorem dX12_condition_26 : decode cX12_condition 26 = .ok (.getfield 189, 3) := by decide +kernel
theorem dX12_condition_29 : decode cX12_condition 29 = .ok (.iconst 1, 1) := by decide +kernel
theorem dX12_condition_30 : decode cX12_condition 30 = .ok (.iadd, 1) := by decide +kernel
theorem dX12_condition_31 : decode cX12_condition 31 = .ok (.putfield 189, 3) := by decide +kernel
theorem dX12_condition_34 : decode cX12_condition 34 = .ok (.aload_n 0, 1) := by decide +kernel
theorem dX12_condition_35 : decode cX12_condition 35 = .ok (.iconst 0, 1) := by decide +kernel
theorem dX12_condition_36 : decode cX12_condition 36 = .ok (.iconst 0, 1) := by decide +kernel
theorem dX12_condition_37 : decode cX12_condition 37 = .ok (.invokevirtual 267, 3) := by decide +kernel
theorem dX12_condition_40 : decode cX12_condition 40 = .ok (.istore 4, 2) := by decide +kernel
theorem dX12_condition_42 : decode cX12_condition 42 = .ok (.iload_n 3, 1) := by decide +kernel
theorem dX12_condition_43 : decode cX12_condition 43 = .ok (.ifCond .ne 8, 3) := by decide +kernel
theorem dX12_condition_46 : decode cX12_condition 46 = .ok (.iload 4, 2) := by decide +kernel
theorem dX12_condition_48 : decode cX12_condition 48 = .ok (.ifCond .eq 7, 3) := by decide +kernel
theorem dX12_condition_51 : decode cX12_condition 51 = .ok (.iconst 1, 1) := by decide +kernel
theorem dX12_condition_52 : decode cX12_condition 52 = .ok (.goto 4, 3) := by decide +kernel
theorem dX12_condition_55 : decode cX12_condition 55 = .ok (.iconst 0, 1) := by decide +kernel
theorem dX12_condition_56 : decode cX12_condition 56 = .ok (.istore_n 3, 1) := by decide +kernel
theorem dX12_condition_57 : decode cX12_condition 57 = .ok (.goto (-50), 3) := by decide +kernel
theorem dX12_condition_60 : decode cX12_condition 60 = .ok (.iload_n 3, 1) := by decide +kernel
theorem dX12_condition_61 : decode cX12_condition 61 = .ok (.ireturn, 1) := by decide +kernel
theorem dX12_count_0 : decode cX12_count 0 = .ok (.aload_n 0, 1) := by decide +kernel
theorem dX12_count_1 : decode cX12_count 1 = .ok (.iconst 0, 1) := by decide +kernel
theorem dX12_count_2 : decode cX12_count 2 = .ok (.putfield 138, 3) := by decide +kernel
theorem dX12_count_5 : decode cX12_count 5 = .ok (.iload_n 1, 1) := by decide +kernel
theorem dX12_count_6 : decode cX12_count 6 = .ok (.tableswitch 157 0 11 #[62, 67, 72, 77, 82, 87, 92, 97, 102, 107, 112, 152], 62) := by decide +kernel
theorem dX12_count_68 : decode cX12_count 68 = .ok (.aload_n 0, 1) := by decide +kernel
theorem dX12_count_69 : decode cX12_count 69 = .ok (.getfield 142, 3) := by decide +kernel
theorem dX12_count_72 : decode cX12_count 72 = .ok (.ireturn, 1) := by decide +kernel
theorem dX12_count_73 : decode cX12_count 73 = .ok (.aload_n 0, 1) := by decide +kernel
theorem dX12_count_74 : decode cX12_count 74 = .ok (.getfield 149, 3) := by decide +kernel
theorem dX12_count_77 : decode cX12_count 77 = .ok (.ireturn, 1) := by decide +kernel
theorem dX12_count_78 : decode cX12_count 78 = .ok (.aload_n 0, 1) := by decide +kernel
theorem dX12_count_79 : decode cX12_count 79 = .ok (.getfield 152, 3) := by decide +kernel
theorem dX12_count_82 : decode cX12_count 82 = .ok (.ireturn, 1) := by decide +kernel
theorem dX12_count_83 : decode cX12_count 83 = .ok (.aload_n 0, 1) := by decide +kernel
theorem dX12_count_84 : decode cX12_count 84 = .ok (.getfield 289, 3) := by decide +kernel
theorem dX12_count_87 : decode cX12_count 87 = .ok (.ireturn, 1) := by decide +kernel
theorem dX12_count_88 : decode cX12_count 88 = .ok (.aload_n 0, 1) := by decide +kernel
theorem dX12_count_89 : decode cX12_count 89 = .ok (.getfield 329, 3) := by decide +kernel
theorem dX12_count_92 : decode cX12_count 92 = .ok (.ireturn, 1) := by decide +kernel
theorem dX12_count_93 : decode cX12_count 93 = .ok (.aload_n 0, 1) := by decide +kernel
theorem dX12_count_94 : decode cX12_count 94 = .ok (.getfield 335, 3) := by decide +kernel
theorem dX12_count_97 : decode cX12_count 97 = .ok (.ireturn, 1) := by decide +kernel
theorem dX12_count_98 : decode cX12_count 98 = .ok (.aload_n 0, 1) := by decide +kernel
theorem dX12_count_99 : decode cX12_count 99 = .ok (.getfield 369, 3) := by decide +kernel
theorem dX12_count_102 : decode cX12_count 102 = .ok (.ireturn, 1) := by decide +kernel
theorem dX12_count_103 : decode cX12_count 103 = .ok (.aload_n 0, 1) := by decide +kernel
theorem dX12_count_104 : decode cX12_count 104 = .ok (.getfield 372, 3) := by decide +kernel
theorem dX12_count_107 : decode cX12_count 107 = .ok (.ireturn, 1) := by decide +kernel
theorem dX12_count_108 : decode cX12_count 108 = .ok (.aload_n 0, 1) := by decide +kernel
theorem dX12_count_109 : decode cX12_count 109 = .ok (.getfield 393, 3) := by decide +kernel
theorem dX12_count_112 : decode cX12_count 112 = .ok (.ireturn, 1) := by decide +kernel
theorem dX12_count_113 : decode cX12_count 113 = .ok (.aload_n 0, 1) := by decide +kernel
theorem dX12_count_114 : decode cX12_count 114 = .ok (.getfield 178, 3) := by decide +kernel
theorem dX12_count_117 : decode cX12_count 117 = .ok (.ireturn, 1) := by decide +kernel
theorem dX12_count_118 : decode cX12_count 118 = .ok (.iconst 0, 1) := by decide +kernel
theorem dX12_count_119 : decode cX12_count 119 = .ok (.istore_n 2, 1) := by decide +kernel
theorem dX12_count_120 : decode cX12_count 120 = .ok (.iconst 0, 1) := by decide +kernel
theorem dX12_count_121 : decode cX12_count 121 = .ok (.istore_n 3, 1) := by decide +kernel
theorem dX12_count_122 : decode cX12_count 122 = .ok (.iload_n 3, 1) := by decide +kernel
theorem dX12_count_123 : decode cX12_count 123 = .ok (.aload_n 0, 1) := by decide +kernel
theorem dX12_count_124 : decode cX12_count 124 = .ok (.getfield 149, 3) := by decide +kernel
theorem dX12_count_127 : decode cX12_count 127 = .ok (.if_icmp .ge 29, 3) := by decide +kernel
theorem dX12_count_130 : decode cX12_count 130 = .ok (.iload_n 2, 1) := by decide +kernel
theorem dX12_count_131 : decode cX12_count 131 = .ok (.aload_n 0, 1) := by decide +kernel
theorem dX12_count_132 : decode cX12_count 132 = .ok (.iload_n 3, 1) := by decide +kernel
theorem dX12_count_133 : decode cX12_count 133 = .ok (.aload_n 0, 1) := by decide +kernel
theorem dX12_count_134 : decode cX12_count 134 = .ok (.getfield 142, 3) := by decide +kernel
theorem dX12_count_137 : decode cX12_count 137 = .ok (.invokevirtual 366, 3) := by decide +kernel
theorem dX12_count_140 : decode cX12_count 140 = .ok (.ifCond .eq 7, 3) := by decide +kernel
theorem dX12_count_143 : decode cX12_count 143 = .ok (.iconst 1, 1) := by decide +kernel
theorem dX12_count_144 : decode cX12_count 144 = .ok (.goto 4, 3) := by decide +kernel
theorem dX12_count_147 : decode cX12_count 147 = .ok (.iconst 0, 1) := by decide +kernel
theorem dX12_count_148 : decode cX12_count 148 = .ok (.iadd, 1) := by decide +kernel
theorem dX12_count_149 : decode cX12_count 149 = .ok (.istore_n 2, 1) := by decide +kernel
theorem dX12_count_150 : decode cX12_count 150 = .ok (.iinc 3 1, 3) := by decide +kernel
theorem dX12_count_153 : decode cX12_count 153 = .ok (.goto (-31), 3) := by decide +kernel
theorem dX12_count_156 : decode cX12_count 156 = .ok (.iload_n 2, 1) := by decide +kernel
theorem dX12_count_157 : decode cX12_count 157 = .ok (.ireturn, 1) := by decide +kernel
theorem dX12_count_158 : decode cX12_count 158 = .ok (.aload_n 0, 1) := by decide +kernel
theorem dX12_count_159 : decode cX12_count 159 = .ok (.invokevirtual 345, 3) := by decide +kernel
theorem dX12_count_162 : decode cX12_count 162 = .ok (.ireturn, 1) := by decide +kernel
theorem dX12_count_163 : decode cX12_count 163 = .ok (.iconst (-1), 1) := by decide +kernel
theorem dX12_count_164 : decode cX12_count 164 = .ok (.ireturn, 1) := by decide +kernel
theorem dX12_days_0 : decode cX12_days 0 = .ok (.aload_n 0, 1) := by decide +kernel
theorem dX12_days_1 : decode cX12_days 1 = .ok (.iconst 0, 1) := by decide +kernel
theorem dX12_days_2 : decode cX12_days 2 = .ok (.putfield 138, 3) := by decide +kernel
theorem dX12_days_5 : decode cX12_days 5 = .ok (.iload_n 1, 1) := by decide +kernel
theorem dX12_days_6 : decode cX12_days 6 = .ok (.iconst 0, 1) := by decide +kernel
theorem dX12_days_7 : decode cX12_days 7 = .ok (.sipush 400, 3) := by decide +kernel
theorem dX12_days_10 : decode cX12_days 10 = .ok (.invokestatic 145, 3) := by decide +kernel
theorem dX12_days_13 : decode cX12_days 13 = .ok (.ifCond .eq 15, 3) := by decide +kernel
theorem dX12_days_16 : decode cX12_days 16 = .ok (.aload_n 0, 1) := by decide +kernel
theorem dX12_days_17 : decode cX12_days 17 = .ok (.getfield 142, 3) := by decide +kernel
theorem dX12_days_20 : decode cX12_days 20 = .ok (.iload_n 1, 1) := by decide +kernel
theorem dX12_days_21 : decode cX12_days 21 = .ok (.iadd, 1) := by decide +kernel
theorem dX12_days_22 : decode cX12_days 22 = .ok (.sipush 1000, 3) := by decide +kernel
theorem dX12_days_25 : decode cX12_days 25 = .ok (.if_icmp .le 5, 3) := by decide +kernel
theorem dX12_days_28 : decode cX12_days 28 = .ok (.iconst (-1), 1) := by decide +kernel
theorem dX12_days_29 : decode cX12_days 29 = .ok (.ireturn, 1) := by decide +kernel
theorem dX12_days_30 : decode cX12_days 30 = .ok (.aload_n 0, 1) := by decide +kernel
theorem dX12_days_31 : decode cX12_days 31 = .ok (.dup, 1) := by decide +kernel
theorem dX12_days_32 : decode cX12_days 32 = .ok (.getfield 142, 3) := by decide +kernel
theorem dX12_days_35 : decode cX12_days 35 = .ok (.iload_n 1, 1) := by decide +kernel
theorem dX12_days_36 : decode cX12_days 36 = .ok (.iadd, 1) := by decide +kernel
theorem dX12_days_37 : decode cX12_days 37 = .ok (.putfield 142, 3) := by decide +kernel
theorem dX12_days_40 : decode cX12_days 40 = .ok (.aload_n 0, 1) := by decide +kernel
theorem dX12_days_41 : decode cX12_days 41 = .ok (.getfield 142, 3) := by decide +kernel
theorem dX12_days_44 : decode cX12_days 44 = .ok (.ireturn, 1) := by decide +kernel
theorem dX12_digest_0 : decode cX12_digest 0 = .ok (.aload_n 0, 1) := by decide +kernel
theorem dX12_digest_1 : decode cX12_digest 1 = .ok (.iload_n 1, 1) := by decide +kernel
theorem dX12_digest_2 : decode cX12_digest 2 = .ok (.iload_n 2, 1) := by decide +kernel
theorem dX12_digest_3 : decode cX12_digest 3 = .ok (.iload_n 3, 1) := by decide +kernel
theorem dX12_digest_4 : decode cX12_digest 4 = .ok (.iload 4, 2) := by decide +kernel
theorem dX12_digest_6 : decode cX12_digest 6 = .ok (.invokevirtual 326, 3) := by decide +kernel
theorem dX12_digest_9 : decode cX12_digest 9 = .ok (.ifCond .ne 5, 3) := by decide +kernel
theorem dX12_digest_12 : decode cX12_digest 12 = .ok (.iconst (-1), 1) := by decide +kernel
theorem dX12_digest_13 : decode cX12_digest 13 = .ok (.ireturn, 1) := by decide +kernel
theorem dX12_digest_14 : decode cX12_digest 14 = .ok (.iload 5, 2) := by decide +kernel
theorem dX12_digest_16 : decode cX12_digest 16 = .ok (.iconst (-1), 1) := by decide +kernel
theorem dX12_digest_17 : decode cX12_digest 17 = .ok (.if_icmp .ne 10, 3) := by decide +kernel
theorem dX12_digest_20 : decode cX12_digest 20 = .ok (.aload_n 0, 1) := by decide +kernel
theorem dX12_digest_21 : decode cX12_digest 21 = .ok (.getfield 317, 3) := by decide +kernel
theorem dX12_digest_24 : decode cX12_digest 24 = .ok (.goto 29, 3) := by decide +kernel
theorem dX12_digest_27 : decode cX12_digest 27 = .ok (.iload 5, 2) := by decide +kernel
theorem dX12_digest_29 : decode cX12_digest 29 = .ok (.iconst 0, 1) := by decide +kernel
theorem dX12_digest_30 : decode cX12_digest 30 = .ok (.aload_n 0, 1) := by decide +kernel
theorem dX12_digest_31 : decode cX12_digest 31 = .ok (.getfield 317, 3) := by decide +kernel
theorem dX12_digest_34 : decode cX12_digest 34 = .ok (.iconst 1, 1) := by decide +kernel
theorem dX12_digest_35 : decode cX12_digest 35 = .ok (.isub, 1) := by decide +kernel
theorem dX12_digest_36 : decode cX12_digest 36 = .ok (.invokestatic 145, 3) := by decide +kernel
theorem dX12_digest_39 : decode cX12_digest 39 = .ok (.ifCond .eq 13, 3) := by decide +kernel
theorem dX12_digest_42 : decode cX12_digest 42 = .ok (.aload_n 0, 1) := by decide +kernel
theorem dX12_digest_43 : decode cX12_digest 43 = .ok (.getfield 71, 3) := by decide +kernel
theorem dX12_digest_46 : decode cX12_digest 46 = .ok (.iload 5, 2) := by decide +kernel
theorem dX12_digest_48 : decode cX12_digest 48 = .ok (.iaload, 1) := by decide +kernel
theorem dX12_digest_49 : decode cX12_digest 49 = .ok (.goto 4, 3) := by decide +kernel
theorem dX12_digest_52 : decode cX12_digest 52 = .ok (.iconst (-1), 1) := by decide +kernel
theorem dX12_digest_53 : decode cX12_digest 53 = .ok (.ireturn, 1) := by decide +kernel
theorem dX12_digests_0 : decode cX12_digests 0 = .ok (.aload_n 0, 1) := by decide +kernel
theorem dX12_digests_1 : decode cX12_digests 1 = .ok (.iconst 0, 1) := by decide +kernel
theorem dX12_digests_2 : decode cX12_digests 2 = .ok (.putfield 138, 3) := by decide +kernel
theorem dX12_digests_5 : decode cX12_digests 5 = .ok (.iload_n 1, 1) := by decide +kernel
theorem dX12_digests_6 : decode cX12_digests 6 = .ok (.invokestatic 175, 3) := by decide +kernel
theorem dX12_digests_9 : decode cX12_digests 9 = .ok (.ifCond .eq 33, 3) := by decide +kernel
theorem dX12_digests_12 : decode cX12_digests 12 = .ok (.iload_n 2, 1) := by decide +kernel
theorem dX12_digests_13 : decode cX12_digests 13 = .ok (.iload_n 1, 1) := by decide +kernel
theorem dX12_digests_14 : decode cX12_digests 14 = .ok (.sipush 1000, 3) := by decide +kernel
theorem dX12_digests_17 : decode cX12_digests 17 = .ok (.invokestatic 145, 3) := by decide +kernel
theorem dX12_digests_20 : decode cX12_digests 20 = .ok (.ifCond .eq 22, 3) := by decide +kernel
theorem dX12_digests_23 : decode cX12_digests 23 = .ok (.iload_n 3, 1) := by decide +kernel
theorem dX12_digests_24 : decode cX12_digests 24 = .ok (.iconst 0, 1) := by decide +kernel
theorem dX12_digests_25 : decode cX12_digests 25 = .ok (.bipush 9, 2) := by decide +kernel
theorem dX12_digests_27 : decode cX12_digests 27 = .ok (.invokestatic 145, 3) := by decide +kernel
theorem dX12_digests_30 : decode cX12_digests 30 = .ok (.ifCond .eq 12, 3) := by decide +kernel
theorem dX12_digests_33 : decode cX12_digests 33 = .ok (.aload_n 0, 1) := by decide +kernel
theorem dX12_digests_34 : decode cX12_digests 34 = .ok (.iload 4, 2) := by decide +kernel
theorem dX12_digests_36 : decode cX12_digests 36 = .ok (.invokevirtual 159, 3) := by decide +kernel
theorem dX12_digests_39 : decode cX12_digests 39 = .ok (.ifCond .ne 5, 3) := by decide +kernel
theorem dX12_digests_42 : decode cX12_digests 42 = .ok (.iconst 0, 1) := by decide +kernel
theorem dX12_digests_43 : decode cX12_digests 43 = .ok (.ireturn, 1) := by decide +kernel
theorem dX12_digests_44 : decode cX12_digests 44 = .ok (.aload_n 0, 1) := by decide +kernel
theorem dX12_digests_45 : decode cX12_digests 45 = .ok (.invokevirtual 295, 3) := by decide +kernel
theorem dX12_digests_48 : decode cX12_digests 48 = .ok (.aload_n 0, 1) := by decide +kernel
theorem dX12_digests_49 : decode cX12_digests 49 = .ok (.getfield 65, 3) := by decide +kernel
theorem dX12_digests_52 : decode cX12_digests 52 = .ok (.bipush 116, 2) := by decide +kernel
theorem dX12_digests_54 : decode cX12_digests 54 = .ok (.iload_n 2, 1) := by decide +kernel
theorem dX12_digests_55 : decode cX12_digests 55 = .ok (.iastore, 1) := by decide +kernel
theorem dX12_digests_56 : decode cX12_digests 56 = .ok (.aload_n 0, 1) := by decide +kernel
theorem dX12_digests_57 : decode cX12_digests 57 = .ok (.getfield 65, 3) := by decide +kernel
theorem dX12_digests_60 : decode cX12_digests 60 = .ok (.bipush 114, 2) := by decide +kernel
theorem dX12_digests_62 : decode cX12_digests 62 = .ok (.iload_n 3, 1) := by decide +kernel
theorem dX12_digests_63 : decode cX12_digests 63 = .ok (.iastore, 1) := by decide +kernel
theorem dX12_digests_64 : decode cX12_digests 64 = .ok (.iconst 0, 1) := by decide +kernel
theorem dX12_digests_65 : decode cX12_digests 65 = .ok (.bipush 20, 2) := by decide +kernel
theorem dX12_digests_67 : decode cX12_digests 67 = .ok (.aload_n 0, 1) := by decide +kernel
theorem dX12_digests_68 : decode cX12_digests 68 = .ok (.iload_n 2, 1) := by decide +kernel
theorem dX12_digests_69 : decode cX12_digests 69 = .ok (.iload 4, 2) := by decide +kernel
theorem dX12_digests_71 : decode cX12_digests 71 = .ok (.bipush 100, 2) := by decide +kernel
theorem dX12_digests_73 : decode cX12_digests 73 = .ok (.invokevirtual 301, 3) := by decide +kernel
theorem dX12_digests_76 : decode cX12_digests 76 = .ok (.invokestatic 313, 3) := by decide +kernel
theorem dX12_digests_79 : decode cX12_digests 79 = .ok (.invokestatic 315, 3) := by decide +kernel
theorem dX12_digests_82 : decode cX12_digests 82 = .ok (.istore 5, 2) := by decide +kernel
theorem dX12_digests_84 : decode cX12_digests 84 = .ok (.aload_n 0, 1) := by decide +kernel
theorem dX12_digests_85 : decode cX12_digests 85 = .ok (.iconst 0, 1) := by decide +kernel
theorem dX12_digests_86 : decode cX12_digests 86 = .ok (.putfield 317, 3) := by decide +kernel
theorem dX12_digests_89 : decode cX12_digests 89 = .ok (.aload_n 0, 1) := by decide +kernel
theorem dX12_digests_90 : decode cX12_digests 90 = .ok (.iconst 0, 1) := by decide +kernel
theorem dX12_digests_91 : decode cX12_digests 91 = .ok (.putfield 320, 3) := by decide +kernel
theorem dX12_digests_94 : decode cX12_digests 94 = .ok (.iconst 0, 1) := by decide +kernel
theorem dX12_digests_95 : decode cX12_digests 95 = .ok (.istore 6, 2) := by decide +kernel
theorem dX12_digests_97 : decode cX12_digests 97 = .ok (.iconst 0, 1) := by decide +kernel
theorem dX12_digests_98 : decode cX12_digests 98 = .ok (.istore 7, 2) := by decide +kernel
theorem dX12_digests_100 : decode cX12_digests 100 = .ok (.iload 7, 2) := by decide +kernel
theorem dX12_digests_102 : decode cX12_digests 102 = .ok (.aload_n 0, 1) := by decide +kernel
theorem dX12_digests_103 : decode cX12_digests 103 = .ok (.getfield 152, 3) := by decide +kernel
theorem dX12_digests_106 : decode cX12_digests 106 = .ok (.if_icmp .ge 134, 3) := by decide +kernel
theorem dX12_digests_109 : decode cX12_digests 109 = .ok (.aload_n 0, 1) := by decide +kernel
theorem dX12_digests_110 : decode cX12_digests 110 = .ok (.getfield 31, 3) := by decide +kernel
theorem dX12_digests_113 : decode cX12_digests 113 = .ok (.iload 7, 2) := by decide +kernel
theorem dX12_digests_115 : decode cX12_digests 115 = .ok (.iaload, 1) := by decide +kernel
theorem dX12_digests_116 : decode cX12_digests 116 = .ok (.iload_n 1, 1) := by decide +kernel
theorem dX12_digests_117 : decode cX12_digests 117 = .ok (.if_icmp .ne 117, 3) := by decide +kernel
theorem dX12_digests_120 : decode cX12_digests 120 = .ok (.aload_n 0, 1) := by decide +kernel
theorem dX12_digests_121 : decode cX12_digests 121 = .ok (.getfield 46, 3) := by decide +kernel
theorem dX12_digests_124 : decode cX12_digests 124 = .ok (.iload 7, 2) := by decide +kernel
theorem dX12_digests_126 : decode cX12_digests 126 = .ok (.iaload, 1) := by decide +kernel
theorem dX12_digests_127 : decode cX12_digests 127 = .ok (.iload 4, 2) := by decide +kernel
theorem dX12_digests_129 : decode cX12_digests 129 = .ok (.if_icmp .le 6, 3) := by decide +kernel
theorem dX12_digests_132 : decode cX12_digests 132 = .ok (.goto 102, 3) := by decide +kernel
theorem dX12_digests_135 : decode cX12_digests 135 = .ok (.aload_n 0, 1) := by decide +kernel
theorem dX12_digests_136 : decode cX12_digests 136 = .ok (.dup, 1) := by decide +kernel
theorem dX12_digests_137 : decode cX12_digests 137 = .ok (.getfield 320, 3) := by decide +kernel
theorem dX12_digests_140 : decode cX12_digests 140 = .ok (.iconst 1, 1) := by decide +kernel
theorem dX12_digests_141 : decode cX12_digests 141 = .ok (.iadd, 1) := by decide +kernel
theorem dX12_digests_142 : decode cX12_digests 142 = .ok (.putfield 320, 3) := by decide +kernel
theorem dX12_digests_145 : decode cX12_digests 145 = .ok (.aload_n 0, 1) := by decide +kernel
theorem dX12_digests_146 : decode cX12_digests 146 = .ok (.iload 7, 2) := by decide +kernel
theorem dX12_digests_148 : decode cX12_digests 148 = .ok (.iload_n 2, 1) := by decide +kernel
theorem dX12_digests_149 : decode cX12_digests 149 = .ok (.iload_n 3, 1) := by decide +kernel
theorem dX12_digests_150 : decode cX12_digests 150 = .ok (.iload 4, 2) := by decide +kernel
theorem dX12_digests_152 : decode cX12_digests 152 = .ok (.invokevirtual 309, 3) := by decide +kernel
theorem dX12_digests_155 : decode cX12_digests 155 = .ok (.ifCond .ne 6, 3) := by decide +kernel
theorem dX12_digests_158 : decode cX12_digests 158 = .ok (.goto 76, 3) := by decide +kernel
theorem dX12_digests_161 : decode cX12_digests 161 = .ok (.iload 6, 2) := by decide +kernel
theorem dX12_digests_163 : decode cX12_digests 163 = .ok (.istore 8, 2) := by decide +kernel
theorem dX12_digests_165 : decode cX12_digests 165 = .ok (.iload 8, 2) := by decide +kernel
theorem dX12_digests_167 : decode cX12_digests 167 = .ok (.ifCond .le 55, 3) := by decide +kernel
theorem dX12_digests_170 : decode cX12_digests 170 = .ok (.aload_n 0, 1) := by decide +kernel
theorem dX12_digests_171 : decode cX12_digests 171 = .ok (.getfield 37, 3) := by decide +kernel
theorem dX12_digests_174 : decode cX12_digests 174 = .ok (.aload_n 0, 1) := by decide +kernel
theorem dX12_digests_175 : decode cX12_digests 175 = .ok (.getfield 71, 3) := by decide +kernel
theorem dX12_digests_178 : decode cX12_digests 178 = .ok (.iload 8, 2) := by decide +kernel
theorem dX12_digests_180 : decode cX12_digests 180 = .ok (.iconst 1, 1) := by decide +kernel
theorem dX12_digests_181 : decode cX12_digests 181 = .ok (.isub, 1) := by decide +kernel
theorem dX12_digests_182 : decode cX12_digests 182 = .ok (.iaload, 1) := by decide +kernel
theorem dX12_digests_183 : decode cX12_digests 183 = .ok (.iaload, 1) := by decide +kernel
theorem dX12_digests_184 : decode cX12_digests 184 = .ok (.invokestatic 323, 3) := by decide +kernel
theorem dX12_digests_187 : decode cX12_digests 187 = .ok (.aload_n 0, 1) := by decide +kernel
theorem dX12_digests_188 : decode cX12_digests 188 = .ok (.getfield 37, 3) := by decide +kernel
theorem dX12_digests_191 : decode cX12_digests 191 = .ok (.iload 7, 2) := by decide +kernel
theorem dX12_digests_193 : decode cX12_digests 193 = .ok (.iaload, 1) := by decide +kernel
theorem dX12_digests_194 : decode cX12_digests 194 = .ok (.invokestatic 323, 3) := by decide +kernel
theorem dX12_digests_197 : decode cX12_digests 197 = .ok (.if_icmp .ge 25, 3) := by decide +kernel
theorem dX12_digests_200 : decode cX12_digests 200 = .ok (.aload_n 0, 1) := by decide +kernel
theorem dX12_digests_201 : decode cX12_digests 201 = .ok (.getfield 71, 3) := by decide +kernel
theorem dX12_digests_204 : decode cX12_digests 204 = .ok (.iload 8, 2) := by decide +kernel
theorem dX12_digests_206 : decode cX12_digests 206 = .ok (.aload_n 0, 1) := by decide +kernel
theorem dX12_digests_207 : decode cX12_digests 207 = .ok (.getfield 71, 3) := by decide +kernel
theorem dX12_digests_210 : decode cX12_digests 210 = .ok (.iload 8, 2) := by decide +kernel
theorem dX12_digests_212 : decode cX12_digests 212 = .ok (.iconst 1, 1) := by decide +kernel
theorem dX12_digests_213 : decode cX12_digests 213 = .ok (.isub, 1) := by decide +kernel
theorem dX12_digests_214 : decode cX12_digests 214 = .ok (.iaload, 1) := by decide +kernel
theorem dX12_digests_215 : decode cX12_digests 215 = .ok (.iastore, 1) := by decide +kernel
theorem dX12_digests_216 : decode cX12_digests 216 = .ok (.iinc 8 (-1), 3) := by decide +kernel
theorem dX12_digests_219 : decode cX12_digests 219 = .ok (.goto (-54), 3) := by decide +kernel
theorem dX12_digests_222 : decode cX12_digests 222 = .ok (.aload_n 0, 1) := by decide +kernel
theorem dX12_digests_223 : decode cX12_digests 223 = .ok (.getfield 71, 3) := by decide +kernel
theorem dX12_digests_226 : decode cX12_digests 226 = .ok (.iload 8, 2) := by decide +kernel
theorem dX12_digests_228 : decode cX12_digests 228 = .ok (.iload 7, 2) := by decide +kernel
theorem dX12_digests_230 : decode cX12_digests 230 = .ok (.iastore, 1) := by decide +kernel
theorem dX12_digests_231 : decode cX12_digests 231 = .ok (.iinc 6 1, 3) := by decide +kernel
theorem dX12_digests_234 : decode cX12_digests 234 = .ok (.iinc 7 1, 3) := by decide +kernel
theorem dX12_digests_237 : decode cX12_digests 237 = .ok (.goto (-137), 3) := by decide +kernel
theorem dX12_digests_240 : decode cX12_digests 240 = .ok (.aload_n 0, 1) := by decide +kernel
theorem dX12_digests_241 : decode cX12_digests 241 = .ok (.iload 6, 2) := by decide +kernel
theorem dX12_digests_243 : decode cX12_digests 243 = .ok (.iload 5, 2) := by decide +kernel
theorem dX12_digests_245 : decode cX12_digests 245 = .ok (.invokestatic 313, 3) := by decide +kernel
theorem dX12_digests_248 : decode cX12_digests 248 = .ok (.putfield 317, 3) := by decide +kernel
theorem dX12_digests_251 : decode cX12_digests 251 = .ok (.iconst 1, 1) := by decide +kernel
theorem dX12_digests_252 : decode cX12_digests 252 = .ok (.ireturn, 1) := by decide +kernel
theorem dX12_draws_0 : decode cX12_draws 0 = .ok (.iload_n 1, 1) := by decide +kernel
theorem dX12_draws_1 : decode cX12_draws 1 = .ok (.iconst 1, 1) := by decide +kernel
theorem dX12_draws_2 : decode cX12_draws 2 = .ok (.aload_n 0, 1) := by decide +kernel
theorem dX12_draws_3 : decode cX12_draws 3 = .ok (.getfield 149, 3) := by decide +kernel
theorem dX12_draws_6 : decode cX12_draws 6 = .ok (.invokestatic 145, 3) := by decide +kernel
theorem dX12_draws_9 : decode cX12_draws 9 = .ok (.ifCond .ne 5, 3) := by decide +kernel
theorem dX12_draws_12 : decode cX12_draws 12 = .ok (.iconst 0, 1) := by decide +kernel
theorem dX12_draws_13 : decode cX12_draws 13 = .ok (.ireturn, 1) := by decide +kernel
theorem dX12_draws_14 : decode cX12_draws 14 = .ok (.iconst 0, 1) := by decide +kernel
theorem dX12_draws_15 : decode cX12_draws 15 = .ok (.istore 4, 2) := by decide +kernel
theorem dX12_draws_17 : decode cX12_draws 17 = .ok (.iload 4, 2) := by decide +kernel
theorem dX12_draws_19 : decode cX12_draws 19 = .ok (.aload_n 0, 1) := by decide +kernel
theorem dX12_draws_20 : decode cX12_draws 20 = .ok (.getfield 149, 3) := by decide +kernel
theorem dX12_draws_23 : decode cX12_draws 23 = .ok (.if_icmp .ge 17, 3) := by decide +kernel
theorem dX12_draws_26 : decode cX12_draws 26 = .ok (.aload_n 0, 1) := by decide +kernel
theorem dX12_draws_27 : decode cX12_draws 27 = .ok (.getfield 90, 3) := by decide +kernel
theorem dX12_draws_30 : decode cX12_draws 30 = .ok (.iload 4, 2) := by decide +kernel
theorem dX12_draws_32 : decode cX12_draws 32 = .ok (.iconst 0, 1) := by decide +kernel
theorem dX12_draws_33 : decode cX12_draws 33 = .ok (.bastore, 1) := by decide +kernel
theorem dX12_draws_34 : decode cX12_draws 34 = .ok (.iinc 4 1, 3) := by decide +kernel
theorem dX12_draws_37 : decode cX12_draws 37 = .ok (.goto (-20), 3) := by decide +kernel
theorem dX12_draws_40 : decode cX12_draws 40 = .ok (.lload_n 2, 1) := by decide +kernel
theorem dX12_draws_41 : decode cX12_draws 41 = .ok (.lstore 4, 2) := by decide +kernel
theorem dX12_draws_43 : decode cX12_draws 43 = .ok (.iconst 0, 1) := by decide +kernel
theorem dX12_draws_44 : decode cX12_draws 44 = .ok (.istore 6, 2) := by decide +kernel
theorem dX12_draws_46 : decode cX12_draws 46 = .ok (.iload 6, 2) := by decide +kernel
theorem dX12_draws_48 : decode cX12_draws 48 = .ok (.iload_n 1, 1) := by decide +kernel
theorem dX12_draws_49 : decode cX12_draws 49 = .ok (.if_icmp .ge 99, 3) := by decide +kernel
theorem dX12_draws_52 : decode cX12_draws 52 = .ok (.lload 4, 2) := by decide +kernel
theorem dX12_draws_54 : decode cX12_draws 54 = .ok (.ldc2_w 402, 3) := by decide +kernel
theorem dX12_draws_57 : decode cX12_draws 57 = .ok (.lmul, 1) := by decide +kernel
theorem dX12_draws_58 : decode cX12_draws 58 = .ok (.ldc2_w 404, 3) := by decide +kernel
theorem dX12_draws_61 : decode cX12_draws 61 = .ok (.ladd, 1) := by decide +kernel
theorem dX12_draws_62 : decode cX12_draws 62 = .ok (.lstore 4, 2) := by decide +kernel
theorem dX12_draws_64 : decode cX12_draws 64 = .ok (.lload 4, 2) := by decide +kernel
theorem dX12_draws_66 : decode cX12_draws 66 = .ok (.bipush 33, 2) := by decide +kernel
theorem dX12_draws_68 : decode cX12_draws 68 = .ok (.lushr, 1) := by decide +kernel
theorem dX12_draws_69 : decode cX12_draws 69 = .ok (.aload_n 0, 1) := by decide +kernel
theorem dX12_draws_70 : decode cX12_draws 70 = .ok (.getfield 149, 3) := by decide +kernel
theorem dX12_draws_73 : decode cX12_draws 73 = .ok (.iload 6, 2) := by decide +kernel
theorem dX12_draws_75 : decode cX12_draws 75 = .ok (.isub, 1) := by decide +kernel
theorem dX12_draws_76 : decode cX12_draws 76 = .ok (.i2l, 1) := by decide +kernel
theorem dX12_draws_77 : decode cX12_draws 77 = .ok (.lrem, 1) := by decide +kernel
theorem dX12_draws_78 : decode cX12_draws 78 = .ok (.l2i, 1) := by decide +kernel
theorem dX12_draws_79 : decode cX12_draws 79 = .ok (.istore 7, 2) := by decide +kernel
theorem dX12_draws_81 : decode cX12_draws 81 = .ok (.iconst 0, 1) := by decide +kernel
theorem dX12_draws_82 : decode cX12_draws 82 = .ok (.istore 8, 2) := by decide +kernel
theorem dX12_draws_84 : decode cX12_draws 84 = .ok (.aload_n 0, 1) := by decide +kernel
theorem dX12_draws_85 : decode cX12_draws 85 = .ok (.getfield 90, 3) := by decide +kernel
theorem dX12_draws_88 : decode cX12_draws 88 = .ok (.iload 8, 2) := by decide +kernel
theorem dX12_draws_90 : decode cX12_draws 90 = .ok (.baload, 1) := by decide +kernel
theorem dX12_draws_91 : decode cX12_draws 91 = .ok (.ifCond .ne 8, 3) := by decide +kernel
theorem dX12_draws_94 : decode cX12_draws 94 = .ok (.iload 7, 2) := by decide +kernel
theorem dX12_draws_96 : decode cX12_draws 96 = .ok (.ifCond .le 29, 3) := by decide +kernel
theorem dX12_draws_99 : decode cX12_draws 99 = .ok (.iload 7, 2) := by decide +kernel
theorem dX12_draws_101 : decode cX12_draws 101 = .ok (.aload_n 0, 1) := by decide +kernel
theorem dX12_draws_102 : decode cX12_draws 102 = .ok (.getfield 90, 3) := by decide +kernel
theorem dX12_draws_105 : decode cX12_draws 105 = .ok (.iload 8, 2) := by decide +kernel
theorem dX12_draws_107 : decode cX12_draws 107 = .ok (.baload, 1) := by decide +kernel
theorem dX12_draws_108 : decode cX12_draws 108 = .ok (.ifCond .eq 7, 3) := by decide +kernel
theorem dX12_draws_111 : decode cX12_draws 111 = .ok (.iconst 0, 1) := by decide +kernel
theorem dX12_draws_112 : decode cX12_draws 112 = .ok (.goto 4, 3) := by decide +kernel
theorem dX12_draws_115 : decode cX12_draws 115 = .ok (.iconst 1, 1) := by decide +kernel
theorem dX12_draws_116 : decode cX12_draws 116 = .ok (.isub, 1) := by decide +kernel
theorem dX12_draws_117 : decode cX12_draws 117 = .ok (.istore 7, 2) := by decide +kernel
theorem dX12_draws_119 : decode cX12_draws 119 = .ok (.iinc 8 1, 3) := by decide +kernel
theorem dX12_draws_122 : decode cX12_draws 122 = .ok (.goto (-38), 3) := by decide +kernel
theorem dX12_draws_125 : decode cX12_draws 125 = .ok (.aload_n 0, 1) := by decide +kernel
theorem dX12_draws_126 : decode cX12_draws 126 = .ok (.getfield 90, 3) := by decide +kernel
theorem dX12_draws_129 : decode cX12_draws 129 = .ok (.iload 8, 2) := by decide +kernel
theorem dX12_draws_131 : decode cX12_draws 131 = .ok (.iconst 1, 1) := by decide +kernel
theorem dX12_draws_132 : decode cX12_draws 132 = .ok (.bastore, 1) := by decide +kernel
theorem dX12_draws_133 : decode cX12_draws 133 = .ok (.aload_n 0, 1) := by decide +kernel
theorem dX12_draws_134 : decode cX12_draws 134 = .ok (.getfield 135, 3) := by decide +kernel
theorem dX12_draws_137 : decode cX12_draws 137 = .ok (.iload 6, 2) := by decide +kernel
theorem dX12_draws_139 : decode cX12_draws 139 = .ok (.iload 8, 2) := by decide +kernel
theorem dX12_draws_141 : decode cX12_draws 141 = .ok (.iastore, 1) := by decide +kernel
theorem dX12_draws_142 : decode cX12_draws 142 = .ok (.iinc 6 1, 3) := by decide +kernel
theorem dX12_draws_145 : decode cX12_draws 145 = .ok (.goto (-99), 3) := by decide +kernel
theorem dX12_draws_148 : decode cX12_draws 148 = .ok (.iconst 1, 1) := by decide +kernel
theorem dX12_draws_149 : decode cX12_draws 149 = .ok (.ireturn, 1) := by decide +kernel
theorem dX12_end_0 : decode cX12_end 0 = .ok (.aload_n 0, 1) := by decide +kernel
theorem dX12_end_1 : decode cX12_end 1 = .ok (.iconst 0, 1) := by decide +kernel
theorem dX12_end_2 : decode cX12_end 2 = .ok (.putfield 138, 3) := by decide +kernel
theorem dX12_end_5 : decode cX12_end 5 = .ok (.iload_n 1, 1) := by decide +kernel
theorem dX12_end_6 : decode cX12_end 6 = .ok (.ifCond .lt 11, 3) := by decide +kernel
theorem dX12_end_9 : decode cX12_end 9 = .ok (.iload_n 1, 1) := by decide +kernel
theorem dX12_end_10 : decode cX12_end 10 = .ok (.aload_n 0, 1) := by decide +kernel
theorem dX12_end_11 : decode cX12_end 11 = .ok (.getfield 178, 3) := by decide +kernel
theorem dX12_end_14 : decode cX12_end 14 = .ok (.if_icmp .le 5, 3) := by decide +kernel
theorem dX12_end_17 : decode cX12_end 17 = .ok (.iconst 0, 1) := by decide +kernel
theorem dX12_end_18 : decode cX12_end 18 = .ok (.ireturn, 1) := by decide +kernel
theorem dX12_end_19 : decode cX12_end 19 = .ok (.aload_n 0, 1) := by decide +kernel
theorem dX12_end_20 : decode cX12_end 20 = .ok (.iload_n 1, 1) := by decide +kernel
theorem dX12_end_21 : decode cX12_end 21 = .ok (.putfield 178, 3) := by decide +kernel
theorem dX12_end_24 : decode cX12_end 24 = .ok (.iconst 1, 1) := by decide +kernel
theorem dX12_end_25 : decode cX12_end 25 = .ok (.ireturn, 1) := by decide +kernel
theorem dX12_fails_0 : decode cX12_fails 0 = .ok (.aload_n 0, 1) := by decide +kernel
theorem dX12_fails_1 : decode cX12_fails 1 = .ok (.getfield 198, 3) := by decide +kernel
theorem dX12_fails_4 : decode cX12_fails 4 = .ok (.iconst (-1), 1) := by decide +kernel
theorem dX12_fails_5 : decode cX12_fails 5 = .ok (.if_icmp .ne 11, 3) := by decide +kernel
theorem dX12_fails_8 : decode cX12_fails 8 = .ok (.aload_n 0, 1) := by decide +kernel
theorem dX12_fails_9 : decode cX12_fails 9 = .ok (.aload_n 0, 1) := by decide +kernel
theorem dX12_fails_10 : decode cX12_fails 10 = .ok (.getfield 189, 3) := by decide +kernel
theorem dX12_fails_13 : decode cX12_fails 13 = .ok (.putfield 198, 3) := by decide +kernel
theorem dX12_fails_16 : decode cX12_fails 16 = .ok (.iconst 0, 1) := by decide +kernel
theorem dX12_fails_17 : decode cX12_fails 17 = .ok (.ireturn, 1) := by decide +kernel
theorem dX12_fault_0 : decode cX12_fault 0 = .ok (.aload_n 0, 1) := by decide +kernel
theorem dX12_fault_1 : decode cX12_fault 1 = .ok (.iconst 0, 1) := by decide +kernel
theorem dX12_fault_2 : decode cX12_fault 2 = .ok (.putfield 138, 3) := by decide +kernel
theorem dX12_fault_5 : decode cX12_fault 5 = .ok (.aload_n 0, 1) := by decide +kernel
theorem dX12_fault_6 : decode cX12_fault 6 = .ok (.aload_n 0, 1) := by decide +kernel
theorem dX12_fault_7 : decode cX12_fault 7 = .ok (.getfield 49, 3) := by decide +kernel
theorem dX12_fault_10 : decode cX12_fault 10 = .ok (.iconst 0, 1) := by decide +kernel
theorem dX12_fault_11 : decode cX12_fault 11 = .ok (.aload_n 0, 1) := by decide +kernel
theorem dX12_fault_12 : decode cX12_fault 12 = .ok (.getfield 178, 3) := by decide +kernel
theorem dX12_fault_15 : decode cX12_fault 15 = .ok (.iconst 0, 1) := by decide +kernel
theorem dX12_fault_16 : decode cX12_fault 16 = .ok (.invokevirtual 285, 3) := by decide +kernel
theorem dX12_fault_19 : decode cX12_fault 19 = .ok (.aload_n 0, 1) := by decide +kernel
theorem dX12_fault_20 : decode cX12_fault 20 = .ok (.getfield 198, 3) := by decide +kernel
theorem dX12_fault_23 : decode cX12_fault 23 = .ok (.ireturn, 1) := by decide +kernel
theorem dX12_feed_0 : decode cX12_feed 0 = .ok (.aload_n 0, 1) := by decide +kernel
theorem dX12_feed_1 : decode cX12_feed 1 = .ok (.iconst 0, 1) := by decide +kernel
theorem dX12_feed_2 : decode cX12_feed 2 = .ok (.putfield 138, 3) := by decide +kernel
theorem dX12_feed_5 : decode cX12_feed 5 = .ok (.aload_n 0, 1) := by decide +kernel
theorem dX12_feed_6 : decode cX12_feed 6 = .ok (.getfield 178, 3) := by decide +kernel
theorem dX12_feed_9 : decode cX12_feed 9 = .ok (.iload_n 1, 1) := by decide +kernel
theorem dX12_feed_10 : decode cX12_feed 10 = .ok (.invokestatic 181, 3) := by decide +kernel
theorem dX12_feed_13 : decode cX12_feed 13 = .ok (.iadd, 1) := by decide +kernel
theorem dX12_feed_14 : decode cX12_feed 14 = .ok (.iload_n 2, 1) := by decide +kernel
theorem dX12_feed_15 : decode cX12_feed 15 = .ok (.invokestatic 181, 3) := by decide +kernel
theorem dX12_feed_18 : decode cX12_feed 18 = .ok (.iadd, 1) := by decide +kernel
theorem dX12_feed_19 : decode cX12_feed 19 = .ok (.iload_n 3, 1) := by decide +kernel
theorem dX12_feed_20 : decode cX12_feed 20 = .ok (.invokestatic 181, 3) := by decide +kernel
theorem dX12_feed_23 : decode cX12_feed 23 = .ok (.iadd, 1) := by decide +kernel
theorem dX12_feed_24 : decode cX12_feed 24 = .ok (.iload 4, 2) := by decide +kernel
theorem dX12_feed_26 : decode cX12_feed 26 = .ok (.invokestatic 181, 3) := by decide +kernel
theorem dX12_feed_29 : decode cX12_feed 29 = .ok (.iadd, 1) := by decide +kernel
theorem dX12_feed_30 : decode cX12_feed 30 = .ok (.iload 5, 2) := by decide +kernel
theorem dX12_feed_32 : decode cX12_feed 32 = .ok (.invokestatic 181, 3) := by decide +kernel
theorem dX12_feed_35 : decode cX12_feed 35 = .ok (.iadd, 1) := by decide +kernel
theorem dX12_feed_36 : decode cX12_feed 36 = .ok (.sipush 160, 3) := by decide +kernel
theorem dX12_feed_39 : decode cX12_feed 39 = .ok (.if_icmp .le 5, 3) := by decide +kernel
theorem dX12_feed_42 : decode cX12_feed 42 = .ok (.iconst (-1), 1) := by decide +kernel
theorem dX12_feed_43 : decode cX12_feed 43 = .ok (.ireturn, 1) := by decide +kernel
theorem dX12_feed_44 : decode cX12_feed 44 = .ok (.aload_n 0, 1) := by decide +kernel
theorem dX12_feed_45 : decode cX12_feed 45 = .ok (.iload_n 1, 1) := by decide +kernel
theorem dX12_feed_46 : decode cX12_feed 46 = .ok (.invokevirtual 185, 3) := by decide +kernel
theorem dX12_feed_49 : decode cX12_feed 49 = .ok (.aload_n 0, 1) := by decide +kernel
theorem dX12_feed_50 : decode cX12_feed 50 = .ok (.iload_n 2, 1) := by decide +kernel
theorem dX12_feed_51 : decode cX12_feed 51 = .ok (.invokevirtual 185, 3) := by decide +kernel
theorem dX12_feed_54 : decode cX12_feed 54 = .ok (.aload_n 0, 1) := by decide +kernel
theorem dX12_feed_55 : decode cX12_feed 55 = .ok (.iload_n 3, 1) := by decide +kernel
theorem dX12_feed_56 : decode cX12_feed 56 = .ok (.invokevirtual 185, 3) := by decide +kernel
theorem dX12_feed_59 : decode cX12_feed 59 = .ok (.aload_n 0, 1) := by decide +kernel
theorem dX12_feed_60 : decode cX12_feed 60 = .ok (.iload 4, 2) := by decide +kernel
theorem dX12_feed_62 : decode cX12_feed 62 = .ok (.invokevirtual 185, 3) := by decide +kernel
theorem dX12_feed_65 : decode cX12_feed 65 = .ok (.aload_n 0, 1) := by decide +kernel
theorem dX12_feed_66 : decode cX12_feed 66 = .ok (.iload 5, 2) := by decide +kernel
theorem dX12_feed_68 : decode cX12_feed 68 = .ok (.invokevirtual 185, 3) := by decide +kernel
theorem dX12_feed_71 : decode cX12_feed 71 = .ok (.aload_n 0, 1) := by decide +kernel
theorem dX12_feed_72 : decode cX12_feed 72 = .ok (.getfield 178, 3) := by decide +kernel
theorem dX12_feed_75 : decode cX12_feed 75 = .ok (.ireturn, 1) := by decide +kernel
theorem dX12_force_0 : decode cX12_force 0 = .ok (.aload_n 0, 1) := by decide +kernel
theorem dX12_force_1 : decode cX12_force 1 = .ok (.iconst 0, 1) := by decide +kernel
theorem dX12_force_2 : decode cX12_force 2 = .ok (.putfield 138, 3) := by decide +kernel
theorem dX12_force_5 : decode cX12_force 5 = .ok (.iload_n 1, 1) := by decide +kernel
theorem dX12_force_6 : decode cX12_force 6 = .ok (.invokestatic 175, 3) := by decide +kernel
theorem dX12_force_9 : decode cX12_force 9 = .ok (.ifCond .eq 20, 3) := by decide +kernel
theorem dX12_force_12 : decode cX12_force 12 = .ok (.aload_n 0, 1) := by decide +kernel
theorem dX12_force_13 : decode cX12_force 13 = .ok (.iload_n 2, 1) := by decide +kernel
theorem dX12_force_14 : decode cX12_force 14 = .ok (.invokevirtual 159, 3) := by decide +kernel
theorem dX12_force_17 : decode cX12_force 17 = .ok (.ifCond .eq 12, 3) := by decide +kernel
theorem dX12_force_20 : decode cX12_force 20 = .ok (.aload_n 0, 1) := by decide +kernel
theorem dX12_force_21 : decode cX12_force 21 = .ok (.iload_n 1, 1) := by decide +kernel
theorem dX12_force_22 : decode cX12_force 22 = .ok (.iload_n 2, 1) := by decide +kernel
theorem dX12_force_23 : decode cX12_force 23 = .ok (.invokevirtual 292, 3) := by decide +kernel
theorem dX12_force_26 : decode cX12_force 26 = .ok (.goto 4, 3) := by decide +kernel
theorem dX12_force_29 : decode cX12_force 29 = .ok (.iconst (-1), 1) := by decide +kernel
theorem dX12_force_30 : decode cX12_force 30 = .ok (.ireturn, 1) := by decide +kernel
theorem dX12_goThrough_0 : decode cX12_goThrough 0 = .ok (.aload_n 0, 1) := by decide +kernel
theorem dX12_goThrough_1 : decode cX12_goThrough 1 = .ok (.aload_n 1, 1) := by decide +kernel
theorem dX12_goThrough_2 : decode cX12_goThrough 2 = .ok (.putfield 68, 3) := by decide +kernel
theorem dX12_goThrough_5 : decode cX12_goThrough 5 = .ok (.aload_n 0, 1) := by decide +kernel
theorem dX12_goThrough_6 : decode cX12_goThrough 6 = .ok (.iload_n 2, 1) := by decide +kernel
theorem dX12_goThrough_7 : decode cX12_goThrough 7 = .ok (.putfield 195, 3) := by decide +kernel
theorem dX12_goThrough_10 : decode cX12_goThrough 10 = .ok (.aload_n 0, 1) := by decide +kernel
theorem dX12_goThrough_11 : decode cX12_goThrough 11 = .ok (.iload_n 3, 1) := by decide +kernel
theorem dX12_goThrough_12 : decode cX12_goThrough 12 = .ok (.putfield 192, 3) := by decide +kernel
theorem dX12_goThrough_15 : decode cX12_goThrough 15 = .ok (.aload_n 0, 1) := by decide +kernel
theorem dX12_goThrough_16 : decode cX12_goThrough 16 = .ok (.iload 4, 2) := by decide +kernel
theorem dX12_goThrough_18 : decode cX12_goThrough 18 = .ok (.putfield 276, 3) := by decide +kernel
theorem dX12_goThrough_21 : decode cX12_goThrough 21 = .ok (.aload_n 0, 1) := by decide +kernel
theorem dX12_goThrough_22 : decode cX12_goThrough 22 = .ok (.iconst 0, 1) := by decide +kernel
theorem dX12_goThrough_23 : decode cX12_goThrough 23 = .ok (.putfield 189, 3) := by decide +kernel
theorem dX12_goThrough_26 : decode cX12_goThrough 26 = .ok (.aload_n 0, 1) := by decide +kernel
theorem dX12_goThrough_27 : decode cX12_goThrough 27 = .ok (.iconst (-1), 1) := by decide +kernel
theorem dX12_goThrough_28 : decode cX12_goThrough 28 = .ok (.putfield 198, 3) := by decide +kernel
theorem dX12_goThrough_31 : decode cX12_goThrough 31 = .ok (.aload_n 0, 1) := by decide +kernel
theorem dX12_goThrough_32 : decode cX12_goThrough 32 = .ok (.iconst 0, 1) := by decide +kernel
theorem dX12_goThrough_33 : decode cX12_goThrough 33 = .ok (.putfield 201, 3) := by decide +kernel
theorem dX12_goThrough_36 : decode cX12_goThrough 36 = .ok (.aload_n 0, 1) := by decide +kernel
theorem dX12_goThrough_37 : decode cX12_goThrough 37 = .ok (.iconst 0, 1) := by decide +kernel
theorem dX12_goThrough_38 : decode cX12_goThrough 38 = .ok (.putfield 272, 3) := by decide +kernel
theorem dX12_goThrough_41 : decode cX12_goThrough 41 = .ok (.aload_n 0, 1) := by decide +kernel
theorem dX12_goThrough_42 : decode cX12_goThrough 42 = .ok (.iconst 0, 1) := by decide +kernel
theorem dX12_goThrough_43 : decode cX12_goThrough 43 = .ok (.putfield 279, 3) := by decide +kernel
theorem dX12_goThrough_46 : decode cX12_goThrough 46 = .ok (.aload_n 0, 1) := by decide +kernel
theorem dX12_goThrough_47 : decode cX12_goThrough 47 = .ok (.invokevirtual 282, 3) := by decide +kernel
theorem dX12_goThrough_50 : decode cX12_goThrough 50 = .ok (.aload_n 0, 1) := by decide +kernel
theorem dX12_goThrough_51 : decode cX12_goThrough 51 = .ok (.getfield 198, 3) := by decide +kernel
theorem dX12_goThrough_54 : decode cX12_goThrough 54 = .ok (.iconst (-1), 1) := by decide +kernel
theorem dX12_goThrough_55 : decode cX12_goThrough 55 = .ok (.if_icmp .ne 29, 3) := by decide +kernel
theorem dX12_goThrough_58 : decode cX12_goThrough 58 = .ok (.aload_n 0, 1) := by decide +kernel
theorem dX12_goThrough_59 : decode cX12_goThrough 59 = .ok (.invokevirtual 208, 3) := by decide +kernel
theorem dX12_goThrough_62 : decode cX12_goThrough 62 = .ok (.bipush 59, 2) := by decide +kernel
theorem dX12_goThrough_64 : decode cX12_goThrough 64 = .ok (.if_icmp .ne 20, 3) := by decide +kernel
theorem dX12_goThrough_67 : decode cX12_goThrough 67 = .ok (.aload_n 0, 1) := by decide +kernel
theorem dX12_goThrough_68 : decode cX12_goThrough 68 = .ok (.dup, 1) := by decide +kernel
theorem dX12_goThrough_69 : decode cX12_goThrough 69 = .ok (.getfield 189, 3) := by decide +kernel
theorem dX12_goThrough_72 : decode cX12_goThrough 72 = .ok (.iconst 1, 1) := by decide +kernel
theorem dX12_goThrough_73 : decode cX12_goThrough 73 = .ok (.iadd, 1) := by decide +kernel
theorem dX12_goThrough_74 : decode cX12_goThrough 74 = .ok (.putfield 189, 3) := by decide +kernel
theorem dX12_goThrough_77 : decode cX12_goThrough 77 = .ok (.aload_n 0, 1) := by decide +kernel
theorem dX12_goThrough_78 : decode cX12_goThrough 78 = .ok (.invokevirtual 282, 3) := by decide +kernel
theorem dX12_goThrough_81 : decode cX12_goThrough 81 = .ok (.goto (-31), 3) := by decide +kernel
theorem dX12_goThrough_84 : decode cX12_goThrough 84 = .ok (.aload_n 0, 1) := by decide +kernel
theorem dX12_goThrough_85 : decode cX12_goThrough 85 = .ok (.getfield 198, 3) := by decide +kernel
theorem dX12_goThrough_88 : decode cX12_goThrough 88 = .ok (.iconst (-1), 1) := by decide +kernel
theorem dX12_goThrough_89 : decode cX12_goThrough 89 = .ok (.if_icmp .ne 16, 3) := by decide +kernel
theorem dX12_goThrough_92 : decode cX12_goThrough 92 = .ok (.aload_n 0, 1) := by decide +kernel
theorem dX12_goThrough_93 : decode cX12_goThrough 93 = .ok (.invokevirtual 208, 3) := by decide +kernel
theorem dX12_goThrough_96 : decode cX12_goThrough 96 = .ok (.iconst (-1), 1) := by decide +kernel
theorem dX12_goThrough_97 : decode cX12_goThrough 97 = .ok (.if_icmp .eq 8, 3) := by decide +kernel
theorem dX12_goThrough_100 : decode cX12_goThrough 100 = .ok (.aload_n 0, 1) := by decide +kernel
theorem dX12_goThrough_101 : decode cX12_goThrough 101 = .ok (.invokevirtual 204, 3) := by decide +kernel
theorem dX12_goThrough_104 : decode cX12_goThrough 104 = .ok (.pop, 1) := by decide +kernel
theorem dX12_goThrough_105 : decode cX12_goThrough 105 = .ok (.return_, 1) := by decide +kernel
theorem dX12_goesIn_0 : decode cX12_goesIn 0 = .ok (.aload_n 0, 1) := by decide +kernel
theorem dX12_goesIn_1 : decode cX12_goesIn 1 = .ok (.getfield 201, 3) := by decide +kernel
theorem dX12_goesIn_4 : decode cX12_goesIn 4 = .ok (.bipush 6, 2) := by decide +kernel
theorem dX12_goesIn_6 : decode cX12_goesIn 6 = .ok (.if_icmp .ne 8, 3) := by decide +kernel
theorem dX12_goesIn_9 : decode cX12_goesIn 9 = .ok (.aload_n 0, 1) := by decide +kernel
theorem dX12_goesIn_10 : decode cX12_goesIn 10 = .ok (.invokevirtual 204, 3) := by decide +kernel
theorem dX12_goesIn_13 : decode cX12_goesIn 13 = .ok (.ireturn, 1) := by decide +kernel
theorem dX12_goesIn_14 : decode cX12_goesIn 14 = .ok (.aload_n 0, 1) := by decide +kernel
theorem dX12_goesIn_15 : decode cX12_goesIn 15 = .ok (.dup, 1) := by decide +kernel
theorem dX12_goesIn_16 : decode cX12_goesIn 16 = .ok (.getfield 201, 3) := by decide +kernel
theorem dX12_goesIn_19 : decode cX12_goesIn 19 = .ok (.iconst 1, 1) := by decide +kernel
theorem dX12_goesIn_20 : decode cX12_goesIn 20 = .ok (.iadd, 1) := by decide +kernel
theorem dX12_goesIn_21 : decode cX12_goesIn 21 = .ok (.putfield 201, 3) := by decide +kernel
theorem dX12_goesIn_24 : decode cX12_goesIn 24 = .ok (.aload_n 0, 1) := by decide +kernel
theorem dX12_goesIn_25 : decode cX12_goesIn 25 = .ok (.dup, 1) := by decide +kernel
theorem dX12_goesIn_26 : decode cX12_goesIn 26 = .ok (.getfield 189, 3) := by decide +kernel
theorem dX12_goesIn_29 : decode cX12_goesIn 29 = .ok (.iconst 1, 1) := by decide +kernel
theorem dX12_goesIn_30 : decode cX12_goesIn 30 = .ok (.iadd, 1) := by decide +kernel
theorem dX12_goesIn_31 : decode cX12_goesIn 31 = .ok (.putfield 189, 3) := by decide +kernel
theorem dX12_goesIn_34 : decode cX12_goesIn 34 = .ok (.iconst 1, 1) := by decide +kernel
theorem dX12_goesIn_35 : decode cX12_goesIn 35 = .ok (.ireturn, 1) := by decide +kernel
theorem dX12_habit_0 : decode cX12_habit 0 = .ok (.aload_n 0, 1) := by decide +kernel
theorem dX12_habit_1 : decode cX12_habit 1 = .ok (.iconst 0, 1) := by decide +kernel
theorem dX12_habit_2 : decode cX12_habit 2 = .ok (.putfield 138, 3) := by decide +kernel
theorem dX12_habit_5 : decode cX12_habit 5 = .ok (.iload_n 1, 1) := by decide +kernel
theorem dX12_habit_6 : decode cX12_habit 6 = .ok (.invokestatic 338, 3) := by decide +kernel
theorem dX12_habit_9 : decode cX12_habit 9 = .ok (.ifCond .eq 11, 3) := by decide +kernel
theorem dX12_habit_12 : decode cX12_habit 12 = .ok (.aload_n 0, 1) := by decide +kernel
theorem dX12_habit_13 : decode cX12_habit 13 = .ok (.iload_n 2, 1) := by decide +kernel
theorem dX12_habit_14 : decode cX12_habit 14 = .ok (.invokevirtual 159, 3) := by decide +kernel
theorem dX12_habit_17 : decode cX12_habit 17 = .ok (.ifCond .ne 7, 3) := by decide +kernel
theorem dX12_habit_20 : decode cX12_habit 20 = .ok (.ldc_w 344, 3) := by decide +kernel
theorem dX12_habit_23 : decode cX12_habit 23 = .ok (.ireturn, 1) := by decide +kernel
theorem dX12_habit_24 : decode cX12_habit 24 = .ok (.iconst 0, 1) := by decide +kernel
theorem dX12_habit_25 : decode cX12_habit 25 = .ok (.istore_n 3, 1) := by decide +kernel
theorem dX12_habit_26 : decode cX12_habit 26 = .ok (.iconst 0, 1) := by decide +kernel
theorem dX12_habit_27 : decode cX12_habit 27 = .ok (.istore 4, 2) := by decide +kernel
theorem dX12_habit_29 : decode cX12_habit 29 = .ok (.iconst 0, 1) := by decide +kernel
theorem dX12_habit_30 : decode cX12_habit 30 = .ok (.istore 5, 2) := by decide +kernel
theorem dX12_habit_32 : decode cX12_habit 32 = .ok (.iload 5, 2) := by decide +kernel
theorem dX12_habit_34 : decode cX12_habit 34 = .ok (.aload_n 0, 1) := by decide +kernel
theorem dX12_habit_35 : decode cX12_habit 35 = .ok (.getfield 152, 3) := by decide +kernel
theorem dX12_habit_38 : decode cX12_habit 38 = .ok (.if_icmp .ge 82, 3) := by decide +kernel
theorem dX12_habit_41 : decode cX12_habit 41 = .ok (.aload_n 0, 1) := by decide +kernel
theorem dX12_habit_42 : decode cX12_habit 42 = .ok (.iload_n 1, 1) := by decide +kernel
theorem dX12_habit_43 : decode cX12_habit 43 = .ok (.iload 5, 2) := by decide +kernel
theorem dX12_habit_45 : decode cX12_habit 45 = .ok (.iload_n 2, 1) := by decide +kernel
theorem dX12_habit_46 : decode cX12_habit 46 = .ok (.invokevirtual 341, 3) := by decide +kernel
theorem dX12_habit_49 : decode cX12_habit 49 = .ok (.istore 6, 2) := by decide +kernel
theorem dX12_habit_51 : decode cX12_habit 51 = .ok (.iconst 0, 1) := by decide +kernel
theorem dX12_habit_52 : decode cX12_habit 52 = .ok (.istore 7, 2) := by decide +kernel
theorem dX12_habit_54 : decode cX12_habit 54 = .ok (.iload 7, 2) := by decide +kernel
theorem dX12_habit_56 : decode cX12_habit 56 = .ok (.bipush 6, 2) := by decide +kernel
theorem dX12_habit_58 : decode cX12_habit 58 = .ok (.if_icmp .ge 56, 3) := by decide +kernel
theorem dX12_habit_61 : decode cX12_habit 61 = .ok (.iload 6, 2) := by decide +kernel
theorem dX12_habit_63 : decode cX12_habit 63 = .ok (.iconst (-1), 1) := by decide +kernel
theorem dX12_habit_64 : decode cX12_habit 64 = .ok (.if_icmp .eq 50, 3) := by decide +kernel
theorem dX12_habit_67 : decode cX12_habit 67 = .ok (.iload 7, 2) := by decide +kernel
theorem dX12_habit_69 : decode cX12_habit 69 = .ok (.iload_n 1, 1) := by decide +kernel
theorem dX12_habit_70 : decode cX12_habit 70 = .ok (.if_icmp .ne 7, 3) := by decide +kernel
theorem dX12_habit_73 : decode cX12_habit 73 = .ok (.iconst (-1), 1) := by decide +kernel
theorem dX12_habit_74 : decode cX12_habit 74 = .ok (.goto 12, 3) := by decide +kernel
theorem dX12_habit_77 : decode cX12_habit 77 = .ok (.aload_n 0, 1) := by decide +kernel
theorem dX12_habit_78 : decode cX12_habit 78 = .ok (.iload 7, 2) := by decide +kernel
theorem dX12_habit_80 : decode cX12_habit 80 = .ok (.iload 5, 2) := by decide +kernel
theorem dX12_habit_82 : decode cX12_habit 82 = .ok (.iload_n 2, 1) := by decide +kernel
theorem dX12_habit_83 : decode cX12_habit 83 = .ok (.invokevirtual 341, 3) := by decide +kernel
theorem dX12_habit_86 : decode cX12_habit 86 = .ok (.istore 8, 2) := by decide +kernel
theorem dX12_habit_88 : decode cX12_habit 88 = .ok (.iload 8, 2) := by decide +kernel
theorem dX12_habit_90 : decode cX12_habit 90 = .ok (.iconst (-1), 1) := by decide +kernel
theorem dX12_habit_91 : decode cX12_habit 91 = .ok (.if_icmp .ne 6, 3) := by decide +kernel
theorem dX12_habit_94 : decode cX12_habit 94 = .ok (.goto 14, 3) := by decide +kernel
theorem dX12_habit_97 : decode cX12_habit 97 = .ok (.iload_n 3, 1) := by decide +kernel
theorem dX12_habit_98 : decode cX12_habit 98 = .ok (.iload 6, 2) := by decide +kernel
theorem dX12_habit_100 : decode cX12_habit 100 = .ok (.iload 8, 2) := by decide +kernel
theorem dX12_habit_102 : decode cX12_habit 102 = .ok (.isub, 1) := by decide +kernel
theorem dX12_habit_103 : decode cX12_habit 103 = .ok (.iadd, 1) := by decide +kernel
theorem dX12_habit_104 : decode cX12_habit 104 = .ok (.istore_n 3, 1) := by decide +kernel
theorem dX12_habit_105 : decode cX12_habit 105 = .ok (.iinc 4 1, 3) := by decide +kernel
theorem dX12_habit_108 : decode cX12_habit 108 = .ok (.iinc 7 1, 3) := by decide +kernel
theorem dX12_habit_111 : decode cX12_habit 111 = .ok (.goto (-57), 3) := by decide +kernel
theorem dX12_habit_114 : decode cX12_habit 114 = .ok (.iinc 5 1, 3) := by decide +kernel
theorem dX12_habit_117 : decode cX12_habit 117 = .ok (.goto (-85), 3) := by decide +kernel
theorem dX12_habit_120 : decode cX12_habit 120 = .ok (.iload 4, 2) := by decide +kernel
theorem dX12_habit_122 : decode cX12_habit 122 = .ok (.ifCond .ne 7, 3) := by decide +kernel
theorem dX12_habit_125 : decode cX12_habit 125 = .ok (.iconst 0, 1) := by decide +kernel
theorem dX12_habit_126 : decode cX12_habit 126 = .ok (.goto 11, 3) := by decide +kernel
theorem dX12_habit_129 : decode cX12_habit 129 = .ok (.sipush 1000, 3) := by decide +kernel
theorem dX12_habit_132 : decode cX12_habit 132 = .ok (.iload_n 3, 1) := by decide +kernel
theorem dX12_habit_133 : decode cX12_habit 133 = .ok (.imul, 1) := by decide +kernel
theorem dX12_habit_134 : decode cX12_habit 134 = .ok (.iload 4, 2) := by decide +kernel
theorem dX12_habit_136 : decode cX12_habit 136 = .ok (.idiv, 1) := by decide +kernel
theorem dX12_habit_137 : decode cX12_habit 137 = .ok (.ireturn, 1) := by decide +kernel
theorem dX12_happen_0 : decode cX12_happen 0 = .ok (.aload_n 0, 1) := by decide +kernel
theorem dX12_happen_1 : decode cX12_happen 1 = .ok (.iconst 0, 1) := by decide +kernel
theorem dX12_happen_2 : decode cX12_happen 2 = .ok (.putfield 138, 3) := by decide +kernel
theorem dX12_happen_5 : decode cX12_happen 5 = .ok (.aload_n 0, 1) := by decide +kernel
theorem dX12_happen_6 : decode cX12_happen 6 = .ok (.getfield 329, 3) := by decide +kernel
theorem dX12_happen_9 : decode cX12_happen 9 = .ok (.bipush 100, 2) := by decide +kernel
theorem dX12_happen_11 : decode cX12_happen 11 = .ok (.if_icmp .eq 27, 3) := by decide +kernel
theorem dX12_happen_14 : decode cX12_happen 14 = .ok (.iload_n 1, 1) := by decide +kernel
theorem dX12_happen_15 : decode cX12_happen 15 = .ok (.iconst 0, 1) := by decide +kernel
theorem dX12_happen_16 : decode cX12_happen 16 = .ok (.bipush 7, 2) := by decide +kernel
theorem dX12_happen_18 : decode cX12_happen 18 = .ok (.invokestatic 145, 3) := by decide +kernel
theorem dX12_happen_21 : decode cX12_happen 21 = .ok (.ifCond .eq 17, 3) := by decide +kernel
theorem dX12_happen_24 : decode cX12_happen 24 = .ok (.iload_n 2, 1) := by decide +kernel
theorem dX12_happen_25 : decode cX12_happen 25 = .ok (.invokestatic 175, 3) := by decide +kernel
theorem dX12_happen_28 : decode cX12_happen 28 = .ok (.ifCond .eq 10, 3) := by decide +kernel
theorem dX12_happen_31 : decode cX12_happen 31 = .ok (.iload_n 3, 1) := by decide +kernel
theorem dX12_happen_32 : decode cX12_happen 32 = .ok (.invokestatic 168, 3) := by decide +kernel
theorem dX12_happen_35 : decode cX12_happen 35 = .ok (.ifCond .ne 5, 3) := by decide +kernel
theorem dX12_happen_38 : decode cX12_happen 38 = .ok (.iconst 0, 1) := by decide +kernel
theorem dX12_happen_39 : decode cX12_happen 39 = .ok (.ireturn, 1) := by decide +kernel
theorem dX12_happen_40 : decode cX12_happen 40 = .ok (.aload_n 0, 1) := by decide +kernel
theorem dX12_happen_41 : decode cX12_happen 41 = .ok (.getfield 74, 3) := by decide +kernel
theorem dX12_happen_44 : decode cX12_happen 44 = .ok (.aload_n 0, 1) := by decide +kernel
theorem dX12_happen_45 : decode cX12_happen 45 = .ok (.getfield 329, 3) := by decide +kernel
theorem dX12_happen_48 : decode cX12_happen 48 = .ok (.iload_n 1, 1) := by decide +kernel
theorem dX12_happen_49 : decode cX12_happen 49 = .ok (.iastore, 1) := by decide +kernel
theorem dX12_happen_50 : decode cX12_happen 50 = .ok (.aload_n 0, 1) := by decide +kernel
theorem dX12_happen_51 : decode cX12_happen 51 = .ok (.getfield 77, 3) := by decide +kernel
theorem dX12_happen_54 : decode cX12_happen 54 = .ok (.aload_n 0, 1) := by decide +kernel
theorem dX12_happen_55 : decode cX12_happen 55 = .ok (.getfield 329, 3) := by decide +kernel
theorem dX12_happen_58 : decode cX12_happen 58 = .ok (.iload_n 2, 1) := by decide +kernel
theorem dX12_happen_59 : decode cX12_happen 59 = .ok (.iastore, 1) := by decide +kernel
theorem dX12_happen_60 : decode cX12_happen 60 = .ok (.aload_n 0, 1) := by decide +kernel
theorem dX12_happen_61 : decode cX12_happen 61 = .ok (.getfield 80, 3) := by decide +kernel
theorem dX12_happen_64 : decode cX12_happen 64 = .ok (.aload_n 0, 1) := by decide +kernel
theorem dX12_happen_65 : decode cX12_happen 65 = .ok (.getfield 329, 3) := by decide +kernel
theorem dX12_happen_68 : decode cX12_happen 68 = .ok (.iload_n 3, 1) := by decide +kernel
theorem dX12_happen_69 : decode cX12_happen 69 = .ok (.iastore, 1) := by decide +kernel
theorem dX12_happen_70 : decode cX12_happen 70 = .ok (.aload_n 0, 1) := by decide +kernel
theorem dX12_happen_71 : decode cX12_happen 71 = .ok (.getfield 86, 3) := by decide +kernel
theorem dX12_happen_74 : decode cX12_happen 74 = .ok (.aload_n 0, 1) := by decide +kernel
theorem dX12_happen_75 : decode cX12_happen 75 = .ok (.getfield 329, 3) := by decide +kernel
theorem dX12_happen_78 : decode cX12_happen 78 = .ok (.iload 4, 2) := by decide +kernel
theorem dX12_happen_80 : decode cX12_happen 80 = .ok (.bastore, 1) := by decide +kernel
theorem dX12_happen_81 : decode cX12_happen 81 = .ok (.aload_n 0, 1) := by decide +kernel
theorem dX12_happen_82 : decode cX12_happen 82 = .ok (.getfield 83, 3) := by decide +kernel
theorem dX12_happen_85 : decode cX12_happen 85 = .ok (.aload_n 0, 1) := by decide +kernel
theorem dX12_happen_86 : decode cX12_happen 86 = .ok (.getfield 329, 3) := by decide +kernel
theorem dX12_happen_89 : decode cX12_happen 89 = .ok (.aload_n 0, 1) := by decide +kernel
theorem dX12_happen_90 : decode cX12_happen 90 = .ok (.getfield 142, 3) := by decide +kernel
theorem dX12_happen_93 : decode cX12_happen 93 = .ok (.iastore, 1) := by decide +kernel
theorem dX12_happen_94 : decode cX12_happen 94 = .ok (.aload_n 0, 1) := by decide +kernel
theorem dX12_happen_95 : decode cX12_happen 95 = .ok (.dup, 1) := by decide +kernel
theorem dX12_happen_96 : decode cX12_happen 96 = .ok (.getfield 329, 3) := by decide +kernel
theorem dX12_happen_99 : decode cX12_happen 99 = .ok (.iconst 1, 1) := by decide +kernel
theorem dX12_happen_100 : decode cX12_happen 100 = .ok (.iadd, 1) := by decide +kernel
theorem dX12_happen_101 : decode cX12_happen 101 = .ok (.putfield 329, 3) := by decide +kernel
theorem dX12_happen_104 : decode cX12_happen 104 = .ok (.iconst 1, 1) := by decide +kernel
theorem dX12_happen_105 : decode cX12_happen 105 = .ok (.ireturn, 1) := by decide +kernel
theorem dX12_held_0 : decode cX12_held 0 = .ok (.aload_n 0, 1) := by decide +kernel
theorem dX12_held_1 : decode cX12_held 1 = .ok (.iconst 0, 1) := by decide +kernel
theorem dX12_held_2 : decode cX12_held 2 = .ok (.putfield 138, 3) := by decide +kernel
theorem dX12_held_5 : decode cX12_held 5 = .ok (.aload_n 0, 1) := by decide +kernel
theorem dX12_held_6 : decode cX12_held 6 = .ok (.iload_n 1, 1) := by decide +kernel
theorem dX12_held_7 : decode cX12_held 7 = .ok (.iload_n 2, 1) := by decide +kernel
theorem dX12_held_8 : decode cX12_held 8 = .ok (.invokevirtual 305, 3) := by decide +kernel
theorem dX12_held_11 : decode cX12_held 11 = .ok (.ifCond .ne 5, 3) := by decide +kernel
theorem dX12_held_14 : decode cX12_held 14 = .ok (.iconst (-1), 1) := by decide +kernel
theorem dX12_held_15 : decode cX12_held 15 = .ok (.ireturn, 1) := by decide +kernel
theorem dX12_held_16 : decode cX12_held 16 = .ok (.iconst (-1), 1) := by decide +kernel
theorem dX12_held_17 : decode cX12_held 17 = .ok (.istore_n 3, 1) := by decide +kernel
theorem dX12_held_18 : decode cX12_held 18 = .ok (.iconst 1, 1) := by decide +kernel
theorem dX12_held_19 : decode cX12_held 19 = .ok (.istore 4, 2) := by decide +kernel
theorem dX12_held_21 : decode cX12_held 21 = .ok (.iconst 0, 1) := by decide +kernel
theorem dX12_held_22 : decode cX12_held 22 = .ok (.istore 5, 2) := by decide +kernel
theorem dX12_held_24 : decode cX12_held 24 = .ok (.iload 5, 2) := by decide +kernel
theorem dX12_held_26 : decode cX12_held 26 = .ok (.bipush 10, 2) := by decide +kernel
theorem dX12_held_28 : decode cX12_held 28 = .ok (.if_icmp .ge 68, 3) := by decide +kernel
theorem dX12_held_31 : decode cX12_held 31 = .ok (.iconst 0, 1) := by decide +kernel
theorem dX12_held_32 : decode cX12_held 32 = .ok (.istore 6, 2) := by decide +kernel
theorem dX12_held_34 : decode cX12_held 34 = .ok (.iconst 0, 1) := by decide +kernel
theorem dX12_held_35 : decode cX12_held 35 = .ok (.istore 7, 2) := by decide +kernel
theorem dX12_held_37 : decode cX12_held 37 = .ok (.iload 7, 2) := by decide +kernel
theorem dX12_held_39 : decode cX12_held 39 = .ok (.bipush 6, 2) := by decide +kernel
theorem dX12_held_41 : decode cX12_held 41 = .ok (.if_icmp .ge 32, 3) := by decide +kernel
theorem dX12_held_44 : decode cX12_held 44 = .ok (.iload 6, 2) := by decide +kernel
theorem dX12_held_46 : decode cX12_held 46 = .ok (.aload_n 0, 1) := by decide +kernel
theorem dX12_held_47 : decode cX12_held 47 = .ok (.iload 7, 2) := by decide +kernel
theorem dX12_held_49 : decode cX12_held 49 = .ok (.iload_n 1, 1) := by decide +kernel
theorem dX12_held_50 : decode cX12_held 50 = .ok (.iload_n 2, 1) := by decide +kernel
theorem dX12_held_51 : decode cX12_held 51 = .ok (.invokevirtual 341, 3) := by decide +kernel
theorem dX12_held_54 : decode cX12_held 54 = .ok (.iload 5, 2) := by decide +kernel
theorem dX12_held_56 : decode cX12_held 56 = .ok (.if_icmp .ne 7, 3) := by decide +kernel
theorem dX12_held_59 : decode cX12_held 59 = .ok (.iconst 1, 1) := by decide +kernel
theorem dX12_held_60 : decode cX12_held 60 = .ok (.goto 4, 3) := by decide +kernel
theorem dX12_held_63 : decode cX12_held 63 = .ok (.iconst 0, 1) := by decide +kernel
theorem dX12_held_64 : decode cX12_held 64 = .ok (.iadd, 1) := by decide +kernel
theorem dX12_held_65 : decode cX12_held 65 = .ok (.istore 6, 2) := by decide +kernel
theorem dX12_held_67 : decode cX12_held 67 = .ok (.iinc 7 1, 3) := by decide +kernel
theorem dX12_held_70 : decode cX12_held 70 = .ok (.goto (-33), 3) := by decide +kernel
theorem dX12_held_73 : decode cX12_held 73 = .ok (.iload 6, 2) := by decide +kernel
theorem dX12_held_75 : decode cX12_held 75 = .ok (.iload 4, 2) := by decide +kernel
theorem dX12_held_77 : decode cX12_held 77 = .ok (.if_icmp .gt 6, 3) := by decide +kernel
theorem dX12_held_80 : decode cX12_held 80 = .ok (.goto 10, 3) := by decide +kernel
theorem dX12_held_83 : decode cX12_held 83 = .ok (.iload 5, 2) := by decide +kernel
theorem dX12_held_85 : decode cX12_held 85 = .ok (.istore_n 3, 1) := by decide +kernel
theorem dX12_held_86 : decode cX12_held 86 = .ok (.iload 6, 2) := by decide +kernel
theorem dX12_held_88 : decode cX12_held 88 = .ok (.istore 4, 2) := by decide +kernel
theorem dX12_held_90 : decode cX12_held 90 = .ok (.iinc 5 1, 3) := by decide +kernel
theorem dX12_held_93 : decode cX12_held 93 = .ok (.goto (-69), 3) := by decide +kernel
theorem dX12_held_96 : decode cX12_held 96 = .ok (.iload_n 3, 1) := by decide +kernel
theorem dX12_held_97 : decode cX12_held 97 = .ok (.ireturn, 1) := by decide +kernel
theorem dX12_hide_0 : decode cX12_hide 0 = .ok (.aload_n 0, 1) := by decide +kernel
theorem dX12_hide_1 : decode cX12_hide 1 = .ok (.iconst 0, 1) := by decide +kernel
theorem dX12_hide_2 : decode cX12_hide 2 = .ok (.putfield 138, 3) := by decide +kernel
theorem dX12_hide_5 : decode cX12_hide 5 = .ok (.iload_n 1, 1) := by decide +kernel
theorem dX12_hide_6 : decode cX12_hide 6 = .ok (.iconst 1, 1) := by decide +kernel
theorem dX12_hide_7 : decode cX12_hide 7 = .ok (.if_icmp .ge 5, 3) := by decide +kernel
theorem dX12_hide_10 : decode cX12_hide 10 = .ok (.iconst (-1), 1) := by decide +kernel
theorem dX12_hide_11 : decode cX12_hide 11 = .ok (.ireturn, 1) := by decide +kernel
theorem dX12_hide_12 : decode cX12_hide 12 = .ok (.iconst (-1), 1) := by decide +kernel
theorem dX12_hide_13 : decode cX12_hide 13 = .ok (.istore_n 2, 1) := by decide +kernel
theorem dX12_hide_14 : decode cX12_hide 14 = .ok (.iconst 0, 1) := by decide +kernel
theorem dX12_hide_15 : decode cX12_hide 15 = .ok (.istore_n 3, 1) := by decide +kernel
theorem dX12_hide_16 : decode cX12_hide 16 = .ok (.iload_n 3, 1) := by decide +kernel
theorem dX12_hide_17 : decode cX12_hide 17 = .ok (.bipush 8, 2) := by decide +kernel
theorem dX12_hide_19 : decode cX12_hide 19 = .ok (.if_icmp .ge 81, 3) := by decide +kernel
theorem dX12_hide_22 : decode cX12_hide 22 = .ok (.iconst 1, 1) := by decide +kernel
theorem dX12_hide_23 : decode cX12_hide 23 = .ok (.istore 4, 2) := by decide +kernel
theorem dX12_hide_25 : decode cX12_hide 25 = .ok (.iconst 0, 1) := by decide +kernel
theorem dX12_hide_26 : decode cX12_hide 26 = .ok (.istore 5, 2) := by decide +kernel
theorem dX12_hide_28 : decode cX12_hide 28 = .ok (.iload 5, 2) := by decide +kernel
theorem dX12_hide_30 : decode cX12_hide 30 = .ok (.aload_n 0, 1) := by decide +kernel
theorem dX12_hide_31 : decode cX12_hide 31 = .ok (.getfield 149, 3) := by decide +kernel
theorem dX12_hide_34 : decode cX12_hide 34 = .ok (.if_icmp .ge 37, 3) := by decide +kernel
theorem dX12_hide_37 : decode cX12_hide 37 = .ok (.iload 4, 2) := by decide +kernel
theorem dX12_hide_39 : decode cX12_hide 39 = .ok (.ifCond .eq 23, 3) := by decide +kernel
theorem dX12_hide_42 : decode cX12_hide 42 = .ok (.aload_n 0, 1) := by decide +kernel
theorem dX12_hide_43 : decode cX12_hide 43 = .ok (.iload 5, 2) := by decide +kernel
theorem dX12_hide_45 : decode cX12_hide 45 = .ok (.bipush 7, 2) := by decide +kernel
theorem dX12_hide_47 : decode cX12_hide 47 = .ok (.iload_n 3, 1) := by decide +kernel
theorem dX12_hide_48 : decode cX12_hide 48 = .ok (.iconst (-1), 1) := by decide +kernel
theorem dX12_hide_49 : decode cX12_hide 49 = .ok (.ixor, 1) := by decide +kernel
theorem dX12_hide_50 : decode cX12_hide 50 = .ok (.iand, 1) := by decide +kernel
theorem dX12_hide_51 : decode cX12_hide 51 = .ok (.invokevirtual 385, 3) := by decide +kernel
theorem dX12_hide_54 : decode cX12_hide 54 = .ok (.iload_n 1, 1) := by decide +kernel
theorem dX12_hide_55 : decode cX12_hide 55 = .ok (.if_icmp .lt 7, 3) := by decide +kernel
theorem dX12_hide_58 : decode cX12_hide 58 = .ok (.iconst 1, 1) := by decide +kernel
theorem dX12_hide_59 : decode cX12_hide 59 = .ok (.goto 4, 3) := by decide +kernel
theorem dX12_hide_62 : decode cX12_hide 62 = .ok (.iconst 0, 1) := by decide +kernel
theorem dX12_hide_63 : decode cX12_hide 63 = .ok (.istore 4, 2) := by decide +kernel
theorem dX12_hide_65 : decode cX12_hide 65 = .ok (.iinc 5 1, 3) := by decide +kernel
theorem dX12_hide_68 : decode cX12_hide 68 = .ok (.goto (-40), 3) := by decide +kernel
theorem dX12_hide_71 : decode cX12_hide 71 = .ok (.iload 4, 2) := by decide +kernel
theorem dX12_hide_73 : decode cX12_hide 73 = .ok (.ifCond .eq 21, 3) := by decide +kernel
theorem dX12_hide_76 : decode cX12_hide 76 = .ok (.iload_n 2, 1) := by decide +kernel
theorem dX12_hide_77 : decode cX12_hide 77 = .ok (.iconst (-1), 1) := by decide +kernel
theorem dX12_hide_78 : decode cX12_hide 78 = .ok (.if_icmp .eq 14, 3) := by decide +kernel
theorem dX12_hide_81 : decode cX12_hide 81 = .ok (.iload_n 3, 1) := by decide +kernel
theorem dX12_hide_82 : decode cX12_hide 82 = .ok (.invokestatic 388, 3) := by decide +kernel
theorem dX12_hide_85 : decode cX12_hide 85 = .ok (.iload_n 2, 1) := by decide +kernel
theorem dX12_hide_86 : decode cX12_hide 86 = .ok (.invokestatic 388, 3) := by decide +kernel
theorem dX12_hide_89 : decode cX12_hide 89 = .ok (.if_icmp .ge 5, 3) := by decide +kernel
theorem dX12_hide_92 : decode cX12_hide 92 = .ok (.iload_n 3, 1) := by decide +kernel
theorem dX12_hide_93 : decode cX12_hide 93 = .ok (.istore_n 2, 1) := by decide +kernel
theorem dX12_hide_94 : decode cX12_hide 94 = .ok (.iinc 3 1, 3) := by decide +kernel
theorem dX12_hide_97 : decode cX12_hide 97 = .ok (.goto (-81), 3) := by decide +kernel
theorem dX12_hide_100 : decode cX12_hide 100 = .ok (.iload_n 2, 1) := by decide +kernel
theorem dX12_hide_101 : decode cX12_hide 101 = .ok (.ireturn, 1) := by decide +kernel
theorem dX12_init_0 : decode cX12_init 0 = .ok (.aload_n 0, 1) := by decide +kernel
theorem dX12_init_1 : decode cX12_init 1 = .ok (.invokespecial 1, 3) := by decide +kernel
theorem dX12_init_4 : decode cX12_init 4 = .ok (.aload_n 0, 1) := by decide +kernel
theorem dX12_init_5 : decode cX12_init 5 = .ok (.bipush 24, 2) := by decide +kernel
theorem dX12_init_7 : decode cX12_init 7 = .ok (.newarray .int, 2) := by decide +kernel
theorem dX12_init_9 : decode cX12_init 9 = .ok (.putfield 9, 3) := by decide +kernel
theorem dX12_init_12 : decode cX12_init 12 = .ok (.aload_n 0, 1) := by decide +kernel
theorem dX12_init_13 : decode cX12_init 13 = .ok (.bipush 24, 2) := by decide +kernel
theorem dX12_init_15 : decode cX12_init 15 = .ok (.newarray .int, 2) := by decide +kernel
theorem dX12_init_17 : decode cX12_init 17 = .ok (.putfield 13, 3) := by decide +kernel
theorem dX12_init_20 : decode cX12_init 20 = .ok (.aload_n 0, 1) := by decide +kernel
theorem dX12_init_21 : decode cX12_init 21 = .ok (.bipush 24, 2) := by decide +kernel
theorem dX12_init_23 : decode cX12_init 23 = .ok (.newarray .int, 2) := by decide +kernel
theorem dX12_init_25 : decode cX12_init 25 = .ok (.putfield 16, 3) := by decide +kernel
theorem dX12_init_28 : decode cX12_init 28 = .ok (.aload_n 0, 1) := by decide +kernel
theorem dX12_init_29 : decode cX12_init 29 = .ok (.bipush 60, 2) := by decide +kernel
theorem dX12_init_31 : decode cX12_init 31 = .ok (.newarray .int, 2) := by decide +kernel
theorem dX12_init_33 : decode cX12_init 33 = .ok (.putfield 19, 3) := by decide +kernel
theorem dX12_init_36 : decode cX12_init 36 = .ok (.aload_n 0, 1) := by decide +kernel
theorem dX12_init_37 : decode cX12_init 37 = .ok (.bipush 60, 2) := by decide +kernel
theorem dX12_init_39 : decode cX12_init 39 = .ok (.newarray .int, 2) := by decide +kernel
theorem dX12_init_41 : decode cX12_init 41 = .ok (.putfield 22, 3) := by decide +kernel
theorem dX12_init_44 : decode cX12_init 44 = .ok (.aload_n 0, 1) := by decide +kernel
theorem dX12_init_45 : decode cX12_init 45 = .ok (.bipush 60, 2) := by decide +kernel
theorem dX12_init_47 : decode cX12_init 47 = .ok (.newarray .int, 2) := by decide +kernel
theorem dX12_init_49 : decode cX12_init 49 = .ok (.putfield 25, 3) := by decide +kernel
theorem dX12_init_52 : decode cX12_init 52 = .ok (.aload_n 0, 1) := by decide +kernel
theorem dX12_init_53 : decode cX12_init 53 = .ok (.sipush 200, 3) := by decide +kernel
theorem dX12_init_56 : decode cX12_init 56 = .ok (.newarray .int, 2) := by decide +kernel
theorem dX12_init_58 : decode cX12_init 58 = .ok (.putfield 28, 3) := by decide +kernel
theorem dX12_init_61 : decode cX12_init 61 = .ok (.aload_n 0, 1) := by decide +kernel
theorem dX12_init_62 : decode cX12_init 62 = .ok (.sipush 200, 3) := by decide +kernel
theorem dX12_init_65 : decode cX12_init 65 = .ok (.newarray .int, 2) := by decide +kernel
theorem dX12_init_67 : decode cX12_init 67 = .ok (.putfield 31, 3) := by decide +kernel
theorem dX12_init_70 : decode cX12_init 70 = .ok (.aload_n 0, 1) := by decide +kernel
theorem dX12_init_71 : decode cX12_init 71 = .ok (.sipush 200, 3) := by decide +kernel
theorem dX12_init_74 : decode cX12_init 74 = .ok (.newarray .int, 2) := by decide +kernel
theorem dX12_init_76 : decode cX12_init 76 = .ok (.putfield 34, 3) := by decide +kernel
