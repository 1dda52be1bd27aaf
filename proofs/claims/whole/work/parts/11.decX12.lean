theorem dX12_agree_0 : decode cX12_agree 0 = .ok (.aload_n 0, 1) := by decide +kernel
theorem dX12_agree_1 : decode cX12_agree 1 = .ok (.iconst 0, 1) := by decide +kernel
theorem dX12_agree_2 : decode cX12_agree 2 = .ok (.putfield 138, 3) := by decide +kernel
theorem dX12_agree_5 : decode cX12_agree 5 = .ok (.iload_n 1, 1) := by decide +kernel
theorem dX12_agree_6 : decode cX12_agree 6 = .ok (.invokestatic 338, 3) := by decide +kernel
theorem dX12_agree_9 : decode cX12_agree 9 = .ok (.ifCond .eq 33, 3) := by decide +kernel
theorem dX12_agree_12 : decode cX12_agree 12 = .ok (.iload_n 2, 1) := by decide +kernel
theorem dX12_agree_13 : decode cX12_agree 13 = .ok (.invokestatic 338, 3) := by decide +kernel
theorem dX12_agree_16 : decode cX12_agree 16 = .ok (.ifCond .eq 26, 3) := by decide +kernel
theorem dX12_agree_19 : decode cX12_agree 19 = .ok (.iload_n 1, 1) := by decide +kernel
theorem dX12_agree_20 : decode cX12_agree 20 = .ok (.iload_n 2, 1) := by decide +kernel
theorem dX12_agree_21 : decode cX12_agree 21 = .ok (.if_icmp .eq 21, 3) := by decide +kernel
theorem dX12_agree_24 : decode cX12_agree 24 = .ok (.aload_n 0, 1) := by decide +kernel
theorem dX12_agree_25 : decode cX12_agree 25 = .ok (.iload_n 3, 1) := by decide +kernel
theorem dX12_agree_26 : decode cX12_agree 26 = .ok (.invokevirtual 159, 3) := by decide +kernel
theorem dX12_agree_29 : decode cX12_agree 29 = .ok (.ifCond .eq 13, 3) := by decide +kernel
theorem dX12_agree_32 : decode cX12_agree 32 = .ok (.iload 4, 2) := by decide +kernel
theorem dX12_agree_34 : decode cX12_agree 34 = .ok (.iconst 0, 1) := by decide +kernel
theorem dX12_agree_35 : decode cX12_agree 35 = .ok (.iconst 1, 1) := by decide +kernel
theorem dX12_agree_36 : decode cX12_agree 36 = .ok (.invokestatic 145, 3) := by decide +kernel
theorem dX12_agree_39 : decode cX12_agree 39 = .ok (.ifCond .ne 5, 3) := by decide +kernel
theorem dX12_agree_42 : decode cX12_agree 42 = .ok (.iconst (-1), 1) := by decide +kernel
theorem dX12_agree_43 : decode cX12_agree 43 = .ok (.ireturn, 1) := by decide +kernel
theorem dX12_agree_44 : decode cX12_agree 44 = .ok (.iconst 0, 1) := by decide +kernel
theorem dX12_agree_45 : decode cX12_agree 45 = .ok (.istore 5, 2) := by decide +kernel
theorem dX12_agree_47 : decode cX12_agree 47 = .ok (.iconst 0, 1) := by decide +kernel
theorem dX12_agree_48 : decode cX12_agree 48 = .ok (.istore 6, 2) := by decide +kernel
theorem dX12_agree_50 : decode cX12_agree 50 = .ok (.iload 6, 2) := by decide +kernel
theorem dX12_agree_52 : decode cX12_agree 52 = .ok (.aload_n 0, 1) := by decide +kernel
theorem dX12_agree_53 : decode cX12_agree 53 = .ok (.getfield 152, 3) := by decide +kernel
theorem dX12_agree_56 : decode cX12_agree 56 = .ok (.if_icmp .ge 64, 3) := by decide +kernel
theorem dX12_agree_59 : decode cX12_agree 59 = .ok (.aload_n 0, 1) := by decide +kernel
theorem dX12_agree_60 : decode cX12_agree 60 = .ok (.iload_n 1, 1) := by decide +kernel
theorem dX12_agree_61 : decode cX12_agree 61 = .ok (.iload 6, 2) := by decide +kernel
theorem dX12_agree_63 : decode cX12_agree 63 = .ok (.iload_n 3, 1) := by decide +kernel
theorem dX12_agree_64 : decode cX12_agree 64 = .ok (.invokevirtual 341, 3) := by decide +kernel
theorem dX12_agree_67 : decode cX12_agree 67 = .ok (.istore 7, 2) := by decide +kernel
theorem dX12_agree_69 : decode cX12_agree 69 = .ok (.aload_n 0, 1) := by decide +kernel
theorem dX12_agree_70 : decode cX12_agree 70 = .ok (.iload_n 2, 1) := by decide +kernel
theorem dX12_agree_71 : decode cX12_agree 71 = .ok (.iload 6, 2) := by decide +kernel
theorem dX12_agree_73 : decode cX12_agree 73 = .ok (.iload_n 3, 1) := by decide +kernel
theorem dX12_agree_74 : decode cX12_agree 74 = .ok (.invokevirtual 341, 3) := by decide +kernel
theorem dX12_agree_77 : decode cX12_agree 77 = .ok (.istore 8, 2) := by decide +kernel
theorem dX12_agree_79 : decode cX12_agree 79 = .ok (.iload 5, 2) := by decide +kernel
theorem dX12_agree_81 : decode cX12_agree 81 = .ok (.iload 7, 2) := by decide +kernel
theorem dX12_agree_83 : decode cX12_agree 83 = .ok (.iconst (-1), 1) := by decide +kernel
theorem dX12_agree_84 : decode cX12_agree 84 = .ok (.if_icmp .eq 26, 3) := by decide +kernel
theorem dX12_agree_87 : decode cX12_agree 87 = .ok (.iload 8, 2) := by decide +kernel
theorem dX12_agree_89 : decode cX12_agree 89 = .ok (.iconst (-1), 1) := by decide +kernel
theorem dX12_agree_90 : decode cX12_agree 90 = .ok (.if_icmp .eq 20, 3) := by decide +kernel
theorem dX12_agree_93 : decode cX12_agree 93 = .ok (.iload 4, 2) := by decide +kernel
theorem dX12_agree_95 : decode cX12_agree 95 = .ok (.iconst 1, 1) := by decide +kernel
theorem dX12_agree_96 : decode cX12_agree 96 = .ok (.if_icmp .eq 10, 3) := by decide +kernel
theorem dX12_agree_99 : decode cX12_agree 99 = .ok (.iload 7, 2) := by decide +kernel
theorem dX12_agree_101 : decode cX12_agree 101 = .ok (.iload 8, 2) := by decide +kernel
theorem dX12_agree_103 : decode cX12_agree 103 = .ok (.if_icmp .ne 7, 3) := by decide +kernel
theorem dX12_agree_106 : decode cX12_agree 106 = .ok (.iconst 1, 1) := by decide +kernel
theorem dX12_agree_107 : decode cX12_agree 107 = .ok (.goto 4, 3) := by decide +kernel
theorem dX12_agree_110 : decode cX12_agree 110 = .ok (.iconst 0, 1) := by decide +kernel
theorem dX12_agree_111 : decode cX12_agree 111 = .ok (.iadd, 1) := by decide +kernel
theorem dX12_agree_112 : decode cX12_agree 112 = .ok (.istore 5, 2) := by decide +kernel
theorem dX12_agree_114 : decode cX12_agree 114 = .ok (.iinc 6 1, 3) := by decide +kernel
theorem dX12_agree_117 : decode cX12_agree 117 = .ok (.goto (-67), 3) := by decide +kernel
theorem dX12_agree_120 : decode cX12_agree 120 = .ok (.iload 5, 2) := by decide +kernel
theorem dX12_agree_122 : decode cX12_agree 122 = .ok (.ireturn, 1) := by decide +kernel
theorem dX12_alike_0 : decode cX12_alike 0 = .ok (.aload_n 0, 1) := by decide +kernel
theorem dX12_alike_1 : decode cX12_alike 1 = .ok (.iconst 0, 1) := by decide +kernel
theorem dX12_alike_2 : decode cX12_alike 2 = .ok (.putfield 138, 3) := by decide +kernel
theorem dX12_alike_5 : decode cX12_alike 5 = .ok (.aload_n 0, 1) := by decide +kernel
theorem dX12_alike_6 : decode cX12_alike 6 = .ok (.iload_n 1, 1) := by decide +kernel
theorem dX12_alike_7 : decode cX12_alike 7 = .ok (.invokevirtual 165, 3) := by decide +kernel
theorem dX12_alike_10 : decode cX12_alike 10 = .ok (.ifCond .eq 22, 3) := by decide +kernel
theorem dX12_alike_13 : decode cX12_alike 13 = .ok (.iload_n 2, 1) := by decide +kernel
theorem dX12_alike_14 : decode cX12_alike 14 = .ok (.iconst 0, 1) := by decide +kernel
theorem dX12_alike_15 : decode cX12_alike 15 = .ok (.bipush 7, 2) := by decide +kernel
theorem dX12_alike_17 : decode cX12_alike 17 = .ok (.invokestatic 145, 3) := by decide +kernel
theorem dX12_alike_20 : decode cX12_alike 20 = .ok (.ifCond .eq 12, 3) := by decide +kernel
theorem dX12_alike_23 : decode cX12_alike 23 = .ok (.aload_n 0, 1) := by decide +kernel
theorem dX12_alike_24 : decode cX12_alike 24 = .ok (.iload_n 1, 1) := by decide +kernel
theorem dX12_alike_25 : decode cX12_alike 25 = .ok (.iload_n 2, 1) := by decide +kernel
theorem dX12_alike_26 : decode cX12_alike 26 = .ok (.invokevirtual 385, 3) := by decide +kernel
theorem dX12_alike_29 : decode cX12_alike 29 = .ok (.goto 4, 3) := by decide +kernel
theorem dX12_alike_32 : decode cX12_alike 32 = .ok (.iconst (-1), 1) := by decide +kernel
theorem dX12_alike_33 : decode cX12_alike 33 = .ok (.ireturn, 1) := by decide +kernel
theorem dX12_alikeOf_0 : decode cX12_alikeOf 0 = .ok (.iconst 0, 1) := by decide +kernel
theorem dX12_alikeOf_1 : decode cX12_alikeOf 1 = .ok (.istore_n 3, 1) := by decide +kernel
theorem dX12_alikeOf_2 : decode cX12_alikeOf 2 = .ok (.iconst 0, 1) := by decide +kernel
theorem dX12_alikeOf_3 : decode cX12_alikeOf 3 = .ok (.istore 4, 2) := by decide +kernel
theorem dX12_alikeOf_5 : decode cX12_alikeOf 5 = .ok (.iload 4, 2) := by decide +kernel
theorem dX12_alikeOf_7 : decode cX12_alikeOf 7 = .ok (.aload_n 0, 1) := by decide +kernel
theorem dX12_alikeOf_8 : decode cX12_alikeOf 8 = .ok (.getfield 149, 3) := by decide +kernel
theorem dX12_alikeOf_11 : decode cX12_alikeOf 11 = .ok (.if_icmp .ge 93, 3) := by decide +kernel
theorem dX12_alikeOf_14 : decode cX12_alikeOf 14 = .ok (.iload_n 2, 1) := by decide +kernel
theorem dX12_alikeOf_15 : decode cX12_alikeOf 15 = .ok (.iconst 1, 1) := by decide +kernel
theorem dX12_alikeOf_16 : decode cX12_alikeOf 16 = .ok (.iand, 1) := by decide +kernel
theorem dX12_alikeOf_17 : decode cX12_alikeOf 17 = .ok (.ifCond .eq 19, 3) := by decide +kernel
theorem dX12_alikeOf_20 : decode cX12_alikeOf 20 = .ok (.aload_n 0, 1) := by decide +kernel
theorem dX12_alikeOf_21 : decode cX12_alikeOf 21 = .ok (.getfield 9, 3) := by decide +kernel
theorem dX12_alikeOf_24 : decode cX12_alikeOf 24 = .ok (.iload 4, 2) := by decide +kernel
theorem dX12_alikeOf_26 : decode cX12_alikeOf 26 = .ok (.iaload, 1) := by decide +kernel
theorem dX12_alikeOf_27 : decode cX12_alikeOf 27 = .ok (.aload_n 0, 1) := by decide +kernel
theorem dX12_alikeOf_28 : decode cX12_alikeOf 28 = .ok (.getfield 9, 3) := by decide +kernel
theorem dX12_alikeOf_31 : decode cX12_alikeOf 31 = .ok (.iload_n 1, 1) := by decide +kernel
theorem dX12_alikeOf_32 : decode cX12_alikeOf 32 = .ok (.iaload, 1) := by decide +kernel
theorem dX12_alikeOf_33 : decode cX12_alikeOf 33 = .ok (.if_icmp .ne 49, 3) := by decide +kernel
theorem dX12_alikeOf_36 : decode cX12_alikeOf 36 = .ok (.iload_n 2, 1) := by decide +kernel
theorem dX12_alikeOf_37 : decode cX12_alikeOf 37 = .ok (.iconst 2, 1) := by decide +kernel
theorem dX12_alikeOf_38 : decode cX12_alikeOf 38 = .ok (.iand, 1) := by decide +kernel
theorem dX12_alikeOf_39 : decode cX12_alikeOf 39 = .ok (.ifCond .eq 17, 3) := by decide +kernel
theorem dX12_alikeOf_42 : decode cX12_alikeOf 42 = .ok (.aload_n 0, 1) := by decide +kernel
theorem dX12_alikeOf_43 : decode cX12_alikeOf 43 = .ok (.iload 4, 2) := by decide +kernel
theorem dX12_alikeOf_45 : decode cX12_alikeOf 45 = .ok (.invokevirtual 348, 3) := by decide +kernel
theorem dX12_alikeOf_48 : decode cX12_alikeOf 48 = .ok (.aload_n 0, 1) := by decide +kernel
theorem dX12_alikeOf_49 : decode cX12_alikeOf 49 = .ok (.iload_n 1, 1) := by decide +kernel
theorem dX12_alikeOf_50 : decode cX12_alikeOf 50 = .ok (.invokevirtual 348, 3) := by decide +kernel
theorem dX12_alikeOf_53 : decode cX12_alikeOf 53 = .ok (.if_icmp .ne 29, 3) := by decide +kernel
theorem dX12_alikeOf_56 : decode cX12_alikeOf 56 = .ok (.iload_n 2, 1) := by decide +kernel
theorem dX12_alikeOf_57 : decode cX12_alikeOf 57 = .ok (.iconst 4, 1) := by decide +kernel
theorem dX12_alikeOf_58 : decode cX12_alikeOf 58 = .ok (.iand, 1) := by decide +kernel
theorem dX12_alikeOf_59 : decode cX12_alikeOf 59 = .ok (.ifCond .eq 19, 3) := by decide +kernel
theorem dX12_alikeOf_62 : decode cX12_alikeOf 62 = .ok (.aload_n 0, 1) := by decide +kernel
theorem dX12_alikeOf_63 : decode cX12_alikeOf 63 = .ok (.getfield 16, 3) := by decide +kernel
theorem dX12_alikeOf_66 : decode cX12_alikeOf 66 = .ok (.iload 4, 2) := by decide +kernel
theorem dX12_alikeOf_68 : decode cX12_alikeOf 68 = .ok (.iaload, 1) := by decide +kernel
theorem dX12_alikeOf_69 : decode cX12_alikeOf 69 = .ok (.aload_n 0, 1) := by decide +kernel
theorem dX12_alikeOf_70 : decode cX12_alikeOf 70 = .ok (.getfield 16, 3) := by decide +kernel
theorem dX12_alikeOf_73 : decode cX12_alikeOf 73 = .ok (.iload_n 1, 1) := by decide +kernel
theorem dX12_alikeOf_74 : decode cX12_alikeOf 74 = .ok (.iaload, 1) := by decide +kernel
theorem dX12_alikeOf_75 : decode cX12_alikeOf 75 = .ok (.if_icmp .ne 7, 3) := by decide +kernel
theorem dX12_alikeOf_78 : decode cX12_alikeOf 78 = .ok (.iconst 1, 1) := by decide +kernel
theorem dX12_alikeOf_79 : decode cX12_alikeOf 79 = .ok (.goto 4, 3) := by decide +kernel
theorem dX12_alikeOf_82 : decode cX12_alikeOf 82 = .ok (.iconst 0, 1) := by decide +kernel
theorem dX12_alikeOf_83 : decode cX12_alikeOf 83 = .ok (.istore 5, 2) := by decide +kernel
theorem dX12_alikeOf_85 : decode cX12_alikeOf 85 = .ok (.iload_n 3, 1) := by decide +kernel
theorem dX12_alikeOf_86 : decode cX12_alikeOf 86 = .ok (.iload 5, 2) := by decide +kernel
theorem dX12_alikeOf_88 : decode cX12_alikeOf 88 = .ok (.ifCond .eq 7, 3) := by decide +kernel
theorem dX12_alikeOf_91 : decode cX12_alikeOf 91 = .ok (.iconst 1, 1) := by decide +kernel
theorem dX12_alikeOf_92 : decode cX12_alikeOf 92 = .ok (.goto 4, 3) := by decide +kernel
theorem dX12_alikeOf_95 : decode cX12_alikeOf 95 = .ok (.iconst 0, 1) := by decide +kernel
theorem dX12_alikeOf_96 : decode cX12_alikeOf 96 = .ok (.iadd, 1) := by decide +kernel
theorem dX12_alikeOf_97 : decode cX12_alikeOf 97 = .ok (.istore_n 3, 1) := by decide +kernel
theorem dX12_alikeOf_98 : decode cX12_alikeOf 98 = .ok (.iinc 4 1, 3) := by decide +kernel
theorem dX12_alikeOf_101 : decode cX12_alikeOf 101 = .ok (.goto (-96), 3) := by decide +kernel
theorem dX12_alikeOf_104 : decode cX12_alikeOf 104 = .ok (.iload_n 3, 1) := by decide +kernel
theorem dX12_alikeOf_105 : decode cX12_alikeOf 105 = .ok (.ireturn, 1) := by decide +kernel
theorem dX12_bearers_0 : decode cX12_bearers 0 = .ok (.aload_n 0, 1) := by decide +kernel
theorem dX12_bearers_1 : decode cX12_bearers 1 = .ok (.iconst 0, 1) := by decide +kernel
theorem dX12_bearers_2 : decode cX12_bearers 2 = .ok (.putfield 138, 3) := by decide +kernel
theorem dX12_bearers_5 : decode cX12_bearers 5 = .ok (.iload_n 1, 1) := by decide +kernel
theorem dX12_bearers_6 : decode cX12_bearers 6 = .ok (.iconst 0, 1) := by decide +kernel
theorem dX12_bearers_7 : decode cX12_bearers 7 = .ok (.bipush 29, 2) := by decide +kernel
theorem dX12_bearers_9 : decode cX12_bearers 9 = .ok (.invokestatic 145, 3) := by decide +kernel
theorem dX12_bearers_12 : decode cX12_bearers 12 = .ok (.ifCond .eq 11, 3) := by decide +kernel
theorem dX12_bearers_15 : decode cX12_bearers 15 = .ok (.aload_n 0, 1) := by decide +kernel
theorem dX12_bearers_16 : decode cX12_bearers 16 = .ok (.iload_n 2, 1) := by decide +kernel
theorem dX12_bearers_17 : decode cX12_bearers 17 = .ok (.invokevirtual 159, 3) := by decide +kernel
theorem dX12_bearers_20 : decode cX12_bearers 20 = .ok (.ifCond .ne 5, 3) := by decide +kernel
theorem dX12_bearers_23 : decode cX12_bearers 23 = .ok (.iconst (-1), 1) := by decide +kernel
theorem dX12_bearers_24 : decode cX12_bearers 24 = .ok (.ireturn, 1) := by decide +kernel
theorem dX12_bearers_25 : decode cX12_bearers 25 = .ok (.iconst 0, 1) := by decide +kernel
theorem dX12_bearers_26 : decode cX12_bearers 26 = .ok (.istore_n 3, 1) := by decide +kernel
theorem dX12_bearers_27 : decode cX12_bearers 27 = .ok (.iconst 0, 1) := by decide +kernel
theorem dX12_bearers_28 : decode cX12_bearers 28 = .ok (.istore 4, 2) := by decide +kernel
theorem dX12_bearers_30 : decode cX12_bearers 30 = .ok (.iload 4, 2) := by decide +kernel
theorem dX12_bearers_32 : decode cX12_bearers 32 = .ok (.aload_n 0, 1) := by decide +kernel
theorem dX12_bearers_33 : decode cX12_bearers 33 = .ok (.getfield 149, 3) := by decide +kernel
theorem dX12_bearers_36 : decode cX12_bearers 36 = .ok (.if_icmp .ge 29, 3) := by decide +kernel
theorem dX12_bearers_39 : decode cX12_bearers 39 = .ok (.iload_n 3, 1) := by decide +kernel
theorem dX12_bearers_40 : decode cX12_bearers 40 = .ok (.aload_n 0, 1) := by decide +kernel
theorem dX12_bearers_41 : decode cX12_bearers 41 = .ok (.iload 4, 2) := by decide +kernel
theorem dX12_bearers_43 : decode cX12_bearers 43 = .ok (.iload_n 1, 1) := by decide +kernel
theorem dX12_bearers_44 : decode cX12_bearers 44 = .ok (.iload_n 2, 1) := by decide +kernel
theorem dX12_bearers_45 : decode cX12_bearers 45 = .ok (.invokevirtual 332, 3) := by decide +kernel
theorem dX12_bearers_48 : decode cX12_bearers 48 = .ok (.iconst (-1), 1) := by decide +kernel
theorem dX12_bearers_49 : decode cX12_bearers 49 = .ok (.if_icmp .eq 7, 3) := by decide +kernel
theorem dX12_bearers_52 : decode cX12_bearers 52 = .ok (.iconst 1, 1) := by decide +kernel
theorem dX12_bearers_53 : decode cX12_bearers 53 = .ok (.goto 4, 3) := by decide +kernel
theorem dX12_bearers_56 : decode cX12_bearers 56 = .ok (.iconst 0, 1) := by decide +kernel
theorem dX12_bearers_57 : decode cX12_bearers 57 = .ok (.iadd, 1) := by decide +kernel
theorem dX12_bearers_58 : decode cX12_bearers 58 = .ok (.istore_n 3, 1) := by decide +kernel
theorem dX12_bearers_59 : decode cX12_bearers 59 = .ok (.iinc 4 1, 3) := by decide +kernel
theorem dX12_bearers_62 : decode cX12_bearers 62 = .ok (.goto (-32), 3) := by decide +kernel
theorem dX12_bearers_65 : decode cX12_bearers 65 = .ok (.iload_n 3, 1) := by decide +kernel
theorem dX12_bearers_66 : decode cX12_bearers 66 = .ok (.ireturn, 1) := by decide +kernel
theorem dX12_buy_0 : decode cX12_buy 0 = .ok (.aload_n 0, 1) := by decide +kernel
theorem dX12_buy_1 : decode cX12_buy 1 = .ok (.iconst 0, 1) := by decide +kernel
theorem dX12_buy_2 : decode cX12_buy 2 = .ok (.putfield 138, 3) := by decide +kernel
theorem dX12_buy_5 : decode cX12_buy 5 = .ok (.iload_n 1, 1) := by decide +kernel
theorem dX12_buy_6 : decode cX12_buy 6 = .ok (.iconst 0, 1) := by decide +kernel
theorem dX12_buy_7 : decode cX12_buy 7 = .ok (.sipush 400, 3) := by decide +kernel
theorem dX12_buy_10 : decode cX12_buy 10 = .ok (.invokestatic 145, 3) := by decide +kernel
theorem dX12_buy_13 : decode cX12_buy 13 = .ok (.ifCond .ne 5, 3) := by decide +kernel
theorem dX12_buy_16 : decode cX12_buy 16 = .ok (.iconst (-1), 1) := by decide +kernel
theorem dX12_buy_17 : decode cX12_buy 17 = .ok (.ireturn, 1) := by decide +kernel
theorem dX12_buy_18 : decode cX12_buy 18 = .ok (.iconst 0, 1) := by decide +kernel
theorem dX12_buy_19 : decode cX12_buy 19 = .ok (.istore_n 2, 1) := by decide +kernel
theorem dX12_buy_20 : decode cX12_buy 20 = .ok (.iconst 1, 1) := by decide +kernel
theorem dX12_buy_21 : decode cX12_buy 21 = .ok (.istore_n 3, 1) := by decide +kernel
theorem dX12_buy_22 : decode cX12_buy 22 = .ok (.iload_n 3, 1) := by decide +kernel
theorem dX12_buy_23 : decode cX12_buy 23 = .ok (.iconst 1, 1) := by decide +kernel
theorem dX12_buy_24 : decode cX12_buy 24 = .ok (.aload_n 0, 1) := by decide +kernel
theorem dX12_buy_25 : decode cX12_buy 25 = .ok (.getfield 393, 3) := by decide +kernel
theorem dX12_buy_28 : decode cX12_buy 28 = .ok (.ishl, 1) := by decide +kernel
theorem dX12_buy_29 : decode cX12_buy 29 = .ok (.if_icmp .ge 81, 3) := by decide +kernel
theorem dX12_buy_32 : decode cX12_buy 32 = .ok (.aload_n 0, 1) := by decide +kernel
theorem dX12_buy_33 : decode cX12_buy 33 = .ok (.iload_n 3, 1) := by decide +kernel
theorem dX12_buy_34 : decode cX12_buy 34 = .ok (.invokevirtual 396, 3) := by decide +kernel
theorem dX12_buy_37 : decode cX12_buy 37 = .ok (.iload_n 1, 1) := by decide +kernel
theorem dX12_buy_38 : decode cX12_buy 38 = .ok (.if_icmp .le 6, 3) := by decide +kernel
theorem dX12_buy_41 : decode cX12_buy 41 = .ok (.goto 63, 3) := by decide +kernel
theorem dX12_buy_44 : decode cX12_buy 44 = .ok (.aload_n 0, 1) := by decide +kernel
theorem dX12_buy_45 : decode cX12_buy 45 = .ok (.iload_n 3, 1) := by decide +kernel
theorem dX12_buy_46 : decode cX12_buy 46 = .ok (.invokevirtual 399, 3) := by decide +kernel
theorem dX12_buy_49 : decode cX12_buy 49 = .ok (.aload_n 0, 1) := by decide +kernel
theorem dX12_buy_50 : decode cX12_buy 50 = .ok (.iload_n 2, 1) := by decide +kernel
theorem dX12_buy_51 : decode cX12_buy 51 = .ok (.invokevirtual 399, 3) := by decide +kernel
theorem dX12_buy_54 : decode cX12_buy 54 = .ok (.isub, 1) := by decide +kernel
theorem dX12_buy_55 : decode cX12_buy 55 = .ok (.istore 4, 2) := by decide +kernel
theorem dX12_buy_57 : decode cX12_buy 57 = .ok (.iload 4, 2) := by decide +kernel
theorem dX12_buy_59 : decode cX12_buy 59 = .ok (.ifCond .ne 16, 3) := by decide +kernel
theorem dX12_buy_62 : decode cX12_buy 62 = .ok (.aload_n 0, 1) := by decide +kernel
theorem dX12_buy_63 : decode cX12_buy 63 = .ok (.iload_n 2, 1) := by decide +kernel
theorem dX12_buy_64 : decode cX12_buy 64 = .ok (.invokevirtual 396, 3) := by decide +kernel
theorem dX12_buy_67 : decode cX12_buy 67 = .ok (.aload_n 0, 1) := by decide +kernel
theorem dX12_buy_68 : decode cX12_buy 68 = .ok (.iload_n 3, 1) := by decide +kernel
theorem dX12_buy_69 : decode cX12_buy 69 = .ok (.invokevirtual 396, 3) := by decide +kernel
theorem dX12_buy_72 : decode cX12_buy 72 = .ok (.isub, 1) := by decide +kernel
theorem dX12_buy_73 : decode cX12_buy 73 = .ok (.istore 4, 2) := by decide +kernel
theorem dX12_buy_75 : decode cX12_buy 75 = .ok (.iload_n 3, 1) := by decide +kernel
theorem dX12_buy_76 : decode cX12_buy 76 = .ok (.iload_n 2, 1) := by decide +kernel
theorem dX12_buy_77 : decode cX12_buy 77 = .ok (.ixor, 1) := by decide +kernel
theorem dX12_buy_78 : decode cX12_buy 78 = .ok (.iload_n 3, 1) := by decide +kernel
theorem dX12_buy_79 : decode cX12_buy 79 = .ok (.iload_n 2, 1) := by decide +kernel
theorem dX12_buy_80 : decode cX12_buy 80 = .ok (.ixor, 1) := by decide +kernel
theorem dX12_buy_81 : decode cX12_buy 81 = .ok (.ineg, 1) := by decide +kernel
theorem dX12_buy_82 : decode cX12_buy 82 = .ok (.iand, 1) := by decide +kernel
theorem dX12_buy_83 : decode cX12_buy 83 = .ok (.istore 5, 2) := by decide +kernel
theorem dX12_buy_85 : decode cX12_buy 85 = .ok (.iload 4, 2) := by decide +kernel
theorem dX12_buy_87 : decode cX12_buy 87 = .ok (.ifCond .gt 15, 3) := by decide +kernel
theorem dX12_buy_90 : decode cX12_buy 90 = .ok (.iload 4, 2) := by decide +kernel
theorem dX12_buy_92 : decode cX12_buy 92 = .ok (.ifCond .ne 12, 3) := by decide +kernel
theorem dX12_buy_95 : decode cX12_buy 95 = .ok (.iload_n 3, 1) := by decide +kernel
theorem dX12_buy_96 : decode cX12_buy 96 = .ok (.iload 5, 2) := by decide +kernel
theorem dX12_buy_98 : decode cX12_buy 98 = .ok (.iand, 1) := by decide +kernel
theorem dX12_buy_99 : decode cX12_buy 99 = .ok (.ifCond .eq 5, 3) := by decide +kernel
theorem dX12_buy_102 : decode cX12_buy 102 = .ok (.iload_n 3, 1) := by decide +kernel
theorem dX12_buy_103 : decode cX12_buy 103 = .ok (.istore_n 2, 1) := by decide +kernel
theorem dX12_buy_104 : decode cX12_buy 104 = .ok (.iinc 3 1, 3) := by decide +kernel
theorem dX12_buy_107 : decode cX12_buy 107 = .ok (.goto (-85), 3) := by decide +kernel
theorem dX12_buy_110 : decode cX12_buy 110 = .ok (.iload_n 2, 1) := by decide +kernel
theorem dX12_buy_111 : decode cX12_buy 111 = .ok (.ireturn, 1) := by decide +kernel
theorem dX12_bytesIn_0 : decode cX12_bytesIn 0 = .ok (.iconst 0, 1) := by decide +kernel
theorem dX12_bytesIn_1 : decode cX12_bytesIn 1 = .ok (.istore_n 1, 1) := by decide +kernel
theorem dX12_bytesIn_2 : decode cX12_bytesIn 2 = .ok (.bipush 24, 2) := by decide +kernel
theorem dX12_bytesIn_4 : decode cX12_bytesIn 4 = .ok (.istore_n 2, 1) := by decide +kernel
theorem dX12_bytesIn_5 : decode cX12_bytesIn 5 = .ok (.iload_n 2, 1) := by decide +kernel
theorem dX12_bytesIn_6 : decode cX12_bytesIn 6 = .ok (.ifCond .lt 27, 3) := by decide +kernel
theorem dX12_bytesIn_9 : decode cX12_bytesIn 9 = .ok (.iload_n 1, 1) := by decide +kernel
theorem dX12_bytesIn_10 : decode cX12_bytesIn 10 = .ok (.iload_n 0, 1) := by decide +kernel
theorem dX12_bytesIn_11 : decode cX12_bytesIn 11 = .ok (.iload_n 2, 1) := by decide +kernel
theorem dX12_bytesIn_12 : decode cX12_bytesIn 12 = .ok (.ishr, 1) := by decide +kernel
theorem dX12_bytesIn_13 : decode cX12_bytesIn 13 = .ok (.sipush 255, 3) := by decide +kernel
theorem dX12_bytesIn_16 : decode cX12_bytesIn 16 = .ok (.iand, 1) := by decide +kernel
theorem dX12_bytesIn_17 : decode cX12_bytesIn 17 = .ok (.ifCond .eq 7, 3) := by decide +kernel
theorem dX12_bytesIn_20 : decode cX12_bytesIn 20 = .ok (.iconst 1, 1) := by decide +kernel
theorem dX12_bytesIn_21 : decode cX12_bytesIn 21 = .ok (.goto 4, 3) := by decide +kernel
theorem dX12_bytesIn_24 : decode cX12_bytesIn 24 = .ok (.iconst 0, 1) := by decide +kernel
theorem dX12_bytesIn_25 : decode cX12_bytesIn 25 = .ok (.iadd, 1) := by decide +kernel
theorem dX12_bytesIn_26 : decode cX12_bytesIn 26 = .ok (.istore_n 1, 1) := by decide +kernel
theorem dX12_bytesIn_27 : decode cX12_bytesIn 27 = .ok (.iinc 2 (-8), 3) := by decide +kernel
theorem dX12_bytesIn_30 : decode cX12_bytesIn 30 = .ok (.goto (-25), 3) := by decide +kernel
theorem dX12_bytesIn_33 : decode cX12_bytesIn 33 = .ok (.iload_n 1, 1) := by decide +kernel
theorem dX12_bytesIn_34 : decode cX12_bytesIn 34 = .ok (.ireturn, 1) := by decide +kernel
theorem dX12_count_0 : decode cX12_count 0 = .ok (.aload_n 0, 1) := by decide +kernel
theorem dX12_count_1 : decode cX12_count 1 = .ok (.iconst 0, 1) := by decide +kernel
theorem dX12_count_2 : decode cX12_count 2 = .ok (.putfield 138, 3) := by decide +kernel
theorem dX12_count_5 : decode cX12_count 5 = .ok (.iload_n 1, 1) := by decide +kernel
theorem dX12_count_6 : decode cX12_count 6 = .ok (.tableswitch 157 0 11 #[62, 67, 72, 77, 82, 87, 92, 97, 102, 107, 112, 152], 62) := by decide +kernel
theorem dX12_count_68 : decode cX12_count 68 = .ok (.aload_n 0, 1) := by decide +kernel
theorem dX12_count_69 : decode cX12_count 69 = .ok (.getfield 142, 3) := by decide +kernel
theorem dX12_count_72 : decode cX12_count 72 = .ok (.ireturn, 1) := by decide +kernel
theorem dX12_count_73 : decode cX12_count 73 = .ok (.aload_n 0, 1) := by decide +kernel
theorem dX12_count_74 : decode cX12_count 74 = .ok (.getfield 149, 3) := by decide +kernel
theorem dX12_count_77 : decode cX12_count 77 = .ok (.ireturn, 1) := by decide +kernel
theorem dX12_count_78 : decode cX12_count 78 = .ok (.aload_n 0, 1) := by decide +kernel
theorem dX12_count_79 : decode cX12_count 79 = .ok (.getfield 152, 3) := by decide +kernel
theorem dX12_count_82 : decode cX12_count 82 = .ok (.ireturn, 1) := by decide +kernel
theorem dX12_count_83 : decode cX12_count 83 = .ok (.aload_n 0, 1) := by decide +kernel
theorem dX12_count_84 : decode cX12_count 84 = .ok (.getfield 289, 3) := by decide +kernel
theorem dX12_count_87 : decode cX12_count 87 = .ok (.ireturn, 1) := by decide +kernel
theorem dX12_count_88 : decode cX12_count 88 = .ok (.aload_n 0, 1) := by decide +kernel
theorem dX12_count_89 : decode cX12_count 89 = .ok (.getfield 329, 3) := by decide +kernel
theorem dX12_count_92 : decode cX12_count 92 = .ok (.ireturn, 1) := by decide +kernel
theorem dX12_count_93 : decode cX12_count 93 = .ok (.aload_n 0, 1) := by decide +kernel
theorem dX12_count_94 : decode cX12_count 94 = .ok (.getfield 335, 3) := by decide +kernel
theorem dX12_count_97 : decode cX12_count 97 = .ok (.ireturn, 1) := by decide +kernel
theorem dX12_count_98 : decode cX12_count 98 = .ok (.aload_n 0, 1) := by decide +kernel
theorem dX12_count_99 : decode cX12_count 99 = .ok (.getfield 369, 3) := by decide +kernel
theorem dX12_count_102 : decode cX12_count 102 = .ok (.ireturn, 1) := by decide +kernel
theorem dX12_count_103 : decode cX12_count 103 = .ok (.aload_n 0, 1) := by decide +kernel
theorem dX12_count_104 : decode cX12_count 104 = .ok (.getfield 372, 3) := by decide +kernel
theorem dX12_count_107 : decode cX12_count 107 = .ok (.ireturn, 1) := by decide +kernel
theorem dX12_count_108 : decode cX12_count 108 = .ok (.aload_n 0, 1) := by decide +kernel
theorem dX12_count_109 : decode cX12_count 109 = .ok (.getfield 393, 3) := by decide +kernel
theorem dX12_count_112 : decode cX12_count 112 = .ok (.ireturn, 1) := by decide +kernel
theorem dX12_count_113 : decode cX12_count 113 = .ok (.aload_n 0, 1) := by decide +kernel
theorem dX12_count_114 : decode cX12_count 114 = .ok (.getfield 178, 3) := by decide +kernel
theorem dX12_count_117 : decode cX12_count 117 = .ok (.ireturn, 1) := by decide +kernel
theorem dX12_count_118 : decode cX12_count 118 = .ok (.iconst 0, 1) := by decide +kernel
theorem dX12_count_119 : decode cX12_count 119 = .ok (.istore_n 2, 1) := by decide +kernel
theorem dX12_count_120 : decode cX12_count 120 = .ok (.iconst 0, 1) := by decide +kernel
theorem dX12_count_121 : decode cX12_count 121 = .ok (.istore_n 3, 1) := by decide +kernel
theorem dX12_count_122 : decode cX12_count 122 = .ok (.iload_n 3, 1) := by decide +kernel
theorem dX12_count_123 : decode cX12_count 123 = .ok (.aload_n 0, 1) := by decide +kernel
theorem dX12_count_124 : decode cX12_count 124 = .ok (.getfield 149, 3) := by decide +kernel
theorem dX12_count_127 : decode cX12_count 127 = .ok (.if_icmp .ge 29, 3) := by decide +kernel
theorem dX12_count_130 : decode cX12_count 130 = .ok (.iload_n 2, 1) := by decide +kernel
theorem dX12_count_131 : decode cX12_count 131 = .ok (.aload_n 0, 1) := by decide +kernel
theorem dX12_count_132 : decode cX12_count 132 = .ok (.iload_n 3, 1) := by decide +kernel
theorem dX12_count_133 : decode cX12_count 133 = .ok (.aload_n 0, 1) := by decide +kernel
theorem dX12_count_134 : decode cX12_count 134 = .ok (.getfield 142, 3) := by decide +kernel
theorem dX12_count_137 : decode cX12_count 137 = .ok (.invokevirtual 366, 3) := by decide +kernel
theorem dX12_count_140 : decode cX12_count 140 = .ok (.ifCond .eq 7, 3) := by decide +kernel
theorem dX12_count_143 : decode cX12_count 143 = .ok (.iconst 1, 1) := by decide +kernel
theorem dX12_count_144 : decode cX12_count 144 = .ok (.goto 4, 3) := by decide +kernel
theorem dX12_count_147 : decode cX12_count 147 = .ok (.iconst 0, 1) := by decide +kernel
theorem dX12_count_148 : decode cX12_count 148 = .ok (.iadd, 1) := by decide +kernel
theorem dX12_count_149 : decode cX12_count 149 = .ok (.istore_n 2, 1) := by decide +kernel
theorem dX12_count_150 : decode cX12_count 150 = .ok (.iinc 3 1, 3) := by decide +kernel
theorem dX12_count_153 : decode cX12_count 153 = .ok (.goto (-31), 3) := by decide +kernel
theorem dX12_count_156 : decode cX12_count 156 = .ok (.iload_n 2, 1) := by decide +kernel
theorem dX12_count_157 : decode cX12_count 157 = .ok (.ireturn, 1) := by decide +kernel
theorem dX12_count_158 : decode cX12_count 158 = .ok (.aload_n 0, 1) := by decide +kernel
theorem dX12_count_159 : decode cX12_count 159 = .ok (.invokevirtual 345, 3) := by decide +kernel
theorem dX12_count_162 : decode cX12_count 162 = .ok (.ireturn, 1) := by decide +kernel
theorem dX12_count_163 : decode cX12_count 163 = .ok (.iconst (-1), 1) := by decide +kernel
theorem dX12_count_164 : decode cX12_count 164 = .ok (.ireturn, 1) := by decide +kernel
theorem dX12_days_0 : decode cX12_days 0 = .ok (.aload_n 0, 1) := by decide +kernel
theorem dX12_days_1 : decode cX12_days 1 = .ok (.iconst 0, 1) := by decide +kernel
theorem dX12_days_2 : decode cX12_days 2 = .ok (.putfield 138, 3) := by decide +kernel
theorem dX12_days_5 : decode cX12_days 5 = .ok (.iload_n 1, 1) := by decide +kernel
theorem dX12_days_6 : decode cX12_days 6 = .ok (.iconst 0, 1) := by decide +kernel
theorem dX12_days_7 : decode cX12_days 7 = .ok (.sipush 400, 3) := by decide +kernel
theorem dX12_days_10 : decode cX12_days 10 = .ok (.invokestatic 145, 3) := by decide +kernel
theorem dX12_days_13 : decode cX12_days 13 = .ok (.ifCond .eq 15, 3) := by decide +kernel
theorem dX12_days_16 : decode cX12_days 16 = .ok (.aload_n 0, 1) := by decide +kernel
theorem dX12_days_17 : decode cX12_days 17 = .ok (.getfield 142, 3) := by decide +kernel
theorem dX12_days_20 : decode cX12_days 20 = .ok (.iload_n 1, 1) := by decide +kernel
theorem dX12_days_21 : decode cX12_days 21 = .ok (.iadd, 1) := by decide +kernel
theorem dX12_days_22 : decode cX12_days 22 = .ok (.sipush 1000, 3) := by decide +kernel
theorem dX12_days_25 : decode cX12_days 25 = .ok (.if_icmp .le 5, 3) := by decide +kernel
theorem dX12_days_28 : decode cX12_days 28 = .ok (.iconst (-1), 1) := by decide +kernel
theorem dX12_days_29 : decode cX12_days 29 = .ok (.ireturn, 1) := by decide +kernel
theorem dX12_days_30 : decode cX12_days 30 = .ok (.aload_n 0, 1) := by decide +kernel
theorem dX12_days_31 : decode cX12_days 31 = .ok (.dup, 1) := by decide +kernel
theorem dX12_days_32 : decode cX12_days 32 = .ok (.getfield 142, 3) := by decide +kernel
theorem dX12_days_35 : decode cX12_days 35 = .ok (.iload_n 1, 1) := by decide +kernel
theorem dX12_days_36 : decode cX12_days 36 = .ok (.iadd, 1) := by decide +kernel
theorem dX12_days_37 : decode cX12_days 37 = .ok (.putfield 142, 3) := by decide +kernel
theorem dX12_days_40 : decode cX12_days 40 = .ok (.aload_n 0, 1) := by decide +kernel
theorem dX12_days_41 : decode cX12_days 41 = .ok (.getfield 142, 3) := by decide +kernel
theorem dX12_days_44 : decode cX12_days 44 = .ok (.ireturn, 1) := by decide +kernel
theorem dX12_end_0 : decode cX12_end 0 = .ok (.aload_n 0, 1) := by decide +kernel
theorem dX12_end_1 : decode cX12_end 1 = .ok (.iconst 0, 1) := by decide +kernel
theorem dX12_end_2 : decode cX12_end 2 = .ok (.putfield 138, 3) := by decide +kernel
theorem dX12_end_5 : decode cX12_end 5 = .ok (.iload_n 1, 1) := by decide +kernel
theorem dX12_end_6 : decode cX12_end 6 = .ok (.ifCond .lt 11, 3) := by decide +kernel
theorem dX12_end_9 : decode cX12_end 9 = .ok (.iload_n 1, 1) := by decide +kernel
theorem dX12_end_10 : decode cX12_end 10 = .ok (.aload_n 0, 1) := by decide +kernel
theorem dX12_end_11 : decode cX12_end 11 = .ok (.getfield 178, 3) := by decide +kernel
theorem dX12_end_14 : decode cX12_end 14 = .ok (.if_icmp .le 5, 3) := by decide +kernel
theorem dX12_end_17 : decode cX12_end 17 = .ok (.iconst 0, 1) := by decide +kernel
theorem dX12_end_18 : decode cX12_end 18 = .ok (.ireturn, 1) := by decide +kernel
theorem dX12_end_19 : decode cX12_end 19 = .ok (.aload_n 0, 1) := by decide +kernel
theorem dX12_end_20 : decode cX12_end 20 = .ok (.iload_n 1, 1) := by decide +kernel
theorem dX12_end_21 : decode cX12_end 21 = .ok (.putfield 178, 3) := by decide +kernel
theorem dX12_end_24 : decode cX12_end 24 = .ok (.iconst 1, 1) := by decide +kernel
theorem dX12_end_25 : decode cX12_end 25 = .ok (.ireturn, 1) := by decide +kernel
theorem dX12_feed_0 : decode cX12_feed 0 = .ok (.aload_n 0, 1) := by decide +kernel
theorem dX12_feed_1 : decode cX12_feed 1 = .ok (.iconst 0, 1) := by decide +kernel
theorem dX12_feed_2 : decode cX12_feed 2 = .ok (.putfield 138, 3) := by decide +kernel
theorem dX12_feed_5 : decode cX12_feed 5 = .ok (.aload_n 0, 1) := by decide +kernel
theorem dX12_feed_6 : decode cX12_feed 6 = .ok (.getfield 178, 3) := by decide +kernel
theorem dX12_feed_9 : decode cX12_feed 9 = .ok (.iload_n 1, 1) := by decide +kernel
theorem dX12_feed_10 : decode cX12_feed 10 = .ok (.invokestatic 181, 3) := by decide +kernel
theorem dX12_feed_13 : decode cX12_feed 13 = .ok (.iadd, 1) := by decide +kernel
theorem dX12_feed_14 : decode cX12_feed 14 = .ok (.iload_n 2, 1) := by decide +kernel
theorem dX12_feed_15 : decode cX12_feed 15 = .ok (.invokestatic 181, 3) := by decide +kernel
theorem dX12_feed_18 : decode cX12_feed 18 = .ok (.iadd, 1) := by decide +kernel
theorem dX12_feed_19 : decode cX12_feed 19 = .ok (.iload_n 3, 1) := by decide +kernel
theorem dX12_feed_20 : decode cX12_feed 20 = .ok (.invokestatic 181, 3) := by decide +kernel
theorem dX12_feed_23 : decode cX12_feed 23 = .ok (.iadd, 1) := by decide +kernel
theorem dX12_feed_24 : decode cX12_feed 24 = .ok (.iload 4, 2) := by decide +kernel
theorem dX12_feed_26 : decode cX12_feed 26 = .ok (.invokestatic 181, 3) := by decide +kernel
theorem dX12_feed_29 : decode cX12_feed 29 = .ok (.iadd, 1) := by decide +kernel
theorem dX12_feed_30 : decode cX12_feed 30 = .ok (.iload 5, 2) := by decide +kernel
theorem dX12_feed_32 : decode cX12_feed 32 = .ok (.invokestatic 181, 3) := by decide +kernel
theorem dX12_feed_35 : decode cX12_feed 35 = .ok (.iadd, 1) := by decide +kernel
theorem dX12_feed_36 : decode cX12_feed 36 = .ok (.sipush 160, 3) := by decide +kernel
theorem dX12_feed_39 : decode cX12_feed 39 = .ok (.if_icmp .le 5, 3) := by decide +kernel
theorem dX12_feed_42 : decode cX12_feed 42 = .ok (.iconst (-1), 1) := by decide +kernel
theorem dX12_feed_43 : decode cX12_feed 43 = .ok (.ireturn, 1) := by decide +kernel
theorem dX12_feed_44 : decode cX12_feed 44 = .ok (.aload_n 0, 1) := by decide +kernel
theorem dX12_feed_45 : decode cX12_feed 45 = .ok (.iload_n 1, 1) := by decide +kernel
theorem dX12_feed_46 : decode cX12_feed 46 = .ok (.invokevirtual 185, 3) := by decide +kernel
theorem dX12_feed_49 : decode cX12_feed 49 = .ok (.aload_n 0, 1) := by decide +kernel
theorem dX12_feed_50 : decode cX12_feed 50 = .ok (.iload_n 2, 1) := by decide +kernel
theorem dX12_feed_51 : decode cX12_feed 51 = .ok (.invokevirtual 185, 3) := by decide +kernel
theorem dX12_feed_54 : decode cX12_feed 54 = .ok (.aload_n 0, 1) := by decide +kernel
theorem dX12_feed_55 : decode cX12_feed 55 = .ok (.iload_n 3, 1) := by decide +kernel
theorem dX12_feed_56 : decode cX12_feed 56 = .ok (.invokevirtual 185, 3) := by decide +kernel
theorem dX12_feed_59 : decode cX12_feed 59 = .ok (.aload_n 0, 1) := by decide +kernel
theorem dX12_feed_60 : decode cX12_feed 60 = .ok (.iload 4, 2) := by decide +kernel
theorem dX12_feed_62 : decode cX12_feed 62 = .ok (.invokevirtual 185, 3) := by decide +kernel
theorem dX12_feed_65 : decode cX12_feed 65 = .ok (.aload_n 0, 1) := by decide +kernel
theorem dX12_feed_66 : decode cX12_feed 66 = .ok (.iload 5, 2) := by decide +kernel
theorem dX12_feed_68 : decode cX12_feed 68 = .ok (.invokevirtual 185, 3) := by decide +kernel
theorem dX12_feed_71 : decode cX12_feed 71 = .ok (.aload_n 0, 1) := by decide +kernel
theorem dX12_feed_72 : decode cX12_feed 72 = .ok (.getfield 178, 3) := by decide +kernel
theorem dX12_feed_75 : decode cX12_feed 75 = .ok (.ireturn, 1) := by decide +kernel
theorem dX12_force_0 : decode cX12_force 0 = .ok (.aload_n 0, 1) := by decide +kernel
theorem dX12_force_1 : decode cX12_force 1 = .ok (.iconst 0, 1) := by decide +kernel
theorem dX12_force_2 : decode cX12_force 2 = .ok (.putfield 138, 3) := by decide +kernel
theorem dX12_force_5 : decode cX12_force 5 = .ok (.iload_n 1, 1) := by decide +kernel
theorem dX12_force_6 : decode cX12_force 6 = .ok (.invokestatic 175, 3) := by decide +kernel
theorem dX12_force_9 : decode cX12_force 9 = .ok (.ifCond .eq 20, 3) := by decide +kernel
theorem dX12_force_12 : decode cX12_force 12 = .ok (.aload_n 0, 1) := by decide +kernel
theorem dX12_force_13 : decode cX12_force 13 = .ok (.iload_n 2, 1) := by decide +kernel
theorem dX12_force_14 : decode cX12_force 14 = .ok (.invokevirtual 159, 3) := by decide +kernel
theorem dX12_force_17 : decode cX12_force 17 = .ok (.ifCond .eq 12, 3) := by decide +kernel
theorem dX12_force_20 : decode cX12_force 20 = .ok (.aload_n 0, 1) := by decide +kernel
theorem dX12_force_21 : decode cX12_force 21 = .ok (.iload_n 1, 1) := by decide +kernel
theorem dX12_force_22 : decode cX12_force 22 = .ok (.iload_n 2, 1) := by decide +kernel
theorem dX12_force_23 : decode cX12_force 23 = .ok (.invokevirtual 292, 3) := by decide +kernel
theorem dX12_force_26 : decode cX12_force 26 = .ok (.goto 4, 3) := by decide +kernel
theorem dX12_force_29 : decode cX12_force 29 = .ok (.iconst (-1), 1) := by decide +kernel
theorem dX12_force_30 : decode cX12_force 30 = .ok (.ireturn, 1) := by decide +kernel
theorem dX12_habit_0 : decode cX12_habit 0 = .ok (.aload_n 0, 1) := by decide +kernel
theorem dX12_habit_1 : decode cX12_habit 1 = .ok (.iconst 0, 1) := by decide +kernel
theorem dX12_habit_2 : decode cX12_habit 2 = .ok (.putfield 138, 3) := by decide +kernel
theorem dX12_habit_5 : decode cX12_habit 5 = .ok (.iload_n 1, 1) := by decide +kernel
theorem dX12_habit_6 : decode cX12_habit 6 = .ok (.invokestatic 338, 3) := by decide +kernel
theorem dX12_habit_9 : decode cX12_habit 9 = .ok (.ifCond .eq 11, 3) := by decide +kernel
theorem dX12_habit_12 : decode cX12_habit 12 = .ok (.aload_n 0, 1) := by decide +kernel
theorem dX12_habit_13 : decode cX12_habit 13 = .ok (.iload_n 2, 1) := by decide +kernel
theorem dX12_habit_14 : decode cX12_habit 14 = .ok (.invokevirtual 159, 3) := by decide +kernel
theorem dX12_habit_17 : decode cX12_habit 17 = .ok (.ifCond .ne 7, 3) := by decide +kernel
theorem dX12_habit_20 : decode cX12_habit 20 = .ok (.ldc_w 344, 3) := by decide +kernel
theorem dX12_habit_23 : decode cX12_habit 23 = .ok (.ireturn, 1) := by decide +kernel
theorem dX12_habit_24 : decode cX12_habit 24 = .ok (.iconst 0, 1) := by decide +kernel
theorem dX12_habit_25 : decode cX12_habit 25 = .ok (.istore_n 3, 1) := by decide +kernel
theorem dX12_habit_26 : decode cX12_habit 26 = .ok (.iconst 0, 1) := by decide +kernel
theorem dX12_habit_27 : decode cX12_habit 27 = .ok (.istore 4, 2) := by decide +kernel
theorem dX12_habit_29 : decode cX12_habit 29 = .ok (.iconst 0, 1) := by decide +kernel
theorem dX12_habit_30 : decode cX12_habit 30 = .ok (.istore 5, 2) := by decide +kernel
theorem dX12_habit_32 : decode cX12_habit 32 = .ok (.iload 5, 2) := by decide +kernel
theorem dX12_habit_34 : decode cX12_habit 34 = .ok (.aload_n 0, 1) := by decide +kernel
theorem dX12_habit_35 : decode cX12_habit 35 = .ok (.getfield 152, 3) := by decide +kernel
theorem dX12_habit_38 : decode cX12_habit 38 = .ok (.if_icmp .ge 82, 3) := by decide +kernel
theorem dX12_habit_41 : decode cX12_habit 41 = .ok (.aload_n 0, 1) := by decide +kernel
theorem dX12_habit_42 : decode cX12_habit 42 = .ok (.iload_n 1, 1) := by decide +kernel
theorem dX12_habit_43 : decode cX12_habit 43 = .ok (.iload 5, 2) := by decide +kernel
theorem dX12_habit_45 : decode cX12_habit 45 = .ok (.iload_n 2, 1) := by decide +kernel
theorem dX12_habit_46 : decode cX12_habit 46 = .ok (.invokevirtual 341, 3) := by decide +kernel
theorem dX12_habit_49 : decode cX12_habit 49 = .ok (.istore 6, 2) := by decide +kernel
theorem dX12_habit_51 : decode cX12_habit 51 = .ok (.iconst 0, 1) := by decide +kernel
theorem dX12_habit_52 : decode cX12_habit 52 = .ok (.istore 7, 2) := by decide +kernel
theorem dX12_habit_54 : decode cX12_habit 54 = .ok (.iload 7, 2) := by decide +kernel
theorem dX12_habit_56 : decode cX12_habit 56 = .ok (.bipush 6, 2) := by decide +kernel
theorem dX12_habit_58 : decode cX12_habit 58 = .ok (.if_icmp .ge 56, 3) := by decide +kernel
theorem dX12_habit_61 : decode cX12_habit 61 = .ok (.iload 6, 2) := by decide +kernel
theorem dX12_habit_63 : decode cX12_habit 63 = .ok (.iconst (-1), 1) := by decide +kernel
theorem dX12_habit_64 : decode cX12_habit 64 = .ok (.if_icmp .eq 50, 3) := by decide +kernel
theorem dX12_habit_67 : decode cX12_habit 67 = .ok (.iload 7, 2) := by decide +kernel
theorem dX12_habit_69 : decode cX12_habit 69 = .ok (.iload_n 1, 1) := by decide +kernel
theorem dX12_habit_70 : decode cX12_habit 70 = .ok (.if_icmp .ne 7, 3) := by decide +kernel
theorem dX12_habit_73 : decode cX12_habit 73 = .ok (.iconst (-1), 1) := by decide +kernel
theorem dX12_habit_74 : decode cX12_habit 74 = .ok (.goto 12, 3) := by decide +kernel
theorem dX12_habit_77 : decode cX12_habit 77 = .ok (.aload_n 0, 1) := by decide +kernel
theorem dX12_habit_78 : decode cX12_habit 78 = .ok (.iload 7, 2) := by decide +kernel
theorem dX12_habit_80 : decode cX12_habit 80 = .ok (.iload 5, 2) := by decide +kernel
theorem dX12_habit_82 : decode cX12_habit 82 = .ok (.iload_n 2, 1) := by decide +kernel
theorem dX12_habit_83 : decode cX12_habit 83 = .ok (.invokevirtual 341, 3) := by decide +kernel
theorem dX12_habit_86 : decode cX12_habit 86 = .ok (.istore 8, 2) := by decide +kernel
theorem dX12_habit_88 : decode cX12_habit 88 = .ok (.iload 8, 2) := by decide +kernel
theorem dX12_habit_90 : decode cX12_habit 90 = .ok (.iconst (-1), 1) := by decide +kernel
theorem dX12_habit_91 : decode cX12_habit 91 = .ok (.if_icmp .ne 6, 3) := by decide +kernel
theorem dX12_habit_94 : decode cX12_habit 94 = .ok (.goto 14, 3) := by decide +kernel
theorem dX12_habit_97 : decode cX12_habit 97 = .ok (.iload_n 3, 1) := by decide +kernel
theorem dX12_habit_98 : decode cX12_habit 98 = .ok (.iload 6, 2) := by decide +kernel
theorem dX12_habit_100 : decode cX12_habit 100 = .ok (.iload 8, 2) := by decide +kernel
theorem dX12_habit_102 : decode cX12_habit 102 = .ok (.isub, 1) := by decide +kernel
theorem dX12_habit_103 : decode cX12_habit 103 = .ok (.iadd, 1) := by decide +kernel
theorem dX12_habit_104 : decode cX12_habit 104 = .ok (.istore_n 3, 1) := by decide +kernel
theorem dX12_habit_105 : decode cX12_habit 105 = .ok (.iinc 4 1, 3) := by decide +kernel
theorem dX12_habit_108 : decode cX12_habit 108 = .ok (.iinc 7 1, 3) := by decide +kernel
theorem dX12_habit_111 : decode cX12_habit 111 = .ok (.goto (-57), 3) := by decide +kernel
theorem dX12_habit_114 : decode cX12_habit 114 = .ok (.iinc 5 1, 3) := by decide +kernel
theorem dX12_habit_117 : decode cX12_habit 117 = .ok (.goto (-85), 3) := by decide +kernel
theorem dX12_habit_120 : decode cX12_habit 120 = .ok (.iload 4, 2) := by decide +kernel
theorem dX12_habit_122 : decode cX12_habit 122 = .ok (.ifCond .ne 7, 3) := by decide +kernel
theorem dX12_habit_125 : decode cX12_habit 125 = .ok (.iconst 0, 1) := by decide +kernel
theorem dX12_habit_126 : decode cX12_habit 126 = .ok (.goto 11, 3) := by decide +kernel
theorem dX12_habit_129 : decode cX12_habit 129 = .ok (.sipush 1000, 3) := by decide +kernel
theorem dX12_habit_132 : decode cX12_habit 132 = .ok (.iload_n 3, 1) := by decide +kernel
theorem dX12_habit_133 : decode cX12_habit 133 = .ok (.imul, 1) := by decide +kernel
theorem dX12_habit_134 : decode cX12_habit 134 = .ok (.iload 4, 2) := by decide +kernel
theorem dX12_habit_136 : decode cX12_habit 136 = .ok (.idiv, 1) := by decide +kernel
theorem dX12_habit_137 : decode cX12_habit 137 = .ok (.ireturn, 1) := by decide +kernel
theorem dX12_happen_0 : decode cX12_happen 0 = .ok (.aload_n 0, 1) := by decide +kernel
theorem dX12_happen_1 : decode cX12_happen 1 = .ok (.iconst 0, 1) := by decide +kernel
theorem dX12_happen_2 : decode cX12_happen 2 = .ok (.putfield 138, 3) := by decide +kernel
theorem dX12_happen_5 : decode cX12_happen 5 = .ok (.aload_n 0, 1) := by decide +kernel
theorem dX12_happen_6 : decode cX12_happen 6 = .ok (.getfield 329, 3) := by decide +kernel
theorem dX12_happen_9 : decode cX12_happen 9 = .ok (.bipush 100, 2) := by decide +kernel
theorem dX12_happen_11 : decode cX12_happen 11 = .ok (.if_icmp .eq 27, 3) := by decide +kernel
theorem dX12_happen_14 : decode cX12_happen 14 = .ok (.iload_n 1, 1) := by decide +kernel
theorem dX12_happen_15 : decode cX12_happen 15 = .ok (.iconst 0, 1) := by decide +kernel
theorem dX12_happen_16 : decode cX12_happen 16 = .ok (.bipush 7, 2) := by decide +kernel
theorem dX12_happen_18 : decode cX12_happen 18 = .ok (.invokestatic 145, 3) := by decide +kernel
theorem dX12_happen_21 : decode cX12_happen 21 = .ok (.ifCond .eq 17, 3) := by decide +kernel
theorem dX12_happen_24 : decode cX12_happen 24 = .ok (.iload_n 2, 1) := by decide +kernel
theorem dX12_happen_25 : decode cX12_happen 25 = .ok (.invokestatic 175, 3) := by decide +kernel
theorem dX12_happen_28 : decode cX12_happen 28 = .ok (.ifCond .eq 10, 3) := by decide +kernel
theorem dX12_happen_31 : decode cX12_happen 31 = .ok (.iload_n 3, 1) := by decide +kernel
theorem dX12_happen_32 : decode cX12_happen 32 = .ok (.invokestatic 168, 3) := by decide +kernel
theorem dX12_happen_35 : decode cX12_happen 35 = .ok (.ifCond .ne 5, 3) := by decide +kernel
theorem dX12_happen_38 : decode cX12_happen 38 = .ok (.iconst 0, 1) := by decide +kernel
theorem dX12_happen_39 : decode cX12_happen 39 = .ok (.ireturn, 1) := by decide +kernel
theorem dX12_happen_40 : decode cX12_happen 40 = .ok (.aload_n 0, 1) := by decide +kernel
theorem dX12_happen_41 : decode cX12_happen 41 = .ok (.getfield 74, 3) := by decide +kernel
theorem dX12_happen_44 : decode cX12_happen 44 = .ok (.aload_n 0, 1) := by decide +kernel
theorem dX12_happen_45 : decode cX12_happen 45 = .ok (.getfield 329, 3) := by decide +kernel
theorem dX12_happen_48 : decode cX12_happen 48 = .ok (.iload_n 1, 1) := by decide +kernel
theorem dX12_happen_49 : decode cX12_happen 49 = .ok (.iastore, 1) := by decide +kernel
theorem dX12_happen_50 : decode cX12_happen 50 = .ok (.aload_n 0, 1) := by decide +kernel
theorem dX12_happen_51 : decode cX12_happen 51 = .ok (.getfield 77, 3) := by decide +kernel
theorem dX12_happen_54 : decode cX12_happen 54 = .ok (.aload_n 0, 1) := by decide +kernel
theorem dX12_happen_55 : decode cX12_happen 55 = .ok (.getfield 329, 3) := by decide +kernel
theorem dX12_happen_58 : decode cX12_happen 58 = .ok (.iload_n 2, 1) := by decide +kernel
theorem dX12_happen_59 : decode cX12_happen 59 = .ok (.iastore, 1) := by decide +kernel
theorem dX12_happen_60 : decode cX12_happen 60 = .ok (.aload_n 0, 1) := by decide +kernel
theorem dX12_happen_61 : decode cX12_happen 61 = .ok (.getfield 80, 3) := by decide +kernel
theorem dX12_happen_64 : decode cX12_happen 64 = .ok (.aload_n 0, 1) := by decide +kernel
theorem dX12_happen_65 : decode cX12_happen 65 = .ok (.getfield 329, 3) := by decide +kernel
theorem dX12_happen_68 : decode cX12_happen 68 = .ok (.iload_n 3, 1) := by decide +kernel
theorem dX12_happen_69 : decode cX12_happen 69 = .ok (.iastore, 1) := by decide +kernel
theorem dX12_happen_70 : decode cX12_happen 70 = .ok (.aload_n 0, 1) := by decide +kernel
theorem dX12_happen_71 : decode cX12_happen 71 = .ok (.getfield 86, 3) := by decide +kernel
theorem dX12_happen_74 : decode cX12_happen 74 = .ok (.aload_n 0, 1) := by decide +kernel
theorem dX12_happen_75 : decode cX12_happen 75 = .ok (.getfield 329, 3) := by decide +kernel
theorem dX12_happen_78 : decode cX12_happen 78 = .ok (.iload 4, 2) := by decide +kernel
theorem dX12_happen_80 : decode cX12_happen 80 = .ok (.bastore, 1) := by decide +kernel
theorem dX12_happen_81 : decode cX12_happen 81 = .ok (.aload_n 0, 1) := by decide +kernel
theorem dX12_happen_82 : decode cX12_happen 82 = .ok (.getfield 83, 3) := by decide +kernel
theorem dX12_happen_85 : decode cX12_happen 85 = .ok (.aload_n 0, 1) := by decide +kernel
theorem dX12_happen_86 : decode cX12_happen 86 = .ok (.getfield 329, 3) := by decide +kernel
theorem dX12_happen_89 : decode cX12_happen 89 = .ok (.aload_n 0, 1) := by decide +kernel
theorem dX12_happen_90 : decode cX12_happen 90 = .ok (.getfield 142, 3) := by decide +kernel
theorem dX12_happen_93 : decode cX12_happen 93 = .ok (.iastore, 1) := by decide +kernel
theorem dX12_happen_94 : decode cX12_happen 94 = .ok (.aload_n 0, 1) := by decide +kernel
theorem dX12_happen_95 : decode cX12_happen 95 = .ok (.dup, 1) := by decide +kernel
theorem dX12_happen_96 : decode cX12_happen 96 = .ok (.getfield 329, 3) := by decide +kernel
theorem dX12_happen_99 : decode cX12_happen 99 = .ok (.iconst 1, 1) := by decide +kernel
theorem dX12_happen_100 : decode cX12_happen 100 = .ok (.iadd, 1) := by decide +kernel
theorem dX12_happen_101 : decode cX12_happen 101 = .ok (.putfield 329, 3) := by decide +kernel
theorem dX12_happen_104 : decode cX12_happen 104 = .ok (.iconst 1, 1) := by decide +kernel
theorem dX12_happen_105 : decode cX12_happen 105 = .ok (.ireturn, 1) := by decide +kernel
theorem dX12_hide_0 : decode cX12_hide 0 = .ok (.aload_n 0, 1) := by decide +kernel
theorem dX12_hide_1 : decode cX12_hide 1 = .ok (.iconst 0, 1) := by decide +kernel
theorem dX12_hide_2 : decode cX12_hide 2 = .ok (.putfield 138, 3) := by decide +kernel
theorem dX12_hide_5 : decode cX12_hide 5 = .ok (.iload_n 1, 1) := by decide +kernel
theorem dX12_hide_6 : decode cX12_hide 6 = .ok (.iconst 1, 1) := by decide +kernel
theorem dX12_hide_7 : decode cX12_hide 7 = .ok (.if_icmp .ge 5, 3) := by decide +kernel
theorem dX12_hide_10 : decode cX12_hide 10 = .ok (.iconst (-1), 1) := by decide +kernel
theorem dX12_hide_11 : decode cX12_hide 11 = .ok (.ireturn, 1) := by decide +kernel
theorem dX12_hide_12 : decode cX12_hide 12 = .ok (.iconst (-1), 1) := by decide +kernel
theorem dX12_hide_13 : decode cX12_hide 13 = .ok (.istore_n 2, 1) := by decide +kernel
theorem dX12_hide_14 : decode cX12_hide 14 = .ok (.iconst 0, 1) := by decide +kernel
theorem dX12_hide_15 : decode cX12_hide 15 = .ok (.istore_n 3, 1) := by decide +kernel
theorem dX12_hide_16 : decode cX12_hide 16 = .ok (.iload_n 3, 1) := by decide +kernel
theorem dX12_hide_17 : decode cX12_hide 17 = .ok (.bipush 8, 2) := by decide +kernel
theorem dX12_hide_19 : decode cX12_hide 19 = .ok (.if_icmp .ge 81, 3) := by decide +kernel
theorem dX12_hide_22 : decode cX12_hide 22 = .ok (.iconst 1, 1) := by decide +kernel
theorem dX12_hide_23 : decode cX12_hide 23 = .ok (.istore 4, 2) := by decide +kernel
theorem dX12_hide_25 : decode cX12_hide 25 = .ok (.iconst 0, 1) := by decide +kernel
theorem dX12_hide_26 : decode cX12_hide 26 = .ok (.istore 5, 2) := by decide +kernel
theorem dX12_hide_28 : decode cX12_hide 28 = .ok (.iload 5, 2) := by decide +kernel
theorem dX12_hide_30 : decode cX12_hide 30 = .ok (.aload_n 0, 1) := by decide +kernel
theorem dX12_hide_31 : decode cX12_hide 31 = .ok (.getfield 149, 3) := by decide +kernel
theorem dX12_hide_34 : decode cX12_hide 34 = .ok (.if_icmp .ge 37, 3) := by decide +kernel
theorem dX12_hide_37 : decode cX12_hide 37 = .ok (.iload 4, 2) := by decide +kernel
theorem dX12_hide_39 : decode cX12_hide 39 = .ok (.ifCond .eq 23, 3) := by decide +kernel
theorem dX12_hide_42 : decode cX12_hide 42 = .ok (.aload_n 0, 1) := by decide +kernel
theorem dX12_hide_43 : decode cX12_hide 43 = .ok (.iload 5, 2) := by decide +kernel
theorem dX12_hide_45 : decode cX12_hide 45 = .ok (.bipush 7, 2) := by decide +kernel
theorem dX12_hide_47 : decode cX12_hide 47 = .ok (.iload_n 3, 1) := by decide +kernel
theorem dX12_hide_48 : decode cX12_hide 48 = .ok (.iconst (-1), 1) := by decide +kernel
theorem dX12_hide_49 : decode cX12_hide 49 = .ok (.ixor, 1) := by decide +kernel
theorem dX12_hide_50 : decode cX12_hide 50 = .ok (.iand, 1) := by decide +kernel
theorem dX12_hide_51 : decode cX12_hide 51 = .ok (.invokevirtual 385, 3) := by decide +kernel
theorem dX12_hide_54 : decode cX12_hide 54 = .ok (.iload_n 1, 1) := by decide +kernel
theorem dX12_hide_55 : decode cX12_hide 55 = .ok (.if_icmp .lt 7, 3) := by decide +kernel
theorem dX12_hide_58 : decode cX12_hide 58 = .ok (.iconst 1, 1) := by decide +kernel
theorem dX12_hide_59 : decode cX12_hide 59 = .ok (.goto 4, 3) := by decide +kernel
theorem dX12_hide_62 : decode cX12_hide 62 = .ok (.iconst 0, 1) := by decide +kernel
theorem dX12_hide_63 : decode cX12_hide 63 = .ok (.istore 4, 2) := by decide +kernel
theorem dX12_hide_65 : decode cX12_hide 65 = .ok (.iinc 5 1, 3) := by decide +kernel
theorem dX12_hide_68 : decode cX12_hide 68 = .ok (.goto (-40), 3) := by decide +kernel
theorem dX12_hide_71 : decode cX12_hide 71 = .ok (.iload 4, 2) := by decide +kernel
theorem dX12_hide_73 : decode cX12_hide 73 = .ok (.ifCond .eq 21, 3) := by decide +kernel
theorem dX12_hide_76 : decode cX12_hide 76 = .ok (.iload_n 2, 1) := by decide +kernel
theorem dX12_hide_77 : decode cX12_hide 77 = .ok (.iconst (-1), 1) := by decide +kernel
theorem dX12_hide_78 : decode cX12_hide 78 = .ok (.if_icmp .eq 14, 3) := by decide +kernel
theorem dX12_hide_81 : decode cX12_hide 81 = .ok (.iload_n 3, 1) := by decide +kernel
theorem dX12_hide_82 : decode cX12_hide 82 = .ok (.invokestatic 388, 3) := by decide +kernel
theorem dX12_hide_85 : decode cX12_hide 85 = .ok (.iload_n 2, 1) := by decide +kernel
theorem dX12_hide_86 : decode cX12_hide 86 = .ok (.invokestatic 388, 3) := by decide +kernel
theorem dX12_hide_89 : decode cX12_hide 89 = .ok (.if_icmp .ge 5, 3) := by decide +kernel
theorem dX12_hide_92 : decode cX12_hide 92 = .ok (.iload_n 3, 1) := by decide +kernel
theorem dX12_hide_93 : decode cX12_hide 93 = .ok (.istore_n 2, 1) := by decide +kernel
theorem dX12_hide_94 : decode cX12_hide 94 = .ok (.iinc 3 1, 3) := by decide +kernel
theorem dX12_hide_97 : decode cX12_hide 97 = .ok (.goto (-81), 3) := by decide +kernel
theorem dX12_hide_100 : decode cX12_hide 100 = .ok (.iload_n 2, 1) := by decide +kernel
theorem dX12_hide_101 : decode cX12_hide 101 = .ok (.ireturn, 1) := by decide +kernel
theorem dX12_isDay_0 : decode cX12_isDay 0 = .ok (.iload_n 0, 1) := by decide +kernel
theorem dX12_isDay_1 : decode cX12_isDay 1 = .ok (.iconst 0, 1) := by decide +kernel
theorem dX12_isDay_2 : decode cX12_isDay 2 = .ok (.sipush 1000, 3) := by decide +kernel
theorem dX12_isDay_5 : decode cX12_isDay 5 = .ok (.invokestatic 145, 3) := by decide +kernel
theorem dX12_isDay_8 : decode cX12_isDay 8 = .ok (.ireturn, 1) := by decide +kernel
theorem dX12_isIn_0 : decode cX12_isIn 0 = .ok (.iload_n 0, 1) := by decide +kernel
theorem dX12_isIn_1 : decode cX12_isIn 1 = .ok (.iload_n 1, 1) := by decide +kernel
theorem dX12_isIn_2 : decode cX12_isIn 2 = .ok (.if_icmp .lt 12, 3) := by decide +kernel
theorem dX12_isIn_5 : decode cX12_isIn 5 = .ok (.iload_n 0, 1) := by decide +kernel
theorem dX12_isIn_6 : decode cX12_isIn 6 = .ok (.iload_n 2, 1) := by decide +kernel
theorem dX12_isIn_7 : decode cX12_isIn 7 = .ok (.if_icmp .gt 7, 3) := by decide +kernel
theorem dX12_isIn_10 : decode cX12_isIn 10 = .ok (.iconst 1, 1) := by decide +kernel
theorem dX12_isIn_11 : decode cX12_isIn 11 = .ok (.goto 4, 3) := by decide +kernel
theorem dX12_isIn_14 : decode cX12_isIn 14 = .ok (.iconst 0, 1) := by decide +kernel
theorem dX12_isIn_15 : decode cX12_isIn 15 = .ok (.ireturn, 1) := by decide +kernel
theorem dX12_isKnown_0 : decode cX12_isKnown 0 = .ok (.iload_n 1, 1) := by decide +kernel
theorem dX12_isKnown_1 : decode cX12_isKnown 1 = .ok (.iconst 0, 1) := by decide +kernel
theorem dX12_isKnown_2 : decode cX12_isKnown 2 = .ok (.aload_n 0, 1) := by decide +kernel
theorem dX12_isKnown_3 : decode cX12_isKnown 3 = .ok (.getfield 142, 3) := by decide +kernel
theorem dX12_isKnown_6 : decode cX12_isKnown 6 = .ok (.invokestatic 145, 3) := by decide +kernel
theorem dX12_isKnown_9 : decode cX12_isKnown 9 = .ok (.ireturn, 1) := by decide +kernel
theorem dX12_isLine_0 : decode cX12_isLine 0 = .ok (.iload_n 1, 1) := by decide +kernel
theorem dX12_isLine_1 : decode cX12_isLine 1 = .ok (.ifCond .lt 15, 3) := by decide +kernel
theorem dX12_isLine_4 : decode cX12_isLine 4 = .ok (.iload_n 1, 1) := by decide +kernel
theorem dX12_isLine_5 : decode cX12_isLine 5 = .ok (.aload_n 0, 1) := by decide +kernel
theorem dX12_isLine_6 : decode cX12_isLine 6 = .ok (.getfield 152, 3) := by decide +kernel
theorem dX12_isLine_9 : decode cX12_isLine 9 = .ok (.if_icmp .ge 7, 3) := by decide +kernel
theorem dX12_isLine_12 : decode cX12_isLine 12 = .ok (.iconst 1, 1) := by decide +kernel
theorem dX12_isLine_13 : decode cX12_isLine 13 = .ok (.goto 4, 3) := by decide +kernel
theorem dX12_isLine_16 : decode cX12_isLine 16 = .ok (.iconst 0, 1) := by decide +kernel
theorem dX12_isLine_17 : decode cX12_isLine 17 = .ok (.ireturn, 1) := by decide +kernel
theorem dX12_isLineBy_0 : decode cX12_isLineBy 0 = .ok (.aload_n 0, 1) := by decide +kernel
theorem dX12_isLineBy_1 : decode cX12_isLineBy 1 = .ok (.iload_n 1, 1) := by decide +kernel
theorem dX12_isLineBy_2 : decode cX12_isLineBy 2 = .ok (.invokevirtual 155, 3) := by decide +kernel
theorem dX12_isLineBy_5 : decode cX12_isLineBy 5 = .ok (.ifCond .eq 25, 3) := by decide +kernel
theorem dX12_isLineBy_8 : decode cX12_isLineBy 8 = .ok (.aload_n 0, 1) := by decide +kernel
theorem dX12_isLineBy_9 : decode cX12_isLineBy 9 = .ok (.iload_n 2, 1) := by decide +kernel
theorem dX12_isLineBy_10 : decode cX12_isLineBy 10 = .ok (.invokevirtual 159, 3) := by decide +kernel
theorem dX12_isLineBy_13 : decode cX12_isLineBy 13 = .ok (.ifCond .eq 17, 3) := by decide +kernel
theorem dX12_isLineBy_16 : decode cX12_isLineBy 16 = .ok (.aload_n 0, 1) := by decide +kernel
theorem dX12_isLineBy_17 : decode cX12_isLineBy 17 = .ok (.getfield 46, 3) := by decide +kernel
theorem dX12_isLineBy_20 : decode cX12_isLineBy 20 = .ok (.iload_n 1, 1) := by decide +kernel
theorem dX12_isLineBy_21 : decode cX12_isLineBy 21 = .ok (.iaload, 1) := by decide +kernel
theorem dX12_isLineBy_22 : decode cX12_isLineBy 22 = .ok (.iload_n 2, 1) := by decide +kernel
theorem dX12_isLineBy_23 : decode cX12_isLineBy 23 = .ok (.if_icmp .gt 7, 3) := by decide +kernel
theorem dX12_isLineBy_26 : decode cX12_isLineBy 26 = .ok (.iconst 1, 1) := by decide +kernel
theorem dX12_isLineBy_27 : decode cX12_isLineBy 27 = .ok (.goto 4, 3) := by decide +kernel
theorem dX12_isLineBy_30 : decode cX12_isLineBy 30 = .ok (.iconst 0, 1) := by decide +kernel
theorem dX12_isLineBy_31 : decode cX12_isLineBy 31 = .ok (.ireturn, 1) := by decide +kernel
theorem dX12_isPerson_0 : decode cX12_isPerson 0 = .ok (.iload_n 1, 1) := by decide +kernel
theorem dX12_isPerson_1 : decode cX12_isPerson 1 = .ok (.ifCond .lt 15, 3) := by decide +kernel
theorem dX12_isPerson_4 : decode cX12_isPerson 4 = .ok (.iload_n 1, 1) := by decide +kernel
theorem dX12_isPerson_5 : decode cX12_isPerson 5 = .ok (.aload_n 0, 1) := by decide +kernel
theorem dX12_isPerson_6 : decode cX12_isPerson 6 = .ok (.getfield 149, 3) := by decide +kernel
theorem dX12_isPerson_9 : decode cX12_isPerson 9 = .ok (.if_icmp .ge 7, 3) := by decide +kernel
theorem dX12_isPerson_12 : decode cX12_isPerson 12 = .ok (.iconst 1, 1) := by decide +kernel
theorem dX12_isPerson_13 : decode cX12_isPerson 13 = .ok (.goto 4, 3) := by decide +kernel
theorem dX12_isPerson_16 : decode cX12_isPerson 16 = .ok (.iconst 0, 1) := by decide +kernel
theorem dX12_isPerson_17 : decode cX12_isPerson 17 = .ok (.ireturn, 1) := by decide +kernel
theorem dX12_isReader_0 : decode cX12_isReader 0 = .ok (.iload_n 0, 1) := by decide +kernel
theorem dX12_isReader_1 : decode cX12_isReader 1 = .ok (.iconst 0, 1) := by decide +kernel
theorem dX12_isReader_2 : decode cX12_isReader 2 = .ok (.iconst 5, 1) := by decide +kernel
theorem dX12_isReader_3 : decode cX12_isReader 3 = .ok (.invokestatic 145, 3) := by decide +kernel
theorem dX12_isReader_6 : decode cX12_isReader 6 = .ok (.ireturn, 1) := by decide +kernel
theorem dX12_isSort_0 : decode cX12_isSort 0 = .ok (.iload_n 0, 1) := by decide +kernel
theorem dX12_isSort_1 : decode cX12_isSort 1 = .ok (.iconst 0, 1) := by decide +kernel
theorem dX12_isSort_2 : decode cX12_isSort 2 = .ok (.bipush 9, 2) := by decide +kernel
theorem dX12_isSort_4 : decode cX12_isSort 4 = .ok (.invokestatic 145, 3) := by decide +kernel
theorem dX12_isSort_7 : decode cX12_isSort 7 = .ok (.ireturn, 1) := by decide +kernel
theorem dX12_isStopped_0 : decode cX12_isStopped 0 = .ok (.aload_n 0, 1) := by decide +kernel
theorem dX12_isStopped_1 : decode cX12_isStopped 1 = .ok (.iload_n 1, 1) := by decide +kernel
theorem dX12_isStopped_2 : decode cX12_isStopped 2 = .ok (.iload_n 2, 1) := by decide +kernel
theorem dX12_isStopped_3 : decode cX12_isStopped 3 = .ok (.invokevirtual 171, 3) := by decide +kernel
theorem dX12_isStopped_6 : decode cX12_isStopped 6 = .ok (.istore_n 3, 1) := by decide +kernel
theorem dX12_isStopped_7 : decode cX12_isStopped 7 = .ok (.iload_n 3, 1) := by decide +kernel
theorem dX12_isStopped_8 : decode cX12_isStopped 8 = .ok (.iconst (-1), 1) := by decide +kernel
theorem dX12_isStopped_9 : decode cX12_isStopped 9 = .ok (.if_icmp .eq 12, 3) := by decide +kernel
theorem dX12_isStopped_12 : decode cX12_isStopped 12 = .ok (.iload_n 3, 1) := by decide +kernel
theorem dX12_isStopped_13 : decode cX12_isStopped 13 = .ok (.iload_n 2, 1) := by decide +kernel
theorem dX12_isStopped_14 : decode cX12_isStopped 14 = .ok (.if_icmp .gt 7, 3) := by decide +kernel
theorem dX12_isStopped_17 : decode cX12_isStopped 17 = .ok (.iconst 1, 1) := by decide +kernel
theorem dX12_isStopped_18 : decode cX12_isStopped 18 = .ok (.goto 4, 3) := by decide +kernel
theorem dX12_isStopped_21 : decode cX12_isStopped 21 = .ok (.iconst 0, 1) := by decide +kernel
theorem dX12_isStopped_22 : decode cX12_isStopped 22 = .ok (.ireturn, 1) := by decide +kernel
theorem dX12_judge_0 : decode cX12_judge 0 = .ok (.aload_n 0, 1) := by decide +kernel
theorem dX12_judge_1 : decode cX12_judge 1 = .ok (.iconst 0, 1) := by decide +kernel
theorem dX12_judge_2 : decode cX12_judge 2 = .ok (.putfield 138, 3) := by decide +kernel
theorem dX12_judge_5 : decode cX12_judge 5 = .ok (.iload_n 1, 1) := by decide +kernel
theorem dX12_judge_6 : decode cX12_judge 6 = .ok (.ifCond .lt 24, 3) := by decide +kernel
theorem dX12_judge_9 : decode cX12_judge 9 = .ok (.iload_n 1, 1) := by decide +kernel
theorem dX12_judge_10 : decode cX12_judge 10 = .ok (.iconst 1, 1) := by decide +kernel
theorem dX12_judge_11 : decode cX12_judge 11 = .ok (.aload_n 0, 1) := by decide +kernel
theorem dX12_judge_12 : decode cX12_judge 12 = .ok (.getfield 393, 3) := by decide +kernel
theorem dX12_judge_15 : decode cX12_judge 15 = .ok (.ishl, 1) := by decide +kernel
theorem dX12_judge_16 : decode cX12_judge 16 = .ok (.if_icmp .ge 14, 3) := by decide +kernel
theorem dX12_judge_19 : decode cX12_judge 19 = .ok (.iload_n 2, 1) := by decide +kernel
theorem dX12_judge_20 : decode cX12_judge 20 = .ok (.iconst 0, 1) := by decide +kernel
theorem dX12_judge_21 : decode cX12_judge 21 = .ok (.sipush 400, 3) := by decide +kernel
theorem dX12_judge_24 : decode cX12_judge 24 = .ok (.invokestatic 145, 3) := by decide +kernel
theorem dX12_judge_27 : decode cX12_judge 27 = .ok (.ifCond .ne 6, 3) := by decide +kernel
theorem dX12_judge_30 : decode cX12_judge 30 = .ok (.bipush (-2), 2) := by decide +kernel
theorem dX12_judge_32 : decode cX12_judge 32 = .ok (.ireturn, 1) := by decide +kernel
theorem dX12_judge_33 : decode cX12_judge 33 = .ok (.aload_n 0, 1) := by decide +kernel
theorem dX12_judge_34 : decode cX12_judge 34 = .ok (.iload_n 1, 1) := by decide +kernel
theorem dX12_judge_35 : decode cX12_judge 35 = .ok (.invokevirtual 396, 3) := by decide +kernel
theorem dX12_judge_38 : decode cX12_judge 38 = .ok (.iload_n 2, 1) := by decide +kernel
theorem dX12_judge_39 : decode cX12_judge 39 = .ok (.if_icmp .le 7, 3) := by decide +kernel
theorem dX12_judge_42 : decode cX12_judge 42 = .ok (.iconst (-1), 1) := by decide +kernel
theorem dX12_judge_43 : decode cX12_judge 43 = .ok (.goto 8, 3) := by decide +kernel
theorem dX12_judge_46 : decode cX12_judge 46 = .ok (.aload_n 0, 1) := by decide +kernel
theorem dX12_judge_47 : decode cX12_judge 47 = .ok (.iload_n 1, 1) := by decide +kernel
theorem dX12_judge_48 : decode cX12_judge 48 = .ok (.invokevirtual 399, 3) := by decide +kernel
theorem dX12_judge_51 : decode cX12_judge 51 = .ok (.ireturn, 1) := by decide +kernel
theorem dX12_land_0 : decode cX12_land 0 = .ok (.aload_n 0, 1) := by decide +kernel
theorem dX12_land_1 : decode cX12_land 1 = .ok (.iconst 0, 1) := by decide +kernel
theorem dX12_land_2 : decode cX12_land 2 = .ok (.putfield 138, 3) := by decide +kernel
theorem dX12_land_5 : decode cX12_land 5 = .ok (.iload_n 1, 1) := by decide +kernel
theorem dX12_land_6 : decode cX12_land 6 = .ok (.iconst 0, 1) := by decide +kernel
theorem dX12_land_7 : decode cX12_land 7 = .ok (.bipush 7, 2) := by decide +kernel
theorem dX12_land_9 : decode cX12_land 9 = .ok (.invokestatic 145, 3) := by decide +kernel
theorem dX12_land_12 : decode cX12_land 12 = .ok (.ifCond .eq 23, 3) := by decide +kernel
theorem dX12_land_15 : decode cX12_land 15 = .ok (.iload_n 2, 1) := by decide +kernel
theorem dX12_land_16 : decode cX12_land 16 = .ok (.iconst 0, 1) := by decide +kernel
theorem dX12_land_17 : decode cX12_land 17 = .ok (.iconst 3, 1) := by decide +kernel
theorem dX12_land_18 : decode cX12_land 18 = .ok (.invokestatic 145, 3) := by decide +kernel
theorem dX12_land_21 : decode cX12_land 21 = .ok (.ifCond .eq 14, 3) := by decide +kernel
theorem dX12_land_24 : decode cX12_land 24 = .ok (.iload_n 3, 1) := by decide +kernel
theorem dX12_land_25 : decode cX12_land 25 = .ok (.iconst 0, 1) := by decide +kernel
theorem dX12_land_26 : decode cX12_land 26 = .ok (.sipush 9999, 3) := by decide +kernel
theorem dX12_land_29 : decode cX12_land 29 = .ok (.invokestatic 145, 3) := by decide +kernel
theorem dX12_land_32 : decode cX12_land 32 = .ok (.ifCond .ne 5, 3) := by decide +kernel
theorem dX12_land_35 : decode cX12_land 35 = .ok (.iconst 0, 1) := by decide +kernel
theorem dX12_land_36 : decode cX12_land 36 = .ok (.ireturn, 1) := by decide +kernel
theorem dX12_land_37 : decode cX12_land 37 = .ok (.aload_n 0, 1) := by decide +kernel
theorem dX12_land_38 : decode cX12_land 38 = .ok (.getfield 105, 3) := by decide +kernel
theorem dX12_land_41 : decode cX12_land 41 = .ok (.iconst 4, 1) := by decide +kernel
theorem dX12_land_42 : decode cX12_land 42 = .ok (.iload_n 1, 1) := by decide +kernel
theorem dX12_land_43 : decode cX12_land 43 = .ok (.imul, 1) := by decide +kernel
theorem dX12_land_44 : decode cX12_land 44 = .ok (.iload_n 2, 1) := by decide +kernel
theorem dX12_land_45 : decode cX12_land 45 = .ok (.iadd, 1) := by decide +kernel
theorem dX12_land_46 : decode cX12_land 46 = .ok (.iload_n 3, 1) := by decide +kernel
theorem dX12_land_47 : decode cX12_land 47 = .ok (.iastore, 1) := by decide +kernel
theorem dX12_land_48 : decode cX12_land 48 = .ok (.iconst 1, 1) := by decide +kernel
theorem dX12_land_49 : decode cX12_land 49 = .ok (.ireturn, 1) := by decide +kernel
theorem dX12_last_0 : decode cX12_last 0 = .ok (.aload_n 0, 1) := by decide +kernel
theorem dX12_last_1 : decode cX12_last 1 = .ok (.iconst 0, 1) := by decide +kernel
theorem dX12_last_2 : decode cX12_last 2 = .ok (.putfield 138, 3) := by decide +kernel
theorem dX12_last_5 : decode cX12_last 5 = .ok (.aload_n 0, 1) := by decide +kernel
theorem dX12_last_6 : decode cX12_last 6 = .ok (.iload_n 1, 1) := by decide +kernel
theorem dX12_last_7 : decode cX12_last 7 = .ok (.invokevirtual 165, 3) := by decide +kernel
theorem dX12_last_10 : decode cX12_last 10 = .ok (.ifCond .eq 20, 3) := by decide +kernel
theorem dX12_last_13 : decode cX12_last 13 = .ok (.aload_n 0, 1) := by decide +kernel
theorem dX12_last_14 : decode cX12_last 14 = .ok (.iload_n 2, 1) := by decide +kernel
theorem dX12_last_15 : decode cX12_last 15 = .ok (.invokevirtual 159, 3) := by decide +kernel
theorem dX12_last_18 : decode cX12_last 18 = .ok (.ifCond .eq 12, 3) := by decide +kernel
theorem dX12_last_21 : decode cX12_last 21 = .ok (.aload_n 0, 1) := by decide +kernel
theorem dX12_last_22 : decode cX12_last 22 = .ok (.iload_n 1, 1) := by decide +kernel
theorem dX12_last_23 : decode cX12_last 23 = .ok (.iload_n 2, 1) := by decide +kernel
theorem dX12_last_24 : decode cX12_last 24 = .ok (.invokevirtual 363, 3) := by decide +kernel
theorem dX12_last_27 : decode cX12_last 27 = .ok (.goto 4, 3) := by decide +kernel
theorem dX12_last_30 : decode cX12_last 30 = .ok (.iconst (-1), 1) := by decide +kernel
theorem dX12_last_31 : decode cX12_last 31 = .ok (.ireturn, 1) := by decide +kernel
theorem dX12_lastOf_0 : decode cX12_lastOf 0 = .ok (.iconst (-1), 1) := by decide +kernel
theorem dX12_lastOf_1 : decode cX12_lastOf 1 = .ok (.istore_n 3, 1) := by decide +kernel
theorem dX12_lastOf_2 : decode cX12_lastOf 2 = .ok (.iconst 0, 1) := by decide +kernel
theorem dX12_lastOf_3 : decode cX12_lastOf 3 = .ok (.istore 4, 2) := by decide +kernel
theorem dX12_lastOf_5 : decode cX12_lastOf 5 = .ok (.iload 4, 2) := by decide +kernel
theorem dX12_lastOf_7 : decode cX12_lastOf 7 = .ok (.aload_n 0, 1) := by decide +kernel
theorem dX12_lastOf_8 : decode cX12_lastOf 8 = .ok (.getfield 152, 3) := by decide +kernel
theorem dX12_lastOf_11 : decode cX12_lastOf 11 = .ok (.if_icmp .ge 55, 3) := by decide +kernel
theorem dX12_lastOf_14 : decode cX12_lastOf 14 = .ok (.aload_n 0, 1) := by decide +kernel
theorem dX12_lastOf_15 : decode cX12_lastOf 15 = .ok (.getfield 28, 3) := by decide +kernel
theorem dX12_lastOf_18 : decode cX12_lastOf 18 = .ok (.iload 4, 2) := by decide +kernel
theorem dX12_lastOf_20 : decode cX12_lastOf 20 = .ok (.iaload, 1) := by decide +kernel
theorem dX12_lastOf_21 : decode cX12_lastOf 21 = .ok (.iload_n 1, 1) := by decide +kernel
theorem dX12_lastOf_22 : decode cX12_lastOf 22 = .ok (.if_icmp .ne 38, 3) := by decide +kernel
theorem dX12_lastOf_25 : decode cX12_lastOf 25 = .ok (.aload_n 0, 1) := by decide +kernel
theorem dX12_lastOf_26 : decode cX12_lastOf 26 = .ok (.getfield 46, 3) := by decide +kernel
theorem dX12_lastOf_29 : decode cX12_lastOf 29 = .ok (.iload 4, 2) := by decide +kernel
theorem dX12_lastOf_31 : decode cX12_lastOf 31 = .ok (.iaload, 1) := by decide +kernel
theorem dX12_lastOf_32 : decode cX12_lastOf 32 = .ok (.iload_n 2, 1) := by decide +kernel
theorem dX12_lastOf_33 : decode cX12_lastOf 33 = .ok (.if_icmp .gt 27, 3) := by decide +kernel
theorem dX12_lastOf_36 : decode cX12_lastOf 36 = .ok (.iload_n 3, 1) := by decide +kernel
theorem dX12_lastOf_37 : decode cX12_lastOf 37 = .ok (.iconst (-1), 1) := by decide +kernel
theorem dX12_lastOf_38 : decode cX12_lastOf 38 = .ok (.if_icmp .eq 19, 3) := by decide +kernel
theorem dX12_lastOf_41 : decode cX12_lastOf 41 = .ok (.aload_n 0, 1) := by decide +kernel
theorem dX12_lastOf_42 : decode cX12_lastOf 42 = .ok (.getfield 31, 3) := by decide +kernel
theorem dX12_lastOf_45 : decode cX12_lastOf 45 = .ok (.iload 4, 2) := by decide +kernel
theorem dX12_lastOf_47 : decode cX12_lastOf 47 = .ok (.iaload, 1) := by decide +kernel
theorem dX12_lastOf_48 : decode cX12_lastOf 48 = .ok (.aload_n 0, 1) := by decide +kernel
theorem dX12_lastOf_49 : decode cX12_lastOf 49 = .ok (.getfield 31, 3) := by decide +kernel
theorem dX12_lastOf_52 : decode cX12_lastOf 52 = .ok (.iload_n 3, 1) := by decide +kernel
theorem dX12_lastOf_53 : decode cX12_lastOf 53 = .ok (.iaload, 1) := by decide +kernel
theorem dX12_lastOf_54 : decode cX12_lastOf 54 = .ok (.if_icmp .lt 6, 3) := by decide +kernel
theorem dX12_lastOf_57 : decode cX12_lastOf 57 = .ok (.iload 4, 2) := by decide +kernel
theorem dX12_lastOf_59 : decode cX12_lastOf 59 = .ok (.istore_n 3, 1) := by decide +kernel
theorem dX12_lastOf_60 : decode cX12_lastOf 60 = .ok (.iinc 4 1, 3) := by decide +kernel
theorem dX12_lastOf_63 : decode cX12_lastOf 63 = .ok (.goto (-58), 3) := by decide +kernel
theorem dX12_lastOf_66 : decode cX12_lastOf 66 = .ok (.iload_n 3, 1) := by decide +kernel
theorem dX12_lastOf_67 : decode cX12_lastOf 67 = .ok (.ireturn, 1) := by decide +kernel
theorem dX12_lean_0 : decode cX12_lean 0 = .ok (.aload_n 0, 1) := by decide +kernel
theorem dX12_lean_1 : decode cX12_lean 1 = .ok (.iconst 0, 1) := by decide +kernel
theorem dX12_lean_2 : decode cX12_lean 2 = .ok (.putfield 138, 3) := by decide +kernel
theorem dX12_lean_5 : decode cX12_lean 5 = .ok (.iload_n 1, 1) := by decide +kernel
theorem dX12_lean_6 : decode cX12_lean 6 = .ok (.invokestatic 168, 3) := by decide +kernel
theorem dX12_lean_9 : decode cX12_lean 9 = .ok (.ifCond .eq 11, 3) := by decide +kernel
theorem dX12_lean_12 : decode cX12_lean 12 = .ok (.aload_n 0, 1) := by decide +kernel
theorem dX12_lean_13 : decode cX12_lean 13 = .ok (.iload_n 2, 1) := by decide +kernel
theorem dX12_lean_14 : decode cX12_lean 14 = .ok (.invokevirtual 159, 3) := by decide +kernel
theorem dX12_lean_17 : decode cX12_lean 17 = .ok (.ifCond .ne 7, 3) := by decide +kernel
theorem dX12_lean_20 : decode cX12_lean 20 = .ok (.ldc_w 344, 3) := by decide +kernel
theorem dX12_lean_23 : decode cX12_lean 23 = .ok (.ireturn, 1) := by decide +kernel
theorem dX12_lean_24 : decode cX12_lean 24 = .ok (.iconst 0, 1) := by decide +kernel
theorem dX12_lean_25 : decode cX12_lean 25 = .ok (.istore_n 3, 1) := by decide +kernel
theorem dX12_lean_26 : decode cX12_lean 26 = .ok (.iconst 0, 1) := by decide +kernel
theorem dX12_lean_27 : decode cX12_lean 27 = .ok (.istore 4, 2) := by decide +kernel
theorem dX12_lean_29 : decode cX12_lean 29 = .ok (.iconst 0, 1) := by decide +kernel
theorem dX12_lean_30 : decode cX12_lean 30 = .ok (.istore 5, 2) := by decide +kernel
theorem dX12_lean_32 : decode cX12_lean 32 = .ok (.iconst 0, 1) := by decide +kernel
theorem dX12_lean_33 : decode cX12_lean 33 = .ok (.istore 6, 2) := by decide +kernel
theorem dX12_lean_35 : decode cX12_lean 35 = .ok (.iconst 0, 1) := by decide +kernel
theorem dX12_lean_36 : decode cX12_lean 36 = .ok (.istore 7, 2) := by decide +kernel
theorem dX12_lean_38 : decode cX12_lean 38 = .ok (.iload 7, 2) := by decide +kernel
theorem dX12_lean_40 : decode cX12_lean 40 = .ok (.aload_n 0, 1) := by decide +kernel
theorem dX12_lean_41 : decode cX12_lean 41 = .ok (.getfield 149, 3) := by decide +kernel
theorem dX12_lean_44 : decode cX12_lean 44 = .ok (.if_icmp .ge 78, 3) := by decide +kernel
theorem dX12_lean_47 : decode cX12_lean 47 = .ok (.aload_n 0, 1) := by decide +kernel
theorem dX12_lean_48 : decode cX12_lean 48 = .ok (.iload 7, 2) := by decide +kernel
theorem dX12_lean_50 : decode cX12_lean 50 = .ok (.iload_n 2, 1) := by decide +kernel
theorem dX12_lean_51 : decode cX12_lean 51 = .ok (.invokevirtual 363, 3) := by decide +kernel
theorem dX12_lean_54 : decode cX12_lean 54 = .ok (.istore 8, 2) := by decide +kernel
theorem dX12_lean_56 : decode cX12_lean 56 = .ok (.iload 8, 2) := by decide +kernel
theorem dX12_lean_58 : decode cX12_lean 58 = .ok (.iconst (-1), 1) := by decide +kernel
theorem dX12_lean_59 : decode cX12_lean 59 = .ok (.if_icmp .ne 6, 3) := by decide +kernel
theorem dX12_lean_62 : decode cX12_lean 62 = .ok (.goto 54, 3) := by decide +kernel
theorem dX12_lean_65 : decode cX12_lean 65 = .ok (.aload_n 0, 1) := by decide +kernel
theorem dX12_lean_66 : decode cX12_lean 66 = .ok (.getfield 34, 3) := by decide +kernel
theorem dX12_lean_69 : decode cX12_lean 69 = .ok (.iload 8, 2) := by decide +kernel
theorem dX12_lean_71 : decode cX12_lean 71 = .ok (.iaload, 1) := by decide +kernel
theorem dX12_lean_72 : decode cX12_lean 72 = .ok (.iload_n 1, 1) := by decide +kernel
theorem dX12_lean_73 : decode cX12_lean 73 = .ok (.if_icmp .ne 7, 3) := by decide +kernel
theorem dX12_lean_76 : decode cX12_lean 76 = .ok (.iconst 1, 1) := by decide +kernel
theorem dX12_lean_77 : decode cX12_lean 77 = .ok (.goto 4, 3) := by decide +kernel
theorem dX12_lean_80 : decode cX12_lean 80 = .ok (.iconst 0, 1) := by decide +kernel
theorem dX12_lean_81 : decode cX12_lean 81 = .ok (.istore 9, 2) := by decide +kernel
theorem dX12_lean_83 : decode cX12_lean 83 = .ok (.aload_n 0, 1) := by decide +kernel
theorem dX12_lean_84 : decode cX12_lean 84 = .ok (.iload 7, 2) := by decide +kernel
theorem dX12_lean_86 : decode cX12_lean 86 = .ok (.iload_n 2, 1) := by decide +kernel
theorem dX12_lean_87 : decode cX12_lean 87 = .ok (.invokevirtual 366, 3) := by decide +kernel
theorem dX12_lean_90 : decode cX12_lean 90 = .ok (.ifCond .eq 16, 3) := by decide +kernel
theorem dX12_lean_93 : decode cX12_lean 93 = .ok (.iinc 3 1, 3) := by decide +kernel
theorem dX12_lean_96 : decode cX12_lean 96 = .ok (.iload 4, 2) := by decide +kernel
theorem dX12_lean_98 : decode cX12_lean 98 = .ok (.iload 9, 2) := by decide +kernel
theorem dX12_lean_100 : decode cX12_lean 100 = .ok (.iadd, 1) := by decide +kernel
theorem dX12_lean_101 : decode cX12_lean 101 = .ok (.istore 4, 2) := by decide +kernel
theorem dX12_lean_103 : decode cX12_lean 103 = .ok (.goto 13, 3) := by decide +kernel
theorem dX12_lean_106 : decode cX12_lean 106 = .ok (.iinc 5 1, 3) := by decide +kernel
theorem dX12_lean_109 : decode cX12_lean 109 = .ok (.iload 6, 2) := by decide +kernel
theorem dX12_lean_111 : decode cX12_lean 111 = .ok (.iload 9, 2) := by decide +kernel
theorem dX12_lean_113 : decode cX12_lean 113 = .ok (.iadd, 1) := by decide +kernel
theorem dX12_lean_114 : decode cX12_lean 114 = .ok (.istore 6, 2) := by decide +kernel
theorem dX12_lean_116 : decode cX12_lean 116 = .ok (.iinc 7 1, 3) := by decide +kernel
theorem dX12_lean_119 : decode cX12_lean 119 = .ok (.goto (-81), 3) := by decide +kernel
theorem dX12_lean_122 : decode cX12_lean 122 = .ok (.iload_n 3, 1) := by decide +kernel
theorem dX12_lean_123 : decode cX12_lean 123 = .ok (.ifCond .eq 8, 3) := by decide +kernel
theorem dX12_lean_126 : decode cX12_lean 126 = .ok (.iload 5, 2) := by decide +kernel
theorem dX12_lean_128 : decode cX12_lean 128 = .ok (.ifCond .ne 9, 3) := by decide +kernel
theorem dX12_lean_131 : decode cX12_lean 131 = .ok (.ldc_w 344, 3) := by decide +kernel
theorem dX12_lean_134 : decode cX12_lean 134 = .ok (.goto 21, 3) := by decide +kernel
theorem dX12_lean_137 : decode cX12_lean 137 = .ok (.sipush 1000, 3) := by decide +kernel
theorem dX12_lean_140 : decode cX12_lean 140 = .ok (.iload 4, 2) := by decide +kernel
theorem dX12_lean_142 : decode cX12_lean 142 = .ok (.imul, 1) := by decide +kernel
theorem dX12_lean_143 : decode cX12_lean 143 = .ok (.iload_n 3, 1) := by decide +kernel
theorem dX12_lean_144 : decode cX12_lean 144 = .ok (.idiv, 1) := by decide +kernel
theorem dX12_lean_145 : decode cX12_lean 145 = .ok (.sipush 1000, 3) := by decide +kernel
theorem dX12_lean_148 : decode cX12_lean 148 = .ok (.iload 6, 2) := by decide +kernel
theorem dX12_lean_150 : decode cX12_lean 150 = .ok (.imul, 1) := by decide +kernel
theorem dX12_lean_151 : decode cX12_lean 151 = .ok (.iload 5, 2) := by decide +kernel
theorem dX12_lean_153 : decode cX12_lean 153 = .ok (.idiv, 1) := by decide +kernel
theorem dX12_lean_154 : decode cX12_lean 154 = .ok (.isub, 1) := by decide +kernel
theorem dX12_lean_155 : decode cX12_lean 155 = .ok (.ireturn, 1) := by decide +kernel
theorem dX12_line_0 : decode cX12_line 0 = .ok (.aload_n 0, 1) := by decide +kernel
theorem dX12_line_1 : decode cX12_line 1 = .ok (.iconst 0, 1) := by decide +kernel
theorem dX12_line_2 : decode cX12_line 2 = .ok (.putfield 138, 3) := by decide +kernel
theorem dX12_line_5 : decode cX12_line 5 = .ok (.aload_n 0, 1) := by decide +kernel
theorem dX12_line_6 : decode cX12_line 6 = .ok (.getfield 152, 3) := by decide +kernel
theorem dX12_line_9 : decode cX12_line 9 = .ok (.sipush 200, 3) := by decide +kernel
theorem dX12_line_12 : decode cX12_line 12 = .ok (.if_icmp .eq 53, 3) := by decide +kernel
theorem dX12_line_15 : decode cX12_line 15 = .ok (.aload_n 0, 1) := by decide +kernel
theorem dX12_line_16 : decode cX12_line 16 = .ok (.iload_n 1, 1) := by decide +kernel
theorem dX12_line_17 : decode cX12_line 17 = .ok (.invokevirtual 165, 3) := by decide +kernel
theorem dX12_line_20 : decode cX12_line 20 = .ok (.ifCond .eq 45, 3) := by decide +kernel
theorem dX12_line_23 : decode cX12_line 23 = .ok (.iload_n 2, 1) := by decide +kernel
theorem dX12_line_24 : decode cX12_line 24 = .ok (.iconst 0, 1) := by decide +kernel
theorem dX12_line_25 : decode cX12_line 25 = .ok (.aload_n 0, 1) := by decide +kernel
theorem dX12_line_26 : decode cX12_line 26 = .ok (.getfield 142, 3) := by decide +kernel
theorem dX12_line_29 : decode cX12_line 29 = .ok (.invokestatic 145, 3) := by decide +kernel
theorem dX12_line_32 : decode cX12_line 32 = .ok (.ifCond .eq 33, 3) := by decide +kernel
theorem dX12_line_35 : decode cX12_line 35 = .ok (.iload_n 3, 1) := by decide +kernel
theorem dX12_line_36 : decode cX12_line 36 = .ok (.invokestatic 168, 3) := by decide +kernel
theorem dX12_line_39 : decode cX12_line 39 = .ok (.ifCond .eq 26, 3) := by decide +kernel
theorem dX12_line_42 : decode cX12_line 42 = .ok (.iload 4, 2) := by decide +kernel
theorem dX12_line_44 : decode cX12_line 44 = .ok (.bipush (-9), 2) := by decide +kernel
theorem dX12_line_46 : decode cX12_line 46 = .ok (.bipush 9, 2) := by decide +kernel
theorem dX12_line_48 : decode cX12_line 48 = .ok (.invokestatic 145, 3) := by decide +kernel
theorem dX12_line_51 : decode cX12_line 51 = .ok (.ifCond .eq 14, 3) := by decide +kernel
theorem dX12_line_54 : decode cX12_line 54 = .ok (.iload 5, 2) := by decide +kernel
theorem dX12_line_56 : decode cX12_line 56 = .ok (.iconst (-1), 1) := by decide +kernel
theorem dX12_line_57 : decode cX12_line 57 = .ok (.bipush 29, 2) := by decide +kernel
theorem dX12_line_59 : decode cX12_line 59 = .ok (.invokestatic 145, 3) := by decide +kernel
theorem dX12_line_62 : decode cX12_line 62 = .ok (.ifCond .ne 5, 3) := by decide +kernel
theorem dX12_line_65 : decode cX12_line 65 = .ok (.iconst (-1), 1) := by decide +kernel
theorem dX12_line_66 : decode cX12_line 66 = .ok (.ireturn, 1) := by decide +kernel
theorem dX12_line_67 : decode cX12_line 67 = .ok (.iload 6, 2) := by decide +kernel
theorem dX12_line_69 : decode cX12_line 69 = .ok (.iconst (-1), 1) := by decide +kernel
theorem dX12_line_70 : decode cX12_line 70 = .ok (.if_icmp .eq 26, 3) := by decide +kernel
theorem dX12_line_73 : decode cX12_line 73 = .ok (.aload_n 0, 1) := by decide +kernel
theorem dX12_line_74 : decode cX12_line 74 = .ok (.iload 6, 2) := by decide +kernel
theorem dX12_line_76 : decode cX12_line 76 = .ok (.invokevirtual 165, 3) := by decide +kernel
theorem dX12_line_79 : decode cX12_line 79 = .ok (.ifCond .eq 15, 3) := by decide +kernel
theorem dX12_line_82 : decode cX12_line 82 = .ok (.iload 6, 2) := by decide +kernel
theorem dX12_line_84 : decode cX12_line 84 = .ok (.iload_n 1, 1) := by decide +kernel
theorem dX12_line_85 : decode cX12_line 85 = .ok (.if_icmp .eq 9, 3) := by decide +kernel
theorem dX12_line_88 : decode cX12_line 88 = .ok (.iload 5, 2) := by decide +kernel
theorem dX12_line_90 : decode cX12_line 90 = .ok (.iconst (-1), 1) := by decide +kernel
theorem dX12_line_91 : decode cX12_line 91 = .ok (.if_icmp .ne 5, 3) := by decide +kernel
theorem dX12_line_94 : decode cX12_line 94 = .ok (.iconst (-1), 1) := by decide +kernel
theorem dX12_line_95 : decode cX12_line 95 = .ok (.ireturn, 1) := by decide +kernel
theorem dX12_line_96 : decode cX12_line 96 = .ok (.aload_n 0, 1) := by decide +kernel
theorem dX12_line_97 : decode cX12_line 97 = .ok (.iload_n 1, 1) := by decide +kernel
theorem dX12_line_98 : decode cX12_line 98 = .ok (.aload_n 0, 1) := by decide +kernel
theorem dX12_line_99 : decode cX12_line 99 = .ok (.getfield 142, 3) := by decide +kernel
theorem dX12_line_102 : decode cX12_line 102 = .ok (.invokevirtual 171, 3) := by decide +kernel
theorem dX12_line_105 : decode cX12_line 105 = .ok (.istore 7, 2) := by decide +kernel
theorem dX12_line_107 : decode cX12_line 107 = .ok (.iload 7, 2) := by decide +kernel
theorem dX12_line_109 : decode cX12_line 109 = .ok (.iconst (-1), 1) := by decide +kernel
theorem dX12_line_110 : decode cX12_line 110 = .ok (.if_icmp .eq 11, 3) := by decide +kernel
theorem dX12_line_113 : decode cX12_line 113 = .ok (.iload 7, 2) := by decide +kernel
theorem dX12_line_115 : decode cX12_line 115 = .ok (.iload_n 2, 1) := by decide +kernel
theorem dX12_line_116 : decode cX12_line 116 = .ok (.if_icmp .gt 5, 3) := by decide +kernel
theorem dX12_line_119 : decode cX12_line 119 = .ok (.iconst (-1), 1) := by decide +kernel
theorem dX12_line_120 : decode cX12_line 120 = .ok (.ireturn, 1) := by decide +kernel
theorem dX12_line_121 : decode cX12_line 121 = .ok (.aload_n 0, 1) := by decide +kernel
theorem dX12_line_122 : decode cX12_line 122 = .ok (.getfield 28, 3) := by decide +kernel
theorem dX12_line_125 : decode cX12_line 125 = .ok (.aload_n 0, 1) := by decide +kernel
theorem dX12_line_126 : decode cX12_line 126 = .ok (.getfield 152, 3) := by decide +kernel
theorem dX12_line_129 : decode cX12_line 129 = .ok (.iload_n 1, 1) := by decide +kernel
theorem dX12_line_130 : decode cX12_line 130 = .ok (.iastore, 1) := by decide +kernel
theorem dX12_line_131 : decode cX12_line 131 = .ok (.aload_n 0, 1) := by decide +kernel
theorem dX12_line_132 : decode cX12_line 132 = .ok (.getfield 31, 3) := by decide +kernel
theorem dX12_line_135 : decode cX12_line 135 = .ok (.aload_n 0, 1) := by decide +kernel
theorem dX12_line_136 : decode cX12_line 136 = .ok (.getfield 152, 3) := by decide +kernel
theorem dX12_line_139 : decode cX12_line 139 = .ok (.iload_n 2, 1) := by decide +kernel
theorem dX12_line_140 : decode cX12_line 140 = .ok (.iastore, 1) := by decide +kernel
theorem dX12_line_141 : decode cX12_line 141 = .ok (.aload_n 0, 1) := by decide +kernel
theorem dX12_line_142 : decode cX12_line 142 = .ok (.getfield 34, 3) := by decide +kernel
theorem dX12_line_145 : decode cX12_line 145 = .ok (.aload_n 0, 1) := by decide +kernel
theorem dX12_line_146 : decode cX12_line 146 = .ok (.getfield 152, 3) := by decide +kernel
theorem dX12_line_149 : decode cX12_line 149 = .ok (.iload_n 3, 1) := by decide +kernel
theorem dX12_line_150 : decode cX12_line 150 = .ok (.iastore, 1) := by decide +kernel
theorem dX12_line_151 : decode cX12_line 151 = .ok (.aload_n 0, 1) := by decide +kernel
theorem dX12_line_152 : decode cX12_line 152 = .ok (.getfield 37, 3) := by decide +kernel
theorem dX12_line_155 : decode cX12_line 155 = .ok (.aload_n 0, 1) := by decide +kernel
theorem dX12_line_156 : decode cX12_line 156 = .ok (.getfield 152, 3) := by decide +kernel
theorem dX12_line_159 : decode cX12_line 159 = .ok (.iload 4, 2) := by decide +kernel
theorem dX12_line_161 : decode cX12_line 161 = .ok (.iastore, 1) := by decide +kernel
theorem dX12_line_162 : decode cX12_line 162 = .ok (.aload_n 0, 1) := by decide +kernel
theorem dX12_line_163 : decode cX12_line 163 = .ok (.getfield 40, 3) := by decide +kernel
theorem dX12_line_166 : decode cX12_line 166 = .ok (.aload_n 0, 1) := by decide +kernel
theorem dX12_line_167 : decode cX12_line 167 = .ok (.getfield 152, 3) := by decide +kernel
theorem dX12_line_170 : decode cX12_line 170 = .ok (.iload 5, 2) := by decide +kernel
theorem dX12_line_172 : decode cX12_line 172 = .ok (.iastore, 1) := by decide +kernel
theorem dX12_line_173 : decode cX12_line 173 = .ok (.aload_n 0, 1) := by decide +kernel
theorem dX12_line_174 : decode cX12_line 174 = .ok (.getfield 43, 3) := by decide +kernel
theorem dX12_line_177 : decode cX12_line 177 = .ok (.aload_n 0, 1) := by decide +kernel
theorem dX12_line_178 : decode cX12_line 178 = .ok (.getfield 152, 3) := by decide +kernel
theorem dX12_line_181 : decode cX12_line 181 = .ok (.iload 6, 2) := by decide +kernel
theorem dX12_line_183 : decode cX12_line 183 = .ok (.iastore, 1) := by decide +kernel
theorem dX12_line_184 : decode cX12_line 184 = .ok (.aload_n 0, 1) := by decide +kernel
theorem dX12_line_185 : decode cX12_line 185 = .ok (.getfield 46, 3) := by decide +kernel
theorem dX12_line_188 : decode cX12_line 188 = .ok (.aload_n 0, 1) := by decide +kernel
theorem dX12_line_189 : decode cX12_line 189 = .ok (.getfield 152, 3) := by decide +kernel
theorem dX12_line_192 : decode cX12_line 192 = .ok (.aload_n 0, 1) := by decide +kernel
theorem dX12_line_193 : decode cX12_line 193 = .ok (.getfield 142, 3) := by decide +kernel
theorem dX12_line_196 : decode cX12_line 196 = .ok (.iastore, 1) := by decide +kernel
theorem dX12_line_197 : decode cX12_line 197 = .ok (.aload_n 0, 1) := by decide +kernel
theorem dX12_line_198 : decode cX12_line 198 = .ok (.dup, 1) := by decide +kernel
theorem dX12_line_199 : decode cX12_line 199 = .ok (.getfield 152, 3) := by decide +kernel
theorem dX12_line_202 : decode cX12_line 202 = .ok (.iconst 1, 1) := by decide +kernel
theorem dX12_line_203 : decode cX12_line 203 = .ok (.iadd, 1) := by decide +kernel
theorem dX12_line_204 : decode cX12_line 204 = .ok (.putfield 152, 3) := by decide +kernel
theorem dX12_line_207 : decode cX12_line 207 = .ok (.aload_n 0, 1) := by decide +kernel
theorem dX12_line_208 : decode cX12_line 208 = .ok (.getfield 152, 3) := by decide +kernel
theorem dX12_line_211 : decode cX12_line 211 = .ok (.iconst 1, 1) := by decide +kernel
theorem dX12_line_212 : decode cX12_line 212 = .ok (.isub, 1) := by decide +kernel
theorem dX12_line_213 : decode cX12_line 213 = .ok (.ireturn, 1) := by decide +kernel
theorem dX12_mark_0 : decode cX12_mark 0 = .ok (.aload_n 0, 1) := by decide +kernel
theorem dX12_mark_1 : decode cX12_mark 1 = .ok (.iconst 0, 1) := by decide +kernel
theorem dX12_mark_2 : decode cX12_mark 2 = .ok (.putfield 138, 3) := by decide +kernel
theorem dX12_mark_5 : decode cX12_mark 5 = .ok (.aload_n 0, 1) := by decide +kernel
theorem dX12_mark_6 : decode cX12_mark 6 = .ok (.getfield 335, 3) := by decide +kernel
theorem dX12_mark_9 : decode cX12_mark 9 = .ok (.sipush 200, 3) := by decide +kernel
theorem dX12_mark_12 : decode cX12_mark 12 = .ok (.if_icmp .eq 28, 3) := by decide +kernel
theorem dX12_mark_15 : decode cX12_mark 15 = .ok (.iload_n 1, 1) := by decide +kernel
theorem dX12_mark_16 : decode cX12_mark 16 = .ok (.invokestatic 338, 3) := by decide +kernel
theorem dX12_mark_19 : decode cX12_mark 19 = .ok (.ifCond .eq 21, 3) := by decide +kernel
theorem dX12_mark_22 : decode cX12_mark 22 = .ok (.aload_n 0, 1) := by decide +kernel
theorem dX12_mark_23 : decode cX12_mark 23 = .ok (.iload_n 2, 1) := by decide +kernel
theorem dX12_mark_24 : decode cX12_mark 24 = .ok (.invokevirtual 155, 3) := by decide +kernel
theorem dX12_mark_27 : decode cX12_mark 27 = .ok (.ifCond .eq 13, 3) := by decide +kernel
theorem dX12_mark_30 : decode cX12_mark 30 = .ok (.iload_n 3, 1) := by decide +kernel
theorem dX12_mark_31 : decode cX12_mark 31 = .ok (.iconst 0, 1) := by decide +kernel
theorem dX12_mark_32 : decode cX12_mark 32 = .ok (.bipush 9, 2) := by decide +kernel
theorem dX12_mark_34 : decode cX12_mark 34 = .ok (.invokestatic 145, 3) := by decide +kernel
theorem dX12_mark_37 : decode cX12_mark 37 = .ok (.ifCond .ne 5, 3) := by decide +kernel
theorem dX12_mark_40 : decode cX12_mark 40 = .ok (.iconst 0, 1) := by decide +kernel
theorem dX12_mark_41 : decode cX12_mark 41 = .ok (.ireturn, 1) := by decide +kernel
theorem dX12_mark_42 : decode cX12_mark 42 = .ok (.aload_n 0, 1) := by decide +kernel
theorem dX12_mark_43 : decode cX12_mark 43 = .ok (.getfield 93, 3) := by decide +kernel
theorem dX12_mark_46 : decode cX12_mark 46 = .ok (.aload_n 0, 1) := by decide +kernel
theorem dX12_mark_47 : decode cX12_mark 47 = .ok (.getfield 335, 3) := by decide +kernel
theorem dX12_mark_50 : decode cX12_mark 50 = .ok (.iload_n 1, 1) := by decide +kernel
theorem dX12_mark_51 : decode cX12_mark 51 = .ok (.iastore, 1) := by decide +kernel
theorem dX12_mark_52 : decode cX12_mark 52 = .ok (.aload_n 0, 1) := by decide +kernel
theorem dX12_mark_53 : decode cX12_mark 53 = .ok (.getfield 96, 3) := by decide +kernel
theorem dX12_mark_56 : decode cX12_mark 56 = .ok (.aload_n 0, 1) := by decide +kernel
theorem dX12_mark_57 : decode cX12_mark 57 = .ok (.getfield 335, 3) := by decide +kernel
theorem dX12_mark_60 : decode cX12_mark 60 = .ok (.iload_n 2, 1) := by decide +kernel
theorem dX12_mark_61 : decode cX12_mark 61 = .ok (.iastore, 1) := by decide +kernel
theorem dX12_mark_62 : decode cX12_mark 62 = .ok (.aload_n 0, 1) := by decide +kernel
theorem dX12_mark_63 : decode cX12_mark 63 = .ok (.getfield 99, 3) := by decide +kernel
theorem dX12_mark_66 : decode cX12_mark 66 = .ok (.aload_n 0, 1) := by decide +kernel
theorem dX12_mark_67 : decode cX12_mark 67 = .ok (.getfield 335, 3) := by decide +kernel
theorem dX12_mark_70 : decode cX12_mark 70 = .ok (.iload_n 3, 1) := by decide +kernel
theorem dX12_mark_71 : decode cX12_mark 71 = .ok (.iastore, 1) := by decide +kernel
theorem dX12_mark_72 : decode cX12_mark 72 = .ok (.aload_n 0, 1) := by decide +kernel
theorem dX12_mark_73 : decode cX12_mark 73 = .ok (.getfield 102, 3) := by decide +kernel
theorem dX12_mark_76 : decode cX12_mark 76 = .ok (.aload_n 0, 1) := by decide +kernel
theorem dX12_mark_77 : decode cX12_mark 77 = .ok (.getfield 335, 3) := by decide +kernel
theorem dX12_mark_80 : decode cX12_mark 80 = .ok (.aload_n 0, 1) := by decide +kernel
theorem dX12_mark_81 : decode cX12_mark 81 = .ok (.getfield 142, 3) := by decide +kernel
theorem dX12_mark_84 : decode cX12_mark 84 = .ok (.iastore, 1) := by decide +kernel
theorem dX12_mark_85 : decode cX12_mark 85 = .ok (.aload_n 0, 1) := by decide +kernel
theorem dX12_mark_86 : decode cX12_mark 86 = .ok (.dup, 1) := by decide +kernel
theorem dX12_mark_87 : decode cX12_mark 87 = .ok (.getfield 335, 3) := by decide +kernel
theorem dX12_mark_90 : decode cX12_mark 90 = .ok (.iconst 1, 1) := by decide +kernel
theorem dX12_mark_91 : decode cX12_mark 91 = .ok (.iadd, 1) := by decide +kernel
theorem dX12_mark_92 : decode cX12_mark 92 = .ok (.putfield 335, 3) := by decide +kernel
theorem dX12_mark_95 : decode cX12_mark 95 = .ok (.iconst 1, 1) := by decide +kernel
theorem dX12_mark_96 : decode cX12_mark 96 = .ok (.ireturn, 1) := by decide +kernel
theorem dX12_markOf_0 : decode cX12_markOf 0 = .ok (.iconst (-1), 1) := by decide +kernel
theorem dX12_markOf_1 : decode cX12_markOf 1 = .ok (.istore 4, 2) := by decide +kernel
theorem dX12_markOf_3 : decode cX12_markOf 3 = .ok (.iconst 0, 1) := by decide +kernel
theorem dX12_markOf_4 : decode cX12_markOf 4 = .ok (.istore 5, 2) := by decide +kernel
theorem dX12_markOf_6 : decode cX12_markOf 6 = .ok (.iload 5, 2) := by decide +kernel
theorem dX12_markOf_8 : decode cX12_markOf 8 = .ok (.aload_n 0, 1) := by decide +kernel
theorem dX12_markOf_9 : decode cX12_markOf 9 = .ok (.getfield 335, 3) := by decide +kernel
theorem dX12_markOf_12 : decode cX12_markOf 12 = .ok (.if_icmp .ge 51, 3) := by decide +kernel
theorem dX12_markOf_15 : decode cX12_markOf 15 = .ok (.aload_n 0, 1) := by decide +kernel
theorem dX12_markOf_16 : decode cX12_markOf 16 = .ok (.getfield 93, 3) := by decide +kernel
theorem dX12_markOf_19 : decode cX12_markOf 19 = .ok (.iload 5, 2) := by decide +kernel
theorem dX12_markOf_21 : decode cX12_markOf 21 = .ok (.iaload, 1) := by decide +kernel
theorem dX12_markOf_22 : decode cX12_markOf 22 = .ok (.iload_n 1, 1) := by decide +kernel
theorem dX12_markOf_23 : decode cX12_markOf 23 = .ok (.if_icmp .ne 34, 3) := by decide +kernel
theorem dX12_markOf_26 : decode cX12_markOf 26 = .ok (.aload_n 0, 1) := by decide +kernel
theorem dX12_markOf_27 : decode cX12_markOf 27 = .ok (.getfield 96, 3) := by decide +kernel
theorem dX12_markOf_30 : decode cX12_markOf 30 = .ok (.iload 5, 2) := by decide +kernel
theorem dX12_markOf_32 : decode cX12_markOf 32 = .ok (.iaload, 1) := by decide +kernel
theorem dX12_markOf_33 : decode cX12_markOf 33 = .ok (.iload_n 2, 1) := by decide +kernel
theorem dX12_markOf_34 : decode cX12_markOf 34 = .ok (.if_icmp .ne 23, 3) := by decide +kernel
theorem dX12_markOf_37 : decode cX12_markOf 37 = .ok (.aload_n 0, 1) := by decide +kernel
theorem dX12_markOf_38 : decode cX12_markOf 38 = .ok (.getfield 102, 3) := by decide +kernel
theorem dX12_markOf_41 : decode cX12_markOf 41 = .ok (.iload 5, 2) := by decide +kernel
theorem dX12_markOf_43 : decode cX12_markOf 43 = .ok (.iaload, 1) := by decide +kernel
theorem dX12_markOf_44 : decode cX12_markOf 44 = .ok (.iload_n 3, 1) := by decide +kernel
theorem dX12_markOf_45 : decode cX12_markOf 45 = .ok (.if_icmp .gt 12, 3) := by decide +kernel
theorem dX12_markOf_48 : decode cX12_markOf 48 = .ok (.aload_n 0, 1) := by decide +kernel
theorem dX12_markOf_49 : decode cX12_markOf 49 = .ok (.getfield 99, 3) := by decide +kernel
theorem dX12_markOf_52 : decode cX12_markOf 52 = .ok (.iload 5, 2) := by decide +kernel
theorem dX12_markOf_54 : decode cX12_markOf 54 = .ok (.iaload, 1) := by decide +kernel
theorem dX12_markOf_55 : decode cX12_markOf 55 = .ok (.istore 4, 2) := by decide +kernel
theorem dX12_markOf_57 : decode cX12_markOf 57 = .ok (.iinc 5 1, 3) := by decide +kernel
theorem dX12_markOf_60 : decode cX12_markOf 60 = .ok (.goto (-54), 3) := by decide +kernel
theorem dX12_markOf_63 : decode cX12_markOf 63 = .ok (.iload 4, 2) := by decide +kernel
theorem dX12_markOf_65 : decode cX12_markOf 65 = .ok (.ireturn, 1) := by decide +kernel
theorem dX12_marked_0 : decode cX12_marked 0 = .ok (.aload_n 0, 1) := by decide +kernel
theorem dX12_marked_1 : decode cX12_marked 1 = .ok (.iconst 0, 1) := by decide +kernel
theorem dX12_marked_2 : decode cX12_marked 2 = .ok (.putfield 138, 3) := by decide +kernel
theorem dX12_marked_5 : decode cX12_marked 5 = .ok (.iload_n 1, 1) := by decide +kernel
theorem dX12_marked_6 : decode cX12_marked 6 = .ok (.invokestatic 338, 3) := by decide +kernel
theorem dX12_marked_9 : decode cX12_marked 9 = .ok (.ifCond .eq 29, 3) := by decide +kernel
theorem dX12_marked_12 : decode cX12_marked 12 = .ok (.aload_n 0, 1) := by decide +kernel
theorem dX12_marked_13 : decode cX12_marked 13 = .ok (.iload_n 2, 1) := by decide +kernel
theorem dX12_marked_14 : decode cX12_marked 14 = .ok (.invokevirtual 155, 3) := by decide +kernel
theorem dX12_marked_17 : decode cX12_marked 17 = .ok (.ifCond .eq 21, 3) := by decide +kernel
theorem dX12_marked_20 : decode cX12_marked 20 = .ok (.aload_n 0, 1) := by decide +kernel
theorem dX12_marked_21 : decode cX12_marked 21 = .ok (.iload_n 3, 1) := by decide +kernel
theorem dX12_marked_22 : decode cX12_marked 22 = .ok (.invokevirtual 159, 3) := by decide +kernel
theorem dX12_marked_25 : decode cX12_marked 25 = .ok (.ifCond .eq 13, 3) := by decide +kernel
theorem dX12_marked_28 : decode cX12_marked 28 = .ok (.aload_n 0, 1) := by decide +kernel
theorem dX12_marked_29 : decode cX12_marked 29 = .ok (.iload_n 1, 1) := by decide +kernel
theorem dX12_marked_30 : decode cX12_marked 30 = .ok (.iload_n 2, 1) := by decide +kernel
theorem dX12_marked_31 : decode cX12_marked 31 = .ok (.iload_n 3, 1) := by decide +kernel
theorem dX12_marked_32 : decode cX12_marked 32 = .ok (.invokevirtual 341, 3) := by decide +kernel
theorem dX12_marked_35 : decode cX12_marked 35 = .ok (.goto 4, 3) := by decide +kernel
theorem dX12_marked_38 : decode cX12_marked 38 = .ok (.iconst (-1), 1) := by decide +kernel
theorem dX12_marked_39 : decode cX12_marked 39 = .ok (.ireturn, 1) := by decide +kernel
theorem dX12_maySee_0 : decode cX12_maySee 0 = .ok (.aload_n 0, 1) := by decide +kernel
theorem dX12_maySee_1 : decode cX12_maySee 1 = .ok (.getfield 120, 3) := by decide +kernel
theorem dX12_maySee_4 : decode cX12_maySee 4 = .ok (.iload_n 2, 1) := by decide +kernel
theorem dX12_maySee_5 : decode cX12_maySee 5 = .ok (.iaload, 1) := by decide +kernel
theorem dX12_maySee_6 : decode cX12_maySee 6 = .ok (.aload_n 0, 1) := by decide +kernel
theorem dX12_maySee_7 : decode cX12_maySee 7 = .ok (.getfield 111, 3) := by decide +kernel
theorem dX12_maySee_10 : decode cX12_maySee 10 = .ok (.iload_n 1, 1) := by decide +kernel
theorem dX12_maySee_11 : decode cX12_maySee 11 = .ok (.iaload, 1) := by decide +kernel
theorem dX12_maySee_12 : decode cX12_maySee 12 = .ok (.aload_n 0, 1) := by decide +kernel
theorem dX12_maySee_13 : decode cX12_maySee 13 = .ok (.getfield 114, 3) := by decide +kernel
theorem dX12_maySee_16 : decode cX12_maySee 16 = .ok (.iload_n 1, 1) := by decide +kernel
theorem dX12_maySee_17 : decode cX12_maySee 17 = .ok (.iaload, 1) := by decide +kernel
theorem dX12_maySee_18 : decode cX12_maySee 18 = .ok (.invokestatic 145, 3) := by decide +kernel
theorem dX12_maySee_21 : decode cX12_maySee 21 = .ok (.ifCond .ne 5, 3) := by decide +kernel
theorem dX12_maySee_24 : decode cX12_maySee 24 = .ok (.iconst 0, 1) := by decide +kernel
theorem dX12_maySee_25 : decode cX12_maySee 25 = .ok (.ireturn, 1) := by decide +kernel
theorem dX12_maySee_26 : decode cX12_maySee 26 = .ok (.iconst 0, 1) := by decide +kernel
theorem dX12_maySee_27 : decode cX12_maySee 27 = .ok (.istore_n 3, 1) := by decide +kernel
theorem dX12_maySee_28 : decode cX12_maySee 28 = .ok (.iload_n 3, 1) := by decide +kernel
theorem dX12_maySee_29 : decode cX12_maySee 29 = .ok (.iload_n 2, 1) := by decide +kernel
theorem dX12_maySee_30 : decode cX12_maySee 30 = .ok (.if_icmp .ge 65, 3) := by decide +kernel
theorem dX12_maySee_33 : decode cX12_maySee 33 = .ok (.aload_n 0, 1) := by decide +kernel
theorem dX12_maySee_34 : decode cX12_maySee 34 = .ok (.getfield 120, 3) := by decide +kernel
theorem dX12_maySee_37 : decode cX12_maySee 37 = .ok (.iload_n 2, 1) := by decide +kernel
theorem dX12_maySee_38 : decode cX12_maySee 38 = .ok (.iaload, 1) := by decide +kernel
theorem dX12_maySee_39 : decode cX12_maySee 39 = .ok (.aload_n 0, 1) := by decide +kernel
theorem dX12_maySee_40 : decode cX12_maySee 40 = .ok (.getfield 120, 3) := by decide +kernel
theorem dX12_maySee_43 : decode cX12_maySee 43 = .ok (.iload_n 3, 1) := by decide +kernel
theorem dX12_maySee_44 : decode cX12_maySee 44 = .ok (.iaload, 1) := by decide +kernel
theorem dX12_maySee_45 : decode cX12_maySee 45 = .ok (.isub, 1) := by decide +kernel
theorem dX12_maySee_46 : decode cX12_maySee 46 = .ok (.invokestatic 323, 3) := by decide +kernel
theorem dX12_maySee_49 : decode cX12_maySee 49 = .ok (.istore 4, 2) := by decide +kernel
theorem dX12_maySee_51 : decode cX12_maySee 51 = .ok (.aload_n 0, 1) := by decide +kernel
theorem dX12_maySee_52 : decode cX12_maySee 52 = .ok (.getfield 123, 3) := by decide +kernel
theorem dX12_maySee_55 : decode cX12_maySee 55 = .ok (.iload_n 3, 1) := by decide +kernel
theorem dX12_maySee_56 : decode cX12_maySee 56 = .ok (.iaload, 1) := by decide +kernel
theorem dX12_maySee_57 : decode cX12_maySee 57 = .ok (.iload_n 1, 1) := by decide +kernel
theorem dX12_maySee_58 : decode cX12_maySee 58 = .ok (.if_icmp .ne 31, 3) := by decide +kernel
theorem dX12_maySee_61 : decode cX12_maySee 61 = .ok (.iload 4, 2) := by decide +kernel
theorem dX12_maySee_63 : decode cX12_maySee 63 = .ok (.ifCond .eq 24, 3) := by decide +kernel
theorem dX12_maySee_66 : decode cX12_maySee 66 = .ok (.iload 4, 2) := by decide +kernel
theorem dX12_maySee_68 : decode cX12_maySee 68 = .ok (.iconst 2, 1) := by decide +kernel
theorem dX12_maySee_69 : decode cX12_maySee 69 = .ok (.if_icmp .ge 20, 3) := by decide +kernel
theorem dX12_maySee_72 : decode cX12_maySee 72 = .ok (.aload_n 0, 1) := by decide +kernel
theorem dX12_maySee_73 : decode cX12_maySee 73 = .ok (.getfield 117, 3) := by decide +kernel
theorem dX12_maySee_76 : decode cX12_maySee 76 = .ok (.iload_n 2, 1) := by decide +kernel
theorem dX12_maySee_77 : decode cX12_maySee 77 = .ok (.iaload, 1) := by decide +kernel
theorem dX12_maySee_78 : decode cX12_maySee 78 = .ok (.aload_n 0, 1) := by decide +kernel
theorem dX12_maySee_79 : decode cX12_maySee 79 = .ok (.getfield 117, 3) := by decide +kernel
theorem dX12_maySee_82 : decode cX12_maySee 82 = .ok (.iload_n 3, 1) := by decide +kernel
theorem dX12_maySee_83 : decode cX12_maySee 83 = .ok (.iaload, 1) := by decide +kernel
theorem dX12_maySee_84 : decode cX12_maySee 84 = .ok (.if_icmp .eq 5, 3) := by decide +kernel
theorem dX12_maySee_87 : decode cX12_maySee 87 = .ok (.iconst 0, 1) := by decide +kernel
theorem dX12_maySee_88 : decode cX12_maySee 88 = .ok (.ireturn, 1) := by decide +kernel
theorem dX12_maySee_89 : decode cX12_maySee 89 = .ok (.iinc 3 1, 3) := by decide +kernel
theorem dX12_maySee_92 : decode cX12_maySee 92 = .ok (.goto (-64), 3) := by decide +kernel
theorem dX12_maySee_95 : decode cX12_maySee 95 = .ok (.iconst 1, 1) := by decide +kernel
theorem dX12_maySee_96 : decode cX12_maySee 96 = .ok (.ireturn, 1) := by decide +kernel
theorem dX12_mood_0 : decode cX12_mood 0 = .ok (.aload_n 0, 1) := by decide +kernel
theorem dX12_mood_1 : decode cX12_mood 1 = .ok (.iconst 0, 1) := by decide +kernel
theorem dX12_mood_2 : decode cX12_mood 2 = .ok (.putfield 138, 3) := by decide +kernel
theorem dX12_mood_5 : decode cX12_mood 5 = .ok (.iload_n 1, 1) := by decide +kernel
theorem dX12_mood_6 : decode cX12_mood 6 = .ok (.invokestatic 175, 3) := by decide +kernel
theorem dX12_mood_9 : decode cX12_mood 9 = .ok (.ifCond .eq 20, 3) := by decide +kernel
theorem dX12_mood_12 : decode cX12_mood 12 = .ok (.aload_n 0, 1) := by decide +kernel
theorem dX12_mood_13 : decode cX12_mood 13 = .ok (.iload_n 2, 1) := by decide +kernel
theorem dX12_mood_14 : decode cX12_mood 14 = .ok (.invokevirtual 159, 3) := by decide +kernel
theorem dX12_mood_17 : decode cX12_mood 17 = .ok (.ifCond .eq 12, 3) := by decide +kernel
theorem dX12_mood_20 : decode cX12_mood 20 = .ok (.iload_n 3, 1) := by decide +kernel
theorem dX12_mood_21 : decode cX12_mood 21 = .ok (.iconst 0, 1) := by decide +kernel
theorem dX12_mood_22 : decode cX12_mood 22 = .ok (.iconst 1, 1) := by decide +kernel
theorem dX12_mood_23 : decode cX12_mood 23 = .ok (.invokestatic 145, 3) := by decide +kernel
theorem dX12_mood_26 : decode cX12_mood 26 = .ok (.ifCond .ne 7, 3) := by decide +kernel
theorem dX12_mood_29 : decode cX12_mood 29 = .ok (.ldc_w 344, 3) := by decide +kernel
theorem dX12_mood_32 : decode cX12_mood 32 = .ok (.ireturn, 1) := by decide +kernel
theorem dX12_mood_33 : decode cX12_mood 33 = .ok (.iconst 0, 1) := by decide +kernel
theorem dX12_mood_34 : decode cX12_mood 34 = .ok (.istore 4, 2) := by decide +kernel
theorem dX12_mood_36 : decode cX12_mood 36 = .ok (.iconst 0, 1) := by decide +kernel
theorem dX12_mood_37 : decode cX12_mood 37 = .ok (.istore 5, 2) := by decide +kernel
theorem dX12_mood_39 : decode cX12_mood 39 = .ok (.iconst 0, 1) := by decide +kernel
theorem dX12_mood_40 : decode cX12_mood 40 = .ok (.istore 6, 2) := by decide +kernel
theorem dX12_mood_42 : decode cX12_mood 42 = .ok (.iload 6, 2) := by decide +kernel
theorem dX12_mood_44 : decode cX12_mood 44 = .ok (.aload_n 0, 1) := by decide +kernel
theorem dX12_mood_45 : decode cX12_mood 45 = .ok (.getfield 152, 3) := by decide +kernel
theorem dX12_mood_48 : decode cX12_mood 48 = .ok (.if_icmp .ge 49, 3) := by decide +kernel
theorem dX12_mood_51 : decode cX12_mood 51 = .ok (.aload_n 0, 1) := by decide +kernel
theorem dX12_mood_52 : decode cX12_mood 52 = .ok (.getfield 31, 3) := by decide +kernel
theorem dX12_mood_55 : decode cX12_mood 55 = .ok (.iload 6, 2) := by decide +kernel
theorem dX12_mood_57 : decode cX12_mood 57 = .ok (.iaload, 1) := by decide +kernel
theorem dX12_mood_58 : decode cX12_mood 58 = .ok (.iload_n 1, 1) := by decide +kernel
theorem dX12_mood_59 : decode cX12_mood 59 = .ok (.if_icmp .ne 32, 3) := by decide +kernel
theorem dX12_mood_62 : decode cX12_mood 62 = .ok (.aload_n 0, 1) := by decide +kernel
theorem dX12_mood_63 : decode cX12_mood 63 = .ok (.getfield 46, 3) := by decide +kernel
theorem dX12_mood_66 : decode cX12_mood 66 = .ok (.iload 6, 2) := by decide +kernel
theorem dX12_mood_68 : decode cX12_mood 68 = .ok (.iaload, 1) := by decide +kernel
theorem dX12_mood_69 : decode cX12_mood 69 = .ok (.iload_n 2, 1) := by decide +kernel
theorem dX12_mood_70 : decode cX12_mood 70 = .ok (.if_icmp .le 6, 3) := by decide +kernel
theorem dX12_mood_73 : decode cX12_mood 73 = .ok (.goto 18, 3) := by decide +kernel
theorem dX12_mood_76 : decode cX12_mood 76 = .ok (.iload 4, 2) := by decide +kernel
theorem dX12_mood_78 : decode cX12_mood 78 = .ok (.aload_n 0, 1) := by decide +kernel
theorem dX12_mood_79 : decode cX12_mood 79 = .ok (.getfield 37, 3) := by decide +kernel
theorem dX12_mood_82 : decode cX12_mood 82 = .ok (.iload 6, 2) := by decide +kernel
theorem dX12_mood_84 : decode cX12_mood 84 = .ok (.iaload, 1) := by decide +kernel
theorem dX12_mood_85 : decode cX12_mood 85 = .ok (.iadd, 1) := by decide +kernel
theorem dX12_mood_86 : decode cX12_mood 86 = .ok (.istore 4, 2) := by decide +kernel
theorem dX12_mood_88 : decode cX12_mood 88 = .ok (.iinc 5 1, 3) := by decide +kernel
theorem dX12_mood_91 : decode cX12_mood 91 = .ok (.iinc 6 1, 3) := by decide +kernel
theorem dX12_mood_94 : decode cX12_mood 94 = .ok (.goto (-52), 3) := by decide +kernel
theorem dX12_mood_97 : decode cX12_mood 97 = .ok (.iload_n 3, 1) := by decide +kernel
theorem dX12_mood_98 : decode cX12_mood 98 = .ok (.ifCond .ne 8, 3) := by decide +kernel
theorem dX12_mood_101 : decode cX12_mood 101 = .ok (.iload 4, 2) := by decide +kernel
theorem dX12_mood_103 : decode cX12_mood 103 = .ok (.goto 5, 3) := by decide +kernel
theorem dX12_mood_106 : decode cX12_mood 106 = .ok (.iload 5, 2) := by decide +kernel
theorem dX12_mood_108 : decode cX12_mood 108 = .ok (.ireturn, 1) := by decide +kernel
theorem dX12_people_0 : decode cX12_people 0 = .ok (.iconst 0, 1) := by decide +kernel
theorem dX12_people_1 : decode cX12_people 1 = .ok (.istore_n 1, 1) := by decide +kernel
theorem dX12_people_2 : decode cX12_people 2 = .ok (.iconst 0, 1) := by decide +kernel
theorem dX12_people_3 : decode cX12_people 3 = .ok (.istore_n 2, 1) := by decide +kernel
theorem dX12_people_4 : decode cX12_people 4 = .ok (.iload_n 2, 1) := by decide +kernel
theorem dX12_people_5 : decode cX12_people 5 = .ok (.bipush 32, 2) := by decide +kernel
theorem dX12_people_7 : decode cX12_people 7 = .ok (.if_icmp .ge 18, 3) := by decide +kernel
theorem dX12_people_10 : decode cX12_people 10 = .ok (.iload_n 1, 1) := by decide +kernel
theorem dX12_people_11 : decode cX12_people 11 = .ok (.aload_n 0, 1) := by decide +kernel
theorem dX12_people_12 : decode cX12_people 12 = .ok (.getfield 105, 3) := by decide +kernel
theorem dX12_people_15 : decode cX12_people 15 = .ok (.iload_n 2, 1) := by decide +kernel
theorem dX12_people_16 : decode cX12_people 16 = .ok (.iaload, 1) := by decide +kernel
theorem dX12_people_17 : decode cX12_people 17 = .ok (.iadd, 1) := by decide +kernel
theorem dX12_people_18 : decode cX12_people 18 = .ok (.istore_n 1, 1) := by decide +kernel
theorem dX12_people_19 : decode cX12_people 19 = .ok (.iinc 2 1, 3) := by decide +kernel
theorem dX12_people_22 : decode cX12_people 22 = .ok (.goto (-18), 3) := by decide +kernel
theorem dX12_people_25 : decode cX12_people 25 = .ok (.iload_n 1, 1) := by decide +kernel
theorem dX12_people_26 : decode cX12_people 26 = .ok (.ireturn, 1) := by decide +kernel
theorem dX12_person_0 : decode cX12_person 0 = .ok (.aload_n 0, 1) := by decide +kernel
theorem dX12_person_1 : decode cX12_person 1 = .ok (.iconst 0, 1) := by decide +kernel
theorem dX12_person_2 : decode cX12_person 2 = .ok (.putfield 138, 3) := by decide +kernel
theorem dX12_person_5 : decode cX12_person 5 = .ok (.aload_n 0, 1) := by decide +kernel
theorem dX12_person_6 : decode cX12_person 6 = .ok (.getfield 149, 3) := by decide +kernel
theorem dX12_person_9 : decode cX12_person 9 = .ok (.bipush 24, 2) := by decide +kernel
theorem dX12_person_11 : decode cX12_person 11 = .ok (.if_icmp .eq 34, 3) := by decide +kernel
theorem dX12_person_14 : decode cX12_person 14 = .ok (.iload_n 1, 1) := by decide +kernel
theorem dX12_person_15 : decode cX12_person 15 = .ok (.iconst 0, 1) := by decide +kernel
theorem dX12_person_16 : decode cX12_person 16 = .ok (.bipush 7, 2) := by decide +kernel
theorem dX12_person_18 : decode cX12_person 18 = .ok (.invokestatic 145, 3) := by decide +kernel
theorem dX12_person_21 : decode cX12_person 21 = .ok (.ifCond .eq 24, 3) := by decide +kernel
theorem dX12_person_24 : decode cX12_person 24 = .ok (.iload_n 2, 1) := by decide +kernel
theorem dX12_person_25 : decode cX12_person 25 = .ok (.bipush 10, 2) := by decide +kernel
theorem dX12_person_27 : decode cX12_person 27 = .ok (.bipush 99, 2) := by decide +kernel
theorem dX12_person_29 : decode cX12_person 29 = .ok (.invokestatic 145, 3) := by decide +kernel
theorem dX12_person_32 : decode cX12_person 32 = .ok (.ifCond .eq 13, 3) := by decide +kernel
theorem dX12_person_35 : decode cX12_person 35 = .ok (.iload_n 3, 1) := by decide +kernel
theorem dX12_person_36 : decode cX12_person 36 = .ok (.iconst 0, 1) := by decide +kernel
theorem dX12_person_37 : decode cX12_person 37 = .ok (.bipush 7, 2) := by decide +kernel
theorem dX12_person_39 : decode cX12_person 39 = .ok (.invokestatic 145, 3) := by decide +kernel
theorem dX12_person_42 : decode cX12_person 42 = .ok (.ifCond .ne 5, 3) := by decide +kernel
theorem dX12_person_45 : decode cX12_person 45 = .ok (.iconst (-1), 1) := by decide +kernel
theorem dX12_person_46 : decode cX12_person 46 = .ok (.ireturn, 1) := by decide +kernel
theorem dX12_person_47 : decode cX12_person 47 = .ok (.aload_n 0, 1) := by decide +kernel
theorem dX12_person_48 : decode cX12_person 48 = .ok (.getfield 9, 3) := by decide +kernel
theorem dX12_person_51 : decode cX12_person 51 = .ok (.aload_n 0, 1) := by decide +kernel
theorem dX12_person_52 : decode cX12_person 52 = .ok (.getfield 149, 3) := by decide +kernel
theorem dX12_person_55 : decode cX12_person 55 = .ok (.iload_n 1, 1) := by decide +kernel
theorem dX12_person_56 : decode cX12_person 56 = .ok (.iastore, 1) := by decide +kernel
theorem dX12_person_57 : decode cX12_person 57 = .ok (.aload_n 0, 1) := by decide +kernel
theorem dX12_person_58 : decode cX12_person 58 = .ok (.getfield 13, 3) := by decide +kernel
theorem dX12_person_61 : decode cX12_person 61 = .ok (.aload_n 0, 1) := by decide +kernel
theorem dX12_person_62 : decode cX12_person 62 = .ok (.getfield 149, 3) := by decide +kernel
theorem dX12_person_65 : decode cX12_person 65 = .ok (.iload_n 2, 1) := by decide +kernel
theorem dX12_person_66 : decode cX12_person 66 = .ok (.iastore, 1) := by decide +kernel
theorem dX12_person_67 : decode cX12_person 67 = .ok (.aload_n 0, 1) := by decide +kernel
theorem dX12_person_68 : decode cX12_person 68 = .ok (.getfield 16, 3) := by decide +kernel
theorem dX12_person_71 : decode cX12_person 71 = .ok (.aload_n 0, 1) := by decide +kernel
theorem dX12_person_72 : decode cX12_person 72 = .ok (.getfield 149, 3) := by decide +kernel
theorem dX12_person_75 : decode cX12_person 75 = .ok (.iload_n 3, 1) := by decide +kernel
theorem dX12_person_76 : decode cX12_person 76 = .ok (.iastore, 1) := by decide +kernel
theorem dX12_person_77 : decode cX12_person 77 = .ok (.aload_n 0, 1) := by decide +kernel
theorem dX12_person_78 : decode cX12_person 78 = .ok (.dup, 1) := by decide +kernel
theorem dX12_person_79 : decode cX12_person 79 = .ok (.getfield 149, 3) := by decide +kernel
theorem dX12_person_82 : decode cX12_person 82 = .ok (.iconst 1, 1) := by decide +kernel
theorem dX12_person_83 : decode cX12_person 83 = .ok (.iadd, 1) := by decide +kernel
theorem dX12_person_84 : decode cX12_person 84 = .ok (.putfield 149, 3) := by decide +kernel
theorem dX12_person_87 : decode cX12_person 87 = .ok (.aload_n 0, 1) := by decide +kernel
theorem dX12_person_88 : decode cX12_person 88 = .ok (.getfield 149, 3) := by decide +kernel
theorem dX12_person_91 : decode cX12_person 91 = .ok (.iconst 1, 1) := by decide +kernel
theorem dX12_person_92 : decode cX12_person 92 = .ok (.isub, 1) := by decide +kernel
theorem dX12_person_93 : decode cX12_person 93 = .ok (.ireturn, 1) := by decide +kernel
theorem dX12_priceOf_0 : decode cX12_priceOf 0 = .ok (.iconst 0, 1) := by decide +kernel
theorem dX12_priceOf_1 : decode cX12_priceOf 1 = .ok (.istore_n 2, 1) := by decide +kernel
theorem dX12_priceOf_2 : decode cX12_priceOf 2 = .ok (.iconst 0, 1) := by decide +kernel
theorem dX12_priceOf_3 : decode cX12_priceOf 3 = .ok (.istore_n 3, 1) := by decide +kernel
theorem dX12_priceOf_4 : decode cX12_priceOf 4 = .ok (.iload_n 3, 1) := by decide +kernel
theorem dX12_priceOf_5 : decode cX12_priceOf 5 = .ok (.aload_n 0, 1) := by decide +kernel
theorem dX12_priceOf_6 : decode cX12_priceOf 6 = .ok (.getfield 393, 3) := by decide +kernel
theorem dX12_priceOf_9 : decode cX12_priceOf 9 = .ok (.if_icmp .ge 31, 3) := by decide +kernel
theorem dX12_priceOf_12 : decode cX12_priceOf 12 = .ok (.iload_n 2, 1) := by decide +kernel
theorem dX12_priceOf_13 : decode cX12_priceOf 13 = .ok (.iload_n 1, 1) := by decide +kernel
theorem dX12_priceOf_14 : decode cX12_priceOf 14 = .ok (.iload_n 3, 1) := by decide +kernel
theorem dX12_priceOf_15 : decode cX12_priceOf 15 = .ok (.ishr, 1) := by decide +kernel
theorem dX12_priceOf_16 : decode cX12_priceOf 16 = .ok (.iconst 1, 1) := by decide +kernel
theorem dX12_priceOf_17 : decode cX12_priceOf 17 = .ok (.iand, 1) := by decide +kernel
theorem dX12_priceOf_18 : decode cX12_priceOf 18 = .ok (.iconst 1, 1) := by decide +kernel
theorem dX12_priceOf_19 : decode cX12_priceOf 19 = .ok (.if_icmp .ne 12, 3) := by decide +kernel
theorem dX12_priceOf_22 : decode cX12_priceOf 22 = .ok (.aload_n 0, 1) := by decide +kernel
theorem dX12_priceOf_23 : decode cX12_priceOf 23 = .ok (.getfield 129, 3) := by decide +kernel
theorem dX12_priceOf_26 : decode cX12_priceOf 26 = .ok (.iload_n 3, 1) := by decide +kernel
theorem dX12_priceOf_27 : decode cX12_priceOf 27 = .ok (.iaload, 1) := by decide +kernel
theorem dX12_priceOf_28 : decode cX12_priceOf 28 = .ok (.goto 4, 3) := by decide +kernel
theorem dX12_priceOf_31 : decode cX12_priceOf 31 = .ok (.iconst 0, 1) := by decide +kernel
theorem dX12_priceOf_32 : decode cX12_priceOf 32 = .ok (.iadd, 1) := by decide +kernel
theorem dX12_priceOf_33 : decode cX12_priceOf 33 = .ok (.istore_n 2, 1) := by decide +kernel
theorem dX12_priceOf_34 : decode cX12_priceOf 34 = .ok (.iinc 3 1, 3) := by decide +kernel
theorem dX12_priceOf_37 : decode cX12_priceOf 37 = .ok (.goto (-33), 3) := by decide +kernel
theorem dX12_priceOf_40 : decode cX12_priceOf 40 = .ok (.iload_n 2, 1) := by decide +kernel
theorem dX12_priceOf_41 : decode cX12_priceOf 41 = .ok (.ireturn, 1) := by decide +kernel
theorem dX12_put_0 : decode cX12_put 0 = .ok (.bipush 24, 2) := by decide +kernel
theorem dX12_put_2 : decode cX12_put 2 = .ok (.istore_n 2, 1) := by decide +kernel
theorem dX12_put_3 : decode cX12_put 3 = .ok (.iload_n 2, 1) := by decide +kernel
theorem dX12_put_4 : decode cX12_put 4 = .ok (.ifCond .lt 45, 3) := by decide +kernel
theorem dX12_put_7 : decode cX12_put 7 = .ok (.iload_n 1, 1) := by decide +kernel
theorem dX12_put_8 : decode cX12_put 8 = .ok (.iload_n 2, 1) := by decide +kernel
theorem dX12_put_9 : decode cX12_put 9 = .ok (.ishr, 1) := by decide +kernel
theorem dX12_put_10 : decode cX12_put 10 = .ok (.sipush 255, 3) := by decide +kernel
theorem dX12_put_13 : decode cX12_put 13 = .ok (.iand, 1) := by decide +kernel
theorem dX12_put_14 : decode cX12_put 14 = .ok (.ifCond .ne 6, 3) := by decide +kernel
theorem dX12_put_17 : decode cX12_put 17 = .ok (.goto 26, 3) := by decide +kernel
theorem dX12_put_20 : decode cX12_put 20 = .ok (.aload_n 0, 1) := by decide +kernel
theorem dX12_put_21 : decode cX12_put 21 = .ok (.getfield 49, 3) := by decide +kernel
theorem dX12_put_24 : decode cX12_put 24 = .ok (.aload_n 0, 1) := by decide +kernel
theorem dX12_put_25 : decode cX12_put 25 = .ok (.getfield 178, 3) := by decide +kernel
theorem dX12_put_28 : decode cX12_put 28 = .ok (.iload_n 1, 1) := by decide +kernel
theorem dX12_put_29 : decode cX12_put 29 = .ok (.iload_n 2, 1) := by decide +kernel
theorem dX12_put_30 : decode cX12_put 30 = .ok (.ishr, 1) := by decide +kernel
theorem dX12_put_31 : decode cX12_put 31 = .ok (.i2b, 1) := by decide +kernel
theorem dX12_put_32 : decode cX12_put 32 = .ok (.bastore, 1) := by decide +kernel
theorem dX12_put_33 : decode cX12_put 33 = .ok (.aload_n 0, 1) := by decide +kernel
theorem dX12_put_34 : decode cX12_put 34 = .ok (.dup, 1) := by decide +kernel
theorem dX12_put_35 : decode cX12_put 35 = .ok (.getfield 178, 3) := by decide +kernel
theorem dX12_put_38 : decode cX12_put 38 = .ok (.iconst 1, 1) := by decide +kernel
theorem dX12_put_39 : decode cX12_put 39 = .ok (.iadd, 1) := by decide +kernel
theorem dX12_put_40 : decode cX12_put 40 = .ok (.putfield 178, 3) := by decide +kernel
theorem dX12_put_43 : decode cX12_put 43 = .ok (.iinc 2 (-8), 3) := by decide +kernel
theorem dX12_put_46 : decode cX12_put 46 = .ok (.goto (-43), 3) := by decide +kernel
theorem dX12_put_49 : decode cX12_put 49 = .ok (.return_, 1) := by decide +kernel
theorem dX12_question_0 : decode cX12_question 0 = .ok (.aload_n 0, 1) := by decide +kernel
theorem dX12_question_1 : decode cX12_question 1 = .ok (.iconst 0, 1) := by decide +kernel
theorem dX12_question_2 : decode cX12_question 2 = .ok (.putfield 138, 3) := by decide +kernel
theorem dX12_question_5 : decode cX12_question 5 = .ok (.aload_n 0, 1) := by decide +kernel
theorem dX12_question_6 : decode cX12_question 6 = .ok (.getfield 393, 3) := by decide +kernel
theorem dX12_question_9 : decode cX12_question 9 = .ok (.bipush 8, 2) := by decide +kernel
theorem dX12_question_11 : decode cX12_question 11 = .ok (.if_icmp .eq 24, 3) := by decide +kernel
theorem dX12_question_14 : decode cX12_question 14 = .ok (.iload_n 1, 1) := by decide +kernel
theorem dX12_question_15 : decode cX12_question 15 = .ok (.iconst 1, 1) := by decide +kernel
theorem dX12_question_16 : decode cX12_question 16 = .ok (.bipush 50, 2) := by decide +kernel
theorem dX12_question_18 : decode cX12_question 18 = .ok (.invokestatic 145, 3) := by decide +kernel
theorem dX12_question_21 : decode cX12_question 21 = .ok (.ifCond .eq 14, 3) := by decide +kernel
theorem dX12_question_24 : decode cX12_question 24 = .ok (.iload_n 2, 1) := by decide +kernel
theorem dX12_question_25 : decode cX12_question 25 = .ok (.iconst 0, 1) := by decide +kernel
theorem dX12_question_26 : decode cX12_question 26 = .ok (.sipush 1023, 3) := by decide +kernel
theorem dX12_question_29 : decode cX12_question 29 = .ok (.invokestatic 145, 3) := by decide +kernel
theorem dX12_question_32 : decode cX12_question 32 = .ok (.ifCond .ne 5, 3) := by decide +kernel
theorem dX12_question_35 : decode cX12_question 35 = .ok (.iconst (-1), 1) := by decide +kernel
theorem dX12_question_36 : decode cX12_question 36 = .ok (.ireturn, 1) := by decide +kernel
theorem dX12_question_37 : decode cX12_question 37 = .ok (.aload_n 0, 1) := by decide +kernel
theorem dX12_question_38 : decode cX12_question 38 = .ok (.getfield 129, 3) := by decide +kernel
theorem dX12_question_41 : decode cX12_question 41 = .ok (.aload_n 0, 1) := by decide +kernel
theorem dX12_question_42 : decode cX12_question 42 = .ok (.getfield 393, 3) := by decide +kernel
theorem dX12_question_45 : decode cX12_question 45 = .ok (.iload_n 1, 1) := by decide +kernel
theorem dX12_question_46 : decode cX12_question 46 = .ok (.iastore, 1) := by decide +kernel
theorem dX12_question_47 : decode cX12_question 47 = .ok (.aload_n 0, 1) := by decide +kernel
theorem dX12_question_48 : decode cX12_question 48 = .ok (.getfield 132, 3) := by decide +kernel
theorem dX12_question_51 : decode cX12_question 51 = .ok (.aload_n 0, 1) := by decide +kernel
theorem dX12_question_52 : decode cX12_question 52 = .ok (.getfield 393, 3) := by decide +kernel
theorem dX12_question_55 : decode cX12_question 55 = .ok (.iload_n 2, 1) := by decide +kernel
theorem dX12_question_56 : decode cX12_question 56 = .ok (.iastore, 1) := by decide +kernel
theorem dX12_question_57 : decode cX12_question 57 = .ok (.aload_n 0, 1) := by decide +kernel
theorem dX12_question_58 : decode cX12_question 58 = .ok (.dup, 1) := by decide +kernel
theorem dX12_question_59 : decode cX12_question 59 = .ok (.getfield 393, 3) := by decide +kernel
theorem dX12_question_62 : decode cX12_question 62 = .ok (.iconst 1, 1) := by decide +kernel
theorem dX12_question_63 : decode cX12_question 63 = .ok (.iadd, 1) := by decide +kernel
theorem dX12_question_64 : decode cX12_question 64 = .ok (.putfield 393, 3) := by decide +kernel
theorem dX12_question_67 : decode cX12_question 67 = .ok (.aload_n 0, 1) := by decide +kernel
theorem dX12_question_68 : decode cX12_question 68 = .ok (.getfield 393, 3) := by decide +kernel
theorem dX12_question_71 : decode cX12_question 71 = .ok (.iconst 1, 1) := by decide +kernel
theorem dX12_question_72 : decode cX12_question 72 = .ok (.isub, 1) := by decide +kernel
theorem dX12_question_73 : decode cX12_question 73 = .ok (.ireturn, 1) := by decide +kernel
theorem dX12_ruleOn_0 : decode cX12_ruleOn 0 = .ok (.iconst (-1), 1) := by decide +kernel
theorem dX12_ruleOn_1 : decode cX12_ruleOn 1 = .ok (.istore_n 3, 1) := by decide +kernel
theorem dX12_ruleOn_2 : decode cX12_ruleOn 2 = .ok (.iconst 0, 1) := by decide +kernel
theorem dX12_ruleOn_3 : decode cX12_ruleOn 3 = .ok (.istore 4, 2) := by decide +kernel
theorem dX12_ruleOn_5 : decode cX12_ruleOn 5 = .ok (.iload 4, 2) := by decide +kernel
theorem dX12_ruleOn_7 : decode cX12_ruleOn 7 = .ok (.aload_n 0, 1) := by decide +kernel
theorem dX12_ruleOn_8 : decode cX12_ruleOn 8 = .ok (.getfield 289, 3) := by decide +kernel
theorem dX12_ruleOn_11 : decode cX12_ruleOn 11 = .ok (.if_icmp .ge 55, 3) := by decide +kernel
theorem dX12_ruleOn_14 : decode cX12_ruleOn 14 = .ok (.aload_n 0, 1) := by decide +kernel
theorem dX12_ruleOn_15 : decode cX12_ruleOn 15 = .ok (.getfield 62, 3) := by decide +kernel
theorem dX12_ruleOn_18 : decode cX12_ruleOn 18 = .ok (.iload 4, 2) := by decide +kernel
theorem dX12_ruleOn_20 : decode cX12_ruleOn 20 = .ok (.iaload, 1) := by decide +kernel
theorem dX12_ruleOn_21 : decode cX12_ruleOn 21 = .ok (.iload_n 2, 1) := by decide +kernel
theorem dX12_ruleOn_22 : decode cX12_ruleOn 22 = .ok (.if_icmp .gt 38, 3) := by decide +kernel
theorem dX12_ruleOn_25 : decode cX12_ruleOn 25 = .ok (.aload_n 0, 1) := by decide +kernel
theorem dX12_ruleOn_26 : decode cX12_ruleOn 26 = .ok (.getfield 59, 3) := by decide +kernel
theorem dX12_ruleOn_29 : decode cX12_ruleOn 29 = .ok (.iload 4, 2) := by decide +kernel
theorem dX12_ruleOn_31 : decode cX12_ruleOn 31 = .ok (.iaload, 1) := by decide +kernel
theorem dX12_ruleOn_32 : decode cX12_ruleOn 32 = .ok (.iload_n 1, 1) := by decide +kernel
theorem dX12_ruleOn_33 : decode cX12_ruleOn 33 = .ok (.if_icmp .gt 27, 3) := by decide +kernel
theorem dX12_ruleOn_36 : decode cX12_ruleOn 36 = .ok (.iload_n 3, 1) := by decide +kernel
theorem dX12_ruleOn_37 : decode cX12_ruleOn 37 = .ok (.iconst (-1), 1) := by decide +kernel
theorem dX12_ruleOn_38 : decode cX12_ruleOn 38 = .ok (.if_icmp .eq 19, 3) := by decide +kernel
theorem dX12_ruleOn_41 : decode cX12_ruleOn 41 = .ok (.aload_n 0, 1) := by decide +kernel
theorem dX12_ruleOn_42 : decode cX12_ruleOn 42 = .ok (.getfield 59, 3) := by decide +kernel
theorem dX12_ruleOn_45 : decode cX12_ruleOn 45 = .ok (.iload 4, 2) := by decide +kernel
theorem dX12_ruleOn_47 : decode cX12_ruleOn 47 = .ok (.iaload, 1) := by decide +kernel
theorem dX12_ruleOn_48 : decode cX12_ruleOn 48 = .ok (.aload_n 0, 1) := by decide +kernel
theorem dX12_ruleOn_49 : decode cX12_ruleOn 49 = .ok (.getfield 59, 3) := by decide +kernel
theorem dX12_ruleOn_52 : decode cX12_ruleOn 52 = .ok (.iload_n 3, 1) := by decide +kernel
theorem dX12_ruleOn_53 : decode cX12_ruleOn 53 = .ok (.iaload, 1) := by decide +kernel
theorem dX12_ruleOn_54 : decode cX12_ruleOn 54 = .ok (.if_icmp .lt 6, 3) := by decide +kernel
theorem dX12_ruleOn_57 : decode cX12_ruleOn 57 = .ok (.iload 4, 2) := by decide +kernel
theorem dX12_ruleOn_59 : decode cX12_ruleOn 59 = .ok (.istore_n 3, 1) := by decide +kernel
theorem dX12_ruleOn_60 : decode cX12_ruleOn 60 = .ok (.iinc 4 1, 3) := by decide +kernel
theorem dX12_ruleOn_63 : decode cX12_ruleOn 63 = .ok (.goto (-58), 3) := by decide +kernel
theorem dX12_ruleOn_66 : decode cX12_ruleOn 66 = .ok (.iload_n 3, 1) := by decide +kernel
theorem dX12_ruleOn_67 : decode cX12_ruleOn 67 = .ok (.ireturn, 1) := by decide +kernel
theorem dX12_sortsOf_0 : decode cX12_sortsOf 0 = .ok (.iconst 0, 1) := by decide +kernel
theorem dX12_sortsOf_1 : decode cX12_sortsOf 1 = .ok (.istore_n 2, 1) := by decide +kernel
theorem dX12_sortsOf_2 : decode cX12_sortsOf 2 = .ok (.iconst 0, 1) := by decide +kernel
theorem dX12_sortsOf_3 : decode cX12_sortsOf 3 = .ok (.istore_n 3, 1) := by decide +kernel
theorem dX12_sortsOf_4 : decode cX12_sortsOf 4 = .ok (.iload_n 3, 1) := by decide +kernel
theorem dX12_sortsOf_5 : decode cX12_sortsOf 5 = .ok (.aload_n 0, 1) := by decide +kernel
theorem dX12_sortsOf_6 : decode cX12_sortsOf 6 = .ok (.getfield 393, 3) := by decide +kernel
theorem dX12_sortsOf_9 : decode cX12_sortsOf 9 = .ok (.if_icmp .ge 31, 3) := by decide +kernel
theorem dX12_sortsOf_12 : decode cX12_sortsOf 12 = .ok (.iload_n 2, 1) := by decide +kernel
theorem dX12_sortsOf_13 : decode cX12_sortsOf 13 = .ok (.iload_n 1, 1) := by decide +kernel
theorem dX12_sortsOf_14 : decode cX12_sortsOf 14 = .ok (.iload_n 3, 1) := by decide +kernel
theorem dX12_sortsOf_15 : decode cX12_sortsOf 15 = .ok (.ishr, 1) := by decide +kernel
theorem dX12_sortsOf_16 : decode cX12_sortsOf 16 = .ok (.iconst 1, 1) := by decide +kernel
theorem dX12_sortsOf_17 : decode cX12_sortsOf 17 = .ok (.iand, 1) := by decide +kernel
theorem dX12_sortsOf_18 : decode cX12_sortsOf 18 = .ok (.iconst 1, 1) := by decide +kernel
theorem dX12_sortsOf_19 : decode cX12_sortsOf 19 = .ok (.if_icmp .ne 12, 3) := by decide +kernel
theorem dX12_sortsOf_22 : decode cX12_sortsOf 22 = .ok (.aload_n 0, 1) := by decide +kernel
theorem dX12_sortsOf_23 : decode cX12_sortsOf 23 = .ok (.getfield 132, 3) := by decide +kernel
theorem dX12_sortsOf_26 : decode cX12_sortsOf 26 = .ok (.iload_n 3, 1) := by decide +kernel
theorem dX12_sortsOf_27 : decode cX12_sortsOf 27 = .ok (.iaload, 1) := by decide +kernel
theorem dX12_sortsOf_28 : decode cX12_sortsOf 28 = .ok (.goto 4, 3) := by decide +kernel
theorem dX12_sortsOf_31 : decode cX12_sortsOf 31 = .ok (.iconst 0, 1) := by decide +kernel
theorem dX12_sortsOf_32 : decode cX12_sortsOf 32 = .ok (.ior, 1) := by decide +kernel
theorem dX12_sortsOf_33 : decode cX12_sortsOf 33 = .ok (.istore_n 2, 1) := by decide +kernel
theorem dX12_sortsOf_34 : decode cX12_sortsOf 34 = .ok (.iinc 3 1, 3) := by decide +kernel
theorem dX12_sortsOf_37 : decode cX12_sortsOf 37 = .ok (.goto (-33), 3) := by decide +kernel
theorem dX12_sortsOf_40 : decode cX12_sortsOf 40 = .ok (.iload_n 2, 1) := by decide +kernel
theorem dX12_sortsOf_41 : decode cX12_sortsOf 41 = .ok (.invokestatic 388, 3) := by decide +kernel
theorem dX12_sortsOf_44 : decode cX12_sortsOf 44 = .ok (.ireturn, 1) := by decide +kernel
theorem dX12_stop_0 : decode cX12_stop 0 = .ok (.aload_n 0, 1) := by decide +kernel
theorem dX12_stop_1 : decode cX12_stop 1 = .ok (.iconst 0, 1) := by decide +kernel
theorem dX12_stop_2 : decode cX12_stop 2 = .ok (.putfield 138, 3) := by decide +kernel
theorem dX12_stop_5 : decode cX12_stop 5 = .ok (.aload_n 0, 1) := by decide +kernel
theorem dX12_stop_6 : decode cX12_stop 6 = .ok (.getfield 162, 3) := by decide +kernel
theorem dX12_stop_9 : decode cX12_stop 9 = .ok (.bipush 60, 2) := by decide +kernel
theorem dX12_stop_11 : decode cX12_stop 11 = .ok (.if_icmp .eq 18, 3) := by decide +kernel
theorem dX12_stop_14 : decode cX12_stop 14 = .ok (.aload_n 0, 1) := by decide +kernel
theorem dX12_stop_15 : decode cX12_stop 15 = .ok (.iload_n 1, 1) := by decide +kernel
theorem dX12_stop_16 : decode cX12_stop 16 = .ok (.invokevirtual 165, 3) := by decide +kernel
theorem dX12_stop_19 : decode cX12_stop 19 = .ok (.ifCond .eq 10, 3) := by decide +kernel
theorem dX12_stop_22 : decode cX12_stop 22 = .ok (.iload_n 2, 1) := by decide +kernel
theorem dX12_stop_23 : decode cX12_stop 23 = .ok (.invokestatic 175, 3) := by decide +kernel
theorem dX12_stop_26 : decode cX12_stop 26 = .ok (.ifCond .ne 5, 3) := by decide +kernel
theorem dX12_stop_29 : decode cX12_stop 29 = .ok (.iconst 0, 1) := by decide +kernel
theorem dX12_stop_30 : decode cX12_stop 30 = .ok (.ireturn, 1) := by decide +kernel
theorem dX12_stop_31 : decode cX12_stop 31 = .ok (.aload_n 0, 1) := by decide +kernel
theorem dX12_stop_32 : decode cX12_stop 32 = .ok (.getfield 19, 3) := by decide +kernel
theorem dX12_stop_35 : decode cX12_stop 35 = .ok (.aload_n 0, 1) := by decide +kernel
theorem dX12_stop_36 : decode cX12_stop 36 = .ok (.getfield 162, 3) := by decide +kernel
theorem dX12_stop_39 : decode cX12_stop 39 = .ok (.iload_n 1, 1) := by decide +kernel
theorem dX12_stop_40 : decode cX12_stop 40 = .ok (.iastore, 1) := by decide +kernel
theorem dX12_stop_41 : decode cX12_stop 41 = .ok (.aload_n 0, 1) := by decide +kernel
theorem dX12_stop_42 : decode cX12_stop 42 = .ok (.getfield 22, 3) := by decide +kernel
theorem dX12_stop_45 : decode cX12_stop 45 = .ok (.aload_n 0, 1) := by decide +kernel
theorem dX12_stop_46 : decode cX12_stop 46 = .ok (.getfield 162, 3) := by decide +kernel
theorem dX12_stop_49 : decode cX12_stop 49 = .ok (.iload_n 2, 1) := by decide +kernel
theorem dX12_stop_50 : decode cX12_stop 50 = .ok (.iastore, 1) := by decide +kernel
theorem dX12_stop_51 : decode cX12_stop 51 = .ok (.aload_n 0, 1) := by decide +kernel
theorem dX12_stop_52 : decode cX12_stop 52 = .ok (.getfield 25, 3) := by decide +kernel
theorem dX12_stop_55 : decode cX12_stop 55 = .ok (.aload_n 0, 1) := by decide +kernel
theorem dX12_stop_56 : decode cX12_stop 56 = .ok (.getfield 162, 3) := by decide +kernel
theorem dX12_stop_59 : decode cX12_stop 59 = .ok (.aload_n 0, 1) := by decide +kernel
theorem dX12_stop_60 : decode cX12_stop 60 = .ok (.getfield 142, 3) := by decide +kernel
theorem dX12_stop_63 : decode cX12_stop 63 = .ok (.iastore, 1) := by decide +kernel
theorem dX12_stop_64 : decode cX12_stop 64 = .ok (.aload_n 0, 1) := by decide +kernel
theorem dX12_stop_65 : decode cX12_stop 65 = .ok (.dup, 1) := by decide +kernel
theorem dX12_stop_66 : decode cX12_stop 66 = .ok (.getfield 162, 3) := by decide +kernel
theorem dX12_stop_69 : decode cX12_stop 69 = .ok (.iconst 1, 1) := by decide +kernel
theorem dX12_stop_70 : decode cX12_stop 70 = .ok (.iadd, 1) := by decide +kernel
theorem dX12_stop_71 : decode cX12_stop 71 = .ok (.putfield 162, 3) := by decide +kernel
theorem dX12_stop_74 : decode cX12_stop 74 = .ok (.iconst 1, 1) := by decide +kernel
theorem dX12_stop_75 : decode cX12_stop 75 = .ok (.ireturn, 1) := by decide +kernel
theorem dX12_stopped_0 : decode cX12_stopped 0 = .ok (.aload_n 0, 1) := by decide +kernel
theorem dX12_stopped_1 : decode cX12_stopped 1 = .ok (.iconst 0, 1) := by decide +kernel
theorem dX12_stopped_2 : decode cX12_stopped 2 = .ok (.putfield 138, 3) := by decide +kernel
theorem dX12_stopped_5 : decode cX12_stopped 5 = .ok (.aload_n 0, 1) := by decide +kernel
theorem dX12_stopped_6 : decode cX12_stopped 6 = .ok (.iload_n 1, 1) := by decide +kernel
theorem dX12_stopped_7 : decode cX12_stopped 7 = .ok (.invokevirtual 165, 3) := by decide +kernel
theorem dX12_stopped_10 : decode cX12_stopped 10 = .ok (.ifCond .eq 20, 3) := by decide +kernel
theorem dX12_stopped_13 : decode cX12_stopped 13 = .ok (.aload_n 0, 1) := by decide +kernel
theorem dX12_stopped_14 : decode cX12_stopped 14 = .ok (.iload_n 2, 1) := by decide +kernel
theorem dX12_stopped_15 : decode cX12_stopped 15 = .ok (.invokevirtual 159, 3) := by decide +kernel
theorem dX12_stopped_18 : decode cX12_stopped 18 = .ok (.ifCond .eq 12, 3) := by decide +kernel
theorem dX12_stopped_21 : decode cX12_stopped 21 = .ok (.aload_n 0, 1) := by decide +kernel
theorem dX12_stopped_22 : decode cX12_stopped 22 = .ok (.iload_n 1, 1) := by decide +kernel
theorem dX12_stopped_23 : decode cX12_stopped 23 = .ok (.iload_n 2, 1) := by decide +kernel
theorem dX12_stopped_24 : decode cX12_stopped 24 = .ok (.invokevirtual 171, 3) := by decide +kernel
theorem dX12_stopped_27 : decode cX12_stopped 27 = .ok (.goto 4, 3) := by decide +kernel
theorem dX12_stopped_30 : decode cX12_stopped 30 = .ok (.iconst (-1), 1) := by decide +kernel
theorem dX12_stopped_31 : decode cX12_stopped 31 = .ok (.ireturn, 1) := by decide +kernel
theorem dX12_stopsFrom_0 : decode cX12_stopsFrom 0 = .ok (.iconst (-1), 1) := by decide +kernel
theorem dX12_stopsFrom_1 : decode cX12_stopsFrom 1 = .ok (.istore_n 3, 1) := by decide +kernel
theorem dX12_stopsFrom_2 : decode cX12_stopsFrom 2 = .ok (.iconst 0, 1) := by decide +kernel
theorem dX12_stopsFrom_3 : decode cX12_stopsFrom 3 = .ok (.istore 4, 2) := by decide +kernel
theorem dX12_stopsFrom_5 : decode cX12_stopsFrom 5 = .ok (.iload 4, 2) := by decide +kernel
theorem dX12_stopsFrom_7 : decode cX12_stopsFrom 7 = .ok (.aload_n 0, 1) := by decide +kernel
theorem dX12_stopsFrom_8 : decode cX12_stopsFrom 8 = .ok (.getfield 162, 3) := by decide +kernel
theorem dX12_stopsFrom_11 : decode cX12_stopsFrom 11 = .ok (.if_icmp .ge 39, 3) := by decide +kernel
theorem dX12_stopsFrom_14 : decode cX12_stopsFrom 14 = .ok (.aload_n 0, 1) := by decide +kernel
theorem dX12_stopsFrom_15 : decode cX12_stopsFrom 15 = .ok (.getfield 19, 3) := by decide +kernel
theorem dX12_stopsFrom_18 : decode cX12_stopsFrom 18 = .ok (.iload 4, 2) := by decide +kernel
theorem dX12_stopsFrom_20 : decode cX12_stopsFrom 20 = .ok (.iaload, 1) := by decide +kernel
theorem dX12_stopsFrom_21 : decode cX12_stopsFrom 21 = .ok (.iload_n 1, 1) := by decide +kernel
theorem dX12_stopsFrom_22 : decode cX12_stopsFrom 22 = .ok (.if_icmp .ne 22, 3) := by decide +kernel
theorem dX12_stopsFrom_25 : decode cX12_stopsFrom 25 = .ok (.aload_n 0, 1) := by decide +kernel
theorem dX12_stopsFrom_26 : decode cX12_stopsFrom 26 = .ok (.getfield 25, 3) := by decide +kernel
theorem dX12_stopsFrom_29 : decode cX12_stopsFrom 29 = .ok (.iload 4, 2) := by decide +kernel
theorem dX12_stopsFrom_31 : decode cX12_stopsFrom 31 = .ok (.iaload, 1) := by decide +kernel
theorem dX12_stopsFrom_32 : decode cX12_stopsFrom 32 = .ok (.iload_n 2, 1) := by decide +kernel
theorem dX12_stopsFrom_33 : decode cX12_stopsFrom 33 = .ok (.if_icmp .gt 11, 3) := by decide +kernel
theorem dX12_stopsFrom_36 : decode cX12_stopsFrom 36 = .ok (.aload_n 0, 1) := by decide +kernel
theorem dX12_stopsFrom_37 : decode cX12_stopsFrom 37 = .ok (.getfield 22, 3) := by decide +kernel
theorem dX12_stopsFrom_40 : decode cX12_stopsFrom 40 = .ok (.iload 4, 2) := by decide +kernel
theorem dX12_stopsFrom_42 : decode cX12_stopsFrom 42 = .ok (.iaload, 1) := by decide +kernel
theorem dX12_stopsFrom_43 : decode cX12_stopsFrom 43 = .ok (.istore_n 3, 1) := by decide +kernel
theorem dX12_stopsFrom_44 : decode cX12_stopsFrom 44 = .ok (.iinc 4 1, 3) := by decide +kernel
theorem dX12_stopsFrom_47 : decode cX12_stopsFrom 47 = .ok (.goto (-42), 3) := by decide +kernel
theorem dX12_stopsFrom_50 : decode cX12_stopsFrom 50 = .ok (.iload_n 3, 1) := by decide +kernel
theorem dX12_stopsFrom_51 : decode cX12_stopsFrom 51 = .ok (.ireturn, 1) := by decide +kernel
theorem dX12_stratum_0 : decode cX12_stratum 0 = .ok (.aload_n 0, 1) := by decide +kernel
theorem dX12_stratum_1 : decode cX12_stratum 1 = .ok (.getfield 13, 3) := by decide +kernel
theorem dX12_stratum_4 : decode cX12_stratum 4 = .ok (.iload_n 1, 1) := by decide +kernel
theorem dX12_stratum_5 : decode cX12_stratum 5 = .ok (.iaload, 1) := by decide +kernel
theorem dX12_stratum_6 : decode cX12_stratum 6 = .ok (.bipush 25, 2) := by decide +kernel
theorem dX12_stratum_8 : decode cX12_stratum 8 = .ok (.if_icmp .ge 7, 3) := by decide +kernel
theorem dX12_stratum_11 : decode cX12_stratum 11 = .ok (.iconst 0, 1) := by decide +kernel
theorem dX12_stratum_12 : decode cX12_stratum 12 = .ok (.goto 34, 3) := by decide +kernel
theorem dX12_stratum_15 : decode cX12_stratum 15 = .ok (.aload_n 0, 1) := by decide +kernel
theorem dX12_stratum_16 : decode cX12_stratum 16 = .ok (.getfield 13, 3) := by decide +kernel
theorem dX12_stratum_19 : decode cX12_stratum 19 = .ok (.iload_n 1, 1) := by decide +kernel
theorem dX12_stratum_20 : decode cX12_stratum 20 = .ok (.iaload, 1) := by decide +kernel
theorem dX12_stratum_21 : decode cX12_stratum 21 = .ok (.bipush 45, 2) := by decide +kernel
theorem dX12_stratum_23 : decode cX12_stratum 23 = .ok (.if_icmp .ge 7, 3) := by decide +kernel
theorem dX12_stratum_26 : decode cX12_stratum 26 = .ok (.iconst 1, 1) := by decide +kernel
theorem dX12_stratum_27 : decode cX12_stratum 27 = .ok (.goto 19, 3) := by decide +kernel
theorem dX12_stratum_30 : decode cX12_stratum 30 = .ok (.aload_n 0, 1) := by decide +kernel
theorem dX12_stratum_31 : decode cX12_stratum 31 = .ok (.getfield 13, 3) := by decide +kernel
theorem dX12_stratum_34 : decode cX12_stratum 34 = .ok (.iload_n 1, 1) := by decide +kernel
theorem dX12_stratum_35 : decode cX12_stratum 35 = .ok (.iaload, 1) := by decide +kernel
theorem dX12_stratum_36 : decode cX12_stratum 36 = .ok (.bipush 65, 2) := by decide +kernel
theorem dX12_stratum_38 : decode cX12_stratum 38 = .ok (.if_icmp .ge 7, 3) := by decide +kernel
theorem dX12_stratum_41 : decode cX12_stratum 41 = .ok (.iconst 2, 1) := by decide +kernel
theorem dX12_stratum_42 : decode cX12_stratum 42 = .ok (.goto 4, 3) := by decide +kernel
theorem dX12_stratum_45 : decode cX12_stratum 45 = .ok (.iconst 3, 1) := by decide +kernel
theorem dX12_stratum_46 : decode cX12_stratum 46 = .ok (.ireturn, 1) := by decide +kernel
theorem dX12_table_0 : decode cX12_table 0 = .ok (.aload_n 0, 1) := by decide +kernel
theorem dX12_table_1 : decode cX12_table 1 = .ok (.iconst 0, 1) := by decide +kernel
theorem dX12_table_2 : decode cX12_table 2 = .ok (.putfield 138, 3) := by decide +kernel
theorem dX12_table_5 : decode cX12_table 5 = .ok (.iload_n 1, 1) := by decide +kernel
theorem dX12_table_6 : decode cX12_table 6 = .ok (.iconst (-1), 1) := by decide +kernel
theorem dX12_table_7 : decode cX12_table 7 = .ok (.aload_n 0, 1) := by decide +kernel
theorem dX12_table_8 : decode cX12_table 8 = .ok (.getfield 372, 3) := by decide +kernel
theorem dX12_table_11 : decode cX12_table 11 = .ok (.iconst 1, 1) := by decide +kernel
theorem dX12_table_12 : decode cX12_table 12 = .ok (.isub, 1) := by decide +kernel
theorem dX12_table_13 : decode cX12_table 13 = .ok (.invokestatic 145, 3) := by decide +kernel
theorem dX12_table_16 : decode cX12_table 16 = .ok (.ifCond .ne 6, 3) := by decide +kernel
theorem dX12_table_19 : decode cX12_table 19 = .ok (.bipush (-2), 2) := by decide +kernel
theorem dX12_table_21 : decode cX12_table 21 = .ok (.ireturn, 1) := by decide +kernel
theorem dX12_table_22 : decode cX12_table 22 = .ok (.aload_n 0, 1) := by decide +kernel
theorem dX12_table_23 : decode cX12_table 23 = .ok (.iconst (-1), 1) := by decide +kernel
theorem dX12_table_24 : decode cX12_table 24 = .ok (.putfield 375, 3) := by decide +kernel
theorem dX12_table_27 : decode cX12_table 27 = .ok (.aload_n 0, 1) := by decide +kernel
theorem dX12_table_28 : decode cX12_table 28 = .ok (.iconst 0, 1) := by decide +kernel
theorem dX12_table_29 : decode cX12_table 29 = .ok (.iconst 0, 1) := by decide +kernel
theorem dX12_table_30 : decode cX12_table 30 = .ok (.invokevirtual 381, 3) := by decide +kernel
theorem dX12_table_33 : decode cX12_table 33 = .ok (.iload_n 1, 1) := by decide +kernel
theorem dX12_table_34 : decode cX12_table 34 = .ok (.iconst (-1), 1) := by decide +kernel
theorem dX12_table_35 : decode cX12_table 35 = .ok (.if_icmp .ne 10, 3) := by decide +kernel
theorem dX12_table_38 : decode cX12_table 38 = .ok (.aload_n 0, 1) := by decide +kernel
theorem dX12_table_39 : decode cX12_table 39 = .ok (.getfield 375, 3) := by decide +kernel
theorem dX12_table_42 : decode cX12_table 42 = .ok (.goto 9, 3) := by decide +kernel
theorem dX12_table_45 : decode cX12_table 45 = .ok (.aload_n 0, 1) := by decide +kernel
theorem dX12_table_46 : decode cX12_table 46 = .ok (.getfield 126, 3) := by decide +kernel
theorem dX12_table_49 : decode cX12_table 49 = .ok (.iload_n 1, 1) := by decide +kernel
theorem dX12_table_50 : decode cX12_table 50 = .ok (.iaload, 1) := by decide +kernel
theorem dX12_table_51 : decode cX12_table 51 = .ok (.ireturn, 1) := by decide +kernel
theorem dX12_thrown_0 : decode cX12_thrown 0 = .ok (.aload_n 0, 1) := by decide +kernel
theorem dX12_thrown_1 : decode cX12_thrown 1 = .ok (.getfield 138, 3) := by decide +kernel
theorem dX12_thrown_4 : decode cX12_thrown 4 = .ok (.ireturn, 1) := by decide +kernel
theorem dX12_told_0 : decode cX12_told 0 = .ok (.aload_n 0, 1) := by decide +kernel
theorem dX12_told_1 : decode cX12_told 1 = .ok (.aload_n 0, 1) := by decide +kernel
theorem dX12_told_2 : decode cX12_told 2 = .ok (.iload_n 1, 1) := by decide +kernel
theorem dX12_told_3 : decode cX12_told 3 = .ok (.invokevirtual 155, 3) := by decide +kernel
theorem dX12_told_6 : decode cX12_told 6 = .ok (.ifCond .eq 17, 3) := by decide +kernel
theorem dX12_told_9 : decode cX12_told 9 = .ok (.iload_n 2, 1) := by decide +kernel
theorem dX12_told_10 : decode cX12_told 10 = .ok (.iconst 0, 1) := by decide +kernel
theorem dX12_told_11 : decode cX12_told 11 = .ok (.bipush 6, 2) := by decide +kernel
theorem dX12_told_13 : decode cX12_told 13 = .ok (.invokestatic 145, 3) := by decide +kernel
theorem dX12_told_16 : decode cX12_told 16 = .ok (.ifCond .eq 7, 3) := by decide +kernel
theorem dX12_told_19 : decode cX12_told 19 = .ok (.iconst 0, 1) := by decide +kernel
theorem dX12_told_20 : decode cX12_told 20 = .ok (.goto 4, 3) := by decide +kernel
theorem dX12_told_23 : decode cX12_told 23 = .ok (.iconst 1, 1) := by decide +kernel
theorem dX12_told_24 : decode cX12_told 24 = .ok (.putfield 138, 3) := by decide +kernel
theorem dX12_told_27 : decode cX12_told 27 = .ok (.aload_n 0, 1) := by decide +kernel
theorem dX12_told_28 : decode cX12_told 28 = .ok (.getfield 138, 3) := by decide +kernel
theorem dX12_told_31 : decode cX12_told 31 = .ok (.ifCond .le 5, 3) := by decide +kernel
theorem dX12_told_34 : decode cX12_told 34 = .ok (.iconst 0, 1) := by decide +kernel
theorem dX12_told_35 : decode cX12_told 35 = .ok (.ireturn, 1) := by decide +kernel
theorem dX12_told_36 : decode cX12_told 36 = .ok (.iload_n 2, 1) := by decide +kernel
theorem dX12_told_37 : decode cX12_told 37 = .ok (.tableswitch 81 0 5 #[39, 46, 53, 60, 67, 74], 39) := by decide +kernel
theorem dX12_told_76 : decode cX12_told 76 = .ok (.aload_n 0, 1) := by decide +kernel
theorem dX12_told_77 : decode cX12_told 77 = .ok (.getfield 28, 3) := by decide +kernel
theorem dX12_told_80 : decode cX12_told 80 = .ok (.iload_n 1, 1) := by decide +kernel
theorem dX12_told_81 : decode cX12_told 81 = .ok (.iaload, 1) := by decide +kernel
theorem dX12_told_82 : decode cX12_told 82 = .ok (.ireturn, 1) := by decide +kernel
theorem dX12_told_83 : decode cX12_told 83 = .ok (.aload_n 0, 1) := by decide +kernel
theorem dX12_told_84 : decode cX12_told 84 = .ok (.getfield 31, 3) := by decide +kernel
theorem dX12_told_87 : decode cX12_told 87 = .ok (.iload_n 1, 1) := by decide +kernel
theorem dX12_told_88 : decode cX12_told 88 = .ok (.iaload, 1) := by decide +kernel
theorem dX12_told_89 : decode cX12_told 89 = .ok (.ireturn, 1) := by decide +kernel
theorem dX12_told_90 : decode cX12_told 90 = .ok (.aload_n 0, 1) := by decide +kernel
theorem dX12_told_91 : decode cX12_told 91 = .ok (.getfield 34, 3) := by decide +kernel
theorem dX12_told_94 : decode cX12_told 94 = .ok (.iload_n 1, 1) := by decide +kernel
theorem dX12_told_95 : decode cX12_told 95 = .ok (.iaload, 1) := by decide +kernel
theorem dX12_told_96 : decode cX12_told 96 = .ok (.ireturn, 1) := by decide +kernel
theorem dX12_told_97 : decode cX12_told 97 = .ok (.aload_n 0, 1) := by decide +kernel
theorem dX12_told_98 : decode cX12_told 98 = .ok (.getfield 37, 3) := by decide +kernel
theorem dX12_told_101 : decode cX12_told 101 = .ok (.iload_n 1, 1) := by decide +kernel
theorem dX12_told_102 : decode cX12_told 102 = .ok (.iaload, 1) := by decide +kernel
theorem dX12_told_103 : decode cX12_told 103 = .ok (.ireturn, 1) := by decide +kernel
theorem dX12_told_104 : decode cX12_told 104 = .ok (.aload_n 0, 1) := by decide +kernel
theorem dX12_told_105 : decode cX12_told 105 = .ok (.getfield 40, 3) := by decide +kernel
theorem dX12_told_108 : decode cX12_told 108 = .ok (.iload_n 1, 1) := by decide +kernel
theorem dX12_told_109 : decode cX12_told 109 = .ok (.iaload, 1) := by decide +kernel
theorem dX12_told_110 : decode cX12_told 110 = .ok (.ireturn, 1) := by decide +kernel
theorem dX12_told_111 : decode cX12_told 111 = .ok (.aload_n 0, 1) := by decide +kernel
theorem dX12_told_112 : decode cX12_told 112 = .ok (.getfield 43, 3) := by decide +kernel
theorem dX12_told_115 : decode cX12_told 115 = .ok (.iload_n 1, 1) := by decide +kernel
theorem dX12_told_116 : decode cX12_told 116 = .ok (.iaload, 1) := by decide +kernel
theorem dX12_told_117 : decode cX12_told 117 = .ok (.ireturn, 1) := by decide +kernel
theorem dX12_told_118 : decode cX12_told 118 = .ok (.aload_n 0, 1) := by decide +kernel
theorem dX12_told_119 : decode cX12_told 119 = .ok (.getfield 46, 3) := by decide +kernel
theorem dX12_told_122 : decode cX12_told 122 = .ok (.iload_n 1, 1) := by decide +kernel
theorem dX12_told_123 : decode cX12_told 123 = .ok (.iaload, 1) := by decide +kernel
theorem dX12_told_124 : decode cX12_told 124 = .ok (.ireturn, 1) := by decide +kernel
theorem dX12_truth_0 : decode cX12_truth 0 = .ok (.aload_n 0, 1) := by decide +kernel
theorem dX12_truth_1 : decode cX12_truth 1 = .ok (.iconst 0, 1) := by decide +kernel
theorem dX12_truth_2 : decode cX12_truth 2 = .ok (.putfield 138, 3) := by decide +kernel
theorem dX12_truth_5 : decode cX12_truth 5 = .ok (.aload_n 0, 1) := by decide +kernel
theorem dX12_truth_6 : decode cX12_truth 6 = .ok (.iload_n 1, 1) := by decide +kernel
theorem dX12_truth_7 : decode cX12_truth 7 = .ok (.iload_n 2, 1) := by decide +kernel
theorem dX12_truth_8 : decode cX12_truth 8 = .ok (.invokevirtual 305, 3) := by decide +kernel
theorem dX12_truth_11 : decode cX12_truth 11 = .ok (.ifCond .ne 5, 3) := by decide +kernel
theorem dX12_truth_14 : decode cX12_truth 14 = .ok (.iconst (-1), 1) := by decide +kernel
theorem dX12_truth_15 : decode cX12_truth 15 = .ok (.ireturn, 1) := by decide +kernel
theorem dX12_truth_16 : decode cX12_truth 16 = .ok (.iconst 2, 1) := by decide +kernel
theorem dX12_truth_17 : decode cX12_truth 17 = .ok (.istore_n 3, 1) := by decide +kernel
theorem dX12_truth_18 : decode cX12_truth 18 = .ok (.iconst 0, 1) := by decide +kernel
theorem dX12_truth_19 : decode cX12_truth 19 = .ok (.istore 4, 2) := by decide +kernel
theorem dX12_truth_21 : decode cX12_truth 21 = .ok (.iload 4, 2) := by decide +kernel
theorem dX12_truth_23 : decode cX12_truth 23 = .ok (.aload_n 0, 1) := by decide +kernel
theorem dX12_truth_24 : decode cX12_truth 24 = .ok (.getfield 329, 3) := by decide +kernel
theorem dX12_truth_27 : decode cX12_truth 27 = .ok (.if_icmp .ge 89, 3) := by decide +kernel
theorem dX12_truth_30 : decode cX12_truth 30 = .ok (.aload_n 0, 1) := by decide +kernel
theorem dX12_truth_31 : decode cX12_truth 31 = .ok (.getfield 83, 3) := by decide +kernel
theorem dX12_truth_34 : decode cX12_truth 34 = .ok (.iload 4, 2) := by decide +kernel
theorem dX12_truth_36 : decode cX12_truth 36 = .ok (.iaload, 1) := by decide +kernel
theorem dX12_truth_37 : decode cX12_truth 37 = .ok (.iload_n 2, 1) := by decide +kernel
theorem dX12_truth_38 : decode cX12_truth 38 = .ok (.if_icmp .gt 72, 3) := by decide +kernel
theorem dX12_truth_41 : decode cX12_truth 41 = .ok (.aload_n 0, 1) := by decide +kernel
theorem dX12_truth_42 : decode cX12_truth 42 = .ok (.getfield 74, 3) := by decide +kernel
theorem dX12_truth_45 : decode cX12_truth 45 = .ok (.iload 4, 2) := by decide +kernel
theorem dX12_truth_47 : decode cX12_truth 47 = .ok (.iaload, 1) := by decide +kernel
theorem dX12_truth_48 : decode cX12_truth 48 = .ok (.aload_n 0, 1) := by decide +kernel
theorem dX12_truth_49 : decode cX12_truth 49 = .ok (.getfield 9, 3) := by decide +kernel
theorem dX12_truth_52 : decode cX12_truth 52 = .ok (.aload_n 0, 1) := by decide +kernel
theorem dX12_truth_53 : decode cX12_truth 53 = .ok (.getfield 28, 3) := by decide +kernel
theorem dX12_truth_56 : decode cX12_truth 56 = .ok (.iload_n 1, 1) := by decide +kernel
theorem dX12_truth_57 : decode cX12_truth 57 = .ok (.iaload, 1) := by decide +kernel
theorem dX12_truth_58 : decode cX12_truth 58 = .ok (.iaload, 1) := by decide +kernel
theorem dX12_truth_59 : decode cX12_truth 59 = .ok (.if_icmp .ne 51, 3) := by decide +kernel
theorem dX12_truth_62 : decode cX12_truth 62 = .ok (.aload_n 0, 1) := by decide +kernel
theorem dX12_truth_63 : decode cX12_truth 63 = .ok (.getfield 77, 3) := by decide +kernel
theorem dX12_truth_66 : decode cX12_truth 66 = .ok (.iload 4, 2) := by decide +kernel
theorem dX12_truth_68 : decode cX12_truth 68 = .ok (.iaload, 1) := by decide +kernel
theorem dX12_truth_69 : decode cX12_truth 69 = .ok (.aload_n 0, 1) := by decide +kernel
theorem dX12_truth_70 : decode cX12_truth 70 = .ok (.getfield 31, 3) := by decide +kernel
theorem dX12_truth_73 : decode cX12_truth 73 = .ok (.iload_n 1, 1) := by decide +kernel
theorem dX12_truth_74 : decode cX12_truth 74 = .ok (.iaload, 1) := by decide +kernel
theorem dX12_truth_75 : decode cX12_truth 75 = .ok (.if_icmp .ne 35, 3) := by decide +kernel
theorem dX12_truth_78 : decode cX12_truth 78 = .ok (.aload_n 0, 1) := by decide +kernel
theorem dX12_truth_79 : decode cX12_truth 79 = .ok (.getfield 80, 3) := by decide +kernel
theorem dX12_truth_82 : decode cX12_truth 82 = .ok (.iload 4, 2) := by decide +kernel
theorem dX12_truth_84 : decode cX12_truth 84 = .ok (.iaload, 1) := by decide +kernel
theorem dX12_truth_85 : decode cX12_truth 85 = .ok (.aload_n 0, 1) := by decide +kernel
theorem dX12_truth_86 : decode cX12_truth 86 = .ok (.getfield 34, 3) := by decide +kernel
theorem dX12_truth_89 : decode cX12_truth 89 = .ok (.iload_n 1, 1) := by decide +kernel
theorem dX12_truth_90 : decode cX12_truth 90 = .ok (.iaload, 1) := by decide +kernel
theorem dX12_truth_91 : decode cX12_truth 91 = .ok (.if_icmp .ne 19, 3) := by decide +kernel
theorem dX12_truth_94 : decode cX12_truth 94 = .ok (.aload_n 0, 1) := by decide +kernel
theorem dX12_truth_95 : decode cX12_truth 95 = .ok (.getfield 86, 3) := by decide +kernel
theorem dX12_truth_98 : decode cX12_truth 98 = .ok (.iload 4, 2) := by decide +kernel
theorem dX12_truth_100 : decode cX12_truth 100 = .ok (.baload, 1) := by decide +kernel
theorem dX12_truth_101 : decode cX12_truth 101 = .ok (.ifCond .eq 7, 3) := by decide +kernel
theorem dX12_truth_104 : decode cX12_truth 104 = .ok (.iconst 1, 1) := by decide +kernel
theorem dX12_truth_105 : decode cX12_truth 105 = .ok (.goto 4, 3) := by decide +kernel
theorem dX12_truth_108 : decode cX12_truth 108 = .ok (.iconst 0, 1) := by decide +kernel
theorem dX12_truth_109 : decode cX12_truth 109 = .ok (.istore_n 3, 1) := by decide +kernel
theorem dX12_truth_110 : decode cX12_truth 110 = .ok (.iinc 4 1, 3) := by decide +kernel
theorem dX12_truth_113 : decode cX12_truth 113 = .ok (.goto (-92), 3) := by decide +kernel
theorem dX12_truth_116 : decode cX12_truth 116 = .ok (.iload_n 3, 1) := by decide +kernel
theorem dX12_truth_117 : decode cX12_truth 117 = .ok (.ireturn, 1) := by decide +kernel
theorem dX12_tryTable_0 : decode cX12_tryTable 0 = .ok (.iload_n 2, 1) := by decide +kernel
theorem dX12_tryTable_1 : decode cX12_tryTable 1 = .ok (.aload_n 0, 1) := by decide +kernel
theorem dX12_tryTable_2 : decode cX12_tryTable 2 = .ok (.getfield 372, 3) := by decide +kernel
theorem dX12_tryTable_5 : decode cX12_tryTable 5 = .ok (.iadd, 1) := by decide +kernel
theorem dX12_tryTable_6 : decode cX12_tryTable 6 = .ok (.iload_n 1, 1) := by decide +kernel
theorem dX12_tryTable_7 : decode cX12_tryTable 7 = .ok (.isub, 1) := by decide +kernel
theorem dX12_tryTable_8 : decode cX12_tryTable 8 = .ok (.aload_n 0, 1) := by decide +kernel
theorem dX12_tryTable_9 : decode cX12_tryTable 9 = .ok (.getfield 375, 3) := by decide +kernel
theorem dX12_tryTable_12 : decode cX12_tryTable 12 = .ok (.if_icmp .gt 4, 3) := by decide +kernel
theorem dX12_tryTable_15 : decode cX12_tryTable 15 = .ok (.return_, 1) := by decide +kernel
theorem dX12_tryTable_16 : decode cX12_tryTable 16 = .ok (.iload_n 1, 1) := by decide +kernel
theorem dX12_tryTable_17 : decode cX12_tryTable 17 = .ok (.aload_n 0, 1) := by decide +kernel
theorem dX12_tryTable_18 : decode cX12_tryTable 18 = .ok (.getfield 372, 3) := by decide +kernel
theorem dX12_tryTable_21 : decode cX12_tryTable 21 = .ok (.if_icmp .ne 37, 3) := by decide +kernel
theorem dX12_tryTable_24 : decode cX12_tryTable 24 = .ok (.aload_n 0, 1) := by decide +kernel
theorem dX12_tryTable_25 : decode cX12_tryTable 25 = .ok (.iload_n 2, 1) := by decide +kernel
theorem dX12_tryTable_26 : decode cX12_tryTable 26 = .ok (.putfield 375, 3) := by decide +kernel
theorem dX12_tryTable_29 : decode cX12_tryTable 29 = .ok (.iconst 0, 1) := by decide +kernel
theorem dX12_tryTable_30 : decode cX12_tryTable 30 = .ok (.istore_n 3, 1) := by decide +kernel
theorem dX12_tryTable_31 : decode cX12_tryTable 31 = .ok (.iload_n 3, 1) := by decide +kernel
theorem dX12_tryTable_32 : decode cX12_tryTable 32 = .ok (.aload_n 0, 1) := by decide +kernel
theorem dX12_tryTable_33 : decode cX12_tryTable 33 = .ok (.getfield 372, 3) := by decide +kernel
theorem dX12_tryTable_36 : decode cX12_tryTable 36 = .ok (.if_icmp .ge 21, 3) := by decide +kernel
theorem dX12_tryTable_39 : decode cX12_tryTable 39 = .ok (.aload_n 0, 1) := by decide +kernel
theorem dX12_tryTable_40 : decode cX12_tryTable 40 = .ok (.getfield 126, 3) := by decide +kernel
theorem dX12_tryTable_43 : decode cX12_tryTable 43 = .ok (.iload_n 3, 1) := by decide +kernel
theorem dX12_tryTable_44 : decode cX12_tryTable 44 = .ok (.aload_n 0, 1) := by decide +kernel
theorem dX12_tryTable_45 : decode cX12_tryTable 45 = .ok (.getfield 123, 3) := by decide +kernel
theorem dX12_tryTable_48 : decode cX12_tryTable 48 = .ok (.iload_n 3, 1) := by decide +kernel
theorem dX12_tryTable_49 : decode cX12_tryTable 49 = .ok (.iaload, 1) := by decide +kernel
theorem dX12_tryTable_50 : decode cX12_tryTable 50 = .ok (.iastore, 1) := by decide +kernel
theorem dX12_tryTable_51 : decode cX12_tryTable 51 = .ok (.iinc 3 1, 3) := by decide +kernel
theorem dX12_tryTable_54 : decode cX12_tryTable 54 = .ok (.goto (-23), 3) := by decide +kernel
theorem dX12_tryTable_57 : decode cX12_tryTable 57 = .ok (.return_, 1) := by decide +kernel
theorem dX12_tryTable_58 : decode cX12_tryTable 58 = .ok (.iconst 0, 1) := by decide +kernel
theorem dX12_tryTable_59 : decode cX12_tryTable 59 = .ok (.istore_n 3, 1) := by decide +kernel
theorem dX12_tryTable_60 : decode cX12_tryTable 60 = .ok (.iload_n 3, 1) := by decide +kernel
theorem dX12_tryTable_61 : decode cX12_tryTable 61 = .ok (.aload_n 0, 1) := by decide +kernel
theorem dX12_tryTable_62 : decode cX12_tryTable 62 = .ok (.getfield 369, 3) := by decide +kernel
theorem dX12_tryTable_65 : decode cX12_tryTable 65 = .ok (.if_icmp .ge 38, 3) := by decide +kernel
theorem dX12_tryTable_68 : decode cX12_tryTable 68 = .ok (.aload_n 0, 1) := by decide +kernel
theorem dX12_tryTable_69 : decode cX12_tryTable 69 = .ok (.iload_n 3, 1) := by decide +kernel
theorem dX12_tryTable_70 : decode cX12_tryTable 70 = .ok (.iload_n 1, 1) := by decide +kernel
theorem dX12_tryTable_71 : decode cX12_tryTable 71 = .ok (.invokevirtual 378, 3) := by decide +kernel
theorem dX12_tryTable_74 : decode cX12_tryTable 74 = .ok (.ifCond .ne 6, 3) := by decide +kernel
theorem dX12_tryTable_77 : decode cX12_tryTable 77 = .ok (.goto 20, 3) := by decide +kernel
theorem dX12_tryTable_80 : decode cX12_tryTable 80 = .ok (.aload_n 0, 1) := by decide +kernel
theorem dX12_tryTable_81 : decode cX12_tryTable 81 = .ok (.getfield 123, 3) := by decide +kernel
theorem dX12_tryTable_84 : decode cX12_tryTable 84 = .ok (.iload_n 1, 1) := by decide +kernel
theorem dX12_tryTable_85 : decode cX12_tryTable 85 = .ok (.iload_n 3, 1) := by decide +kernel
theorem dX12_tryTable_86 : decode cX12_tryTable 86 = .ok (.iastore, 1) := by decide +kernel
theorem dX12_tryTable_87 : decode cX12_tryTable 87 = .ok (.aload_n 0, 1) := by decide +kernel
theorem dX12_tryTable_88 : decode cX12_tryTable 88 = .ok (.iload_n 1, 1) := by decide +kernel
theorem dX12_tryTable_89 : decode cX12_tryTable 89 = .ok (.iconst 1, 1) := by decide +kernel
theorem dX12_tryTable_90 : decode cX12_tryTable 90 = .ok (.iadd, 1) := by decide +kernel
theorem dX12_tryTable_91 : decode cX12_tryTable 91 = .ok (.iload_n 2, 1) := by decide +kernel
theorem dX12_tryTable_92 : decode cX12_tryTable 92 = .ok (.iconst 1, 1) := by decide +kernel
theorem dX12_tryTable_93 : decode cX12_tryTable 93 = .ok (.iadd, 1) := by decide +kernel
theorem dX12_tryTable_94 : decode cX12_tryTable 94 = .ok (.invokevirtual 381, 3) := by decide +kernel
theorem dX12_tryTable_97 : decode cX12_tryTable 97 = .ok (.iinc 3 1, 3) := by decide +kernel
theorem dX12_tryTable_100 : decode cX12_tryTable 100 = .ok (.goto (-40), 3) := by decide +kernel
theorem dX12_tryTable_103 : decode cX12_tryTable 103 = .ok (.aload_n 0, 1) := by decide +kernel
theorem dX12_tryTable_104 : decode cX12_tryTable 104 = .ok (.getfield 123, 3) := by decide +kernel
theorem dX12_tryTable_107 : decode cX12_tryTable 107 = .ok (.iload_n 1, 1) := by decide +kernel
theorem dX12_tryTable_108 : decode cX12_tryTable 108 = .ok (.iconst (-1), 1) := by decide +kernel
theorem dX12_tryTable_109 : decode cX12_tryTable 109 = .ok (.iastore, 1) := by decide +kernel
theorem dX12_tryTable_110 : decode cX12_tryTable 110 = .ok (.aload_n 0, 1) := by decide +kernel
theorem dX12_tryTable_111 : decode cX12_tryTable 111 = .ok (.iload_n 1, 1) := by decide +kernel
theorem dX12_tryTable_112 : decode cX12_tryTable 112 = .ok (.iconst 1, 1) := by decide +kernel
theorem dX12_tryTable_113 : decode cX12_tryTable 113 = .ok (.iadd, 1) := by decide +kernel
theorem dX12_tryTable_114 : decode cX12_tryTable 114 = .ok (.iload_n 2, 1) := by decide +kernel
theorem dX12_tryTable_115 : decode cX12_tryTable 115 = .ok (.invokevirtual 381, 3) := by decide +kernel
theorem dX12_tryTable_118 : decode cX12_tryTable 118 = .ok (.return_, 1) := by decide +kernel
theorem dX12_want_0 : decode cX12_want 0 = .ok (.aload_n 0, 1) := by decide +kernel
theorem dX12_want_1 : decode cX12_want 1 = .ok (.iconst 0, 1) := by decide +kernel
theorem dX12_want_2 : decode cX12_want 2 = .ok (.putfield 138, 3) := by decide +kernel
theorem dX12_want_5 : decode cX12_want 5 = .ok (.aload_n 0, 1) := by decide +kernel
theorem dX12_want_6 : decode cX12_want 6 = .ok (.getfield 372, 3) := by decide +kernel
theorem dX12_want_9 : decode cX12_want 9 = .ok (.bipush 8, 2) := by decide +kernel
theorem dX12_want_11 : decode cX12_want 11 = .ok (.if_icmp .eq 23, 3) := by decide +kernel
theorem dX12_want_14 : decode cX12_want 14 = .ok (.iload_n 1, 1) := by decide +kernel
theorem dX12_want_15 : decode cX12_want 15 = .ok (.iconst 0, 1) := by decide +kernel
theorem dX12_want_16 : decode cX12_want 16 = .ok (.bipush 7, 2) := by decide +kernel
theorem dX12_want_18 : decode cX12_want 18 = .ok (.invokestatic 145, 3) := by decide +kernel
theorem dX12_want_21 : decode cX12_want 21 = .ok (.ifCond .eq 13, 3) := by decide +kernel
theorem dX12_want_24 : decode cX12_want 24 = .ok (.iload_n 2, 1) := by decide +kernel
theorem dX12_want_25 : decode cX12_want 25 = .ok (.iconst 0, 1) := by decide +kernel
theorem dX12_want_26 : decode cX12_want 26 = .ok (.bipush 23, 2) := by decide +kernel
theorem dX12_want_28 : decode cX12_want 28 = .ok (.invokestatic 145, 3) := by decide +kernel
theorem dX12_want_31 : decode cX12_want 31 = .ok (.ifCond .ne 5, 3) := by decide +kernel
theorem dX12_want_34 : decode cX12_want 34 = .ok (.iconst (-1), 1) := by decide +kernel
theorem dX12_want_35 : decode cX12_want 35 = .ok (.ireturn, 1) := by decide +kernel
theorem dX12_want_36 : decode cX12_want 36 = .ok (.aload_n 0, 1) := by decide +kernel
theorem dX12_want_37 : decode cX12_want 37 = .ok (.getfield 117, 3) := by decide +kernel
theorem dX12_want_40 : decode cX12_want 40 = .ok (.aload_n 0, 1) := by decide +kernel
theorem dX12_want_41 : decode cX12_want 41 = .ok (.getfield 372, 3) := by decide +kernel
theorem dX12_want_44 : decode cX12_want 44 = .ok (.iload_n 1, 1) := by decide +kernel
theorem dX12_want_45 : decode cX12_want 45 = .ok (.iastore, 1) := by decide +kernel
theorem dX12_want_46 : decode cX12_want 46 = .ok (.aload_n 0, 1) := by decide +kernel
theorem dX12_want_47 : decode cX12_want 47 = .ok (.getfield 120, 3) := by decide +kernel
theorem dX12_want_50 : decode cX12_want 50 = .ok (.aload_n 0, 1) := by decide +kernel
theorem dX12_want_51 : decode cX12_want 51 = .ok (.getfield 372, 3) := by decide +kernel
theorem dX12_want_54 : decode cX12_want 54 = .ok (.iload_n 2, 1) := by decide +kernel
theorem dX12_want_55 : decode cX12_want 55 = .ok (.iastore, 1) := by decide +kernel
theorem dX12_want_56 : decode cX12_want 56 = .ok (.aload_n 0, 1) := by decide +kernel
theorem dX12_want_57 : decode cX12_want 57 = .ok (.dup, 1) := by decide +kernel
theorem dX12_want_58 : decode cX12_want 58 = .ok (.getfield 372, 3) := by decide +kernel
theorem dX12_want_61 : decode cX12_want 61 = .ok (.iconst 1, 1) := by decide +kernel
theorem dX12_want_62 : decode cX12_want 62 = .ok (.iadd, 1) := by decide +kernel
theorem dX12_want_63 : decode cX12_want 63 = .ok (.putfield 372, 3) := by decide +kernel
theorem dX12_want_66 : decode cX12_want 66 = .ok (.aload_n 0, 1) := by decide +kernel
theorem dX12_want_67 : decode cX12_want 67 = .ok (.getfield 372, 3) := by decide +kernel
theorem dX12_want_70 : decode cX12_want 70 = .ok (.iconst 1, 1) := by decide +kernel
theorem dX12_want_71 : decode cX12_want 71 = .ok (.isub, 1) := by decide +kernel
theorem dX12_want_72 : decode cX12_want 72 = .ok (.ireturn, 1) := by decide +kernel
theorem dX12_watcher_0 : decode cX12_watcher 0 = .ok (.aload_n 0, 1) := by decide +kernel
theorem dX12_watcher_1 : decode cX12_watcher 1 = .ok (.iconst 0, 1) := by decide +kernel
theorem dX12_watcher_2 : decode cX12_watcher 2 = .ok (.putfield 138, 3) := by decide +kernel
theorem dX12_watcher_5 : decode cX12_watcher 5 = .ok (.aload_n 0, 1) := by decide +kernel
theorem dX12_watcher_6 : decode cX12_watcher 6 = .ok (.getfield 369, 3) := by decide +kernel
theorem dX12_watcher_9 : decode cX12_watcher 9 = .ok (.iconst 4, 1) := by decide +kernel
theorem dX12_watcher_10 : decode cX12_watcher 10 = .ok (.if_icmp .eq 23, 3) := by decide +kernel
theorem dX12_watcher_13 : decode cX12_watcher 13 = .ok (.iload_n 1, 1) := by decide +kernel
theorem dX12_watcher_14 : decode cX12_watcher 14 = .ok (.iconst 0, 1) := by decide +kernel
theorem dX12_watcher_15 : decode cX12_watcher 15 = .ok (.bipush 23, 2) := by decide +kernel
theorem dX12_watcher_17 : decode cX12_watcher 17 = .ok (.invokestatic 145, 3) := by decide +kernel
theorem dX12_watcher_20 : decode cX12_watcher 20 = .ok (.ifCond .eq 13, 3) := by decide +kernel
theorem dX12_watcher_23 : decode cX12_watcher 23 = .ok (.iload_n 2, 1) := by decide +kernel
theorem dX12_watcher_24 : decode cX12_watcher 24 = .ok (.iload_n 1, 1) := by decide +kernel
theorem dX12_watcher_25 : decode cX12_watcher 25 = .ok (.bipush 23, 2) := by decide +kernel
theorem dX12_watcher_27 : decode cX12_watcher 27 = .ok (.invokestatic 145, 3) := by decide +kernel
theorem dX12_watcher_30 : decode cX12_watcher 30 = .ok (.ifCond .ne 5, 3) := by decide +kernel
theorem dX12_watcher_33 : decode cX12_watcher 33 = .ok (.iconst (-1), 1) := by decide +kernel
theorem dX12_watcher_34 : decode cX12_watcher 34 = .ok (.ireturn, 1) := by decide +kernel
theorem dX12_watcher_35 : decode cX12_watcher 35 = .ok (.aload_n 0, 1) := by decide +kernel
theorem dX12_watcher_36 : decode cX12_watcher 36 = .ok (.getfield 111, 3) := by decide +kernel
theorem dX12_watcher_39 : decode cX12_watcher 39 = .ok (.aload_n 0, 1) := by decide +kernel
theorem dX12_watcher_40 : decode cX12_watcher 40 = .ok (.getfield 369, 3) := by decide +kernel
theorem dX12_watcher_43 : decode cX12_watcher 43 = .ok (.iload_n 1, 1) := by decide +kernel
theorem dX12_watcher_44 : decode cX12_watcher 44 = .ok (.iastore, 1) := by decide +kernel
theorem dX12_watcher_45 : decode cX12_watcher 45 = .ok (.aload_n 0, 1) := by decide +kernel
theorem dX12_watcher_46 : decode cX12_watcher 46 = .ok (.getfield 114, 3) := by decide +kernel
theorem dX12_watcher_49 : decode cX12_watcher 49 = .ok (.aload_n 0, 1) := by decide +kernel
theorem dX12_watcher_50 : decode cX12_watcher 50 = .ok (.getfield 369, 3) := by decide +kernel
theorem dX12_watcher_53 : decode cX12_watcher 53 = .ok (.iload_n 2, 1) := by decide +kernel
theorem dX12_watcher_54 : decode cX12_watcher 54 = .ok (.iastore, 1) := by decide +kernel
theorem dX12_watcher_55 : decode cX12_watcher 55 = .ok (.aload_n 0, 1) := by decide +kernel
theorem dX12_watcher_56 : decode cX12_watcher 56 = .ok (.dup, 1) := by decide +kernel
theorem dX12_watcher_57 : decode cX12_watcher 57 = .ok (.getfield 369, 3) := by decide +kernel
theorem dX12_watcher_60 : decode cX12_watcher 60 = .ok (.iconst 1, 1) := by decide +kernel
theorem dX12_watcher_61 : decode cX12_watcher 61 = .ok (.iadd, 1) := by decide +kernel
theorem dX12_watcher_62 : decode cX12_watcher 62 = .ok (.putfield 369, 3) := by decide +kernel
theorem dX12_watcher_65 : decode cX12_watcher 65 = .ok (.aload_n 0, 1) := by decide +kernel
theorem dX12_watcher_66 : decode cX12_watcher 66 = .ok (.getfield 369, 3) := by decide +kernel
theorem dX12_watcher_69 : decode cX12_watcher 69 = .ok (.iconst 1, 1) := by decide +kernel
theorem dX12_watcher_70 : decode cX12_watcher 70 = .ok (.isub, 1) := by decide +kernel
theorem dX12_watcher_71 : decode cX12_watcher 71 = .ok (.ireturn, 1) := by decide +kernel
theorem dX12_wordOf_0 : decode cX12_wordOf 0 = .ok (.iconst (-1), 1) := by decide +kernel
theorem dX12_wordOf_1 : decode cX12_wordOf 1 = .ok (.istore 4, 2) := by decide +kernel
theorem dX12_wordOf_3 : decode cX12_wordOf 3 = .ok (.iconst 0, 1) := by decide +kernel
theorem dX12_wordOf_4 : decode cX12_wordOf 4 = .ok (.istore 5, 2) := by decide +kernel
theorem dX12_wordOf_6 : decode cX12_wordOf 6 = .ok (.iload 5, 2) := by decide +kernel
theorem dX12_wordOf_8 : decode cX12_wordOf 8 = .ok (.aload_n 0, 1) := by decide +kernel
theorem dX12_wordOf_9 : decode cX12_wordOf 9 = .ok (.getfield 152, 3) := by decide +kernel
theorem dX12_wordOf_12 : decode cX12_wordOf 12 = .ok (.if_icmp .ge 69, 3) := by decide +kernel
theorem dX12_wordOf_15 : decode cX12_wordOf 15 = .ok (.aload_n 0, 1) := by decide +kernel
theorem dX12_wordOf_16 : decode cX12_wordOf 16 = .ok (.getfield 28, 3) := by decide +kernel
theorem dX12_wordOf_19 : decode cX12_wordOf 19 = .ok (.iload 5, 2) := by decide +kernel
theorem dX12_wordOf_21 : decode cX12_wordOf 21 = .ok (.iaload, 1) := by decide +kernel
theorem dX12_wordOf_22 : decode cX12_wordOf 22 = .ok (.iload_n 1, 1) := by decide +kernel
theorem dX12_wordOf_23 : decode cX12_wordOf 23 = .ok (.if_icmp .ne 52, 3) := by decide +kernel
theorem dX12_wordOf_26 : decode cX12_wordOf 26 = .ok (.aload_n 0, 1) := by decide +kernel
theorem dX12_wordOf_27 : decode cX12_wordOf 27 = .ok (.getfield 40, 3) := by decide +kernel
theorem dX12_wordOf_30 : decode cX12_wordOf 30 = .ok (.iload 5, 2) := by decide +kernel
theorem dX12_wordOf_32 : decode cX12_wordOf 32 = .ok (.iaload, 1) := by decide +kernel
theorem dX12_wordOf_33 : decode cX12_wordOf 33 = .ok (.iload_n 2, 1) := by decide +kernel
theorem dX12_wordOf_34 : decode cX12_wordOf 34 = .ok (.if_icmp .ne 41, 3) := by decide +kernel
theorem dX12_wordOf_37 : decode cX12_wordOf 37 = .ok (.aload_n 0, 1) := by decide +kernel
theorem dX12_wordOf_38 : decode cX12_wordOf 38 = .ok (.getfield 46, 3) := by decide +kernel
theorem dX12_wordOf_41 : decode cX12_wordOf 41 = .ok (.iload 5, 2) := by decide +kernel
theorem dX12_wordOf_43 : decode cX12_wordOf 43 = .ok (.iaload, 1) := by decide +kernel
theorem dX12_wordOf_44 : decode cX12_wordOf 44 = .ok (.iload_n 3, 1) := by decide +kernel
theorem dX12_wordOf_45 : decode cX12_wordOf 45 = .ok (.if_icmp .gt 30, 3) := by decide +kernel
theorem dX12_wordOf_48 : decode cX12_wordOf 48 = .ok (.iload 4, 2) := by decide +kernel
theorem dX12_wordOf_50 : decode cX12_wordOf 50 = .ok (.iconst (-1), 1) := by decide +kernel
theorem dX12_wordOf_51 : decode cX12_wordOf 51 = .ok (.if_icmp .eq 20, 3) := by decide +kernel
theorem dX12_wordOf_54 : decode cX12_wordOf 54 = .ok (.aload_n 0, 1) := by decide +kernel
theorem dX12_wordOf_55 : decode cX12_wordOf 55 = .ok (.getfield 31, 3) := by decide +kernel
theorem dX12_wordOf_58 : decode cX12_wordOf 58 = .ok (.iload 5, 2) := by decide +kernel
theorem dX12_wordOf_60 : decode cX12_wordOf 60 = .ok (.iaload, 1) := by decide +kernel
theorem dX12_wordOf_61 : decode cX12_wordOf 61 = .ok (.aload_n 0, 1) := by decide +kernel
theorem dX12_wordOf_62 : decode cX12_wordOf 62 = .ok (.getfield 31, 3) := by decide +kernel
theorem dX12_wordOf_65 : decode cX12_wordOf 65 = .ok (.iload 4, 2) := by decide +kernel
theorem dX12_wordOf_67 : decode cX12_wordOf 67 = .ok (.iaload, 1) := by decide +kernel
theorem dX12_wordOf_68 : decode cX12_wordOf 68 = .ok (.if_icmp .ge 7, 3) := by decide +kernel
theorem dX12_wordOf_71 : decode cX12_wordOf 71 = .ok (.iload 5, 2) := by decide +kernel
theorem dX12_wordOf_73 : decode cX12_wordOf 73 = .ok (.istore 4, 2) := by decide +kernel
theorem dX12_wordOf_75 : decode cX12_wordOf 75 = .ok (.iinc 5 1, 3) := by decide +kernel
theorem dX12_wordOf_78 : decode cX12_wordOf 78 = .ok (.goto (-72), 3) := by decide +kernel
theorem dX12_wordOf_81 : decode cX12_wordOf 81 = .ok (.iload 4, 2) := by decide +kernel
theorem dX12_wordOf_83 : decode cX12_wordOf 83 = .ok (.ireturn, 1) := by decide +kernel
