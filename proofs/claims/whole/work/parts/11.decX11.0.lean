theorem dX11_agree_0 : decode cX11_agree 0 = .ok (.iload_n 1, 1) := by decide +kernel
theorem dX11_agree_1 : decode cX11_agree 1 = .ok (.invokestatic 316, 3) := by decide +kernel
theorem dX11_agree_4 : decode cX11_agree 4 = .ok (.ifCond .eq 33, 3) := by decide +kernel
theorem dX11_agree_7 : decode cX11_agree 7 = .ok (.iload_n 2, 1) := by decide +kernel
theorem dX11_agree_8 : decode cX11_agree 8 = .ok (.invokestatic 316, 3) := by decide +kernel
theorem dX11_agree_11 : decode cX11_agree 11 = .ok (.ifCond .eq 26, 3) := by decide +kernel
theorem dX11_agree_14 : decode cX11_agree 14 = .ok (.iload_n 1, 1) := by decide +kernel
theorem dX11_agree_15 : decode cX11_agree 15 = .ok (.iload_n 2, 1) := by decide +kernel
theorem dX11_agree_16 : decode cX11_agree 16 = .ok (.if_icmp .eq 21, 3) := by decide +kernel
theorem dX11_agree_19 : decode cX11_agree 19 = .ok (.aload_n 0, 1) := by decide +kernel
theorem dX11_agree_20 : decode cX11_agree 20 = .ok (.iload_n 3, 1) := by decide +kernel
theorem dX11_agree_21 : decode cX11_agree 21 = .ok (.invokevirtual 158, 3) := by decide +kernel
theorem dX11_agree_24 : decode cX11_agree 24 = .ok (.ifCond .eq 13, 3) := by decide +kernel
theorem dX11_agree_27 : decode cX11_agree 27 = .ok (.iload 4, 2) := by decide +kernel
theorem dX11_agree_29 : decode cX11_agree 29 = .ok (.iconst 0, 1) := by decide +kernel
theorem dX11_agree_30 : decode cX11_agree 30 = .ok (.iconst 1, 1) := by decide +kernel
theorem dX11_agree_31 : decode cX11_agree 31 = .ok (.invokestatic 92, 3) := by decide +kernel
theorem dX11_agree_34 : decode cX11_agree 34 = .ok (.ifCond .ne 5, 3) := by decide +kernel
theorem dX11_agree_37 : decode cX11_agree 37 = .ok (.iconst (-1), 1) := by decide +kernel
theorem dX11_agree_38 : decode cX11_agree 38 = .ok (.ireturn, 1) := by decide +kernel
theorem dX11_agree_39 : decode cX11_agree 39 = .ok (.aload_n 0, 1) := by decide +kernel
theorem dX11_agree_40 : decode cX11_agree 40 = .ok (.iload_n 3, 1) := by decide +kernel
theorem dX11_agree_41 : decode cX11_agree 41 = .ok (.invokevirtual 322, 3) := by decide +kernel
theorem dX11_agree_44 : decode cX11_agree 44 = .ok (.iconst 0, 1) := by decide +kernel
theorem dX11_agree_45 : decode cX11_agree 45 = .ok (.istore 5, 2) := by decide +kernel
theorem dX11_agree_47 : decode cX11_agree 47 = .ok (.iconst 0, 1) := by decide +kernel
theorem dX11_agree_48 : decode cX11_agree 48 = .ok (.istore 6, 2) := by decide +kernel
theorem dX11_agree_50 : decode cX11_agree 50 = .ok (.iconst 0, 1) := by decide +kernel
theorem dX11_agree_51 : decode cX11_agree 51 = .ok (.istore 7, 2) := by decide +kernel
theorem dX11_agree_53 : decode cX11_agree 53 = .ok (.iload 7, 2) := by decide +kernel
theorem dX11_agree_55 : decode cX11_agree 55 = .ok (.aload_n 0, 1) := by decide +kernel
theorem dX11_agree_56 : decode cX11_agree 56 = .ok (.getfield 16, 3) := by decide +kernel
theorem dX11_agree_59 : decode cX11_agree 59 = .ok (.invokevirtual 100, 3) := by decide +kernel
theorem dX11_agree_62 : decode cX11_agree 62 = .ok (.if_icmp .ge 63, 3) := by decide +kernel
theorem dX11_agree_65 : decode cX11_agree 65 = .ok (.aload_n 0, 1) := by decide +kernel
theorem dX11_agree_66 : decode cX11_agree 66 = .ok (.getfield 60, 3) := by decide +kernel
theorem dX11_agree_69 : decode cX11_agree 69 = .ok (.iload_n 1, 1) := by decide +kernel
theorem dX11_agree_70 : decode cX11_agree 70 = .ok (.aaload, 1) := by decide +kernel
theorem dX11_agree_71 : decode cX11_agree 71 = .ok (.iload 7, 2) := by decide +kernel
theorem dX11_agree_73 : decode cX11_agree 73 = .ok (.iaload, 1) := by decide +kernel
theorem dX11_agree_74 : decode cX11_agree 74 = .ok (.istore 8, 2) := by decide +kernel
theorem dX11_agree_76 : decode cX11_agree 76 = .ok (.aload_n 0, 1) := by decide +kernel
theorem dX11_agree_77 : decode cX11_agree 77 = .ok (.getfield 60, 3) := by decide +kernel
theorem dX11_agree_80 : decode cX11_agree 80 = .ok (.iload_n 2, 1) := by decide +kernel
theorem dX11_agree_81 : decode cX11_agree 81 = .ok (.aaload, 1) := by decide +kernel
theorem dX11_agree_82 : decode cX11_agree 82 = .ok (.iload 7, 2) := by decide +kernel
theorem dX11_agree_84 : decode cX11_agree 84 = .ok (.iaload, 1) := by decide +kernel
theorem dX11_agree_85 : decode cX11_agree 85 = .ok (.istore 9, 2) := by decide +kernel
theorem dX11_agree_87 : decode cX11_agree 87 = .ok (.iload 8, 2) := by decide +kernel
theorem dX11_agree_89 : decode cX11_agree 89 = .ok (.iconst (-1), 1) := by decide +kernel
theorem dX11_agree_90 : decode cX11_agree 90 = .ok (.if_icmp .eq 29, 3) := by decide +kernel
theorem dX11_agree_93 : decode cX11_agree 93 = .ok (.iload 9, 2) := by decide +kernel
theorem dX11_agree_95 : decode cX11_agree 95 = .ok (.iconst (-1), 1) := by decide +kernel
theorem dX11_agree_96 : decode cX11_agree 96 = .ok (.if_icmp .eq 23, 3) := by decide +kernel
theorem dX11_agree_99 : decode cX11_agree 99 = .ok (.iinc 5 1, 3) := by decide +kernel
theorem dX11_agree_102 : decode cX11_agree 102 = .ok (.iload 6, 2) := by decide +kernel
theorem dX11_agree_104 : decode cX11_agree 104 = .ok (.iload 8, 2) := by decide +kernel
theorem dX11_agree_106 : decode cX11_agree 106 = .ok (.iload 9, 2) := by decide +kernel
theorem dX11_agree_108 : decode cX11_agree 108 = .ok (.if_icmp .ne 7, 3) := by decide +kernel
theorem dX11_agree_111 : decode cX11_agree 111 = .ok (.iconst 1, 1) := by decide +kernel
theorem dX11_agree_112 : decode cX11_agree 112 = .ok (.goto 4, 3) := by decide +kernel
theorem dX11_agree_115 : decode cX11_agree 115 = .ok (.iconst 0, 1) := by decide +kernel
theorem dX11_agree_116 : decode cX11_agree 116 = .ok (.iadd, 1) := by decide +kernel
theorem dX11_agree_117 : decode cX11_agree 117 = .ok (.istore 6, 2) := by decide +kernel
theorem dX11_agree_119 : decode cX11_agree 119 = .ok (.iinc 7 1, 3) := by decide +kernel
theorem dX11_agree_122 : decode cX11_agree 122 = .ok (.goto (-69), 3) := by decide +kernel
theorem dX11_agree_125 : decode cX11_agree 125 = .ok (.iload 4, 2) := by decide +kernel
theorem dX11_agree_127 : decode cX11_agree 127 = .ok (.ifCond .ne 8, 3) := by decide +kernel
theorem dX11_agree_130 : decode cX11_agree 130 = .ok (.iload 6, 2) := by decide +kernel
theorem dX11_agree_132 : decode cX11_agree 132 = .ok (.goto 5, 3) := by decide +kernel
theorem dX11_agree_135 : decode cX11_agree 135 = .ok (.iload 5, 2) := by decide +kernel
theorem dX11_agree_137 : decode cX11_agree 137 = .ok (.ireturn, 1) := by decide +kernel
theorem dX11_alike_0 : decode cX11_alike 0 = .ok (.aload_n 0, 1) := by decide +kernel
theorem dX11_alike_1 : decode cX11_alike 1 = .ok (.iload_n 1, 1) := by decide +kernel
theorem dX11_alike_2 : decode cX11_alike 2 = .ok (.invokevirtual 112, 3) := by decide +kernel
theorem dX11_alike_5 : decode cX11_alike 5 = .ok (.ifCond .eq 13, 3) := by decide +kernel
theorem dX11_alike_8 : decode cX11_alike 8 = .ok (.iload_n 2, 1) := by decide +kernel
theorem dX11_alike_9 : decode cX11_alike 9 = .ok (.iconst 0, 1) := by decide +kernel
theorem dX11_alike_10 : decode cX11_alike 10 = .ok (.bipush 7, 2) := by decide +kernel
theorem dX11_alike_12 : decode cX11_alike 12 = .ok (.invokestatic 92, 3) := by decide +kernel
theorem dX11_alike_15 : decode cX11_alike 15 = .ok (.ifCond .ne 5, 3) := by decide +kernel
theorem dX11_alike_18 : decode cX11_alike 18 = .ok (.iconst (-1), 1) := by decide +kernel
theorem dX11_alike_19 : decode cX11_alike 19 = .ok (.ireturn, 1) := by decide +kernel
theorem dX11_alike_20 : decode cX11_alike 20 = .ok (.aload_n 0, 1) := by decide +kernel
theorem dX11_alike_21 : decode cX11_alike 21 = .ok (.aload_n 0, 1) := by decide +kernel
theorem dX11_alike_22 : decode cX11_alike 22 = .ok (.getfield 10, 3) := by decide +kernel
theorem dX11_alike_25 : decode cX11_alike 25 = .ok (.iload_n 1, 1) := by decide +kernel
theorem dX11_alike_26 : decode cX11_alike 26 = .ok (.invokevirtual 126, 3) := by decide +kernel
theorem dX11_alike_29 : decode cX11_alike 29 = .ok (.checkcast 103, 3) := by decide +kernel
theorem dX11_alike_32 : decode cX11_alike 32 = .ok (.iload_n 2, 1) := by decide +kernel
theorem dX11_alike_33 : decode cX11_alike 33 = .ok (.invokevirtual 388, 3) := by decide +kernel
theorem dX11_alike_36 : decode cX11_alike 36 = .ok (.ireturn, 1) := by decide +kernel
theorem dX11_alikeTo_0 : decode cX11_alikeTo 0 = .ok (.iconst 0, 1) := by decide +kernel
theorem dX11_alikeTo_1 : decode cX11_alikeTo 1 = .ok (.istore_n 3, 1) := by decide +kernel
theorem dX11_alikeTo_2 : decode cX11_alikeTo 2 = .ok (.iconst 0, 1) := by decide +kernel
theorem dX11_alikeTo_3 : decode cX11_alikeTo 3 = .ok (.istore 4, 2) := by decide +kernel
theorem dX11_alikeTo_5 : decode cX11_alikeTo 5 = .ok (.iload 4, 2) := by decide +kernel
theorem dX11_alikeTo_7 : decode cX11_alikeTo 7 = .ok (.aload_n 0, 1) := by decide +kernel
theorem dX11_alikeTo_8 : decode cX11_alikeTo 8 = .ok (.getfield 10, 3) := by decide +kernel
theorem dX11_alikeTo_11 : decode cX11_alikeTo 11 = .ok (.invokevirtual 100, 3) := by decide +kernel
theorem dX11_alikeTo_14 : decode cX11_alikeTo 14 = .ok (.if_icmp .ge 32, 3) := by decide +kernel
theorem dX11_alikeTo_17 : decode cX11_alikeTo 17 = .ok (.aload_n 1, 1) := by decide +kernel
theorem dX11_alikeTo_18 : decode cX11_alikeTo 18 = .ok (.aload_n 0, 1) := by decide +kernel
theorem dX11_alikeTo_19 : decode cX11_alikeTo 19 = .ok (.getfield 10, 3) := by decide +kernel
theorem dX11_alikeTo_22 : decode cX11_alikeTo 22 = .ok (.iload 4, 2) := by decide +kernel
theorem dX11_alikeTo_24 : decode cX11_alikeTo 24 = .ok (.invokevirtual 126, 3) := by decide +kernel
theorem dX11_alikeTo_27 : decode cX11_alikeTo 27 = .ok (.checkcast 103, 3) := by decide +kernel
theorem dX11_alikeTo_30 : decode cX11_alikeTo 30 = .ok (.iload_n 2, 1) := by decide +kernel
theorem dX11_alikeTo_31 : decode cX11_alikeTo 31 = .ok (.invokevirtual 392, 3) := by decide +kernel
theorem dX11_alikeTo_34 : decode cX11_alikeTo 34 = .ok (.ifCond .eq 6, 3) := by decide +kernel
theorem dX11_alikeTo_37 : decode cX11_alikeTo 37 = .ok (.iinc 3 1, 3) := by decide +kernel
theorem dX11_alikeTo_40 : decode cX11_alikeTo 40 = .ok (.iinc 4 1, 3) := by decide +kernel
theorem dX11_alikeTo_43 : decode cX11_alikeTo 43 = .ok (.goto (-38), 3) := by decide +kernel
theorem dX11_alikeTo_46 : decode cX11_alikeTo 46 = .ok (.iload_n 3, 1) := by decide +kernel
theorem dX11_alikeTo_47 : decode cX11_alikeTo 47 = .ok (.ireturn, 1) := by decide +kernel
theorem dX11_allHaveAlike_0 : decode cX11_allHaveAlike 0 = .ok (.iconst 0, 1) := by decide +kernel
theorem dX11_allHaveAlike_1 : decode cX11_allHaveAlike 1 = .ok (.istore_n 3, 1) := by decide +kernel
theorem dX11_allHaveAlike_2 : decode cX11_allHaveAlike 2 = .ok (.iload_n 3, 1) := by decide +kernel
theorem dX11_allHaveAlike_3 : decode cX11_allHaveAlike 3 = .ok (.aload_n 0, 1) := by decide +kernel
theorem dX11_allHaveAlike_4 : decode cX11_allHaveAlike 4 = .ok (.getfield 10, 3) := by decide +kernel
theorem dX11_allHaveAlike_7 : decode cX11_allHaveAlike 7 = .ok (.invokevirtual 100, 3) := by decide +kernel
theorem dX11_allHaveAlike_10 : decode cX11_allHaveAlike 10 = .ok (.if_icmp .ge 31, 3) := by decide +kernel
theorem dX11_allHaveAlike_13 : decode cX11_allHaveAlike 13 = .ok (.aload_n 0, 1) := by decide +kernel
theorem dX11_allHaveAlike_14 : decode cX11_allHaveAlike 14 = .ok (.aload_n 0, 1) := by decide +kernel
theorem dX11_allHaveAlike_15 : decode cX11_allHaveAlike 15 = .ok (.getfield 10, 3) := by decide +kernel
theorem dX11_allHaveAlike_18 : decode cX11_allHaveAlike 18 = .ok (.iload_n 3, 1) := by decide +kernel
theorem dX11_allHaveAlike_19 : decode cX11_allHaveAlike 19 = .ok (.invokevirtual 126, 3) := by decide +kernel
theorem dX11_allHaveAlike_22 : decode cX11_allHaveAlike 22 = .ok (.checkcast 103, 3) := by decide +kernel
theorem dX11_allHaveAlike_25 : decode cX11_allHaveAlike 25 = .ok (.iload_n 2, 1) := by decide +kernel
theorem dX11_allHaveAlike_26 : decode cX11_allHaveAlike 26 = .ok (.invokevirtual 388, 3) := by decide +kernel
theorem dX11_allHaveAlike_29 : decode cX11_allHaveAlike 29 = .ok (.iload_n 1, 1) := by decide +kernel
theorem dX11_allHaveAlike_30 : decode cX11_allHaveAlike 30 = .ok (.if_icmp .ge 5, 3) := by decide +kernel
theorem dX11_allHaveAlike_33 : decode cX11_allHaveAlike 33 = .ok (.iconst 0, 1) := by decide +kernel
theorem dX11_allHaveAlike_34 : decode cX11_allHaveAlike 34 = .ok (.ireturn, 1) := by decide +kernel
theorem dX11_allHaveAlike_35 : decode cX11_allHaveAlike 35 = .ok (.iinc 3 1, 3) := by decide +kernel
theorem dX11_allHaveAlike_38 : decode cX11_allHaveAlike 38 = .ok (.goto (-36), 3) := by decide +kernel
theorem dX11_allHaveAlike_41 : decode cX11_allHaveAlike 41 = .ok (.iconst 1, 1) := by decide +kernel
theorem dX11_allHaveAlike_42 : decode cX11_allHaveAlike 42 = .ok (.ireturn, 1) := by decide +kernel
theorem dX11_allPeople_0 : decode cX11_allPeople 0 = .ok (.iconst 0, 1) := by decide +kernel
theorem dX11_allPeople_1 : decode cX11_allPeople 1 = .ok (.istore_n 1, 1) := by decide +kernel
theorem dX11_allPeople_2 : decode cX11_allPeople 2 = .ok (.iconst 0, 1) := by decide +kernel
theorem dX11_allPeople_3 : decode cX11_allPeople 3 = .ok (.istore_n 2, 1) := by decide +kernel
theorem dX11_allPeople_4 : decode cX11_allPeople 4 = .ok (.iload_n 2, 1) := by decide +kernel
theorem dX11_allPeople_5 : decode cX11_allPeople 5 = .ok (.bipush 8, 2) := by decide +kernel
theorem dX11_allPeople_7 : decode cX11_allPeople 7 = .ok (.if_icmp .ge 33, 3) := by decide +kernel
theorem dX11_allPeople_10 : decode cX11_allPeople 10 = .ok (.iconst 0, 1) := by decide +kernel
theorem dX11_allPeople_11 : decode cX11_allPeople 11 = .ok (.istore_n 3, 1) := by decide +kernel
theorem dX11_allPeople_12 : decode cX11_allPeople 12 = .ok (.iload_n 3, 1) := by decide +kernel
theorem dX11_allPeople_13 : decode cX11_allPeople 13 = .ok (.iconst 4, 1) := by decide +kernel
theorem dX11_allPeople_14 : decode cX11_allPeople 14 = .ok (.if_icmp .ge 20, 3) := by decide +kernel
theorem dX11_allPeople_17 : decode cX11_allPeople 17 = .ok (.iload_n 1, 1) := by decide +kernel
theorem dX11_allPeople_18 : decode cX11_allPeople 18 = .ok (.aload_n 0, 1) := by decide +kernel
theorem dX11_allPeople_19 : decode cX11_allPeople 19 = .ok (.getfield 57, 3) := by decide +kernel
theorem dX11_allPeople_22 : decode cX11_allPeople 22 = .ok (.iload_n 2, 1) := by decide +kernel
theorem dX11_allPeople_23 : decode cX11_allPeople 23 = .ok (.aaload, 1) := by decide +kernel
theorem dX11_allPeople_24 : decode cX11_allPeople 24 = .ok (.iload_n 3, 1) := by decide +kernel
theorem dX11_allPeople_25 : decode cX11_allPeople 25 = .ok (.iaload, 1) := by decide +kernel
theorem dX11_allPeople_26 : decode cX11_allPeople 26 = .ok (.iadd, 1) := by decide +kernel
theorem dX11_allPeople_27 : decode cX11_allPeople 27 = .ok (.istore_n 1, 1) := by decide +kernel
theorem dX11_allPeople_28 : decode cX11_allPeople 28 = .ok (.iinc 3 1, 3) := by decide +kernel
theorem dX11_allPeople_31 : decode cX11_allPeople 31 = .ok (.goto (-19), 3) := by decide +kernel
theorem dX11_allPeople_34 : decode cX11_allPeople 34 = .ok (.iinc 2 1, 3) := by decide +kernel
theorem dX11_allPeople_37 : decode cX11_allPeople 37 = .ok (.goto (-33), 3) := by decide +kernel
theorem dX11_allPeople_40 : decode cX11_allPeople 40 = .ok (.iload_n 1, 1) := by decide +kernel
theorem dX11_allPeople_41 : decode cX11_allPeople 41 = .ok (.ireturn, 1) := by decide +kernel
theorem dX11_asked_0 : decode cX11_asked 0 = .ok (.aload_n 0, 1) := by decide +kernel
theorem dX11_asked_1 : decode cX11_asked 1 = .ok (.iload_n 1, 1) := by decide +kernel
theorem dX11_asked_2 : decode cX11_asked 2 = .ok (.invokevirtual 112, 3) := by decide +kernel
theorem dX11_asked_5 : decode cX11_asked 5 = .ok (.ifCond .eq 26, 3) := by decide +kernel
theorem dX11_asked_8 : decode cX11_asked 8 = .ok (.iload_n 2, 1) := by decide +kernel
theorem dX11_asked_9 : decode cX11_asked 9 = .ok (.invokestatic 150, 3) := by decide +kernel
theorem dX11_asked_12 : decode cX11_asked 12 = .ok (.ifCond .eq 19, 3) := by decide +kernel
theorem dX11_asked_15 : decode cX11_asked 15 = .ok (.iload_n 3, 1) := by decide +kernel
theorem dX11_asked_16 : decode cX11_asked 16 = .ok (.invokestatic 115, 3) := by decide +kernel
theorem dX11_asked_19 : decode cX11_asked 19 = .ok (.ifCond .eq 12, 3) := by decide +kernel
theorem dX11_asked_22 : decode cX11_asked 22 = .ok (.aload_n 0, 1) := by decide +kernel
theorem dX11_asked_23 : decode cX11_asked 23 = .ok (.iload 4, 2) := by decide +kernel
theorem dX11_asked_25 : decode cX11_asked 25 = .ok (.invokevirtual 158, 3) := by decide +kernel
theorem dX11_asked_28 : decode cX11_asked 28 = .ok (.ifCond .ne 5, 3) := by decide +kernel
theorem dX11_asked_31 : decode cX11_asked 31 = .ok (.iconst (-1), 1) := by decide +kernel
theorem dX11_asked_32 : decode cX11_asked 32 = .ok (.ireturn, 1) := by decide +kernel
theorem dX11_asked_33 : decode cX11_asked 33 = .ok (.aload_n 0, 1) := by decide +kernel
theorem dX11_asked_34 : decode cX11_asked 34 = .ok (.aload_n 0, 1) := by decide +kernel
theorem dX11_asked_35 : decode cX11_asked 35 = .ok (.getfield 10, 3) := by decide +kernel
theorem dX11_asked_38 : decode cX11_asked 38 = .ok (.iload_n 1, 1) := by decide +kernel
theorem dX11_asked_39 : decode cX11_asked 39 = .ok (.invokevirtual 126, 3) := by decide +kernel
theorem dX11_asked_42 : decode cX11_asked 42 = .ok (.checkcast 103, 3) := by decide +kernel
theorem dX11_asked_45 : decode cX11_asked 45 = .ok (.invokevirtual 208, 3) := by decide +kernel
theorem dX11_asked_48 : decode cX11_asked 48 = .ok (.aload_n 0, 1) := by decide +kernel
theorem dX11_asked_49 : decode cX11_asked 49 = .ok (.getfield 71, 3) := by decide +kernel
theorem dX11_asked_52 : decode cX11_asked 52 = .ok (.iconst 3, 1) := by decide +kernel
theorem dX11_asked_53 : decode cX11_asked 53 = .ok (.iload_n 2, 1) := by decide +kernel
theorem dX11_asked_54 : decode cX11_asked 54 = .ok (.iastore, 1) := by decide +kernel
theorem dX11_asked_55 : decode cX11_asked 55 = .ok (.aload_n 0, 1) := by decide +kernel
theorem dX11_asked_56 : decode cX11_asked 56 = .ok (.getfield 71, 3) := by decide +kernel
theorem dX11_asked_59 : decode cX11_asked 59 = .ok (.iconst 4, 1) := by decide +kernel
theorem dX11_asked_60 : decode cX11_asked 60 = .ok (.iload_n 3, 1) := by decide +kernel
theorem dX11_asked_61 : decode cX11_asked 61 = .ok (.iastore, 1) := by decide +kernel
theorem dX11_asked_62 : decode cX11_asked 62 = .ok (.aload_n 0, 1) := by decide +kernel
theorem dX11_asked_63 : decode cX11_asked 63 = .ok (.bipush 113, 2) := by decide +kernel
theorem dX11_asked_65 : decode cX11_asked 65 = .ok (.aload_n 0, 1) := by decide +kernel
theorem dX11_asked_66 : decode cX11_asked 66 = .ok (.iload_n 2, 1) := by decide +kernel
theorem dX11_asked_67 : decode cX11_asked 67 = .ok (.iload 4, 2) := by decide +kernel
theorem dX11_asked_69 : decode cX11_asked 69 = .ok (.invokevirtual 197, 3) := by decide +kernel
theorem dX11_asked_72 : decode cX11_asked 72 = .ok (.invokevirtual 212, 3) := by decide +kernel
theorem dX11_asked_75 : decode cX11_asked 75 = .ok (.ifCond .eq 7, 3) := by decide +kernel
theorem dX11_asked_78 : decode cX11_asked 78 = .ok (.iconst 1, 1) := by decide +kernel
theorem dX11_asked_79 : decode cX11_asked 79 = .ok (.goto 4, 3) := by decide +kernel
theorem dX11_asked_82 : decode cX11_asked 82 = .ok (.iconst 0, 1) := by decide +kernel
theorem dX11_asked_83 : decode cX11_asked 83 = .ok (.ireturn, 1) := by decide +kernel
theorem dX11_bearers_0 : decode cX11_bearers 0 = .ok (.iload_n 1, 1) := by decide +kernel
theorem dX11_bearers_1 : decode cX11_bearers 1 = .ok (.invokestatic 133, 3) := by decide +kernel
theorem dX11_bearers_4 : decode cX11_bearers 4 = .ok (.ifCond .eq 11, 3) := by decide +kernel
theorem dX11_bearers_7 : decode cX11_bearers 7 = .ok (.aload_n 0, 1) := by decide +kernel
theorem dX11_bearers_8 : decode cX11_bearers 8 = .ok (.iload_n 2, 1) := by decide +kernel
theorem dX11_bearers_9 : decode cX11_bearers 9 = .ok (.invokevirtual 158, 3) := by decide +kernel
theorem dX11_bearers_12 : decode cX11_bearers 12 = .ok (.ifCond .ne 5, 3) := by decide +kernel
theorem dX11_bearers_15 : decode cX11_bearers 15 = .ok (.iconst (-1), 1) := by decide +kernel
theorem dX11_bearers_16 : decode cX11_bearers 16 = .ok (.ireturn, 1) := by decide +kernel
theorem dX11_bearers_17 : decode cX11_bearers 17 = .ok (.iconst 0, 1) := by decide +kernel
theorem dX11_bearers_18 : decode cX11_bearers 18 = .ok (.istore_n 3, 1) := by decide +kernel
theorem dX11_bearers_19 : decode cX11_bearers 19 = .ok (.iconst 0, 1) := by decide +kernel
theorem dX11_bearers_20 : decode cX11_bearers 20 = .ok (.istore 4, 2) := by decide +kernel
theorem dX11_bearers_22 : decode cX11_bearers 22 = .ok (.iload 4, 2) := by decide +kernel
theorem dX11_bearers_24 : decode cX11_bearers 24 = .ok (.aload_n 0, 1) := by decide +kernel
theorem dX11_bearers_25 : decode cX11_bearers 25 = .ok (.getfield 10, 3) := by decide +kernel
theorem dX11_bearers_28 : decode cX11_bearers 28 = .ok (.invokevirtual 100, 3) := by decide +kernel
theorem dX11_bearers_31 : decode cX11_bearers 31 = .ok (.if_icmp .ge 23, 3) := by decide +kernel
theorem dX11_bearers_34 : decode cX11_bearers 34 = .ok (.aload_n 0, 1) := by decide +kernel
theorem dX11_bearers_35 : decode cX11_bearers 35 = .ok (.iload 4, 2) := by decide +kernel
theorem dX11_bearers_37 : decode cX11_bearers 37 = .ok (.iload_n 1, 1) := by decide +kernel
theorem dX11_bearers_38 : decode cX11_bearers 38 = .ok (.iload_n 2, 1) := by decide +kernel
theorem dX11_bearers_39 : decode cX11_bearers 39 = .ok (.invokevirtual 301, 3) := by decide +kernel
theorem dX11_bearers_42 : decode cX11_bearers 42 = .ok (.ifnull 6, 3) := by decide +kernel
theorem dX11_bearers_45 : decode cX11_bearers 45 = .ok (.iinc 3 1, 3) := by decide +kernel
theorem dX11_bearers_48 : decode cX11_bearers 48 = .ok (.iinc 4 1, 3) := by decide +kernel
theorem dX11_bearers_51 : decode cX11_bearers 51 = .ok (.goto (-29), 3) := by decide +kernel
theorem dX11_bearers_54 : decode cX11_bearers 54 = .ok (.iload_n 3, 1) := by decide +kernel
theorem dX11_bearers_55 : decode cX11_bearers 55 = .ok (.ireturn, 1) := by decide +kernel
theorem dX11_beside_0 : decode cX11_beside 0 = .ok (.aload_n 0, 1) := by decide +kernel
theorem dX11_beside_1 : decode cX11_beside 1 = .ok (.iload_n 1, 1) := by decide +kernel
theorem dX11_beside_2 : decode cX11_beside 2 = .ok (.invokevirtual 429, 3) := by decide +kernel
theorem dX11_beside_5 : decode cX11_beside 5 = .ok (.ifCond .eq 16, 3) := by decide +kernel
theorem dX11_beside_8 : decode cX11_beside 8 = .ok (.iload 4, 2) := by decide +kernel
theorem dX11_beside_10 : decode cX11_beside 10 = .ok (.iconst 0, 1) := by decide +kernel
theorem dX11_beside_11 : decode cX11_beside 11 = .ok (.aload_n 0, 1) := by decide +kernel
theorem dX11_beside_12 : decode cX11_beside 12 = .ok (.getfield 88, 3) := by decide +kernel
theorem dX11_beside_15 : decode cX11_beside 15 = .ok (.invokestatic 92, 3) := by decide +kernel
theorem dX11_beside_18 : decode cX11_beside 18 = .ok (.ifCond .ne 7, 3) := by decide +kernel
theorem dX11_beside_21 : decode cX11_beside 21 = .ok (.ldc_w 335, 3) := by decide +kernel
theorem dX11_beside_24 : decode cX11_beside 24 = .ok (.ireturn, 1) := by decide +kernel
theorem dX11_beside_25 : decode cX11_beside 25 = .ok (.aload_n 0, 1) := by decide +kernel
theorem dX11_beside_26 : decode cX11_beside 26 = .ok (.iload_n 1, 1) := by decide +kernel
theorem dX11_beside_27 : decode cX11_beside 27 = .ok (.lload_n 2, 1) := by decide +kernel
theorem dX11_beside_28 : decode cX11_beside 28 = .ok (.invokevirtual 432, 3) := by decide +kernel
theorem dX11_beside_31 : decode cX11_beside 31 = .ok (.iconst 0, 1) := by decide +kernel
theorem dX11_beside_32 : decode cX11_beside 32 = .ok (.istore 5, 2) := by decide +kernel
theorem dX11_beside_34 : decode cX11_beside 34 = .ok (.iconst 0, 1) := by decide +kernel
theorem dX11_beside_35 : decode cX11_beside 35 = .ok (.istore 6, 2) := by decide +kernel
theorem dX11_beside_37 : decode cX11_beside 37 = .ok (.iload 6, 2) := by decide +kernel
theorem dX11_beside_39 : decode cX11_beside 39 = .ok (.aload_n 0, 1) := by decide +kernel
theorem dX11_beside_40 : decode cX11_beside 40 = .ok (.getfield 16, 3) := by decide +kernel
theorem dX11_beside_43 : decode cX11_beside 43 = .ok (.invokevirtual 100, 3) := by decide +kernel
theorem dX11_beside_46 : decode cX11_beside 46 = .ok (.if_icmp .ge 63, 3) := by decide +kernel
theorem dX11_beside_49 : decode cX11_beside 49 = .ok (.aload_n 0, 1) := by decide +kernel
theorem dX11_beside_50 : decode cX11_beside 50 = .ok (.getfield 16, 3) := by decide +kernel
theorem dX11_beside_53 : decode cX11_beside 53 = .ok (.iload 6, 2) := by decide +kernel
theorem dX11_beside_55 : decode cX11_beside 55 = .ok (.invokevirtual 126, 3) := by decide +kernel
theorem dX11_beside_58 : decode cX11_beside 58 = .ok (.checkcast 124, 3) := by decide +kernel
theorem dX11_beside_61 : decode cX11_beside 61 = .ok (.astore 7, 2) := by decide +kernel
theorem dX11_beside_63 : decode cX11_beside 63 = .ok (.aload 7, 2) := by decide +kernel
theorem dX11_beside_65 : decode cX11_beside 65 = .ok (.iload 4, 2) := by decide +kernel
theorem dX11_beside_67 : decode cX11_beside 67 = .ok (.aload_n 0, 1) := by decide +kernel
theorem dX11_beside_68 : decode cX11_beside 68 = .ok (.getfield 88, 3) := by decide +kernel
theorem dX11_beside_71 : decode cX11_beside 71 = .ok (.invokevirtual 264, 3) := by decide +kernel
theorem dX11_beside_74 : decode cX11_beside 74 = .ok (.ifCond .eq 29, 3) := by decide +kernel
theorem dX11_beside_77 : decode cX11_beside 77 = .ok (.aload_n 0, 1) := by decide +kernel
theorem dX11_beside_78 : decode cX11_beside 78 = .ok (.aload 7, 2) := by decide +kernel
theorem dX11_beside_80 : decode cX11_beside 80 = .ok (.getfield 243, 3) := by decide +kernel
theorem dX11_beside_83 : decode cX11_beside 83 = .ok (.getfield 309, 3) := by decide +kernel
theorem dX11_beside_86 : decode cX11_beside 86 = .ok (.iload_n 1, 1) := by decide +kernel
theorem dX11_beside_87 : decode cX11_beside 87 = .ok (.invokevirtual 440, 3) := by decide +kernel
theorem dX11_beside_90 : decode cX11_beside 90 = .ok (.ifCond .eq 13, 3) := by decide +kernel
theorem dX11_beside_93 : decode cX11_beside 93 = .ok (.iload 5, 2) := by decide +kernel
theorem dX11_beside_95 : decode cX11_beside 95 = .ok (.aload 7, 2) := by decide +kernel
theorem dX11_beside_97 : decode cX11_beside 97 = .ok (.getfield 250, 3) := by decide +kernel
theorem dX11_beside_100 : decode cX11_beside 100 = .ok (.iadd, 1) := by decide +kernel
theorem dX11_beside_101 : decode cX11_beside 101 = .ok (.istore 5, 2) := by decide +kernel
theorem dX11_beside_103 : decode cX11_beside 103 = .ok (.iinc 6 1, 3) := by decide +kernel
theorem dX11_beside_106 : decode cX11_beside 106 = .ok (.goto (-69), 3) := by decide +kernel
theorem dX11_beside_109 : decode cX11_beside 109 = .ok (.iload 5, 2) := by decide +kernel
theorem dX11_beside_111 : decode cX11_beside 111 = .ok (.ireturn, 1) := by decide +kernel
theorem dX11_buy_0 : decode cX11_buy 0 = .ok (.iload_n 1, 1) := by decide +kernel
theorem dX11_buy_1 : decode cX11_buy 1 = .ok (.invokestatic 406, 3) := by decide +kernel
theorem dX11_buy_4 : decode cX11_buy 4 = .ok (.ifCond .ne 5, 3) := by decide +kernel
theorem dX11_buy_7 : decode cX11_buy 7 = .ok (.iconst (-1), 1) := by decide +kernel
theorem dX11_buy_8 : decode cX11_buy 8 = .ok (.ireturn, 1) := by decide +kernel
theorem dX11_buy_9 : decode cX11_buy 9 = .ok (.iconst 0, 1) := by decide +kernel
theorem dX11_buy_10 : decode cX11_buy 10 = .ok (.istore_n 2, 1) := by decide +kernel
theorem dX11_buy_11 : decode cX11_buy 11 = .ok (.iconst 0, 1) := by decide +kernel
theorem dX11_buy_12 : decode cX11_buy 12 = .ok (.istore_n 3, 1) := by decide +kernel
theorem dX11_buy_13 : decode cX11_buy 13 = .ok (.iconst 0, 1) := by decide +kernel
theorem dX11_buy_14 : decode cX11_buy 14 = .ok (.istore 4, 2) := by decide +kernel
theorem dX11_buy_16 : decode cX11_buy 16 = .ok (.iconst 1, 1) := by decide +kernel
theorem dX11_buy_17 : decode cX11_buy 17 = .ok (.istore 5, 2) := by decide +kernel
theorem dX11_buy_19 : decode cX11_buy 19 = .ok (.iload 5, 2) := by decide +kernel
theorem dX11_buy_21 : decode cX11_buy 21 = .ok (.iconst 1, 1) := by decide +kernel
theorem dX11_buy_22 : decode cX11_buy 22 = .ok (.aload_n 0, 1) := by decide +kernel
theorem dX11_buy_23 : decode cX11_buy 23 = .ok (.getfield 31, 3) := by decide +kernel
theorem dX11_buy_26 : decode cX11_buy 26 = .ok (.invokevirtual 100, 3) := by decide +kernel
theorem dX11_buy_29 : decode cX11_buy 29 = .ok (.ishl, 1) := by decide +kernel
theorem dX11_buy_30 : decode cX11_buy 30 = .ok (.if_icmp .ge 95, 3) := by decide +kernel
theorem dX11_buy_33 : decode cX11_buy 33 = .ok (.aload_n 0, 1) := by decide +kernel
theorem dX11_buy_34 : decode cX11_buy 34 = .ok (.iload 5, 2) := by decide +kernel
theorem dX11_buy_36 : decode cX11_buy 36 = .ok (.invokevirtual 409, 3) := by decide +kernel
theorem dX11_buy_39 : decode cX11_buy 39 = .ok (.istore 6, 2) := by decide +kernel
theorem dX11_buy_41 : decode cX11_buy 41 = .ok (.aload_n 0, 1) := by decide +kernel
theorem dX11_buy_42 : decode cX11_buy 42 = .ok (.iload 5, 2) := by decide +kernel
theorem dX11_buy_44 : decode cX11_buy 44 = .ok (.invokevirtual 412, 3) := by decide +kernel
theorem dX11_buy_47 : decode cX11_buy 47 = .ok (.istore 7, 2) := by decide +kernel
theorem dX11_buy_49 : decode cX11_buy 49 = .ok (.iload 7, 2) := by decide +kernel
theorem dX11_buy_51 : decode cX11_buy 51 = .ok (.iload 4, 2) := by decide +kernel
theorem dX11_buy_53 : decode cX11_buy 53 = .ok (.if_icmp .ne 13, 3) := by decide +kernel
theorem dX11_buy_56 : decode cX11_buy 56 = .ok (.iload 6, 2) := by decide +kernel
theorem dX11_buy_58 : decode cX11_buy 58 = .ok (.iload_n 3, 1) := by decide +kernel
theorem dX11_buy_59 : decode cX11_buy 59 = .ok (.if_icmp .ne 7, 3) := by decide +kernel
theorem dX11_buy_62 : decode cX11_buy 62 = .ok (.iconst 1, 1) := by decide +kernel
theorem dX11_buy_63 : decode cX11_buy 63 = .ok (.goto 4, 3) := by decide +kernel
theorem dX11_buy_66 : decode cX11_buy 66 = .ok (.iconst 0, 1) := by decide +kernel
theorem dX11_buy_67 : decode cX11_buy 67 = .ok (.istore 8, 2) := by decide +kernel
theorem dX11_buy_69 : decode cX11_buy 69 = .ok (.iload 6, 2) := by decide +kernel
theorem dX11_buy_71 : decode cX11_buy 71 = .ok (.iload_n 1, 1) := by decide +kernel
theorem dX11_buy_72 : decode cX11_buy 72 = .ok (.if_icmp .gt 47, 3) := by decide +kernel
theorem dX11_buy_75 : decode cX11_buy 75 = .ok (.iload 7, 2) := by decide +kernel
theorem dX11_buy_77 : decode cX11_buy 77 = .ok (.iload 4, 2) := by decide +kernel
theorem dX11_buy_79 : decode cX11_buy 79 = .ok (.if_icmp .gt 30, 3) := by decide +kernel
theorem dX11_buy_82 : decode cX11_buy 82 = .ok (.iload 7, 2) := by decide +kernel
theorem dX11_buy_84 : decode cX11_buy 84 = .ok (.iload 4, 2) := by decide +kernel
theorem dX11_buy_86 : decode cX11_buy 86 = .ok (.if_icmp .ne 9, 3) := by decide +kernel
theorem dX11_buy_89 : decode cX11_buy 89 = .ok (.iload 6, 2) := by decide +kernel
theorem dX11_buy_91 : decode cX11_buy 91 = .ok (.iload_n 3, 1) := by decide +kernel
theorem dX11_buy_92 : decode cX11_buy 92 = .ok (.if_icmp .lt 17, 3) := by decide +kernel
theorem dX11_buy_95 : decode cX11_buy 95 = .ok (.iload 8, 2) := by decide +kernel
theorem dX11_buy_97 : decode cX11_buy 97 = .ok (.ifCond .eq 22, 3) := by decide +kernel
theorem dX11_buy_100 : decode cX11_buy 100 = .ok (.iload 5, 2) := by decide +kernel
theorem dX11_buy_102 : decode cX11_buy 102 = .ok (.iload_n 2, 1) := by decide +kernel
theorem dX11_buy_103 : decode cX11_buy 103 = .ok (.invokestatic 415, 3) := by decide +kernel
theorem dX11_buy_106 : decode cX11_buy 106 = .ok (.ifCond .eq 13, 3) := by decide +kernel
theorem dX11_buy_109 : decode cX11_buy 109 = .ok (.iload 5, 2) := by decide +kernel
theorem dX11_buy_111 : decode cX11_buy 111 = .ok (.istore_n 2, 1) := by decide +kernel
theorem dX11_buy_112 : decode cX11_buy 112 = .ok (.iload 6, 2) := by decide +kernel
theorem dX11_buy_114 : decode cX11_buy 114 = .ok (.istore_n 3, 1) := by decide +kernel
theorem dX11_buy_115 : decode cX11_buy 115 = .ok (.iload 7, 2) := by decide +kernel
theorem dX11_buy_117 : decode cX11_buy 117 = .ok (.istore 4, 2) := by decide +kernel
theorem dX11_buy_119 : decode cX11_buy 119 = .ok (.iinc 5 1, 3) := by decide +kernel
theorem dX11_buy_122 : decode cX11_buy 122 = .ok (.goto (-103), 3) := by decide +kernel
theorem dX11_buy_125 : decode cX11_buy 125 = .ok (.iload_n 2, 1) := by decide +kernel
theorem dX11_buy_126 : decode cX11_buy 126 = .ok (.ireturn, 1) := by decide +kernel
theorem dX11_bytesIn_0 : decode cX11_bytesIn 0 = .ok (.iconst 0, 1) := by decide +kernel
theorem dX11_bytesIn_1 : decode cX11_bytesIn 1 = .ok (.istore_n 1, 1) := by decide +kernel
theorem dX11_bytesIn_2 : decode cX11_bytesIn 2 = .ok (.iconst 0, 1) := by decide +kernel
theorem dX11_bytesIn_3 : decode cX11_bytesIn 3 = .ok (.istore_n 2, 1) := by decide +kernel
theorem dX11_bytesIn_4 : decode cX11_bytesIn 4 = .ok (.iload_n 2, 1) := by decide +kernel
theorem dX11_bytesIn_5 : decode cX11_bytesIn 5 = .ok (.bipush 24, 2) := by decide +kernel
theorem dX11_bytesIn_7 : decode cX11_bytesIn 7 = .ok (.if_icmp .gt 22, 3) := by decide +kernel
theorem dX11_bytesIn_10 : decode cX11_bytesIn 10 = .ok (.iload_n 0, 1) := by decide +kernel
theorem dX11_bytesIn_11 : decode cX11_bytesIn 11 = .ok (.iload_n 2, 1) := by decide +kernel
theorem dX11_bytesIn_12 : decode cX11_bytesIn 12 = .ok (.iushr, 1) := by decide +kernel
theorem dX11_bytesIn_13 : decode cX11_bytesIn 13 = .ok (.sipush 255, 3) := by decide +kernel
theorem dX11_bytesIn_16 : decode cX11_bytesIn 16 = .ok (.iand, 1) := by decide +kernel
theorem dX11_bytesIn_17 : decode cX11_bytesIn 17 = .ok (.ifCond .eq 6, 3) := by decide +kernel
theorem dX11_bytesIn_20 : decode cX11_bytesIn 20 = .ok (.iinc 1 1, 3) := by decide +kernel
theorem dX11_bytesIn_23 : decode cX11_bytesIn 23 = .ok (.iinc 2 8, 3) := by decide +kernel
theorem dX11_bytesIn_26 : decode cX11_bytesIn 26 = .ok (.goto (-22), 3) := by decide +kernel
theorem dX11_bytesIn_29 : decode cX11_bytesIn 29 = .ok (.iload_n 1, 1) := by decide +kernel
theorem dX11_bytesIn_30 : decode cX11_bytesIn 30 = .ok (.ireturn, 1) := by decide +kernel
theorem dX11_count_0 : decode cX11_count 0 = .ok (.iload_n 1, 1) := by decide +kernel
theorem dX11_count_1 : decode cX11_count 1 = .ok (.tableswitch 150 0 11 #[63, 68, 76, 84, 92, 100, 108, 116, 124, 132, 140, 145], 63) := by decide +kernel
theorem dX11_count_64 : decode cX11_count 64 = .ok (.aload_n 0, 1) := by decide +kernel
theorem dX11_count_65 : decode cX11_count 65 = .ok (.getfield 88, 3) := by decide +kernel
theorem dX11_count_68 : decode cX11_count 68 = .ok (.ireturn, 1) := by decide +kernel
theorem dX11_count_69 : decode cX11_count 69 = .ok (.aload_n 0, 1) := by decide +kernel
theorem dX11_count_70 : decode cX11_count 70 = .ok (.getfield 10, 3) := by decide +kernel
theorem dX11_count_73 : decode cX11_count 73 = .ok (.invokevirtual 100, 3) := by decide +kernel
theorem dX11_count_76 : decode cX11_count 76 = .ok (.ireturn, 1) := by decide +kernel
theorem dX11_count_77 : decode cX11_count 77 = .ok (.aload_n 0, 1) := by decide +kernel
theorem dX11_count_78 : decode cX11_count 78 = .ok (.getfield 16, 3) := by decide +kernel
theorem dX11_count_81 : decode cX11_count 81 = .ok (.invokevirtual 100, 3) := by decide +kernel
theorem dX11_count_84 : decode cX11_count 84 = .ok (.ireturn, 1) := by decide +kernel
theorem dX11_count_85 : decode cX11_count 85 = .ok (.aload_n 0, 1) := by decide +kernel
theorem dX11_count_86 : decode cX11_count 86 = .ok (.getfield 22, 3) := by decide +kernel
theorem dX11_count_89 : decode cX11_count 89 = .ok (.invokevirtual 100, 3) := by decide +kernel
theorem dX11_count_92 : decode cX11_count 92 = .ok (.ireturn, 1) := by decide +kernel
theorem dX11_count_93 : decode cX11_count 93 = .ok (.aload_n 0, 1) := by decide +kernel
theorem dX11_count_94 : decode cX11_count 94 = .ok (.getfield 25, 3) := by decide +kernel
theorem dX11_count_97 : decode cX11_count 97 = .ok (.invokevirtual 100, 3) := by decide +kernel
theorem dX11_count_100 : decode cX11_count 100 = .ok (.ireturn, 1) := by decide +kernel
theorem dX11_count_101 : decode cX11_count 101 = .ok (.aload_n 0, 1) := by decide +kernel
theorem dX11_count_102 : decode cX11_count 102 = .ok (.getfield 28, 3) := by decide +kernel
theorem dX11_count_105 : decode cX11_count 105 = .ok (.invokevirtual 100, 3) := by decide +kernel
theorem dX11_count_108 : decode cX11_count 108 = .ok (.ireturn, 1) := by decide +kernel
theorem dX11_count_109 : decode cX11_count 109 = .ok (.aload_n 0, 1) := by decide +kernel
theorem dX11_count_110 : decode cX11_count 110 = .ok (.getfield 44, 3) := by decide +kernel
theorem dX11_count_113 : decode cX11_count 113 = .ok (.invokevirtual 443, 3) := by decide +kernel
theorem dX11_count_116 : decode cX11_count 116 = .ok (.ireturn, 1) := by decide +kernel
theorem dX11_count_117 : decode cX11_count 117 = .ok (.aload_n 0, 1) := by decide +kernel
theorem dX11_count_118 : decode cX11_count 118 = .ok (.getfield 44, 3) := by decide +kernel
theorem dX11_count_121 : decode cX11_count 121 = .ok (.invokevirtual 382, 3) := by decide +kernel
theorem dX11_count_124 : decode cX11_count 124 = .ok (.ireturn, 1) := by decide +kernel
theorem dX11_count_125 : decode cX11_count 125 = .ok (.aload_n 0, 1) := by decide +kernel
theorem dX11_count_126 : decode cX11_count 126 = .ok (.getfield 31, 3) := by decide +kernel
theorem dX11_count_129 : decode cX11_count 129 = .ok (.invokevirtual 100, 3) := by decide +kernel
theorem dX11_count_132 : decode cX11_count 132 = .ok (.ireturn, 1) := by decide +kernel
theorem dX11_count_133 : decode cX11_count 133 = .ok (.aload_n 0, 1) := by decide +kernel
theorem dX11_count_134 : decode cX11_count 134 = .ok (.getfield 37, 3) := by decide +kernel
theorem dX11_count_137 : decode cX11_count 137 = .ok (.invokevirtual 177, 3) := by decide +kernel
theorem dX11_count_140 : decode cX11_count 140 = .ok (.ireturn, 1) := by decide +kernel
theorem dX11_count_141 : decode cX11_count 141 = .ok (.aload_n 0, 1) := by decide +kernel
theorem dX11_count_142 : decode cX11_count 142 = .ok (.invokevirtual 446, 3) := by decide +kernel
theorem dX11_count_145 : decode cX11_count 145 = .ok (.ireturn, 1) := by decide +kernel
theorem dX11_count_146 : decode cX11_count 146 = .ok (.aload_n 0, 1) := by decide +kernel
theorem dX11_count_147 : decode cX11_count 147 = .ok (.invokevirtual 342, 3) := by decide +kernel
theorem dX11_count_150 : decode cX11_count 150 = .ok (.ireturn, 1) := by decide +kernel
theorem dX11_count_151 : decode cX11_count 151 = .ok (.iconst (-1), 1) := by decide +kernel
theorem dX11_count_152 : decode cX11_count 152 = .ok (.ireturn, 1) := by decide +kernel
theorem dX11_days_0 : decode cX11_days 0 = .ok (.iload_n 1, 1) := by decide +kernel
theorem dX11_days_1 : decode cX11_days 1 = .ok (.iconst 0, 1) := by decide +kernel
theorem dX11_days_2 : decode cX11_days 2 = .ok (.sipush 400, 3) := by decide +kernel
theorem dX11_days_5 : decode cX11_days 5 = .ok (.invokestatic 92, 3) := by decide +kernel
theorem dX11_days_8 : decode cX11_days 8 = .ok (.ifCond .eq 15, 3) := by decide +kernel
theorem dX11_days_11 : decode cX11_days 11 = .ok (.aload_n 0, 1) := by decide +kernel
theorem dX11_days_12 : decode cX11_days 12 = .ok (.getfield 88, 3) := by decide +kernel
theorem dX11_days_15 : decode cX11_days 15 = .ok (.iload_n 1, 1) := by decide +kernel
theorem dX11_days_16 : decode cX11_days 16 = .ok (.iadd, 1) := by decide +kernel
theorem dX11_days_17 : decode cX11_days 17 = .ok (.sipush 1000, 3) := by decide +kernel
theorem dX11_days_20 : decode cX11_days 20 = .ok (.if_icmp .le 5, 3) := by decide +kernel
theorem dX11_days_23 : decode cX11_days 23 = .ok (.iconst (-1), 1) := by decide +kernel
theorem dX11_days_24 : decode cX11_days 24 = .ok (.ireturn, 1) := by decide +kernel
theorem dX11_days_25 : decode cX11_days 25 = .ok (.aload_n 0, 1) := by decide +kernel
theorem dX11_days_26 : decode cX11_days 26 = .ok (.dup, 1) := by decide +kernel
theorem dX11_days_27 : decode cX11_days 27 = .ok (.getfield 88, 3) := by decide +kernel
theorem dX11_days_30 : decode cX11_days 30 = .ok (.iload_n 1, 1) := by decide +kernel
theorem dX11_days_31 : decode cX11_days 31 = .ok (.iadd, 1) := by decide +kernel
theorem dX11_days_32 : decode cX11_days 32 = .ok (.putfield 88, 3) := by decide +kernel
theorem dX11_days_35 : decode cX11_days 35 = .ok (.aload_n 0, 1) := by decide +kernel
theorem dX11_days_36 : decode cX11_days 36 = .ok (.getfield 88, 3) := by decide +kernel
theorem dX11_days_39 : decode cX11_days 39 = .ok (.ireturn, 1) := by decide +kernel
theorem dX11_digest_0 : decode cX11_digest 0 = .ok (.aload_n 0, 1) := by decide +kernel
theorem dX11_digest_1 : decode cX11_digest 1 = .ok (.iload_n 1, 1) := by decide +kernel
theorem dX11_digest_2 : decode cX11_digest 2 = .ok (.iload_n 2, 1) := by decide +kernel
theorem dX11_digest_3 : decode cX11_digest 3 = .ok (.iload_n 3, 1) := by decide +kernel
theorem dX11_digest_4 : decode cX11_digest 4 = .ok (.iload 4, 2) := by decide +kernel
theorem dX11_digest_6 : decode cX11_digest 6 = .ok (.invokevirtual 253, 3) := by decide +kernel
theorem dX11_digest_9 : decode cX11_digest 9 = .ok (.ifCond .ne 5, 3) := by decide +kernel
theorem dX11_digest_12 : decode cX11_digest 12 = .ok (.iconst (-1), 1) := by decide +kernel
theorem dX11_digest_13 : decode cX11_digest 13 = .ok (.ireturn, 1) := by decide +kernel
theorem dX11_digest_14 : decode cX11_digest 14 = .ok (.aload_n 0, 1) := by decide +kernel
theorem dX11_digest_15 : decode cX11_digest 15 = .ok (.iload_n 1, 1) := by decide +kernel
theorem dX11_digest_16 : decode cX11_digest 16 = .ok (.iload_n 2, 1) := by decide +kernel
theorem dX11_digest_17 : decode cX11_digest 17 = .ok (.iload_n 3, 1) := by decide +kernel
theorem dX11_digest_18 : decode cX11_digest 18 = .ok (.iload 4, 2) := by decide +kernel
theorem dX11_digest_20 : decode cX11_digest 20 = .ok (.invokevirtual 257, 3) := by decide +kernel
theorem dX11_digest_23 : decode cX11_digest 23 = .ok (.istore 6, 2) := by decide +kernel
theorem dX11_digest_25 : decode cX11_digest 25 = .ok (.iload 5, 2) := by decide +kernel
theorem dX11_digest_27 : decode cX11_digest 27 = .ok (.iconst (-1), 1) := by decide +kernel
theorem dX11_digest_28 : decode cX11_digest 28 = .ok (.if_icmp .ne 6, 3) := by decide +kernel
theorem dX11_digest_31 : decode cX11_digest 31 = .ok (.iload 6, 2) := by decide +kernel
theorem dX11_digest_33 : decode cX11_digest 33 = .ok (.ireturn, 1) := by decide +kernel
theorem dX11_digest_34 : decode cX11_digest 34 = .ok (.iload 5, 2) := by decide +kernel
theorem dX11_digest_36 : decode cX11_digest 36 = .ok (.ifCond .lt 30, 3) := by decide +kernel
theorem dX11_digest_39 : decode cX11_digest 39 = .ok (.iload 5, 2) := by decide +kernel
theorem dX11_digest_41 : decode cX11_digest 41 = .ok (.iload 6, 2) := by decide +kernel
theorem dX11_digest_43 : decode cX11_digest 43 = .ok (.if_icmp .ge 23, 3) := by decide +kernel
theorem dX11_digest_46 : decode cX11_digest 46 = .ok (.iload 5, 2) := by decide +kernel
theorem dX11_digest_48 : decode cX11_digest 48 = .ok (.aload_n 0, 1) := by decide +kernel
theorem dX11_digest_49 : decode cX11_digest 49 = .ok (.getfield 82, 3) := by decide +kernel
theorem dX11_digest_52 : decode cX11_digest 52 = .ok (.arraylength, 1) := by decide +kernel
theorem dX11_digest_53 : decode cX11_digest 53 = .ok (.if_icmp .ge 13, 3) := by decide +kernel
theorem dX11_digest_56 : decode cX11_digest 56 = .ok (.aload_n 0, 1) := by decide +kernel
theorem dX11_digest_57 : decode cX11_digest 57 = .ok (.getfield 82, 3) := by decide +kernel
theorem dX11_digest_60 : decode cX11_digest 60 = .ok (.iload 5, 2) := by decide +kernel
theorem dX11_digest_62 : decode cX11_digest 62 = .ok (.iaload, 1) := by decide +kernel
theorem dX11_digest_63 : decode cX11_digest 63 = .ok (.goto 4, 3) := by decide +kernel
theorem dX11_digest_66 : decode cX11_digest 66 = .ok (.iconst (-1), 1) := by decide +kernel
theorem dX11_digest_67 : decode cX11_digest 67 = .ok (.ireturn, 1) := by decide +kernel
theorem dX11_digestSize_0 : decode cX11_digestSize 0 = .ok (.aload_n 0, 1) := by decide +kernel
theorem dX11_digestSize_1 : decode cX11_digestSize 1 = .ok (.getfield 71, 3) := by decide +kernel
theorem dX11_digestSize_4 : decode cX11_digestSize 4 = .ok (.iconst 0, 1) := by decide +kernel
theorem dX11_digestSize_5 : decode cX11_digestSize 5 = .ok (.invokestatic 216, 3) := by decide +kernel
theorem dX11_digestSize_8 : decode cX11_digestSize 8 = .ok (.aload_n 0, 1) := by decide +kernel
theorem dX11_digestSize_9 : decode cX11_digestSize 9 = .ok (.getfield 71, 3) := by decide +kernel
theorem dX11_digestSize_12 : decode cX11_digestSize 12 = .ok (.iconst 3, 1) := by decide +kernel
theorem dX11_digestSize_13 : decode cX11_digestSize 13 = .ok (.iload_n 1, 1) := by decide +kernel
theorem dX11_digestSize_14 : decode cX11_digestSize 14 = .ok (.iastore, 1) := by decide +kernel
theorem dX11_digestSize_15 : decode cX11_digestSize 15 = .ok (.aload_n 0, 1) := by decide +kernel
theorem dX11_digestSize_16 : decode cX11_digestSize 16 = .ok (.getfield 71, 3) := by decide +kernel
theorem dX11_digestSize_19 : decode cX11_digestSize 19 = .ok (.bipush 7, 2) := by decide +kernel
theorem dX11_digestSize_21 : decode cX11_digestSize 21 = .ok (.iload_n 2, 1) := by decide +kernel
theorem dX11_digestSize_22 : decode cX11_digestSize 22 = .ok (.iastore, 1) := by decide +kernel
theorem dX11_digestSize_23 : decode cX11_digestSize 23 = .ok (.iconst 0, 1) := by decide +kernel
theorem dX11_digestSize_24 : decode cX11_digestSize 24 = .ok (.bipush 20, 2) := by decide +kernel
theorem dX11_digestSize_26 : decode cX11_digestSize 26 = .ok (.aload_n 0, 1) := by decide +kernel
theorem dX11_digestSize_27 : decode cX11_digestSize 27 = .ok (.bipush 100, 2) := by decide +kernel
theorem dX11_digestSize_29 : decode cX11_digestSize 29 = .ok (.iload_n 3, 1) := by decide +kernel
theorem dX11_digestSize_30 : decode cX11_digestSize 30 = .ok (.invokevirtual 212, 3) := by decide +kernel
theorem dX11_digestSize_33 : decode cX11_digestSize 33 = .ok (.invokestatic 274, 3) := by decide +kernel
theorem dX11_digestSize_36 : decode cX11_digestSize 36 = .ok (.invokestatic 279, 3) := by decide +kernel
theorem dX11_digestSize_39 : decode cX11_digestSize 39 = .ok (.ireturn, 1) := by decide +kernel
theorem dX11_draw_0 : decode cX11_draw 0 = .ok (.iconst 0, 1) := by decide +kernel
theorem dX11_draw_1 : decode cX11_draw 1 = .ok (.istore 4, 2) := by decide +kernel
theorem dX11_draw_3 : decode cX11_draw 3 = .ok (.iload 4, 2) := by decide +kernel
theorem dX11_draw_5 : decode cX11_draw 5 = .ok (.aload_n 0, 1) := by decide +kernel
theorem dX11_draw_6 : decode cX11_draw 6 = .ok (.getfield 85, 3) := by decide +kernel
theorem dX11_draw_9 : decode cX11_draw 9 = .ok (.arraylength, 1) := by decide +kernel
theorem dX11_draw_10 : decode cX11_draw 10 = .ok (.if_icmp .ge 18, 3) := by decide +kernel
theorem dX11_draw_13 : decode cX11_draw 13 = .ok (.aload_n 0, 1) := by decide +kernel
theorem dX11_draw_14 : decode cX11_draw 14 = .ok (.getfield 85, 3) := by decide +kernel
theorem dX11_draw_17 : decode cX11_draw 17 = .ok (.iload 4, 2) := by decide +kernel
theorem dX11_draw_19 : decode cX11_draw 19 = .ok (.iload 4, 2) := by decide +kernel
theorem dX11_draw_21 : decode cX11_draw 21 = .ok (.iastore, 1) := by decide +kernel
theorem dX11_draw_22 : decode cX11_draw 22 = .ok (.iinc 4 1, 3) := by decide +kernel
theorem dX11_draw_25 : decode cX11_draw 25 = .ok (.goto (-22), 3) := by decide +kernel
theorem dX11_draw_28 : decode cX11_draw 28 = .ok (.lload_n 2, 1) := by decide +kernel
theorem dX11_draw_29 : decode cX11_draw 29 = .ok (.lstore 4, 2) := by decide +kernel
theorem dX11_draw_31 : decode cX11_draw 31 = .ok (.iconst 0, 1) := by decide +kernel
theorem dX11_draw_32 : decode cX11_draw 32 = .ok (.istore 6, 2) := by decide +kernel
theorem dX11_draw_34 : decode cX11_draw 34 = .ok (.iload 6, 2) := by decide +kernel
theorem dX11_draw_36 : decode cX11_draw 36 = .ok (.iload_n 1, 1) := by decide +kernel
theorem dX11_draw_37 : decode cX11_draw 37 = .ok (.if_icmp .ge 117, 3) := by decide +kernel
theorem dX11_draw_40 : decode cX11_draw 40 = .ok (.iload 6, 2) := by decide +kernel
theorem dX11_draw_42 : decode cX11_draw 42 = .ok (.aload_n 0, 1) := by decide +kernel
theorem dX11_draw_43 : decode cX11_draw 43 = .ok (.getfield 10, 3) := by decide +kernel
theorem dX11_draw_46 : decode cX11_draw 46 = .ok (.invokevirtual 100, 3) := by decide +kernel
theorem dX11_draw_49 : decode cX11_draw 49 = .ok (.if_icmp .ge 105, 3) := by decide +kernel
theorem dX11_draw_52 : decode cX11_draw 52 = .ok (.iload 6, 2) := by decide +kernel
theorem dX11_draw_54 : decode cX11_draw 54 = .ok (.aload_n 0, 1) := by decide +kernel
theorem dX11_draw_55 : decode cX11_draw 55 = .ok (.getfield 85, 3) := by decide +kernel
theorem dX11_draw_58 : decode cX11_draw 58 = .ok (.arraylength, 1) := by decide +kernel
theorem dX11_draw_59 : decode cX11_draw 59 = .ok (.if_icmp .ge 95, 3) := by decide +kernel
theorem dX11_draw_62 : decode cX11_draw 62 = .ok (.lload 4, 2) := by decide +kernel
theorem dX11_draw_64 : decode cX11_draw 64 = .ok (.ldc2_w 436, 3) := by decide +kernel
theorem dX11_draw_67 : decode cX11_draw 67 = .ok (.lmul, 1) := by decide +kernel
theorem dX11_draw_68 : decode cX11_draw 68 = .ok (.ldc2_w 438, 3) := by decide +kernel
theorem dX11_draw_71 : decode cX11_draw 71 = .ok (.ladd, 1) := by decide +kernel
theorem dX11_draw_72 : decode cX11_draw 72 = .ok (.lstore 4, 2) := by decide +kernel
theorem dX11_draw_74 : decode cX11_draw 74 = .ok (.iload 6, 2) := by decide +kernel
theorem dX11_draw_76 : decode cX11_draw 76 = .ok (.lload 4, 2) := by decide +kernel
theorem dX11_draw_78 : decode cX11_draw 78 = .ok (.bipush 33, 2) := by decide +kernel
theorem dX11_draw_80 : decode cX11_draw 80 = .ok (.lushr, 1) := by decide +kernel
theorem dX11_draw_81 : decode cX11_draw 81 = .ok (.aload_n 0, 1) := by decide +kernel
theorem dX11_draw_82 : decode cX11_draw 82 = .ok (.getfield 10, 3) := by decide +kernel
theorem dX11_draw_85 : decode cX11_draw 85 = .ok (.invokevirtual 100, 3) := by decide +kernel
theorem dX11_draw_88 : decode cX11_draw 88 = .ok (.iload 6, 2) := by decide +kernel
theorem dX11_draw_90 : decode cX11_draw 90 = .ok (.isub, 1) := by decide +kernel
theorem dX11_draw_91 : decode cX11_draw 91 = .ok (.i2l, 1) := by decide +kernel
theorem dX11_draw_92 : decode cX11_draw 92 = .ok (.lrem, 1) := by decide +kernel
theorem dX11_draw_93 : decode cX11_draw 93 = .ok (.l2i, 1) := by decide +kernel
theorem dX11_draw_94 : decode cX11_draw 94 = .ok (.iadd, 1) := by decide +kernel
theorem dX11_draw_95 : decode cX11_draw 95 = .ok (.istore 7, 2) := by decide +kernel
theorem dX11_draw_97 : decode cX11_draw 97 = .ok (.aload_n 0, 1) := by decide +kernel
theorem dX11_draw_98 : decode cX11_draw 98 = .ok (.getfield 85, 3) := by decide +kernel
theorem dX11_draw_101 : decode cX11_draw 101 = .ok (.iload 7, 2) := by decide +kernel
theorem dX11_draw_103 : decode cX11_draw 103 = .ok (.iaload, 1) := by decide +kernel
theorem dX11_draw_104 : decode cX11_draw 104 = .ok (.istore 8, 2) := by decide +kernel
theorem dX11_draw_106 : decode cX11_draw 106 = .ok (.iload 7, 2) := by decide +kernel
theorem dX11_draw_108 : decode cX11_draw 108 = .ok (.istore 9, 2) := by decide +kernel
theorem dX11_draw_110 : decode cX11_draw 110 = .ok (.iload 9, 2) := by decide +kernel
theorem dX11_draw_112 : decode cX11_draw 112 = .ok (.iload 6, 2) := by decide +kernel
theorem dX11_draw_114 : decode cX11_draw 114 = .ok (.if_icmp .le 25, 3) := by decide +kernel
theorem dX11_draw_117 : decode cX11_draw 117 = .ok (.aload_n 0, 1) := by decide +kernel
theorem dX11_draw_118 : decode cX11_draw 118 = .ok (.getfield 85, 3) := by decide +kernel
theorem dX11_draw_121 : decode cX11_draw 121 = .ok (.iload 9, 2) := by decide +kernel
theorem dX11_draw_123 : decode cX11_draw 123 = .ok (.aload_n 0, 1) := by decide +kernel
theorem dX11_draw_124 : decode cX11_draw 124 = .ok (.getfield 85, 3) := by decide +kernel
theorem dX11_draw_127 : decode cX11_draw 127 = .ok (.iload 9, 2) := by decide +kernel
theorem dX11_draw_129 : decode cX11_draw 129 = .ok (.iconst 1, 1) := by decide +kernel
theorem dX11_draw_130 : decode cX11_draw 130 = .ok (.isub, 1) := by decide +kernel
theorem dX11_draw_131 : decode cX11_draw 131 = .ok (.iaload, 1) := by decide +kernel
theorem dX11_draw_132 : decode cX11_draw 132 = .ok (.iastore, 1) := by decide +kernel
theorem dX11_draw_133 : decode cX11_draw 133 = .ok (.iinc 9 (-1), 3) := by decide +kernel
theorem dX11_draw_136 : decode cX11_draw 136 = .ok (.goto (-26), 3) := by decide +kernel
theorem dX11_draw_139 : decode cX11_draw 139 = .ok (.aload_n 0, 1) := by decide +kernel
theorem dX11_draw_140 : decode cX11_draw 140 = .ok (.getfield 85, 3) := by decide +kernel
theorem dX11_draw_143 : decode cX11_draw 143 = .ok (.iload 6, 2) := by decide +kernel
theorem dX11_draw_145 : decode cX11_draw 145 = .ok (.iload 8, 2) := by decide +kernel
theorem dX11_draw_147 : decode cX11_draw 147 = .ok (.iastore, 1) := by decide +kernel
theorem dX11_draw_148 : decode cX11_draw 148 = .ok (.iinc 6 1, 3) := by decide +kernel
theorem dX11_draw_151 : decode cX11_draw 151 = .ok (.goto (-117), 3) := by decide +kernel
theorem dX11_draw_154 : decode cX11_draw 154 = .ok (.return_, 1) := by decide +kernel
theorem dX11_end_0 : decode cX11_end 0 = .ok (.iload_n 1, 1) := by decide +kernel
theorem dX11_end_1 : decode cX11_end 1 = .ok (.iconst 0, 1) := by decide +kernel
theorem dX11_end_2 : decode cX11_end 2 = .ok (.aload_n 0, 1) := by decide +kernel
theorem dX11_end_3 : decode cX11_end 3 = .ok (.getfield 37, 3) := by decide +kernel
theorem dX11_end_6 : decode cX11_end 6 = .ok (.invokevirtual 177, 3) := by decide +kernel
theorem dX11_end_9 : decode cX11_end 9 = .ok (.invokestatic 92, 3) := by decide +kernel
theorem dX11_end_12 : decode cX11_end 12 = .ok (.ifCond .ne 5, 3) := by decide +kernel
theorem dX11_end_15 : decode cX11_end 15 = .ok (.iconst 0, 1) := by decide +kernel
theorem dX11_end_16 : decode cX11_end 16 = .ok (.ireturn, 1) := by decide +kernel
theorem dX11_end_17 : decode cX11_end 17 = .ok (.aload_n 0, 1) := by decide +kernel
theorem dX11_end_18 : decode cX11_end 18 = .ok (.getfield 37, 3) := by decide +kernel
theorem dX11_end_21 : decode cX11_end 21 = .ok (.iload_n 1, 1) := by decide +kernel
theorem dX11_end_22 : decode cX11_end 22 = .ok (.invokevirtual 182, 3) := by decide +kernel
theorem dX11_end_25 : decode cX11_end 25 = .ok (.iconst 1, 1) := by decide +kernel
theorem dX11_end_26 : decode cX11_end 26 = .ok (.ireturn, 1) := by decide +kernel
theorem dX11_fault_0 : decode cX11_fault 0 = .ok (.aload_n 0, 1) := by decide +kernel
theorem dX11_fault_1 : decode cX11_fault 1 = .ok (.getfield 37, 3) := by decide +kernel
theorem dX11_fault_4 : decode cX11_fault 4 = .ok (.invokevirtual 185, 3) := by decide +kernel
theorem dX11_fault_7 : decode cX11_fault 7 = .ok (.ireturn, 1) := by decide +kernel
theorem dX11_feed_0 : decode cX11_feed 0 = .ok (.iload_n 1, 1) := by decide +kernel
theorem dX11_feed_1 : decode cX11_feed 1 = .ok (.invokestatic 174, 3) := by decide +kernel
theorem dX11_feed_4 : decode cX11_feed 4 = .ok (.iload_n 2, 1) := by decide +kernel
theorem dX11_feed_5 : decode cX11_feed 5 = .ok (.invokestatic 174, 3) := by decide +kernel
theorem dX11_feed_8 : decode cX11_feed 8 = .ok (.iadd, 1) := by decide +kernel
theorem dX11_feed_9 : decode cX11_feed 9 = .ok (.iload_n 3, 1) := by decide +kernel
theorem dX11_feed_10 : decode cX11_feed 10 = .ok (.invokestatic 174, 3) := by decide +kernel
theorem dX11_feed_13 : decode cX11_feed 13 = .ok (.iadd, 1) := by decide +kernel
theorem dX11_feed_14 : decode cX11_feed 14 = .ok (.iload 4, 2) := by decide +kernel
theorem dX11_feed_16 : decode cX11_feed 16 = .ok (.invokestatic 174, 3) := by decide +kernel
theorem dX11_feed_19 : decode cX11_feed 19 = .ok (.iadd, 1) := by decide +kernel
theorem dX11_feed_20 : decode cX11_feed 20 = .ok (.iload 5, 2) := by decide +kernel
theorem dX11_feed_22 : decode cX11_feed 22 = .ok (.invokestatic 174, 3) := by decide +kernel
theorem dX11_feed_25 : decode cX11_feed 25 = .ok (.iadd, 1) := by decide +kernel
theorem dX11_feed_26 : decode cX11_feed 26 = .ok (.istore 6, 2) := by decide +kernel
theorem dX11_feed_28 : decode cX11_feed 28 = .ok (.aload_n 0, 1) := by decide +kernel
theorem dX11_feed_29 : decode cX11_feed 29 = .ok (.getfield 37, 3) := by decide +kernel
theorem dX11_feed_32 : decode cX11_feed 32 = .ok (.invokevirtual 177, 3) := by decide +kernel
theorem dX11_feed_35 : decode cX11_feed 35 = .ok (.iload 6, 2) := by decide +kernel
theorem dX11_feed_37 : decode cX11_feed 37 = .ok (.iadd, 1) := by decide +kernel
theorem dX11_feed_38 : decode cX11_feed 38 = .ok (.sipush 160, 3) := by decide +kernel
theorem dX11_feed_41 : decode cX11_feed 41 = .ok (.if_icmp .le 5, 3) := by decide +kernel
theorem dX11_feed_44 : decode cX11_feed 44 = .ok (.iconst (-1), 1) := by decide +kernel
theorem dX11_feed_45 : decode cX11_feed 45 = .ok (.ireturn, 1) := by decide +kernel
theorem dX11_feed_46 : decode cX11_feed 46 = .ok (.aload_n 0, 1) := by decide +kernel
theorem dX11_feed_47 : decode cX11_feed 47 = .ok (.getfield 37, 3) := by decide +kernel
theorem dX11_feed_50 : decode cX11_feed 50 = .ok (.iload_n 1, 1) := by decide +kernel
theorem dX11_feed_51 : decode cX11_feed 51 = .ok (.invokevirtual 178, 3) := by decide +kernel
theorem dX11_feed_54 : decode cX11_feed 54 = .ok (.aload_n 0, 1) := by decide +kernel
theorem dX11_feed_55 : decode cX11_feed 55 = .ok (.getfield 37, 3) := by decide +kernel
theorem dX11_feed_58 : decode cX11_feed 58 = .ok (.iload_n 2, 1) := by decide +kernel
theorem dX11_feed_59 : decode cX11_feed 59 = .ok (.invokevirtual 178, 3) := by decide +kernel
theorem dX11_feed_62 : decode cX11_feed 62 = .ok (.aload_n 0, 1) := by decide +kernel
theorem dX11_feed_63 : decode cX11_feed 63 = .ok (.getfield 37, 3) := by decide +kernel
theorem dX11_feed_66 : decode cX11_feed 66 = .ok (.iload_n 3, 1) := by decide +kernel
theorem dX11_feed_67 : decode cX11_feed 67 = .ok (.invokevirtual 178, 3) := by decide +kernel
theorem dX11_feed_70 : decode cX11_feed 70 = .ok (.aload_n 0, 1) := by decide +kernel
theorem dX11_feed_71 : decode cX11_feed 71 = .ok (.getfield 37, 3) := by decide +kernel
theorem dX11_feed_74 : decode cX11_feed 74 = .ok (.iload 4, 2) := by decide +kernel
theorem dX11_feed_76 : decode cX11_feed 76 = .ok (.invokevirtual 178, 3) := by decide +kernel
theorem dX11_feed_79 : decode cX11_feed 79 = .ok (.aload_n 0, 1) := by decide +kernel
theorem dX11_feed_80 : decode cX11_feed 80 = .ok (.getfield 37, 3) := by decide +kernel
theorem dX11_feed_83 : decode cX11_feed 83 = .ok (.iload 5, 2) := by decide +kernel
theorem dX11_feed_85 : decode cX11_feed 85 = .ok (.invokevirtual 178, 3) := by decide +kernel
theorem dX11_feed_88 : decode cX11_feed 88 = .ok (.aload_n 0, 1) := by decide +kernel
theorem dX11_feed_89 : decode cX11_feed 89 = .ok (.getfield 37, 3) := by decide +kernel
theorem dX11_feed_92 : decode cX11_feed 92 = .ok (.invokevirtual 177, 3) := by decide +kernel
theorem dX11_feed_95 : decode cX11_feed 95 = .ok (.ireturn, 1) := by decide +kernel
theorem dX11_force_0 : decode cX11_force 0 = .ok (.iload_n 1, 1) := by decide +kernel
theorem dX11_force_1 : decode cX11_force 1 = .ok (.invokestatic 150, 3) := by decide +kernel
theorem dX11_force_4 : decode cX11_force 4 = .ok (.ifCond .eq 11, 3) := by decide +kernel
theorem dX11_force_7 : decode cX11_force 7 = .ok (.aload_n 0, 1) := by decide +kernel
theorem dX11_force_8 : decode cX11_force 8 = .ok (.iload_n 2, 1) := by decide +kernel
theorem dX11_force_9 : decode cX11_force 9 = .ok (.invokevirtual 158, 3) := by decide +kernel
theorem dX11_force_12 : decode cX11_force 12 = .ok (.ifCond .ne 5, 3) := by decide +kernel
theorem dX11_force_15 : decode cX11_force 15 = .ok (.iconst (-1), 1) := by decide +kernel
theorem dX11_force_16 : decode cX11_force 16 = .ok (.ireturn, 1) := by decide +kernel
theorem dX11_force_17 : decode cX11_force 17 = .ok (.aload_n 0, 1) := by decide +kernel
theorem dX11_force_18 : decode cX11_force 18 = .ok (.iload_n 1, 1) := by decide +kernel
theorem dX11_force_19 : decode cX11_force 19 = .ok (.iload_n 2, 1) := by decide +kernel
theorem dX11_force_20 : decode cX11_force 20 = .ok (.invokevirtual 197, 3) := by decide +kernel
theorem dX11_force_23 : decode cX11_force 23 = .ok (.ireturn, 1) := by decide +kernel
theorem dX11_habit_0 : decode cX11_habit 0 = .ok (.iload_n 1, 1) := by decide +kernel
theorem dX11_habit_1 : decode cX11_habit 1 = .ok (.invokestatic 316, 3) := by decide +kernel
theorem dX11_habit_4 : decode cX11_habit 4 = .ok (.ifCond .eq 11, 3) := by decide +kernel
theorem dX11_habit_7 : decode cX11_habit 7 = .ok (.aload_n 0, 1) := by decide +kernel
theorem dX11_habit_8 : decode cX11_habit 8 = .ok (.iload_n 2, 1) := by decide +kernel
theorem dX11_habit_9 : decode cX11_habit 9 = .ok (.invokevirtual 158, 3) := by decide +kernel
theorem dX11_habit_12 : decode cX11_habit 12 = .ok (.ifCond .ne 7, 3) := by decide +kernel
theorem dX11_habit_15 : decode cX11_habit 15 = .ok (.ldc_w 335, 3) := by decide +kernel
theorem dX11_habit_18 : decode cX11_habit 18 = .ok (.ireturn, 1) := by decide +kernel
theorem dX11_habit_19 : decode cX11_habit 19 = .ok (.aload_n 0, 1) := by decide +kernel
theorem dX11_habit_20 : decode cX11_habit 20 = .ok (.iload_n 2, 1) := by decide +kernel
theorem dX11_habit_21 : decode cX11_habit 21 = .ok (.invokevirtual 322, 3) := by decide +kernel
theorem dX11_habit_24 : decode cX11_habit 24 = .ok (.iconst 0, 1) := by decide +kernel
theorem dX11_habit_25 : decode cX11_habit 25 = .ok (.istore_n 3, 1) := by decide +kernel
theorem dX11_habit_26 : decode cX11_habit 26 = .ok (.iconst 0, 1) := by decide +kernel
theorem dX11_habit_27 : decode cX11_habit 27 = .ok (.istore 4, 2) := by decide +kernel
theorem dX11_habit_29 : decode cX11_habit 29 = .ok (.iconst 0, 1) := by decide +kernel
theorem dX11_habit_30 : decode cX11_habit 30 = .ok (.istore 5, 2) := by decide +kernel
theorem dX11_habit_32 : decode cX11_habit 32 = .ok (.iload 5, 2) := by decide +kernel
theorem dX11_habit_34 : decode cX11_habit 34 = .ok (.bipush 6, 2) := by decide +kernel
theorem dX11_habit_36 : decode cX11_habit 36 = .ok (.if_icmp .ge 82, 3) := by decide +kernel
theorem dX11_habit_39 : decode cX11_habit 39 = .ok (.iconst 0, 1) := by decide +kernel
theorem dX11_habit_40 : decode cX11_habit 40 = .ok (.istore 6, 2) := by decide +kernel
theorem dX11_habit_42 : decode cX11_habit 42 = .ok (.iload 6, 2) := by decide +kernel
theorem dX11_habit_44 : decode cX11_habit 44 = .ok (.aload_n 0, 1) := by decide +kernel
theorem dX11_habit_45 : decode cX11_habit 45 = .ok (.getfield 16, 3) := by decide +kernel
theorem dX11_habit_48 : decode cX11_habit 48 = .ok (.invokevirtual 100, 3) := by decide +kernel
theorem dX11_habit_51 : decode cX11_habit 51 = .ok (.if_icmp .ge 61, 3) := by decide +kernel
theorem dX11_habit_54 : decode cX11_habit 54 = .ok (.aload_n 0, 1) := by decide +kernel
theorem dX11_habit_55 : decode cX11_habit 55 = .ok (.getfield 60, 3) := by decide +kernel
theorem dX11_habit_58 : decode cX11_habit 58 = .ok (.iload_n 1, 1) := by decide +kernel
theorem dX11_habit_59 : decode cX11_habit 59 = .ok (.aaload, 1) := by decide +kernel
theorem dX11_habit_60 : decode cX11_habit 60 = .ok (.iload 6, 2) := by decide +kernel
theorem dX11_habit_62 : decode cX11_habit 62 = .ok (.iaload, 1) := by decide +kernel
theorem dX11_habit_63 : decode cX11_habit 63 = .ok (.istore 7, 2) := by decide +kernel
theorem dX11_habit_65 : decode cX11_habit 65 = .ok (.aload_n 0, 1) := by decide +kernel
theorem dX11_habit_66 : decode cX11_habit 66 = .ok (.getfield 60, 3) := by decide +kernel
theorem dX11_habit_69 : decode cX11_habit 69 = .ok (.iload 5, 2) := by decide +kernel
theorem dX11_habit_71 : decode cX11_habit 71 = .ok (.aaload, 1) := by decide +kernel
theorem dX11_habit_72 : decode cX11_habit 72 = .ok (.iload 6, 2) := by decide +kernel
theorem dX11_habit_74 : decode cX11_habit 74 = .ok (.iaload, 1) := by decide +kernel
theorem dX11_habit_75 : decode cX11_habit 75 = .ok (.istore 8, 2) := by decide +kernel
theorem dX11_habit_77 : decode cX11_habit 77 = .ok (.iload 5, 2) := by decide +kernel
theorem dX11_habit_79 : decode cX11_habit 79 = .ok (.iload_n 1, 1) := by decide +kernel
theorem dX11_habit_80 : decode cX11_habit 80 = .ok (.if_icmp .eq 26, 3) := by decide +kernel
theorem dX11_habit_83 : decode cX11_habit 83 = .ok (.iload 7, 2) := by decide +kernel
theorem dX11_habit_85 : decode cX11_habit 85 = .ok (.iconst (-1), 1) := by decide +kernel
theorem dX11_habit_86 : decode cX11_habit 86 = .ok (.if_icmp .eq 20, 3) := by decide +kernel
theorem dX11_habit_89 : decode cX11_habit 89 = .ok (.iload 8, 2) := by decide +kernel
theorem dX11_habit_91 : decode cX11_habit 91 = .ok (.iconst (-1), 1) := by decide +kernel
theorem dX11_habit_92 : decode cX11_habit 92 = .ok (.if_icmp .eq 14, 3) := by decide +kernel
theorem dX11_habit_95 : decode cX11_habit 95 = .ok (.iload_n 3, 1) := by decide +kernel
theorem dX11_habit_96 : decode cX11_habit 96 = .ok (.iload 7, 2) := by decide +kernel
theorem dX11_habit_98 : decode cX11_habit 98 = .ok (.iload 8, 2) := by decide +kernel
theorem dX11_habit_100 : decode cX11_habit 100 = .ok (.isub, 1) := by decide +kernel
theorem dX11_habit_101 : decode cX11_habit 101 = .ok (.iadd, 1) := by decide +kernel
theorem dX11_habit_102 : decode cX11_habit 102 = .ok (.istore_n 3, 1) := by decide +kernel
theorem dX11_habit_103 : decode cX11_habit 103 = .ok (.iinc 4 1, 3) := by decide +kernel
theorem dX11_habit_106 : decode cX11_habit 106 = .ok (.iinc 6 1, 3) := by decide +kernel
theorem dX11_habit_109 : decode cX11_habit 109 = .ok (.goto (-67), 3) := by decide +kernel
theorem dX11_habit_112 : decode cX11_habit 112 = .ok (.iinc 5 1, 3) := by decide +kernel
theorem dX11_habit_115 : decode cX11_habit 115 = .ok (.goto (-83), 3) := by decide +kernel
theorem dX11_habit_118 : decode cX11_habit 118 = .ok (.iload_n 3, 1) := by decide +kernel
theorem dX11_habit_119 : decode cX11_habit 119 = .ok (.sipush 1000, 3) := by decide +kernel
theorem dX11_habit_122 : decode cX11_habit 122 = .ok (.iload 4, 2) := by decide +kernel
theorem dX11_habit_124 : decode cX11_habit 124 = .ok (.invokestatic 336, 3) := by decide +kernel
theorem dX11_habit_127 : decode cX11_habit 127 = .ok (.ireturn, 1) := by decide +kernel
theorem dX11_happen_0 : decode cX11_happen 0 = .ok (.iload_n 1, 1) := by decide +kernel
theorem dX11_happen_1 : decode cX11_happen 1 = .ok (.invokestatic 96, 3) := by decide +kernel
theorem dX11_happen_4 : decode cX11_happen 4 = .ok (.ifCond .eq 29, 3) := by decide +kernel
theorem dX11_happen_7 : decode cX11_happen 7 = .ok (.iload_n 2, 1) := by decide +kernel
theorem dX11_happen_8 : decode cX11_happen 8 = .ok (.invokestatic 150, 3) := by decide +kernel
theorem dX11_happen_11 : decode cX11_happen 11 = .ok (.ifCond .eq 22, 3) := by decide +kernel
theorem dX11_happen_14 : decode cX11_happen 14 = .ok (.iload_n 3, 1) := by decide +kernel
theorem dX11_happen_15 : decode cX11_happen 15 = .ok (.invokestatic 115, 3) := by decide +kernel
theorem dX11_happen_18 : decode cX11_happen 18 = .ok (.ifCond .eq 15, 3) := by decide +kernel
theorem dX11_happen_21 : decode cX11_happen 21 = .ok (.aload_n 0, 1) := by decide +kernel
theorem dX11_happen_22 : decode cX11_happen 22 = .ok (.getfield 25, 3) := by decide +kernel
theorem dX11_happen_25 : decode cX11_happen 25 = .ok (.invokevirtual 100, 3) := by decide +kernel
theorem dX11_happen_28 : decode cX11_happen 28 = .ok (.bipush 100, 2) := by decide +kernel
theorem dX11_happen_30 : decode cX11_happen 30 = .ok (.if_icmp .lt 5, 3) := by decide +kernel
theorem dX11_happen_33 : decode cX11_happen 33 = .ok (.iconst 0, 1) := by decide +kernel
theorem dX11_happen_34 : decode cX11_happen 34 = .ok (.ireturn, 1) := by decide +kernel
theorem dX11_happen_35 : decode cX11_happen 35 = .ok (.aload_n 0, 1) := by decide +kernel
theorem dX11_happen_36 : decode cX11_happen 36 = .ok (.getfield 25, 3) := by decide +kernel
theorem dX11_happen_39 : decode cX11_happen 39 = .ok (.new 288, 3) := by decide +kernel
theorem dX11_happen_42 : decode cX11_happen 42 = .ok (.dup, 1) := by decide +kernel
theorem dX11_happen_43 : decode cX11_happen 43 = .ok (.iload_n 1, 1) := by decide +kernel
theorem dX11_happen_44 : decode cX11_happen 44 = .ok (.iload_n 2, 1) := by decide +kernel
theorem dX11_happen_45 : decode cX11_happen 45 = .ok (.iload_n 3, 1) := by decide +kernel
theorem dX11_happen_46 : decode cX11_happen 46 = .ok (.iload 4, 2) := by decide +kernel
theorem dX11_happen_48 : decode cX11_happen 48 = .ok (.aload_n 0, 1) := by decide +kernel
theorem dX11_happen_49 : decode cX11_happen 49 = .ok (.getfield 88, 3) := by decide +kernel
theorem dX11_happen_52 : decode cX11_happen 52 = .ok (.invokespecial 290, 3) := by decide +kernel
theorem dX11_happen_55 : decode cX11_happen 55 = .ok (.invokevirtual 108, 3) := by decide +kernel
theorem dX11_happen_58 : decode cX11_happen 58 = .ok (.pop, 1) := by decide +kernel
theorem dX11_happen_59 : decode cX11_happen 59 = .ok (.iconst 1, 1) := by decide +kernel
theorem dX11_happen_60 : decode cX11_happen 60 = .ok (.ireturn, 1) := by decide +kernel
theorem dX11_hasStoppedBy_0 : decode cX11_hasStoppedBy 0 = .ok (.aload_n 0, 1) := by decide +kernel
theorem dX11_hasStoppedBy_1 : decode cX11_hasStoppedBy 1 = .ok (.iload_n 1, 1) := by decide +kernel
theorem dX11_hasStoppedBy_2 : decode cX11_hasStoppedBy 2 = .ok (.iload_n 3, 1) := by decide +kernel
theorem dX11_hasStoppedBy_3 : decode cX11_hasStoppedBy 3 = .ok (.invokevirtual 161, 3) := by decide +kernel
theorem dX11_hasStoppedBy_6 : decode cX11_hasStoppedBy 6 = .ok (.istore 4, 2) := by decide +kernel
theorem dX11_hasStoppedBy_8 : decode cX11_hasStoppedBy 8 = .ok (.iload 4, 2) := by decide +kernel
theorem dX11_hasStoppedBy_10 : decode cX11_hasStoppedBy 10 = .ok (.iconst (-1), 1) := by decide +kernel
theorem dX11_hasStoppedBy_11 : decode cX11_hasStoppedBy 11 = .ok (.if_icmp .eq 13, 3) := by decide +kernel
theorem dX11_hasStoppedBy_14 : decode cX11_hasStoppedBy 14 = .ok (.iload 4, 2) := by decide +kernel
theorem dX11_hasStoppedBy_16 : decode cX11_hasStoppedBy 16 = .ok (.iload_n 2, 1) := by decide +kernel
theorem dX11_hasStoppedBy_17 : decode cX11_hasStoppedBy 17 = .ok (.if_icmp .gt 7, 3) := by decide +kernel
theorem dX11_hasStoppedBy_20 : decode cX11_hasStoppedBy 20 = .ok (.iconst 1, 1) := by decide +kernel
theorem dX11_hasStoppedBy_21 : decode cX11_hasStoppedBy 21 = .ok (.goto 4, 3) := by decide +kernel
theorem dX11_hasStoppedBy_24 : decode cX11_hasStoppedBy 24 = .ok (.iconst 0, 1) := by decide +kernel
theorem dX11_hasStoppedBy_25 : decode cX11_hasStoppedBy 25 = .ok (.ireturn, 1) := by decide +kernel
theorem dX11_hasTheFirstUnlike_0 : decode cX11_hasTheFirstUnlike 0 = .ok (.iload_n 0, 1) := by decide +kernel
theorem dX11_hasTheFirstUnlike_1 : decode cX11_hasTheFirstUnlike 1 = .ok (.iload_n 1, 1) := by decide +kernel
theorem dX11_hasTheFirstUnlike_2 : decode cX11_hasTheFirstUnlike 2 = .ok (.ixor, 1) := by decide +kernel
theorem dX11_hasTheFirstUnlike_3 : decode cX11_hasTheFirstUnlike 3 = .ok (.istore_n 2, 1) := by decide +kernel
theorem dX11_hasTheFirstUnlike_4 : decode cX11_hasTheFirstUnlike 4 = .ok (.iload_n 0, 1) := by decide +kernel
theorem dX11_hasTheFirstUnlike_5 : decode cX11_hasTheFirstUnlike 5 = .ok (.iload_n 2, 1) := by decide +kernel
theorem dX11_hasTheFirstUnlike_6 : decode cX11_hasTheFirstUnlike 6 = .ok (.iand, 1) := by decide +kernel
theorem dX11_hasTheFirstUnlike_7 : decode cX11_hasTheFirstUnlike 7 = .ok (.iload_n 2, 1) := by decide +kernel
theorem dX11_hasTheFirstUnlike_8 : decode cX11_hasTheFirstUnlike 8 = .ok (.ineg, 1) := by decide +kernel
theorem dX11_hasTheFirstUnlike_9 : decode cX11_hasTheFirstUnlike 9 = .ok (.iand, 1) := by decide +kernel
theorem dX11_hasTheFirstUnlike_10 : decode cX11_hasTheFirstUnlike 10 = .ok (.ifCond .eq 7, 3) := by decide +kernel
theorem dX11_hasTheFirstUnlike_13 : decode cX11_hasTheFirstUnlike 13 = .ok (.iconst 1, 1) := by decide +kernel
theorem dX11_hasTheFirstUnlike_14 : decode cX11_hasTheFirstUnlike 14 = .ok (.goto 4, 3) := by decide +kernel
theorem dX11_hasTheFirstUnlike_17 : decode cX11_hasTheFirstUnlike 17 = .ok (.iconst 0, 1) := by decide +kernel
theorem dX11_hasTheFirstUnlike_18 : decode cX11_hasTheFirstUnlike 18 = .ok (.ireturn, 1) := by decide +kernel
theorem dX11_held_0 : decode cX11_held 0 = .ok (.aload_n 0, 1) := by decide +kernel
theorem dX11_held_1 : decode cX11_held 1 = .ok (.iload_n 1, 1) := by decide +kernel
theorem dX11_held_2 : decode cX11_held 2 = .ok (.invokevirtual 136, 3) := by decide +kernel
theorem dX11_held_5 : decode cX11_held 5 = .ok (.ifCond .eq 11, 3) := by decide +kernel
theorem dX11_held_8 : decode cX11_held 8 = .ok (.aload_n 0, 1) := by decide +kernel
theorem dX11_held_9 : decode cX11_held 9 = .ok (.iload_n 2, 1) := by decide +kernel
theorem dX11_held_10 : decode cX11_held 10 = .ok (.invokevirtual 158, 3) := by decide +kernel
theorem dX11_held_13 : decode cX11_held 13 = .ok (.ifCond .ne 5, 3) := by decide +kernel
theorem dX11_held_16 : decode cX11_held 16 = .ok (.iconst (-1), 1) := by decide +kernel
theorem dX11_held_17 : decode cX11_held 17 = .ok (.ireturn, 1) := by decide +kernel
theorem dX11_held_18 : decode cX11_held 18 = .ok (.aload_n 0, 1) := by decide +kernel
theorem dX11_held_19 : decode cX11_held 19 = .ok (.iload_n 2, 1) := by decide +kernel
theorem dX11_held_20 : decode cX11_held 20 = .ok (.invokevirtual 322, 3) := by decide +kernel
theorem dX11_held_23 : decode cX11_held 23 = .ok (.iconst (-1), 1) := by decide +kernel
theorem dX11_held_24 : decode cX11_held 24 = .ok (.istore_n 3, 1) := by decide +kernel
theorem dX11_held_25 : decode cX11_held 25 = .ok (.iconst 1, 1) := by decide +kernel
theorem dX11_held_26 : decode cX11_held 26 = .ok (.istore 4, 2) := by decide +kernel
theorem dX11_held_28 : decode cX11_held 28 = .ok (.iconst 0, 1) := by decide +kernel
theorem dX11_held_29 : decode cX11_held 29 = .ok (.istore 5, 2) := by decide +kernel
theorem dX11_held_31 : decode cX11_held 31 = .ok (.iload 5, 2) := by decide +kernel
theorem dX11_held_33 : decode cX11_held 33 = .ok (.bipush 9, 2) := by decide +kernel
theorem dX11_held_35 : decode cX11_held 35 = .ok (.if_icmp .gt 32, 3) := by decide +kernel
theorem dX11_held_38 : decode cX11_held 38 = .ok (.aload_n 0, 1) := by decide +kernel
theorem dX11_held_39 : decode cX11_held 39 = .ok (.iload_n 1, 1) := by decide +kernel
theorem dX11_held_40 : decode cX11_held 40 = .ok (.iload 5, 2) := by decide +kernel
theorem dX11_held_42 : decode cX11_held 42 = .ok (.invokevirtual 339, 3) := by decide +kernel
theorem dX11_held_45 : decode cX11_held 45 = .ok (.istore 6, 2) := by decide +kernel
theorem dX11_held_47 : decode cX11_held 47 = .ok (.iload 6, 2) := by decide +kernel
theorem dX11_held_49 : decode cX11_held 49 = .ok (.iload 4, 2) := by decide +kernel
theorem dX11_held_51 : decode cX11_held 51 = .ok (.if_icmp .le 10, 3) := by decide +kernel
theorem dX11_held_54 : decode cX11_held 54 = .ok (.iload 6, 2) := by decide +kernel
theorem dX11_held_56 : decode cX11_held 56 = .ok (.istore 4, 2) := by decide +kernel
theorem dX11_held_58 : decode cX11_held 58 = .ok (.iload 5, 2) := by decide +kernel
theorem dX11_held_60 : decode cX11_held 60 = .ok (.istore_n 3, 1) := by decide +kernel
theorem dX11_held_61 : decode cX11_held 61 = .ok (.iinc 5 1, 3) := by decide +kernel
theorem dX11_held_64 : decode cX11_held 64 = .ok (.goto (-33), 3) := by decide +kernel
theorem dX11_held_67 : decode cX11_held 67 = .ok (.iload_n 3, 1) := by decide +kernel
theorem dX11_held_68 : decode cX11_held 68 = .ok (.ireturn, 1) := by decide +kernel
theorem dX11_hide_0 : decode cX11_hide 0 = .ok (.iload_n 1, 1) := by decide +kernel
theorem dX11_hide_1 : decode cX11_hide 1 = .ok (.iconst 1, 1) := by decide +kernel
theorem dX11_hide_2 : decode cX11_hide 2 = .ok (.if_icmp .ge 5, 3) := by decide +kernel
theorem dX11_hide_5 : decode cX11_hide 5 = .ok (.iconst (-1), 1) := by decide +kernel
theorem dX11_hide_6 : decode cX11_hide 6 = .ok (.ireturn, 1) := by decide +kernel
theorem dX11_hide_7 : decode cX11_hide 7 = .ok (.getstatic 396, 3) := by decide +kernel
theorem dX11_hide_10 : decode cX11_hide 10 = .ok (.astore_n 2, 1) := by decide +kernel
theorem dX11_hide_11 : decode cX11_hide 11 = .ok (.aload_n 2, 1) := by decide +kernel
theorem dX11_hide_12 : decode cX11_hide 12 = .ok (.arraylength, 1) := by decide +kernel
theorem dX11_hide_13 : decode cX11_hide 13 = .ok (.istore_n 3, 1) := by decide +kernel
theorem dX11_hide_14 : decode cX11_hide 14 = .ok (.iconst 0, 1) := by decide +kernel
theorem dX11_hide_15 : decode cX11_hide 15 = .ok (.istore 4, 2) := by decide +kernel
theorem dX11_hide_17 : decode cX11_hide 17 = .ok (.iload 4, 2) := by decide +kernel
theorem dX11_hide_19 : decode cX11_hide 19 = .ok (.iload_n 3, 1) := by decide +kernel
theorem dX11_hide_20 : decode cX11_hide 20 = .ok (.if_icmp .ge 31, 3) := by decide +kernel
theorem dX11_hide_23 : decode cX11_hide 23 = .ok (.aload_n 2, 1) := by decide +kernel
theorem dX11_hide_24 : decode cX11_hide 24 = .ok (.iload 4, 2) := by decide +kernel
theorem dX11_hide_26 : decode cX11_hide 26 = .ok (.iaload, 1) := by decide +kernel
theorem dX11_hide_27 : decode cX11_hide 27 = .ok (.istore 5, 2) := by decide +kernel
theorem dX11_hide_29 : decode cX11_hide 29 = .ok (.aload_n 0, 1) := by decide +kernel
theorem dX11_hide_30 : decode cX11_hide 30 = .ok (.iload_n 1, 1) := by decide +kernel
theorem dX11_hide_31 : decode cX11_hide 31 = .ok (.bipush 7, 2) := by decide +kernel
theorem dX11_hide_33 : decode cX11_hide 33 = .ok (.iload 5, 2) := by decide +kernel
theorem dX11_hide_35 : decode cX11_hide 35 = .ok (.isub, 1) := by decide +kernel
theorem dX11_hide_36 : decode cX11_hide 36 = .ok (.invokevirtual 399, 3) := by decide +kernel
theorem dX11_hide_39 : decode cX11_hide 39 = .ok (.ifCond .eq 6, 3) := by decide +kernel
theorem dX11_hide_42 : decode cX11_hide 42 = .ok (.iload 5, 2) := by decide +kernel
theorem dX11_hide_44 : decode cX11_hide 44 = .ok (.ireturn, 1) := by decide +kernel
theorem dX11_hide_45 : decode cX11_hide 45 = .ok (.iinc 4 1, 3) := by decide +kernel
theorem dX11_hide_48 : decode cX11_hide 48 = .ok (.goto (-31), 3) := by decide +kernel
theorem dX11_hide_51 : decode cX11_hide 51 = .ok (.iconst (-1), 1) := by decide +kernel
theorem dX11_hide_52 : decode cX11_hide 52 = .ok (.ireturn, 1) := by decide +kernel
theorem dX11_init_0 : decode cX11_init 0 = .ok (.aload_n 0, 1) := by decide +kernel
theorem dX11_init_1 : decode cX11_init 1 = .ok (.invokespecial 1, 3) := by decide +kernel
theorem dX11_init_4 : decode cX11_init 4 = .ok (.aload_n 0, 1) := by decide +kernel
theorem dX11_init_5 : decode cX11_init 5 = .ok (.new 7, 3) := by decide +kernel
theorem dX11_init_8 : decode cX11_init 8 = .ok (.dup, 1) := by decide +kernel
theorem dX11_init_9 : decode cX11_init 9 = .ok (.invokespecial 9, 3) := by decide +kernel
theorem dX11_init_12 : decode cX11_init 12 = .ok (.putfield 10, 3) := by decide +kernel
theorem dX11_init_15 : decode cX11_init 15 = .ok (.aload_n 0, 1) := by decide +kernel
theorem dX11_init_16 : decode cX11_init 16 = .ok (.new 7, 3) := by decide +kernel
theorem dX11_init_19 : decode cX11_init 19 = .ok (.dup, 1) := by decide +kernel
theorem dX11_init_20 : decode cX11_init 20 = .ok (.invokespecial 9, 3) := by decide +kernel
theorem dX11_init_23 : decode cX11_init 23 = .ok (.putfield 16, 3) := by decide +kernel
theorem dX11_init_26 : decode cX11_init 26 = .ok (.aload_n 0, 1) := by decide +kernel
theorem dX11_init_27 : decode cX11_init 27 = .ok (.new 7, 3) := by decide +kernel
theorem dX11_init_30 : decode cX11_init 30 = .ok (.dup, 1) := by decide +kernel
theorem dX11_init_31 : decode cX11_init 31 = .ok (.invokespecial 9, 3) := by decide +kernel
theorem dX11_init_34 : decode cX11_init 34 = .ok (.putfield 19, 3) := by decide +kernel
theorem dX11_init_37 : decode cX11_init 37 = .ok (.aload_n 0, 1) := by decide +kernel
theorem dX11_init_38 : decode cX11_init 38 = .ok (.new 7, 3) := by decide +kernel
theorem dX11_init_41 : decode cX11_init 41 = .ok (.dup, 1) := by decide +kernel
theorem dX11_init_42 : decode cX11_init 42 = .ok (.invokespecial 9, 3) := by decide +kernel
theorem dX11_init_45 : decode cX11_init 45 = .ok (.putfield 22, 3) := by decide +kernel
theorem dX11_init_48 : decode cX11_init 48 = .ok (.aload_n 0, 1) := by decide +kernel
theorem dX11_init_49 : decode cX11_init 49 = .ok (.new 7, 3) := by decide +kernel
theorem dX11_init_52 : decode cX11_init 52 = .ok (.dup, 1) := by decide +kernel
theorem dX11_init_53 : decode cX11_init 53 = .ok (.invokespecial 9, 3) := by decide +kernel
theorem dX11_init_56 : decode cX11_init 56 = .ok (.putfield 25, 3) := by decide +kernel
theorem dX11_init_59 : decode cX11_init 59 = .ok (.aload_n 0, 1) := by decide +kernel
theorem dX11_init_60 : decode cX11_init 60 = .ok (.new 7, 3) := by decide +kernel
theorem dX11_init_63 : decode cX11_init 63 = .ok (.dup, 1) := by decide +kernel
theorem dX11_init_64 : decode cX11_init 64 = .ok (.invokespecial 9, 3) := by decide +kernel
theorem dX11_init_67 : decode cX11_init 67 = .ok (.putfield 28, 3) := by decide +kernel
theorem dX11_init_70 : decode cX11_init 70 = .ok (.aload_n 0, 1) := by decide +kernel
theorem dX11_init_71 : decode cX11_init 71 = .ok (.new 7, 3) := by decide +kernel
theorem dX11_init_74 : decode cX11_init 74 = .ok (.dup, 1) := by decide +kernel
theorem dX11_init_75 : decode cX11_init 75 = .ok (.invokespecial 9, 3) := by decide +kernel
theorem dX11_init_78 : decode cX11_init 78 = .ok (.putfield 31, 3) := by decide +kernel
theorem dX11_init_81 : decode cX11_init 81 = .ok (.aload_n 0, 1) := by decide +kernel
theorem dX11_init_82 : decode cX11_init 82 = .ok (.new 34, 3) := by decide +kernel
theorem dX11_init_85 : decode cX11_init 85 = .ok (.dup, 1) := by decide +kernel
theorem dX11_init_86 : decode cX11_init 86 = .ok (.invokespecial 36, 3) := by decide +kernel
theorem dX11_init_89 : decode cX11_init 89 = .ok (.putfield 37, 3) := by decide +kernel
theorem dX11_init_92 : decode cX11_init 92 = .ok (.aload_n 0, 1) := by decide +kernel
theorem dX11_init_93 : decode cX11_init 93 = .ok (.new 41, 3) := by decide +kernel
theorem dX11_init_96 : decode cX11_init 96 = .ok (.dup, 1) := by decide +kernel
theorem dX11_init_97 : decode cX11_init 97 = .ok (.invokespecial 43, 3) := by decide +kernel
theorem dX11_init_100 : decode cX11_init 100 = .ok (.putfield 44, 3) := by decide +kernel
theorem dX11_init_103 : decode cX11_init 103 = .ok (.aload_n 0, 1) := by decide +kernel
theorem dX11_init_104 : decode cX11_init 104 = .ok (.new 48, 3) := by decide +kernel
theorem dX11_init_107 : decode cX11_init 107 = .ok (.dup, 1) := by decide +kernel
theorem dX11_init_108 : decode cX11_init 108 = .ok (.invokespecial 50, 3) := by decide +kernel
theorem dX11_init_111 : decode cX11_init 111 = .ok (.putfield 51, 3) := by decide +kernel
theorem dX11_init_114 : decode cX11_init 114 = .ok (.aload_n 0, 1) := by decide +kernel
theorem dX11_init_115 : decode cX11_init 115 = .ok (.bipush 8, 2) := by decide +kernel
theorem dX11_init_117 : decode cX11_init 117 = .ok (.iconst 4, 1) := by decide +kernel
theorem dX11_init_118 : decode cX11_init 118 = .ok (.multianewarray 55 2, 4) := by decide +kernel
theorem dX11_init_122 : decode cX11_init 122 = .ok (.putfield 57, 3) := by decide +kernel
theorem dX11_init_125 : decode cX11_init 125 = .ok (.aload_n 0, 1) := by decide +kernel
theorem dX11_init_126 : decode cX11_init 126 = .ok (.bipush 6, 2) := by decide +kernel
theorem dX11_init_128 : decode cX11_init 128 = .ok (.sipush 200, 3) := by decide +kernel
theorem dX11_init_131 : decode cX11_init 131 = .ok (.multianewarray 55 2, 4) := by decide +kernel
theorem dX11_init_135 : decode cX11_init 135 = .ok (.putfield 60, 3) := by decide +kernel
theorem dX11_init_138 : decode cX11_init 138 = .ok (.aload_n 0, 1) := by decide +kernel
theorem dX11_init_139 : decode cX11_init 139 = .ok (.ldc 63, 2) := by decide +kernel
theorem dX11_init_141 : decode cX11_init 141 = .ok (.invokevirtual 65, 3) := by decide +kernel
theorem dX11_init_144 : decode cX11_init 144 = .ok (.newarray .int, 2) := by decide +kernel
theorem dX11_init_146 : decode cX11_init 146 = .ok (.putfield 71, 3) := by decide +kernel
theorem dX11_init_149 : decode cX11_init 149 = .ok (.aload_n 0, 1) := by decide +kernel
theorem dX11_init_150 : decode cX11_init 150 = .ok (.new 75, 3) := by decide +kernel
theorem dX11_init_153 : decode cX11_init 153 = .ok (.dup, 1) := by decide +kernel
theorem dX11_init_154 : decode cX11_init 154 = .ok (.invokespecial 77, 3) := by decide +kernel
theorem dX11_init_157 : decode cX11_init 157 = .ok (.putfield 78, 3) := by decide +kernel
theorem dX11_init_160 : decode cX11_init 160 = .ok (.aload_n 0, 1) := by decide +kernel
theorem dX11_init_161 : decode cX11_init 161 = .ok (.bipush 20, 2) := by decide +kernel
theorem dX11_init_163 : decode cX11_init 163 = .ok (.newarray .int, 2) := by decide +kernel
theorem dX11_init_165 : decode cX11_init 165 = .ok (.putfield 82, 3) := by decide +kernel
theorem dX11_init_168 : decode cX11_init 168 = .ok (.aload_n 0, 1) := by decide +kernel
theorem dX11_init_169 : decode cX11_init 169 = .ok (.bipush 24, 2) := by decide +kernel
theorem dX11_init_171 : decode cX11_init 171 = .ok (.newarray .int, 2) := by decide +kernel
theorem dX11_init_173 : decode cX11_init 173 = .ok (.putfield 85, 3) := by decide +kernel
theorem dX11_init_176 : decode cX11_init 176 = .ok (.aload_n 0, 1) := by decide +kernel
theorem dX11_init_177 : decode cX11_init 177 = .ok (.iconst 0, 1) := by decide +kernel
theorem dX11_init_178 : decode cX11_init 178 = .ok (.putfield 88, 3) := by decide +kernel
theorem dX11_init_181 : decode cX11_init 181 = .ok (.return_, 1) := by decide +kernel
theorem dX11_insertPick_0 : decode cX11_insertPick 0 = .ok (.iload_n 3, 1) := by decide +kernel
theorem dX11_insertPick_1 : decode cX11_insertPick 1 = .ok (.aload_n 0, 1) := by decide +kernel
theorem dX11_insertPick_2 : decode cX11_insertPick 2 = .ok (.getfield 82, 3) := by decide +kernel
theorem dX11_insertPick_5 : decode cX11_insertPick 5 = .ok (.arraylength, 1) := by decide +kernel
theorem dX11_insertPick_6 : decode cX11_insertPick 6 = .ok (.if_icmp .gt 8, 3) := by decide +kernel
theorem dX11_insertPick_9 : decode cX11_insertPick 9 = .ok (.iload_n 2, 1) := by decide +kernel
theorem dX11_insertPick_10 : decode cX11_insertPick 10 = .ok (.iload_n 3, 1) := by decide +kernel
theorem dX11_insertPick_11 : decode cX11_insertPick 11 = .ok (.if_icmp .le 5, 3) := by decide +kernel
theorem dX11_insertPick_14 : decode cX11_insertPick 14 = .ok (.iload_n 2, 1) := by decide +kernel
theorem dX11_insertPick_15 : decode cX11_insertPick 15 = .ok (.ireturn, 1) := by decide +kernel
theorem dX11_insertPick_16 : decode cX11_insertPick 16 = .ok (.aload_n 0, 1) := by decide +kernel
theorem dX11_insertPick_17 : decode cX11_insertPick 17 = .ok (.iload_n 1, 1) := by decide +kernel
theorem dX11_insertPick_18 : decode cX11_insertPick 18 = .ok (.invokevirtual 282, 3) := by decide +kernel
theorem dX11_insertPick_21 : decode cX11_insertPick 21 = .ok (.istore 4, 2) := by decide +kernel
theorem dX11_insertPick_23 : decode cX11_insertPick 23 = .ok (.iload_n 2, 1) := by decide +kernel
theorem dX11_insertPick_24 : decode cX11_insertPick 24 = .ok (.istore 5, 2) := by decide +kernel
theorem dX11_insertPick_26 : decode cX11_insertPick 26 = .ok (.iload 5, 2) := by decide +kernel
theorem dX11_insertPick_28 : decode cX11_insertPick 28 = .ok (.ifCond .le 27, 3) := by decide +kernel
theorem dX11_insertPick_31 : decode cX11_insertPick 31 = .ok (.aload_n 0, 1) := by decide +kernel
theorem dX11_insertPick_32 : decode cX11_insertPick 32 = .ok (.aload_n 0, 1) := by decide +kernel
theorem dX11_insertPick_33 : decode cX11_insertPick 33 = .ok (.getfield 82, 3) := by decide +kernel
theorem dX11_insertPick_36 : decode cX11_insertPick 36 = .ok (.iload 5, 2) := by decide +kernel
theorem dX11_insertPick_38 : decode cX11_insertPick 38 = .ok (.iconst 1, 1) := by decide +kernel
theorem dX11_insertPick_39 : decode cX11_insertPick 39 = .ok (.isub, 1) := by decide +kernel
theorem dX11_insertPick_40 : decode cX11_insertPick 40 = .ok (.iaload, 1) := by decide +kernel
theorem dX11_insertPick_41 : decode cX11_insertPick 41 = .ok (.invokevirtual 282, 3) := by decide +kernel
theorem dX11_insertPick_44 : decode cX11_insertPick 44 = .ok (.iload 4, 2) := by decide +kernel
theorem dX11_insertPick_46 : decode cX11_insertPick 46 = .ok (.if_icmp .ge 9, 3) := by decide +kernel
theorem dX11_insertPick_49 : decode cX11_insertPick 49 = .ok (.iinc 5 (-1), 3) := by decide +kernel
theorem dX11_insertPick_52 : decode cX11_insertPick 52 = .ok (.goto (-26), 3) := by decide +kernel
theorem dX11_insertPick_55 : decode cX11_insertPick 55 = .ok (.iload 5, 2) := by decide +kernel
theorem dX11_insertPick_57 : decode cX11_insertPick 57 = .ok (.iload_n 3, 1) := by decide +kernel
theorem dX11_insertPick_58 : decode cX11_insertPick 58 = .ok (.if_icmp .lt 5, 3) := by decide +kernel
theorem dX11_insertPick_61 : decode cX11_insertPick 61 = .ok (.iload_n 2, 1) := by decide +kernel
theorem dX11_insertPick_62 : decode cX11_insertPick 62 = .ok (.ireturn, 1) := by decide +kernel
theorem dX11_insertPick_63 : decode cX11_insertPick 63 = .ok (.iload_n 2, 1) := by decide +kernel
theorem dX11_insertPick_64 : decode cX11_insertPick 64 = .ok (.iload_n 3, 1) := by decide +kernel
theorem dX11_insertPick_65 : decode cX11_insertPick 65 = .ok (.if_icmp .ge 9, 3) := by decide +kernel
theorem dX11_insertPick_68 : decode cX11_insertPick 68 = .ok (.iload_n 2, 1) := by decide +kernel
theorem dX11_insertPick_69 : decode cX11_insertPick 69 = .ok (.iconst 1, 1) := by decide +kernel
theorem dX11_insertPick_70 : decode cX11_insertPick 70 = .ok (.iadd, 1) := by decide +kernel
theorem dX11_insertPick_71 : decode cX11_insertPick 71 = .ok (.goto 4, 3) := by decide +kernel
theorem dX11_insertPick_74 : decode cX11_insertPick 74 = .ok (.iload_n 2, 1) := by decide +kernel
theorem dX11_insertPick_75 : decode cX11_insertPick 75 = .ok (.istore 6, 2) := by decide +kernel
theorem dX11_insertPick_77 : decode cX11_insertPick 77 = .ok (.iload 6, 2) := by decide +kernel
theorem dX11_insertPick_79 : decode cX11_insertPick 79 = .ok (.iconst 1, 1) := by decide +kernel
theorem dX11_insertPick_80 : decode cX11_insertPick 80 = .ok (.isub, 1) := by decide +kernel
theorem dX11_insertPick_81 : decode cX11_insertPick 81 = .ok (.istore 7, 2) := by decide +kernel
theorem dX11_insertPick_83 : decode cX11_insertPick 83 = .ok (.iload 7, 2) := by decide +kernel
theorem dX11_insertPick_85 : decode cX11_insertPick 85 = .ok (.iload 5, 2) := by decide +kernel
theorem dX11_insertPick_87 : decode cX11_insertPick 87 = .ok (.if_icmp .le 25, 3) := by decide +kernel
theorem dX11_insertPick_90 : decode cX11_insertPick 90 = .ok (.aload_n 0, 1) := by decide +kernel
theorem dX11_insertPick_91 : decode cX11_insertPick 91 = .ok (.getfield 82, 3) := by decide +kernel
theorem dX11_insertPick_94 : decode cX11_insertPick 94 = .ok (.iload 7, 2) := by decide +kernel
theorem dX11_insertPick_96 : decode cX11_insertPick 96 = .ok (.aload_n 0, 1) := by decide +kernel
theorem dX11_insertPick_97 : decode cX11_insertPick 97 = .ok (.getfield 82, 3) := by decide +kernel
theorem dX11_insertPick_100 : decode cX11_insertPick 100 = .ok (.iload 7, 2) := by decide +kernel
theorem dX11_insertPick_102 : decode cX11_insertPick 102 = .ok (.iconst 1, 1) := by decide +kernel
theorem dX11_insertPick_103 : decode cX11_insertPick 103 = .ok (.isub, 1) := by decide +kernel
theorem dX11_insertPick_104 : decode cX11_insertPick 104 = .ok (.iaload, 1) := by decide +kernel
theorem dX11_insertPick_105 : decode cX11_insertPick 105 = .ok (.iastore, 1) := by decide +kernel
theorem dX11_insertPick_106 : decode cX11_insertPick 106 = .ok (.iinc 7 (-1), 3) := by decide +kernel
theorem dX11_insertPick_109 : decode cX11_insertPick 109 = .ok (.goto (-26), 3) := by decide +kernel
theorem dX11_insertPick_112 : decode cX11_insertPick 112 = .ok (.aload_n 0, 1) := by decide +kernel
theorem dX11_insertPick_113 : decode cX11_insertPick 113 = .ok (.getfield 82, 3) := by decide +kernel
theorem dX11_insertPick_116 : decode cX11_insertPick 116 = .ok (.iload 5, 2) := by decide +kernel
theorem dX11_insertPick_118 : decode cX11_insertPick 118 = .ok (.iload_n 1, 1) := by decide +kernel
theorem dX11_insertPick_119 : decode cX11_insertPick 119 = .ok (.iastore, 1) := by decide +kernel
theorem dX11_insertPick_120 : decode cX11_insertPick 120 = .ok (.iload 6, 2) := by decide +kernel
theorem dX11_insertPick_122 : decode cX11_insertPick 122 = .ok (.ireturn, 1) := by decide +kernel
theorem dX11_isCoin_0 : decode cX11_isCoin 0 = .ok (.iload_n 0, 1) := by decide +kernel
theorem dX11_isCoin_1 : decode cX11_isCoin 1 = .ok (.iconst 0, 1) := by decide +kernel
theorem dX11_isCoin_2 : decode cX11_isCoin 2 = .ok (.sipush 400, 3) := by decide +kernel
theorem dX11_isCoin_5 : decode cX11_isCoin 5 = .ok (.invokestatic 92, 3) := by decide +kernel
theorem dX11_isCoin_8 : decode cX11_isCoin 8 = .ok (.ireturn, 1) := by decide +kernel
theorem dX11_isDay_0 : decode cX11_isDay 0 = .ok (.iload_n 0, 1) := by decide +kernel
theorem dX11_isDay_1 : decode cX11_isDay 1 = .ok (.iconst 0, 1) := by decide +kernel
theorem dX11_isDay_2 : decode cX11_isDay 2 = .ok (.sipush 1000, 3) := by decide +kernel
theorem dX11_isDay_5 : decode cX11_isDay 5 = .ok (.invokestatic 92, 3) := by decide +kernel
theorem dX11_isDay_8 : decode cX11_isDay 8 = .ok (.ireturn, 1) := by decide +kernel
theorem dX11_isDigest_0 : decode cX11_isDigest 0 = .ok (.iload_n 1, 1) := by decide +kernel
theorem dX11_isDigest_1 : decode cX11_isDigest 1 = .ok (.invokestatic 150, 3) := by decide +kernel
theorem dX11_isDigest_4 : decode cX11_isDigest 4 = .ok (.ifCond .eq 35, 3) := by decide +kernel
theorem dX11_isDigest_7 : decode cX11_isDigest 7 = .ok (.iload_n 2, 1) := by decide +kernel
theorem dX11_isDigest_8 : decode cX11_isDigest 8 = .ok (.invokestatic 150, 3) := by decide +kernel
theorem dX11_isDigest_11 : decode cX11_isDigest 11 = .ok (.ifCond .eq 28, 3) := by decide +kernel
theorem dX11_isDigest_14 : decode cX11_isDigest 14 = .ok (.iload_n 2, 1) := by decide +kernel
theorem dX11_isDigest_15 : decode cX11_isDigest 15 = .ok (.iload_n 1, 1) := by decide +kernel
theorem dX11_isDigest_16 : decode cX11_isDigest 16 = .ok (.if_icmp .lt 23, 3) := by decide +kernel
theorem dX11_isDigest_19 : decode cX11_isDigest 19 = .ok (.iload_n 3, 1) := by decide +kernel
theorem dX11_isDigest_20 : decode cX11_isDigest 20 = .ok (.invokestatic 235, 3) := by decide +kernel
theorem dX11_isDigest_23 : decode cX11_isDigest 23 = .ok (.ifCond .eq 16, 3) := by decide +kernel
theorem dX11_isDigest_26 : decode cX11_isDigest 26 = .ok (.aload_n 0, 1) := by decide +kernel
theorem dX11_isDigest_27 : decode cX11_isDigest 27 = .ok (.iload 4, 2) := by decide +kernel
theorem dX11_isDigest_29 : decode cX11_isDigest 29 = .ok (.invokevirtual 158, 3) := by decide +kernel
theorem dX11_isDigest_32 : decode cX11_isDigest 32 = .ok (.ifCond .eq 7, 3) := by decide +kernel
theorem dX11_isDigest_35 : decode cX11_isDigest 35 = .ok (.iconst 1, 1) := by decide +kernel
theorem dX11_isDigest_36 : decode cX11_isDigest 36 = .ok (.goto 4, 3) := by decide +kernel
theorem dX11_isDigest_39 : decode cX11_isDigest 39 = .ok (.iconst 0, 1) := by decide +kernel
theorem dX11_isDigest_40 : decode cX11_isDigest 40 = .ok (.ireturn, 1) := by decide +kernel
theorem dX11_isDrawn_0 : decode cX11_isDrawn 0 = .ok (.iconst 0, 1) := by decide +kernel
theorem dX11_isDrawn_1 : decode cX11_isDrawn 1 = .ok (.istore_n 3, 1) := by decide +kernel
theorem dX11_isDrawn_2 : decode cX11_isDrawn 2 = .ok (.iload_n 3, 1) := by decide +kernel
theorem dX11_isDrawn_3 : decode cX11_isDrawn 3 = .ok (.iload_n 2, 1) := by decide +kernel
theorem dX11_isDrawn_4 : decode cX11_isDrawn 4 = .ok (.if_icmp .ge 30, 3) := by decide +kernel
theorem dX11_isDrawn_7 : decode cX11_isDrawn 7 = .ok (.iload_n 3, 1) := by decide +kernel
theorem dX11_isDrawn_8 : decode cX11_isDrawn 8 = .ok (.aload_n 0, 1) := by decide +kernel
theorem dX11_isDrawn_9 : decode cX11_isDrawn 9 = .ok (.getfield 85, 3) := by decide +kernel
theorem dX11_isDrawn_12 : decode cX11_isDrawn 12 = .ok (.arraylength, 1) := by decide +kernel
theorem dX11_isDrawn_13 : decode cX11_isDrawn 13 = .ok (.if_icmp .ge 21, 3) := by decide +kernel
theorem dX11_isDrawn_16 : decode cX11_isDrawn 16 = .ok (.aload_n 0, 1) := by decide +kernel
theorem dX11_isDrawn_17 : decode cX11_isDrawn 17 = .ok (.getfield 85, 3) := by decide +kernel
theorem dX11_isDrawn_20 : decode cX11_isDrawn 20 = .ok (.iload_n 3, 1) := by decide +kernel
theorem dX11_isDrawn_21 : decode cX11_isDrawn 21 = .ok (.iaload, 1) := by decide +kernel
theorem dX11_isDrawn_22 : decode cX11_isDrawn 22 = .ok (.iload_n 1, 1) := by decide +kernel
theorem dX11_isDrawn_23 : decode cX11_isDrawn 23 = .ok (.if_icmp .ne 5, 3) := by decide +kernel
theorem dX11_isDrawn_26 : decode cX11_isDrawn 26 = .ok (.iconst 1, 1) := by decide +kernel
theorem dX11_isDrawn_27 : decode cX11_isDrawn 27 = .ok (.ireturn, 1) := by decide +kernel
theorem dX11_isDrawn_28 : decode cX11_isDrawn 28 = .ok (.iinc 3 1, 3) := by decide +kernel
theorem dX11_isDrawn_31 : decode cX11_isDrawn 31 = .ok (.goto (-29), 3) := by decide +kernel
theorem dX11_isDrawn_34 : decode cX11_isDrawn 34 = .ok (.iconst 0, 1) := by decide +kernel
theorem dX11_isDrawn_35 : decode cX11_isDrawn 35 = .ok (.ireturn, 1) := by decide +kernel
theorem dX11_isHearing_0 : decode cX11_isHearing 0 = .ok (.iload_n 2, 1) := by decide +kernel
theorem dX11_isHearing_1 : decode cX11_isHearing 1 = .ok (.iconst (-1), 1) := by decide +kernel
theorem dX11_isHearing_2 : decode cX11_isHearing 2 = .ok (.if_icmp .ne 14, 3) := by decide +kernel
theorem dX11_isHearing_5 : decode cX11_isHearing 5 = .ok (.iload_n 3, 1) := by decide +kernel
theorem dX11_isHearing_6 : decode cX11_isHearing 6 = .ok (.iconst (-1), 1) := by decide +kernel
theorem dX11_isHearing_7 : decode cX11_isHearing 7 = .ok (.if_icmp .ne 7, 3) := by decide +kernel
theorem dX11_isHearing_10 : decode cX11_isHearing 10 = .ok (.iconst 1, 1) := by decide +kernel
theorem dX11_isHearing_11 : decode cX11_isHearing 11 = .ok (.goto 4, 3) := by decide +kernel
theorem dX11_isHearing_14 : decode cX11_isHearing 14 = .ok (.iconst 0, 1) := by decide +kernel
theorem dX11_isHearing_15 : decode cX11_isHearing 15 = .ok (.ireturn, 1) := by decide +kernel
theorem dX11_isHearing_16 : decode cX11_isHearing 16 = .ok (.iload_n 2, 1) := by decide +kernel
theorem dX11_isHearing_17 : decode cX11_isHearing 17 = .ok (.invokestatic 133, 3) := by decide +kernel
theorem dX11_isHearing_20 : decode cX11_isHearing 20 = .ok (.ifCond .eq 25, 3) := by decide +kernel
theorem dX11_isHearing_23 : decode cX11_isHearing 23 = .ok (.iload_n 3, 1) := by decide +kernel
theorem dX11_isHearing_24 : decode cX11_isHearing 24 = .ok (.iconst (-1), 1) := by decide +kernel
theorem dX11_isHearing_25 : decode cX11_isHearing 25 = .ok (.if_icmp .eq 16, 3) := by decide +kernel
theorem dX11_isHearing_28 : decode cX11_isHearing 28 = .ok (.aload_n 0, 1) := by decide +kernel
theorem dX11_isHearing_29 : decode cX11_isHearing 29 = .ok (.iload_n 3, 1) := by decide +kernel
theorem dX11_isHearing_30 : decode cX11_isHearing 30 = .ok (.invokevirtual 112, 3) := by decide +kernel
theorem dX11_isHearing_33 : decode cX11_isHearing 33 = .ok (.ifCond .eq 12, 3) := by decide +kernel
theorem dX11_isHearing_36 : decode cX11_isHearing 36 = .ok (.iload_n 3, 1) := by decide +kernel
theorem dX11_isHearing_37 : decode cX11_isHearing 37 = .ok (.iload_n 1, 1) := by decide +kernel
theorem dX11_isHearing_38 : decode cX11_isHearing 38 = .ok (.if_icmp .eq 7, 3) := by decide +kernel
theorem dX11_isHearing_41 : decode cX11_isHearing 41 = .ok (.iconst 1, 1) := by decide +kernel
theorem dX11_isHearing_42 : decode cX11_isHearing 42 = .ok (.goto 4, 3) := by decide +kernel
theorem dX11_isHearing_45 : decode cX11_isHearing 45 = .ok (.iconst 0, 1) := by decide +kernel
theorem dX11_isHearing_46 : decode cX11_isHearing 46 = .ok (.ireturn, 1) := by decide +kernel
theorem dX11_isHour_0 : decode cX11_isHour 0 = .ok (.iload_n 0, 1) := by decide +kernel
theorem dX11_isHour_1 : decode cX11_isHour 1 = .ok (.iconst 0, 1) := by decide +kernel
theorem dX11_isHour_2 : decode cX11_isHour 2 = .ok (.bipush 23, 2) := by decide +kernel
theorem dX11_isHour_4 : decode cX11_isHour 4 = .ok (.invokestatic 92, 3) := by decide +kernel
theorem dX11_isHour_7 : decode cX11_isHour 7 = .ok (.ireturn, 1) := by decide +kernel
theorem dX11_isKnownDay_0 : decode cX11_isKnownDay 0 = .ok (.iload_n 1, 1) := by decide +kernel
theorem dX11_isKnownDay_1 : decode cX11_isKnownDay 1 = .ok (.iconst 0, 1) := by decide +kernel
theorem dX11_isKnownDay_2 : decode cX11_isKnownDay 2 = .ok (.aload_n 0, 1) := by decide +kernel
theorem dX11_isKnownDay_3 : decode cX11_isKnownDay 3 = .ok (.getfield 88, 3) := by decide +kernel
theorem dX11_isKnownDay_6 : decode cX11_isKnownDay 6 = .ok (.invokestatic 92, 3) := by decide +kernel
theorem dX11_isKnownDay_9 : decode cX11_isKnownDay 9 = .ok (.ireturn, 1) := by decide +kernel
theorem dX11_isLine_0 : decode cX11_isLine 0 = .ok (.iload_n 1, 1) := by decide +kernel
theorem dX11_isLine_1 : decode cX11_isLine 1 = .ok (.iconst 0, 1) := by decide +kernel
theorem dX11_isLine_2 : decode cX11_isLine 2 = .ok (.aload_n 0, 1) := by decide +kernel
theorem dX11_isLine_3 : decode cX11_isLine 3 = .ok (.getfield 16, 3) := by decide +kernel
theorem dX11_isLine_6 : decode cX11_isLine 6 = .ok (.invokevirtual 100, 3) := by decide +kernel
theorem dX11_isLine_9 : decode cX11_isLine 9 = .ok (.iconst 1, 1) := by decide +kernel
theorem dX11_isLine_10 : decode cX11_isLine 10 = .ok (.isub, 1) := by decide +kernel
theorem dX11_isLine_11 : decode cX11_isLine 11 = .ok (.invokestatic 92, 3) := by decide +kernel
theorem dX11_isLine_14 : decode cX11_isLine 14 = .ok (.ireturn, 1) := by decide +kernel
theorem dX11_isLineKnown_0 : decode cX11_isLineKnown 0 = .ok (.aload_n 0, 1) := by decide +kernel
theorem dX11_isLineKnown_1 : decode cX11_isLineKnown 1 = .ok (.iload_n 1, 1) := by decide +kernel
theorem dX11_isLineKnown_2 : decode cX11_isLineKnown 2 = .ok (.invokevirtual 136, 3) := by decide +kernel
theorem dX11_isLineKnown_5 : decode cX11_isLineKnown 5 = .ok (.ifCond .eq 33, 3) := by decide +kernel
theorem dX11_isLineKnown_8 : decode cX11_isLineKnown 8 = .ok (.aload_n 0, 1) := by decide +kernel
theorem dX11_isLineKnown_9 : decode cX11_isLineKnown 9 = .ok (.iload_n 2, 1) := by decide +kernel
theorem dX11_isLineKnown_10 : decode cX11_isLineKnown 10 = .ok (.invokevirtual 158, 3) := by decide +kernel
theorem dX11_isLineKnown_13 : decode cX11_isLineKnown 13 = .ok (.ifCond .eq 25, 3) := by decide +kernel
theorem dX11_isLineKnown_16 : decode cX11_isLineKnown 16 = .ok (.aload_n 0, 1) := by decide +kernel
theorem dX11_isLineKnown_17 : decode cX11_isLineKnown 17 = .ok (.getfield 16, 3) := by decide +kernel
theorem dX11_isLineKnown_20 : decode cX11_isLineKnown 20 = .ok (.iload_n 1, 1) := by decide +kernel
theorem dX11_isLineKnown_21 : decode cX11_isLineKnown 21 = .ok (.invokevirtual 126, 3) := by decide +kernel
theorem dX11_isLineKnown_24 : decode cX11_isLineKnown 24 = .ok (.checkcast 124, 3) := by decide +kernel
theorem dX11_isLineKnown_27 : decode cX11_isLineKnown 27 = .ok (.getfield 315, 3) := by decide +kernel
theorem dX11_isLineKnown_30 : decode cX11_isLineKnown 30 = .ok (.iload_n 2, 1) := by decide +kernel
theorem dX11_isLineKnown_31 : decode cX11_isLineKnown 31 = .ok (.if_icmp .gt 7, 3) := by decide +kernel
theorem dX11_isLineKnown_34 : decode cX11_isLineKnown 34 = .ok (.iconst 1, 1) := by decide +kernel
theorem dX11_isLineKnown_35 : decode cX11_isLineKnown 35 = .ok (.goto 4, 3) := by decide +kernel
theorem dX11_isLineKnown_38 : decode cX11_isLineKnown 38 = .ok (.iconst 0, 1) := by decide +kernel
theorem dX11_isLineKnown_39 : decode cX11_isLineKnown 39 = .ok (.ireturn, 1) := by decide +kernel
theorem dX11_isLotSize_0 : decode cX11_isLotSize 0 = .ok (.iload_n 1, 1) := by decide +kernel
theorem dX11_isLotSize_1 : decode cX11_isLotSize 1 = .ok (.iconst 1, 1) := by decide +kernel
theorem dX11_isLotSize_2 : decode cX11_isLotSize 2 = .ok (.aload_n 0, 1) := by decide +kernel
theorem dX11_isLotSize_3 : decode cX11_isLotSize 3 = .ok (.getfield 10, 3) := by decide +kernel
theorem dX11_isLotSize_6 : decode cX11_isLotSize 6 = .ok (.invokevirtual 100, 3) := by decide +kernel
theorem dX11_isLotSize_9 : decode cX11_isLotSize 9 = .ok (.invokestatic 92, 3) := by decide +kernel
theorem dX11_isLotSize_12 : decode cX11_isLotSize 12 = .ok (.ireturn, 1) := by decide +kernel
theorem dX11_isPerson_0 : decode cX11_isPerson 0 = .ok (.iload_n 1, 1) := by decide +kernel
theorem dX11_isPerson_1 : decode cX11_isPerson 1 = .ok (.iconst 0, 1) := by decide +kernel
theorem dX11_isPerson_2 : decode cX11_isPerson 2 = .ok (.aload_n 0, 1) := by decide +kernel
theorem dX11_isPerson_3 : decode cX11_isPerson 3 = .ok (.getfield 10, 3) := by decide +kernel
theorem dX11_isPerson_6 : decode cX11_isPerson 6 = .ok (.invokevirtual 100, 3) := by decide +kernel
theorem dX11_isPerson_9 : decode cX11_isPerson 9 = .ok (.iconst 1, 1) := by decide +kernel
theorem dX11_isPerson_10 : decode cX11_isPerson 10 = .ok (.isub, 1) := by decide +kernel
theorem dX11_isPerson_11 : decode cX11_isPerson 11 = .ok (.invokestatic 92, 3) := by decide +kernel
theorem dX11_isPerson_14 : decode cX11_isPerson 14 = .ok (.ireturn, 1) := by decide +kernel
theorem dX11_isPlace_0 : decode cX11_isPlace 0 = .ok (.iload_n 0, 1) := by decide +kernel
theorem dX11_isPlace_1 : decode cX11_isPlace 1 = .ok (.iconst 0, 1) := by decide +kernel
theorem dX11_isPlace_2 : decode cX11_isPlace 2 = .ok (.bipush 7, 2) := by decide +kernel
theorem dX11_isPlace_4 : decode cX11_isPlace 4 = .ok (.invokestatic 92, 3) := by decide +kernel
theorem dX11_isPlace_7 : decode cX11_isPlace 7 = .ok (.ireturn, 1) := by decide +kernel
theorem dX11_isRank_0 : decode cX11_isRank 0 = .ok (.iload_n 0, 1) := by decide +kernel
theorem dX11_isRank_1 : decode cX11_isRank 1 = .ok (.iconst 0, 1) := by decide +kernel
theorem dX11_isRank_2 : decode cX11_isRank 2 = .ok (.bipush 9, 2) := by decide +kernel
theorem dX11_isRank_4 : decode cX11_isRank 4 = .ok (.invokestatic 92, 3) := by decide +kernel
theorem dX11_isRank_7 : decode cX11_isRank 7 = .ok (.ireturn, 1) := by decide +kernel
theorem dX11_isReader_0 : decode cX11_isReader 0 = .ok (.iload_n 0, 1) := by decide +kernel
theorem dX11_isReader_1 : decode cX11_isReader 1 = .ok (.iconst 0, 1) := by decide +kernel
theorem dX11_isReader_2 : decode cX11_isReader 2 = .ok (.iconst 5, 1) := by decide +kernel
theorem dX11_isReader_3 : decode cX11_isReader 3 = .ok (.invokestatic 92, 3) := by decide +kernel
theorem dX11_isReader_6 : decode cX11_isReader 6 = .ok (.ireturn, 1) := by decide +kernel
theorem dX11_isSaying_0 : decode cX11_isSaying 0 = .ok (.iload_n 0, 1) := by decide +kernel
theorem dX11_isSaying_1 : decode cX11_isSaying 1 = .ok (.iconst 0, 1) := by decide +kernel
theorem dX11_isSaying_2 : decode cX11_isSaying 2 = .ok (.bipush 29, 2) := by decide +kernel
theorem dX11_isSaying_4 : decode cX11_isSaying 4 = .ok (.invokestatic 92, 3) := by decide +kernel
theorem dX11_isSaying_7 : decode cX11_isSaying 7 = .ok (.ireturn, 1) := by decide +kernel
theorem dX11_isSort_0 : decode cX11_isSort 0 = .ok (.iload_n 0, 1) := by decide +kernel
theorem dX11_isSort_1 : decode cX11_isSort 1 = .ok (.iconst 0, 1) := by decide +kernel
theorem dX11_isSort_2 : decode cX11_isSort 2 = .ok (.bipush 9, 2) := by decide +kernel
theorem dX11_isSort_4 : decode cX11_isSort 4 = .ok (.invokestatic 92, 3) := by decide +kernel
theorem dX11_isSort_7 : decode cX11_isSort 7 = .ok (.ireturn, 1) := by decide +kernel
theorem dX11_isWithin_0 : decode cX11_isWithin 0 = .ok (.iload_n 0, 1) := by decide +kernel
theorem dX11_isWithin_1 : decode cX11_isWithin 1 = .ok (.iload_n 1, 1) := by decide +kernel
theorem dX11_isWithin_2 : decode cX11_isWithin 2 = .ok (.if_icmp .lt 12, 3) := by decide +kernel
theorem dX11_isWithin_5 : decode cX11_isWithin 5 = .ok (.iload_n 0, 1) := by decide +kernel
theorem dX11_isWithin_6 : decode cX11_isWithin 6 = .ok (.iload_n 2, 1) := by decide +kernel
theorem dX11_isWithin_7 : decode cX11_isWithin 7 = .ok (.if_icmp .gt 7, 3) := by decide +kernel
theorem dX11_isWithin_10 : decode cX11_isWithin 10 = .ok (.iconst 1, 1) := by decide +kernel
theorem dX11_isWithin_11 : decode cX11_isWithin 11 = .ok (.goto 4, 3) := by decide +kernel
theorem dX11_isWithin_14 : decode cX11_isWithin 14 = .ok (.iconst 0, 1) := by decide +kernel
theorem dX11_isWithin_15 : decode cX11_isWithin 15 = .ok (.ireturn, 1) := by decide +kernel
theorem dX11_judge_0 : decode cX11_judge 0 = .ok (.iload_n 1, 1) := by decide +kernel
theorem dX11_judge_1 : decode cX11_judge 1 = .ok (.iconst 0, 1) := by decide +kernel
theorem dX11_judge_2 : decode cX11_judge 2 = .ok (.iconst 1, 1) := by decide +kernel
theorem dX11_judge_3 : decode cX11_judge 3 = .ok (.aload_n 0, 1) := by decide +kernel
theorem dX11_judge_4 : decode cX11_judge 4 = .ok (.getfield 31, 3) := by decide +kernel
theorem dX11_judge_7 : decode cX11_judge 7 = .ok (.invokevirtual 100, 3) := by decide +kernel
theorem dX11_judge_10 : decode cX11_judge 10 = .ok (.ishl, 1) := by decide +kernel
theorem dX11_judge_11 : decode cX11_judge 11 = .ok (.iconst 1, 1) := by decide +kernel
theorem dX11_judge_12 : decode cX11_judge 12 = .ok (.isub, 1) := by decide +kernel
theorem dX11_judge_13 : decode cX11_judge 13 = .ok (.invokestatic 92, 3) := by decide +kernel
theorem dX11_judge_16 : decode cX11_judge 16 = .ok (.ifCond .eq 10, 3) := by decide +kernel
theorem dX11_judge_19 : decode cX11_judge 19 = .ok (.iload_n 2, 1) := by decide +kernel
theorem dX11_judge_20 : decode cX11_judge 20 = .ok (.invokestatic 406, 3) := by decide +kernel
theorem dX11_judge_23 : decode cX11_judge 23 = .ok (.ifCond .ne 6, 3) := by decide +kernel
theorem dX11_judge_26 : decode cX11_judge 26 = .ok (.bipush (-2), 2) := by decide +kernel
theorem dX11_judge_28 : decode cX11_judge 28 = .ok (.ireturn, 1) := by decide +kernel
theorem dX11_judge_29 : decode cX11_judge 29 = .ok (.aload_n 0, 1) := by decide +kernel
theorem dX11_judge_30 : decode cX11_judge 30 = .ok (.iload_n 1, 1) := by decide +kernel
theorem dX11_judge_31 : decode cX11_judge 31 = .ok (.invokevirtual 409, 3) := by decide +kernel
theorem dX11_judge_34 : decode cX11_judge 34 = .ok (.iload_n 2, 1) := by decide +kernel
theorem dX11_judge_35 : decode cX11_judge 35 = .ok (.if_icmp .le 7, 3) := by decide +kernel
theorem dX11_judge_38 : decode cX11_judge 38 = .ok (.iconst (-1), 1) := by decide +kernel
theorem dX11_judge_39 : decode cX11_judge 39 = .ok (.goto 8, 3) := by decide +kernel
theorem dX11_judge_42 : decode cX11_judge 42 = .ok (.aload_n 0, 1) := by decide +kernel
theorem dX11_judge_43 : decode cX11_judge 43 = .ok (.iload_n 1, 1) := by decide +kernel
theorem dX11_judge_44 : decode cX11_judge 44 = .ok (.invokevirtual 412, 3) := by decide +kernel
theorem dX11_judge_47 : decode cX11_judge 47 = .ok (.ireturn, 1) := by decide +kernel
theorem dX11_land_0 : decode cX11_land 0 = .ok (.iload_n 1, 1) := by decide +kernel
theorem dX11_land_1 : decode cX11_land 1 = .ok (.invokestatic 96, 3) := by decide +kernel
theorem dX11_land_4 : decode cX11_land 4 = .ok (.ifCond .eq 23, 3) := by decide +kernel
theorem dX11_land_7 : decode cX11_land 7 = .ok (.iload_n 2, 1) := by decide +kernel
theorem dX11_land_8 : decode cX11_land 8 = .ok (.iconst 0, 1) := by decide +kernel
theorem dX11_land_9 : decode cX11_land 9 = .ok (.iconst 3, 1) := by decide +kernel
theorem dX11_land_10 : decode cX11_land 10 = .ok (.invokestatic 92, 3) := by decide +kernel
theorem dX11_land_13 : decode cX11_land 13 = .ok (.ifCond .eq 14, 3) := by decide +kernel
theorem dX11_land_16 : decode cX11_land 16 = .ok (.iload_n 3, 1) := by decide +kernel
theorem dX11_land_17 : decode cX11_land 17 = .ok (.iconst 0, 1) := by decide +kernel
theorem dX11_land_18 : decode cX11_land 18 = .ok (.sipush 9999, 3) := by decide +kernel
theorem dX11_land_21 : decode cX11_land 21 = .ok (.invokestatic 92, 3) := by decide +kernel
theorem dX11_land_24 : decode cX11_land 24 = .ok (.ifCond .ne 5, 3) := by decide +kernel
theorem dX11_land_27 : decode cX11_land 27 = .ok (.iconst 0, 1) := by decide +kernel
theorem dX11_land_28 : decode cX11_land 28 = .ok (.ireturn, 1) := by decide +kernel
theorem dX11_land_29 : decode cX11_land 29 = .ok (.aload_n 0, 1) := by decide +kernel
theorem dX11_land_30 : decode cX11_land 30 = .ok (.getfield 57, 3) := by decide +kernel
theorem dX11_land_33 : decode cX11_land 33 = .ok (.iload_n 1, 1) := by decide +kernel
theorem dX11_land_34 : decode cX11_land 34 = .ok (.aaload, 1) := by decide +kernel
theorem dX11_land_35 : decode cX11_land 35 = .ok (.iload_n 2, 1) := by decide +kernel
theorem dX11_land_36 : decode cX11_land 36 = .ok (.iload_n 3, 1) := by decide +kernel
theorem dX11_land_37 : decode cX11_land 37 = .ok (.iastore, 1) := by decide +kernel
theorem dX11_land_38 : decode cX11_land 38 = .ok (.iconst 1, 1) := by decide +kernel
theorem dX11_land_39 : decode cX11_land 39 = .ok (.ireturn, 1) := by decide +kernel
theorem dX11_last_0 : decode cX11_last 0 = .ok (.aload_n 0, 1) := by decide +kernel
theorem dX11_last_1 : decode cX11_last 1 = .ok (.iload_n 1, 1) := by decide +kernel
theorem dX11_last_2 : decode cX11_last 2 = .ok (.invokevirtual 112, 3) := by decide +kernel
theorem dX11_last_5 : decode cX11_last 5 = .ok (.ifCond .eq 11, 3) := by decide +kernel
theorem dX11_last_8 : decode cX11_last 8 = .ok (.aload_n 0, 1) := by decide +kernel
theorem dX11_last_9 : decode cX11_last 9 = .ok (.iload_n 2, 1) := by decide +kernel
theorem dX11_last_10 : decode cX11_last 10 = .ok (.invokevirtual 158, 3) := by decide +kernel
theorem dX11_last_13 : decode cX11_last 13 = .ok (.ifCond .ne 5, 3) := by decide +kernel
theorem dX11_last_16 : decode cX11_last 16 = .ok (.iconst (-1), 1) := by decide +kernel
theorem dX11_last_17 : decode cX11_last 17 = .ok (.ireturn, 1) := by decide +kernel
theorem dX11_last_18 : decode cX11_last 18 = .ok (.aload_n 0, 1) := by decide +kernel
theorem dX11_last_19 : decode cX11_last 19 = .ok (.iload_n 1, 1) := by decide +kernel
theorem dX11_last_20 : decode cX11_last 20 = .ok (.iload_n 2, 1) := by decide +kernel
theorem dX11_last_21 : decode cX11_last 21 = .ok (.invokevirtual 367, 3) := by decide +kernel
theorem dX11_last_24 : decode cX11_last 24 = .ok (.ireturn, 1) := by decide +kernel
theorem dX11_lastOf_0 : decode cX11_lastOf 0 = .ok (.iconst (-1), 1) := by decide +kernel
theorem dX11_lastOf_1 : decode cX11_lastOf 1 = .ok (.istore_n 3, 1) := by decide +kernel
theorem dX11_lastOf_2 : decode cX11_lastOf 2 = .ok (.iconst (-1), 1) := by decide +kernel
theorem dX11_lastOf_3 : decode cX11_lastOf 3 = .ok (.istore 4, 2) := by decide +kernel
theorem dX11_lastOf_5 : decode cX11_lastOf 5 = .ok (.iconst 0, 1) := by decide +kernel
theorem dX11_lastOf_6 : decode cX11_lastOf 6 = .ok (.istore 5, 2) := by decide +kernel
theorem dX11_lastOf_8 : decode cX11_lastOf 8 = .ok (.iload 5, 2) := by decide +kernel
theorem dX11_lastOf_10 : decode cX11_lastOf 10 = .ok (.aload_n 0, 1) := by decide +kernel
theorem dX11_lastOf_11 : decode cX11_lastOf 11 = .ok (.getfield 16, 3) := by decide +kernel
theorem dX11_lastOf_14 : decode cX11_lastOf 14 = .ok (.invokevirtual 100, 3) := by decide +kernel
theorem dX11_lastOf_17 : decode cX11_lastOf 17 = .ok (.if_icmp .ge 64, 3) := by decide +kernel
theorem dX11_lastOf_20 : decode cX11_lastOf 20 = .ok (.aload_n 0, 1) := by decide +kernel
theorem dX11_lastOf_21 : decode cX11_lastOf 21 = .ok (.getfield 16, 3) := by decide +kernel
theorem dX11_lastOf_24 : decode cX11_lastOf 24 = .ok (.iload 5, 2) := by decide +kernel
theorem dX11_lastOf_26 : decode cX11_lastOf 26 = .ok (.invokevirtual 126, 3) := by decide +kernel
theorem dX11_lastOf_29 : decode cX11_lastOf 29 = .ok (.checkcast 124, 3) := by decide +kernel
theorem dX11_lastOf_32 : decode cX11_lastOf 32 = .ok (.astore 6, 2) := by decide +kernel
theorem dX11_lastOf_34 : decode cX11_lastOf 34 = .ok (.aload 6, 2) := by decide +kernel
theorem dX11_lastOf_36 : decode cX11_lastOf 36 = .ok (.getfield 243, 3) := by decide +kernel
theorem dX11_lastOf_39 : decode cX11_lastOf 39 = .ok (.getfield 309, 3) := by decide +kernel
theorem dX11_lastOf_42 : decode cX11_lastOf 42 = .ok (.iload_n 1, 1) := by decide +kernel
theorem dX11_lastOf_43 : decode cX11_lastOf 43 = .ok (.if_icmp .ne 32, 3) := by decide +kernel
theorem dX11_lastOf_46 : decode cX11_lastOf 46 = .ok (.aload 6, 2) := by decide +kernel
theorem dX11_lastOf_48 : decode cX11_lastOf 48 = .ok (.getfield 315, 3) := by decide +kernel
theorem dX11_lastOf_51 : decode cX11_lastOf 51 = .ok (.iload_n 2, 1) := by decide +kernel
theorem dX11_lastOf_52 : decode cX11_lastOf 52 = .ok (.if_icmp .gt 23, 3) := by decide +kernel
theorem dX11_lastOf_55 : decode cX11_lastOf 55 = .ok (.aload 6, 2) := by decide +kernel
theorem dX11_lastOf_57 : decode cX11_lastOf 57 = .ok (.getfield 238, 3) := by decide +kernel
theorem dX11_lastOf_60 : decode cX11_lastOf 60 = .ok (.iload 4, 2) := by decide +kernel
theorem dX11_lastOf_62 : decode cX11_lastOf 62 = .ok (.if_icmp .lt 13, 3) := by decide +kernel
theorem dX11_lastOf_65 : decode cX11_lastOf 65 = .ok (.iload 5, 2) := by decide +kernel
theorem dX11_lastOf_67 : decode cX11_lastOf 67 = .ok (.istore_n 3, 1) := by decide +kernel
theorem dX11_lastOf_68 : decode cX11_lastOf 68 = .ok (.aload 6, 2) := by decide +kernel
theorem dX11_lastOf_70 : decode cX11_lastOf 70 = .ok (.getfield 238, 3) := by decide +kernel
theorem dX11_lastOf_73 : decode cX11_lastOf 73 = .ok (.istore 4, 2) := by decide +kernel
theorem dX11_lastOf_75 : decode cX11_lastOf 75 = .ok (.iinc 5 1, 3) := by decide +kernel
theorem dX11_lastOf_78 : decode cX11_lastOf 78 = .ok (.goto (-70), 3) := by decide +kernel
theorem dX11_lastOf_81 : decode cX11_lastOf 81 = .ok (.iload_n 3, 1) := by decide +kernel
theorem dX11_lastOf_82 : decode cX11_lastOf 82 = .ok (.ireturn, 1) := by decide +kernel
theorem dX11_layMarks_0 : decode cX11_layMarks 0 = .ok (.iconst 0, 1) := by decide +kernel
theorem dX11_layMarks_1 : decode cX11_layMarks 1 = .ok (.istore_n 2, 1) := by decide +kernel
theorem dX11_layMarks_2 : decode cX11_layMarks 2 = .ok (.iload_n 2, 1) := by decide +kernel
theorem dX11_layMarks_3 : decode cX11_layMarks 3 = .ok (.bipush 6, 2) := by decide +kernel
theorem dX11_layMarks_5 : decode cX11_layMarks 5 = .ok (.if_icmp .ge 19, 3) := by decide +kernel
theorem dX11_layMarks_8 : decode cX11_layMarks 8 = .ok (.aload_n 0, 1) := by decide +kernel
theorem dX11_layMarks_9 : decode cX11_layMarks 9 = .ok (.getfield 60, 3) := by decide +kernel
theorem dX11_layMarks_12 : decode cX11_layMarks 12 = .ok (.iload_n 2, 1) := by decide +kernel
theorem dX11_layMarks_13 : decode cX11_layMarks 13 = .ok (.aaload, 1) := by decide +kernel
theorem dX11_layMarks_14 : decode cX11_layMarks 14 = .ok (.iconst (-1), 1) := by decide +kernel
theorem dX11_layMarks_15 : decode cX11_layMarks 15 = .ok (.invokestatic 216, 3) := by decide +kernel
theorem dX11_layMarks_18 : decode cX11_layMarks 18 = .ok (.iinc 2 1, 3) := by decide +kernel
theorem dX11_layMarks_21 : decode cX11_layMarks 21 = .ok (.goto (-19), 3) := by decide +kernel
theorem dX11_layMarks_24 : decode cX11_layMarks 24 = .ok (.iconst 0, 1) := by decide +kernel
theorem dX11_layMarks_25 : decode cX11_layMarks 25 = .ok (.istore_n 2, 1) := by decide +kernel
theorem dX11_layMarks_26 : decode cX11_layMarks 26 = .ok (.iload_n 2, 1) := by decide +kernel
theorem dX11_layMarks_27 : decode cX11_layMarks 27 = .ok (.aload_n 0, 1) := by decide +kernel
theorem dX11_layMarks_28 : decode cX11_layMarks 28 = .ok (.getfield 28, 3) := by decide +kernel
theorem dX11_layMarks_31 : decode cX11_layMarks 31 = .ok (.invokevirtual 100, 3) := by decide +kernel
theorem dX11_layMarks_34 : decode cX11_layMarks 34 = .ok (.if_icmp .ge 68, 3) := by decide +kernel
theorem dX11_layMarks_37 : decode cX11_layMarks 37 = .ok (.aload_n 0, 1) := by decide +kernel
theorem dX11_layMarks_38 : decode cX11_layMarks 38 = .ok (.getfield 28, 3) := by decide +kernel
theorem dX11_layMarks_41 : decode cX11_layMarks 41 = .ok (.iload_n 2, 1) := by decide +kernel
theorem dX11_layMarks_42 : decode cX11_layMarks 42 = .ok (.invokevirtual 126, 3) := by decide +kernel
theorem dX11_layMarks_45 : decode cX11_layMarks 45 = .ok (.checkcast 319, 3) := by decide +kernel
theorem dX11_layMarks_48 : decode cX11_layMarks 48 = .ok (.astore_n 3, 1) := by decide +kernel
theorem dX11_layMarks_49 : decode cX11_layMarks 49 = .ok (.aload_n 3, 1) := by decide +kernel
theorem dX11_layMarks_50 : decode cX11_layMarks 50 = .ok (.getfield 325, 3) := by decide +kernel
theorem dX11_layMarks_53 : decode cX11_layMarks 53 = .ok (.iload_n 1, 1) := by decide +kernel
theorem dX11_layMarks_54 : decode cX11_layMarks 54 = .ok (.if_icmp .gt 42, 3) := by decide +kernel
theorem dX11_layMarks_57 : decode cX11_layMarks 57 = .ok (.aload_n 3, 1) := by decide +kernel
theorem dX11_layMarks_58 : decode cX11_layMarks 58 = .ok (.getfield 326, 3) := by decide +kernel
theorem dX11_layMarks_61 : decode cX11_layMarks 61 = .ok (.invokestatic 316, 3) := by decide +kernel
theorem dX11_layMarks_64 : decode cX11_layMarks 64 = .ok (.ifCond .eq 32, 3) := by decide +kernel
theorem dX11_layMarks_67 : decode cX11_layMarks 67 = .ok (.aload_n 0, 1) := by decide +kernel
theorem dX11_layMarks_68 : decode cX11_layMarks 68 = .ok (.aload_n 3, 1) := by decide +kernel
theorem dX11_layMarks_69 : decode cX11_layMarks 69 = .ok (.getfield 329, 3) := by decide +kernel
theorem dX11_layMarks_72 : decode cX11_layMarks 72 = .ok (.invokevirtual 136, 3) := by decide +kernel
theorem dX11_layMarks_75 : decode cX11_layMarks 75 = .ok (.ifCond .eq 21, 3) := by decide +kernel
theorem dX11_layMarks_78 : decode cX11_layMarks 78 = .ok (.aload_n 0, 1) := by decide +kernel
theorem dX11_layMarks_79 : decode cX11_layMarks 79 = .ok (.getfield 60, 3) := by decide +kernel
theorem dX11_layMarks_82 : decode cX11_layMarks 82 = .ok (.aload_n 3, 1) := by decide +kernel
theorem dX11_layMarks_83 : decode cX11_layMarks 83 = .ok (.getfield 326, 3) := by decide +kernel
theorem dX11_layMarks_86 : decode cX11_layMarks 86 = .ok (.aaload, 1) := by decide +kernel
theorem dX11_layMarks_87 : decode cX11_layMarks 87 = .ok (.aload_n 3, 1) := by decide +kernel
theorem dX11_layMarks_88 : decode cX11_layMarks 88 = .ok (.getfield 329, 3) := by decide +kernel
theorem dX11_layMarks_91 : decode cX11_layMarks 91 = .ok (.aload_n 3, 1) := by decide +kernel
theorem dX11_layMarks_92 : decode cX11_layMarks 92 = .ok (.getfield 332, 3) := by decide +kernel
theorem dX11_layMarks_95 : decode cX11_layMarks 95 = .ok (.iastore, 1) := by decide +kernel
theorem dX11_layMarks_96 : decode cX11_layMarks 96 = .ok (.iinc 2 1, 3) := by decide +kernel
theorem dX11_layMarks_99 : decode cX11_layMarks 99 = .ok (.goto (-73), 3) := by decide +kernel
theorem dX11_layMarks_102 : decode cX11_layMarks 102 = .ok (.return_, 1) := by decide +kernel
theorem dX11_lean_0 : decode cX11_lean 0 = .ok (.iload_n 1, 1) := by decide +kernel
theorem dX11_lean_1 : decode cX11_lean 1 = .ok (.invokestatic 115, 3) := by decide +kernel
theorem dX11_lean_4 : decode cX11_lean 4 = .ok (.ifCond .eq 11, 3) := by decide +kernel
theorem dX11_lean_7 : decode cX11_lean 7 = .ok (.aload_n 0, 1) := by decide +kernel
theorem dX11_lean_8 : decode cX11_lean 8 = .ok (.iload_n 2, 1) := by decide +kernel
theorem dX11_lean_9 : decode cX11_lean 9 = .ok (.invokevirtual 158, 3) := by decide +kernel
theorem dX11_lean_12 : decode cX11_lean 12 = .ok (.ifCond .ne 7, 3) := by decide +kernel
theorem dX11_lean_15 : decode cX11_lean 15 = .ok (.ldc_w 335, 3) := by decide +kernel
theorem dX11_lean_18 : decode cX11_lean 18 = .ok (.ireturn, 1) := by decide +kernel
theorem dX11_lean_19 : decode cX11_lean 19 = .ok (.iconst 0, 1) := by decide +kernel
theorem dX11_lean_20 : decode cX11_lean 20 = .ok (.istore_n 3, 1) := by decide +kernel
theorem dX11_lean_21 : decode cX11_lean 21 = .ok (.iconst 0, 1) := by decide +kernel
theorem dX11_lean_22 : decode cX11_lean 22 = .ok (.istore 4, 2) := by decide +kernel
theorem dX11_lean_24 : decode cX11_lean 24 = .ok (.iconst 0, 1) := by decide +kernel
theorem dX11_lean_25 : decode cX11_lean 25 = .ok (.istore 5, 2) := by decide +kernel
theorem dX11_lean_27 : decode cX11_lean 27 = .ok (.iconst 0, 1) := by decide +kernel
theorem dX11_lean_28 : decode cX11_lean 28 = .ok (.istore 6, 2) := by decide +kernel
theorem dX11_lean_30 : decode cX11_lean 30 = .ok (.iconst 0, 1) := by decide +kernel
theorem dX11_lean_31 : decode cX11_lean 31 = .ok (.istore 7, 2) := by decide +kernel
theorem dX11_lean_33 : decode cX11_lean 33 = .ok (.iload 7, 2) := by decide +kernel
theorem dX11_lean_35 : decode cX11_lean 35 = .ok (.aload_n 0, 1) := by decide +kernel
theorem dX11_lean_36 : decode cX11_lean 36 = .ok (.getfield 10, 3) := by decide +kernel
theorem dX11_lean_39 : decode cX11_lean 39 = .ok (.invokevirtual 100, 3) := by decide +kernel
theorem dX11_lean_42 : decode cX11_lean 42 = .ok (.if_icmp .ge 90, 3) := by decide +kernel
theorem dX11_lean_45 : decode cX11_lean 45 = .ok (.aload_n 0, 1) := by decide +kernel
theorem dX11_lean_46 : decode cX11_lean 46 = .ok (.iload 7, 2) := by decide +kernel
theorem dX11_lean_48 : decode cX11_lean 48 = .ok (.iload_n 2, 1) := by decide +kernel
theorem dX11_lean_49 : decode cX11_lean 49 = .ok (.invokevirtual 367, 3) := by decide +kernel
theorem dX11_lean_52 : decode cX11_lean 52 = .ok (.istore 8, 2) := by decide +kernel
theorem dX11_lean_54 : decode cX11_lean 54 = .ok (.aload_n 0, 1) := by decide +kernel
theorem dX11_lean_55 : decode cX11_lean 55 = .ok (.iload 8, 2) := by decide +kernel
theorem dX11_lean_57 : decode cX11_lean 57 = .ok (.invokevirtual 136, 3) := by decide +kernel
theorem dX11_lean_60 : decode cX11_lean 60 = .ok (.ifCond .ne 6, 3) := by decide +kernel
theorem dX11_lean_63 : decode cX11_lean 63 = .ok (.goto 63, 3) := by decide +kernel
theorem dX11_lean_66 : decode cX11_lean 66 = .ok (.aload_n 0, 1) := by decide +kernel
theorem dX11_lean_67 : decode cX11_lean 67 = .ok (.getfield 16, 3) := by decide +kernel
theorem dX11_lean_70 : decode cX11_lean 70 = .ok (.iload 8, 2) := by decide +kernel
theorem dX11_lean_72 : decode cX11_lean 72 = .ok (.invokevirtual 126, 3) := by decide +kernel
theorem dX11_lean_75 : decode cX11_lean 75 = .ok (.checkcast 124, 3) := by decide +kernel
theorem dX11_lean_78 : decode cX11_lean 78 = .ok (.getfield 247, 3) := by decide +kernel
theorem dX11_lean_81 : decode cX11_lean 81 = .ok (.iload_n 1, 1) := by decide +kernel
theorem dX11_lean_82 : decode cX11_lean 82 = .ok (.if_icmp .ne 7, 3) := by decide +kernel
theorem dX11_lean_85 : decode cX11_lean 85 = .ok (.iconst 1, 1) := by decide +kernel
theorem dX11_lean_86 : decode cX11_lean 86 = .ok (.goto 4, 3) := by decide +kernel
theorem dX11_lean_89 : decode cX11_lean 89 = .ok (.iconst 0, 1) := by decide +kernel
theorem dX11_lean_90 : decode cX11_lean 90 = .ok (.istore 9, 2) := by decide +kernel
theorem dX11_lean_92 : decode cX11_lean 92 = .ok (.aload_n 0, 1) := by decide +kernel
theorem dX11_lean_93 : decode cX11_lean 93 = .ok (.iload 7, 2) := by decide +kernel
theorem dX11_lean_95 : decode cX11_lean 95 = .ok (.iload_n 2, 1) := by decide +kernel
theorem dX11_lean_96 : decode cX11_lean 96 = .ok (.iload_n 2, 1) := by decide +kernel
theorem dX11_lean_97 : decode cX11_lean 97 = .ok (.invokevirtual 121, 3) := by decide +kernel
theorem dX11_lean_100 : decode cX11_lean 100 = .ok (.ifCond .eq 16, 3) := by decide +kernel
theorem dX11_lean_103 : decode cX11_lean 103 = .ok (.iinc 3 1, 3) := by decide +kernel
theorem dX11_lean_106 : decode cX11_lean 106 = .ok (.iload 4, 2) := by decide +kernel
theorem dX11_lean_108 : decode cX11_lean 108 = .ok (.iload 9, 2) := by decide +kernel
theorem dX11_lean_110 : decode cX11_lean 110 = .ok (.iadd, 1) := by decide +kernel
theorem dX11_lean_111 : decode cX11_lean 111 = .ok (.istore 4, 2) := by decide +kernel
theorem dX11_lean_113 : decode cX11_lean 113 = .ok (.goto 13, 3) := by decide +kernel
theorem dX11_lean_116 : decode cX11_lean 116 = .ok (.iinc 5 1, 3) := by decide +kernel
theorem dX11_lean_119 : decode cX11_lean 119 = .ok (.iload 6, 2) := by decide +kernel
theorem dX11_lean_121 : decode cX11_lean 121 = .ok (.iload 9, 2) := by decide +kernel
theorem dX11_lean_123 : decode cX11_lean 123 = .ok (.iadd, 1) := by decide +kernel
theorem dX11_lean_124 : decode cX11_lean 124 = .ok (.istore 6, 2) := by decide +kernel
theorem dX11_lean_126 : decode cX11_lean 126 = .ok (.iinc 7 1, 3) := by decide +kernel
theorem dX11_lean_129 : decode cX11_lean 129 = .ok (.goto (-96), 3) := by decide +kernel
theorem dX11_lean_132 : decode cX11_lean 132 = .ok (.iload_n 3, 1) := by decide +kernel
theorem dX11_lean_133 : decode cX11_lean 133 = .ok (.ifCond .eq 8, 3) := by decide +kernel
theorem dX11_lean_136 : decode cX11_lean 136 = .ok (.iload 5, 2) := by decide +kernel
theorem dX11_lean_138 : decode cX11_lean 138 = .ok (.ifCond .ne 7, 3) := by decide +kernel
theorem dX11_lean_141 : decode cX11_lean 141 = .ok (.ldc_w 335, 3) := by decide +kernel
theorem dX11_lean_144 : decode cX11_lean 144 = .ok (.ireturn, 1) := by decide +kernel
theorem dX11_lean_145 : decode cX11_lean 145 = .ok (.iload 4, 2) := by decide +kernel
theorem dX11_lean_147 : decode cX11_lean 147 = .ok (.sipush 1000, 3) := by decide +kernel
theorem dX11_lean_150 : decode cX11_lean 150 = .ok (.iload_n 3, 1) := by decide +kernel
theorem dX11_lean_151 : decode cX11_lean 151 = .ok (.invokestatic 336, 3) := by decide +kernel
theorem dX11_lean_154 : decode cX11_lean 154 = .ok (.iload 6, 2) := by decide +kernel
theorem dX11_lean_156 : decode cX11_lean 156 = .ok (.sipush 1000, 3) := by decide +kernel
theorem dX11_lean_159 : decode cX11_lean 159 = .ok (.iload 5, 2) := by decide +kernel
theorem dX11_lean_161 : decode cX11_lean 161 = .ok (.invokestatic 336, 3) := by decide +kernel
theorem dX11_lean_164 : decode cX11_lean 164 = .ok (.isub, 1) := by decide +kernel
theorem dX11_lean_165 : decode cX11_lean 165 = .ok (.ireturn, 1) := by decide +kernel
theorem dX11_left_0 : decode cX11_left 0 = .ok (.aload_n 0, 1) := by decide +kernel
theorem dX11_left_1 : decode cX11_left 1 = .ok (.iload_n 1, 1) := by decide +kernel
theorem dX11_left_2 : decode cX11_left 2 = .ok (.iload_n 2, 1) := by decide +kernel
theorem dX11_left_3 : decode cX11_left 3 = .ok (.iload_n 3, 1) := by decide +kernel
theorem dX11_left_4 : decode cX11_left 4 = .ok (.iload 4, 2) := by decide +kernel
theorem dX11_left_6 : decode cX11_left 6 = .ok (.invokevirtual 253, 3) := by decide +kernel
theorem dX11_left_9 : decode cX11_left 9 = .ok (.ifCond .ne 5, 3) := by decide +kernel
theorem dX11_left_12 : decode cX11_left 12 = .ok (.iconst (-1), 1) := by decide +kernel
theorem dX11_left_13 : decode cX11_left 13 = .ok (.ireturn, 1) := by decide +kernel
theorem dX11_left_14 : decode cX11_left 14 = .ok (.aload_n 0, 1) := by decide +kernel
theorem dX11_left_15 : decode cX11_left 15 = .ok (.iload_n 1, 1) := by decide +kernel
theorem dX11_left_16 : decode cX11_left 16 = .ok (.iload 4, 2) := by decide +kernel
theorem dX11_left_18 : decode cX11_left 18 = .ok (.invokevirtual 261, 3) := by decide +kernel
theorem dX11_left_21 : decode cX11_left 21 = .ok (.aload_n 0, 1) := by decide +kernel
theorem dX11_left_22 : decode cX11_left 22 = .ok (.iload_n 1, 1) := by decide +kernel
theorem dX11_left_23 : decode cX11_left 23 = .ok (.iload_n 2, 1) := by decide +kernel
theorem dX11_left_24 : decode cX11_left 24 = .ok (.iload_n 3, 1) := by decide +kernel
theorem dX11_left_25 : decode cX11_left 25 = .ok (.iload 4, 2) := by decide +kernel
theorem dX11_left_27 : decode cX11_left 27 = .ok (.invokevirtual 257, 3) := by decide +kernel
theorem dX11_left_30 : decode cX11_left 30 = .ok (.isub, 1) := by decide +kernel
theorem dX11_left_31 : decode cX11_left 31 = .ok (.ireturn, 1) := by decide +kernel
theorem dX11_line_0 : decode cX11_line 0 = .ok (.aload_n 0, 1) := by decide +kernel
theorem dX11_line_1 : decode cX11_line 1 = .ok (.iload_n 1, 1) := by decide +kernel
theorem dX11_line_2 : decode cX11_line 2 = .ok (.invokevirtual 112, 3) := by decide +kernel
theorem dX11_line_5 : decode cX11_line 5 = .ok (.ifCond .eq 72, 3) := by decide +kernel
theorem dX11_line_8 : decode cX11_line 8 = .ok (.iload_n 2, 1) := by decide +kernel
theorem dX11_line_9 : decode cX11_line 9 = .ok (.iconst 0, 1) := by decide +kernel
theorem dX11_line_10 : decode cX11_line 10 = .ok (.aload_n 0, 1) := by decide +kernel
theorem dX11_line_11 : decode cX11_line 11 = .ok (.getfield 88, 3) := by decide +kernel
theorem dX11_line_14 : decode cX11_line 14 = .ok (.invokestatic 92, 3) := by decide +kernel
theorem dX11_line_17 : decode cX11_line 17 = .ok (.ifCond .eq 60, 3) := by decide +kernel
theorem dX11_line_20 : decode cX11_line 20 = .ok (.iload_n 3, 1) := by decide +kernel
theorem dX11_line_21 : decode cX11_line 21 = .ok (.invokestatic 115, 3) := by decide +kernel
theorem dX11_line_24 : decode cX11_line 24 = .ok (.ifCond .eq 53, 3) := by decide +kernel
theorem dX11_line_27 : decode cX11_line 27 = .ok (.iload 4, 2) := by decide +kernel
theorem dX11_line_29 : decode cX11_line 29 = .ok (.bipush (-9), 2) := by decide +kernel
theorem dX11_line_31 : decode cX11_line 31 = .ok (.bipush 9, 2) := by decide +kernel
theorem dX11_line_33 : decode cX11_line 33 = .ok (.invokestatic 92, 3) := by decide +kernel
theorem dX11_line_36 : decode cX11_line 36 = .ok (.ifCond .eq 41, 3) := by decide +kernel
theorem dX11_line_39 : decode cX11_line 39 = .ok (.aload_n 0, 1) := by decide +kernel
theorem dX11_line_40 : decode cX11_line 40 = .ok (.iload_n 1, 1) := by decide +kernel
theorem dX11_line_41 : decode cX11_line 41 = .ok (.iload 5, 2) := by decide +kernel
theorem dX11_line_43 : decode cX11_line 43 = .ok (.iload 6, 2) := by decide +kernel
theorem dX11_line_45 : decode cX11_line 45 = .ok (.invokevirtual 118, 3) := by decide +kernel
theorem dX11_line_48 : decode cX11_line 48 = .ok (.ifCond .eq 29, 3) := by decide +kernel
theorem dX11_line_51 : decode cX11_line 51 = .ok (.aload_n 0, 1) := by decide +kernel
theorem dX11_line_52 : decode cX11_line 52 = .ok (.getfield 16, 3) := by decide +kernel
theorem dX11_line_55 : decode cX11_line 55 = .ok (.invokevirtual 100, 3) := by decide +kernel
theorem dX11_line_58 : decode cX11_line 58 = .ok (.sipush 200, 3) := by decide +kernel
theorem dX11_line_61 : decode cX11_line 61 = .ok (.if_icmp .ge 16, 3) := by decide +kernel
theorem dX11_line_64 : decode cX11_line 64 = .ok (.aload_n 0, 1) := by decide +kernel
theorem dX11_line_65 : decode cX11_line 65 = .ok (.iload_n 1, 1) := by decide +kernel
theorem dX11_line_66 : decode cX11_line 66 = .ok (.iload_n 2, 1) := by decide +kernel
theorem dX11_line_67 : decode cX11_line 67 = .ok (.aload_n 0, 1) := by decide +kernel
theorem dX11_line_68 : decode cX11_line 68 = .ok (.getfield 88, 3) := by decide +kernel
theorem dX11_line_71 : decode cX11_line 71 = .ok (.invokevirtual 121, 3) := by decide +kernel
theorem dX11_line_74 : decode cX11_line 74 = .ok (.ifCond .eq 5, 3) := by decide +kernel
theorem dX11_line_77 : decode cX11_line 77 = .ok (.iconst (-1), 1) := by decide +kernel
theorem dX11_line_78 : decode cX11_line 78 = .ok (.ireturn, 1) := by decide +kernel
theorem dX11_line_79 : decode cX11_line 79 = .ok (.aload_n 0, 1) := by decide +kernel
theorem dX11_line_80 : decode cX11_line 80 = .ok (.getfield 16, 3) := by decide +kernel
theorem dX11_line_83 : decode cX11_line 83 = .ok (.new 124, 3) := by decide +kernel
theorem dX11_line_86 : decode cX11_line 86 = .ok (.dup, 1) := by decide +kernel
theorem dX11_line_87 : decode cX11_line 87 = .ok (.aload_n 0, 1) := by decide +kernel
theorem dX11_line_88 : decode cX11_line 88 = .ok (.getfield 10, 3) := by decide +kernel
theorem dX11_line_91 : decode cX11_line 91 = .ok (.iload_n 1, 1) := by decide +kernel
theorem dX11_line_92 : decode cX11_line 92 = .ok (.invokevirtual 126, 3) := by decide +kernel
theorem dX11_line_95 : decode cX11_line 95 = .ok (.checkcast 103, 3) := by decide +kernel
theorem dX11_line_98 : decode cX11_line 98 = .ok (.iload_n 2, 1) := by decide +kernel
theorem dX11_line_99 : decode cX11_line 99 = .ok (.iload_n 3, 1) := by decide +kernel
