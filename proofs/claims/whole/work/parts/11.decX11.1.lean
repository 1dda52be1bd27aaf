theorem dX11_line_100 : decode cX11_line 100 = .ok (.iload 4, 2) := by decide +kernel
theorem dX11_line_102 : decode cX11_line 102 = .ok (.iload 5, 2) := by decide +kernel
theorem dX11_line_104 : decode cX11_line 104 = .ok (.iload 6, 2) := by decide +kernel
theorem dX11_line_106 : decode cX11_line 106 = .ok (.aload_n 0, 1) := by decide +kernel
theorem dX11_line_107 : decode cX11_line 107 = .ok (.getfield 88, 3) := by decide +kernel
theorem dX11_line_110 : decode cX11_line 110 = .ok (.invokespecial 130, 3) := by decide +kernel
theorem dX11_line_113 : decode cX11_line 113 = .ok (.invokevirtual 108, 3) := by decide +kernel
theorem dX11_line_116 : decode cX11_line 116 = .ok (.pop, 1) := by decide +kernel
theorem dX11_line_117 : decode cX11_line 117 = .ok (.aload_n 0, 1) := by decide +kernel
theorem dX11_line_118 : decode cX11_line 118 = .ok (.getfield 16, 3) := by decide +kernel
theorem dX11_line_121 : decode cX11_line 121 = .ok (.invokevirtual 100, 3) := by decide +kernel
theorem dX11_line_124 : decode cX11_line 124 = .ok (.iconst 1, 1) := by decide +kernel
theorem dX11_line_125 : decode cX11_line 125 = .ok (.isub, 1) := by decide +kernel
theorem dX11_line_126 : decode cX11_line 126 = .ok (.ireturn, 1) := by decide +kernel
theorem dX11_linesFor_0 : decode cX11_linesFor 0 = .ok (.iconst 0, 1) := by decide +kernel
theorem dX11_linesFor_1 : decode cX11_linesFor 1 = .ok (.istore_n 3, 1) := by decide +kernel
theorem dX11_linesFor_2 : decode cX11_linesFor 2 = .ok (.iconst 0, 1) := by decide +kernel
theorem dX11_linesFor_3 : decode cX11_linesFor 3 = .ok (.istore 4, 2) := by decide +kernel
theorem dX11_linesFor_5 : decode cX11_linesFor 5 = .ok (.iload 4, 2) := by decide +kernel
theorem dX11_linesFor_7 : decode cX11_linesFor 7 = .ok (.aload_n 0, 1) := by decide +kernel
theorem dX11_linesFor_8 : decode cX11_linesFor 8 = .ok (.getfield 16, 3) := by decide +kernel
theorem dX11_linesFor_11 : decode cX11_linesFor 11 = .ok (.invokevirtual 100, 3) := by decide +kernel
theorem dX11_linesFor_14 : decode cX11_linesFor 14 = .ok (.if_icmp .ge 32, 3) := by decide +kernel
theorem dX11_linesFor_17 : decode cX11_linesFor 17 = .ok (.aload_n 0, 1) := by decide +kernel
theorem dX11_linesFor_18 : decode cX11_linesFor 18 = .ok (.getfield 16, 3) := by decide +kernel
theorem dX11_linesFor_21 : decode cX11_linesFor 21 = .ok (.iload 4, 2) := by decide +kernel
theorem dX11_linesFor_23 : decode cX11_linesFor 23 = .ok (.invokevirtual 126, 3) := by decide +kernel
theorem dX11_linesFor_26 : decode cX11_linesFor 26 = .ok (.checkcast 124, 3) := by decide +kernel
theorem dX11_linesFor_29 : decode cX11_linesFor 29 = .ok (.iload_n 1, 1) := by decide +kernel
theorem dX11_linesFor_30 : decode cX11_linesFor 30 = .ok (.iload_n 2, 1) := by decide +kernel
theorem dX11_linesFor_31 : decode cX11_linesFor 31 = .ok (.invokevirtual 264, 3) := by decide +kernel
theorem dX11_linesFor_34 : decode cX11_linesFor 34 = .ok (.ifCond .eq 6, 3) := by decide +kernel
theorem dX11_linesFor_37 : decode cX11_linesFor 37 = .ok (.iinc 3 1, 3) := by decide +kernel
theorem dX11_linesFor_40 : decode cX11_linesFor 40 = .ok (.iinc 4 1, 3) := by decide +kernel
theorem dX11_linesFor_43 : decode cX11_linesFor 43 = .ok (.goto (-38), 3) := by decide +kernel
theorem dX11_linesFor_46 : decode cX11_linesFor 46 = .ok (.iload_n 3, 1) := by decide +kernel
theorem dX11_linesFor_47 : decode cX11_linesFor 47 = .ok (.ireturn, 1) := by decide +kernel
theorem dX11_lot_0 : decode cX11_lot 0 = .ok (.aload_n 0, 1) := by decide +kernel
theorem dX11_lot_1 : decode cX11_lot 1 = .ok (.iload_n 1, 1) := by decide +kernel
theorem dX11_lot_2 : decode cX11_lot 2 = .ok (.invokevirtual 429, 3) := by decide +kernel
theorem dX11_lot_5 : decode cX11_lot 5 = .ok (.ifCond .eq 15, 3) := by decide +kernel
theorem dX11_lot_8 : decode cX11_lot 8 = .ok (.iload 4, 2) := by decide +kernel
theorem dX11_lot_10 : decode cX11_lot 10 = .ok (.iconst 0, 1) := by decide +kernel
theorem dX11_lot_11 : decode cX11_lot 11 = .ok (.iload_n 1, 1) := by decide +kernel
theorem dX11_lot_12 : decode cX11_lot 12 = .ok (.iconst 1, 1) := by decide +kernel
theorem dX11_lot_13 : decode cX11_lot 13 = .ok (.isub, 1) := by decide +kernel
theorem dX11_lot_14 : decode cX11_lot 14 = .ok (.invokestatic 92, 3) := by decide +kernel
theorem dX11_lot_17 : decode cX11_lot 17 = .ok (.ifCond .ne 5, 3) := by decide +kernel
theorem dX11_lot_20 : decode cX11_lot 20 = .ok (.iconst (-1), 1) := by decide +kernel
theorem dX11_lot_21 : decode cX11_lot 21 = .ok (.ireturn, 1) := by decide +kernel
theorem dX11_lot_22 : decode cX11_lot 22 = .ok (.aload_n 0, 1) := by decide +kernel
theorem dX11_lot_23 : decode cX11_lot 23 = .ok (.iload_n 1, 1) := by decide +kernel
theorem dX11_lot_24 : decode cX11_lot 24 = .ok (.lload_n 2, 1) := by decide +kernel
theorem dX11_lot_25 : decode cX11_lot 25 = .ok (.invokevirtual 432, 3) := by decide +kernel
theorem dX11_lot_28 : decode cX11_lot 28 = .ok (.aload_n 0, 1) := by decide +kernel
theorem dX11_lot_29 : decode cX11_lot 29 = .ok (.getfield 85, 3) := by decide +kernel
theorem dX11_lot_32 : decode cX11_lot 32 = .ok (.iload 4, 2) := by decide +kernel
theorem dX11_lot_34 : decode cX11_lot 34 = .ok (.iaload, 1) := by decide +kernel
theorem dX11_lot_35 : decode cX11_lot 35 = .ok (.ireturn, 1) := by decide +kernel
theorem dX11_mark_0 : decode cX11_mark 0 = .ok (.iload_n 1, 1) := by decide +kernel
theorem dX11_mark_1 : decode cX11_mark 1 = .ok (.invokestatic 316, 3) := by decide +kernel
theorem dX11_mark_4 : decode cX11_mark 4 = .ok (.ifCond .eq 34, 3) := by decide +kernel
theorem dX11_mark_7 : decode cX11_mark 7 = .ok (.aload_n 0, 1) := by decide +kernel
theorem dX11_mark_8 : decode cX11_mark 8 = .ok (.iload_n 2, 1) := by decide +kernel
theorem dX11_mark_9 : decode cX11_mark 9 = .ok (.invokevirtual 136, 3) := by decide +kernel
theorem dX11_mark_12 : decode cX11_mark 12 = .ok (.ifCond .eq 26, 3) := by decide +kernel
theorem dX11_mark_15 : decode cX11_mark 15 = .ok (.iload_n 3, 1) := by decide +kernel
theorem dX11_mark_16 : decode cX11_mark 16 = .ok (.iconst 0, 1) := by decide +kernel
theorem dX11_mark_17 : decode cX11_mark 17 = .ok (.bipush 9, 2) := by decide +kernel
theorem dX11_mark_19 : decode cX11_mark 19 = .ok (.invokestatic 92, 3) := by decide +kernel
theorem dX11_mark_22 : decode cX11_mark 22 = .ok (.ifCond .eq 16, 3) := by decide +kernel
theorem dX11_mark_25 : decode cX11_mark 25 = .ok (.aload_n 0, 1) := by decide +kernel
theorem dX11_mark_26 : decode cX11_mark 26 = .ok (.getfield 28, 3) := by decide +kernel
theorem dX11_mark_29 : decode cX11_mark 29 = .ok (.invokevirtual 100, 3) := by decide +kernel
theorem dX11_mark_32 : decode cX11_mark 32 = .ok (.sipush 200, 3) := by decide +kernel
theorem dX11_mark_35 : decode cX11_mark 35 = .ok (.if_icmp .lt 5, 3) := by decide +kernel
theorem dX11_mark_38 : decode cX11_mark 38 = .ok (.iconst 0, 1) := by decide +kernel
theorem dX11_mark_39 : decode cX11_mark 39 = .ok (.ireturn, 1) := by decide +kernel
theorem dX11_mark_40 : decode cX11_mark 40 = .ok (.aload_n 0, 1) := by decide +kernel
theorem dX11_mark_41 : decode cX11_mark 41 = .ok (.getfield 28, 3) := by decide +kernel
theorem dX11_mark_44 : decode cX11_mark 44 = .ok (.new 319, 3) := by decide +kernel
theorem dX11_mark_47 : decode cX11_mark 47 = .ok (.dup, 1) := by decide +kernel
theorem dX11_mark_48 : decode cX11_mark 48 = .ok (.iload_n 1, 1) := by decide +kernel
theorem dX11_mark_49 : decode cX11_mark 49 = .ok (.iload_n 2, 1) := by decide +kernel
theorem dX11_mark_50 : decode cX11_mark 50 = .ok (.iload_n 3, 1) := by decide +kernel
theorem dX11_mark_51 : decode cX11_mark 51 = .ok (.aload_n 0, 1) := by decide +kernel
theorem dX11_mark_52 : decode cX11_mark 52 = .ok (.getfield 88, 3) := by decide +kernel
theorem dX11_mark_55 : decode cX11_mark 55 = .ok (.invokespecial 321, 3) := by decide +kernel
theorem dX11_mark_58 : decode cX11_mark 58 = .ok (.invokevirtual 108, 3) := by decide +kernel
theorem dX11_mark_61 : decode cX11_mark 61 = .ok (.pop, 1) := by decide +kernel
theorem dX11_mark_62 : decode cX11_mark 62 = .ok (.iconst 1, 1) := by decide +kernel
theorem dX11_mark_63 : decode cX11_mark 63 = .ok (.ireturn, 1) := by decide +kernel
theorem dX11_marked_0 : decode cX11_marked 0 = .ok (.iload_n 1, 1) := by decide +kernel
theorem dX11_marked_1 : decode cX11_marked 1 = .ok (.invokestatic 316, 3) := by decide +kernel
theorem dX11_marked_4 : decode cX11_marked 4 = .ok (.ifCond .eq 19, 3) := by decide +kernel
theorem dX11_marked_7 : decode cX11_marked 7 = .ok (.aload_n 0, 1) := by decide +kernel
theorem dX11_marked_8 : decode cX11_marked 8 = .ok (.iload_n 2, 1) := by decide +kernel
theorem dX11_marked_9 : decode cX11_marked 9 = .ok (.invokevirtual 136, 3) := by decide +kernel
theorem dX11_marked_12 : decode cX11_marked 12 = .ok (.ifCond .eq 11, 3) := by decide +kernel
theorem dX11_marked_15 : decode cX11_marked 15 = .ok (.aload_n 0, 1) := by decide +kernel
theorem dX11_marked_16 : decode cX11_marked 16 = .ok (.iload_n 3, 1) := by decide +kernel
theorem dX11_marked_17 : decode cX11_marked 17 = .ok (.invokevirtual 158, 3) := by decide +kernel
theorem dX11_marked_20 : decode cX11_marked 20 = .ok (.ifCond .ne 5, 3) := by decide +kernel
theorem dX11_marked_23 : decode cX11_marked 23 = .ok (.iconst (-1), 1) := by decide +kernel
theorem dX11_marked_24 : decode cX11_marked 24 = .ok (.ireturn, 1) := by decide +kernel
theorem dX11_marked_25 : decode cX11_marked 25 = .ok (.aload_n 0, 1) := by decide +kernel
theorem dX11_marked_26 : decode cX11_marked 26 = .ok (.iload_n 3, 1) := by decide +kernel
theorem dX11_marked_27 : decode cX11_marked 27 = .ok (.invokevirtual 322, 3) := by decide +kernel
theorem dX11_marked_30 : decode cX11_marked 30 = .ok (.aload_n 0, 1) := by decide +kernel
theorem dX11_marked_31 : decode cX11_marked 31 = .ok (.getfield 60, 3) := by decide +kernel
theorem dX11_marked_34 : decode cX11_marked 34 = .ok (.iload_n 1, 1) := by decide +kernel
theorem dX11_marked_35 : decode cX11_marked 35 = .ok (.aaload, 1) := by decide +kernel
theorem dX11_marked_36 : decode cX11_marked 36 = .ok (.iload_n 2, 1) := by decide +kernel
theorem dX11_marked_37 : decode cX11_marked 37 = .ok (.iaload, 1) := by decide +kernel
theorem dX11_marked_38 : decode cX11_marked 38 = .ok (.ireturn, 1) := by decide +kernel
theorem dX11_mayBeShown_0 : decode cX11_mayBeShown 0 = .ok (.aload_n 0, 1) := by decide +kernel
theorem dX11_mayBeShown_1 : decode cX11_mayBeShown 1 = .ok (.aload_n 1, 1) := by decide +kernel
theorem dX11_mayBeShown_2 : decode cX11_mayBeShown 2 = .ok (.getfield 243, 3) := by decide +kernel
theorem dX11_mayBeShown_5 : decode cX11_mayBeShown 5 = .ok (.invokevirtual 208, 3) := by decide +kernel
theorem dX11_mayBeShown_8 : decode cX11_mayBeShown 8 = .ok (.aload_n 0, 1) := by decide +kernel
theorem dX11_mayBeShown_9 : decode cX11_mayBeShown 9 = .ok (.getfield 71, 3) := by decide +kernel
theorem dX11_mayBeShown_12 : decode cX11_mayBeShown 12 = .ok (.iconst 3, 1) := by decide +kernel
theorem dX11_mayBeShown_13 : decode cX11_mayBeShown 13 = .ok (.iload_n 2, 1) := by decide +kernel
theorem dX11_mayBeShown_14 : decode cX11_mayBeShown 14 = .ok (.iastore, 1) := by decide +kernel
theorem dX11_mayBeShown_15 : decode cX11_mayBeShown 15 = .ok (.aload_n 0, 1) := by decide +kernel
theorem dX11_mayBeShown_16 : decode cX11_mayBeShown 16 = .ok (.getfield 71, 3) := by decide +kernel
theorem dX11_mayBeShown_19 : decode cX11_mayBeShown 19 = .ok (.iconst 4, 1) := by decide +kernel
theorem dX11_mayBeShown_20 : decode cX11_mayBeShown 20 = .ok (.aload_n 1, 1) := by decide +kernel
theorem dX11_mayBeShown_21 : decode cX11_mayBeShown 21 = .ok (.getfield 247, 3) := by decide +kernel
theorem dX11_mayBeShown_24 : decode cX11_mayBeShown 24 = .ok (.iastore, 1) := by decide +kernel
theorem dX11_mayBeShown_25 : decode cX11_mayBeShown 25 = .ok (.aload_n 0, 1) := by decide +kernel
theorem dX11_mayBeShown_26 : decode cX11_mayBeShown 26 = .ok (.getfield 71, 3) := by decide +kernel
theorem dX11_mayBeShown_29 : decode cX11_mayBeShown 29 = .ok (.iconst 5, 1) := by decide +kernel
theorem dX11_mayBeShown_30 : decode cX11_mayBeShown 30 = .ok (.aload_n 1, 1) := by decide +kernel
theorem dX11_mayBeShown_31 : decode cX11_mayBeShown 31 = .ok (.getfield 250, 3) := by decide +kernel
theorem dX11_mayBeShown_34 : decode cX11_mayBeShown 34 = .ok (.iastore, 1) := by decide +kernel
theorem dX11_mayBeShown_35 : decode cX11_mayBeShown 35 = .ok (.aload_n 0, 1) := by decide +kernel
theorem dX11_mayBeShown_36 : decode cX11_mayBeShown 36 = .ok (.getfield 71, 3) := by decide +kernel
theorem dX11_mayBeShown_39 : decode cX11_mayBeShown 39 = .ok (.bipush 6, 2) := by decide +kernel
theorem dX11_mayBeShown_41 : decode cX11_mayBeShown 41 = .ok (.iload_n 2, 1) := by decide +kernel
theorem dX11_mayBeShown_42 : decode cX11_mayBeShown 42 = .ok (.aload_n 1, 1) := by decide +kernel
theorem dX11_mayBeShown_43 : decode cX11_mayBeShown 43 = .ok (.getfield 238, 3) := by decide +kernel
theorem dX11_mayBeShown_46 : decode cX11_mayBeShown 46 = .ok (.isub, 1) := by decide +kernel
theorem dX11_mayBeShown_47 : decode cX11_mayBeShown 47 = .ok (.iastore, 1) := by decide +kernel
theorem dX11_mayBeShown_48 : decode cX11_mayBeShown 48 = .ok (.aload_n 0, 1) := by decide +kernel
theorem dX11_mayBeShown_49 : decode cX11_mayBeShown 49 = .ok (.getfield 71, 3) := by decide +kernel
theorem dX11_mayBeShown_52 : decode cX11_mayBeShown 52 = .ok (.bipush 7, 2) := by decide +kernel
theorem dX11_mayBeShown_54 : decode cX11_mayBeShown 54 = .ok (.iload_n 3, 1) := by decide +kernel
theorem dX11_mayBeShown_55 : decode cX11_mayBeShown 55 = .ok (.iastore, 1) := by decide +kernel
theorem dX11_mayBeShown_56 : decode cX11_mayBeShown 56 = .ok (.aload_n 0, 1) := by decide +kernel
theorem dX11_mayBeShown_57 : decode cX11_mayBeShown 57 = .ok (.bipush 115, 2) := by decide +kernel
theorem dX11_mayBeShown_59 : decode cX11_mayBeShown 59 = .ok (.iload 4, 2) := by decide +kernel
theorem dX11_mayBeShown_61 : decode cX11_mayBeShown 61 = .ok (.invokevirtual 212, 3) := by decide +kernel
theorem dX11_mayBeShown_64 : decode cX11_mayBeShown 64 = .ok (.ifCond .eq 7, 3) := by decide +kernel
theorem dX11_mayBeShown_67 : decode cX11_mayBeShown 67 = .ok (.iconst 1, 1) := by decide +kernel
theorem dX11_mayBeShown_68 : decode cX11_mayBeShown 68 = .ok (.goto 4, 3) := by decide +kernel
theorem dX11_mayBeShown_71 : decode cX11_mayBeShown 71 = .ok (.iconst 0, 1) := by decide +kernel
theorem dX11_mayBeShown_72 : decode cX11_mayBeShown 72 = .ok (.ireturn, 1) := by decide +kernel
theorem dX11_meanMood_0 : decode cX11_meanMood 0 = .ok (.iconst 0, 1) := by decide +kernel
theorem dX11_meanMood_1 : decode cX11_meanMood 1 = .ok (.istore 6, 2) := by decide +kernel
theorem dX11_meanMood_3 : decode cX11_meanMood 3 = .ok (.iconst 0, 1) := by decide +kernel
theorem dX11_meanMood_4 : decode cX11_meanMood 4 = .ok (.istore 7, 2) := by decide +kernel
theorem dX11_meanMood_6 : decode cX11_meanMood 6 = .ok (.iconst 0, 1) := by decide +kernel
theorem dX11_meanMood_7 : decode cX11_meanMood 7 = .ok (.istore 8, 2) := by decide +kernel
theorem dX11_meanMood_9 : decode cX11_meanMood 9 = .ok (.iload 8, 2) := by decide +kernel
theorem dX11_meanMood_11 : decode cX11_meanMood 11 = .ok (.aload_n 0, 1) := by decide +kernel
theorem dX11_meanMood_12 : decode cX11_meanMood 12 = .ok (.getfield 16, 3) := by decide +kernel
theorem dX11_meanMood_15 : decode cX11_meanMood 15 = .ok (.invokevirtual 100, 3) := by decide +kernel
theorem dX11_meanMood_18 : decode cX11_meanMood 18 = .ok (.if_icmp .ge 70, 3) := by decide +kernel
theorem dX11_meanMood_21 : decode cX11_meanMood 21 = .ok (.aload_n 0, 1) := by decide +kernel
theorem dX11_meanMood_22 : decode cX11_meanMood 22 = .ok (.getfield 16, 3) := by decide +kernel
theorem dX11_meanMood_25 : decode cX11_meanMood 25 = .ok (.iload 8, 2) := by decide +kernel
theorem dX11_meanMood_27 : decode cX11_meanMood 27 = .ok (.invokevirtual 126, 3) := by decide +kernel
theorem dX11_meanMood_30 : decode cX11_meanMood 30 = .ok (.checkcast 124, 3) := by decide +kernel
theorem dX11_meanMood_33 : decode cX11_meanMood 33 = .ok (.astore 9, 2) := by decide +kernel
theorem dX11_meanMood_35 : decode cX11_meanMood 35 = .ok (.aload 9, 2) := by decide +kernel
theorem dX11_meanMood_37 : decode cX11_meanMood 37 = .ok (.getfield 247, 3) := by decide +kernel
theorem dX11_meanMood_40 : decode cX11_meanMood 40 = .ok (.iload_n 3, 1) := by decide +kernel
theorem dX11_meanMood_41 : decode cX11_meanMood 41 = .ok (.if_icmp .ne 41, 3) := by decide +kernel
theorem dX11_meanMood_44 : decode cX11_meanMood 44 = .ok (.aload 9, 2) := by decide +kernel
theorem dX11_meanMood_46 : decode cX11_meanMood 46 = .ok (.iload 4, 2) := by decide +kernel
theorem dX11_meanMood_48 : decode cX11_meanMood 48 = .ok (.iload 5, 2) := by decide +kernel
theorem dX11_meanMood_50 : decode cX11_meanMood 50 = .ok (.invokevirtual 264, 3) := by decide +kernel
theorem dX11_meanMood_53 : decode cX11_meanMood 53 = .ok (.ifCond .eq 29, 3) := by decide +kernel
theorem dX11_meanMood_56 : decode cX11_meanMood 56 = .ok (.aload 9, 2) := by decide +kernel
theorem dX11_meanMood_58 : decode cX11_meanMood 58 = .ok (.getfield 243, 3) := by decide +kernel
theorem dX11_meanMood_61 : decode cX11_meanMood 61 = .ok (.iload_n 1, 1) := by decide +kernel
theorem dX11_meanMood_62 : decode cX11_meanMood 62 = .ok (.iload_n 2, 1) := by decide +kernel
theorem dX11_meanMood_63 : decode cX11_meanMood 63 = .ok (.invokevirtual 349, 3) := by decide +kernel
theorem dX11_meanMood_66 : decode cX11_meanMood 66 = .ok (.ifCond .eq 16, 3) := by decide +kernel
theorem dX11_meanMood_69 : decode cX11_meanMood 69 = .ok (.iload 6, 2) := by decide +kernel
theorem dX11_meanMood_71 : decode cX11_meanMood 71 = .ok (.aload 9, 2) := by decide +kernel
theorem dX11_meanMood_73 : decode cX11_meanMood 73 = .ok (.getfield 250, 3) := by decide +kernel
theorem dX11_meanMood_76 : decode cX11_meanMood 76 = .ok (.iadd, 1) := by decide +kernel
theorem dX11_meanMood_77 : decode cX11_meanMood 77 = .ok (.istore 6, 2) := by decide +kernel
theorem dX11_meanMood_79 : decode cX11_meanMood 79 = .ok (.iinc 7 1, 3) := by decide +kernel
theorem dX11_meanMood_82 : decode cX11_meanMood 82 = .ok (.iinc 8 1, 3) := by decide +kernel
theorem dX11_meanMood_85 : decode cX11_meanMood 85 = .ok (.goto (-76), 3) := by decide +kernel
theorem dX11_meanMood_88 : decode cX11_meanMood 88 = .ok (.iload 7, 2) := by decide +kernel
theorem dX11_meanMood_90 : decode cX11_meanMood 90 = .ok (.ifCond .ne 9, 3) := by decide +kernel
theorem dX11_meanMood_93 : decode cX11_meanMood 93 = .ok (.ldc_w 335, 3) := by decide +kernel
theorem dX11_meanMood_96 : decode cX11_meanMood 96 = .ok (.goto 12, 3) := by decide +kernel
theorem dX11_meanMood_99 : decode cX11_meanMood 99 = .ok (.iload 6, 2) := by decide +kernel
theorem dX11_meanMood_101 : decode cX11_meanMood 101 = .ok (.bipush 100, 2) := by decide +kernel
theorem dX11_meanMood_103 : decode cX11_meanMood 103 = .ok (.iload 7, 2) := by decide +kernel
theorem dX11_meanMood_105 : decode cX11_meanMood 105 = .ok (.invokestatic 336, 3) := by decide +kernel
theorem dX11_meanMood_108 : decode cX11_meanMood 108 = .ok (.ireturn, 1) := by decide +kernel
theorem dX11_mood_0 : decode cX11_mood 0 = .ok (.iload_n 1, 1) := by decide +kernel
theorem dX11_mood_1 : decode cX11_mood 1 = .ok (.invokestatic 150, 3) := by decide +kernel
theorem dX11_mood_4 : decode cX11_mood 4 = .ok (.ifCond .eq 20, 3) := by decide +kernel
theorem dX11_mood_7 : decode cX11_mood 7 = .ok (.aload_n 0, 1) := by decide +kernel
theorem dX11_mood_8 : decode cX11_mood 8 = .ok (.iload_n 2, 1) := by decide +kernel
theorem dX11_mood_9 : decode cX11_mood 9 = .ok (.invokevirtual 158, 3) := by decide +kernel
theorem dX11_mood_12 : decode cX11_mood 12 = .ok (.ifCond .eq 12, 3) := by decide +kernel
theorem dX11_mood_15 : decode cX11_mood 15 = .ok (.iload_n 3, 1) := by decide +kernel
theorem dX11_mood_16 : decode cX11_mood 16 = .ok (.iconst 0, 1) := by decide +kernel
theorem dX11_mood_17 : decode cX11_mood 17 = .ok (.iconst 1, 1) := by decide +kernel
theorem dX11_mood_18 : decode cX11_mood 18 = .ok (.invokestatic 92, 3) := by decide +kernel
theorem dX11_mood_21 : decode cX11_mood 21 = .ok (.ifCond .ne 7, 3) := by decide +kernel
theorem dX11_mood_24 : decode cX11_mood 24 = .ok (.ldc_w 335, 3) := by decide +kernel
theorem dX11_mood_27 : decode cX11_mood 27 = .ok (.ireturn, 1) := by decide +kernel
theorem dX11_mood_28 : decode cX11_mood 28 = .ok (.iload_n 3, 1) := by decide +kernel
theorem dX11_mood_29 : decode cX11_mood 29 = .ok (.iconst 1, 1) := by decide +kernel
theorem dX11_mood_30 : decode cX11_mood 30 = .ok (.if_icmp .ne 10, 3) := by decide +kernel
theorem dX11_mood_33 : decode cX11_mood 33 = .ok (.aload_n 0, 1) := by decide +kernel
theorem dX11_mood_34 : decode cX11_mood 34 = .ok (.iload_n 1, 1) := by decide +kernel
theorem dX11_mood_35 : decode cX11_mood 35 = .ok (.iload_n 2, 1) := by decide +kernel
theorem dX11_mood_36 : decode cX11_mood 36 = .ok (.invokevirtual 261, 3) := by decide +kernel
theorem dX11_mood_39 : decode cX11_mood 39 = .ok (.ireturn, 1) := by decide +kernel
theorem dX11_mood_40 : decode cX11_mood 40 = .ok (.iconst 0, 1) := by decide +kernel
theorem dX11_mood_41 : decode cX11_mood 41 = .ok (.istore 4, 2) := by decide +kernel
theorem dX11_mood_43 : decode cX11_mood 43 = .ok (.iconst 0, 1) := by decide +kernel
theorem dX11_mood_44 : decode cX11_mood 44 = .ok (.istore 5, 2) := by decide +kernel
theorem dX11_mood_46 : decode cX11_mood 46 = .ok (.iload 5, 2) := by decide +kernel
theorem dX11_mood_48 : decode cX11_mood 48 = .ok (.aload_n 0, 1) := by decide +kernel
theorem dX11_mood_49 : decode cX11_mood 49 = .ok (.getfield 16, 3) := by decide +kernel
theorem dX11_mood_52 : decode cX11_mood 52 = .ok (.invokevirtual 100, 3) := by decide +kernel
theorem dX11_mood_55 : decode cX11_mood 55 = .ok (.if_icmp .ge 43, 3) := by decide +kernel
theorem dX11_mood_58 : decode cX11_mood 58 = .ok (.aload_n 0, 1) := by decide +kernel
theorem dX11_mood_59 : decode cX11_mood 59 = .ok (.getfield 16, 3) := by decide +kernel
theorem dX11_mood_62 : decode cX11_mood 62 = .ok (.iload 5, 2) := by decide +kernel
theorem dX11_mood_64 : decode cX11_mood 64 = .ok (.invokevirtual 126, 3) := by decide +kernel
theorem dX11_mood_67 : decode cX11_mood 67 = .ok (.checkcast 124, 3) := by decide +kernel
theorem dX11_mood_70 : decode cX11_mood 70 = .ok (.astore 6, 2) := by decide +kernel
theorem dX11_mood_72 : decode cX11_mood 72 = .ok (.aload 6, 2) := by decide +kernel
theorem dX11_mood_74 : decode cX11_mood 74 = .ok (.iload_n 1, 1) := by decide +kernel
theorem dX11_mood_75 : decode cX11_mood 75 = .ok (.iload_n 2, 1) := by decide +kernel
theorem dX11_mood_76 : decode cX11_mood 76 = .ok (.invokevirtual 264, 3) := by decide +kernel
theorem dX11_mood_79 : decode cX11_mood 79 = .ok (.ifCond .eq 13, 3) := by decide +kernel
theorem dX11_mood_82 : decode cX11_mood 82 = .ok (.iload 4, 2) := by decide +kernel
theorem dX11_mood_84 : decode cX11_mood 84 = .ok (.aload 6, 2) := by decide +kernel
theorem dX11_mood_86 : decode cX11_mood 86 = .ok (.getfield 250, 3) := by decide +kernel
theorem dX11_mood_89 : decode cX11_mood 89 = .ok (.iadd, 1) := by decide +kernel
theorem dX11_mood_90 : decode cX11_mood 90 = .ok (.istore 4, 2) := by decide +kernel
theorem dX11_mood_92 : decode cX11_mood 92 = .ok (.iinc 5 1, 3) := by decide +kernel
theorem dX11_mood_95 : decode cX11_mood 95 = .ok (.goto (-49), 3) := by decide +kernel
theorem dX11_mood_98 : decode cX11_mood 98 = .ok (.iload 4, 2) := by decide +kernel
theorem dX11_mood_100 : decode cX11_mood 100 = .ok (.ireturn, 1) := by decide +kernel
theorem dX11_person_0 : decode cX11_person 0 = .ok (.iload_n 1, 1) := by decide +kernel
theorem dX11_person_1 : decode cX11_person 1 = .ok (.invokestatic 96, 3) := by decide +kernel
theorem dX11_person_4 : decode cX11_person 4 = .ok (.ifCond .eq 36, 3) := by decide +kernel
theorem dX11_person_7 : decode cX11_person 7 = .ok (.iload_n 2, 1) := by decide +kernel
theorem dX11_person_8 : decode cX11_person 8 = .ok (.bipush 10, 2) := by decide +kernel
theorem dX11_person_10 : decode cX11_person 10 = .ok (.bipush 99, 2) := by decide +kernel
theorem dX11_person_12 : decode cX11_person 12 = .ok (.invokestatic 92, 3) := by decide +kernel
theorem dX11_person_15 : decode cX11_person 15 = .ok (.ifCond .eq 25, 3) := by decide +kernel
theorem dX11_person_18 : decode cX11_person 18 = .ok (.iload_n 3, 1) := by decide +kernel
theorem dX11_person_19 : decode cX11_person 19 = .ok (.iconst 0, 1) := by decide +kernel
theorem dX11_person_20 : decode cX11_person 20 = .ok (.bipush 7, 2) := by decide +kernel
theorem dX11_person_22 : decode cX11_person 22 = .ok (.invokestatic 92, 3) := by decide +kernel
theorem dX11_person_25 : decode cX11_person 25 = .ok (.ifCond .eq 15, 3) := by decide +kernel
theorem dX11_person_28 : decode cX11_person 28 = .ok (.aload_n 0, 1) := by decide +kernel
theorem dX11_person_29 : decode cX11_person 29 = .ok (.getfield 10, 3) := by decide +kernel
theorem dX11_person_32 : decode cX11_person 32 = .ok (.invokevirtual 100, 3) := by decide +kernel
theorem dX11_person_35 : decode cX11_person 35 = .ok (.bipush 24, 2) := by decide +kernel
theorem dX11_person_37 : decode cX11_person 37 = .ok (.if_icmp .lt 5, 3) := by decide +kernel
theorem dX11_person_40 : decode cX11_person 40 = .ok (.iconst (-1), 1) := by decide +kernel
theorem dX11_person_41 : decode cX11_person 41 = .ok (.ireturn, 1) := by decide +kernel
theorem dX11_person_42 : decode cX11_person 42 = .ok (.aload_n 0, 1) := by decide +kernel
theorem dX11_person_43 : decode cX11_person 43 = .ok (.getfield 10, 3) := by decide +kernel
theorem dX11_person_46 : decode cX11_person 46 = .ok (.new 103, 3) := by decide +kernel
theorem dX11_person_49 : decode cX11_person 49 = .ok (.dup, 1) := by decide +kernel
theorem dX11_person_50 : decode cX11_person 50 = .ok (.aload_n 0, 1) := by decide +kernel
theorem dX11_person_51 : decode cX11_person 51 = .ok (.getfield 10, 3) := by decide +kernel
theorem dX11_person_54 : decode cX11_person 54 = .ok (.invokevirtual 100, 3) := by decide +kernel
theorem dX11_person_57 : decode cX11_person 57 = .ok (.iload_n 1, 1) := by decide +kernel
theorem dX11_person_58 : decode cX11_person 58 = .ok (.iload_n 2, 1) := by decide +kernel
theorem dX11_person_59 : decode cX11_person 59 = .ok (.iload_n 3, 1) := by decide +kernel
theorem dX11_person_60 : decode cX11_person 60 = .ok (.invokespecial 105, 3) := by decide +kernel
theorem dX11_person_63 : decode cX11_person 63 = .ok (.invokevirtual 108, 3) := by decide +kernel
theorem dX11_person_66 : decode cX11_person 66 = .ok (.pop, 1) := by decide +kernel
theorem dX11_person_67 : decode cX11_person 67 = .ok (.aload_n 0, 1) := by decide +kernel
theorem dX11_person_68 : decode cX11_person 68 = .ok (.getfield 10, 3) := by decide +kernel
theorem dX11_person_71 : decode cX11_person 71 = .ok (.invokevirtual 100, 3) := by decide +kernel
theorem dX11_person_74 : decode cX11_person 74 = .ok (.iconst 1, 1) := by decide +kernel
theorem dX11_person_75 : decode cX11_person 75 = .ok (.isub, 1) := by decide +kernel
theorem dX11_person_76 : decode cX11_person 76 = .ok (.ireturn, 1) := by decide +kernel
theorem dX11_personsGone_0 : decode cX11_personsGone 0 = .ok (.iconst 0, 1) := by decide +kernel
theorem dX11_personsGone_1 : decode cX11_personsGone 1 = .ok (.istore_n 1, 1) := by decide +kernel
theorem dX11_personsGone_2 : decode cX11_personsGone 2 = .ok (.iconst 0, 1) := by decide +kernel
theorem dX11_personsGone_3 : decode cX11_personsGone 3 = .ok (.istore_n 2, 1) := by decide +kernel
theorem dX11_personsGone_4 : decode cX11_personsGone 4 = .ok (.iload_n 2, 1) := by decide +kernel
theorem dX11_personsGone_5 : decode cX11_personsGone 5 = .ok (.aload_n 0, 1) := by decide +kernel
theorem dX11_personsGone_6 : decode cX11_personsGone 6 = .ok (.getfield 10, 3) := by decide +kernel
theorem dX11_personsGone_9 : decode cX11_personsGone 9 = .ok (.invokevirtual 100, 3) := by decide +kernel
theorem dX11_personsGone_12 : decode cX11_personsGone 12 = .ok (.if_icmp .ge 28, 3) := by decide +kernel
theorem dX11_personsGone_15 : decode cX11_personsGone 15 = .ok (.aload_n 0, 1) := by decide +kernel
theorem dX11_personsGone_16 : decode cX11_personsGone 16 = .ok (.iload_n 2, 1) := by decide +kernel
theorem dX11_personsGone_17 : decode cX11_personsGone 17 = .ok (.aload_n 0, 1) := by decide +kernel
theorem dX11_personsGone_18 : decode cX11_personsGone 18 = .ok (.getfield 88, 3) := by decide +kernel
theorem dX11_personsGone_21 : decode cX11_personsGone 21 = .ok (.aload_n 0, 1) := by decide +kernel
theorem dX11_personsGone_22 : decode cX11_personsGone 22 = .ok (.getfield 88, 3) := by decide +kernel
theorem dX11_personsGone_25 : decode cX11_personsGone 25 = .ok (.invokevirtual 121, 3) := by decide +kernel
theorem dX11_personsGone_28 : decode cX11_personsGone 28 = .ok (.ifCond .eq 6, 3) := by decide +kernel
theorem dX11_personsGone_31 : decode cX11_personsGone 31 = .ok (.iinc 1 1, 3) := by decide +kernel
theorem dX11_personsGone_34 : decode cX11_personsGone 34 = .ok (.iinc 2 1, 3) := by decide +kernel
theorem dX11_personsGone_37 : decode cX11_personsGone 37 = .ok (.goto (-33), 3) := by decide +kernel
theorem dX11_personsGone_40 : decode cX11_personsGone 40 = .ok (.iload_n 1, 1) := by decide +kernel
theorem dX11_personsGone_41 : decode cX11_personsGone 41 = .ok (.ireturn, 1) := by decide +kernel
theorem dX11_pickDigest_0 : decode cX11_pickDigest 0 = .ok (.aload_n 0, 1) := by decide +kernel
theorem dX11_pickDigest_1 : decode cX11_pickDigest 1 = .ok (.iload_n 2, 1) := by decide +kernel
theorem dX11_pickDigest_2 : decode cX11_pickDigest 2 = .ok (.iload 4, 2) := by decide +kernel
theorem dX11_pickDigest_4 : decode cX11_pickDigest 4 = .ok (.invokevirtual 197, 3) := by decide +kernel
theorem dX11_pickDigest_7 : decode cX11_pickDigest 7 = .ok (.istore 5, 2) := by decide +kernel
theorem dX11_pickDigest_9 : decode cX11_pickDigest 9 = .ok (.aload_n 0, 1) := by decide +kernel
theorem dX11_pickDigest_10 : decode cX11_pickDigest 10 = .ok (.iload_n 2, 1) := by decide +kernel
theorem dX11_pickDigest_11 : decode cX11_pickDigest 11 = .ok (.iload_n 3, 1) := by decide +kernel
theorem dX11_pickDigest_12 : decode cX11_pickDigest 12 = .ok (.iload 5, 2) := by decide +kernel
theorem dX11_pickDigest_14 : decode cX11_pickDigest 14 = .ok (.invokevirtual 267, 3) := by decide +kernel
theorem dX11_pickDigest_17 : decode cX11_pickDigest 17 = .ok (.istore 6, 2) := by decide +kernel
theorem dX11_pickDigest_19 : decode cX11_pickDigest 19 = .ok (.iconst 0, 1) := by decide +kernel
theorem dX11_pickDigest_20 : decode cX11_pickDigest 20 = .ok (.istore 7, 2) := by decide +kernel
theorem dX11_pickDigest_22 : decode cX11_pickDigest 22 = .ok (.iconst 0, 1) := by decide +kernel
theorem dX11_pickDigest_23 : decode cX11_pickDigest 23 = .ok (.istore 8, 2) := by decide +kernel
theorem dX11_pickDigest_25 : decode cX11_pickDigest 25 = .ok (.iload 8, 2) := by decide +kernel
theorem dX11_pickDigest_27 : decode cX11_pickDigest 27 = .ok (.aload_n 0, 1) := by decide +kernel
theorem dX11_pickDigest_28 : decode cX11_pickDigest 28 = .ok (.getfield 16, 3) := by decide +kernel
theorem dX11_pickDigest_31 : decode cX11_pickDigest 31 = .ok (.invokevirtual 100, 3) := by decide +kernel
theorem dX11_pickDigest_34 : decode cX11_pickDigest 34 = .ok (.if_icmp .ge 59, 3) := by decide +kernel
theorem dX11_pickDigest_37 : decode cX11_pickDigest 37 = .ok (.aload_n 0, 1) := by decide +kernel
theorem dX11_pickDigest_38 : decode cX11_pickDigest 38 = .ok (.getfield 16, 3) := by decide +kernel
theorem dX11_pickDigest_41 : decode cX11_pickDigest 41 = .ok (.iload 8, 2) := by decide +kernel
theorem dX11_pickDigest_43 : decode cX11_pickDigest 43 = .ok (.invokevirtual 126, 3) := by decide +kernel
theorem dX11_pickDigest_46 : decode cX11_pickDigest 46 = .ok (.checkcast 124, 3) := by decide +kernel
theorem dX11_pickDigest_49 : decode cX11_pickDigest 49 = .ok (.astore 9, 2) := by decide +kernel
theorem dX11_pickDigest_51 : decode cX11_pickDigest 51 = .ok (.aload 9, 2) := by decide +kernel
theorem dX11_pickDigest_53 : decode cX11_pickDigest 53 = .ok (.iload_n 1, 1) := by decide +kernel
theorem dX11_pickDigest_54 : decode cX11_pickDigest 54 = .ok (.iload 4, 2) := by decide +kernel
theorem dX11_pickDigest_56 : decode cX11_pickDigest 56 = .ok (.invokevirtual 264, 3) := by decide +kernel
theorem dX11_pickDigest_59 : decode cX11_pickDigest 59 = .ok (.ifCond .eq 28, 3) := by decide +kernel
theorem dX11_pickDigest_62 : decode cX11_pickDigest 62 = .ok (.aload_n 0, 1) := by decide +kernel
theorem dX11_pickDigest_63 : decode cX11_pickDigest 63 = .ok (.aload 9, 2) := by decide +kernel
theorem dX11_pickDigest_65 : decode cX11_pickDigest 65 = .ok (.iload_n 2, 1) := by decide +kernel
theorem dX11_pickDigest_66 : decode cX11_pickDigest 66 = .ok (.iload_n 3, 1) := by decide +kernel
theorem dX11_pickDigest_67 : decode cX11_pickDigest 67 = .ok (.iload 5, 2) := by decide +kernel
theorem dX11_pickDigest_69 : decode cX11_pickDigest 69 = .ok (.invokevirtual 239, 3) := by decide +kernel
theorem dX11_pickDigest_72 : decode cX11_pickDigest 72 = .ok (.ifCond .eq 15, 3) := by decide +kernel
theorem dX11_pickDigest_75 : decode cX11_pickDigest 75 = .ok (.aload_n 0, 1) := by decide +kernel
theorem dX11_pickDigest_76 : decode cX11_pickDigest 76 = .ok (.iload 8, 2) := by decide +kernel
theorem dX11_pickDigest_78 : decode cX11_pickDigest 78 = .ok (.iload 7, 2) := by decide +kernel
theorem dX11_pickDigest_80 : decode cX11_pickDigest 80 = .ok (.iload 6, 2) := by decide +kernel
theorem dX11_pickDigest_82 : decode cX11_pickDigest 82 = .ok (.invokevirtual 271, 3) := by decide +kernel
theorem dX11_pickDigest_85 : decode cX11_pickDigest 85 = .ok (.istore 7, 2) := by decide +kernel
theorem dX11_pickDigest_87 : decode cX11_pickDigest 87 = .ok (.iinc 8 1, 3) := by decide +kernel
theorem dX11_pickDigest_90 : decode cX11_pickDigest 90 = .ok (.goto (-65), 3) := by decide +kernel
theorem dX11_pickDigest_93 : decode cX11_pickDigest 93 = .ok (.iload 7, 2) := by decide +kernel
theorem dX11_pickDigest_95 : decode cX11_pickDigest 95 = .ok (.ireturn, 1) := by decide +kernel
theorem dX11_priceOf_0 : decode cX11_priceOf 0 = .ok (.iconst 0, 1) := by decide +kernel
theorem dX11_priceOf_1 : decode cX11_priceOf 1 = .ok (.istore_n 2, 1) := by decide +kernel
theorem dX11_priceOf_2 : decode cX11_priceOf 2 = .ok (.iconst 0, 1) := by decide +kernel
theorem dX11_priceOf_3 : decode cX11_priceOf 3 = .ok (.istore_n 3, 1) := by decide +kernel
theorem dX11_priceOf_4 : decode cX11_priceOf 4 = .ok (.iload_n 3, 1) := by decide +kernel
theorem dX11_priceOf_5 : decode cX11_priceOf 5 = .ok (.aload_n 0, 1) := by decide +kernel
theorem dX11_priceOf_6 : decode cX11_priceOf 6 = .ok (.getfield 31, 3) := by decide +kernel
theorem dX11_priceOf_9 : decode cX11_priceOf 9 = .ok (.invokevirtual 100, 3) := by decide +kernel
theorem dX11_priceOf_12 : decode cX11_priceOf 12 = .ok (.if_icmp .ge 34, 3) := by decide +kernel
theorem dX11_priceOf_15 : decode cX11_priceOf 15 = .ok (.iload_n 1, 1) := by decide +kernel
theorem dX11_priceOf_16 : decode cX11_priceOf 16 = .ok (.iload_n 3, 1) := by decide +kernel
theorem dX11_priceOf_17 : decode cX11_priceOf 17 = .ok (.ishr, 1) := by decide +kernel
theorem dX11_priceOf_18 : decode cX11_priceOf 18 = .ok (.iconst 1, 1) := by decide +kernel
theorem dX11_priceOf_19 : decode cX11_priceOf 19 = .ok (.iand, 1) := by decide +kernel
theorem dX11_priceOf_20 : decode cX11_priceOf 20 = .ok (.ifCond .eq 20, 3) := by decide +kernel
theorem dX11_priceOf_23 : decode cX11_priceOf 23 = .ok (.iload_n 2, 1) := by decide +kernel
theorem dX11_priceOf_24 : decode cX11_priceOf 24 = .ok (.aload_n 0, 1) := by decide +kernel
theorem dX11_priceOf_25 : decode cX11_priceOf 25 = .ok (.getfield 31, 3) := by decide +kernel
theorem dX11_priceOf_28 : decode cX11_priceOf 28 = .ok (.iload_n 3, 1) := by decide +kernel
theorem dX11_priceOf_29 : decode cX11_priceOf 29 = .ok (.invokevirtual 126, 3) := by decide +kernel
theorem dX11_priceOf_32 : decode cX11_priceOf 32 = .ok (.checkcast 402, 3) := by decide +kernel
theorem dX11_priceOf_35 : decode cX11_priceOf 35 = .ok (.getfield 418, 3) := by decide +kernel
theorem dX11_priceOf_38 : decode cX11_priceOf 38 = .ok (.iadd, 1) := by decide +kernel
theorem dX11_priceOf_39 : decode cX11_priceOf 39 = .ok (.istore_n 2, 1) := by decide +kernel
theorem dX11_priceOf_40 : decode cX11_priceOf 40 = .ok (.iinc 3 1, 3) := by decide +kernel
theorem dX11_priceOf_43 : decode cX11_priceOf 43 = .ok (.goto (-39), 3) := by decide +kernel
theorem dX11_priceOf_46 : decode cX11_priceOf 46 = .ok (.iload_n 2, 1) := by decide +kernel
theorem dX11_priceOf_47 : decode cX11_priceOf 47 = .ok (.ireturn, 1) := by decide +kernel
theorem dX11_question_0 : decode cX11_question 0 = .ok (.iload_n 1, 1) := by decide +kernel
theorem dX11_question_1 : decode cX11_question 1 = .ok (.iconst 1, 1) := by decide +kernel
theorem dX11_question_2 : decode cX11_question 2 = .ok (.bipush 50, 2) := by decide +kernel
theorem dX11_question_4 : decode cX11_question 4 = .ok (.invokestatic 92, 3) := by decide +kernel
theorem dX11_question_7 : decode cX11_question 7 = .ok (.ifCond .eq 26, 3) := by decide +kernel
theorem dX11_question_10 : decode cX11_question 10 = .ok (.iload_n 2, 1) := by decide +kernel
theorem dX11_question_11 : decode cX11_question 11 = .ok (.iconst 0, 1) := by decide +kernel
theorem dX11_question_12 : decode cX11_question 12 = .ok (.sipush 1023, 3) := by decide +kernel
theorem dX11_question_15 : decode cX11_question 15 = .ok (.invokestatic 92, 3) := by decide +kernel
theorem dX11_question_18 : decode cX11_question 18 = .ok (.ifCond .eq 15, 3) := by decide +kernel
theorem dX11_question_21 : decode cX11_question 21 = .ok (.aload_n 0, 1) := by decide +kernel
theorem dX11_question_22 : decode cX11_question 22 = .ok (.getfield 31, 3) := by decide +kernel
theorem dX11_question_25 : decode cX11_question 25 = .ok (.invokevirtual 100, 3) := by decide +kernel
theorem dX11_question_28 : decode cX11_question 28 = .ok (.bipush 8, 2) := by decide +kernel
theorem dX11_question_30 : decode cX11_question 30 = .ok (.if_icmp .lt 5, 3) := by decide +kernel
theorem dX11_question_33 : decode cX11_question 33 = .ok (.iconst (-1), 1) := by decide +kernel
theorem dX11_question_34 : decode cX11_question 34 = .ok (.ireturn, 1) := by decide +kernel
theorem dX11_question_35 : decode cX11_question 35 = .ok (.aload_n 0, 1) := by decide +kernel
theorem dX11_question_36 : decode cX11_question 36 = .ok (.getfield 31, 3) := by decide +kernel
theorem dX11_question_39 : decode cX11_question 39 = .ok (.new 402, 3) := by decide +kernel
theorem dX11_question_42 : decode cX11_question 42 = .ok (.dup, 1) := by decide +kernel
theorem dX11_question_43 : decode cX11_question 43 = .ok (.iload_n 1, 1) := by decide +kernel
theorem dX11_question_44 : decode cX11_question 44 = .ok (.iload_n 2, 1) := by decide +kernel
theorem dX11_question_45 : decode cX11_question 45 = .ok (.invokespecial 404, 3) := by decide +kernel
theorem dX11_question_48 : decode cX11_question 48 = .ok (.invokevirtual 108, 3) := by decide +kernel
theorem dX11_question_51 : decode cX11_question 51 = .ok (.pop, 1) := by decide +kernel
theorem dX11_question_52 : decode cX11_question 52 = .ok (.aload_n 0, 1) := by decide +kernel
theorem dX11_question_53 : decode cX11_question 53 = .ok (.getfield 31, 3) := by decide +kernel
theorem dX11_question_56 : decode cX11_question 56 = .ok (.invokevirtual 100, 3) := by decide +kernel
theorem dX11_question_59 : decode cX11_question 59 = .ok (.iconst 1, 1) := by decide +kernel
theorem dX11_question_60 : decode cX11_question 60 = .ok (.isub, 1) := by decide +kernel
theorem dX11_question_61 : decode cX11_question 61 = .ok (.ireturn, 1) := by decide +kernel
theorem dX11_readersGiving_0 : decode cX11_readersGiving 0 = .ok (.iconst 0, 1) := by decide +kernel
theorem dX11_readersGiving_1 : decode cX11_readersGiving 1 = .ok (.istore_n 3, 1) := by decide +kernel
theorem dX11_readersGiving_2 : decode cX11_readersGiving 2 = .ok (.iconst 0, 1) := by decide +kernel
theorem dX11_readersGiving_3 : decode cX11_readersGiving 3 = .ok (.istore 4, 2) := by decide +kernel
theorem dX11_readersGiving_5 : decode cX11_readersGiving 5 = .ok (.iload 4, 2) := by decide +kernel
theorem dX11_readersGiving_7 : decode cX11_readersGiving 7 = .ok (.bipush 6, 2) := by decide +kernel
theorem dX11_readersGiving_9 : decode cX11_readersGiving 9 = .ok (.if_icmp .ge 25, 3) := by decide +kernel
theorem dX11_readersGiving_12 : decode cX11_readersGiving 12 = .ok (.aload_n 0, 1) := by decide +kernel
theorem dX11_readersGiving_13 : decode cX11_readersGiving 13 = .ok (.getfield 60, 3) := by decide +kernel
theorem dX11_readersGiving_16 : decode cX11_readersGiving 16 = .ok (.iload 4, 2) := by decide +kernel
theorem dX11_readersGiving_18 : decode cX11_readersGiving 18 = .ok (.aaload, 1) := by decide +kernel
theorem dX11_readersGiving_19 : decode cX11_readersGiving 19 = .ok (.iload_n 1, 1) := by decide +kernel
theorem dX11_readersGiving_20 : decode cX11_readersGiving 20 = .ok (.iaload, 1) := by decide +kernel
theorem dX11_readersGiving_21 : decode cX11_readersGiving 21 = .ok (.iload_n 2, 1) := by decide +kernel
theorem dX11_readersGiving_22 : decode cX11_readersGiving 22 = .ok (.if_icmp .ne 6, 3) := by decide +kernel
theorem dX11_readersGiving_25 : decode cX11_readersGiving 25 = .ok (.iinc 3 1, 3) := by decide +kernel
theorem dX11_readersGiving_28 : decode cX11_readersGiving 28 = .ok (.iinc 4 1, 3) := by decide +kernel
theorem dX11_readersGiving_31 : decode cX11_readersGiving 31 = .ok (.goto (-26), 3) := by decide +kernel
theorem dX11_readersGiving_34 : decode cX11_readersGiving 34 = .ok (.iload_n 3, 1) := by decide +kernel
theorem dX11_readersGiving_35 : decode cX11_readersGiving 35 = .ok (.ireturn, 1) := by decide +kernel
theorem dX11_rule_0 : decode cX11_rule 0 = .ok (.iload_n 1, 1) := by decide +kernel
theorem dX11_rule_1 : decode cX11_rule 1 = .ok (.invokestatic 150, 3) := by decide +kernel
theorem dX11_rule_4 : decode cX11_rule 4 = .ok (.ifCond .eq 26, 3) := by decide +kernel
theorem dX11_rule_7 : decode cX11_rule 7 = .ok (.aload_n 0, 1) := by decide +kernel
theorem dX11_rule_8 : decode cX11_rule 8 = .ok (.getfield 22, 3) := by decide +kernel
theorem dX11_rule_11 : decode cX11_rule 11 = .ok (.invokevirtual 100, 3) := by decide +kernel
theorem dX11_rule_14 : decode cX11_rule 14 = .ok (.bipush 20, 2) := by decide +kernel
theorem dX11_rule_16 : decode cX11_rule 16 = .ok (.if_icmp .ge 14, 3) := by decide +kernel
theorem dX11_rule_19 : decode cX11_rule 19 = .ok (.aload_n 0, 1) := by decide +kernel
theorem dX11_rule_20 : decode cX11_rule 20 = .ok (.getfield 37, 3) := by decide +kernel
theorem dX11_rule_23 : decode cX11_rule 23 = .ok (.invokevirtual 185, 3) := by decide +kernel
theorem dX11_rule_26 : decode cX11_rule 26 = .ok (.iconst (-1), 1) := by decide +kernel
theorem dX11_rule_27 : decode cX11_rule 27 = .ok (.if_icmp .eq 5, 3) := by decide +kernel
theorem dX11_rule_30 : decode cX11_rule 30 = .ok (.iconst (-1), 1) := by decide +kernel
theorem dX11_rule_31 : decode cX11_rule 31 = .ok (.ireturn, 1) := by decide +kernel
theorem dX11_rule_32 : decode cX11_rule 32 = .ok (.aload_n 0, 1) := by decide +kernel
theorem dX11_rule_33 : decode cX11_rule 33 = .ok (.getfield 22, 3) := by decide +kernel
theorem dX11_rule_36 : decode cX11_rule 36 = .ok (.new 188, 3) := by decide +kernel
theorem dX11_rule_39 : decode cX11_rule 39 = .ok (.dup, 1) := by decide +kernel
theorem dX11_rule_40 : decode cX11_rule 40 = .ok (.iload_n 1, 1) := by decide +kernel
theorem dX11_rule_41 : decode cX11_rule 41 = .ok (.aload_n 0, 1) := by decide +kernel
theorem dX11_rule_42 : decode cX11_rule 42 = .ok (.getfield 88, 3) := by decide +kernel
theorem dX11_rule_45 : decode cX11_rule 45 = .ok (.aload_n 0, 1) := by decide +kernel
theorem dX11_rule_46 : decode cX11_rule 46 = .ok (.getfield 37, 3) := by decide +kernel
theorem dX11_rule_49 : decode cX11_rule 49 = .ok (.invokevirtual 190, 3) := by decide +kernel
theorem dX11_rule_52 : decode cX11_rule 52 = .ok (.invokespecial 194, 3) := by decide +kernel
theorem dX11_rule_55 : decode cX11_rule 55 = .ok (.invokevirtual 108, 3) := by decide +kernel
theorem dX11_rule_58 : decode cX11_rule 58 = .ok (.pop, 1) := by decide +kernel
theorem dX11_rule_59 : decode cX11_rule 59 = .ok (.aload_n 0, 1) := by decide +kernel
theorem dX11_rule_60 : decode cX11_rule 60 = .ok (.getfield 37, 3) := by decide +kernel
theorem dX11_rule_63 : decode cX11_rule 63 = .ok (.iconst 0, 1) := by decide +kernel
theorem dX11_rule_64 : decode cX11_rule 64 = .ok (.invokevirtual 182, 3) := by decide +kernel
theorem dX11_rule_67 : decode cX11_rule 67 = .ok (.aload_n 0, 1) := by decide +kernel
theorem dX11_rule_68 : decode cX11_rule 68 = .ok (.getfield 22, 3) := by decide +kernel
theorem dX11_rule_71 : decode cX11_rule 71 = .ok (.invokevirtual 100, 3) := by decide +kernel
theorem dX11_rule_74 : decode cX11_rule 74 = .ok (.iconst 1, 1) := by decide +kernel
theorem dX11_rule_75 : decode cX11_rule 75 = .ok (.isub, 1) := by decide +kernel
theorem dX11_rule_76 : decode cX11_rule 76 = .ok (.ireturn, 1) := by decide +kernel
theorem dX11_ruleInForce_0 : decode cX11_ruleInForce 0 = .ok (.iconst (-1), 1) := by decide +kernel
theorem dX11_ruleInForce_1 : decode cX11_ruleInForce 1 = .ok (.istore_n 3, 1) := by decide +kernel
theorem dX11_ruleInForce_2 : decode cX11_ruleInForce 2 = .ok (.iconst (-1), 1) := by decide +kernel
theorem dX11_ruleInForce_3 : decode cX11_ruleInForce 3 = .ok (.istore 4, 2) := by decide +kernel
theorem dX11_ruleInForce_5 : decode cX11_ruleInForce 5 = .ok (.iconst 0, 1) := by decide +kernel
theorem dX11_ruleInForce_6 : decode cX11_ruleInForce 6 = .ok (.istore 5, 2) := by decide +kernel
theorem dX11_ruleInForce_8 : decode cX11_ruleInForce 8 = .ok (.iload 5, 2) := by decide +kernel
theorem dX11_ruleInForce_10 : decode cX11_ruleInForce 10 = .ok (.aload_n 0, 1) := by decide +kernel
theorem dX11_ruleInForce_11 : decode cX11_ruleInForce 11 = .ok (.getfield 22, 3) := by decide +kernel
theorem dX11_ruleInForce_14 : decode cX11_ruleInForce 14 = .ok (.invokevirtual 100, 3) := by decide +kernel
theorem dX11_ruleInForce_17 : decode cX11_ruleInForce 17 = .ok (.if_icmp .ge 61, 3) := by decide +kernel
theorem dX11_ruleInForce_20 : decode cX11_ruleInForce 20 = .ok (.aload_n 0, 1) := by decide +kernel
theorem dX11_ruleInForce_21 : decode cX11_ruleInForce 21 = .ok (.getfield 22, 3) := by decide +kernel
theorem dX11_ruleInForce_24 : decode cX11_ruleInForce 24 = .ok (.iload 5, 2) := by decide +kernel
theorem dX11_ruleInForce_26 : decode cX11_ruleInForce 26 = .ok (.invokevirtual 126, 3) := by decide +kernel
theorem dX11_ruleInForce_29 : decode cX11_ruleInForce 29 = .ok (.checkcast 188, 3) := by decide +kernel
theorem dX11_ruleInForce_32 : decode cX11_ruleInForce 32 = .ok (.astore 6, 2) := by decide +kernel
theorem dX11_ruleInForce_34 : decode cX11_ruleInForce 34 = .ok (.aload 6, 2) := by decide +kernel
theorem dX11_ruleInForce_36 : decode cX11_ruleInForce 36 = .ok (.getfield 200, 3) := by decide +kernel
theorem dX11_ruleInForce_39 : decode cX11_ruleInForce 39 = .ok (.iload_n 2, 1) := by decide +kernel
theorem dX11_ruleInForce_40 : decode cX11_ruleInForce 40 = .ok (.if_icmp .gt 32, 3) := by decide +kernel
theorem dX11_ruleInForce_43 : decode cX11_ruleInForce 43 = .ok (.aload 6, 2) := by decide +kernel
theorem dX11_ruleInForce_45 : decode cX11_ruleInForce 45 = .ok (.getfield 201, 3) := by decide +kernel
theorem dX11_ruleInForce_48 : decode cX11_ruleInForce 48 = .ok (.iload_n 1, 1) := by decide +kernel
theorem dX11_ruleInForce_49 : decode cX11_ruleInForce 49 = .ok (.if_icmp .gt 23, 3) := by decide +kernel
theorem dX11_ruleInForce_52 : decode cX11_ruleInForce 52 = .ok (.aload 6, 2) := by decide +kernel
theorem dX11_ruleInForce_54 : decode cX11_ruleInForce 54 = .ok (.getfield 201, 3) := by decide +kernel
theorem dX11_ruleInForce_57 : decode cX11_ruleInForce 57 = .ok (.iload 4, 2) := by decide +kernel
theorem dX11_ruleInForce_59 : decode cX11_ruleInForce 59 = .ok (.if_icmp .lt 13, 3) := by decide +kernel
theorem dX11_ruleInForce_62 : decode cX11_ruleInForce 62 = .ok (.iload 5, 2) := by decide +kernel
theorem dX11_ruleInForce_64 : decode cX11_ruleInForce 64 = .ok (.istore_n 3, 1) := by decide +kernel
theorem dX11_ruleInForce_65 : decode cX11_ruleInForce 65 = .ok (.aload 6, 2) := by decide +kernel
theorem dX11_ruleInForce_67 : decode cX11_ruleInForce 67 = .ok (.getfield 201, 3) := by decide +kernel
theorem dX11_ruleInForce_70 : decode cX11_ruleInForce 70 = .ok (.istore 4, 2) := by decide +kernel
theorem dX11_ruleInForce_72 : decode cX11_ruleInForce 72 = .ok (.iinc 5 1, 3) := by decide +kernel
theorem dX11_ruleInForce_75 : decode cX11_ruleInForce 75 = .ok (.goto (-67), 3) := by decide +kernel
theorem dX11_ruleInForce_78 : decode cX11_ruleInForce 78 = .ok (.iload_n 3, 1) := by decide +kernel
theorem dX11_ruleInForce_79 : decode cX11_ruleInForce 79 = .ok (.ireturn, 1) := by decide +kernel
theorem dX11_setPersonLetters_0 : decode cX11_setPersonLetters 0 = .ok (.aload_n 0, 1) := by decide +kernel
theorem dX11_setPersonLetters_1 : decode cX11_setPersonLetters 1 = .ok (.getfield 71, 3) := by decide +kernel
theorem dX11_setPersonLetters_4 : decode cX11_setPersonLetters 4 = .ok (.iconst 0, 1) := by decide +kernel
theorem dX11_setPersonLetters_5 : decode cX11_setPersonLetters 5 = .ok (.invokestatic 216, 3) := by decide +kernel
theorem dX11_setPersonLetters_8 : decode cX11_setPersonLetters 8 = .ok (.aload_n 0, 1) := by decide +kernel
theorem dX11_setPersonLetters_9 : decode cX11_setPersonLetters 9 = .ok (.getfield 71, 3) := by decide +kernel
theorem dX11_setPersonLetters_12 : decode cX11_setPersonLetters 12 = .ok (.iconst 0, 1) := by decide +kernel
theorem dX11_setPersonLetters_13 : decode cX11_setPersonLetters 13 = .ok (.aload_n 1, 1) := by decide +kernel
theorem dX11_setPersonLetters_14 : decode cX11_setPersonLetters 14 = .ok (.getfield 222, 3) := by decide +kernel
theorem dX11_setPersonLetters_17 : decode cX11_setPersonLetters 17 = .ok (.iastore, 1) := by decide +kernel
theorem dX11_setPersonLetters_18 : decode cX11_setPersonLetters 18 = .ok (.aload_n 0, 1) := by decide +kernel
theorem dX11_setPersonLetters_19 : decode cX11_setPersonLetters 19 = .ok (.getfield 71, 3) := by decide +kernel
theorem dX11_setPersonLetters_22 : decode cX11_setPersonLetters 22 = .ok (.iconst 1, 1) := by decide +kernel
theorem dX11_setPersonLetters_23 : decode cX11_setPersonLetters 23 = .ok (.aload_n 1, 1) := by decide +kernel
theorem dX11_setPersonLetters_24 : decode cX11_setPersonLetters 24 = .ok (.getfield 225, 3) := by decide +kernel
theorem dX11_setPersonLetters_27 : decode cX11_setPersonLetters 27 = .ok (.iastore, 1) := by decide +kernel
theorem dX11_setPersonLetters_28 : decode cX11_setPersonLetters 28 = .ok (.aload_n 0, 1) := by decide +kernel
theorem dX11_setPersonLetters_29 : decode cX11_setPersonLetters 29 = .ok (.getfield 71, 3) := by decide +kernel
theorem dX11_setPersonLetters_32 : decode cX11_setPersonLetters 32 = .ok (.iconst 2, 1) := by decide +kernel
theorem dX11_setPersonLetters_33 : decode cX11_setPersonLetters 33 = .ok (.aload_n 1, 1) := by decide +kernel
theorem dX11_setPersonLetters_34 : decode cX11_setPersonLetters 34 = .ok (.getfield 228, 3) := by decide +kernel
theorem dX11_setPersonLetters_37 : decode cX11_setPersonLetters 37 = .ok (.iastore, 1) := by decide +kernel
theorem dX11_setPersonLetters_38 : decode cX11_setPersonLetters 38 = .ok (.return_, 1) := by decide +kernel
theorem dX11_share_0 : decode cX11_share 0 = .ok (.iload_n 2, 1) := by decide +kernel
theorem dX11_share_1 : decode cX11_share 1 = .ok (.ifCond .ne 7, 3) := by decide +kernel
theorem dX11_share_4 : decode cX11_share 4 = .ok (.iconst 0, 1) := by decide +kernel
theorem dX11_share_5 : decode cX11_share 5 = .ok (.goto 8, 3) := by decide +kernel
theorem dX11_share_8 : decode cX11_share 8 = .ok (.iload_n 0, 1) := by decide +kernel
theorem dX11_share_9 : decode cX11_share 9 = .ok (.iload_n 1, 1) := by decide +kernel
theorem dX11_share_10 : decode cX11_share 10 = .ok (.imul, 1) := by decide +kernel
theorem dX11_share_11 : decode cX11_share 11 = .ok (.iload_n 2, 1) := by decide +kernel
theorem dX11_share_12 : decode cX11_share 12 = .ok (.idiv, 1) := by decide +kernel
theorem dX11_share_13 : decode cX11_share 13 = .ok (.ireturn, 1) := by decide +kernel
theorem dX11_shown_0 : decode cX11_shown 0 = .ok (.aload_n 0, 1) := by decide +kernel
theorem dX11_shown_1 : decode cX11_shown 1 = .ok (.iload_n 1, 1) := by decide +kernel
theorem dX11_shown_2 : decode cX11_shown 2 = .ok (.iload 4, 2) := by decide +kernel
theorem dX11_shown_4 : decode cX11_shown 4 = .ok (.invokevirtual 231, 3) := by decide +kernel
theorem dX11_shown_7 : decode cX11_shown 7 = .ok (.ifCond .eq 35, 3) := by decide +kernel
theorem dX11_shown_10 : decode cX11_shown 10 = .ok (.iload_n 2, 1) := by decide +kernel
theorem dX11_shown_11 : decode cX11_shown 11 = .ok (.invokestatic 150, 3) := by decide +kernel
theorem dX11_shown_14 : decode cX11_shown 14 = .ok (.ifCond .eq 28, 3) := by decide +kernel
theorem dX11_shown_17 : decode cX11_shown 17 = .ok (.iload_n 3, 1) := by decide +kernel
theorem dX11_shown_18 : decode cX11_shown 18 = .ok (.invokestatic 235, 3) := by decide +kernel
theorem dX11_shown_21 : decode cX11_shown 21 = .ok (.ifCond .eq 21, 3) := by decide +kernel
theorem dX11_shown_24 : decode cX11_shown 24 = .ok (.iload_n 2, 1) := by decide +kernel
theorem dX11_shown_25 : decode cX11_shown 25 = .ok (.aload_n 0, 1) := by decide +kernel
theorem dX11_shown_26 : decode cX11_shown 26 = .ok (.getfield 16, 3) := by decide +kernel
theorem dX11_shown_29 : decode cX11_shown 29 = .ok (.iload_n 1, 1) := by decide +kernel
theorem dX11_shown_30 : decode cX11_shown 30 = .ok (.invokevirtual 126, 3) := by decide +kernel
theorem dX11_shown_33 : decode cX11_shown 33 = .ok (.checkcast 124, 3) := by decide +kernel
theorem dX11_shown_36 : decode cX11_shown 36 = .ok (.getfield 238, 3) := by decide +kernel
theorem dX11_shown_39 : decode cX11_shown 39 = .ok (.if_icmp .ge 5, 3) := by decide +kernel
theorem dX11_shown_42 : decode cX11_shown 42 = .ok (.iconst (-1), 1) := by decide +kernel
theorem dX11_shown_43 : decode cX11_shown 43 = .ok (.ireturn, 1) := by decide +kernel
theorem dX11_shown_44 : decode cX11_shown 44 = .ok (.aload_n 0, 1) := by decide +kernel
theorem dX11_shown_45 : decode cX11_shown 45 = .ok (.aload_n 0, 1) := by decide +kernel
theorem dX11_shown_46 : decode cX11_shown 46 = .ok (.getfield 16, 3) := by decide +kernel
theorem dX11_shown_49 : decode cX11_shown 49 = .ok (.iload_n 1, 1) := by decide +kernel
theorem dX11_shown_50 : decode cX11_shown 50 = .ok (.invokevirtual 126, 3) := by decide +kernel
theorem dX11_shown_53 : decode cX11_shown 53 = .ok (.checkcast 124, 3) := by decide +kernel
theorem dX11_shown_56 : decode cX11_shown 56 = .ok (.iload_n 2, 1) := by decide +kernel
theorem dX11_shown_57 : decode cX11_shown 57 = .ok (.iload_n 3, 1) := by decide +kernel
theorem dX11_shown_58 : decode cX11_shown 58 = .ok (.aload_n 0, 1) := by decide +kernel
theorem dX11_shown_59 : decode cX11_shown 59 = .ok (.iload_n 2, 1) := by decide +kernel
theorem dX11_shown_60 : decode cX11_shown 60 = .ok (.iload 4, 2) := by decide +kernel
theorem dX11_shown_62 : decode cX11_shown 62 = .ok (.invokevirtual 197, 3) := by decide +kernel
theorem dX11_shown_65 : decode cX11_shown 65 = .ok (.invokevirtual 239, 3) := by decide +kernel
theorem dX11_shown_68 : decode cX11_shown 68 = .ok (.ifCond .eq 7, 3) := by decide +kernel
theorem dX11_shown_71 : decode cX11_shown 71 = .ok (.iconst 1, 1) := by decide +kernel
theorem dX11_shown_72 : decode cX11_shown 72 = .ok (.goto 4, 3) := by decide +kernel
theorem dX11_shown_75 : decode cX11_shown 75 = .ok (.iconst 0, 1) := by decide +kernel
theorem dX11_shown_76 : decode cX11_shown 76 = .ok (.ireturn, 1) := by decide +kernel
theorem dX11_sortsOf_0 : decode cX11_sortsOf 0 = .ok (.iconst 0, 1) := by decide +kernel
theorem dX11_sortsOf_1 : decode cX11_sortsOf 1 = .ok (.istore_n 2, 1) := by decide +kernel
theorem dX11_sortsOf_2 : decode cX11_sortsOf 2 = .ok (.iconst 0, 1) := by decide +kernel
theorem dX11_sortsOf_3 : decode cX11_sortsOf 3 = .ok (.istore_n 3, 1) := by decide +kernel
theorem dX11_sortsOf_4 : decode cX11_sortsOf 4 = .ok (.iload_n 3, 1) := by decide +kernel
theorem dX11_sortsOf_5 : decode cX11_sortsOf 5 = .ok (.aload_n 0, 1) := by decide +kernel
theorem dX11_sortsOf_6 : decode cX11_sortsOf 6 = .ok (.getfield 31, 3) := by decide +kernel
theorem dX11_sortsOf_9 : decode cX11_sortsOf 9 = .ok (.invokevirtual 100, 3) := by decide +kernel
theorem dX11_sortsOf_12 : decode cX11_sortsOf 12 = .ok (.if_icmp .ge 34, 3) := by decide +kernel
theorem dX11_sortsOf_15 : decode cX11_sortsOf 15 = .ok (.iload_n 1, 1) := by decide +kernel
theorem dX11_sortsOf_16 : decode cX11_sortsOf 16 = .ok (.iload_n 3, 1) := by decide +kernel
theorem dX11_sortsOf_17 : decode cX11_sortsOf 17 = .ok (.ishr, 1) := by decide +kernel
theorem dX11_sortsOf_18 : decode cX11_sortsOf 18 = .ok (.iconst 1, 1) := by decide +kernel
theorem dX11_sortsOf_19 : decode cX11_sortsOf 19 = .ok (.iand, 1) := by decide +kernel
theorem dX11_sortsOf_20 : decode cX11_sortsOf 20 = .ok (.ifCond .eq 20, 3) := by decide +kernel
theorem dX11_sortsOf_23 : decode cX11_sortsOf 23 = .ok (.iload_n 2, 1) := by decide +kernel
theorem dX11_sortsOf_24 : decode cX11_sortsOf 24 = .ok (.aload_n 0, 1) := by decide +kernel
theorem dX11_sortsOf_25 : decode cX11_sortsOf 25 = .ok (.getfield 31, 3) := by decide +kernel
theorem dX11_sortsOf_28 : decode cX11_sortsOf 28 = .ok (.iload_n 3, 1) := by decide +kernel
theorem dX11_sortsOf_29 : decode cX11_sortsOf 29 = .ok (.invokevirtual 126, 3) := by decide +kernel
theorem dX11_sortsOf_32 : decode cX11_sortsOf 32 = .ok (.checkcast 402, 3) := by decide +kernel
theorem dX11_sortsOf_35 : decode cX11_sortsOf 35 = .ok (.getfield 421, 3) := by decide +kernel
theorem dX11_sortsOf_38 : decode cX11_sortsOf 38 = .ok (.ior, 1) := by decide +kernel
theorem dX11_sortsOf_39 : decode cX11_sortsOf 39 = .ok (.istore_n 2, 1) := by decide +kernel
theorem dX11_sortsOf_40 : decode cX11_sortsOf 40 = .ok (.iinc 3 1, 3) := by decide +kernel
theorem dX11_sortsOf_43 : decode cX11_sortsOf 43 = .ok (.goto (-39), 3) := by decide +kernel
theorem dX11_sortsOf_46 : decode cX11_sortsOf 46 = .ok (.iload_n 2, 1) := by decide +kernel
theorem dX11_sortsOf_47 : decode cX11_sortsOf 47 = .ok (.invokestatic 424, 3) := by decide +kernel
theorem dX11_sortsOf_50 : decode cX11_sortsOf 50 = .ok (.ireturn, 1) := by decide +kernel
theorem dX11_span_0 : decode cX11_span 0 = .ok (.aload_n 0, 1) := by decide +kernel
theorem dX11_span_1 : decode cX11_span 1 = .ok (.invokevirtual 342, 3) := by decide +kernel
theorem dX11_span_4 : decode cX11_span 4 = .ok (.istore 5, 2) := by decide +kernel
theorem dX11_span_6 : decode cX11_span 6 = .ok (.iload_n 1, 1) := by decide +kernel
theorem dX11_span_7 : decode cX11_span 7 = .ok (.invokestatic 115, 3) := by decide +kernel
theorem dX11_span_10 : decode cX11_span 10 = .ok (.ifCond .eq 33, 3) := by decide +kernel
theorem dX11_span_13 : decode cX11_span 13 = .ok (.iload_n 2, 1) := by decide +kernel
theorem dX11_span_14 : decode cX11_span 14 = .ok (.invokestatic 150, 3) := by decide +kernel
theorem dX11_span_17 : decode cX11_span 17 = .ok (.ifCond .eq 26, 3) := by decide +kernel
theorem dX11_span_20 : decode cX11_span 20 = .ok (.aload_n 0, 1) := by decide +kernel
theorem dX11_span_21 : decode cX11_span 21 = .ok (.iload_n 3, 1) := by decide +kernel
theorem dX11_span_22 : decode cX11_span 22 = .ok (.invokevirtual 158, 3) := by decide +kernel
theorem dX11_span_25 : decode cX11_span 25 = .ok (.ifCond .eq 18, 3) := by decide +kernel
theorem dX11_span_28 : decode cX11_span 28 = .ok (.iload 4, 2) := by decide +kernel
theorem dX11_span_30 : decode cX11_span 30 = .ok (.iconst 0, 1) := by decide +kernel
theorem dX11_span_31 : decode cX11_span 31 = .ok (.iconst 2, 1) := by decide +kernel
theorem dX11_span_32 : decode cX11_span 32 = .ok (.invokestatic 92, 3) := by decide +kernel
theorem dX11_span_35 : decode cX11_span 35 = .ok (.ifCond .eq 8, 3) := by decide +kernel
theorem dX11_span_38 : decode cX11_span 38 = .ok (.iload 5, 2) := by decide +kernel
theorem dX11_span_40 : decode cX11_span 40 = .ok (.ifCond .ne 7, 3) := by decide +kernel
theorem dX11_span_43 : decode cX11_span 43 = .ok (.ldc_w 335, 3) := by decide +kernel
theorem dX11_span_46 : decode cX11_span 46 = .ok (.ireturn, 1) := by decide +kernel
theorem dX11_span_47 : decode cX11_span 47 = .ok (.iconst 0, 1) := by decide +kernel
theorem dX11_span_48 : decode cX11_span 48 = .ok (.istore 6, 2) := by decide +kernel
theorem dX11_span_50 : decode cX11_span 50 = .ok (.iconst 0, 1) := by decide +kernel
theorem dX11_span_51 : decode cX11_span 51 = .ok (.istore 7, 2) := by decide +kernel
theorem dX11_span_53 : decode cX11_span 53 = .ok (.iconst 0, 1) := by decide +kernel
theorem dX11_span_54 : decode cX11_span 54 = .ok (.istore 8, 2) := by decide +kernel
theorem dX11_span_56 : decode cX11_span 56 = .ok (.iload 8, 2) := by decide +kernel
theorem dX11_span_58 : decode cX11_span 58 = .ok (.bipush 8, 2) := by decide +kernel
theorem dX11_span_60 : decode cX11_span 60 = .ok (.if_icmp .ge 83, 3) := by decide +kernel
theorem dX11_span_63 : decode cX11_span 63 = .ok (.iconst 0, 1) := by decide +kernel
theorem dX11_span_64 : decode cX11_span 64 = .ok (.istore 9, 2) := by decide +kernel
theorem dX11_span_66 : decode cX11_span 66 = .ok (.iload 9, 2) := by decide +kernel
theorem dX11_span_68 : decode cX11_span 68 = .ok (.iconst 4, 1) := by decide +kernel
theorem dX11_span_69 : decode cX11_span 69 = .ok (.if_icmp .ge 68, 3) := by decide +kernel
theorem dX11_span_72 : decode cX11_span 72 = .ok (.aload_n 0, 1) := by decide +kernel
theorem dX11_span_73 : decode cX11_span 73 = .ok (.getfield 57, 3) := by decide +kernel
theorem dX11_span_76 : decode cX11_span 76 = .ok (.iload 8, 2) := by decide +kernel
theorem dX11_span_78 : decode cX11_span 78 = .ok (.aaload, 1) := by decide +kernel
theorem dX11_span_79 : decode cX11_span 79 = .ok (.iload 9, 2) := by decide +kernel
theorem dX11_span_81 : decode cX11_span 81 = .ok (.iaload, 1) := by decide +kernel
theorem dX11_span_82 : decode cX11_span 82 = .ok (.istore 10, 2) := by decide +kernel
theorem dX11_span_84 : decode cX11_span 84 = .ok (.iload 10, 2) := by decide +kernel
theorem dX11_span_86 : decode cX11_span 86 = .ok (.ifCond .ne 7, 3) := by decide +kernel
theorem dX11_span_89 : decode cX11_span 89 = .ok (.iconst 0, 1) := by decide +kernel
theorem dX11_span_90 : decode cX11_span 90 = .ok (.goto 14, 3) := by decide +kernel
theorem dX11_span_93 : decode cX11_span 93 = .ok (.aload_n 0, 1) := by decide +kernel
theorem dX11_span_94 : decode cX11_span 94 = .ok (.iload 8, 2) := by decide +kernel
theorem dX11_span_96 : decode cX11_span 96 = .ok (.iload 9, 2) := by decide +kernel
theorem dX11_span_98 : decode cX11_span 98 = .ok (.iload_n 1, 1) := by decide +kernel
theorem dX11_span_99 : decode cX11_span 99 = .ok (.iload_n 2, 1) := by decide +kernel
theorem dX11_span_100 : decode cX11_span 100 = .ok (.iload_n 3, 1) := by decide +kernel
theorem dX11_span_101 : decode cX11_span 101 = .ok (.invokevirtual 345, 3) := by decide +kernel
theorem dX11_span_104 : decode cX11_span 104 = .ok (.istore 11, 2) := by decide +kernel
theorem dX11_span_106 : decode cX11_span 106 = .ok (.iload 11, 2) := by decide +kernel
theorem dX11_span_108 : decode cX11_span 108 = .ok (.ldc_w 335, 3) := by decide +kernel
theorem dX11_span_111 : decode cX11_span 111 = .ok (.if_icmp .eq 20, 3) := by decide +kernel
theorem dX11_span_114 : decode cX11_span 114 = .ok (.iload 6, 2) := by decide +kernel
theorem dX11_span_116 : decode cX11_span 116 = .ok (.iload 10, 2) := by decide +kernel
theorem dX11_span_118 : decode cX11_span 118 = .ok (.iload 11, 2) := by decide +kernel
theorem dX11_span_120 : decode cX11_span 120 = .ok (.imul, 1) := by decide +kernel
theorem dX11_span_121 : decode cX11_span 121 = .ok (.iadd, 1) := by decide +kernel
theorem dX11_span_122 : decode cX11_span 122 = .ok (.istore 6, 2) := by decide +kernel
theorem dX11_span_124 : decode cX11_span 124 = .ok (.iload 7, 2) := by decide +kernel
theorem dX11_span_126 : decode cX11_span 126 = .ok (.iload 10, 2) := by decide +kernel
theorem dX11_span_128 : decode cX11_span 128 = .ok (.iadd, 1) := by decide +kernel
theorem dX11_span_129 : decode cX11_span 129 = .ok (.istore 7, 2) := by decide +kernel
theorem dX11_span_131 : decode cX11_span 131 = .ok (.iinc 9 1, 3) := by decide +kernel
theorem dX11_span_134 : decode cX11_span 134 = .ok (.goto (-68), 3) := by decide +kernel
theorem dX11_span_137 : decode cX11_span 137 = .ok (.iinc 8 1, 3) := by decide +kernel
theorem dX11_span_140 : decode cX11_span 140 = .ok (.goto (-84), 3) := by decide +kernel
theorem dX11_span_143 : decode cX11_span 143 = .ok (.iload 4, 2) := by decide +kernel
theorem dX11_span_145 : decode cX11_span 145 = .ok (.iconst 2, 1) := by decide +kernel
theorem dX11_span_146 : decode cX11_span 146 = .ok (.if_icmp .ne 14, 3) := by decide +kernel
theorem dX11_span_149 : decode cX11_span 149 = .ok (.iload 7, 2) := by decide +kernel
theorem dX11_span_151 : decode cX11_span 151 = .ok (.sipush 1000, 3) := by decide +kernel
theorem dX11_span_154 : decode cX11_span 154 = .ok (.iload 5, 2) := by decide +kernel
theorem dX11_span_156 : decode cX11_span 156 = .ok (.invokestatic 336, 3) := by decide +kernel
theorem dX11_span_159 : decode cX11_span 159 = .ok (.ireturn, 1) := by decide +kernel
theorem dX11_span_160 : decode cX11_span 160 = .ok (.iload 5, 2) := by decide +kernel
theorem dX11_span_162 : decode cX11_span 162 = .ok (.iload 7, 2) := by decide +kernel
theorem dX11_span_164 : decode cX11_span 164 = .ok (.isub, 1) := by decide +kernel
theorem dX11_span_165 : decode cX11_span 165 = .ok (.sipush 900, 3) := by decide +kernel
theorem dX11_span_168 : decode cX11_span 168 = .ok (.imul, 1) := by decide +kernel
theorem dX11_span_169 : decode cX11_span 169 = .ok (.istore 8, 2) := by decide +kernel
theorem dX11_span_171 : decode cX11_span 171 = .ok (.iload 4, 2) := by decide +kernel
theorem dX11_span_173 : decode cX11_span 173 = .ok (.ifCond .ne 11, 3) := by decide +kernel
theorem dX11_span_176 : decode cX11_span 176 = .ok (.iload 6, 2) := by decide +kernel
theorem dX11_span_178 : decode cX11_span 178 = .ok (.iload 8, 2) := by decide +kernel
theorem dX11_span_180 : decode cX11_span 180 = .ok (.isub, 1) := by decide +kernel
theorem dX11_span_181 : decode cX11_span 181 = .ok (.goto 8, 3) := by decide +kernel
theorem dX11_span_184 : decode cX11_span 184 = .ok (.iload 6, 2) := by decide +kernel
theorem dX11_span_186 : decode cX11_span 186 = .ok (.iload 8, 2) := by decide +kernel
theorem dX11_span_188 : decode cX11_span 188 = .ok (.iadd, 1) := by decide +kernel
theorem dX11_span_189 : decode cX11_span 189 = .ok (.iconst 1, 1) := by decide +kernel
theorem dX11_span_190 : decode cX11_span 190 = .ok (.iload 5, 2) := by decide +kernel
theorem dX11_span_192 : decode cX11_span 192 = .ok (.invokestatic 336, 3) := by decide +kernel
theorem dX11_span_195 : decode cX11_span 195 = .ok (.ireturn, 1) := by decide +kernel
theorem dX11_stop_0 : decode cX11_stop 0 = .ok (.aload_n 0, 1) := by decide +kernel
theorem dX11_stop_1 : decode cX11_stop 1 = .ok (.iload_n 1, 1) := by decide +kernel
theorem dX11_stop_2 : decode cX11_stop 2 = .ok (.invokevirtual 112, 3) := by decide +kernel
theorem dX11_stop_5 : decode cX11_stop 5 = .ok (.ifCond .eq 22, 3) := by decide +kernel
theorem dX11_stop_8 : decode cX11_stop 8 = .ok (.iload_n 2, 1) := by decide +kernel
theorem dX11_stop_9 : decode cX11_stop 9 = .ok (.invokestatic 150, 3) := by decide +kernel
theorem dX11_stop_12 : decode cX11_stop 12 = .ok (.ifCond .eq 15, 3) := by decide +kernel
theorem dX11_stop_15 : decode cX11_stop 15 = .ok (.aload_n 0, 1) := by decide +kernel
theorem dX11_stop_16 : decode cX11_stop 16 = .ok (.getfield 19, 3) := by decide +kernel
theorem dX11_stop_19 : decode cX11_stop 19 = .ok (.invokevirtual 100, 3) := by decide +kernel
theorem dX11_stop_22 : decode cX11_stop 22 = .ok (.bipush 60, 2) := by decide +kernel
theorem dX11_stop_24 : decode cX11_stop 24 = .ok (.if_icmp .lt 5, 3) := by decide +kernel
theorem dX11_stop_27 : decode cX11_stop 27 = .ok (.iconst 0, 1) := by decide +kernel
theorem dX11_stop_28 : decode cX11_stop 28 = .ok (.ireturn, 1) := by decide +kernel
theorem dX11_stop_29 : decode cX11_stop 29 = .ok (.aload_n 0, 1) := by decide +kernel
theorem dX11_stop_30 : decode cX11_stop 30 = .ok (.getfield 19, 3) := by decide +kernel
theorem dX11_stop_33 : decode cX11_stop 33 = .ok (.new 153, 3) := by decide +kernel
theorem dX11_stop_36 : decode cX11_stop 36 = .ok (.dup, 1) := by decide +kernel
theorem dX11_stop_37 : decode cX11_stop 37 = .ok (.iload_n 1, 1) := by decide +kernel
theorem dX11_stop_38 : decode cX11_stop 38 = .ok (.iload_n 2, 1) := by decide +kernel
theorem dX11_stop_39 : decode cX11_stop 39 = .ok (.aload_n 0, 1) := by decide +kernel
theorem dX11_stop_40 : decode cX11_stop 40 = .ok (.getfield 88, 3) := by decide +kernel
theorem dX11_stop_43 : decode cX11_stop 43 = .ok (.invokespecial 155, 3) := by decide +kernel
theorem dX11_stop_46 : decode cX11_stop 46 = .ok (.invokevirtual 108, 3) := by decide +kernel
theorem dX11_stop_49 : decode cX11_stop 49 = .ok (.pop, 1) := by decide +kernel
theorem dX11_stop_50 : decode cX11_stop 50 = .ok (.iconst 1, 1) := by decide +kernel
theorem dX11_stop_51 : decode cX11_stop 51 = .ok (.ireturn, 1) := by decide +kernel
theorem dX11_stopDayOf_0 : decode cX11_stopDayOf 0 = .ok (.aload_n 0, 1) := by decide +kernel
theorem dX11_stopDayOf_1 : decode cX11_stopDayOf 1 = .ok (.getfield 19, 3) := by decide +kernel
theorem dX11_stopDayOf_4 : decode cX11_stopDayOf 4 = .ok (.invokevirtual 100, 3) := by decide +kernel
theorem dX11_stopDayOf_7 : decode cX11_stopDayOf 7 = .ok (.iconst 1, 1) := by decide +kernel
theorem dX11_stopDayOf_8 : decode cX11_stopDayOf 8 = .ok (.isub, 1) := by decide +kernel
theorem dX11_stopDayOf_9 : decode cX11_stopDayOf 9 = .ok (.istore_n 3, 1) := by decide +kernel
theorem dX11_stopDayOf_10 : decode cX11_stopDayOf 10 = .ok (.iload_n 3, 1) := by decide +kernel
theorem dX11_stopDayOf_11 : decode cX11_stopDayOf 11 = .ok (.ifCond .lt 46, 3) := by decide +kernel
theorem dX11_stopDayOf_14 : decode cX11_stopDayOf 14 = .ok (.aload_n 0, 1) := by decide +kernel
theorem dX11_stopDayOf_15 : decode cX11_stopDayOf 15 = .ok (.getfield 19, 3) := by decide +kernel
theorem dX11_stopDayOf_18 : decode cX11_stopDayOf 18 = .ok (.iload_n 3, 1) := by decide +kernel
theorem dX11_stopDayOf_19 : decode cX11_stopDayOf 19 = .ok (.invokevirtual 126, 3) := by decide +kernel
theorem dX11_stopDayOf_22 : decode cX11_stopDayOf 22 = .ok (.checkcast 153, 3) := by decide +kernel
theorem dX11_stopDayOf_25 : decode cX11_stopDayOf 25 = .ok (.astore 4, 2) := by decide +kernel
theorem dX11_stopDayOf_27 : decode cX11_stopDayOf 27 = .ok (.aload 4, 2) := by decide +kernel
theorem dX11_stopDayOf_29 : decode cX11_stopDayOf 29 = .ok (.getfield 165, 3) := by decide +kernel
theorem dX11_stopDayOf_32 : decode cX11_stopDayOf 32 = .ok (.iload_n 1, 1) := by decide +kernel
theorem dX11_stopDayOf_33 : decode cX11_stopDayOf 33 = .ok (.if_icmp .ne 18, 3) := by decide +kernel
theorem dX11_stopDayOf_36 : decode cX11_stopDayOf 36 = .ok (.aload 4, 2) := by decide +kernel
theorem dX11_stopDayOf_38 : decode cX11_stopDayOf 38 = .ok (.getfield 168, 3) := by decide +kernel
theorem dX11_stopDayOf_41 : decode cX11_stopDayOf 41 = .ok (.iload_n 2, 1) := by decide +kernel
theorem dX11_stopDayOf_42 : decode cX11_stopDayOf 42 = .ok (.if_icmp .gt 9, 3) := by decide +kernel
theorem dX11_stopDayOf_45 : decode cX11_stopDayOf 45 = .ok (.aload 4, 2) := by decide +kernel
theorem dX11_stopDayOf_47 : decode cX11_stopDayOf 47 = .ok (.getfield 171, 3) := by decide +kernel
theorem dX11_stopDayOf_50 : decode cX11_stopDayOf 50 = .ok (.ireturn, 1) := by decide +kernel
theorem dX11_stopDayOf_51 : decode cX11_stopDayOf 51 = .ok (.iinc 3 (-1), 3) := by decide +kernel
theorem dX11_stopDayOf_54 : decode cX11_stopDayOf 54 = .ok (.goto (-44), 3) := by decide +kernel
theorem dX11_stopDayOf_57 : decode cX11_stopDayOf 57 = .ok (.iconst (-1), 1) := by decide +kernel
theorem dX11_stopDayOf_58 : decode cX11_stopDayOf 58 = .ok (.ireturn, 1) := by decide +kernel
theorem dX11_stopped_0 : decode cX11_stopped 0 = .ok (.aload_n 0, 1) := by decide +kernel
theorem dX11_stopped_1 : decode cX11_stopped 1 = .ok (.iload_n 1, 1) := by decide +kernel
theorem dX11_stopped_2 : decode cX11_stopped 2 = .ok (.invokevirtual 112, 3) := by decide +kernel
theorem dX11_stopped_5 : decode cX11_stopped 5 = .ok (.ifCond .eq 11, 3) := by decide +kernel
theorem dX11_stopped_8 : decode cX11_stopped 8 = .ok (.aload_n 0, 1) := by decide +kernel
theorem dX11_stopped_9 : decode cX11_stopped 9 = .ok (.iload_n 2, 1) := by decide +kernel
theorem dX11_stopped_10 : decode cX11_stopped 10 = .ok (.invokevirtual 158, 3) := by decide +kernel
theorem dX11_stopped_13 : decode cX11_stopped 13 = .ok (.ifCond .ne 5, 3) := by decide +kernel
theorem dX11_stopped_16 : decode cX11_stopped 16 = .ok (.iconst (-1), 1) := by decide +kernel
theorem dX11_stopped_17 : decode cX11_stopped 17 = .ok (.ireturn, 1) := by decide +kernel
theorem dX11_stopped_18 : decode cX11_stopped 18 = .ok (.aload_n 0, 1) := by decide +kernel
theorem dX11_stopped_19 : decode cX11_stopped 19 = .ok (.iload_n 1, 1) := by decide +kernel
theorem dX11_stopped_20 : decode cX11_stopped 20 = .ok (.iload_n 2, 1) := by decide +kernel
theorem dX11_stopped_21 : decode cX11_stopped 21 = .ok (.invokevirtual 161, 3) := by decide +kernel
theorem dX11_stopped_24 : decode cX11_stopped 24 = .ok (.ireturn, 1) := by decide +kernel
theorem dX11_strengthOf_0 : decode cX11_strengthOf 0 = .ok (.aload_n 0, 1) := by decide +kernel
theorem dX11_strengthOf_1 : decode cX11_strengthOf 1 = .ok (.iload_n 1, 1) := by decide +kernel
theorem dX11_strengthOf_2 : decode cX11_strengthOf 2 = .ok (.invokevirtual 136, 3) := by decide +kernel
theorem dX11_strengthOf_5 : decode cX11_strengthOf 5 = .ok (.ifCond .eq 23, 3) := by decide +kernel
theorem dX11_strengthOf_8 : decode cX11_strengthOf 8 = .ok (.aload_n 0, 1) := by decide +kernel
theorem dX11_strengthOf_9 : decode cX11_strengthOf 9 = .ok (.getfield 16, 3) := by decide +kernel
theorem dX11_strengthOf_12 : decode cX11_strengthOf 12 = .ok (.iload_n 1, 1) := by decide +kernel
theorem dX11_strengthOf_13 : decode cX11_strengthOf 13 = .ok (.invokevirtual 126, 3) := by decide +kernel
theorem dX11_strengthOf_16 : decode cX11_strengthOf 16 = .ok (.checkcast 124, 3) := by decide +kernel
theorem dX11_strengthOf_19 : decode cX11_strengthOf 19 = .ok (.getfield 250, 3) := by decide +kernel
theorem dX11_strengthOf_22 : decode cX11_strengthOf 22 = .ok (.invokestatic 285, 3) := by decide +kernel
theorem dX11_strengthOf_25 : decode cX11_strengthOf 25 = .ok (.goto 4, 3) := by decide +kernel
theorem dX11_strengthOf_28 : decode cX11_strengthOf 28 = .ok (.iconst 0, 1) := by decide +kernel
theorem dX11_strengthOf_29 : decode cX11_strengthOf 29 = .ok (.ireturn, 1) := by decide +kernel
theorem dX11_table_0 : decode cX11_table 0 = .ok (.iload_n 1, 1) := by decide +kernel
theorem dX11_table_1 : decode cX11_table 1 = .ok (.iconst (-1), 1) := by decide +kernel
theorem dX11_table_2 : decode cX11_table 2 = .ok (.if_icmp .ne 11, 3) := by decide +kernel
theorem dX11_table_5 : decode cX11_table 5 = .ok (.aload_n 0, 1) := by decide +kernel
theorem dX11_table_6 : decode cX11_table 6 = .ok (.getfield 44, 3) := by decide +kernel
theorem dX11_table_9 : decode cX11_table 9 = .ok (.invokevirtual 379, 3) := by decide +kernel
theorem dX11_table_12 : decode cX11_table 12 = .ok (.ireturn, 1) := by decide +kernel
theorem dX11_table_13 : decode cX11_table 13 = .ok (.iload_n 1, 1) := by decide +kernel
theorem dX11_table_14 : decode cX11_table 14 = .ok (.iconst 0, 1) := by decide +kernel
theorem dX11_table_15 : decode cX11_table 15 = .ok (.aload_n 0, 1) := by decide +kernel
theorem dX11_table_16 : decode cX11_table 16 = .ok (.getfield 44, 3) := by decide +kernel
theorem dX11_table_19 : decode cX11_table 19 = .ok (.invokevirtual 382, 3) := by decide +kernel
theorem dX11_table_22 : decode cX11_table 22 = .ok (.iconst 1, 1) := by decide +kernel
theorem dX11_table_23 : decode cX11_table 23 = .ok (.isub, 1) := by decide +kernel
theorem dX11_table_24 : decode cX11_table 24 = .ok (.invokestatic 92, 3) := by decide +kernel
theorem dX11_table_27 : decode cX11_table 27 = .ok (.ifCond .eq 14, 3) := by decide +kernel
theorem dX11_table_30 : decode cX11_table 30 = .ok (.aload_n 0, 1) := by decide +kernel
theorem dX11_table_31 : decode cX11_table 31 = .ok (.getfield 44, 3) := by decide +kernel
theorem dX11_table_34 : decode cX11_table 34 = .ok (.iload_n 1, 1) := by decide +kernel
theorem dX11_table_35 : decode cX11_table 35 = .ok (.invokevirtual 385, 3) := by decide +kernel
theorem dX11_table_38 : decode cX11_table 38 = .ok (.goto 5, 3) := by decide +kernel
theorem dX11_table_41 : decode cX11_table 41 = .ok (.bipush (-2), 2) := by decide +kernel
theorem dX11_table_43 : decode cX11_table 43 = .ok (.ireturn, 1) := by decide +kernel
theorem dX11_told_0 : decode cX11_told 0 = .ok (.aload_n 0, 1) := by decide +kernel
theorem dX11_told_1 : decode cX11_told 1 = .ok (.iload_n 1, 1) := by decide +kernel
theorem dX11_told_2 : decode cX11_told 2 = .ok (.invokevirtual 136, 3) := by decide +kernel
theorem dX11_told_5 : decode cX11_told 5 = .ok (.ifCond .eq 13, 3) := by decide +kernel
theorem dX11_told_8 : decode cX11_told 8 = .ok (.iload_n 2, 1) := by decide +kernel
theorem dX11_told_9 : decode cX11_told 9 = .ok (.iconst 0, 1) := by decide +kernel
theorem dX11_told_10 : decode cX11_told 10 = .ok (.bipush 6, 2) := by decide +kernel
theorem dX11_told_12 : decode cX11_told 12 = .ok (.invokestatic 92, 3) := by decide +kernel
theorem dX11_told_15 : decode cX11_told 15 = .ok (.ifCond .ne 13, 3) := by decide +kernel
theorem dX11_told_18 : decode cX11_told 18 = .ok (.new 139, 3) := by decide +kernel
theorem dX11_told_21 : decode cX11_told 21 = .ok (.dup, 1) := by decide +kernel
theorem dX11_told_22 : decode cX11_told 22 = .ok (.ldc 141, 2) := by decide +kernel
theorem dX11_told_24 : decode cX11_told 24 = .ok (.invokespecial 143, 3) := by decide +kernel
theorem dX11_told_27 : decode cX11_told 27 = .ok (.athrow, 1) := by decide +kernel
theorem dX11_told_28 : decode cX11_told 28 = .ok (.aload_n 0, 1) := by decide +kernel
theorem dX11_told_29 : decode cX11_told 29 = .ok (.getfield 16, 3) := by decide +kernel
theorem dX11_told_32 : decode cX11_told 32 = .ok (.iload_n 1, 1) := by decide +kernel
theorem dX11_told_33 : decode cX11_told 33 = .ok (.invokevirtual 126, 3) := by decide +kernel
theorem dX11_told_36 : decode cX11_told 36 = .ok (.checkcast 124, 3) := by decide +kernel
theorem dX11_told_39 : decode cX11_told 39 = .ok (.iload_n 2, 1) := by decide +kernel
theorem dX11_told_40 : decode cX11_told 40 = .ok (.invokevirtual 146, 3) := by decide +kernel
theorem dX11_told_43 : decode cX11_told 43 = .ok (.ireturn, 1) := by decide +kernel
theorem dX11_truth_0 : decode cX11_truth 0 = .ok (.aload_n 0, 1) := by decide +kernel
theorem dX11_truth_1 : decode cX11_truth 1 = .ok (.iload_n 1, 1) := by decide +kernel
theorem dX11_truth_2 : decode cX11_truth 2 = .ok (.iload_n 2, 1) := by decide +kernel
theorem dX11_truth_3 : decode cX11_truth 3 = .ok (.invokevirtual 231, 3) := by decide +kernel
theorem dX11_truth_6 : decode cX11_truth 6 = .ok (.ifCond .ne 5, 3) := by decide +kernel
theorem dX11_truth_9 : decode cX11_truth 9 = .ok (.iconst (-1), 1) := by decide +kernel
theorem dX11_truth_10 : decode cX11_truth 10 = .ok (.ireturn, 1) := by decide +kernel
theorem dX11_truth_11 : decode cX11_truth 11 = .ok (.aload_n 0, 1) := by decide +kernel
theorem dX11_truth_12 : decode cX11_truth 12 = .ok (.getfield 16, 3) := by decide +kernel
theorem dX11_truth_15 : decode cX11_truth 15 = .ok (.iload_n 1, 1) := by decide +kernel
theorem dX11_truth_16 : decode cX11_truth 16 = .ok (.invokevirtual 126, 3) := by decide +kernel
theorem dX11_truth_19 : decode cX11_truth 19 = .ok (.checkcast 124, 3) := by decide +kernel
theorem dX11_truth_22 : decode cX11_truth 22 = .ok (.astore_n 3, 1) := by decide +kernel
theorem dX11_truth_23 : decode cX11_truth 23 = .ok (.aload_n 3, 1) := by decide +kernel
theorem dX11_truth_24 : decode cX11_truth 24 = .ok (.getfield 243, 3) := by decide +kernel
theorem dX11_truth_27 : decode cX11_truth 27 = .ok (.getfield 225, 3) := by decide +kernel
theorem dX11_truth_30 : decode cX11_truth 30 = .ok (.istore 4, 2) := by decide +kernel
theorem dX11_truth_32 : decode cX11_truth 32 = .ok (.aload_n 0, 1) := by decide +kernel
theorem dX11_truth_33 : decode cX11_truth 33 = .ok (.getfield 25, 3) := by decide +kernel
theorem dX11_truth_36 : decode cX11_truth 36 = .ok (.invokevirtual 100, 3) := by decide +kernel
theorem dX11_truth_39 : decode cX11_truth 39 = .ok (.iconst 1, 1) := by decide +kernel
theorem dX11_truth_40 : decode cX11_truth 40 = .ok (.isub, 1) := by decide +kernel
theorem dX11_truth_41 : decode cX11_truth 41 = .ok (.istore 5, 2) := by decide +kernel
theorem dX11_truth_43 : decode cX11_truth 43 = .ok (.iload 5, 2) := by decide +kernel
theorem dX11_truth_45 : decode cX11_truth 45 = .ok (.ifCond .lt 64, 3) := by decide +kernel
theorem dX11_truth_48 : decode cX11_truth 48 = .ok (.aload_n 0, 1) := by decide +kernel
theorem dX11_truth_49 : decode cX11_truth 49 = .ok (.getfield 25, 3) := by decide +kernel
theorem dX11_truth_52 : decode cX11_truth 52 = .ok (.iload 5, 2) := by decide +kernel
theorem dX11_truth_54 : decode cX11_truth 54 = .ok (.invokevirtual 126, 3) := by decide +kernel
theorem dX11_truth_57 : decode cX11_truth 57 = .ok (.checkcast 288, 3) := by decide +kernel
theorem dX11_truth_60 : decode cX11_truth 60 = .ok (.astore 6, 2) := by decide +kernel
theorem dX11_truth_62 : decode cX11_truth 62 = .ok (.aload 6, 2) := by decide +kernel
theorem dX11_truth_64 : decode cX11_truth 64 = .ok (.getfield 293, 3) := by decide +kernel
theorem dX11_truth_67 : decode cX11_truth 67 = .ok (.iload_n 2, 1) := by decide +kernel
theorem dX11_truth_68 : decode cX11_truth 68 = .ok (.if_icmp .gt 35, 3) := by decide +kernel
theorem dX11_truth_71 : decode cX11_truth 71 = .ok (.aload 6, 2) := by decide +kernel
theorem dX11_truth_73 : decode cX11_truth 73 = .ok (.iload 4, 2) := by decide +kernel
theorem dX11_truth_75 : decode cX11_truth 75 = .ok (.aload_n 3, 1) := by decide +kernel
theorem dX11_truth_76 : decode cX11_truth 76 = .ok (.getfield 238, 3) := by decide +kernel
theorem dX11_truth_79 : decode cX11_truth 79 = .ok (.aload_n 3, 1) := by decide +kernel
theorem dX11_truth_80 : decode cX11_truth 80 = .ok (.getfield 247, 3) := by decide +kernel
theorem dX11_truth_83 : decode cX11_truth 83 = .ok (.invokevirtual 294, 3) := by decide +kernel
theorem dX11_truth_86 : decode cX11_truth 86 = .ok (.ifCond .eq 17, 3) := by decide +kernel
theorem dX11_truth_89 : decode cX11_truth 89 = .ok (.aload 6, 2) := by decide +kernel
theorem dX11_truth_91 : decode cX11_truth 91 = .ok (.getfield 297, 3) := by decide +kernel
theorem dX11_truth_94 : decode cX11_truth 94 = .ok (.ifCond .eq 7, 3) := by decide +kernel
theorem dX11_truth_97 : decode cX11_truth 97 = .ok (.iconst 1, 1) := by decide +kernel
theorem dX11_truth_98 : decode cX11_truth 98 = .ok (.goto 4, 3) := by decide +kernel
theorem dX11_truth_101 : decode cX11_truth 101 = .ok (.iconst 0, 1) := by decide +kernel
theorem dX11_truth_102 : decode cX11_truth 102 = .ok (.ireturn, 1) := by decide +kernel
theorem dX11_truth_103 : decode cX11_truth 103 = .ok (.iinc 5 (-1), 3) := by decide +kernel
theorem dX11_truth_106 : decode cX11_truth 106 = .ok (.goto (-63), 3) := by decide +kernel
theorem dX11_truth_109 : decode cX11_truth 109 = .ok (.iconst 2, 1) := by decide +kernel
theorem dX11_truth_110 : decode cX11_truth 110 = .ok (.ireturn, 1) := by decide +kernel
theorem dX11_turn_0 : decode cX11_turn 0 = .ok (.iload_n 1, 1) := by decide +kernel
theorem dX11_turn_1 : decode cX11_turn 1 = .ok (.invokestatic 150, 3) := by decide +kernel
theorem dX11_turn_4 : decode cX11_turn 4 = .ok (.ifCond .eq 33, 3) := by decide +kernel
theorem dX11_turn_7 : decode cX11_turn 7 = .ok (.iload_n 2, 1) := by decide +kernel
theorem dX11_turn_8 : decode cX11_turn 8 = .ok (.invokestatic 150, 3) := by decide +kernel
theorem dX11_turn_11 : decode cX11_turn 11 = .ok (.ifCond .eq 26, 3) := by decide +kernel
theorem dX11_turn_14 : decode cX11_turn 14 = .ok (.iload_n 2, 1) := by decide +kernel
theorem dX11_turn_15 : decode cX11_turn 15 = .ok (.iload_n 1, 1) := by decide +kernel
theorem dX11_turn_16 : decode cX11_turn 16 = .ok (.if_icmp .le 21, 3) := by decide +kernel
theorem dX11_turn_19 : decode cX11_turn 19 = .ok (.aload_n 0, 1) := by decide +kernel
theorem dX11_turn_20 : decode cX11_turn 20 = .ok (.iload_n 3, 1) := by decide +kernel
theorem dX11_turn_21 : decode cX11_turn 21 = .ok (.invokevirtual 158, 3) := by decide +kernel
theorem dX11_turn_24 : decode cX11_turn 24 = .ok (.ifCond .eq 13, 3) := by decide +kernel
theorem dX11_turn_27 : decode cX11_turn 27 = .ok (.iload 4, 2) := by decide +kernel
theorem dX11_turn_29 : decode cX11_turn 29 = .ok (.iconst 0, 1) := by decide +kernel
theorem dX11_turn_30 : decode cX11_turn 30 = .ok (.iconst 1, 1) := by decide +kernel
theorem dX11_turn_31 : decode cX11_turn 31 = .ok (.invokestatic 92, 3) := by decide +kernel
theorem dX11_turn_34 : decode cX11_turn 34 = .ok (.ifCond .ne 5, 3) := by decide +kernel
theorem dX11_turn_37 : decode cX11_turn 37 = .ok (.iconst (-1), 1) := by decide +kernel
theorem dX11_turn_38 : decode cX11_turn 38 = .ok (.ireturn, 1) := by decide +kernel
theorem dX11_turn_39 : decode cX11_turn 39 = .ok (.aload_n 0, 1) := by decide +kernel
theorem dX11_turn_40 : decode cX11_turn 40 = .ok (.getfield 51, 3) := by decide +kernel
theorem dX11_turn_43 : decode cX11_turn 43 = .ok (.invokevirtual 352, 3) := by decide +kernel
theorem dX11_turn_46 : decode cX11_turn 46 = .ok (.iconst 0, 1) := by decide +kernel
theorem dX11_turn_47 : decode cX11_turn 47 = .ok (.istore 5, 2) := by decide +kernel
theorem dX11_turn_49 : decode cX11_turn 49 = .ok (.iload 5, 2) := by decide +kernel
theorem dX11_turn_51 : decode cX11_turn 51 = .ok (.aload_n 0, 1) := by decide +kernel
theorem dX11_turn_52 : decode cX11_turn 52 = .ok (.getfield 16, 3) := by decide +kernel
theorem dX11_turn_55 : decode cX11_turn 55 = .ok (.invokevirtual 100, 3) := by decide +kernel
theorem dX11_turn_58 : decode cX11_turn 58 = .ok (.if_icmp .ge 62, 3) := by decide +kernel
theorem dX11_turn_61 : decode cX11_turn 61 = .ok (.aload_n 0, 1) := by decide +kernel
theorem dX11_turn_62 : decode cX11_turn 62 = .ok (.getfield 16, 3) := by decide +kernel
theorem dX11_turn_65 : decode cX11_turn 65 = .ok (.iload 5, 2) := by decide +kernel
theorem dX11_turn_67 : decode cX11_turn 67 = .ok (.invokevirtual 126, 3) := by decide +kernel
theorem dX11_turn_70 : decode cX11_turn 70 = .ok (.checkcast 124, 3) := by decide +kernel
theorem dX11_turn_73 : decode cX11_turn 73 = .ok (.astore 6, 2) := by decide +kernel
theorem dX11_turn_75 : decode cX11_turn 75 = .ok (.aload 6, 2) := by decide +kernel
theorem dX11_turn_77 : decode cX11_turn 77 = .ok (.getfield 315, 3) := by decide +kernel
theorem dX11_turn_80 : decode cX11_turn 80 = .ok (.iload_n 3, 1) := by decide +kernel
theorem dX11_turn_81 : decode cX11_turn 81 = .ok (.if_icmp .gt 33, 3) := by decide +kernel
theorem dX11_turn_84 : decode cX11_turn 84 = .ok (.aload 6, 2) := by decide +kernel
theorem dX11_turn_86 : decode cX11_turn 86 = .ok (.getfield 238, 3) := by decide +kernel
theorem dX11_turn_89 : decode cX11_turn 89 = .ok (.iload_n 1, 1) := by decide +kernel
theorem dX11_turn_90 : decode cX11_turn 90 = .ok (.iload_n 2, 1) := by decide +kernel
theorem dX11_turn_91 : decode cX11_turn 91 = .ok (.invokestatic 92, 3) := by decide +kernel
theorem dX11_turn_94 : decode cX11_turn 94 = .ok (.ifCond .eq 20, 3) := by decide +kernel
theorem dX11_turn_97 : decode cX11_turn 97 = .ok (.aload_n 0, 1) := by decide +kernel
theorem dX11_turn_98 : decode cX11_turn 98 = .ok (.getfield 51, 3) := by decide +kernel
theorem dX11_turn_101 : decode cX11_turn 101 = .ok (.aload 6, 2) := by decide +kernel
theorem dX11_turn_103 : decode cX11_turn 103 = .ok (.getfield 238, 3) := by decide +kernel
theorem dX11_turn_106 : decode cX11_turn 106 = .ok (.aload 6, 2) := by decide +kernel
theorem dX11_turn_108 : decode cX11_turn 108 = .ok (.getfield 250, 3) := by decide +kernel
theorem dX11_turn_111 : decode cX11_turn 111 = .ok (.invokevirtual 355, 3) := by decide +kernel
theorem dX11_turn_114 : decode cX11_turn 114 = .ok (.iinc 5 1, 3) := by decide +kernel
theorem dX11_turn_117 : decode cX11_turn 117 = .ok (.goto (-68), 3) := by decide +kernel
theorem dX11_turn_120 : decode cX11_turn 120 = .ok (.aload_n 0, 1) := by decide +kernel
theorem dX11_turn_121 : decode cX11_turn 121 = .ok (.getfield 51, 3) := by decide +kernel
theorem dX11_turn_124 : decode cX11_turn 124 = .ok (.invokevirtual 358, 3) := by decide +kernel
theorem dX11_turn_127 : decode cX11_turn 127 = .ok (.istore 5, 2) := by decide +kernel
theorem dX11_turn_129 : decode cX11_turn 129 = .ok (.iload 5, 2) := by decide +kernel
theorem dX11_turn_131 : decode cX11_turn 131 = .ok (.iconst (-1), 1) := by decide +kernel
theorem dX11_turn_132 : decode cX11_turn 132 = .ok (.if_icmp .ne 5, 3) := by decide +kernel
theorem dX11_turn_135 : decode cX11_turn 135 = .ok (.iconst (-1), 1) := by decide +kernel
theorem dX11_turn_136 : decode cX11_turn 136 = .ok (.ireturn, 1) := by decide +kernel
theorem dX11_turn_137 : decode cX11_turn 137 = .ok (.iload 4, 2) := by decide +kernel
theorem dX11_turn_139 : decode cX11_turn 139 = .ok (.ifCond .ne 15, 3) := by decide +kernel
theorem dX11_turn_142 : decode cX11_turn 142 = .ok (.aload_n 0, 1) := by decide +kernel
theorem dX11_turn_143 : decode cX11_turn 143 = .ok (.getfield 51, 3) := by decide +kernel
theorem dX11_turn_146 : decode cX11_turn 146 = .ok (.iload 5, 2) := by decide +kernel
theorem dX11_turn_148 : decode cX11_turn 148 = .ok (.invokevirtual 361, 3) := by decide +kernel
theorem dX11_turn_151 : decode cX11_turn 151 = .ok (.goto 12, 3) := by decide +kernel
theorem dX11_turn_154 : decode cX11_turn 154 = .ok (.aload_n 0, 1) := by decide +kernel
theorem dX11_turn_155 : decode cX11_turn 155 = .ok (.getfield 51, 3) := by decide +kernel
theorem dX11_turn_158 : decode cX11_turn 158 = .ok (.iload 5, 2) := by decide +kernel
theorem dX11_turn_160 : decode cX11_turn 160 = .ok (.invokevirtual 364, 3) := by decide +kernel
theorem dX11_turn_163 : decode cX11_turn 163 = .ok (.ireturn, 1) := by decide +kernel
theorem dX11_want_0 : decode cX11_want 0 = .ok (.iload_n 1, 1) := by decide +kernel
theorem dX11_want_1 : decode cX11_want 1 = .ok (.invokestatic 96, 3) := by decide +kernel
theorem dX11_want_4 : decode cX11_want 4 = .ok (.ifCond .eq 10, 3) := by decide +kernel
theorem dX11_want_7 : decode cX11_want 7 = .ok (.iload_n 2, 1) := by decide +kernel
theorem dX11_want_8 : decode cX11_want 8 = .ok (.invokestatic 370, 3) := by decide +kernel
theorem dX11_want_11 : decode cX11_want 11 = .ok (.ifCond .ne 5, 3) := by decide +kernel
theorem dX11_want_14 : decode cX11_want 14 = .ok (.iconst (-1), 1) := by decide +kernel
theorem dX11_want_15 : decode cX11_want 15 = .ok (.ireturn, 1) := by decide +kernel
theorem dX11_want_16 : decode cX11_want 16 = .ok (.aload_n 0, 1) := by decide +kernel
theorem dX11_want_17 : decode cX11_want 17 = .ok (.getfield 44, 3) := by decide +kernel
theorem dX11_want_20 : decode cX11_want 20 = .ok (.iload_n 1, 1) := by decide +kernel
theorem dX11_want_21 : decode cX11_want 21 = .ok (.iload_n 2, 1) := by decide +kernel
theorem dX11_want_22 : decode cX11_want 22 = .ok (.invokevirtual 376, 3) := by decide +kernel
theorem dX11_want_25 : decode cX11_want 25 = .ok (.ireturn, 1) := by decide +kernel
theorem dX11_watcher_0 : decode cX11_watcher 0 = .ok (.iload_n 1, 1) := by decide +kernel
theorem dX11_watcher_1 : decode cX11_watcher 1 = .ok (.invokestatic 370, 3) := by decide +kernel
theorem dX11_watcher_4 : decode cX11_watcher 4 = .ok (.ifCond .eq 15, 3) := by decide +kernel
theorem dX11_watcher_7 : decode cX11_watcher 7 = .ok (.iload_n 2, 1) := by decide +kernel
theorem dX11_watcher_8 : decode cX11_watcher 8 = .ok (.invokestatic 370, 3) := by decide +kernel
theorem dX11_watcher_11 : decode cX11_watcher 11 = .ok (.ifCond .eq 8, 3) := by decide +kernel
theorem dX11_watcher_14 : decode cX11_watcher 14 = .ok (.iload_n 2, 1) := by decide +kernel
theorem dX11_watcher_15 : decode cX11_watcher 15 = .ok (.iload_n 1, 1) := by decide +kernel
theorem dX11_watcher_16 : decode cX11_watcher 16 = .ok (.if_icmp .ge 5, 3) := by decide +kernel
theorem dX11_watcher_19 : decode cX11_watcher 19 = .ok (.iconst (-1), 1) := by decide +kernel
theorem dX11_watcher_20 : decode cX11_watcher 20 = .ok (.ireturn, 1) := by decide +kernel
theorem dX11_watcher_21 : decode cX11_watcher 21 = .ok (.aload_n 0, 1) := by decide +kernel
theorem dX11_watcher_22 : decode cX11_watcher 22 = .ok (.getfield 44, 3) := by decide +kernel
theorem dX11_watcher_25 : decode cX11_watcher 25 = .ok (.iload_n 1, 1) := by decide +kernel
theorem dX11_watcher_26 : decode cX11_watcher 26 = .ok (.iload_n 2, 1) := by decide +kernel
theorem dX11_watcher_27 : decode cX11_watcher 27 = .ok (.invokevirtual 373, 3) := by decide +kernel
theorem dX11_watcher_30 : decode cX11_watcher 30 = .ok (.ireturn, 1) := by decide +kernel
theorem dX11_way_0 : decode cX11_way 0 = .ok (.aload_n 0, 1) := by decide +kernel
theorem dX11_way_1 : decode cX11_way 1 = .ok (.iload_n 1, 1) := by decide +kernel
theorem dX11_way_2 : decode cX11_way 2 = .ok (.invokevirtual 112, 3) := by decide +kernel
theorem dX11_way_5 : decode cX11_way 5 = .ok (.ifCond .eq 28, 3) := by decide +kernel
theorem dX11_way_8 : decode cX11_way 8 = .ok (.iload_n 2, 1) := by decide +kernel
theorem dX11_way_9 : decode cX11_way 9 = .ok (.invokestatic 133, 3) := by decide +kernel
theorem dX11_way_12 : decode cX11_way 12 = .ok (.ifCond .eq 21, 3) := by decide +kernel
theorem dX11_way_15 : decode cX11_way 15 = .ok (.aload_n 0, 1) := by decide +kernel
theorem dX11_way_16 : decode cX11_way 16 = .ok (.iload_n 3, 1) := by decide +kernel
theorem dX11_way_17 : decode cX11_way 17 = .ok (.invokevirtual 158, 3) := by decide +kernel
theorem dX11_way_20 : decode cX11_way 20 = .ok (.ifCond .eq 13, 3) := by decide +kernel
theorem dX11_way_23 : decode cX11_way 23 = .ok (.iload 4, 2) := by decide +kernel
theorem dX11_way_25 : decode cX11_way 25 = .ok (.iconst 0, 1) := by decide +kernel
theorem dX11_way_26 : decode cX11_way 26 = .ok (.iconst 2, 1) := by decide +kernel
theorem dX11_way_27 : decode cX11_way 27 = .ok (.invokestatic 92, 3) := by decide +kernel
theorem dX11_way_30 : decode cX11_way 30 = .ok (.ifCond .ne 5, 3) := by decide +kernel
theorem dX11_way_33 : decode cX11_way 33 = .ok (.iconst (-1), 1) := by decide +kernel
theorem dX11_way_34 : decode cX11_way 34 = .ok (.ireturn, 1) := by decide +kernel
theorem dX11_way_35 : decode cX11_way 35 = .ok (.aload_n 0, 1) := by decide +kernel
theorem dX11_way_36 : decode cX11_way 36 = .ok (.iload_n 1, 1) := by decide +kernel
theorem dX11_way_37 : decode cX11_way 37 = .ok (.iload_n 2, 1) := by decide +kernel
theorem dX11_way_38 : decode cX11_way 38 = .ok (.iload_n 3, 1) := by decide +kernel
theorem dX11_way_39 : decode cX11_way 39 = .ok (.invokevirtual 301, 3) := by decide +kernel
theorem dX11_way_42 : decode cX11_way 42 = .ok (.astore 5, 2) := by decide +kernel
theorem dX11_way_44 : decode cX11_way 44 = .ok (.iload_n 1, 1) := by decide +kernel
theorem dX11_way_45 : decode cX11_way 45 = .ok (.istore 6, 2) := by decide +kernel
theorem dX11_way_47 : decode cX11_way 47 = .ok (.iconst 1, 1) := by decide +kernel
theorem dX11_way_48 : decode cX11_way 48 = .ok (.iload_n 1, 1) := by decide +kernel
theorem dX11_way_49 : decode cX11_way 49 = .ok (.ishl, 1) := by decide +kernel
theorem dX11_way_50 : decode cX11_way 50 = .ok (.istore 7, 2) := by decide +kernel
theorem dX11_way_52 : decode cX11_way 52 = .ok (.iconst 0, 1) := by decide +kernel
theorem dX11_way_53 : decode cX11_way 53 = .ok (.istore 8, 2) := by decide +kernel
theorem dX11_way_55 : decode cX11_way 55 = .ok (.iload 8, 2) := by decide +kernel
theorem dX11_way_57 : decode cX11_way 57 = .ok (.bipush 24, 2) := by decide +kernel
theorem dX11_way_59 : decode cX11_way 59 = .ok (.if_icmp .gt 119, 3) := by decide +kernel
theorem dX11_way_62 : decode cX11_way 62 = .ok (.aload 5, 2) := by decide +kernel
theorem dX11_way_64 : decode cX11_way 64 = .ok (.ifnull 114, 3) := by decide +kernel
theorem dX11_way_67 : decode cX11_way 67 = .ok (.aload 5, 2) := by decide +kernel
theorem dX11_way_69 : decode cX11_way 69 = .ok (.getfield 305, 3) := by decide +kernel
theorem dX11_way_72 : decode cX11_way 72 = .ok (.iconst (-1), 1) := by decide +kernel
theorem dX11_way_73 : decode cX11_way 73 = .ok (.if_icmp .ne 14, 3) := by decide +kernel
theorem dX11_way_76 : decode cX11_way 76 = .ok (.iload 4, 2) := by decide +kernel
theorem dX11_way_78 : decode cX11_way 78 = .ok (.iload 6, 2) := by decide +kernel
theorem dX11_way_80 : decode cX11_way 80 = .ok (.iconst 0, 1) := by decide +kernel
theorem dX11_way_81 : decode cX11_way 81 = .ok (.iload 8, 2) := by decide +kernel
theorem dX11_way_83 : decode cX11_way 83 = .ok (.invokestatic 306, 3) := by decide +kernel
theorem dX11_way_86 : decode cX11_way 86 = .ok (.ireturn, 1) := by decide +kernel
theorem dX11_way_87 : decode cX11_way 87 = .ok (.aload_n 0, 1) := by decide +kernel
theorem dX11_way_88 : decode cX11_way 88 = .ok (.aload 5, 2) := by decide +kernel
theorem dX11_way_90 : decode cX11_way 90 = .ok (.getfield 305, 3) := by decide +kernel
theorem dX11_way_93 : decode cX11_way 93 = .ok (.iload_n 2, 1) := by decide +kernel
theorem dX11_way_94 : decode cX11_way 94 = .ok (.iload_n 3, 1) := by decide +kernel
theorem dX11_way_95 : decode cX11_way 95 = .ok (.invokevirtual 301, 3) := by decide +kernel
theorem dX11_way_98 : decode cX11_way 98 = .ok (.astore 9, 2) := by decide +kernel
theorem dX11_way_100 : decode cX11_way 100 = .ok (.aload 9, 2) := by decide +kernel
theorem dX11_way_102 : decode cX11_way 102 = .ok (.ifnull 16, 3) := by decide +kernel
theorem dX11_way_105 : decode cX11_way 105 = .ok (.aload 9, 2) := by decide +kernel
theorem dX11_way_107 : decode cX11_way 107 = .ok (.getfield 238, 3) := by decide +kernel
theorem dX11_way_110 : decode cX11_way 110 = .ok (.aload 5, 2) := by decide +kernel
theorem dX11_way_112 : decode cX11_way 112 = .ok (.getfield 238, 3) := by decide +kernel
theorem dX11_way_115 : decode cX11_way 115 = .ok (.if_icmp .le 14, 3) := by decide +kernel
theorem dX11_way_118 : decode cX11_way 118 = .ok (.iload 4, 2) := by decide +kernel
theorem dX11_way_120 : decode cX11_way 120 = .ok (.iload 6, 2) := by decide +kernel
theorem dX11_way_122 : decode cX11_way 122 = .ok (.iconst 1, 1) := by decide +kernel
theorem dX11_way_123 : decode cX11_way 123 = .ok (.iload 8, 2) := by decide +kernel
theorem dX11_way_125 : decode cX11_way 125 = .ok (.invokestatic 306, 3) := by decide +kernel
theorem dX11_way_128 : decode cX11_way 128 = .ok (.ireturn, 1) := by decide +kernel
theorem dX11_way_129 : decode cX11_way 129 = .ok (.aload 5, 2) := by decide +kernel
theorem dX11_way_131 : decode cX11_way 131 = .ok (.getfield 305, 3) := by decide +kernel
theorem dX11_way_134 : decode cX11_way 134 = .ok (.istore 6, 2) := by decide +kernel
theorem dX11_way_136 : decode cX11_way 136 = .ok (.iload 7, 2) := by decide +kernel
theorem dX11_way_138 : decode cX11_way 138 = .ok (.iconst 1, 1) := by decide +kernel
theorem dX11_way_139 : decode cX11_way 139 = .ok (.iload 6, 2) := by decide +kernel
theorem dX11_way_141 : decode cX11_way 141 = .ok (.ishl, 1) := by decide +kernel
theorem dX11_way_142 : decode cX11_way 142 = .ok (.iand, 1) := by decide +kernel
theorem dX11_way_143 : decode cX11_way 143 = .ok (.ifCond .eq 16, 3) := by decide +kernel
theorem dX11_way_146 : decode cX11_way 146 = .ok (.iload 4, 2) := by decide +kernel
theorem dX11_way_148 : decode cX11_way 148 = .ok (.iload 6, 2) := by decide +kernel
theorem dX11_way_150 : decode cX11_way 150 = .ok (.iconst 2, 1) := by decide +kernel
theorem dX11_way_151 : decode cX11_way 151 = .ok (.iload 8, 2) := by decide +kernel
theorem dX11_way_153 : decode cX11_way 153 = .ok (.iconst 1, 1) := by decide +kernel
theorem dX11_way_154 : decode cX11_way 154 = .ok (.iadd, 1) := by decide +kernel
theorem dX11_way_155 : decode cX11_way 155 = .ok (.invokestatic 306, 3) := by decide +kernel
theorem dX11_way_158 : decode cX11_way 158 = .ok (.ireturn, 1) := by decide +kernel
theorem dX11_way_159 : decode cX11_way 159 = .ok (.iload 7, 2) := by decide +kernel
theorem dX11_way_161 : decode cX11_way 161 = .ok (.iconst 1, 1) := by decide +kernel
theorem dX11_way_162 : decode cX11_way 162 = .ok (.iload 6, 2) := by decide +kernel
theorem dX11_way_164 : decode cX11_way 164 = .ok (.ishl, 1) := by decide +kernel
theorem dX11_way_165 : decode cX11_way 165 = .ok (.ior, 1) := by decide +kernel
theorem dX11_way_166 : decode cX11_way 166 = .ok (.istore 7, 2) := by decide +kernel
theorem dX11_way_168 : decode cX11_way 168 = .ok (.aload 9, 2) := by decide +kernel
theorem dX11_way_170 : decode cX11_way 170 = .ok (.astore 5, 2) := by decide +kernel
theorem dX11_way_172 : decode cX11_way 172 = .ok (.iinc 8 1, 3) := by decide +kernel
theorem dX11_way_175 : decode cX11_way 175 = .ok (.goto (-120), 3) := by decide +kernel
theorem dX11_way_178 : decode cX11_way 178 = .ok (.iconst (-1), 1) := by decide +kernel
theorem dX11_way_179 : decode cX11_way 179 = .ok (.ireturn, 1) := by decide +kernel
theorem dX11_wayPart_0 : decode cX11_wayPart 0 = .ok (.iload_n 0, 1) := by decide +kernel
theorem dX11_wayPart_1 : decode cX11_wayPart 1 = .ok (.ifCond .ne 5, 3) := by decide +kernel
theorem dX11_wayPart_4 : decode cX11_wayPart 4 = .ok (.iload_n 1, 1) := by decide +kernel
theorem dX11_wayPart_5 : decode cX11_wayPart 5 = .ok (.ireturn, 1) := by decide +kernel
theorem dX11_wayPart_6 : decode cX11_wayPart 6 = .ok (.iload_n 0, 1) := by decide +kernel
theorem dX11_wayPart_7 : decode cX11_wayPart 7 = .ok (.iconst 1, 1) := by decide +kernel
theorem dX11_wayPart_8 : decode cX11_wayPart 8 = .ok (.if_icmp .ne 7, 3) := by decide +kernel
theorem dX11_wayPart_11 : decode cX11_wayPart 11 = .ok (.iload_n 2, 1) := by decide +kernel
theorem dX11_wayPart_12 : decode cX11_wayPart 12 = .ok (.goto 4, 3) := by decide +kernel
theorem dX11_wayPart_15 : decode cX11_wayPart 15 = .ok (.iload_n 3, 1) := by decide +kernel
theorem dX11_wayPart_16 : decode cX11_wayPart 16 = .ok (.ireturn, 1) := by decide +kernel
theorem dX11_wordOf_0 : decode cX11_wordOf 0 = .ok (.aconst_null, 1) := by decide +kernel
theorem dX11_wordOf_1 : decode cX11_wordOf 1 = .ok (.astore 4, 2) := by decide +kernel
theorem dX11_wordOf_3 : decode cX11_wordOf 3 = .ok (.iconst 0, 1) := by decide +kernel
theorem dX11_wordOf_4 : decode cX11_wordOf 4 = .ok (.istore 5, 2) := by decide +kernel
theorem dX11_wordOf_6 : decode cX11_wordOf 6 = .ok (.iload 5, 2) := by decide +kernel
theorem dX11_wordOf_8 : decode cX11_wordOf 8 = .ok (.aload_n 0, 1) := by decide +kernel
theorem dX11_wordOf_9 : decode cX11_wordOf 9 = .ok (.getfield 16, 3) := by decide +kernel
theorem dX11_wordOf_12 : decode cX11_wordOf 12 = .ok (.invokevirtual 100, 3) := by decide +kernel
theorem dX11_wordOf_15 : decode cX11_wordOf 15 = .ok (.if_icmp .ge 75, 3) := by decide +kernel
theorem dX11_wordOf_18 : decode cX11_wordOf 18 = .ok (.aload_n 0, 1) := by decide +kernel
theorem dX11_wordOf_19 : decode cX11_wordOf 19 = .ok (.getfield 16, 3) := by decide +kernel
theorem dX11_wordOf_22 : decode cX11_wordOf 22 = .ok (.iload 5, 2) := by decide +kernel
theorem dX11_wordOf_24 : decode cX11_wordOf 24 = .ok (.invokevirtual 126, 3) := by decide +kernel
theorem dX11_wordOf_27 : decode cX11_wordOf 27 = .ok (.checkcast 124, 3) := by decide +kernel
theorem dX11_wordOf_30 : decode cX11_wordOf 30 = .ok (.astore 6, 2) := by decide +kernel
theorem dX11_wordOf_32 : decode cX11_wordOf 32 = .ok (.aload 6, 2) := by decide +kernel
theorem dX11_wordOf_34 : decode cX11_wordOf 34 = .ok (.getfield 243, 3) := by decide +kernel
theorem dX11_wordOf_37 : decode cX11_wordOf 37 = .ok (.getfield 309, 3) := by decide +kernel
theorem dX11_wordOf_40 : decode cX11_wordOf 40 = .ok (.iload_n 1, 1) := by decide +kernel
theorem dX11_wordOf_41 : decode cX11_wordOf 41 = .ok (.if_icmp .ne 43, 3) := by decide +kernel
theorem dX11_wordOf_44 : decode cX11_wordOf 44 = .ok (.aload 6, 2) := by decide +kernel
theorem dX11_wordOf_46 : decode cX11_wordOf 46 = .ok (.getfield 312, 3) := by decide +kernel
theorem dX11_wordOf_49 : decode cX11_wordOf 49 = .ok (.iload_n 2, 1) := by decide +kernel
theorem dX11_wordOf_50 : decode cX11_wordOf 50 = .ok (.if_icmp .ne 34, 3) := by decide +kernel
theorem dX11_wordOf_53 : decode cX11_wordOf 53 = .ok (.aload 6, 2) := by decide +kernel
theorem dX11_wordOf_55 : decode cX11_wordOf 55 = .ok (.getfield 315, 3) := by decide +kernel
theorem dX11_wordOf_58 : decode cX11_wordOf 58 = .ok (.iload_n 3, 1) := by decide +kernel
theorem dX11_wordOf_59 : decode cX11_wordOf 59 = .ok (.if_icmp .gt 25, 3) := by decide +kernel
theorem dX11_wordOf_62 : decode cX11_wordOf 62 = .ok (.aload 4, 2) := by decide +kernel
theorem dX11_wordOf_64 : decode cX11_wordOf 64 = .ok (.ifnull 16, 3) := by decide +kernel
theorem dX11_wordOf_67 : decode cX11_wordOf 67 = .ok (.aload 6, 2) := by decide +kernel
theorem dX11_wordOf_69 : decode cX11_wordOf 69 = .ok (.getfield 238, 3) := by decide +kernel
theorem dX11_wordOf_72 : decode cX11_wordOf 72 = .ok (.aload 4, 2) := by decide +kernel
theorem dX11_wordOf_74 : decode cX11_wordOf 74 = .ok (.getfield 238, 3) := by decide +kernel
theorem dX11_wordOf_77 : decode cX11_wordOf 77 = .ok (.if_icmp .ge 7, 3) := by decide +kernel
theorem dX11_wordOf_80 : decode cX11_wordOf 80 = .ok (.aload 6, 2) := by decide +kernel
theorem dX11_wordOf_82 : decode cX11_wordOf 82 = .ok (.astore 4, 2) := by decide +kernel
theorem dX11_wordOf_84 : decode cX11_wordOf 84 = .ok (.iinc 5 1, 3) := by decide +kernel
theorem dX11_wordOf_87 : decode cX11_wordOf 87 = .ok (.goto (-81), 3) := by decide +kernel
theorem dX11_wordOf_90 : decode cX11_wordOf 90 = .ok (.aload 4, 2) := by decide +kernel
theorem dX11_wordOf_92 : decode cX11_wordOf 92 = .ok (.areturn, 1) := by decide +kernel
theorem dX11_worthOf_0 : decode cX11_worthOf 0 = .ok (.iload_n 2, 1) := by decide +kernel
theorem dX11_worthOf_1 : decode cX11_worthOf 1 = .ok (.iconst 0, 1) := by decide +kernel
theorem dX11_worthOf_2 : decode cX11_worthOf 2 = .ok (.aload_n 0, 1) := by decide +kernel
theorem dX11_worthOf_3 : decode cX11_worthOf 3 = .ok (.getfield 22, 3) := by decide +kernel
theorem dX11_worthOf_6 : decode cX11_worthOf 6 = .ok (.invokevirtual 100, 3) := by decide +kernel
theorem dX11_worthOf_9 : decode cX11_worthOf 9 = .ok (.iconst 1, 1) := by decide +kernel
theorem dX11_worthOf_10 : decode cX11_worthOf 10 = .ok (.isub, 1) := by decide +kernel
theorem dX11_worthOf_11 : decode cX11_worthOf 11 = .ok (.invokestatic 92, 3) := by decide +kernel
theorem dX11_worthOf_14 : decode cX11_worthOf 14 = .ok (.ifCond .ne 5, 3) := by decide +kernel
theorem dX11_worthOf_17 : decode cX11_worthOf 17 = .ok (.iconst 0, 1) := by decide +kernel
theorem dX11_worthOf_18 : decode cX11_worthOf 18 = .ok (.ireturn, 1) := by decide +kernel
theorem dX11_worthOf_19 : decode cX11_worthOf 19 = .ok (.aload_n 0, 1) := by decide +kernel
theorem dX11_worthOf_20 : decode cX11_worthOf 20 = .ok (.getfield 22, 3) := by decide +kernel
theorem dX11_worthOf_23 : decode cX11_worthOf 23 = .ok (.iload_n 2, 1) := by decide +kernel
theorem dX11_worthOf_24 : decode cX11_worthOf 24 = .ok (.invokevirtual 126, 3) := by decide +kernel
theorem dX11_worthOf_27 : decode cX11_worthOf 27 = .ok (.checkcast 188, 3) := by decide +kernel
theorem dX11_worthOf_30 : decode cX11_worthOf 30 = .ok (.iload_n 1, 1) := by decide +kernel
theorem dX11_worthOf_31 : decode cX11_worthOf 31 = .ok (.aload_n 0, 1) := by decide +kernel
theorem dX11_worthOf_32 : decode cX11_worthOf 32 = .ok (.getfield 71, 3) := by decide +kernel
theorem dX11_worthOf_35 : decode cX11_worthOf 35 = .ok (.aload_n 0, 1) := by decide +kernel
theorem dX11_worthOf_36 : decode cX11_worthOf 36 = .ok (.getfield 78, 3) := by decide +kernel
theorem dX11_worthOf_39 : decode cX11_worthOf 39 = .ok (.invokevirtual 204, 3) := by decide +kernel
theorem dX11_worthOf_42 : decode cX11_worthOf 42 = .ok (.ireturn, 1) := by decide +kernel
