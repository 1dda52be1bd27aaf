theorem dX12_span_282 : decode cX12_span 282 = .ok (.l2i, 1) := by decide +kernel
theorem dX12_span_283 : decode cX12_span 283 = .ok (.ireturn, 1) := by decide +kernel
theorem dX12_stop_0 : decode cX12_stop 0 = .ok (.aload_n 0, 1) := by decide +kernel
theorem dX12_stop_1 : decode cX12_stop 1 = .ok (.iconst 0, 1) := by decide +kernel
theorem dX12_stop_2 : decode cX12_stop 2 = .ok (.putfield 138, 3) := by decide +kernel
theorem dX12_stop_5 : decode cX12_stop 5 = .ok (.aload_n 0, 1) := by decide +kernel
theorem dX12_stop_6 : decode cX12_stop 6 = .ok (.getfield 162, 3) := by decide +kernel
theorem dX12_stop_9 : decode cX12_stop 9 = .ok (.bipush 60, 2) := by decide +kernel
theorem dX12_stop_11 : decode cX12_stop 11 = .ok (.if_icmp .eq 18, 3) := by decide +kernel
theorem dX12_stop_14 : decode cX12_stop 14 = .ok (.aload_n 0, 1) := by decide +kernel
theorem dX12_stop_15 : decode cX12_stop 15 = .ok (.iload_n 1, 1) := by decide +kernel
theorem dX12_stop_16 : decode cX12_stop 16 = .ok (.invokevirtual 165, 3) := by decide +kernel
theorem dX12_stop_19 : decode cX12_stop 19 = .ok (.ifCond .eq 10, 3) := by decide +kernel
theorem dX12_stop_22 : decode cX12_stop 22 = .ok (.iload_n 2, 1) := by decide +kernel
theorem dX12_stop_23 : decode cX12_stop 23 = .ok (.invokestatic 175, 3) := by decide +kernel
theorem dX12_stop_26 : decode cX12_stop 26 = .ok (.ifCond .ne 5, 3) := by decide +kernel
theorem dX12_stop_29 : decode cX12_stop 29 = .ok (.iconst 0, 1) := by decide +kernel
theorem dX12_stop_30 : decode cX12_stop 30 = .ok (.ireturn, 1) := by decide +kernel
theorem dX12_stop_31 : decode cX12_stop 31 = .ok (.aload_n 0, 1) := by decide +kernel
theorem dX12_stop_32 : decode cX12_stop 32 = .ok (.getfield 19, 3) := by decide +kernel
theorem dX12_stop_35 : decode cX12_stop 35 = .ok (.aload_n 0, 1) := by decide +kernel
theorem dX12_stop_36 : decode cX12_stop 36 = .ok (.getfield 162, 3) := by decide +kernel
theorem dX12_stop_39 : decode cX12_stop 39 = .ok (.iload_n 1, 1) := by decide +kernel
theorem dX12_stop_40 : decode cX12_stop 40 = .ok (.iastore, 1) := by decide +kernel
theorem dX12_stop_41 : decode cX12_stop 41 = .ok (.aload_n 0, 1) := by decide +kernel
theorem dX12_stop_42 : decode cX12_stop 42 = .ok (.getfield 22, 3) := by decide +kernel
theorem dX12_stop_45 : decode cX12_stop 45 = .ok (.aload_n 0, 1) := by decide +kernel
theorem dX12_stop_46 : decode cX12_stop 46 = .ok (.getfield 162, 3) := by decide +kernel
theorem dX12_stop_49 : decode cX12_stop 49 = .ok (.iload_n 2, 1) := by decide +kernel
theorem dX12_stop_50 : decode cX12_stop 50 = .ok (.iastore, 1) := by decide +kernel
theorem dX12_stop_51 : decode cX12_stop 51 = .ok (.aload_n 0, 1) := by decide +kernel
theorem dX12_stop_52 : decode cX12_stop 52 = .ok (.getfield 25, 3) := by decide +kernel
theorem dX12_stop_55 : decode cX12_stop 55 = .ok (.aload_n 0, 1) := by decide +kernel
theorem dX12_stop_56 : decode cX12_stop 56 = .ok (.getfield 162, 3) := by decide +kernel
theorem dX12_stop_59 : decode cX12_stop 59 = .ok (.aload_n 0, 1) := by decide +kernel
theorem dX12_stop_60 : decode cX12_stop 60 = .ok (.getfield 142, 3) := by decide +kernel
theorem dX12_stop_63 : decode cX12_stop 63 = .ok (.iastore, 1) := by decide +kernel
theorem dX12_stop_64 : decode cX12_stop 64 = .ok (.aload_n 0, 1) := by decide +kernel
theorem dX12_stop_65 : decode cX12_stop 65 = .ok (.dup, 1) := by decide +kernel
theorem dX12_stop_66 : decode cX12_stop 66 = .ok (.getfield 162, 3) := by decide +kernel
theorem dX12_stop_69 : decode cX12_stop 69 = .ok (.iconst 1, 1) := by decide +kernel
theorem dX12_stop_70 : decode cX12_stop 70 = .ok (.iadd, 1) := by decide +kernel
theorem dX12_stop_71 : decode cX12_stop 71 = .ok (.putfield 162, 3) := by decide +kernel
theorem dX12_stop_74 : decode cX12_stop 74 = .ok (.iconst 1, 1) := by decide +kernel
theorem dX12_stop_75 : decode cX12_stop 75 = .ok (.ireturn, 1) := by decide +kernel
theorem dX12_stopped_0 : decode cX12_stopped 0 = .ok (.aload_n 0, 1) := by decide +kernel
theorem dX12_stopped_1 : decode cX12_stopped 1 = .ok (.iconst 0, 1) := by decide +kernel
theorem dX12_stopped_2 : decode cX12_stopped 2 = .ok (.putfield 138, 3) := by decide +kernel
theorem dX12_stopped_5 : decode cX12_stopped 5 = .ok (.aload_n 0, 1) := by decide +kernel
theorem dX12_stopped_6 : decode cX12_stopped 6 = .ok (.iload_n 1, 1) := by decide +kernel
theorem dX12_stopped_7 : decode cX12_stopped 7 = .ok (.invokevirtual 165, 3) := by decide +kernel
theorem dX12_stopped_10 : decode cX12_stopped 10 = .ok (.ifCond .eq 20, 3) := by decide +kernel
theorem dX12_stopped_13 : decode cX12_stopped 13 = .ok (.aload_n 0, 1) := by decide +kernel
theorem dX12_stopped_14 : decode cX12_stopped 14 = .ok (.iload_n 2, 1) := by decide +kernel
theorem dX12_stopped_15 : decode cX12_stopped 15 = .ok (.invokevirtual 159, 3) := by decide +kernel
theorem dX12_stopped_18 : decode cX12_stopped 18 = .ok (.ifCond .eq 12, 3) := by decide +kernel
theorem dX12_stopped_21 : decode cX12_stopped 21 = .ok (.aload_n 0, 1) := by decide +kernel
theorem dX12_stopped_22 : decode cX12_stopped 22 = .ok (.iload_n 1, 1) := by decide +kernel
theorem dX12_stopped_23 : decode cX12_stopped 23 = .ok (.iload_n 2, 1) := by decide +kernel
theorem dX12_stopped_24 : decode cX12_stopped 24 = .ok (.invokevirtual 171, 3) := by decide +kernel
theorem dX12_stopped_27 : decode cX12_stopped 27 = .ok (.goto 4, 3) := by decide +kernel
theorem dX12_stopped_30 : decode cX12_stopped 30 = .ok (.iconst (-1), 1) := by decide +kernel
theorem dX12_stopped_31 : decode cX12_stopped 31 = .ok (.ireturn, 1) := by decide +kernel
theorem dX12_stopsFrom_0 : decode cX12_stopsFrom 0 = .ok (.iconst (-1), 1) := by decide +kernel
theorem dX12_stopsFrom_1 : decode cX12_stopsFrom 1 = .ok (.istore_n 3, 1) := by decide +kernel
theorem dX12_stopsFrom_2 : decode cX12_stopsFrom 2 = .ok (.iconst 0, 1) := by decide +kernel
theorem dX12_stopsFrom_3 : decode cX12_stopsFrom 3 = .ok (.istore 4, 2) := by decide +kernel
theorem dX12_stopsFrom_5 : decode cX12_stopsFrom 5 = .ok (.iload 4, 2) := by decide +kernel
theorem dX12_stopsFrom_7 : decode cX12_stopsFrom 7 = .ok (.aload_n 0, 1) := by decide +kernel
theorem dX12_stopsFrom_8 : decode cX12_stopsFrom 8 = .ok (.getfield 162, 3) := by decide +kernel
theorem dX12_stopsFrom_11 : decode cX12_stopsFrom 11 = .ok (.if_icmp .ge 39, 3) := by decide +kernel
theorem dX12_stopsFrom_14 : decode cX12_stopsFrom 14 = .ok (.aload_n 0, 1) := by decide +kernel
theorem dX12_stopsFrom_15 : decode cX12_stopsFrom 15 = .ok (.getfield 19, 3) := by decide +kernel
theorem dX12_stopsFrom_18 : decode cX12_stopsFrom 18 = .ok (.iload 4, 2) := by decide +kernel
theorem dX12_stopsFrom_20 : decode cX12_stopsFrom 20 = .ok (.iaload, 1) := by decide +kernel
theorem dX12_stopsFrom_21 : decode cX12_stopsFrom 21 = .ok (.iload_n 1, 1) := by decide +kernel
theorem dX12_stopsFrom_22 : decode cX12_stopsFrom 22 = .ok (.if_icmp .ne 22, 3) := by decide +kernel
theorem dX12_stopsFrom_25 : decode cX12_stopsFrom 25 = .ok (.aload_n 0, 1) := by decide +kernel
theorem dX12_stopsFrom_26 : decode cX12_stopsFrom 26 = .ok (.getfield 25, 3) := by decide +kernel
theorem dX12_stopsFrom_29 : decode cX12_stopsFrom 29 = .ok (.iload 4, 2) := by decide +kernel
theorem dX12_stopsFrom_31 : decode cX12_stopsFrom 31 = .ok (.iaload, 1) := by decide +kernel
theorem dX12_stopsFrom_32 : decode cX12_stopsFrom 32 = .ok (.iload_n 2, 1) := by decide +kernel
theorem dX12_stopsFrom_33 : decode cX12_stopsFrom 33 = .ok (.if_icmp .gt 11, 3) := by decide +kernel
theorem dX12_stopsFrom_36 : decode cX12_stopsFrom 36 = .ok (.aload_n 0, 1) := by decide +kernel
theorem dX12_stopsFrom_37 : decode cX12_stopsFrom 37 = .ok (.getfield 22, 3) := by decide +kernel
theorem dX12_stopsFrom_40 : decode cX12_stopsFrom 40 = .ok (.iload 4, 2) := by decide +kernel
theorem dX12_stopsFrom_42 : decode cX12_stopsFrom 42 = .ok (.iaload, 1) := by decide +kernel
theorem dX12_stopsFrom_43 : decode cX12_stopsFrom 43 = .ok (.istore_n 3, 1) := by decide +kernel
theorem dX12_stopsFrom_44 : decode cX12_stopsFrom 44 = .ok (.iinc 4 1, 3) := by decide +kernel
theorem dX12_stopsFrom_47 : decode cX12_stopsFrom 47 = .ok (.goto (-42), 3) := by decide +kernel
theorem dX12_stopsFrom_50 : decode cX12_stopsFrom 50 = .ok (.iload_n 3, 1) := by decide +kernel
theorem dX12_stopsFrom_51 : decode cX12_stopsFrom 51 = .ok (.ireturn, 1) := by decide +kernel
theorem dX12_stratum_0 : decode cX12_stratum 0 = .ok (.aload_n 0, 1) := by decide +kernel
theorem dX12_stratum_1 : decode cX12_stratum 1 = .ok (.getfield 13, 3) := by decide +kernel
theorem dX12_stratum_4 : decode cX12_stratum 4 = .ok (.iload_n 1, 1) := by decide +kernel
theorem dX12_stratum_5 : decode cX12_stratum 5 = .ok (.iaload, 1) := by decide +kernel
theorem dX12_stratum_6 : decode cX12_stratum 6 = .ok (.bipush 25, 2) := by decide +kernel
theorem dX12_stratum_8 : decode cX12_stratum 8 = .ok (.if_icmp .ge 7, 3) := by decide +kernel
theorem dX12_stratum_11 : decode cX12_stratum 11 = .ok (.iconst 0, 1) := by decide +kernel
theorem dX12_stratum_12 : decode cX12_stratum 12 = .ok (.goto 34, 3) := by decide +kernel
theorem dX12_stratum_15 : decode cX12_stratum 15 = .ok (.aload_n 0, 1) := by decide +kernel
theorem dX12_stratum_16 : decode cX12_stratum 16 = .ok (.getfield 13, 3) := by decide +kernel
theorem dX12_stratum_19 : decode cX12_stratum 19 = .ok (.iload_n 1, 1) := by decide +kernel
theorem dX12_stratum_20 : decode cX12_stratum 20 = .ok (.iaload, 1) := by decide +kernel
theorem dX12_stratum_21 : decode cX12_stratum 21 = .ok (.bipush 45, 2) := by decide +kernel
theorem dX12_stratum_23 : decode cX12_stratum 23 = .ok (.if_icmp .ge 7, 3) := by decide +kernel
theorem dX12_stratum_26 : decode cX12_stratum 26 = .ok (.iconst 1, 1) := by decide +kernel
theorem dX12_stratum_27 : decode cX12_stratum 27 = .ok (.goto 19, 3) := by decide +kernel
theorem dX12_stratum_30 : decode cX12_stratum 30 = .ok (.aload_n 0, 1) := by decide +kernel
theorem dX12_stratum_31 : decode cX12_stratum 31 = .ok (.getfield 13, 3) := by decide +kernel
theorem dX12_stratum_34 : decode cX12_stratum 34 = .ok (.iload_n 1, 1) := by decide +kernel
theorem dX12_stratum_35 : decode cX12_stratum 35 = .ok (.iaload, 1) := by decide +kernel
theorem dX12_stratum_36 : decode cX12_stratum 36 = .ok (.bipush 65, 2) := by decide +kernel
theorem dX12_stratum_38 : decode cX12_stratum 38 = .ok (.if_icmp .ge 7, 3) := by decide +kernel
theorem dX12_stratum_41 : decode cX12_stratum 41 = .ok (.iconst 2, 1) := by decide +kernel
theorem dX12_stratum_42 : decode cX12_stratum 42 = .ok (.goto 4, 3) := by decide +kernel
theorem dX12_stratum_45 : decode cX12_stratum 45 = .ok (.iconst 3, 1) := by decide +kernel
theorem dX12_stratum_46 : decode cX12_stratum 46 = .ok (.ireturn, 1) := by decide +kernel
theorem dX12_sum_0 : decode cX12_sum 0 = .ok (.aload_n 0, 1) := by decide +kernel
theorem dX12_sum_1 : decode cX12_sum 1 = .ok (.invokevirtual 251, 3) := by decide +kernel
theorem dX12_sum_4 : decode cX12_sum 4 = .ok (.istore_n 1, 1) := by decide +kernel
theorem dX12_sum_5 : decode cX12_sum 5 = .ok (.aload_n 0, 1) := by decide +kernel
theorem dX12_sum_6 : decode cX12_sum 6 = .ok (.getfield 198, 3) := by decide +kernel
theorem dX12_sum_9 : decode cX12_sum 9 = .ok (.iconst (-1), 1) := by decide +kernel
theorem dX12_sum_10 : decode cX12_sum 10 = .ok (.if_icmp .ne 74, 3) := by decide +kernel
theorem dX12_sum_13 : decode cX12_sum 13 = .ok (.aload_n 0, 1) := by decide +kernel
theorem dX12_sum_14 : decode cX12_sum 14 = .ok (.invokevirtual 208, 3) := by decide +kernel
theorem dX12_sum_17 : decode cX12_sum 17 = .ok (.bipush 43, 2) := by decide +kernel
theorem dX12_sum_19 : decode cX12_sum 19 = .ok (.if_icmp .eq 12, 3) := by decide +kernel
theorem dX12_sum_22 : decode cX12_sum 22 = .ok (.aload_n 0, 1) := by decide +kernel
theorem dX12_sum_23 : decode cX12_sum 23 = .ok (.invokevirtual 208, 3) := by decide +kernel
theorem dX12_sum_26 : decode cX12_sum 26 = .ok (.bipush 45, 2) := by decide +kernel
theorem dX12_sum_28 : decode cX12_sum 28 = .ok (.if_icmp .ne 56, 3) := by decide +kernel
theorem dX12_sum_31 : decode cX12_sum 31 = .ok (.aload_n 0, 1) := by decide +kernel
theorem dX12_sum_32 : decode cX12_sum 32 = .ok (.invokevirtual 208, 3) := by decide +kernel
theorem dX12_sum_35 : decode cX12_sum 35 = .ok (.bipush 43, 2) := by decide +kernel
theorem dX12_sum_37 : decode cX12_sum 37 = .ok (.if_icmp .ne 7, 3) := by decide +kernel
theorem dX12_sum_40 : decode cX12_sum 40 = .ok (.iconst 1, 1) := by decide +kernel
theorem dX12_sum_41 : decode cX12_sum 41 = .ok (.goto 4, 3) := by decide +kernel
theorem dX12_sum_44 : decode cX12_sum 44 = .ok (.iconst 0, 1) := by decide +kernel
theorem dX12_sum_45 : decode cX12_sum 45 = .ok (.istore_n 2, 1) := by decide +kernel
theorem dX12_sum_46 : decode cX12_sum 46 = .ok (.aload_n 0, 1) := by decide +kernel
theorem dX12_sum_47 : decode cX12_sum 47 = .ok (.dup, 1) := by decide +kernel
theorem dX12_sum_48 : decode cX12_sum 48 = .ok (.getfield 189, 3) := by decide +kernel
theorem dX12_sum_51 : decode cX12_sum 51 = .ok (.iconst 1, 1) := by decide +kernel
theorem dX12_sum_52 : decode cX12_sum 52 = .ok (.iadd, 1) := by decide +kernel
theorem dX12_sum_53 : decode cX12_sum 53 = .ok (.putfield 189, 3) := by decide +kernel
theorem dX12_sum_56 : decode cX12_sum 56 = .ok (.aload_n 0, 1) := by decide +kernel
theorem dX12_sum_57 : decode cX12_sum 57 = .ok (.invokevirtual 251, 3) := by decide +kernel
theorem dX12_sum_60 : decode cX12_sum 60 = .ok (.i2l, 1) := by decide +kernel
theorem dX12_sum_61 : decode cX12_sum 61 = .ok (.lstore_n 3, 1) := by decide +kernel
theorem dX12_sum_62 : decode cX12_sum 62 = .ok (.iload_n 2, 1) := by decide +kernel
theorem dX12_sum_63 : decode cX12_sum 63 = .ok (.ifCond .eq 10, 3) := by decide +kernel
theorem dX12_sum_66 : decode cX12_sum 66 = .ok (.iload_n 1, 1) := by decide +kernel
theorem dX12_sum_67 : decode cX12_sum 67 = .ok (.i2l, 1) := by decide +kernel
theorem dX12_sum_68 : decode cX12_sum 68 = .ok (.lload_n 3, 1) := by decide +kernel
theorem dX12_sum_69 : decode cX12_sum 69 = .ok (.ladd, 1) := by decide +kernel
theorem dX12_sum_70 : decode cX12_sum 70 = .ok (.goto 7, 3) := by decide +kernel
theorem dX12_sum_73 : decode cX12_sum 73 = .ok (.iload_n 1, 1) := by decide +kernel
theorem dX12_sum_74 : decode cX12_sum 74 = .ok (.i2l, 1) := by decide +kernel
theorem dX12_sum_75 : decode cX12_sum 75 = .ok (.lload_n 3, 1) := by decide +kernel
theorem dX12_sum_76 : decode cX12_sum 76 = .ok (.lsub, 1) := by decide +kernel
theorem dX12_sum_77 : decode cX12_sum 77 = .ok (.invokestatic 247, 3) := by decide +kernel
theorem dX12_sum_80 : decode cX12_sum 80 = .ok (.istore_n 1, 1) := by decide +kernel
theorem dX12_sum_81 : decode cX12_sum 81 = .ok (.goto (-76), 3) := by decide +kernel
theorem dX12_sum_84 : decode cX12_sum 84 = .ok (.iload_n 1, 1) := by decide +kernel
theorem dX12_sum_85 : decode cX12_sum 85 = .ok (.ireturn, 1) := by decide +kernel
theorem dX12_table_0 : decode cX12_table 0 = .ok (.aload_n 0, 1) := by decide +kernel
theorem dX12_table_1 : decode cX12_table 1 = .ok (.iconst 0, 1) := by decide +kernel
theorem dX12_table_2 : decode cX12_table 2 = .ok (.putfield 138, 3) := by decide +kernel
theorem dX12_table_5 : decode cX12_table 5 = .ok (.iload_n 1, 1) := by decide +kernel
theorem dX12_table_6 : decode cX12_table 6 = .ok (.iconst (-1), 1) := by decide +kernel
theorem dX12_table_7 : decode cX12_table 7 = .ok (.aload_n 0, 1) := by decide +kernel
theorem dX12_table_8 : decode cX12_table 8 = .ok (.getfield 372, 3) := by decide +kernel
theorem dX12_table_11 : decode cX12_table 11 = .ok (.iconst 1, 1) := by decide +kernel
theorem dX12_table_12 : decode cX12_table 12 = .ok (.isub, 1) := by decide +kernel
theorem dX12_table_13 : decode cX12_table 13 = .ok (.invokestatic 145, 3) := by decide +kernel
theorem dX12_table_16 : decode cX12_table 16 = .ok (.ifCond .ne 6, 3) := by decide +kernel
theorem dX12_table_19 : decode cX12_table 19 = .ok (.bipush (-2), 2) := by decide +kernel
theorem dX12_table_21 : decode cX12_table 21 = .ok (.ireturn, 1) := by decide +kernel
theorem dX12_table_22 : decode cX12_table 22 = .ok (.aload_n 0, 1) := by decide +kernel
theorem dX12_table_23 : decode cX12_table 23 = .ok (.iconst (-1), 1) := by decide +kernel
theorem dX12_table_24 : decode cX12_table 24 = .ok (.putfield 375, 3) := by decide +kernel
theorem dX12_table_27 : decode cX12_table 27 = .ok (.aload_n 0, 1) := by decide +kernel
theorem dX12_table_28 : decode cX12_table 28 = .ok (.iconst 0, 1) := by decide +kernel
theorem dX12_table_29 : decode cX12_table 29 = .ok (.iconst 0, 1) := by decide +kernel
theorem dX12_table_30 : decode cX12_table 30 = .ok (.invokevirtual 381, 3) := by decide +kernel
theorem dX12_table_33 : decode cX12_table 33 = .ok (.iload_n 1, 1) := by decide +kernel
theorem dX12_table_34 : decode cX12_table 34 = .ok (.iconst (-1), 1) := by decide +kernel
theorem dX12_table_35 : decode cX12_table 35 = .ok (.if_icmp .ne 10, 3) := by decide +kernel
theorem dX12_table_38 : decode cX12_table 38 = .ok (.aload_n 0, 1) := by decide +kernel
theorem dX12_table_39 : decode cX12_table 39 = .ok (.getfield 375, 3) := by decide +kernel
theorem dX12_table_42 : decode cX12_table 42 = .ok (.goto 9, 3) := by decide +kernel
theorem dX12_table_45 : decode cX12_table 45 = .ok (.aload_n 0, 1) := by decide +kernel
theorem dX12_table_46 : decode cX12_table 46 = .ok (.getfield 126, 3) := by decide +kernel
theorem dX12_table_49 : decode cX12_table 49 = .ok (.iload_n 1, 1) := by decide +kernel
theorem dX12_table_50 : decode cX12_table 50 = .ok (.iaload, 1) := by decide +kernel
theorem dX12_table_51 : decode cX12_table 51 = .ok (.ireturn, 1) := by decide +kernel
theorem dX12_takes_0 : decode cX12_takes 0 = .ok (.aload_n 0, 1) := by decide +kernel
theorem dX12_takes_1 : decode cX12_takes 1 = .ok (.getfield 198, 3) := by decide +kernel
theorem dX12_takes_4 : decode cX12_takes 4 = .ok (.iconst (-1), 1) := by decide +kernel
theorem dX12_takes_5 : decode cX12_takes 5 = .ok (.if_icmp .ne 11, 3) := by decide +kernel
theorem dX12_takes_8 : decode cX12_takes 8 = .ok (.aload_n 0, 1) := by decide +kernel
theorem dX12_takes_9 : decode cX12_takes 9 = .ok (.invokevirtual 208, 3) := by decide +kernel
theorem dX12_takes_12 : decode cX12_takes 12 = .ok (.iload_n 1, 1) := by decide +kernel
theorem dX12_takes_13 : decode cX12_takes 13 = .ok (.if_icmp .eq 8, 3) := by decide +kernel
theorem dX12_takes_16 : decode cX12_takes 16 = .ok (.aload_n 0, 1) := by decide +kernel
theorem dX12_takes_17 : decode cX12_takes 17 = .ok (.invokevirtual 204, 3) := by decide +kernel
theorem dX12_takes_20 : decode cX12_takes 20 = .ok (.ireturn, 1) := by decide +kernel
theorem dX12_takes_21 : decode cX12_takes 21 = .ok (.aload_n 0, 1) := by decide +kernel
theorem dX12_takes_22 : decode cX12_takes 22 = .ok (.dup, 1) := by decide +kernel
theorem dX12_takes_23 : decode cX12_takes 23 = .ok (.getfield 189, 3) := by decide +kernel
theorem dX12_takes_26 : decode cX12_takes 26 = .ok (.iconst 1, 1) := by decide +kernel
theorem dX12_takes_27 : decode cX12_takes 27 = .ok (.iadd, 1) := by decide +kernel
theorem dX12_takes_28 : decode cX12_takes 28 = .ok (.putfield 189, 3) := by decide +kernel
theorem dX12_takes_31 : decode cX12_takes 31 = .ok (.iconst 1, 1) := by decide +kernel
theorem dX12_takes_32 : decode cX12_takes 32 = .ok (.ireturn, 1) := by decide +kernel
theorem dX12_term_0 : decode cX12_term 0 = .ok (.aload_n 0, 1) := by decide +kernel
theorem dX12_term_1 : decode cX12_term 1 = .ok (.invokevirtual 244, 3) := by decide +kernel
theorem dX12_term_4 : decode cX12_term 4 = .ok (.istore_n 1, 1) := by decide +kernel
theorem dX12_term_5 : decode cX12_term 5 = .ok (.aload_n 0, 1) := by decide +kernel
theorem dX12_term_6 : decode cX12_term 6 = .ok (.getfield 198, 3) := by decide +kernel
theorem dX12_term_9 : decode cX12_term 9 = .ok (.iconst (-1), 1) := by decide +kernel
theorem dX12_term_10 : decode cX12_term 10 = .ok (.if_icmp .ne 84, 3) := by decide +kernel
theorem dX12_term_13 : decode cX12_term 13 = .ok (.aload_n 0, 1) := by decide +kernel
theorem dX12_term_14 : decode cX12_term 14 = .ok (.invokevirtual 208, 3) := by decide +kernel
theorem dX12_term_17 : decode cX12_term 17 = .ok (.bipush 42, 2) := by decide +kernel
theorem dX12_term_19 : decode cX12_term 19 = .ok (.if_icmp .eq 12, 3) := by decide +kernel
theorem dX12_term_22 : decode cX12_term 22 = .ok (.aload_n 0, 1) := by decide +kernel
theorem dX12_term_23 : decode cX12_term 23 = .ok (.invokevirtual 208, 3) := by decide +kernel
theorem dX12_term_26 : decode cX12_term 26 = .ok (.bipush 47, 2) := by decide +kernel
theorem dX12_term_28 : decode cX12_term 28 = .ok (.if_icmp .ne 66, 3) := by decide +kernel
theorem dX12_term_31 : decode cX12_term 31 = .ok (.aload_n 0, 1) := by decide +kernel
theorem dX12_term_32 : decode cX12_term 32 = .ok (.invokevirtual 208, 3) := by decide +kernel
theorem dX12_term_35 : decode cX12_term 35 = .ok (.bipush 42, 2) := by decide +kernel
theorem dX12_term_37 : decode cX12_term 37 = .ok (.if_icmp .ne 7, 3) := by decide +kernel
theorem dX12_term_40 : decode cX12_term 40 = .ok (.iconst 1, 1) := by decide +kernel
theorem dX12_term_41 : decode cX12_term 41 = .ok (.goto 4, 3) := by decide +kernel
theorem dX12_term_44 : decode cX12_term 44 = .ok (.iconst 0, 1) := by decide +kernel
theorem dX12_term_45 : decode cX12_term 45 = .ok (.istore_n 2, 1) := by decide +kernel
theorem dX12_term_46 : decode cX12_term 46 = .ok (.aload_n 0, 1) := by decide +kernel
theorem dX12_term_47 : decode cX12_term 47 = .ok (.dup, 1) := by decide +kernel
theorem dX12_term_48 : decode cX12_term 48 = .ok (.getfield 189, 3) := by decide +kernel
theorem dX12_term_51 : decode cX12_term 51 = .ok (.iconst 1, 1) := by decide +kernel
theorem dX12_term_52 : decode cX12_term 52 = .ok (.iadd, 1) := by decide +kernel
theorem dX12_term_53 : decode cX12_term 53 = .ok (.putfield 189, 3) := by decide +kernel
theorem dX12_term_56 : decode cX12_term 56 = .ok (.aload_n 0, 1) := by decide +kernel
theorem dX12_term_57 : decode cX12_term 57 = .ok (.invokevirtual 244, 3) := by decide +kernel
theorem dX12_term_60 : decode cX12_term 60 = .ok (.i2l, 1) := by decide +kernel
theorem dX12_term_61 : decode cX12_term 61 = .ok (.lstore_n 3, 1) := by decide +kernel
theorem dX12_term_62 : decode cX12_term 62 = .ok (.iload_n 2, 1) := by decide +kernel
theorem dX12_term_63 : decode cX12_term 63 = .ok (.ifCond .eq 10, 3) := by decide +kernel
theorem dX12_term_66 : decode cX12_term 66 = .ok (.iload_n 1, 1) := by decide +kernel
theorem dX12_term_67 : decode cX12_term 67 = .ok (.i2l, 1) := by decide +kernel
theorem dX12_term_68 : decode cX12_term 68 = .ok (.lload_n 3, 1) := by decide +kernel
theorem dX12_term_69 : decode cX12_term 69 = .ok (.lmul, 1) := by decide +kernel
theorem dX12_term_70 : decode cX12_term 70 = .ok (.goto 17, 3) := by decide +kernel
theorem dX12_term_73 : decode cX12_term 73 = .ok (.lload_n 3, 1) := by decide +kernel
theorem dX12_term_74 : decode cX12_term 74 = .ok (.lconst 0, 1) := by decide +kernel
theorem dX12_term_75 : decode cX12_term 75 = .ok (.lcmp, 1) := by decide +kernel
theorem dX12_term_76 : decode cX12_term 76 = .ok (.ifCond .ne 7, 3) := by decide +kernel
theorem dX12_term_79 : decode cX12_term 79 = .ok (.lconst 0, 1) := by decide +kernel
theorem dX12_term_80 : decode cX12_term 80 = .ok (.goto 7, 3) := by decide +kernel
theorem dX12_term_83 : decode cX12_term 83 = .ok (.iload_n 1, 1) := by decide +kernel
theorem dX12_term_84 : decode cX12_term 84 = .ok (.i2l, 1) := by decide +kernel
theorem dX12_term_85 : decode cX12_term 85 = .ok (.lload_n 3, 1) := by decide +kernel
theorem dX12_term_86 : decode cX12_term 86 = .ok (.ldiv, 1) := by decide +kernel
theorem dX12_term_87 : decode cX12_term 87 = .ok (.invokestatic 247, 3) := by decide +kernel
theorem dX12_term_90 : decode cX12_term 90 = .ok (.istore_n 1, 1) := by decide +kernel
theorem dX12_term_91 : decode cX12_term 91 = .ok (.goto (-86), 3) := by decide +kernel
theorem dX12_term_94 : decode cX12_term 94 = .ok (.iload_n 1, 1) := by decide +kernel
theorem dX12_term_95 : decode cX12_term 95 = .ok (.ireturn, 1) := by decide +kernel
theorem dX12_thrown_0 : decode cX12_thrown 0 = .ok (.aload_n 0, 1) := by decide +kernel
theorem dX12_thrown_1 : decode cX12_thrown 1 = .ok (.getfield 138, 3) := by decide +kernel
theorem dX12_thrown_4 : decode cX12_thrown 4 = .ok (.ireturn, 1) := by decide +kernel
theorem dX12_told_0 : decode cX12_told 0 = .ok (.aload_n 0, 1) := by decide +kernel
theorem dX12_told_1 : decode cX12_told 1 = .ok (.aload_n 0, 1) := by decide +kernel
theorem dX12_told_2 : decode cX12_told 2 = .ok (.iload_n 1, 1) := by decide +kernel
theorem dX12_told_3 : decode cX12_told 3 = .ok (.invokevirtual 155, 3) := by decide +kernel
theorem dX12_told_6 : decode cX12_told 6 = .ok (.ifCond .eq 17, 3) := by decide +kernel
theorem dX12_told_9 : decode cX12_told 9 = .ok (.iload_n 2, 1) := by decide +kernel
theorem dX12_told_10 : decode cX12_told 10 = .ok (.iconst 0, 1) := by decide +kernel
theorem dX12_told_11 : decode cX12_told 11 = .ok (.bipush 6, 2) := by decide +kernel
theorem dX12_told_13 : decode cX12_told 13 = .ok (.invokestatic 145, 3) := by decide +kernel
theorem dX12_told_16 : decode cX12_told 16 = .ok (.ifCond .eq 7, 3) := by decide +kernel
theorem dX12_told_19 : decode cX12_told 19 = .ok (.iconst 0, 1) := by decide +kernel
theorem dX12_told_20 : decode cX12_told 20 = .ok (.goto 4, 3) := by decide +kernel
theorem dX12_told_23 : decode cX12_told 23 = .ok (.iconst 1, 1) := by decide +kernel
theorem dX12_told_24 : decode cX12_told 24 = .ok (.putfield 138, 3) := by decide +kernel
theorem dX12_told_27 : decode cX12_told 27 = .ok (.aload_n 0, 1) := by decide +kernel
theorem dX12_told_28 : decode cX12_told 28 = .ok (.getfield 138, 3) := by decide +kernel
theorem dX12_told_31 : decode cX12_told 31 = .ok (.ifCond .le 5, 3) := by decide +kernel
theorem dX12_told_34 : decode cX12_told 34 = .ok (.iconst 0, 1) := by decide +kernel
theorem dX12_told_35 : decode cX12_told 35 = .ok (.ireturn, 1) := by decide +kernel
theorem dX12_told_36 : decode cX12_told 36 = .ok (.iload_n 2, 1) := by decide +kernel
theorem dX12_told_37 : decode cX12_told 37 = .ok (.tableswitch 81 0 5 #[39, 46, 53, 60, 67, 74], 39) := by decide +kernel
theorem dX12_told_76 : decode cX12_told 76 = .ok (.aload_n 0, 1) := by decide +kernel
theorem dX12_told_77 : decode cX12_told 77 = .ok (.getfield 28, 3) := by decide +kernel
theorem dX12_told_80 : decode cX12_told 80 = .ok (.iload_n 1, 1) := by decide +kernel
theorem dX12_told_81 : decode cX12_told 81 = .ok (.iaload, 1) := by decide +kernel
theorem dX12_told_82 : decode cX12_told 82 = .ok (.ireturn, 1) := by decide +kernel
theorem dX12_told_83 : decode cX12_told 83 = .ok (.aload_n 0, 1) := by decide +kernel
theorem dX12_told_84 : decode cX12_told 84 = .ok (.getfield 31, 3) := by decide +kernel
theorem dX12_told_87 : decode cX12_told 87 = .ok (.iload_n 1, 1) := by decide +kernel
theorem dX12_told_88 : decode cX12_told 88 = .ok (.iaload, 1) := by decide +kernel
theorem dX12_told_89 : decode cX12_told 89 = .ok (.ireturn, 1) := by decide +kernel
theorem dX12_told_90 : decode cX12_told 90 = .ok (.aload_n 0, 1) := by decide +kernel
theorem dX12_told_91 : decode cX12_told 91 = .ok (.getfield 34, 3) := by decide +kernel
theorem dX12_told_94 : decode cX12_told 94 = .ok (.iload_n 1, 1) := by decide +kernel
theorem dX12_told_95 : decode cX12_told 95 = .ok (.iaload, 1) := by decide +kernel
theorem dX12_told_96 : decode cX12_told 96 = .ok (.ireturn, 1) := by decide +kernel
theorem dX12_told_97 : decode cX12_told 97 = .ok (.aload_n 0, 1) := by decide +kernel
theorem dX12_told_98 : decode cX12_told 98 = .ok (.getfield 37, 3) := by decide +kernel
theorem dX12_told_101 : decode cX12_told 101 = .ok (.iload_n 1, 1) := by decide +kernel
theorem dX12_told_102 : decode cX12_told 102 = .ok (.iaload, 1) := by decide +kernel
theorem dX12_told_103 : decode cX12_told 103 = .ok (.ireturn, 1) := by decide +kernel
theorem dX12_told_104 : decode cX12_told 104 = .ok (.aload_n 0, 1) := by decide +kernel
theorem dX12_told_105 : decode cX12_told 105 = .ok (.getfield 40, 3) := by decide +kernel
theorem dX12_told_108 : decode cX12_told 108 = .ok (.iload_n 1, 1) := by decide +kernel
theorem dX12_told_109 : decode cX12_told 109 = .ok (.iaload, 1) := by decide +kernel
theorem dX12_told_110 : decode cX12_told 110 = .ok (.ireturn, 1) := by decide +kernel
theorem dX12_told_111 : decode cX12_told 111 = .ok (.aload_n 0, 1) := by decide +kernel
theorem dX12_told_112 : decode cX12_told 112 = .ok (.getfield 43, 3) := by decide +kernel
theorem dX12_told_115 : decode cX12_told 115 = .ok (.iload_n 1, 1) := by decide +kernel
theorem dX12_told_116 : decode cX12_told 116 = .ok (.iaload, 1) := by decide +kernel
theorem dX12_told_117 : decode cX12_told 117 = .ok (.ireturn, 1) := by decide +kernel
theorem dX12_told_118 : decode cX12_told 118 = .ok (.aload_n 0, 1) := by decide +kernel
theorem dX12_told_119 : decode cX12_told 119 = .ok (.getfield 46, 3) := by decide +kernel
theorem dX12_told_122 : decode cX12_told 122 = .ok (.iload_n 1, 1) := by decide +kernel
theorem dX12_told_123 : decode cX12_told 123 = .ok (.iaload, 1) := by decide +kernel
theorem dX12_told_124 : decode cX12_told 124 = .ok (.ireturn, 1) := by decide +kernel
theorem dX12_truth_0 : decode cX12_truth 0 = .ok (.aload_n 0, 1) := by decide +kernel
theorem dX12_truth_1 : decode cX12_truth 1 = .ok (.iconst 0, 1) := by decide +kernel
theorem dX12_truth_2 : decode cX12_truth 2 = .ok (.putfield 138, 3) := by decide +kernel
theorem dX12_truth_5 : decode cX12_truth 5 = .ok (.aload_n 0, 1) := by decide +kernel
theorem dX12_truth_6 : decode cX12_truth 6 = .ok (.iload_n 1, 1) := by decide +kernel
theorem dX12_truth_7 : decode cX12_truth 7 = .ok (.iload_n 2, 1) := by decide +kernel
theorem dX12_truth_8 : decode cX12_truth 8 = .ok (.invokevirtual 305, 3) := by decide +kernel
theorem dX12_truth_11 : decode cX12_truth 11 = .ok (.ifCond .ne 5, 3) := by decide +kernel
theorem dX12_truth_14 : decode cX12_truth 14 = .ok (.iconst (-1), 1) := by decide +kernel
theorem dX12_truth_15 : decode cX12_truth 15 = .ok (.ireturn, 1) := by decide +kernel
theorem dX12_truth_16 : decode cX12_truth 16 = .ok (.iconst 2, 1) := by decide +kernel
theorem dX12_truth_17 : decode cX12_truth 17 = .ok (.istore_n 3, 1) := by decide +kernel
theorem dX12_truth_18 : decode cX12_truth 18 = .ok (.iconst 0, 1) := by decide +kernel
theorem dX12_truth_19 : decode cX12_truth 19 = .ok (.istore 4, 2) := by decide +kernel
theorem dX12_truth_21 : decode cX12_truth 21 = .ok (.iload 4, 2) := by decide +kernel
theorem dX12_truth_23 : decode cX12_truth 23 = .ok (.aload_n 0, 1) := by decide +kernel
theorem dX12_truth_24 : decode cX12_truth 24 = .ok (.getfield 329, 3) := by decide +kernel
theorem dX12_truth_27 : decode cX12_truth 27 = .ok (.if_icmp .ge 89, 3) := by decide +kernel
theorem dX12_truth_30 : decode cX12_truth 30 = .ok (.aload_n 0, 1) := by decide +kernel
theorem dX12_truth_31 : decode cX12_truth 31 = .ok (.getfield 83, 3) := by decide +kernel
theorem dX12_truth_34 : decode cX12_truth 34 = .ok (.iload 4, 2) := by decide +kernel
theorem dX12_truth_36 : decode cX12_truth 36 = .ok (.iaload, 1) := by decide +kernel
theorem dX12_truth_37 : decode cX12_truth 37 = .ok (.iload_n 2, 1) := by decide +kernel
theorem dX12_truth_38 : decode cX12_truth 38 = .ok (.if_icmp .gt 72, 3) := by decide +kernel
theorem dX12_truth_41 : decode cX12_truth 41 = .ok (.aload_n 0, 1) := by decide +kernel
theorem dX12_truth_42 : decode cX12_truth 42 = .ok (.getfield 74, 3) := by decide +kernel
theorem dX12_truth_45 : decode cX12_truth 45 = .ok (.iload 4, 2) := by decide +kernel
theorem dX12_truth_47 : decode cX12_truth 47 = .ok (.iaload, 1) := by decide +kernel
theorem dX12_truth_48 : decode cX12_truth 48 = .ok (.aload_n 0, 1) := by decide +kernel
theorem dX12_truth_49 : decode cX12_truth 49 = .ok (.getfield 9, 3) := by decide +kernel
theorem dX12_truth_52 : decode cX12_truth 52 = .ok (.aload_n 0, 1) := by decide +kernel
theorem dX12_truth_53 : decode cX12_truth 53 = .ok (.getfield 28, 3) := by decide +kernel
theorem dX12_truth_56 : decode cX12_truth 56 = .ok (.iload_n 1, 1) := by decide +kernel
theorem dX12_truth_57 : decode cX12_truth 57 = .ok (.iaload, 1) := by decide +kernel
theorem dX12_truth_58 : decode cX12_truth 58 = .ok (.iaload, 1) := by decide +kernel
theorem dX12_truth_59 : decode cX12_truth 59 = .ok (.if_icmp .ne 51, 3) := by decide +kernel
theorem dX12_truth_62 : decode cX12_truth 62 = .ok (.aload_n 0, 1) := by decide +kernel
theorem dX12_truth_63 : decode cX12_truth 63 = .ok (.getfield 77, 3) := by decide +kernel
theorem dX12_truth_66 : decode cX12_truth 66 = .ok (.iload 4, 2) := by decide +kernel
theorem dX12_truth_68 : decode cX12_truth 68 = .ok (.iaload, 1) := by decide +kernel
theorem dX12_truth_69 : decode cX12_truth 69 = .ok (.aload_n 0, 1) := by decide +kernel
theorem dX12_truth_70 : decode cX12_truth 70 = .ok (.getfield 31, 3) := by decide +kernel
theorem dX12_truth_73 : decode cX12_truth 73 = .ok (.iload_n 1, 1) := by decide +kernel
theorem dX12_truth_74 : decode cX12_truth 74 = .ok (.iaload, 1) := by decide +kernel
theorem dX12_truth_75 : decode cX12_truth 75 = .ok (.if_icmp .ne 35, 3) := by decide +kernel
theorem dX12_truth_78 : decode cX12_truth 78 = .ok (.aload_n 0, 1) := by decide +kernel
theorem dX12_truth_79 : decode cX12_truth 79 = .ok (.getfield 80, 3) := by decide +kernel
theorem dX12_truth_82 : decode cX12_truth 82 = .ok (.iload 4, 2) := by decide +kernel
theorem dX12_truth_84 : decode cX12_truth 84 = .ok (.iaload, 1) := by decide +kernel
theorem dX12_truth_85 : decode cX12_truth 85 = .ok (.aload_n 0, 1) := by decide +kernel
theorem dX12_truth_86 : decode cX12_truth 86 = .ok (.getfield 34, 3) := by decide +kernel
theorem dX12_truth_89 : decode cX12_truth 89 = .ok (.iload_n 1, 1) := by decide +kernel
theorem dX12_truth_90 : decode cX12_truth 90 = .ok (.iaload, 1) := by decide +kernel
theorem dX12_truth_91 : decode cX12_truth 91 = .ok (.if_icmp .ne 19, 3) := by decide +kernel
theorem dX12_truth_94 : decode cX12_truth 94 = .ok (.aload_n 0, 1) := by decide +kernel
theorem dX12_truth_95 : decode cX12_truth 95 = .ok (.getfield 86, 3) := by decide +kernel
theorem dX12_truth_98 : decode cX12_truth 98 = .ok (.iload 4, 2) := by decide +kernel
theorem dX12_truth_100 : decode cX12_truth 100 = .ok (.baload, 1) := by decide +kernel
theorem dX12_truth_101 : decode cX12_truth 101 = .ok (.ifCond .eq 7, 3) := by decide +kernel
theorem dX12_truth_104 : decode cX12_truth 104 = .ok (.iconst 1, 1) := by decide +kernel
theorem dX12_truth_105 : decode cX12_truth 105 = .ok (.goto 4, 3) := by decide +kernel
theorem dX12_truth_108 : decode cX12_truth 108 = .ok (.iconst 0, 1) := by decide +kernel
theorem dX12_truth_109 : decode cX12_truth 109 = .ok (.istore_n 3, 1) := by decide +kernel
theorem dX12_truth_110 : decode cX12_truth 110 = .ok (.iinc 4 1, 3) := by decide +kernel
theorem dX12_truth_113 : decode cX12_truth 113 = .ok (.goto (-92), 3) := by decide +kernel
theorem dX12_truth_116 : decode cX12_truth 116 = .ok (.iload_n 3, 1) := by decide +kernel
theorem dX12_truth_117 : decode cX12_truth 117 = .ok (.ireturn, 1) := by decide +kernel
theorem dX12_tryTable_0 : decode cX12_tryTable 0 = .ok (.iload_n 2, 1) := by decide +kernel
theorem dX12_tryTable_1 : decode cX12_tryTable 1 = .ok (.aload_n 0, 1) := by decide +kernel
theorem dX12_tryTable_2 : decode cX12_tryTable 2 = .ok (.getfield 372, 3) := by decide +kernel
theorem dX12_tryTable_5 : decode cX12_tryTable 5 = .ok (.iadd, 1) := by decide +kernel
theorem dX12_tryTable_6 : decode cX12_tryTable 6 = .ok (.iload_n 1, 1) := by decide +kernel
theorem dX12_tryTable_7 : decode cX12_tryTable 7 = .ok (.isub, 1) := by decide +kernel
theorem dX12_tryTable_8 : decode cX12_tryTable 8 = .ok (.aload_n 0, 1) := by decide +kernel
theorem dX12_tryTable_9 : decode cX12_tryTable 9 = .ok (.getfield 375, 3) := by decide +kernel
theorem dX12_tryTable_12 : decode cX12_tryTable 12 = .ok (.if_icmp .gt 4, 3) := by decide +kernel
theorem dX12_tryTable_15 : decode cX12_tryTable 15 = .ok (.return_, 1) := by decide +kernel
theorem dX12_tryTable_16 : decode cX12_tryTable 16 = .ok (.iload_n 1, 1) := by decide +kernel
theorem dX12_tryTable_17 : decode cX12_tryTable 17 = .ok (.aload_n 0, 1) := by decide +kernel
theorem dX12_tryTable_18 : decode cX12_tryTable 18 = .ok (.getfield 372, 3) := by decide +kernel
theorem dX12_tryTable_21 : decode cX12_tryTable 21 = .ok (.if_icmp .ne 37, 3) := by decide +kernel
theorem dX12_tryTable_24 : decode cX12_tryTable 24 = .ok (.aload_n 0, 1) := by decide +kernel
theorem dX12_tryTable_25 : decode cX12_tryTable 25 = .ok (.iload_n 2, 1) := by decide +kernel
theorem dX12_tryTable_26 : decode cX12_tryTable 26 = .ok (.putfield 375, 3) := by decide +kernel
theorem dX12_tryTable_29 : decode cX12_tryTable 29 = .ok (.iconst 0, 1) := by decide +kernel
theorem dX12_tryTable_30 : decode cX12_tryTable 30 = .ok (.istore_n 3, 1) := by decide +kernel
theorem dX12_tryTable_31 : decode cX12_tryTable 31 = .ok (.iload_n 3, 1) := by decide +kernel
theorem dX12_tryTable_32 : decode cX12_tryTable 32 = .ok (.aload_n 0, 1) := by decide +kernel
theorem dX12_tryTable_33 : decode cX12_tryTable 33 = .ok (.getfield 372, 3) := by decide +kernel
theorem dX12_tryTable_36 : decode cX12_tryTable 36 = .ok (.if_icmp .ge 21, 3) := by decide +kernel
theorem dX12_tryTable_39 : decode cX12_tryTable 39 = .ok (.aload_n 0, 1) := by decide +kernel
theorem dX12_tryTable_40 : decode cX12_tryTable 40 = .ok (.getfield 126, 3) := by decide +kernel
theorem dX12_tryTable_43 : decode cX12_tryTable 43 = .ok (.iload_n 3, 1) := by decide +kernel
theorem dX12_tryTable_44 : decode cX12_tryTable 44 = .ok (.aload_n 0, 1) := by decide +kernel
theorem dX12_tryTable_45 : decode cX12_tryTable 45 = .ok (.getfield 123, 3) := by decide +kernel
theorem dX12_tryTable_48 : decode cX12_tryTable 48 = .ok (.iload_n 3, 1) := by decide +kernel
theorem dX12_tryTable_49 : decode cX12_tryTable 49 = .ok (.iaload, 1) := by decide +kernel
theorem dX12_tryTable_50 : decode cX12_tryTable 50 = .ok (.iastore, 1) := by decide +kernel
theorem dX12_tryTable_51 : decode cX12_tryTable 51 = .ok (.iinc 3 1, 3) := by decide +kernel
theorem dX12_tryTable_54 : decode cX12_tryTable 54 = .ok (.goto (-23), 3) := by decide +kernel
theorem dX12_tryTable_57 : decode cX12_tryTable 57 = .ok (.return_, 1) := by decide +kernel
theorem dX12_tryTable_58 : decode cX12_tryTable 58 = .ok (.iconst 0, 1) := by decide +kernel
theorem dX12_tryTable_59 : decode cX12_tryTable 59 = .ok (.istore_n 3, 1) := by decide +kernel
theorem dX12_tryTable_60 : decode cX12_tryTable 60 = .ok (.iload_n 3, 1) := by decide +kernel
theorem dX12_tryTable_61 : decode cX12_tryTable 61 = .ok (.aload_n 0, 1) := by decide +kernel
theorem dX12_tryTable_62 : decode cX12_tryTable 62 = .ok (.getfield 369, 3) := by decide +kernel
theorem dX12_tryTable_65 : decode cX12_tryTable 65 = .ok (.if_icmp .ge 38, 3) := by decide +kernel
theorem dX12_tryTable_68 : decode cX12_tryTable 68 = .ok (.aload_n 0, 1) := by decide +kernel
theorem dX12_tryTable_69 : decode cX12_tryTable 69 = .ok (.iload_n 3, 1) := by decide +kernel
theorem dX12_tryTable_70 : decode cX12_tryTable 70 = .ok (.iload_n 1, 1) := by decide +kernel
theorem dX12_tryTable_71 : decode cX12_tryTable 71 = .ok (.invokevirtual 378, 3) := by decide +kernel
theorem dX12_tryTable_74 : decode cX12_tryTable 74 = .ok (.ifCond .ne 6, 3) := by decide +kernel
theorem dX12_tryTable_77 : decode cX12_tryTable 77 = .ok (.goto 20, 3) := by decide +kernel
theorem dX12_tryTable_80 : decode cX12_tryTable 80 = .ok (.aload_n 0, 1) := by decide +kernel
theorem dX12_tryTable_81 : decode cX12_tryTable 81 = .ok (.getfield 123, 3) := by decide +kernel
theorem dX12_tryTable_84 : decode cX12_tryTable 84 = .ok (.iload_n 1, 1) := by decide +kernel
theorem dX12_tryTable_85 : decode cX12_tryTable 85 = .ok (.iload_n 3, 1) := by decide +kernel
theorem dX12_tryTable_86 : decode cX12_tryTable 86 = .ok (.iastore, 1) := by decide +kernel
theorem dX12_tryTable_87 : decode cX12_tryTable 87 = .ok (.aload_n 0, 1) := by decide +kernel
theorem dX12_tryTable_88 : decode cX12_tryTable 88 = .ok (.iload_n 1, 1) := by decide +kernel
theorem dX12_tryTable_89 : decode cX12_tryTable 89 = .ok (.iconst 1, 1) := by decide +kernel
theorem dX12_tryTable_90 : decode cX12_tryTable 90 = .ok (.iadd, 1) := by decide +kernel
theorem dX12_tryTable_91 : decode cX12_tryTable 91 = .ok (.iload_n 2, 1) := by decide +kernel
theorem dX12_tryTable_92 : decode cX12_tryTable 92 = .ok (.iconst 1, 1) := by decide +kernel
theorem dX12_tryTable_93 : decode cX12_tryTable 93 = .ok (.iadd, 1) := by decide +kernel
theorem dX12_tryTable_94 : decode cX12_tryTable 94 = .ok (.invokevirtual 381, 3) := by decide +kernel
theorem dX12_tryTable_97 : decode cX12_tryTable 97 = .ok (.iinc 3 1, 3) := by decide +kernel
theorem dX12_tryTable_100 : decode cX12_tryTable 100 = .ok (.goto (-40), 3) := by decide +kernel
theorem dX12_tryTable_103 : decode cX12_tryTable 103 = .ok (.aload_n 0, 1) := by decide +kernel
theorem dX12_tryTable_104 : decode cX12_tryTable 104 = .ok (.getfield 123, 3) := by decide +kernel
theorem dX12_tryTable_107 : decode cX12_tryTable 107 = .ok (.iload_n 1, 1) := by decide +kernel
theorem dX12_tryTable_108 : decode cX12_tryTable 108 = .ok (.iconst (-1), 1) := by decide +kernel
theorem dX12_tryTable_109 : decode cX12_tryTable 109 = .ok (.iastore, 1) := by decide +kernel
theorem dX12_tryTable_110 : decode cX12_tryTable 110 = .ok (.aload_n 0, 1) := by decide +kernel
theorem dX12_tryTable_111 : decode cX12_tryTable 111 = .ok (.iload_n 1, 1) := by decide +kernel
theorem dX12_tryTable_112 : decode cX12_tryTable 112 = .ok (.iconst 1, 1) := by decide +kernel
theorem dX12_tryTable_113 : decode cX12_tryTable 113 = .ok (.iadd, 1) := by decide +kernel
theorem dX12_tryTable_114 : decode cX12_tryTable 114 = .ok (.iload_n 2, 1) := by decide +kernel
theorem dX12_tryTable_115 : decode cX12_tryTable 115 = .ok (.invokevirtual 381, 3) := by decide +kernel
theorem dX12_tryTable_118 : decode cX12_tryTable 118 = .ok (.return_, 1) := by decide +kernel
theorem dX12_turn_0 : decode cX12_turn 0 = .ok (.aload_n 0, 1) := by decide +kernel
theorem dX12_turn_1 : decode cX12_turn 1 = .ok (.iconst 0, 1) := by decide +kernel
theorem dX12_turn_2 : decode cX12_turn 2 = .ok (.putfield 138, 3) := by decide +kernel
theorem dX12_turn_5 : decode cX12_turn 5 = .ok (.iload_n 1, 1) := by decide +kernel
theorem dX12_turn_6 : decode cX12_turn 6 = .ok (.invokestatic 175, 3) := by decide +kernel
theorem dX12_turn_9 : decode cX12_turn 9 = .ok (.ifCond .eq 33, 3) := by decide +kernel
theorem dX12_turn_12 : decode cX12_turn 12 = .ok (.iload_n 2, 1) := by decide +kernel
theorem dX12_turn_13 : decode cX12_turn 13 = .ok (.invokestatic 175, 3) := by decide +kernel
theorem dX12_turn_16 : decode cX12_turn 16 = .ok (.ifCond .eq 26, 3) := by decide +kernel
theorem dX12_turn_19 : decode cX12_turn 19 = .ok (.iload_n 2, 1) := by decide +kernel
theorem dX12_turn_20 : decode cX12_turn 20 = .ok (.iload_n 1, 1) := by decide +kernel
theorem dX12_turn_21 : decode cX12_turn 21 = .ok (.if_icmp .le 21, 3) := by decide +kernel
theorem dX12_turn_24 : decode cX12_turn 24 = .ok (.aload_n 0, 1) := by decide +kernel
theorem dX12_turn_25 : decode cX12_turn 25 = .ok (.iload_n 3, 1) := by decide +kernel
theorem dX12_turn_26 : decode cX12_turn 26 = .ok (.invokevirtual 159, 3) := by decide +kernel
theorem dX12_turn_29 : decode cX12_turn 29 = .ok (.ifCond .eq 13, 3) := by decide +kernel
theorem dX12_turn_32 : decode cX12_turn 32 = .ok (.iload 4, 2) := by decide +kernel
theorem dX12_turn_34 : decode cX12_turn 34 = .ok (.iconst 0, 1) := by decide +kernel
theorem dX12_turn_35 : decode cX12_turn 35 = .ok (.iconst 1, 1) := by decide +kernel
theorem dX12_turn_36 : decode cX12_turn 36 = .ok (.invokestatic 145, 3) := by decide +kernel
theorem dX12_turn_39 : decode cX12_turn 39 = .ok (.ifCond .ne 5, 3) := by decide +kernel
theorem dX12_turn_42 : decode cX12_turn 42 = .ok (.iconst (-1), 1) := by decide +kernel
theorem dX12_turn_43 : decode cX12_turn 43 = .ok (.ireturn, 1) := by decide +kernel
theorem dX12_turn_44 : decode cX12_turn 44 = .ok (.aload_n 0, 1) := by decide +kernel
theorem dX12_turn_45 : decode cX12_turn 45 = .ok (.iconst 0, 1) := by decide +kernel
theorem dX12_turn_46 : decode cX12_turn 46 = .ok (.putfield 353, 3) := by decide +kernel
theorem dX12_turn_49 : decode cX12_turn 49 = .ok (.iload_n 1, 1) := by decide +kernel
theorem dX12_turn_50 : decode cX12_turn 50 = .ok (.istore 5, 2) := by decide +kernel
theorem dX12_turn_52 : decode cX12_turn 52 = .ok (.iload 5, 2) := by decide +kernel
theorem dX12_turn_54 : decode cX12_turn 54 = .ok (.iload_n 2, 1) := by decide +kernel
theorem dX12_turn_55 : decode cX12_turn 55 = .ok (.if_icmp .gt 79, 3) := by decide +kernel
theorem dX12_turn_58 : decode cX12_turn 58 = .ok (.iconst 0, 1) := by decide +kernel
theorem dX12_turn_59 : decode cX12_turn 59 = .ok (.istore 6, 2) := by decide +kernel
theorem dX12_turn_61 : decode cX12_turn 61 = .ok (.iload 6, 2) := by decide +kernel
theorem dX12_turn_63 : decode cX12_turn 63 = .ok (.aload_n 0, 1) := by decide +kernel
theorem dX12_turn_64 : decode cX12_turn 64 = .ok (.getfield 152, 3) := by decide +kernel
theorem dX12_turn_67 : decode cX12_turn 67 = .ok (.if_icmp .ge 61, 3) := by decide +kernel
theorem dX12_turn_70 : decode cX12_turn 70 = .ok (.aload_n 0, 1) := by decide +kernel
theorem dX12_turn_71 : decode cX12_turn 71 = .ok (.getfield 31, 3) := by decide +kernel
theorem dX12_turn_74 : decode cX12_turn 74 = .ok (.iload 6, 2) := by decide +kernel
theorem dX12_turn_76 : decode cX12_turn 76 = .ok (.iaload, 1) := by decide +kernel
theorem dX12_turn_77 : decode cX12_turn 77 = .ok (.iload 5, 2) := by decide +kernel
theorem dX12_turn_79 : decode cX12_turn 79 = .ok (.if_icmp .ne 43, 3) := by decide +kernel
theorem dX12_turn_82 : decode cX12_turn 82 = .ok (.aload_n 0, 1) := by decide +kernel
theorem dX12_turn_83 : decode cX12_turn 83 = .ok (.getfield 46, 3) := by decide +kernel
theorem dX12_turn_86 : decode cX12_turn 86 = .ok (.iload 6, 2) := by decide +kernel
theorem dX12_turn_88 : decode cX12_turn 88 = .ok (.iaload, 1) := by decide +kernel
theorem dX12_turn_89 : decode cX12_turn 89 = .ok (.iload_n 3, 1) := by decide +kernel
theorem dX12_turn_90 : decode cX12_turn 90 = .ok (.if_icmp .le 6, 3) := by decide +kernel
theorem dX12_turn_93 : decode cX12_turn 93 = .ok (.goto 29, 3) := by decide +kernel
theorem dX12_turn_96 : decode cX12_turn 96 = .ok (.aload_n 0, 1) := by decide +kernel
theorem dX12_turn_97 : decode cX12_turn 97 = .ok (.getfield 108, 3) := by decide +kernel
theorem dX12_turn_100 : decode cX12_turn 100 = .ok (.aload_n 0, 1) := by decide +kernel
theorem dX12_turn_101 : decode cX12_turn 101 = .ok (.getfield 353, 3) := by decide +kernel
theorem dX12_turn_104 : decode cX12_turn 104 = .ok (.aload_n 0, 1) := by decide +kernel
theorem dX12_turn_105 : decode cX12_turn 105 = .ok (.getfield 37, 3) := by decide +kernel
theorem dX12_turn_108 : decode cX12_turn 108 = .ok (.iload 6, 2) := by decide +kernel
theorem dX12_turn_110 : decode cX12_turn 110 = .ok (.iaload, 1) := by decide +kernel
theorem dX12_turn_111 : decode cX12_turn 111 = .ok (.iastore, 1) := by decide +kernel
theorem dX12_turn_112 : decode cX12_turn 112 = .ok (.aload_n 0, 1) := by decide +kernel
theorem dX12_turn_113 : decode cX12_turn 113 = .ok (.dup, 1) := by decide +kernel
theorem dX12_turn_114 : decode cX12_turn 114 = .ok (.getfield 353, 3) := by decide +kernel
theorem dX12_turn_117 : decode cX12_turn 117 = .ok (.iconst 1, 1) := by decide +kernel
theorem dX12_turn_118 : decode cX12_turn 118 = .ok (.iadd, 1) := by decide +kernel
theorem dX12_turn_119 : decode cX12_turn 119 = .ok (.putfield 353, 3) := by decide +kernel
theorem dX12_turn_122 : decode cX12_turn 122 = .ok (.iinc 6 1, 3) := by decide +kernel
theorem dX12_turn_125 : decode cX12_turn 125 = .ok (.goto (-64), 3) := by decide +kernel
theorem dX12_turn_128 : decode cX12_turn 128 = .ok (.iinc 5 1, 3) := by decide +kernel
theorem dX12_turn_131 : decode cX12_turn 131 = .ok (.goto (-79), 3) := by decide +kernel
theorem dX12_turn_134 : decode cX12_turn 134 = .ok (.iconst (-1), 1) := by decide +kernel
theorem dX12_turn_135 : decode cX12_turn 135 = .ok (.istore 5, 2) := by decide +kernel
theorem dX12_turn_137 : decode cX12_turn 137 = .ok (.iconst 0, 1) := by decide +kernel
theorem dX12_turn_138 : decode cX12_turn 138 = .ok (.istore 6, 2) := by decide +kernel
theorem dX12_turn_140 : decode cX12_turn 140 = .ok (.iconst 0, 1) := by decide +kernel
theorem dX12_turn_141 : decode cX12_turn 141 = .ok (.istore 7, 2) := by decide +kernel
theorem dX12_turn_143 : decode cX12_turn 143 = .ok (.iload_n 1, 1) := by decide +kernel
theorem dX12_turn_144 : decode cX12_turn 144 = .ok (.iconst 1, 1) := by decide +kernel
theorem dX12_turn_145 : decode cX12_turn 145 = .ok (.iadd, 1) := by decide +kernel
theorem dX12_turn_146 : decode cX12_turn 146 = .ok (.istore 8, 2) := by decide +kernel
theorem dX12_turn_148 : decode cX12_turn 148 = .ok (.iload 8, 2) := by decide +kernel
theorem dX12_turn_150 : decode cX12_turn 150 = .ok (.iload_n 2, 1) := by decide +kernel
theorem dX12_turn_151 : decode cX12_turn 151 = .ok (.if_icmp .gt 140, 3) := by decide +kernel
theorem dX12_turn_154 : decode cX12_turn 154 = .ok (.iconst 0, 1) := by decide +kernel
theorem dX12_turn_155 : decode cX12_turn 155 = .ok (.istore 9, 2) := by decide +kernel
theorem dX12_turn_157 : decode cX12_turn 157 = .ok (.iload 9, 2) := by decide +kernel
theorem dX12_turn_159 : decode cX12_turn 159 = .ok (.aload_n 0, 1) := by decide +kernel
theorem dX12_turn_160 : decode cX12_turn 160 = .ok (.getfield 152, 3) := by decide +kernel
theorem dX12_turn_163 : decode cX12_turn 163 = .ok (.if_icmp .ge 44, 3) := by decide +kernel
theorem dX12_turn_166 : decode cX12_turn 166 = .ok (.iload 7, 2) := by decide +kernel
theorem dX12_turn_168 : decode cX12_turn 168 = .ok (.aload_n 0, 1) := by decide +kernel
theorem dX12_turn_169 : decode cX12_turn 169 = .ok (.getfield 31, 3) := by decide +kernel
theorem dX12_turn_172 : decode cX12_turn 172 = .ok (.iload 9, 2) := by decide +kernel
theorem dX12_turn_174 : decode cX12_turn 174 = .ok (.iaload, 1) := by decide +kernel
theorem dX12_turn_175 : decode cX12_turn 175 = .ok (.iload 8, 2) := by decide +kernel
theorem dX12_turn_177 : decode cX12_turn 177 = .ok (.iconst 1, 1) := by decide +kernel
theorem dX12_turn_178 : decode cX12_turn 178 = .ok (.isub, 1) := by decide +kernel
theorem dX12_turn_179 : decode cX12_turn 179 = .ok (.if_icmp .ne 18, 3) := by decide +kernel
theorem dX12_turn_182 : decode cX12_turn 182 = .ok (.aload_n 0, 1) := by decide +kernel
theorem dX12_turn_183 : decode cX12_turn 183 = .ok (.getfield 46, 3) := by decide +kernel
theorem dX12_turn_186 : decode cX12_turn 186 = .ok (.iload 9, 2) := by decide +kernel
theorem dX12_turn_188 : decode cX12_turn 188 = .ok (.iaload, 1) := by decide +kernel
theorem dX12_turn_189 : decode cX12_turn 189 = .ok (.iload_n 3, 1) := by decide +kernel
theorem dX12_turn_190 : decode cX12_turn 190 = .ok (.if_icmp .gt 7, 3) := by decide +kernel
theorem dX12_turn_193 : decode cX12_turn 193 = .ok (.iconst 1, 1) := by decide +kernel
theorem dX12_turn_194 : decode cX12_turn 194 = .ok (.goto 4, 3) := by decide +kernel
theorem dX12_turn_197 : decode cX12_turn 197 = .ok (.iconst 0, 1) := by decide +kernel
theorem dX12_turn_198 : decode cX12_turn 198 = .ok (.iadd, 1) := by decide +kernel
theorem dX12_turn_199 : decode cX12_turn 199 = .ok (.istore 7, 2) := by decide +kernel
theorem dX12_turn_201 : decode cX12_turn 201 = .ok (.iinc 9 1, 3) := by decide +kernel
theorem dX12_turn_204 : decode cX12_turn 204 = .ok (.goto (-47), 3) := by decide +kernel
theorem dX12_turn_207 : decode cX12_turn 207 = .ok (.iload 7, 2) := by decide +kernel
theorem dX12_turn_209 : decode cX12_turn 209 = .ok (.ifCond .eq 76, 3) := by decide +kernel
theorem dX12_turn_212 : decode cX12_turn 212 = .ok (.iload 7, 2) := by decide +kernel
theorem dX12_turn_214 : decode cX12_turn 214 = .ok (.aload_n 0, 1) := by decide +kernel
theorem dX12_turn_215 : decode cX12_turn 215 = .ok (.getfield 353, 3) := by decide +kernel
theorem dX12_turn_218 : decode cX12_turn 218 = .ok (.if_icmp .ne 6, 3) := by decide +kernel
theorem dX12_turn_221 : decode cX12_turn 221 = .ok (.goto 64, 3) := by decide +kernel
theorem dX12_turn_224 : decode cX12_turn 224 = .ok (.iload 5, 2) := by decide +kernel
theorem dX12_turn_226 : decode cX12_turn 226 = .ok (.iconst (-1), 1) := by decide +kernel
theorem dX12_turn_227 : decode cX12_turn 227 = .ok (.if_icmp .eq 50, 3) := by decide +kernel
theorem dX12_turn_230 : decode cX12_turn 230 = .ok (.aload_n 0, 1) := by decide +kernel
theorem dX12_turn_231 : decode cX12_turn 231 = .ok (.iload 7, 2) := by decide +kernel
theorem dX12_turn_233 : decode cX12_turn 233 = .ok (.iconst 0, 1) := by decide +kernel
theorem dX12_turn_234 : decode cX12_turn 234 = .ok (.invokevirtual 359, 3) := by decide +kernel
theorem dX12_turn_237 : decode cX12_turn 237 = .ok (.iload 6, 2) := by decide +kernel
theorem dX12_turn_239 : decode cX12_turn 239 = .ok (.i2l, 1) := by decide +kernel
theorem dX12_turn_240 : decode cX12_turn 240 = .ok (.lmul, 1) := by decide +kernel
theorem dX12_turn_241 : decode cX12_turn 241 = .ok (.aload_n 0, 1) := by decide +kernel
theorem dX12_turn_242 : decode cX12_turn 242 = .ok (.getfield 353, 3) := by decide +kernel
theorem dX12_turn_245 : decode cX12_turn 245 = .ok (.iload 6, 2) := by decide +kernel
theorem dX12_turn_247 : decode cX12_turn 247 = .ok (.isub, 1) := by decide +kernel
theorem dX12_turn_248 : decode cX12_turn 248 = .ok (.i2l, 1) := by decide +kernel
theorem dX12_turn_249 : decode cX12_turn 249 = .ok (.lmul, 1) := by decide +kernel
theorem dX12_turn_250 : decode cX12_turn 250 = .ok (.aload_n 0, 1) := by decide +kernel
theorem dX12_turn_251 : decode cX12_turn 251 = .ok (.iload 6, 2) := by decide +kernel
theorem dX12_turn_253 : decode cX12_turn 253 = .ok (.iconst 0, 1) := by decide +kernel
theorem dX12_turn_254 : decode cX12_turn 254 = .ok (.invokevirtual 359, 3) := by decide +kernel
theorem dX12_turn_257 : decode cX12_turn 257 = .ok (.iload 7, 2) := by decide +kernel
theorem dX12_turn_259 : decode cX12_turn 259 = .ok (.i2l, 1) := by decide +kernel
theorem dX12_turn_260 : decode cX12_turn 260 = .ok (.lmul, 1) := by decide +kernel
theorem dX12_turn_261 : decode cX12_turn 261 = .ok (.aload_n 0, 1) := by decide +kernel
theorem dX12_turn_262 : decode cX12_turn 262 = .ok (.getfield 353, 3) := by decide +kernel
theorem dX12_turn_265 : decode cX12_turn 265 = .ok (.iload 7, 2) := by decide +kernel
theorem dX12_turn_267 : decode cX12_turn 267 = .ok (.isub, 1) := by decide +kernel
theorem dX12_turn_268 : decode cX12_turn 268 = .ok (.i2l, 1) := by decide +kernel
theorem dX12_turn_269 : decode cX12_turn 269 = .ok (.lmul, 1) := by decide +kernel
theorem dX12_turn_270 : decode cX12_turn 270 = .ok (.lcmp, 1) := by decide +kernel
theorem dX12_turn_271 : decode cX12_turn 271 = .ok (.ifCond .gt 6, 3) := by decide +kernel
theorem dX12_turn_274 : decode cX12_turn 274 = .ok (.goto 11, 3) := by decide +kernel
theorem dX12_turn_277 : decode cX12_turn 277 = .ok (.iload 8, 2) := by decide +kernel
theorem dX12_turn_279 : decode cX12_turn 279 = .ok (.istore 5, 2) := by decide +kernel
theorem dX12_turn_281 : decode cX12_turn 281 = .ok (.iload 7, 2) := by decide +kernel
theorem dX12_turn_283 : decode cX12_turn 283 = .ok (.istore 6, 2) := by decide +kernel
theorem dX12_turn_285 : decode cX12_turn 285 = .ok (.iinc 8 1, 3) := by decide +kernel
theorem dX12_turn_288 : decode cX12_turn 288 = .ok (.goto (-140), 3) := by decide +kernel
theorem dX12_turn_291 : decode cX12_turn 291 = .ok (.iload 5, 2) := by decide +kernel
theorem dX12_turn_293 : decode cX12_turn 293 = .ok (.iconst (-1), 1) := by decide +kernel
theorem dX12_turn_294 : decode cX12_turn 294 = .ok (.if_icmp .eq 8, 3) := by decide +kernel
theorem dX12_turn_297 : decode cX12_turn 297 = .ok (.iload 4, 2) := by decide +kernel
theorem dX12_turn_299 : decode cX12_turn 299 = .ok (.ifCond .ne 6, 3) := by decide +kernel
theorem dX12_turn_302 : decode cX12_turn 302 = .ok (.iload 5, 2) := by decide +kernel
theorem dX12_turn_304 : decode cX12_turn 304 = .ok (.ireturn, 1) := by decide +kernel
theorem dX12_turn_305 : decode cX12_turn 305 = .ok (.iconst 0, 1) := by decide +kernel
theorem dX12_turn_306 : decode cX12_turn 306 = .ok (.istore 8, 2) := by decide +kernel
theorem dX12_turn_308 : decode cX12_turn 308 = .ok (.iconst 0, 1) := by decide +kernel
theorem dX12_turn_309 : decode cX12_turn 309 = .ok (.istore 9, 2) := by decide +kernel
theorem dX12_turn_311 : decode cX12_turn 311 = .ok (.iload 9, 2) := by decide +kernel
theorem dX12_turn_313 : decode cX12_turn 313 = .ok (.aload_n 0, 1) := by decide +kernel
theorem dX12_turn_314 : decode cX12_turn 314 = .ok (.getfield 353, 3) := by decide +kernel
theorem dX12_turn_317 : decode cX12_turn 317 = .ok (.if_icmp .ge 38, 3) := by decide +kernel
theorem dX12_turn_320 : decode cX12_turn 320 = .ok (.iload 8, 2) := by decide +kernel
theorem dX12_turn_322 : decode cX12_turn 322 = .ok (.aload_n 0, 1) := by decide +kernel
theorem dX12_turn_323 : decode cX12_turn 323 = .ok (.iload 6, 2) := by decide +kernel
theorem dX12_turn_325 : decode cX12_turn 325 = .ok (.iload 9, 2) := by decide +kernel
theorem dX12_turn_327 : decode cX12_turn 327 = .ok (.invokevirtual 359, 3) := by decide +kernel
theorem dX12_turn_330 : decode cX12_turn 330 = .ok (.aload_n 0, 1) := by decide +kernel
theorem dX12_turn_331 : decode cX12_turn 331 = .ok (.iload 6, 2) := by decide +kernel
theorem dX12_turn_333 : decode cX12_turn 333 = .ok (.iconst 0, 1) := by decide +kernel
theorem dX12_turn_334 : decode cX12_turn 334 = .ok (.invokevirtual 359, 3) := by decide +kernel
theorem dX12_turn_337 : decode cX12_turn 337 = .ok (.lcmp, 1) := by decide +kernel
theorem dX12_turn_338 : decode cX12_turn 338 = .ok (.ifCond .lt 7, 3) := by decide +kernel
theorem dX12_turn_341 : decode cX12_turn 341 = .ok (.iconst 1, 1) := by decide +kernel
theorem dX12_turn_342 : decode cX12_turn 342 = .ok (.goto 4, 3) := by decide +kernel
theorem dX12_turn_345 : decode cX12_turn 345 = .ok (.iconst 0, 1) := by decide +kernel
theorem dX12_turn_346 : decode cX12_turn 346 = .ok (.iadd, 1) := by decide +kernel
theorem dX12_turn_347 : decode cX12_turn 347 = .ok (.istore 8, 2) := by decide +kernel
theorem dX12_turn_349 : decode cX12_turn 349 = .ok (.iinc 9 1, 3) := by decide +kernel
theorem dX12_turn_352 : decode cX12_turn 352 = .ok (.goto (-41), 3) := by decide +kernel
theorem dX12_turn_355 : decode cX12_turn 355 = .ok (.iload 8, 2) := by decide +kernel
theorem dX12_turn_357 : decode cX12_turn 357 = .ok (.ireturn, 1) := by decide +kernel
theorem dX12_unit_0 : decode cX12_unit 0 = .ok (.aload_n 0, 1) := by decide +kernel
theorem dX12_unit_1 : decode cX12_unit 1 = .ok (.invokevirtual 208, 3) := by decide +kernel
theorem dX12_unit_4 : decode cX12_unit 4 = .ok (.istore_n 1, 1) := by decide +kernel
theorem dX12_unit_5 : decode cX12_unit 5 = .ok (.iload_n 1, 1) := by decide +kernel
theorem dX12_unit_6 : decode cX12_unit 6 = .ok (.bipush 33, 2) := by decide +kernel
theorem dX12_unit_8 : decode cX12_unit 8 = .ok (.if_icmp .ne 37, 3) := by decide +kernel
theorem dX12_unit_11 : decode cX12_unit 11 = .ok (.aload_n 0, 1) := by decide +kernel
theorem dX12_unit_12 : decode cX12_unit 12 = .ok (.invokevirtual 232, 3) := by decide +kernel
theorem dX12_unit_15 : decode cX12_unit 15 = .ok (.ifCond .ne 5, 3) := by decide +kernel
theorem dX12_unit_18 : decode cX12_unit 18 = .ok (.iconst 0, 1) := by decide +kernel
theorem dX12_unit_19 : decode cX12_unit 19 = .ok (.ireturn, 1) := by decide +kernel
theorem dX12_unit_20 : decode cX12_unit 20 = .ok (.aload_n 0, 1) := by decide +kernel
theorem dX12_unit_21 : decode cX12_unit 21 = .ok (.invokevirtual 257, 3) := by decide +kernel
theorem dX12_unit_24 : decode cX12_unit 24 = .ok (.istore_n 2, 1) := by decide +kernel
theorem dX12_unit_25 : decode cX12_unit 25 = .ok (.aload_n 0, 1) := by decide +kernel
theorem dX12_unit_26 : decode cX12_unit 26 = .ok (.dup, 1) := by decide +kernel
theorem dX12_unit_27 : decode cX12_unit 27 = .ok (.getfield 201, 3) := by decide +kernel
theorem dX12_unit_30 : decode cX12_unit 30 = .ok (.iconst 1, 1) := by decide +kernel
theorem dX12_unit_31 : decode cX12_unit 31 = .ok (.isub, 1) := by decide +kernel
theorem dX12_unit_32 : decode cX12_unit 32 = .ok (.putfield 201, 3) := by decide +kernel
theorem dX12_unit_35 : decode cX12_unit 35 = .ok (.iload_n 2, 1) := by decide +kernel
theorem dX12_unit_36 : decode cX12_unit 36 = .ok (.ifCond .ne 7, 3) := by decide +kernel
theorem dX12_unit_39 : decode cX12_unit 39 = .ok (.iconst 1, 1) := by decide +kernel
theorem dX12_unit_40 : decode cX12_unit 40 = .ok (.goto 4, 3) := by decide +kernel
theorem dX12_unit_43 : decode cX12_unit 43 = .ok (.iconst 0, 1) := by decide +kernel
theorem dX12_unit_44 : decode cX12_unit 44 = .ok (.ireturn, 1) := by decide +kernel
theorem dX12_unit_45 : decode cX12_unit 45 = .ok (.iload_n 1, 1) := by decide +kernel
theorem dX12_unit_46 : decode cX12_unit 46 = .ok (.bipush 40, 2) := by decide +kernel
theorem dX12_unit_48 : decode cX12_unit 48 = .ok (.if_icmp .ne 42, 3) := by decide +kernel
theorem dX12_unit_51 : decode cX12_unit 51 = .ok (.aload_n 0, 1) := by decide +kernel
theorem dX12_unit_52 : decode cX12_unit 52 = .ok (.invokevirtual 232, 3) := by decide +kernel
theorem dX12_unit_55 : decode cX12_unit 55 = .ok (.ifCond .ne 5, 3) := by decide +kernel
theorem dX12_unit_58 : decode cX12_unit 58 = .ok (.iconst 0, 1) := by decide +kernel
theorem dX12_unit_59 : decode cX12_unit 59 = .ok (.ireturn, 1) := by decide +kernel
theorem dX12_unit_60 : decode cX12_unit 60 = .ok (.aload_n 0, 1) := by decide +kernel
theorem dX12_unit_61 : decode cX12_unit 61 = .ok (.iconst 0, 1) := by decide +kernel
theorem dX12_unit_62 : decode cX12_unit 62 = .ok (.iconst 0, 1) := by decide +kernel
theorem dX12_unit_63 : decode cX12_unit 63 = .ok (.invokevirtual 260, 3) := by decide +kernel
theorem dX12_unit_66 : decode cX12_unit 66 = .ok (.istore_n 2, 1) := by decide +kernel
theorem dX12_unit_67 : decode cX12_unit 67 = .ok (.aload_n 0, 1) := by decide +kernel
theorem dX12_unit_68 : decode cX12_unit 68 = .ok (.bipush 41, 2) := by decide +kernel
theorem dX12_unit_70 : decode cX12_unit 70 = .ok (.invokevirtual 238, 3) := by decide +kernel
theorem dX12_unit_73 : decode cX12_unit 73 = .ok (.ifCond .ne 5, 3) := by decide +kernel
theorem dX12_unit_76 : decode cX12_unit 76 = .ok (.iconst 0, 1) := by decide +kernel
theorem dX12_unit_77 : decode cX12_unit 77 = .ok (.ireturn, 1) := by decide +kernel
theorem dX12_unit_78 : decode cX12_unit 78 = .ok (.aload_n 0, 1) := by decide +kernel
theorem dX12_unit_79 : decode cX12_unit 79 = .ok (.dup, 1) := by decide +kernel
theorem dX12_unit_80 : decode cX12_unit 80 = .ok (.getfield 201, 3) := by decide +kernel
theorem dX12_unit_83 : decode cX12_unit 83 = .ok (.iconst 1, 1) := by decide +kernel
theorem dX12_unit_84 : decode cX12_unit 84 = .ok (.isub, 1) := by decide +kernel
theorem dX12_unit_85 : decode cX12_unit 85 = .ok (.putfield 201, 3) := by decide +kernel
theorem dX12_unit_88 : decode cX12_unit 88 = .ok (.iload_n 2, 1) := by decide +kernel
theorem dX12_unit_89 : decode cX12_unit 89 = .ok (.ireturn, 1) := by decide +kernel
theorem dX12_unit_90 : decode cX12_unit 90 = .ok (.aload_n 0, 1) := by decide +kernel
theorem dX12_unit_91 : decode cX12_unit 91 = .ok (.iconst 0, 1) := by decide +kernel
theorem dX12_unit_92 : decode cX12_unit 92 = .ok (.iconst 0, 1) := by decide +kernel
theorem dX12_unit_93 : decode cX12_unit 93 = .ok (.invokevirtual 264, 3) := by decide +kernel
theorem dX12_unit_96 : decode cX12_unit 96 = .ok (.ireturn, 1) := by decide +kernel
theorem dX12_want_0 : decode cX12_want 0 = .ok (.aload_n 0, 1) := by decide +kernel
theorem dX12_want_1 : decode cX12_want 1 = .ok (.iconst 0, 1) := by decide +kernel
theorem dX12_want_2 : decode cX12_want 2 = .ok (.putfield 138, 3) := by decide +kernel
theorem dX12_want_5 : decode cX12_want 5 = .ok (.aload_n 0, 1) := by decide +kernel
theorem dX12_want_6 : decode cX12_want 6 = .ok (.getfield 372, 3) := by decide +kernel
theorem dX12_want_9 : decode cX12_want 9 = .ok (.bipush 8, 2) := by decide +kernel
theorem dX12_want_11 : decode cX12_want 11 = .ok (.if_icmp .eq 23, 3) := by decide +kernel
theorem dX12_want_14 : decode cX12_want 14 = .ok (.iload_n 1, 1) := by decide +kernel
theorem dX12_want_15 : decode cX12_want 15 = .ok (.iconst 0, 1) := by decide +kernel
theorem dX12_want_16 : decode cX12_want 16 = .ok (.bipush 7, 2) := by decide +kernel
theorem dX12_want_18 : decode cX12_want 18 = .ok (.invokestatic 145, 3) := by decide +kernel
theorem dX12_want_21 : decode cX12_want 21 = .ok (.ifCond .eq 13, 3) := by decide +kernel
theorem dX12_want_24 : decode cX12_want 24 = .ok (.iload_n 2, 1) := by decide +kernel
theorem dX12_want_25 : decode cX12_want 25 = .ok (.iconst 0, 1) := by decide +kernel
theorem dX12_want_26 : decode cX12_want 26 = .ok (.bipush 23, 2) := by decide +kernel
theorem dX12_want_28 : decode cX12_want 28 = .ok (.invokestatic 145, 3) := by decide +kernel
theorem dX12_want_31 : decode cX12_want 31 = .ok (.ifCond .ne 5, 3) := by decide +kernel
theorem dX12_want_34 : decode cX12_want 34 = .ok (.iconst (-1), 1) := by decide +kernel
theorem dX12_want_35 : decode cX12_want 35 = .ok (.ireturn, 1) := by decide +kernel
theorem dX12_want_36 : decode cX12_want 36 = .ok (.aload_n 0, 1) := by decide +kernel
theorem dX12_want_37 : decode cX12_want 37 = .ok (.getfield 117, 3) := by decide +kernel
theorem dX12_want_40 : decode cX12_want 40 = .ok (.aload_n 0, 1) := by decide +kernel
theorem dX12_want_41 : decode cX12_want 41 = .ok (.getfield 372, 3) := by decide +kernel
theorem dX12_want_44 : decode cX12_want 44 = .ok (.iload_n 1, 1) := by decide +kernel
theorem dX12_want_45 : decode cX12_want 45 = .ok (.iastore, 1) := by decide +kernel
theorem dX12_want_46 : decode cX12_want 46 = .ok (.aload_n 0, 1) := by decide +kernel
theorem dX12_want_47 : decode cX12_want 47 = .ok (.getfield 120, 3) := by decide +kernel
theorem dX12_want_50 : decode cX12_want 50 = .ok (.aload_n 0, 1) := by decide +kernel
theorem dX12_want_51 : decode cX12_want 51 = .ok (.getfield 372, 3) := by decide +kernel
theorem dX12_want_54 : decode cX12_want 54 = .ok (.iload_n 2, 1) := by decide +kernel
theorem dX12_want_55 : decode cX12_want 55 = .ok (.iastore, 1) := by decide +kernel
theorem dX12_want_56 : decode cX12_want 56 = .ok (.aload_n 0, 1) := by decide +kernel
theorem dX12_want_57 : decode cX12_want 57 = .ok (.dup, 1) := by decide +kernel
theorem dX12_want_58 : decode cX12_want 58 = .ok (.getfield 372, 3) := by decide +kernel
theorem dX12_want_61 : decode cX12_want 61 = .ok (.iconst 1, 1) := by decide +kernel
theorem dX12_want_62 : decode cX12_want 62 = .ok (.iadd, 1) := by decide +kernel
theorem dX12_want_63 : decode cX12_want 63 = .ok (.putfield 372, 3) := by decide +kernel
theorem dX12_want_66 : decode cX12_want 66 = .ok (.aload_n 0, 1) := by decide +kernel
theorem dX12_want_67 : decode cX12_want 67 = .ok (.getfield 372, 3) := by decide +kernel
theorem dX12_want_70 : decode cX12_want 70 = .ok (.iconst 1, 1) := by decide +kernel
theorem dX12_want_71 : decode cX12_want 71 = .ok (.isub, 1) := by decide +kernel
theorem dX12_want_72 : decode cX12_want 72 = .ok (.ireturn, 1) := by decide +kernel
theorem dX12_watcher_0 : decode cX12_watcher 0 = .ok (.aload_n 0, 1) := by decide +kernel
theorem dX12_watcher_1 : decode cX12_watcher 1 = .ok (.iconst 0, 1) := by decide +kernel
theorem dX12_watcher_2 : decode cX12_watcher 2 = .ok (.putfield 138, 3) := by decide +kernel
theorem dX12_watcher_5 : decode cX12_watcher 5 = .ok (.aload_n 0, 1) := by decide +kernel
theorem dX12_watcher_6 : decode cX12_watcher 6 = .ok (.getfield 369, 3) := by decide +kernel
theorem dX12_watcher_9 : decode cX12_watcher 9 = .ok (.iconst 4, 1) := by decide +kernel
theorem dX12_watcher_10 : decode cX12_watcher 10 = .ok (.if_icmp .eq 23, 3) := by decide +kernel
theorem dX12_watcher_13 : decode cX12_watcher 13 = .ok (.iload_n 1, 1) := by decide +kernel
theorem dX12_watcher_14 : decode cX12_watcher 14 = .ok (.iconst 0, 1) := by decide +kernel
theorem dX12_watcher_15 : decode cX12_watcher 15 = .ok (.bipush 23, 2) := by decide +kernel
theorem dX12_watcher_17 : decode cX12_watcher 17 = .ok (.invokestatic 145, 3) := by decide +kernel
theorem dX12_watcher_20 : decode cX12_watcher 20 = .ok (.ifCond .eq 13, 3) := by decide +kernel
theorem dX12_watcher_23 : decode cX12_watcher 23 = .ok (.iload_n 2, 1) := by decide +kernel
theorem dX12_watcher_24 : decode cX12_watcher 24 = .ok (.iload_n 1, 1) := by decide +kernel
theorem dX12_watcher_25 : decode cX12_watcher 25 = .ok (.bipush 23, 2) := by decide +kernel
theorem dX12_watcher_27 : decode cX12_watcher 27 = .ok (.invokestatic 145, 3) := by decide +kernel
theorem dX12_watcher_30 : decode cX12_watcher 30 = .ok (.ifCond .ne 5, 3) := by decide +kernel
theorem dX12_watcher_33 : decode cX12_watcher 33 = .ok (.iconst (-1), 1) := by decide +kernel
theorem dX12_watcher_34 : decode cX12_watcher 34 = .ok (.ireturn, 1) := by decide +kernel
theorem dX12_watcher_35 : decode cX12_watcher 35 = .ok (.aload_n 0, 1) := by decide +kernel
theorem dX12_watcher_36 : decode cX12_watcher 36 = .ok (.getfield 111, 3) := by decide +kernel
theorem dX12_watcher_39 : decode cX12_watcher 39 = .ok (.aload_n 0, 1) := by decide +kernel
theorem dX12_watcher_40 : decode cX12_watcher 40 = .ok (.getfield 369, 3) := by decide +kernel
theorem dX12_watcher_43 : decode cX12_watcher 43 = .ok (.iload_n 1, 1) := by decide +kernel
theorem dX12_watcher_44 : decode cX12_watcher 44 = .ok (.iastore, 1) := by decide +kernel
theorem dX12_watcher_45 : decode cX12_watcher 45 = .ok (.aload_n 0, 1) := by decide +kernel
theorem dX12_watcher_46 : decode cX12_watcher 46 = .ok (.getfield 114, 3) := by decide +kernel
theorem dX12_watcher_49 : decode cX12_watcher 49 = .ok (.aload_n 0, 1) := by decide +kernel
theorem dX12_watcher_50 : decode cX12_watcher 50 = .ok (.getfield 369, 3) := by decide +kernel
theorem dX12_watcher_53 : decode cX12_watcher 53 = .ok (.iload_n 2, 1) := by decide +kernel
theorem dX12_watcher_54 : decode cX12_watcher 54 = .ok (.iastore, 1) := by decide +kernel
theorem dX12_watcher_55 : decode cX12_watcher 55 = .ok (.aload_n 0, 1) := by decide +kernel
theorem dX12_watcher_56 : decode cX12_watcher 56 = .ok (.dup, 1) := by decide +kernel
theorem dX12_watcher_57 : decode cX12_watcher 57 = .ok (.getfield 369, 3) := by decide +kernel
theorem dX12_watcher_60 : decode cX12_watcher 60 = .ok (.iconst 1, 1) := by decide +kernel
theorem dX12_watcher_61 : decode cX12_watcher 61 = .ok (.iadd, 1) := by decide +kernel
theorem dX12_watcher_62 : decode cX12_watcher 62 = .ok (.putfield 369, 3) := by decide +kernel
theorem dX12_watcher_65 : decode cX12_watcher 65 = .ok (.aload_n 0, 1) := by decide +kernel
theorem dX12_watcher_66 : decode cX12_watcher 66 = .ok (.getfield 369, 3) := by decide +kernel
theorem dX12_watcher_69 : decode cX12_watcher 69 = .ok (.iconst 1, 1) := by decide +kernel
theorem dX12_watcher_70 : decode cX12_watcher 70 = .ok (.isub, 1) := by decide +kernel
theorem dX12_watcher_71 : decode cX12_watcher 71 = .ok (.ireturn, 1) := by decide +kernel
theorem dX12_way_0 : decode cX12_way 0 = .ok (.aload_n 0, 1) := by decide +kernel
theorem dX12_way_1 : decode cX12_way 1 = .ok (.iconst 0, 1) := by decide +kernel
theorem dX12_way_2 : decode cX12_way 2 = .ok (.putfield 138, 3) := by decide +kernel
theorem dX12_way_5 : decode cX12_way 5 = .ok (.aload_n 0, 1) := by decide +kernel
theorem dX12_way_6 : decode cX12_way 6 = .ok (.iload_n 1, 1) := by decide +kernel
theorem dX12_way_7 : decode cX12_way 7 = .ok (.invokevirtual 165, 3) := by decide +kernel
theorem dX12_way_10 : decode cX12_way 10 = .ok (.ifCond .eq 42, 3) := by decide +kernel
theorem dX12_way_13 : decode cX12_way 13 = .ok (.iload_n 2, 1) := by decide +kernel
theorem dX12_way_14 : decode cX12_way 14 = .ok (.iconst 0, 1) := by decide +kernel
theorem dX12_way_15 : decode cX12_way 15 = .ok (.bipush 29, 2) := by decide +kernel
theorem dX12_way_17 : decode cX12_way 17 = .ok (.invokestatic 145, 3) := by decide +kernel
theorem dX12_way_20 : decode cX12_way 20 = .ok (.ifCond .eq 32, 3) := by decide +kernel
theorem dX12_way_23 : decode cX12_way 23 = .ok (.aload_n 0, 1) := by decide +kernel
theorem dX12_way_24 : decode cX12_way 24 = .ok (.iload_n 3, 1) := by decide +kernel
theorem dX12_way_25 : decode cX12_way 25 = .ok (.invokevirtual 159, 3) := by decide +kernel
theorem dX12_way_28 : decode cX12_way 28 = .ok (.ifCond .eq 24, 3) := by decide +kernel
theorem dX12_way_31 : decode cX12_way 31 = .ok (.iload 4, 2) := by decide +kernel
theorem dX12_way_33 : decode cX12_way 33 = .ok (.iconst 0, 1) := by decide +kernel
theorem dX12_way_34 : decode cX12_way 34 = .ok (.iconst 2, 1) := by decide +kernel
theorem dX12_way_35 : decode cX12_way 35 = .ok (.invokestatic 145, 3) := by decide +kernel
theorem dX12_way_38 : decode cX12_way 38 = .ok (.ifCond .eq 14, 3) := by decide +kernel
theorem dX12_way_41 : decode cX12_way 41 = .ok (.aload_n 0, 1) := by decide +kernel
theorem dX12_way_42 : decode cX12_way 42 = .ok (.iload_n 1, 1) := by decide +kernel
theorem dX12_way_43 : decode cX12_way 43 = .ok (.iload_n 2, 1) := by decide +kernel
theorem dX12_way_44 : decode cX12_way 44 = .ok (.iload_n 3, 1) := by decide +kernel
theorem dX12_way_45 : decode cX12_way 45 = .ok (.invokevirtual 332, 3) := by decide +kernel
theorem dX12_way_48 : decode cX12_way 48 = .ok (.iconst (-1), 1) := by decide +kernel
theorem dX12_way_49 : decode cX12_way 49 = .ok (.if_icmp .ne 5, 3) := by decide +kernel
theorem dX12_way_52 : decode cX12_way 52 = .ok (.iconst (-1), 1) := by decide +kernel
theorem dX12_way_53 : decode cX12_way 53 = .ok (.ireturn, 1) := by decide +kernel
theorem dX12_way_54 : decode cX12_way 54 = .ok (.iconst 0, 1) := by decide +kernel
theorem dX12_way_55 : decode cX12_way 55 = .ok (.istore 5, 2) := by decide +kernel
theorem dX12_way_57 : decode cX12_way 57 = .ok (.iload 5, 2) := by decide +kernel
theorem dX12_way_59 : decode cX12_way 59 = .ok (.aload_n 0, 1) := by decide +kernel
theorem dX12_way_60 : decode cX12_way 60 = .ok (.getfield 149, 3) := by decide +kernel
theorem dX12_way_63 : decode cX12_way 63 = .ok (.if_icmp .ge 17, 3) := by decide +kernel
theorem dX12_way_66 : decode cX12_way 66 = .ok (.aload_n 0, 1) := by decide +kernel
theorem dX12_way_67 : decode cX12_way 67 = .ok (.getfield 90, 3) := by decide +kernel
theorem dX12_way_70 : decode cX12_way 70 = .ok (.iload 5, 2) := by decide +kernel
theorem dX12_way_72 : decode cX12_way 72 = .ok (.iconst 0, 1) := by decide +kernel
theorem dX12_way_73 : decode cX12_way 73 = .ok (.bastore, 1) := by decide +kernel
theorem dX12_way_74 : decode cX12_way 74 = .ok (.iinc 5 1, 3) := by decide +kernel
theorem dX12_way_77 : decode cX12_way 77 = .ok (.goto (-20), 3) := by decide +kernel
theorem dX12_way_80 : decode cX12_way 80 = .ok (.iload_n 1, 1) := by decide +kernel
theorem dX12_way_81 : decode cX12_way 81 = .ok (.istore 5, 2) := by decide +kernel
theorem dX12_way_83 : decode cX12_way 83 = .ok (.iconst 0, 1) := by decide +kernel
theorem dX12_way_84 : decode cX12_way 84 = .ok (.istore 6, 2) := by decide +kernel
theorem dX12_way_86 : decode cX12_way 86 = .ok (.iconst (-1), 1) := by decide +kernel
theorem dX12_way_87 : decode cX12_way 87 = .ok (.istore 7, 2) := by decide +kernel
theorem dX12_way_89 : decode cX12_way 89 = .ok (.iload 7, 2) := by decide +kernel
theorem dX12_way_91 : decode cX12_way 91 = .ok (.iconst (-1), 1) := by decide +kernel
theorem dX12_way_92 : decode cX12_way 92 = .ok (.if_icmp .ne 118, 3) := by decide +kernel
theorem dX12_way_95 : decode cX12_way 95 = .ok (.aload_n 0, 1) := by decide +kernel
theorem dX12_way_96 : decode cX12_way 96 = .ok (.getfield 90, 3) := by decide +kernel
theorem dX12_way_99 : decode cX12_way 99 = .ok (.iload 5, 2) := by decide +kernel
theorem dX12_way_101 : decode cX12_way 101 = .ok (.iconst 1, 1) := by decide +kernel
theorem dX12_way_102 : decode cX12_way 102 = .ok (.bastore, 1) := by decide +kernel
theorem dX12_way_103 : decode cX12_way 103 = .ok (.aload_n 0, 1) := by decide +kernel
theorem dX12_way_104 : decode cX12_way 104 = .ok (.iload 5, 2) := by decide +kernel
theorem dX12_way_106 : decode cX12_way 106 = .ok (.iload_n 2, 1) := by decide +kernel
theorem dX12_way_107 : decode cX12_way 107 = .ok (.iload_n 3, 1) := by decide +kernel
theorem dX12_way_108 : decode cX12_way 108 = .ok (.invokevirtual 332, 3) := by decide +kernel
theorem dX12_way_111 : decode cX12_way 111 = .ok (.istore 8, 2) := by decide +kernel
theorem dX12_way_113 : decode cX12_way 113 = .ok (.aload_n 0, 1) := by decide +kernel
theorem dX12_way_114 : decode cX12_way 114 = .ok (.getfield 43, 3) := by decide +kernel
theorem dX12_way_117 : decode cX12_way 117 = .ok (.iload 8, 2) := by decide +kernel
theorem dX12_way_119 : decode cX12_way 119 = .ok (.iaload, 1) := by decide +kernel
theorem dX12_way_120 : decode cX12_way 120 = .ok (.istore 9, 2) := by decide +kernel
theorem dX12_way_122 : decode cX12_way 122 = .ok (.iload 9, 2) := by decide +kernel
theorem dX12_way_124 : decode cX12_way 124 = .ok (.iconst (-1), 1) := by decide +kernel
theorem dX12_way_125 : decode cX12_way 125 = .ok (.if_icmp .ne 7, 3) := by decide +kernel
theorem dX12_way_128 : decode cX12_way 128 = .ok (.iconst (-1), 1) := by decide +kernel
theorem dX12_way_129 : decode cX12_way 129 = .ok (.goto 11, 3) := by decide +kernel
theorem dX12_way_132 : decode cX12_way 132 = .ok (.aload_n 0, 1) := by decide +kernel
theorem dX12_way_133 : decode cX12_way 133 = .ok (.iload 9, 2) := by decide +kernel
theorem dX12_way_135 : decode cX12_way 135 = .ok (.iload_n 2, 1) := by decide +kernel
theorem dX12_way_136 : decode cX12_way 136 = .ok (.iload_n 3, 1) := by decide +kernel
theorem dX12_way_137 : decode cX12_way 137 = .ok (.invokevirtual 332, 3) := by decide +kernel
theorem dX12_way_140 : decode cX12_way 140 = .ok (.istore 10, 2) := by decide +kernel
theorem dX12_way_142 : decode cX12_way 142 = .ok (.iload 9, 2) := by decide +kernel
theorem dX12_way_144 : decode cX12_way 144 = .ok (.iconst (-1), 1) := by decide +kernel
theorem dX12_way_145 : decode cX12_way 145 = .ok (.if_icmp .ne 9, 3) := by decide +kernel
theorem dX12_way_148 : decode cX12_way 148 = .ok (.iconst 0, 1) := by decide +kernel
theorem dX12_way_149 : decode cX12_way 149 = .ok (.istore 7, 2) := by decide +kernel
theorem dX12_way_151 : decode cX12_way 151 = .ok (.goto 56, 3) := by decide +kernel
theorem dX12_way_154 : decode cX12_way 154 = .ok (.iload 10, 2) := by decide +kernel
theorem dX12_way_156 : decode cX12_way 156 = .ok (.iconst (-1), 1) := by decide +kernel
theorem dX12_way_157 : decode cX12_way 157 = .ok (.if_icmp .eq 20, 3) := by decide +kernel
theorem dX12_way_160 : decode cX12_way 160 = .ok (.aload_n 0, 1) := by decide +kernel
theorem dX12_way_161 : decode cX12_way 161 = .ok (.getfield 31, 3) := by decide +kernel
theorem dX12_way_164 : decode cX12_way 164 = .ok (.iload 10, 2) := by decide +kernel
theorem dX12_way_166 : decode cX12_way 166 = .ok (.iaload, 1) := by decide +kernel
theorem dX12_way_167 : decode cX12_way 167 = .ok (.aload_n 0, 1) := by decide +kernel
theorem dX12_way_168 : decode cX12_way 168 = .ok (.getfield 31, 3) := by decide +kernel
theorem dX12_way_171 : decode cX12_way 171 = .ok (.iload 8, 2) := by decide +kernel
theorem dX12_way_173 : decode cX12_way 173 = .ok (.iaload, 1) := by decide +kernel
theorem dX12_way_174 : decode cX12_way 174 = .ok (.if_icmp .le 9, 3) := by decide +kernel
theorem dX12_way_177 : decode cX12_way 177 = .ok (.iconst 1, 1) := by decide +kernel
theorem dX12_way_178 : decode cX12_way 178 = .ok (.istore 7, 2) := by decide +kernel
theorem dX12_way_180 : decode cX12_way 180 = .ok (.goto 27, 3) := by decide +kernel
theorem dX12_way_183 : decode cX12_way 183 = .ok (.aload_n 0, 1) := by decide +kernel
theorem dX12_way_184 : decode cX12_way 184 = .ok (.getfield 90, 3) := by decide +kernel
theorem dX12_way_187 : decode cX12_way 187 = .ok (.iload 9, 2) := by decide +kernel
theorem dX12_way_189 : decode cX12_way 189 = .ok (.baload, 1) := by decide +kernel
theorem dX12_way_190 : decode cX12_way 190 = .ok (.ifCond .eq 7, 3) := by decide +kernel
theorem dX12_way_193 : decode cX12_way 193 = .ok (.iconst 2, 1) := by decide +kernel
theorem dX12_way_194 : decode cX12_way 194 = .ok (.goto 4, 3) := by decide +kernel
theorem dX12_way_197 : decode cX12_way 197 = .ok (.iconst (-1), 1) := by decide +kernel
theorem dX12_way_198 : decode cX12_way 198 = .ok (.istore 7, 2) := by decide +kernel
theorem dX12_way_200 : decode cX12_way 200 = .ok (.iload 9, 2) := by decide +kernel
theorem dX12_way_202 : decode cX12_way 202 = .ok (.istore 5, 2) := by decide +kernel
theorem dX12_way_204 : decode cX12_way 204 = .ok (.iinc 6 1, 3) := by decide +kernel
theorem dX12_way_207 : decode cX12_way 207 = .ok (.goto (-118), 3) := by decide +kernel
theorem dX12_way_210 : decode cX12_way 210 = .ok (.iload 4, 2) := by decide +kernel
theorem dX12_way_212 : decode cX12_way 212 = .ok (.ifCond .ne 8, 3) := by decide +kernel
theorem dX12_way_215 : decode cX12_way 215 = .ok (.iload 5, 2) := by decide +kernel
theorem dX12_way_217 : decode cX12_way 217 = .ok (.goto 16, 3) := by decide +kernel
theorem dX12_way_220 : decode cX12_way 220 = .ok (.iload 4, 2) := by decide +kernel
theorem dX12_way_222 : decode cX12_way 222 = .ok (.iconst 1, 1) := by decide +kernel
theorem dX12_way_223 : decode cX12_way 223 = .ok (.if_icmp .ne 8, 3) := by decide +kernel
theorem dX12_way_226 : decode cX12_way 226 = .ok (.iload 7, 2) := by decide +kernel
theorem dX12_way_228 : decode cX12_way 228 = .ok (.goto 5, 3) := by decide +kernel
theorem dX12_way_231 : decode cX12_way 231 = .ok (.iload 6, 2) := by decide +kernel
theorem dX12_way_233 : decode cX12_way 233 = .ok (.ireturn, 1) := by decide +kernel
theorem dX12_wordOf_0 : decode cX12_wordOf 0 = .ok (.iconst (-1), 1) := by decide +kernel
theorem dX12_wordOf_1 : decode cX12_wordOf 1 = .ok (.istore 4, 2) := by decide +kernel
theorem dX12_wordOf_3 : decode cX12_wordOf 3 = .ok (.iconst 0, 1) := by decide +kernel
theorem dX12_wordOf_4 : decode cX12_wordOf 4 = .ok (.istore 5, 2) := by decide +kernel
theorem dX12_wordOf_6 : decode cX12_wordOf 6 = .ok (.iload 5, 2) := by decide +kernel
theorem dX12_wordOf_8 : decode cX12_wordOf 8 = .ok (.aload_n 0, 1) := by decide +kernel
theorem dX12_wordOf_9 : decode cX12_wordOf 9 = .ok (.getfield 152, 3) := by decide +kernel
theorem dX12_wordOf_12 : decode cX12_wordOf 12 = .ok (.if_icmp .ge 69, 3) := by decide +kernel
theorem dX12_wordOf_15 : decode cX12_wordOf 15 = .ok (.aload_n 0, 1) := by decide +kernel
theorem dX12_wordOf_16 : decode cX12_wordOf 16 = .ok (.getfield 28, 3) := by decide +kernel
theorem dX12_wordOf_19 : decode cX12_wordOf 19 = .ok (.iload 5, 2) := by decide +kernel
theorem dX12_wordOf_21 : decode cX12_wordOf 21 = .ok (.iaload, 1) := by decide +kernel
theorem dX12_wordOf_22 : decode cX12_wordOf 22 = .ok (.iload_n 1, 1) := by decide +kernel
theorem dX12_wordOf_23 : decode cX12_wordOf 23 = .ok (.if_icmp .ne 52, 3) := by decide +kernel
theorem dX12_wordOf_26 : decode cX12_wordOf 26 = .ok (.aload_n 0, 1) := by decide +kernel
theorem dX12_wordOf_27 : decode cX12_wordOf 27 = .ok (.getfield 40, 3) := by decide +kernel
theorem dX12_wordOf_30 : decode cX12_wordOf 30 = .ok (.iload 5, 2) := by decide +kernel
theorem dX12_wordOf_32 : decode cX12_wordOf 32 = .ok (.iaload, 1) := by decide +kernel
theorem dX12_wordOf_33 : decode cX12_wordOf 33 = .ok (.iload_n 2, 1) := by decide +kernel
theorem dX12_wordOf_34 : decode cX12_wordOf 34 = .ok (.if_icmp .ne 41, 3) := by decide +kernel
theorem dX12_wordOf_37 : decode cX12_wordOf 37 = .ok (.aload_n 0, 1) := by decide +kernel
theorem dX12_wordOf_38 : decode cX12_wordOf 38 = .ok (.getfield 46, 3) := by decide +kernel
theorem dX12_wordOf_41 : decode cX12_wordOf 41 = .ok (.iload 5, 2) := by decide +kernel
theorem dX12_wordOf_43 : decode cX12_wordOf 43 = .ok (.iaload, 1) := by decide +kernel
theorem dX12_wordOf_44 : decode cX12_wordOf 44 = .ok (.iload_n 3, 1) := by decide +kernel
theorem dX12_wordOf_45 : decode cX12_wordOf 45 = .ok (.if_icmp .gt 30, 3) := by decide +kernel
theorem dX12_wordOf_48 : decode cX12_wordOf 48 = .ok (.iload 4, 2) := by decide +kernel
theorem dX12_wordOf_50 : decode cX12_wordOf 50 = .ok (.iconst (-1), 1) := by decide +kernel
theorem dX12_wordOf_51 : decode cX12_wordOf 51 = .ok (.if_icmp .eq 20, 3) := by decide +kernel
theorem dX12_wordOf_54 : decode cX12_wordOf 54 = .ok (.aload_n 0, 1) := by decide +kernel
theorem dX12_wordOf_55 : decode cX12_wordOf 55 = .ok (.getfield 31, 3) := by decide +kernel
theorem dX12_wordOf_58 : decode cX12_wordOf 58 = .ok (.iload 5, 2) := by decide +kernel
theorem dX12_wordOf_60 : decode cX12_wordOf 60 = .ok (.iaload, 1) := by decide +kernel
theorem dX12_wordOf_61 : decode cX12_wordOf 61 = .ok (.aload_n 0, 1) := by decide +kernel
theorem dX12_wordOf_62 : decode cX12_wordOf 62 = .ok (.getfield 31, 3) := by decide +kernel
theorem dX12_wordOf_65 : decode cX12_wordOf 65 = .ok (.iload 4, 2) := by decide +kernel
theorem dX12_wordOf_67 : decode cX12_wordOf 67 = .ok (.iaload, 1) := by decide +kernel
theorem dX12_wordOf_68 : decode cX12_wordOf 68 = .ok (.if_icmp .ge 7, 3) := by decide +kernel
theorem dX12_wordOf_71 : decode cX12_wordOf 71 = .ok (.iload 5, 2) := by decide +kernel
theorem dX12_wordOf_73 : decode cX12_wordOf 73 = .ok (.istore 4, 2) := by decide +kernel
theorem dX12_wordOf_75 : decode cX12_wordOf 75 = .ok (.iinc 5 1, 3) := by decide +kernel
theorem dX12_wordOf_78 : decode cX12_wordOf 78 = .ok (.goto (-72), 3) := by decide +kernel
theorem dX12_wordOf_81 : decode cX12_wordOf 81 = .ok (.iload 4, 2) := by decide +kernel
theorem dX12_wordOf_83 : decode cX12_wordOf 83 = .ok (.ireturn, 1) := by decide +kernel
theorem dX12_worth_0 : decode cX12_worth 0 = .ok (.aload_n 0, 1) := by decide +kernel
theorem dX12_worth_1 : decode cX12_worth 1 = .ok (.iload_n 1, 1) := by decide +kernel
theorem dX12_worth_2 : decode cX12_worth 2 = .ok (.iload_n 2, 1) := by decide +kernel
theorem dX12_worth_3 : decode cX12_worth 3 = .ok (.invokevirtual 292, 3) := by decide +kernel
theorem dX12_worth_6 : decode cX12_worth 6 = .ok (.istore 4, 2) := by decide +kernel
theorem dX12_worth_8 : decode cX12_worth 8 = .ok (.iload 4, 2) := by decide +kernel
theorem dX12_worth_10 : decode cX12_worth 10 = .ok (.iconst (-1), 1) := by decide +kernel
theorem dX12_worth_11 : decode cX12_worth 11 = .ok (.if_icmp .ne 5, 3) := by decide +kernel
theorem dX12_worth_14 : decode cX12_worth 14 = .ok (.iconst 0, 1) := by decide +kernel
theorem dX12_worth_15 : decode cX12_worth 15 = .ok (.ireturn, 1) := by decide +kernel
theorem dX12_worth_16 : decode cX12_worth 16 = .ok (.aload_n 0, 1) := by decide +kernel
theorem dX12_worth_17 : decode cX12_worth 17 = .ok (.aload_n 0, 1) := by decide +kernel
theorem dX12_worth_18 : decode cX12_worth 18 = .ok (.getfield 53, 3) := by decide +kernel
theorem dX12_worth_21 : decode cX12_worth 21 = .ok (.sipush 160, 3) := by decide +kernel
theorem dX12_worth_24 : decode cX12_worth 24 = .ok (.iload 4, 2) := by decide +kernel
theorem dX12_worth_26 : decode cX12_worth 26 = .ok (.imul, 1) := by decide +kernel
theorem dX12_worth_27 : decode cX12_worth 27 = .ok (.aload_n 0, 1) := by decide +kernel
theorem dX12_worth_28 : decode cX12_worth 28 = .ok (.getfield 56, 3) := by decide +kernel
theorem dX12_worth_31 : decode cX12_worth 31 = .ok (.iload 4, 2) := by decide +kernel
theorem dX12_worth_33 : decode cX12_worth 33 = .ok (.iaload, 1) := by decide +kernel
theorem dX12_worth_34 : decode cX12_worth 34 = .ok (.iload_n 3, 1) := by decide +kernel
theorem dX12_worth_35 : decode cX12_worth 35 = .ok (.invokevirtual 285, 3) := by decide +kernel
theorem dX12_worth_38 : decode cX12_worth 38 = .ok (.aload_n 0, 1) := by decide +kernel
theorem dX12_worth_39 : decode cX12_worth 39 = .ok (.getfield 279, 3) := by decide +kernel
theorem dX12_worth_42 : decode cX12_worth 42 = .ok (.ireturn, 1) := by decide +kernel
