theorem dX9_addCode_0 : decode cX9_addCode 0 = .ok (.aload_n 0, 1) := by decide +kernel
theorem dX9_addCode_1 : decode cX9_addCode 1 = .ok (.getfield 23, 3) := by decide +kernel
theorem dX9_addCode_4 : decode cX9_addCode 4 = .ok (.aload_n 0, 1) := by decide +kernel
theorem dX9_addCode_5 : decode cX9_addCode 5 = .ok (.getfield 15, 3) := by decide +kernel
theorem dX9_addCode_8 : decode cX9_addCode 8 = .ok (.arraylength, 1) := by decide +kernel
theorem dX9_addCode_9 : decode cX9_addCode 9 = .ok (.if_icmp .ge 23, 3) := by decide +kernel
theorem dX9_addCode_12 : decode cX9_addCode 12 = .ok (.aload_n 0, 1) := by decide +kernel
theorem dX9_addCode_13 : decode cX9_addCode 13 = .ok (.getfield 15, 3) := by decide +kernel
theorem dX9_addCode_16 : decode cX9_addCode 16 = .ok (.aload_n 0, 1) := by decide +kernel
theorem dX9_addCode_17 : decode cX9_addCode 17 = .ok (.getfield 23, 3) := by decide +kernel
theorem dX9_addCode_20 : decode cX9_addCode 20 = .ok (.iload_n 1, 1) := by decide +kernel
theorem dX9_addCode_21 : decode cX9_addCode 21 = .ok (.iastore, 1) := by decide +kernel
theorem dX9_addCode_22 : decode cX9_addCode 22 = .ok (.aload_n 0, 1) := by decide +kernel
theorem dX9_addCode_23 : decode cX9_addCode 23 = .ok (.dup, 1) := by decide +kernel
theorem dX9_addCode_24 : decode cX9_addCode 24 = .ok (.getfield 23, 3) := by decide +kernel
theorem dX9_addCode_27 : decode cX9_addCode 27 = .ok (.iconst 1, 1) := by decide +kernel
theorem dX9_addCode_28 : decode cX9_addCode 28 = .ok (.iadd, 1) := by decide +kernel
theorem dX9_addCode_29 : decode cX9_addCode 29 = .ok (.putfield 23, 3) := by decide +kernel
theorem dX9_addCode_32 : decode cX9_addCode 32 = .ok (.return_, 1) := by decide +kernel
theorem dX9_append_0 : decode cX9_append 0 = .ok (.bipush 24, 2) := by decide +kernel
theorem dX9_append_2 : decode cX9_append 2 = .ok (.istore_n 2, 1) := by decide +kernel
theorem dX9_append_3 : decode cX9_append 3 = .ok (.iload_n 2, 1) := by decide +kernel
theorem dX9_append_4 : decode cX9_append 4 = .ok (.ifCond .lt 54, 3) := by decide +kernel
theorem dX9_append_7 : decode cX9_append 7 = .ok (.iload_n 1, 1) := by decide +kernel
theorem dX9_append_8 : decode cX9_append 8 = .ok (.iload_n 2, 1) := by decide +kernel
theorem dX9_append_9 : decode cX9_append 9 = .ok (.iushr, 1) := by decide +kernel
theorem dX9_append_10 : decode cX9_append 10 = .ok (.sipush 255, 3) := by decide +kernel
theorem dX9_append_13 : decode cX9_append 13 = .ok (.iand, 1) := by decide +kernel
theorem dX9_append_14 : decode cX9_append 14 = .ok (.istore_n 3, 1) := by decide +kernel
theorem dX9_append_15 : decode cX9_append 15 = .ok (.iload_n 3, 1) := by decide +kernel
theorem dX9_append_16 : decode cX9_append 16 = .ok (.ifCond .eq 36, 3) := by decide +kernel
theorem dX9_append_19 : decode cX9_append 19 = .ok (.aload_n 0, 1) := by decide +kernel
theorem dX9_append_20 : decode cX9_append 20 = .ok (.getfield 19, 3) := by decide +kernel
theorem dX9_append_23 : decode cX9_append 23 = .ok (.aload_n 0, 1) := by decide +kernel
theorem dX9_append_24 : decode cX9_append 24 = .ok (.getfield 11, 3) := by decide +kernel
theorem dX9_append_27 : decode cX9_append 27 = .ok (.arraylength, 1) := by decide +kernel
theorem dX9_append_28 : decode cX9_append 28 = .ok (.if_icmp .ge 24, 3) := by decide +kernel
theorem dX9_append_31 : decode cX9_append 31 = .ok (.aload_n 0, 1) := by decide +kernel
theorem dX9_append_32 : decode cX9_append 32 = .ok (.getfield 11, 3) := by decide +kernel
theorem dX9_append_35 : decode cX9_append 35 = .ok (.aload_n 0, 1) := by decide +kernel
theorem dX9_append_36 : decode cX9_append 36 = .ok (.getfield 19, 3) := by decide +kernel
theorem dX9_append_39 : decode cX9_append 39 = .ok (.iload_n 3, 1) := by decide +kernel
theorem dX9_append_40 : decode cX9_append 40 = .ok (.i2c, 1) := by decide +kernel
theorem dX9_append_41 : decode cX9_append 41 = .ok (.castore, 1) := by decide +kernel
theorem dX9_append_42 : decode cX9_append 42 = .ok (.aload_n 0, 1) := by decide +kernel
theorem dX9_append_43 : decode cX9_append 43 = .ok (.dup, 1) := by decide +kernel
theorem dX9_append_44 : decode cX9_append 44 = .ok (.getfield 19, 3) := by decide +kernel
theorem dX9_append_47 : decode cX9_append 47 = .ok (.iconst 1, 1) := by decide +kernel
theorem dX9_append_48 : decode cX9_append 48 = .ok (.iadd, 1) := by decide +kernel
theorem dX9_append_49 : decode cX9_append 49 = .ok (.putfield 19, 3) := by decide +kernel
theorem dX9_append_52 : decode cX9_append 52 = .ok (.iinc 2 (-8), 3) := by decide +kernel
theorem dX9_append_55 : decode cX9_append 55 = .ok (.goto (-52), 3) := by decide +kernel
theorem dX9_append_58 : decode cX9_append 58 = .ok (.return_, 1) := by decide +kernel
theorem dX9_codesRead_0 : decode cX9_codesRead 0 = .ok (.aload_n 0, 1) := by decide +kernel
theorem dX9_codesRead_1 : decode cX9_codesRead 1 = .ok (.getfield 15, 3) := by decide +kernel
theorem dX9_codesRead_4 : decode cX9_codesRead 4 = .ok (.aload_n 0, 1) := by decide +kernel
theorem dX9_codesRead_5 : decode cX9_codesRead 5 = .ok (.getfield 23, 3) := by decide +kernel
theorem dX9_codesRead_8 : decode cX9_codesRead 8 = .ok (.ifCond .ge 7, 3) := by decide +kernel
theorem dX9_codesRead_11 : decode cX9_codesRead 11 = .ok (.iconst 0, 1) := by decide +kernel
theorem dX9_codesRead_12 : decode cX9_codesRead 12 = .ok (.goto 7, 3) := by decide +kernel
theorem dX9_codesRead_15 : decode cX9_codesRead 15 = .ok (.aload_n 0, 1) := by decide +kernel
theorem dX9_codesRead_16 : decode cX9_codesRead 16 = .ok (.getfield 23, 3) := by decide +kernel
theorem dX9_codesRead_19 : decode cX9_codesRead 19 = .ok (.invokestatic 26, 3) := by decide +kernel
theorem dX9_codesRead_22 : decode cX9_codesRead 22 = .ok (.areturn, 1) := by decide +kernel
theorem dX9_cut_0 : decode cX9_cut 0 = .ok (.iload_n 1, 1) := by decide +kernel
theorem dX9_cut_1 : decode cX9_cut 1 = .ok (.ifCond .lt 16, 3) := by decide +kernel
theorem dX9_cut_4 : decode cX9_cut 4 = .ok (.iload_n 1, 1) := by decide +kernel
theorem dX9_cut_5 : decode cX9_cut 5 = .ok (.aload_n 0, 1) := by decide +kernel
theorem dX9_cut_6 : decode cX9_cut 6 = .ok (.getfield 19, 3) := by decide +kernel
theorem dX9_cut_9 : decode cX9_cut 9 = .ok (.if_icmp .gt 8, 3) := by decide +kernel
theorem dX9_cut_12 : decode cX9_cut 12 = .ok (.aload_n 0, 1) := by decide +kernel
theorem dX9_cut_13 : decode cX9_cut 13 = .ok (.iload_n 1, 1) := by decide +kernel
theorem dX9_cut_14 : decode cX9_cut 14 = .ok (.putfield 19, 3) := by decide +kernel
theorem dX9_cut_17 : decode cX9_cut 17 = .ok (.return_, 1) := by decide +kernel
theorem dX9_init_0 : decode cX9_init 0 = .ok (.aload_n 0, 1) := by decide +kernel
theorem dX9_init_1 : decode cX9_init 1 = .ok (.invokespecial 3, 3) := by decide +kernel
theorem dX9_init_4 : decode cX9_init 4 = .ok (.aload_n 0, 1) := by decide +kernel
theorem dX9_init_5 : decode cX9_init 5 = .ok (.sipush 160, 3) := by decide +kernel
theorem dX9_init_8 : decode cX9_init 8 = .ok (.newarray .char, 2) := by decide +kernel
theorem dX9_init_10 : decode cX9_init 10 = .ok (.putfield 11, 3) := by decide +kernel
theorem dX9_init_13 : decode cX9_init 13 = .ok (.aload_n 0, 1) := by decide +kernel
theorem dX9_init_14 : decode cX9_init 14 = .ok (.sipush 160, 3) := by decide +kernel
theorem dX9_init_17 : decode cX9_init 17 = .ok (.newarray .int, 2) := by decide +kernel
theorem dX9_init_19 : decode cX9_init 19 = .ok (.putfield 15, 3) := by decide +kernel
theorem dX9_init_22 : decode cX9_init 22 = .ok (.return_, 1) := by decide +kernel
theorem dX9_length_0 : decode cX9_length 0 = .ok (.aload_n 0, 1) := by decide +kernel
theorem dX9_length_1 : decode cX9_length 1 = .ok (.getfield 19, 3) := by decide +kernel
theorem dX9_length_4 : decode cX9_length 4 = .ok (.ireturn, 1) := by decide +kernel
theorem dX9_read_0 : decode cX9_read 0 = .ok (.aload_n 0, 1) := by decide +kernel
theorem dX9_read_1 : decode cX9_read 1 = .ok (.iconst 0, 1) := by decide +kernel
theorem dX9_read_2 : decode cX9_read 2 = .ok (.putfield 32, 3) := by decide +kernel
theorem dX9_read_5 : decode cX9_read 5 = .ok (.aload_n 0, 1) := by decide +kernel
theorem dX9_read_6 : decode cX9_read 6 = .ok (.iconst 0, 1) := by decide +kernel
theorem dX9_read_7 : decode cX9_read 7 = .ok (.putfield 23, 3) := by decide +kernel
theorem dX9_read_10 : decode cX9_read 10 = .ok (.aload_n 0, 1) := by decide +kernel
theorem dX9_read_11 : decode cX9_read 11 = .ok (.invokevirtual 35, 3) := by decide +kernel
theorem dX9_read_14 : decode cX9_read 14 = .ok (.istore_n 1, 1) := by decide +kernel
theorem dX9_read_15 : decode cX9_read 15 = .ok (.iconst 0, 1) := by decide +kernel
theorem dX9_read_16 : decode cX9_read 16 = .ok (.istore_n 2, 1) := by decide +kernel
theorem dX9_read_17 : decode cX9_read 17 = .ok (.iload_n 2, 1) := by decide +kernel
theorem dX9_read_18 : decode cX9_read 18 = .ok (.sipush 160, 3) := by decide +kernel
theorem dX9_read_21 : decode cX9_read 21 = .ok (.if_icmp .ge 27, 3) := by decide +kernel
theorem dX9_read_24 : decode cX9_read 24 = .ok (.iload_n 1, 1) := by decide +kernel
theorem dX9_read_25 : decode cX9_read 25 = .ok (.ifCond .eq 23, 3) := by decide +kernel
theorem dX9_read_28 : decode cX9_read 28 = .ok (.aload_n 0, 1) := by decide +kernel
theorem dX9_read_29 : decode cX9_read 29 = .ok (.ldc 39, 2) := by decide +kernel
theorem dX9_read_31 : decode cX9_read 31 = .ok (.invokevirtual 41, 3) := by decide +kernel
theorem dX9_read_34 : decode cX9_read 34 = .ok (.ifCond .eq 14, 3) := by decide +kernel
theorem dX9_read_37 : decode cX9_read 37 = .ok (.aload_n 0, 1) := by decide +kernel
theorem dX9_read_38 : decode cX9_read 38 = .ok (.invokevirtual 35, 3) := by decide +kernel
theorem dX9_read_41 : decode cX9_read 41 = .ok (.istore_n 1, 1) := by decide +kernel
theorem dX9_read_42 : decode cX9_read 42 = .ok (.iinc 2 1, 3) := by decide +kernel
theorem dX9_read_45 : decode cX9_read 45 = .ok (.goto (-28), 3) := by decide +kernel
theorem dX9_read_48 : decode cX9_read 48 = .ok (.iload_n 1, 1) := by decide +kernel
theorem dX9_read_49 : decode cX9_read 49 = .ok (.ifCond .eq 18, 3) := by decide +kernel
theorem dX9_read_52 : decode cX9_read 52 = .ok (.aload_n 0, 1) := by decide +kernel
theorem dX9_read_53 : decode cX9_read 53 = .ok (.getfield 32, 3) := by decide +kernel
theorem dX9_read_56 : decode cX9_read 56 = .ok (.aload_n 0, 1) := by decide +kernel
theorem dX9_read_57 : decode cX9_read 57 = .ok (.getfield 19, 3) := by decide +kernel
theorem dX9_read_60 : decode cX9_read 60 = .ok (.if_icmp .lt 7, 3) := by decide +kernel
theorem dX9_read_63 : decode cX9_read 63 = .ok (.iconst (-1), 1) := by decide +kernel
theorem dX9_read_64 : decode cX9_read 64 = .ok (.goto 7, 3) := by decide +kernel
theorem dX9_read_67 : decode cX9_read 67 = .ok (.aload_n 0, 1) := by decide +kernel
theorem dX9_read_68 : decode cX9_read 68 = .ok (.getfield 32, 3) := by decide +kernel
theorem dX9_read_71 : decode cX9_read 71 = .ok (.ireturn, 1) := by decide +kernel
theorem dX9_readAtom_0 : decode cX9_readAtom 0 = .ok (.iload_n 1, 1) := by decide +kernel
theorem dX9_readAtom_1 : decode cX9_readAtom 1 = .ok (.bipush 6, 2) := by decide +kernel
theorem dX9_readAtom_3 : decode cX9_readAtom 3 = .ok (.if_icmp .ge 37, 3) := by decide +kernel
theorem dX9_readAtom_6 : decode cX9_readAtom 6 = .ok (.aload_n 0, 1) := by decide +kernel
theorem dX9_readAtom_7 : decode cX9_readAtom 7 = .ok (.ldc 110, 2) := by decide +kernel
theorem dX9_readAtom_9 : decode cX9_readAtom 9 = .ok (.invokevirtual 41, 3) := by decide +kernel
theorem dX9_readAtom_12 : decode cX9_readAtom 12 = .ok (.ifCond .eq 28, 3) := by decide +kernel
theorem dX9_readAtom_15 : decode cX9_readAtom 15 = .ok (.aload_n 0, 1) := by decide +kernel
theorem dX9_readAtom_16 : decode cX9_readAtom 16 = .ok (.iload_n 1, 1) := by decide +kernel
theorem dX9_readAtom_17 : decode cX9_readAtom 17 = .ok (.iconst 1, 1) := by decide +kernel
theorem dX9_readAtom_18 : decode cX9_readAtom 18 = .ok (.iadd, 1) := by decide +kernel
theorem dX9_readAtom_19 : decode cX9_readAtom 19 = .ok (.invokevirtual 68, 3) := by decide +kernel
theorem dX9_readAtom_22 : decode cX9_readAtom 22 = .ok (.ifCond .eq 16, 3) := by decide +kernel
theorem dX9_readAtom_25 : decode cX9_readAtom 25 = .ok (.aload_n 0, 1) := by decide +kernel
theorem dX9_readAtom_26 : decode cX9_readAtom 26 = .ok (.ldc 112, 2) := by decide +kernel
theorem dX9_readAtom_28 : decode cX9_readAtom 28 = .ok (.invokevirtual 41, 3) := by decide +kernel
theorem dX9_readAtom_31 : decode cX9_readAtom 31 = .ok (.ifCond .eq 7, 3) := by decide +kernel
theorem dX9_readAtom_34 : decode cX9_readAtom 34 = .ok (.iconst 1, 1) := by decide +kernel
theorem dX9_readAtom_35 : decode cX9_readAtom 35 = .ok (.goto 4, 3) := by decide +kernel
theorem dX9_readAtom_38 : decode cX9_readAtom 38 = .ok (.iconst 0, 1) := by decide +kernel
theorem dX9_readAtom_39 : decode cX9_readAtom 39 = .ok (.ireturn, 1) := by decide +kernel
theorem dX9_readAtom_40 : decode cX9_readAtom 40 = .ok (.aload_n 0, 1) := by decide +kernel
theorem dX9_readAtom_41 : decode cX9_readAtom 41 = .ok (.ldc 114, 2) := by decide +kernel
theorem dX9_readAtom_43 : decode cX9_readAtom 43 = .ok (.invokevirtual 49, 3) := by decide +kernel
theorem dX9_readAtom_46 : decode cX9_readAtom 46 = .ok (.ifCond .eq 14, 3) := by decide +kernel
theorem dX9_readAtom_49 : decode cX9_readAtom 49 = .ok (.aload_n 0, 1) := by decide +kernel
theorem dX9_readAtom_50 : decode cX9_readAtom 50 = .ok (.aload_n 0, 1) := by decide +kernel
theorem dX9_readAtom_51 : decode cX9_readAtom 51 = .ok (.invokevirtual 52, 3) := by decide +kernel
theorem dX9_readAtom_54 : decode cX9_readAtom 54 = .ok (.ineg, 1) := by decide +kernel
theorem dX9_readAtom_55 : decode cX9_readAtom 55 = .ok (.invokevirtual 56, 3) := by decide +kernel
theorem dX9_readAtom_58 : decode cX9_readAtom 58 = .ok (.iconst 1, 1) := by decide +kernel
theorem dX9_readAtom_59 : decode cX9_readAtom 59 = .ok (.ireturn, 1) := by decide +kernel
theorem dX9_readAtom_60 : decode cX9_readAtom 60 = .ok (.aload_n 0, 1) := by decide +kernel
theorem dX9_readAtom_61 : decode cX9_readAtom 61 = .ok (.invokevirtual 116, 3) := by decide +kernel
theorem dX9_readAtom_64 : decode cX9_readAtom 64 = .ok (.ireturn, 1) := by decide +kernel
theorem dX9_readClause_0 : decode cX9_readClause 0 = .ok (.aload_n 0, 1) := by decide +kernel
theorem dX9_readClause_1 : decode cX9_readClause 1 = .ok (.ldc 47, 2) := by decide +kernel
theorem dX9_readClause_3 : decode cX9_readClause 3 = .ok (.invokevirtual 49, 3) := by decide +kernel
theorem dX9_readClause_6 : decode cX9_readClause 6 = .ok (.ifCond .ne 5, 3) := by decide +kernel
theorem dX9_readClause_9 : decode cX9_readClause 9 = .ok (.iconst 0, 1) := by decide +kernel
theorem dX9_readClause_10 : decode cX9_readClause 10 = .ok (.ireturn, 1) := by decide +kernel
theorem dX9_readClause_11 : decode cX9_readClause 11 = .ok (.aload_n 0, 1) := by decide +kernel
theorem dX9_readClause_12 : decode cX9_readClause 12 = .ok (.aload_n 0, 1) := by decide +kernel
theorem dX9_readClause_13 : decode cX9_readClause 13 = .ok (.invokevirtual 52, 3) := by decide +kernel
theorem dX9_readClause_16 : decode cX9_readClause 16 = .ok (.ineg, 1) := by decide +kernel
theorem dX9_readClause_17 : decode cX9_readClause 17 = .ok (.invokevirtual 56, 3) := by decide +kernel
theorem dX9_readClause_20 : decode cX9_readClause 20 = .ok (.aload_n 0, 1) := by decide +kernel
theorem dX9_readClause_21 : decode cX9_readClause 21 = .ok (.ldc 60, 2) := by decide +kernel
theorem dX9_readClause_23 : decode cX9_readClause 23 = .ok (.invokevirtual 41, 3) := by decide +kernel
theorem dX9_readClause_26 : decode cX9_readClause 26 = .ok (.ifCond .ne 5, 3) := by decide +kernel
theorem dX9_readClause_29 : decode cX9_readClause 29 = .ok (.iconst 0, 1) := by decide +kernel
theorem dX9_readClause_30 : decode cX9_readClause 30 = .ok (.ireturn, 1) := by decide +kernel
theorem dX9_readClause_31 : decode cX9_readClause 31 = .ok (.aload_n 0, 1) := by decide +kernel
theorem dX9_readClause_32 : decode cX9_readClause 32 = .ok (.ldc 62, 2) := by decide +kernel
theorem dX9_readClause_34 : decode cX9_readClause 34 = .ok (.invokevirtual 49, 3) := by decide +kernel
theorem dX9_readClause_37 : decode cX9_readClause 37 = .ok (.istore_n 1, 1) := by decide +kernel
theorem dX9_readClause_38 : decode cX9_readClause 38 = .ok (.iload_n 1, 1) := by decide +kernel
theorem dX9_readClause_39 : decode cX9_readClause 39 = .ok (.ifCond .eq 11, 3) := by decide +kernel
theorem dX9_readClause_42 : decode cX9_readClause 42 = .ok (.aload_n 0, 1) := by decide +kernel
theorem dX9_readClause_43 : decode cX9_readClause 43 = .ok (.iconst 0, 1) := by decide +kernel
theorem dX9_readClause_44 : decode cX9_readClause 44 = .ok (.invokevirtual 64, 3) := by decide +kernel
theorem dX9_readClause_47 : decode cX9_readClause 47 = .ok (.goto 8, 3) := by decide +kernel
theorem dX9_readClause_50 : decode cX9_readClause 50 = .ok (.aload_n 0, 1) := by decide +kernel
theorem dX9_readClause_51 : decode cX9_readClause 51 = .ok (.iconst 0, 1) := by decide +kernel
theorem dX9_readClause_52 : decode cX9_readClause 52 = .ok (.invokevirtual 68, 3) := by decide +kernel
theorem dX9_readClause_55 : decode cX9_readClause 55 = .ok (.istore_n 2, 1) := by decide +kernel
theorem dX9_readClause_56 : decode cX9_readClause 56 = .ok (.iload_n 1, 1) := by decide +kernel
theorem dX9_readClause_57 : decode cX9_readClause 57 = .ok (.ifCond .ne 48, 3) := by decide +kernel
theorem dX9_readClause_60 : decode cX9_readClause 60 = .ok (.iload_n 2, 1) := by decide +kernel
theorem dX9_readClause_61 : decode cX9_readClause 61 = .ok (.ifCond .eq 44, 3) := by decide +kernel
theorem dX9_readClause_64 : decode cX9_readClause 64 = .ok (.aload_n 0, 1) := by decide +kernel
theorem dX9_readClause_65 : decode cX9_readClause 65 = .ok (.ldc 71, 2) := by decide +kernel
theorem dX9_readClause_67 : decode cX9_readClause 67 = .ok (.invokevirtual 49, 3) := by decide +kernel
theorem dX9_readClause_70 : decode cX9_readClause 70 = .ok (.ifCond .eq 35, 3) := by decide +kernel
theorem dX9_readClause_73 : decode cX9_readClause 73 = .ok (.iconst 1, 1) := by decide +kernel
theorem dX9_readClause_74 : decode cX9_readClause 74 = .ok (.istore_n 1, 1) := by decide +kernel
theorem dX9_readClause_75 : decode cX9_readClause 75 = .ok (.aload_n 0, 1) := by decide +kernel
theorem dX9_readClause_76 : decode cX9_readClause 76 = .ok (.iconst 0, 1) := by decide +kernel
theorem dX9_readClause_77 : decode cX9_readClause 77 = .ok (.invokevirtual 73, 3) := by decide +kernel
theorem dX9_readClause_80 : decode cX9_readClause 80 = .ok (.ifCond .eq 23, 3) := by decide +kernel
theorem dX9_readClause_83 : decode cX9_readClause 83 = .ok (.aload_n 0, 1) := by decide +kernel
theorem dX9_readClause_84 : decode cX9_readClause 84 = .ok (.iconst 0, 1) := by decide +kernel
theorem dX9_readClause_85 : decode cX9_readClause 85 = .ok (.invokevirtual 76, 3) := by decide +kernel
theorem dX9_readClause_88 : decode cX9_readClause 88 = .ok (.ifCond .eq 15, 3) := by decide +kernel
theorem dX9_readClause_91 : decode cX9_readClause 91 = .ok (.aload_n 0, 1) := by decide +kernel
theorem dX9_readClause_92 : decode cX9_readClause 92 = .ok (.iconst 0, 1) := by decide +kernel
theorem dX9_readClause_93 : decode cX9_readClause 93 = .ok (.invokevirtual 79, 3) := by decide +kernel
theorem dX9_readClause_96 : decode cX9_readClause 96 = .ok (.ifCond .eq 7, 3) := by decide +kernel
theorem dX9_readClause_99 : decode cX9_readClause 99 = .ok (.iconst 1, 1) := by decide +kernel
theorem dX9_readClause_100 : decode cX9_readClause 100 = .ok (.goto 4, 3) := by decide +kernel
theorem dX9_readClause_103 : decode cX9_readClause 103 = .ok (.iconst 0, 1) := by decide +kernel
theorem dX9_readClause_104 : decode cX9_readClause 104 = .ok (.istore_n 2, 1) := by decide +kernel
theorem dX9_readClause_105 : decode cX9_readClause 105 = .ok (.iload_n 1, 1) := by decide +kernel
theorem dX9_readClause_106 : decode cX9_readClause 106 = .ok (.ifCond .eq 38, 3) := by decide +kernel
theorem dX9_readClause_109 : decode cX9_readClause 109 = .ok (.iload_n 2, 1) := by decide +kernel
theorem dX9_readClause_110 : decode cX9_readClause 110 = .ok (.ifCond .eq 34, 3) := by decide +kernel
theorem dX9_readClause_113 : decode cX9_readClause 113 = .ok (.aload_n 0, 1) := by decide +kernel
theorem dX9_readClause_114 : decode cX9_readClause 114 = .ok (.ldc 82, 2) := by decide +kernel
theorem dX9_readClause_116 : decode cX9_readClause 116 = .ok (.invokevirtual 41, 3) := by decide +kernel
theorem dX9_readClause_119 : decode cX9_readClause 119 = .ok (.istore_n 2, 1) := by decide +kernel
theorem dX9_readClause_120 : decode cX9_readClause 120 = .ok (.aload_n 0, 1) := by decide +kernel
theorem dX9_readClause_121 : decode cX9_readClause 121 = .ok (.bipush (-63), 2) := by decide +kernel
theorem dX9_readClause_123 : decode cX9_readClause 123 = .ok (.invokevirtual 56, 3) := by decide +kernel
theorem dX9_readClause_126 : decode cX9_readClause 126 = .ok (.iload_n 2, 1) := by decide +kernel
theorem dX9_readClause_127 : decode cX9_readClause 127 = .ok (.ifCond .eq 15, 3) := by decide +kernel
theorem dX9_readClause_130 : decode cX9_readClause 130 = .ok (.aload_n 0, 1) := by decide +kernel
theorem dX9_readClause_131 : decode cX9_readClause 131 = .ok (.iconst 0, 1) := by decide +kernel
theorem dX9_readClause_132 : decode cX9_readClause 132 = .ok (.invokevirtual 68, 3) := by decide +kernel
theorem dX9_readClause_135 : decode cX9_readClause 135 = .ok (.ifCond .eq 7, 3) := by decide +kernel
theorem dX9_readClause_138 : decode cX9_readClause 138 = .ok (.iconst 1, 1) := by decide +kernel
theorem dX9_readClause_139 : decode cX9_readClause 139 = .ok (.goto 4, 3) := by decide +kernel
theorem dX9_readClause_142 : decode cX9_readClause 142 = .ok (.iconst 0, 1) := by decide +kernel
theorem dX9_readClause_143 : decode cX9_readClause 143 = .ok (.istore_n 2, 1) := by decide +kernel
theorem dX9_readClause_144 : decode cX9_readClause 144 = .ok (.aload_n 0, 1) := by decide +kernel
theorem dX9_readClause_145 : decode cX9_readClause 145 = .ok (.bipush (-59), 2) := by decide +kernel
theorem dX9_readClause_147 : decode cX9_readClause 147 = .ok (.invokevirtual 56, 3) := by decide +kernel
theorem dX9_readClause_150 : decode cX9_readClause 150 = .ok (.iload_n 2, 1) := by decide +kernel
theorem dX9_readClause_151 : decode cX9_readClause 151 = .ok (.ireturn, 1) := by decide +kernel
theorem dX9_readComparison_0 : decode cX9_readComparison 0 = .ok (.aload_n 0, 1) := by decide +kernel
theorem dX9_readComparison_1 : decode cX9_readComparison 1 = .ok (.ldc 71, 2) := by decide +kernel
theorem dX9_readComparison_3 : decode cX9_readComparison 3 = .ok (.invokevirtual 49, 3) := by decide +kernel
theorem dX9_readComparison_6 : decode cX9_readComparison 6 = .ok (.ifCond .ne 5, 3) := by decide +kernel
theorem dX9_readComparison_9 : decode cX9_readComparison 9 = .ok (.iconst 0, 1) := by decide +kernel
theorem dX9_readComparison_10 : decode cX9_readComparison 10 = .ok (.ireturn, 1) := by decide +kernel
theorem dX9_readComparison_11 : decode cX9_readComparison 11 = .ok (.aload_n 0, 1) := by decide +kernel
theorem dX9_readComparison_12 : decode cX9_readComparison 12 = .ok (.invokevirtual 52, 3) := by decide +kernel
theorem dX9_readComparison_15 : decode cX9_readComparison 15 = .ok (.istore_n 2, 1) := by decide +kernel
theorem dX9_readComparison_16 : decode cX9_readComparison 16 = .ok (.aload_n 0, 1) := by decide +kernel
theorem dX9_readComparison_17 : decode cX9_readComparison 17 = .ok (.iload_n 1, 1) := by decide +kernel
theorem dX9_readComparison_18 : decode cX9_readComparison 18 = .ok (.invokevirtual 68, 3) := by decide +kernel
theorem dX9_readComparison_21 : decode cX9_readComparison 21 = .ok (.ifCond .ne 5, 3) := by decide +kernel
theorem dX9_readComparison_24 : decode cX9_readComparison 24 = .ok (.iconst 0, 1) := by decide +kernel
theorem dX9_readComparison_25 : decode cX9_readComparison 25 = .ok (.ireturn, 1) := by decide +kernel
theorem dX9_readComparison_26 : decode cX9_readComparison 26 = .ok (.aload_n 0, 1) := by decide +kernel
theorem dX9_readComparison_27 : decode cX9_readComparison 27 = .ok (.iload_n 2, 1) := by decide +kernel
theorem dX9_readComparison_28 : decode cX9_readComparison 28 = .ok (.ineg, 1) := by decide +kernel
theorem dX9_readComparison_29 : decode cX9_readComparison 29 = .ok (.invokevirtual 56, 3) := by decide +kernel
theorem dX9_readComparison_32 : decode cX9_readComparison 32 = .ok (.iconst 1, 1) := by decide +kernel
theorem dX9_readComparison_33 : decode cX9_readComparison 33 = .ok (.ireturn, 1) := by decide +kernel
theorem dX9_readCondition_0 : decode cX9_readCondition 0 = .ok (.aload_n 0, 1) := by decide +kernel
theorem dX9_readCondition_1 : decode cX9_readCondition 1 = .ok (.iload_n 1, 1) := by decide +kernel
theorem dX9_readCondition_2 : decode cX9_readCondition 2 = .ok (.invokevirtual 84, 3) := by decide +kernel
theorem dX9_readCondition_5 : decode cX9_readCondition 5 = .ok (.ifCond .eq 15, 3) := by decide +kernel
theorem dX9_readCondition_8 : decode cX9_readCondition 8 = .ok (.aload_n 0, 1) := by decide +kernel
theorem dX9_readCondition_9 : decode cX9_readCondition 9 = .ok (.iload_n 1, 1) := by decide +kernel
theorem dX9_readCondition_10 : decode cX9_readCondition 10 = .ok (.invokevirtual 79, 3) := by decide +kernel
theorem dX9_readCondition_13 : decode cX9_readCondition 13 = .ok (.ifCond .eq 7, 3) := by decide +kernel
theorem dX9_readCondition_16 : decode cX9_readCondition 16 = .ok (.iconst 1, 1) := by decide +kernel
theorem dX9_readCondition_17 : decode cX9_readCondition 17 = .ok (.goto 4, 3) := by decide +kernel
theorem dX9_readCondition_20 : decode cX9_readCondition 20 = .ok (.iconst 0, 1) := by decide +kernel
theorem dX9_readCondition_21 : decode cX9_readCondition 21 = .ok (.ireturn, 1) := by decide +kernel
theorem dX9_readMoreParts_0 : decode cX9_readMoreParts 0 = .ok (.iconst 0, 1) := by decide +kernel
theorem dX9_readMoreParts_1 : decode cX9_readMoreParts 1 = .ok (.istore_n 2, 1) := by decide +kernel
theorem dX9_readMoreParts_2 : decode cX9_readMoreParts 2 = .ok (.iload_n 2, 1) := by decide +kernel
theorem dX9_readMoreParts_3 : decode cX9_readMoreParts 3 = .ok (.sipush 160, 3) := by decide +kernel
theorem dX9_readMoreParts_6 : decode cX9_readMoreParts 6 = .ok (.if_icmp .ge 39, 3) := by decide +kernel
theorem dX9_readMoreParts_9 : decode cX9_readMoreParts 9 = .ok (.aload_n 0, 1) := by decide +kernel
theorem dX9_readMoreParts_10 : decode cX9_readMoreParts 10 = .ok (.ldc 87, 2) := by decide +kernel
theorem dX9_readMoreParts_12 : decode cX9_readMoreParts 12 = .ok (.invokevirtual 49, 3) := by decide +kernel
theorem dX9_readMoreParts_15 : decode cX9_readMoreParts 15 = .ok (.ifCond .eq 30, 3) := by decide +kernel
theorem dX9_readMoreParts_18 : decode cX9_readMoreParts 18 = .ok (.aload_n 0, 1) := by decide +kernel
theorem dX9_readMoreParts_19 : decode cX9_readMoreParts 19 = .ok (.invokevirtual 52, 3) := by decide +kernel
theorem dX9_readMoreParts_22 : decode cX9_readMoreParts 22 = .ok (.istore_n 3, 1) := by decide +kernel
theorem dX9_readMoreParts_23 : decode cX9_readMoreParts 23 = .ok (.aload_n 0, 1) := by decide +kernel
theorem dX9_readMoreParts_24 : decode cX9_readMoreParts 24 = .ok (.iload_n 1, 1) := by decide +kernel
theorem dX9_readMoreParts_25 : decode cX9_readMoreParts 25 = .ok (.invokevirtual 84, 3) := by decide +kernel
theorem dX9_readMoreParts_28 : decode cX9_readMoreParts 28 = .ok (.ifCond .ne 5, 3) := by decide +kernel
theorem dX9_readMoreParts_31 : decode cX9_readMoreParts 31 = .ok (.iconst 0, 1) := by decide +kernel
theorem dX9_readMoreParts_32 : decode cX9_readMoreParts 32 = .ok (.ireturn, 1) := by decide +kernel
theorem dX9_readMoreParts_33 : decode cX9_readMoreParts 33 = .ok (.aload_n 0, 1) := by decide +kernel
theorem dX9_readMoreParts_34 : decode cX9_readMoreParts 34 = .ok (.iload_n 3, 1) := by decide +kernel
theorem dX9_readMoreParts_35 : decode cX9_readMoreParts 35 = .ok (.ineg, 1) := by decide +kernel
theorem dX9_readMoreParts_36 : decode cX9_readMoreParts 36 = .ok (.invokevirtual 56, 3) := by decide +kernel
theorem dX9_readMoreParts_39 : decode cX9_readMoreParts 39 = .ok (.iinc 2 1, 3) := by decide +kernel
theorem dX9_readMoreParts_42 : decode cX9_readMoreParts 42 = .ok (.goto (-40), 3) := by decide +kernel
theorem dX9_readMoreParts_45 : decode cX9_readMoreParts 45 = .ok (.iconst 1, 1) := by decide +kernel
theorem dX9_readMoreParts_46 : decode cX9_readMoreParts 46 = .ok (.ireturn, 1) := by decide +kernel
theorem dX9_readMoreUnits_0 : decode cX9_readMoreUnits 0 = .ok (.iconst 0, 1) := by decide +kernel
theorem dX9_readMoreUnits_1 : decode cX9_readMoreUnits 1 = .ok (.istore_n 2, 1) := by decide +kernel
theorem dX9_readMoreUnits_2 : decode cX9_readMoreUnits 2 = .ok (.iload_n 2, 1) := by decide +kernel
theorem dX9_readMoreUnits_3 : decode cX9_readMoreUnits 3 = .ok (.sipush 160, 3) := by decide +kernel
theorem dX9_readMoreUnits_6 : decode cX9_readMoreUnits 6 = .ok (.if_icmp .ge 39, 3) := by decide +kernel
theorem dX9_readMoreUnits_9 : decode cX9_readMoreUnits 9 = .ok (.aload_n 0, 1) := by decide +kernel
theorem dX9_readMoreUnits_10 : decode cX9_readMoreUnits 10 = .ok (.ldc 92, 2) := by decide +kernel
theorem dX9_readMoreUnits_12 : decode cX9_readMoreUnits 12 = .ok (.invokevirtual 49, 3) := by decide +kernel
theorem dX9_readMoreUnits_15 : decode cX9_readMoreUnits 15 = .ok (.ifCond .eq 30, 3) := by decide +kernel
theorem dX9_readMoreUnits_18 : decode cX9_readMoreUnits 18 = .ok (.aload_n 0, 1) := by decide +kernel
theorem dX9_readMoreUnits_19 : decode cX9_readMoreUnits 19 = .ok (.invokevirtual 52, 3) := by decide +kernel
theorem dX9_readMoreUnits_22 : decode cX9_readMoreUnits 22 = .ok (.istore_n 3, 1) := by decide +kernel
theorem dX9_readMoreUnits_23 : decode cX9_readMoreUnits 23 = .ok (.aload_n 0, 1) := by decide +kernel
theorem dX9_readMoreUnits_24 : decode cX9_readMoreUnits 24 = .ok (.iload_n 1, 1) := by decide +kernel
theorem dX9_readMoreUnits_25 : decode cX9_readMoreUnits 25 = .ok (.invokevirtual 89, 3) := by decide +kernel
theorem dX9_readMoreUnits_28 : decode cX9_readMoreUnits 28 = .ok (.ifCond .ne 5, 3) := by decide +kernel
theorem dX9_readMoreUnits_31 : decode cX9_readMoreUnits 31 = .ok (.iconst 0, 1) := by decide +kernel
theorem dX9_readMoreUnits_32 : decode cX9_readMoreUnits 32 = .ok (.ireturn, 1) := by decide +kernel
theorem dX9_readMoreUnits_33 : decode cX9_readMoreUnits 33 = .ok (.aload_n 0, 1) := by decide +kernel
theorem dX9_readMoreUnits_34 : decode cX9_readMoreUnits 34 = .ok (.iload_n 3, 1) := by decide +kernel
theorem dX9_readMoreUnits_35 : decode cX9_readMoreUnits 35 = .ok (.ineg, 1) := by decide +kernel
theorem dX9_readMoreUnits_36 : decode cX9_readMoreUnits 36 = .ok (.invokevirtual 56, 3) := by decide +kernel
theorem dX9_readMoreUnits_39 : decode cX9_readMoreUnits 39 = .ok (.iinc 2 1, 3) := by decide +kernel
theorem dX9_readMoreUnits_42 : decode cX9_readMoreUnits 42 = .ok (.goto (-40), 3) := by decide +kernel
theorem dX9_readMoreUnits_45 : decode cX9_readMoreUnits 45 = .ok (.iconst 1, 1) := by decide +kernel
theorem dX9_readMoreUnits_46 : decode cX9_readMoreUnits 46 = .ok (.ireturn, 1) := by decide +kernel
theorem dX9_readNumber_0 : decode cX9_readNumber 0 = .ok (.iconst 0, 1) := by decide +kernel
theorem dX9_readNumber_1 : decode cX9_readNumber 1 = .ok (.istore_n 1, 1) := by decide +kernel
theorem dX9_readNumber_2 : decode cX9_readNumber 2 = .ok (.iconst 0, 1) := by decide +kernel
theorem dX9_readNumber_3 : decode cX9_readNumber 3 = .ok (.istore_n 2, 1) := by decide +kernel
theorem dX9_readNumber_4 : decode cX9_readNumber 4 = .ok (.iload_n 2, 1) := by decide +kernel
theorem dX9_readNumber_5 : decode cX9_readNumber 5 = .ok (.iconst 4, 1) := by decide +kernel
theorem dX9_readNumber_6 : decode cX9_readNumber 6 = .ok (.if_icmp .ge 67, 3) := by decide +kernel
theorem dX9_readNumber_9 : decode cX9_readNumber 9 = .ok (.aload_n 0, 1) := by decide +kernel
theorem dX9_readNumber_10 : decode cX9_readNumber 10 = .ok (.getfield 32, 3) := by decide +kernel
theorem dX9_readNumber_13 : decode cX9_readNumber 13 = .ok (.aload_n 0, 1) := by decide +kernel
theorem dX9_readNumber_14 : decode cX9_readNumber 14 = .ok (.getfield 19, 3) := by decide +kernel
theorem dX9_readNumber_17 : decode cX9_readNumber 17 = .ok (.if_icmp .ge 56, 3) := by decide +kernel
theorem dX9_readNumber_20 : decode cX9_readNumber 20 = .ok (.aload_n 0, 1) := by decide +kernel
theorem dX9_readNumber_21 : decode cX9_readNumber 21 = .ok (.getfield 11, 3) := by decide +kernel
theorem dX9_readNumber_24 : decode cX9_readNumber 24 = .ok (.aload_n 0, 1) := by decide +kernel
theorem dX9_readNumber_25 : decode cX9_readNumber 25 = .ok (.getfield 32, 3) := by decide +kernel
theorem dX9_readNumber_28 : decode cX9_readNumber 28 = .ok (.caload, 1) := by decide +kernel
theorem dX9_readNumber_29 : decode cX9_readNumber 29 = .ok (.bipush 48, 2) := by decide +kernel
theorem dX9_readNumber_31 : decode cX9_readNumber 31 = .ok (.bipush 57, 2) := by decide +kernel
theorem dX9_readNumber_33 : decode cX9_readNumber 33 = .ok (.invokestatic 119, 3) := by decide +kernel
theorem dX9_readNumber_36 : decode cX9_readNumber 36 = .ok (.ifCond .eq 37, 3) := by decide +kernel
theorem dX9_readNumber_39 : decode cX9_readNumber 39 = .ok (.iload_n 1, 1) := by decide +kernel
theorem dX9_readNumber_40 : decode cX9_readNumber 40 = .ok (.bipush 10, 2) := by decide +kernel
theorem dX9_readNumber_42 : decode cX9_readNumber 42 = .ok (.imul, 1) := by decide +kernel
theorem dX9_readNumber_43 : decode cX9_readNumber 43 = .ok (.aload_n 0, 1) := by decide +kernel
theorem dX9_readNumber_44 : decode cX9_readNumber 44 = .ok (.getfield 11, 3) := by decide +kernel
theorem dX9_readNumber_47 : decode cX9_readNumber 47 = .ok (.aload_n 0, 1) := by decide +kernel
theorem dX9_readNumber_48 : decode cX9_readNumber 48 = .ok (.getfield 32, 3) := by decide +kernel
theorem dX9_readNumber_51 : decode cX9_readNumber 51 = .ok (.caload, 1) := by decide +kernel
theorem dX9_readNumber_52 : decode cX9_readNumber 52 = .ok (.iadd, 1) := by decide +kernel
theorem dX9_readNumber_53 : decode cX9_readNumber 53 = .ok (.bipush 48, 2) := by decide +kernel
theorem dX9_readNumber_55 : decode cX9_readNumber 55 = .ok (.isub, 1) := by decide +kernel
theorem dX9_readNumber_56 : decode cX9_readNumber 56 = .ok (.istore_n 1, 1) := by decide +kernel
theorem dX9_readNumber_57 : decode cX9_readNumber 57 = .ok (.iinc 2 1, 3) := by decide +kernel
theorem dX9_readNumber_60 : decode cX9_readNumber 60 = .ok (.aload_n 0, 1) := by decide +kernel
theorem dX9_readNumber_61 : decode cX9_readNumber 61 = .ok (.dup, 1) := by decide +kernel
theorem dX9_readNumber_62 : decode cX9_readNumber 62 = .ok (.getfield 32, 3) := by decide +kernel
theorem dX9_readNumber_65 : decode cX9_readNumber 65 = .ok (.iconst 1, 1) := by decide +kernel
theorem dX9_readNumber_66 : decode cX9_readNumber 66 = .ok (.iadd, 1) := by decide +kernel
theorem dX9_readNumber_67 : decode cX9_readNumber 67 = .ok (.putfield 32, 3) := by decide +kernel
theorem dX9_readNumber_70 : decode cX9_readNumber 70 = .ok (.goto (-66), 3) := by decide +kernel
theorem dX9_readNumber_73 : decode cX9_readNumber 73 = .ok (.iload_n 2, 1) := by decide +kernel
theorem dX9_readNumber_74 : decode cX9_readNumber 74 = .ok (.ifCond .le 8, 3) := by decide +kernel
theorem dX9_readNumber_77 : decode cX9_readNumber 77 = .ok (.aload_n 0, 1) := by decide +kernel
theorem dX9_readNumber_78 : decode cX9_readNumber 78 = .ok (.iload_n 1, 1) := by decide +kernel
theorem dX9_readNumber_79 : decode cX9_readNumber 79 = .ok (.invokevirtual 56, 3) := by decide +kernel
theorem dX9_readNumber_82 : decode cX9_readNumber 82 = .ok (.iload_n 2, 1) := by decide +kernel
theorem dX9_readNumber_83 : decode cX9_readNumber 83 = .ok (.ifCond .le 7, 3) := by decide +kernel
theorem dX9_readNumber_86 : decode cX9_readNumber 86 = .ok (.iconst 1, 1) := by decide +kernel
theorem dX9_readNumber_87 : decode cX9_readNumber 87 = .ok (.goto 4, 3) := by decide +kernel
theorem dX9_readNumber_90 : decode cX9_readNumber 90 = .ok (.iconst 0, 1) := by decide +kernel
theorem dX9_readNumber_91 : decode cX9_readNumber 91 = .ok (.ireturn, 1) := by decide +kernel
theorem dX9_readPart_0 : decode cX9_readPart 0 = .ok (.aload_n 0, 1) := by decide +kernel
theorem dX9_readPart_1 : decode cX9_readPart 1 = .ok (.iload_n 1, 1) := by decide +kernel
theorem dX9_readPart_2 : decode cX9_readPart 2 = .ok (.invokevirtual 89, 3) := by decide +kernel
theorem dX9_readPart_5 : decode cX9_readPart 5 = .ok (.ifCond .eq 15, 3) := by decide +kernel
theorem dX9_readPart_8 : decode cX9_readPart 8 = .ok (.aload_n 0, 1) := by decide +kernel
theorem dX9_readPart_9 : decode cX9_readPart 9 = .ok (.iload_n 1, 1) := by decide +kernel
theorem dX9_readPart_10 : decode cX9_readPart 10 = .ok (.invokevirtual 76, 3) := by decide +kernel
theorem dX9_readPart_13 : decode cX9_readPart 13 = .ok (.ifCond .eq 7, 3) := by decide +kernel
theorem dX9_readPart_16 : decode cX9_readPart 16 = .ok (.iconst 1, 1) := by decide +kernel
theorem dX9_readPart_17 : decode cX9_readPart 17 = .ok (.goto 4, 3) := by decide +kernel
theorem dX9_readPart_20 : decode cX9_readPart 20 = .ok (.iconst 0, 1) := by decide +kernel
theorem dX9_readPart_21 : decode cX9_readPart 21 = .ok (.ireturn, 1) := by decide +kernel
theorem dX9_readSum_0 : decode cX9_readSum 0 = .ok (.aload_n 0, 1) := by decide +kernel
theorem dX9_readSum_1 : decode cX9_readSum 1 = .ok (.iload_n 1, 1) := by decide +kernel
theorem dX9_readSum_2 : decode cX9_readSum 2 = .ok (.invokevirtual 100, 3) := by decide +kernel
theorem dX9_readSum_5 : decode cX9_readSum 5 = .ok (.istore_n 2, 1) := by decide +kernel
theorem dX9_readSum_6 : decode cX9_readSum 6 = .ok (.iconst 0, 1) := by decide +kernel
theorem dX9_readSum_7 : decode cX9_readSum 7 = .ok (.istore_n 3, 1) := by decide +kernel
theorem dX9_readSum_8 : decode cX9_readSum 8 = .ok (.iload_n 3, 1) := by decide +kernel
theorem dX9_readSum_9 : decode cX9_readSum 9 = .ok (.sipush 160, 3) := by decide +kernel
theorem dX9_readSum_12 : decode cX9_readSum 12 = .ok (.if_icmp .ge 41, 3) := by decide +kernel
theorem dX9_readSum_15 : decode cX9_readSum 15 = .ok (.iload_n 2, 1) := by decide +kernel
theorem dX9_readSum_16 : decode cX9_readSum 16 = .ok (.ifCond .eq 37, 3) := by decide +kernel
theorem dX9_readSum_19 : decode cX9_readSum 19 = .ok (.aload_n 0, 1) := by decide +kernel
theorem dX9_readSum_20 : decode cX9_readSum 20 = .ok (.ldc 103, 2) := by decide +kernel
theorem dX9_readSum_22 : decode cX9_readSum 22 = .ok (.invokevirtual 49, 3) := by decide +kernel
theorem dX9_readSum_25 : decode cX9_readSum 25 = .ok (.ifCond .eq 28, 3) := by decide +kernel
theorem dX9_readSum_28 : decode cX9_readSum 28 = .ok (.aload_n 0, 1) := by decide +kernel
theorem dX9_readSum_29 : decode cX9_readSum 29 = .ok (.invokevirtual 52, 3) := by decide +kernel
theorem dX9_readSum_32 : decode cX9_readSum 32 = .ok (.istore 4, 2) := by decide +kernel
theorem dX9_readSum_34 : decode cX9_readSum 34 = .ok (.aload_n 0, 1) := by decide +kernel
theorem dX9_readSum_35 : decode cX9_readSum 35 = .ok (.iload_n 1, 1) := by decide +kernel
theorem dX9_readSum_36 : decode cX9_readSum 36 = .ok (.invokevirtual 100, 3) := by decide +kernel
theorem dX9_readSum_39 : decode cX9_readSum 39 = .ok (.istore_n 2, 1) := by decide +kernel
theorem dX9_readSum_40 : decode cX9_readSum 40 = .ok (.aload_n 0, 1) := by decide +kernel
theorem dX9_readSum_41 : decode cX9_readSum 41 = .ok (.iload 4, 2) := by decide +kernel
theorem dX9_readSum_43 : decode cX9_readSum 43 = .ok (.ineg, 1) := by decide +kernel
theorem dX9_readSum_44 : decode cX9_readSum 44 = .ok (.invokevirtual 56, 3) := by decide +kernel
theorem dX9_readSum_47 : decode cX9_readSum 47 = .ok (.iinc 3 1, 3) := by decide +kernel
theorem dX9_readSum_50 : decode cX9_readSum 50 = .ok (.goto (-42), 3) := by decide +kernel
theorem dX9_readSum_53 : decode cX9_readSum 53 = .ok (.iload_n 2, 1) := by decide +kernel
theorem dX9_readSum_54 : decode cX9_readSum 54 = .ok (.ireturn, 1) := by decide +kernel
theorem dX9_readTerm_0 : decode cX9_readTerm 0 = .ok (.aload_n 0, 1) := by decide +kernel
theorem dX9_readTerm_1 : decode cX9_readTerm 1 = .ok (.iload_n 1, 1) := by decide +kernel
theorem dX9_readTerm_2 : decode cX9_readTerm 2 = .ok (.invokevirtual 105, 3) := by decide +kernel
theorem dX9_readTerm_5 : decode cX9_readTerm 5 = .ok (.istore_n 2, 1) := by decide +kernel
theorem dX9_readTerm_6 : decode cX9_readTerm 6 = .ok (.iconst 0, 1) := by decide +kernel
theorem dX9_readTerm_7 : decode cX9_readTerm 7 = .ok (.istore_n 3, 1) := by decide +kernel
theorem dX9_readTerm_8 : decode cX9_readTerm 8 = .ok (.iload_n 3, 1) := by decide +kernel
theorem dX9_readTerm_9 : decode cX9_readTerm 9 = .ok (.sipush 160, 3) := by decide +kernel
theorem dX9_readTerm_12 : decode cX9_readTerm 12 = .ok (.if_icmp .ge 41, 3) := by decide +kernel
theorem dX9_readTerm_15 : decode cX9_readTerm 15 = .ok (.iload_n 2, 1) := by decide +kernel
theorem dX9_readTerm_16 : decode cX9_readTerm 16 = .ok (.ifCond .eq 37, 3) := by decide +kernel
theorem dX9_readTerm_19 : decode cX9_readTerm 19 = .ok (.aload_n 0, 1) := by decide +kernel
theorem dX9_readTerm_20 : decode cX9_readTerm 20 = .ok (.ldc 108, 2) := by decide +kernel
theorem dX9_readTerm_22 : decode cX9_readTerm 22 = .ok (.invokevirtual 49, 3) := by decide +kernel
theorem dX9_readTerm_25 : decode cX9_readTerm 25 = .ok (.ifCond .eq 28, 3) := by decide +kernel
theorem dX9_readTerm_28 : decode cX9_readTerm 28 = .ok (.aload_n 0, 1) := by decide +kernel
theorem dX9_readTerm_29 : decode cX9_readTerm 29 = .ok (.invokevirtual 52, 3) := by decide +kernel
theorem dX9_readTerm_32 : decode cX9_readTerm 32 = .ok (.istore 4, 2) := by decide +kernel
theorem dX9_readTerm_34 : decode cX9_readTerm 34 = .ok (.aload_n 0, 1) := by decide +kernel
theorem dX9_readTerm_35 : decode cX9_readTerm 35 = .ok (.iload_n 1, 1) := by decide +kernel
theorem dX9_readTerm_36 : decode cX9_readTerm 36 = .ok (.invokevirtual 105, 3) := by decide +kernel
theorem dX9_readTerm_39 : decode cX9_readTerm 39 = .ok (.istore_n 2, 1) := by decide +kernel
theorem dX9_readTerm_40 : decode cX9_readTerm 40 = .ok (.aload_n 0, 1) := by decide +kernel
theorem dX9_readTerm_41 : decode cX9_readTerm 41 = .ok (.iload 4, 2) := by decide +kernel
theorem dX9_readTerm_43 : decode cX9_readTerm 43 = .ok (.ineg, 1) := by decide +kernel
theorem dX9_readTerm_44 : decode cX9_readTerm 44 = .ok (.invokevirtual 56, 3) := by decide +kernel
theorem dX9_readTerm_47 : decode cX9_readTerm 47 = .ok (.iinc 3 1, 3) := by decide +kernel
theorem dX9_readTerm_50 : decode cX9_readTerm 50 = .ok (.goto (-42), 3) := by decide +kernel
theorem dX9_readTerm_53 : decode cX9_readTerm 53 = .ok (.iload_n 2, 1) := by decide +kernel
theorem dX9_readTerm_54 : decode cX9_readTerm 54 = .ok (.ireturn, 1) := by decide +kernel
theorem dX9_readUnit_0 : decode cX9_readUnit 0 = .ok (.iload_n 1, 1) := by decide +kernel
theorem dX9_readUnit_1 : decode cX9_readUnit 1 = .ok (.istore_n 2, 1) := by decide +kernel
theorem dX9_readUnit_2 : decode cX9_readUnit 2 = .ok (.iload_n 2, 1) := by decide +kernel
theorem dX9_readUnit_3 : decode cX9_readUnit 3 = .ok (.bipush 6, 2) := by decide +kernel
theorem dX9_readUnit_5 : decode cX9_readUnit 5 = .ok (.if_icmp .ge 18, 3) := by decide +kernel
theorem dX9_readUnit_8 : decode cX9_readUnit 8 = .ok (.aload_n 0, 1) := by decide +kernel
theorem dX9_readUnit_9 : decode cX9_readUnit 9 = .ok (.ldc 94, 2) := by decide +kernel
theorem dX9_readUnit_11 : decode cX9_readUnit 11 = .ok (.invokevirtual 41, 3) := by decide +kernel
theorem dX9_readUnit_14 : decode cX9_readUnit 14 = .ok (.ifCond .eq 9, 3) := by decide +kernel
theorem dX9_readUnit_17 : decode cX9_readUnit 17 = .ok (.iinc 2 1, 3) := by decide +kernel
theorem dX9_readUnit_20 : decode cX9_readUnit 20 = .ok (.goto (-18), 3) := by decide +kernel
theorem dX9_readUnit_23 : decode cX9_readUnit 23 = .ok (.iload_n 2, 1) := by decide +kernel
theorem dX9_readUnit_24 : decode cX9_readUnit 24 = .ok (.bipush 6, 2) := by decide +kernel
theorem dX9_readUnit_26 : decode cX9_readUnit 26 = .ok (.if_icmp .ge 40, 3) := by decide +kernel
theorem dX9_readUnit_29 : decode cX9_readUnit 29 = .ok (.aload_n 0, 1) := by decide +kernel
theorem dX9_readUnit_30 : decode cX9_readUnit 30 = .ok (.ldc 96, 2) := by decide +kernel
theorem dX9_readUnit_32 : decode cX9_readUnit 32 = .ok (.invokevirtual 41, 3) := by decide +kernel
theorem dX9_readUnit_35 : decode cX9_readUnit 35 = .ok (.ifCond .eq 31, 3) := by decide +kernel
theorem dX9_readUnit_38 : decode cX9_readUnit 38 = .ok (.aload_n 0, 1) := by decide +kernel
theorem dX9_readUnit_39 : decode cX9_readUnit 39 = .ok (.iload_n 2, 1) := by decide +kernel
theorem dX9_readUnit_40 : decode cX9_readUnit 40 = .ok (.iconst 1, 1) := by decide +kernel
theorem dX9_readUnit_41 : decode cX9_readUnit 41 = .ok (.iadd, 1) := by decide +kernel
theorem dX9_readUnit_42 : decode cX9_readUnit 42 = .ok (.invokevirtual 64, 3) := by decide +kernel
theorem dX9_readUnit_45 : decode cX9_readUnit 45 = .ok (.ifCond .eq 16, 3) := by decide +kernel
theorem dX9_readUnit_48 : decode cX9_readUnit 48 = .ok (.aload_n 0, 1) := by decide +kernel
theorem dX9_readUnit_49 : decode cX9_readUnit 49 = .ok (.ldc 98, 2) := by decide +kernel
theorem dX9_readUnit_51 : decode cX9_readUnit 51 = .ok (.invokevirtual 41, 3) := by decide +kernel
theorem dX9_readUnit_54 : decode cX9_readUnit 54 = .ok (.ifCond .eq 7, 3) := by decide +kernel
theorem dX9_readUnit_57 : decode cX9_readUnit 57 = .ok (.iconst 1, 1) := by decide +kernel
theorem dX9_readUnit_58 : decode cX9_readUnit 58 = .ok (.goto 4, 3) := by decide +kernel
theorem dX9_readUnit_61 : decode cX9_readUnit 61 = .ok (.iconst 0, 1) := by decide +kernel
theorem dX9_readUnit_62 : decode cX9_readUnit 62 = .ok (.istore_n 3, 1) := by decide +kernel
theorem dX9_readUnit_63 : decode cX9_readUnit 63 = .ok (.goto 25, 3) := by decide +kernel
theorem dX9_readUnit_66 : decode cX9_readUnit 66 = .ok (.aload_n 0, 1) := by decide +kernel
theorem dX9_readUnit_67 : decode cX9_readUnit 67 = .ok (.iload_n 2, 1) := by decide +kernel
theorem dX9_readUnit_68 : decode cX9_readUnit 68 = .ok (.invokevirtual 68, 3) := by decide +kernel
theorem dX9_readUnit_71 : decode cX9_readUnit 71 = .ok (.ifCond .eq 15, 3) := by decide +kernel
theorem dX9_readUnit_74 : decode cX9_readUnit 74 = .ok (.aload_n 0, 1) := by decide +kernel
theorem dX9_readUnit_75 : decode cX9_readUnit 75 = .ok (.iload_n 2, 1) := by decide +kernel
theorem dX9_readUnit_76 : decode cX9_readUnit 76 = .ok (.invokevirtual 73, 3) := by decide +kernel
theorem dX9_readUnit_79 : decode cX9_readUnit 79 = .ok (.ifCond .eq 7, 3) := by decide +kernel
theorem dX9_readUnit_82 : decode cX9_readUnit 82 = .ok (.iconst 1, 1) := by decide +kernel
theorem dX9_readUnit_83 : decode cX9_readUnit 83 = .ok (.goto 4, 3) := by decide +kernel
theorem dX9_readUnit_86 : decode cX9_readUnit 86 = .ok (.iconst 0, 1) := by decide +kernel
theorem dX9_readUnit_87 : decode cX9_readUnit 87 = .ok (.istore_n 3, 1) := by decide +kernel
theorem dX9_readUnit_88 : decode cX9_readUnit 88 = .ok (.iload_n 1, 1) := by decide +kernel
theorem dX9_readUnit_89 : decode cX9_readUnit 89 = .ok (.istore 4, 2) := by decide +kernel
theorem dX9_readUnit_91 : decode cX9_readUnit 91 = .ok (.iload 4, 2) := by decide +kernel
theorem dX9_readUnit_93 : decode cX9_readUnit 93 = .ok (.iload_n 2, 1) := by decide +kernel
theorem dX9_readUnit_94 : decode cX9_readUnit 94 = .ok (.if_icmp .ge 15, 3) := by decide +kernel
theorem dX9_readUnit_97 : decode cX9_readUnit 97 = .ok (.aload_n 0, 1) := by decide +kernel
theorem dX9_readUnit_98 : decode cX9_readUnit 98 = .ok (.bipush (-33), 2) := by decide +kernel
theorem dX9_readUnit_100 : decode cX9_readUnit 100 = .ok (.invokevirtual 56, 3) := by decide +kernel
theorem dX9_readUnit_103 : decode cX9_readUnit 103 = .ok (.iinc 4 1, 3) := by decide +kernel
theorem dX9_readUnit_106 : decode cX9_readUnit 106 = .ok (.goto (-15), 3) := by decide +kernel
theorem dX9_readUnit_109 : decode cX9_readUnit 109 = .ok (.iload_n 3, 1) := by decide +kernel
theorem dX9_readUnit_110 : decode cX9_readUnit 110 = .ok (.ireturn, 1) := by decide +kernel
theorem dX9_sees_0 : decode cX9_sees 0 = .ok (.aload_n 0, 1) := by decide +kernel
theorem dX9_sees_1 : decode cX9_sees 1 = .ok (.getfield 32, 3) := by decide +kernel
theorem dX9_sees_4 : decode cX9_sees 4 = .ok (.aload_n 0, 1) := by decide +kernel
theorem dX9_sees_5 : decode cX9_sees 5 = .ok (.getfield 19, 3) := by decide +kernel
theorem dX9_sees_8 : decode cX9_sees 8 = .ok (.if_icmp .ge 30, 3) := by decide +kernel
theorem dX9_sees_11 : decode cX9_sees 11 = .ok (.aload_n 0, 1) := by decide +kernel
theorem dX9_sees_12 : decode cX9_sees 12 = .ok (.getfield 11, 3) := by decide +kernel
theorem dX9_sees_15 : decode cX9_sees 15 = .ok (.aload_n 0, 1) := by decide +kernel
theorem dX9_sees_16 : decode cX9_sees 16 = .ok (.getfield 32, 3) := by decide +kernel
theorem dX9_sees_19 : decode cX9_sees 19 = .ok (.caload, 1) := by decide +kernel
theorem dX9_sees_20 : decode cX9_sees 20 = .ok (.bipush 32, 2) := by decide +kernel
theorem dX9_sees_22 : decode cX9_sees 22 = .ok (.if_icmp .ne 16, 3) := by decide +kernel
theorem dX9_sees_25 : decode cX9_sees 25 = .ok (.aload_n 0, 1) := by decide +kernel
theorem dX9_sees_26 : decode cX9_sees 26 = .ok (.dup, 1) := by decide +kernel
theorem dX9_sees_27 : decode cX9_sees 27 = .ok (.getfield 32, 3) := by decide +kernel
theorem dX9_sees_30 : decode cX9_sees 30 = .ok (.iconst 1, 1) := by decide +kernel
theorem dX9_sees_31 : decode cX9_sees 31 = .ok (.iadd, 1) := by decide +kernel
theorem dX9_sees_32 : decode cX9_sees 32 = .ok (.putfield 32, 3) := by decide +kernel
theorem dX9_sees_35 : decode cX9_sees 35 = .ok (.goto (-35), 3) := by decide +kernel
theorem dX9_sees_38 : decode cX9_sees 38 = .ok (.aload_n 0, 1) := by decide +kernel
theorem dX9_sees_39 : decode cX9_sees 39 = .ok (.getfield 32, 3) := by decide +kernel
theorem dX9_sees_42 : decode cX9_sees 42 = .ok (.aload_n 0, 1) := by decide +kernel
theorem dX9_sees_43 : decode cX9_sees 43 = .ok (.getfield 19, 3) := by decide +kernel
theorem dX9_sees_46 : decode cX9_sees 46 = .ok (.if_icmp .ge 23, 3) := by decide +kernel
theorem dX9_sees_49 : decode cX9_sees 49 = .ok (.aload_n 1, 1) := by decide +kernel
theorem dX9_sees_50 : decode cX9_sees 50 = .ok (.aload_n 0, 1) := by decide +kernel
theorem dX9_sees_51 : decode cX9_sees 51 = .ok (.getfield 11, 3) := by decide +kernel
theorem dX9_sees_54 : decode cX9_sees 54 = .ok (.aload_n 0, 1) := by decide +kernel
theorem dX9_sees_55 : decode cX9_sees 55 = .ok (.getfield 32, 3) := by decide +kernel
theorem dX9_sees_58 : decode cX9_sees 58 = .ok (.caload, 1) := by decide +kernel
theorem dX9_sees_59 : decode cX9_sees 59 = .ok (.invokevirtual 123, 3) := by decide +kernel
theorem dX9_sees_62 : decode cX9_sees 62 = .ok (.ifCond .lt 7, 3) := by decide +kernel
theorem dX9_sees_65 : decode cX9_sees 65 = .ok (.iconst 1, 1) := by decide +kernel
theorem dX9_sees_66 : decode cX9_sees 66 = .ok (.goto 4, 3) := by decide +kernel
theorem dX9_sees_69 : decode cX9_sees 69 = .ok (.iconst 0, 1) := by decide +kernel
theorem dX9_sees_70 : decode cX9_sees 70 = .ok (.ireturn, 1) := by decide +kernel
theorem dX9_take_0 : decode cX9_take 0 = .ok (.aload_n 0, 1) := by decide +kernel
theorem dX9_take_1 : decode cX9_take 1 = .ok (.aload_n 1, 1) := by decide +kernel
theorem dX9_take_2 : decode cX9_take 2 = .ok (.invokevirtual 49, 3) := by decide +kernel
theorem dX9_take_5 : decode cX9_take 5 = .ok (.istore_n 2, 1) := by decide +kernel
theorem dX9_take_6 : decode cX9_take 6 = .ok (.iload_n 2, 1) := by decide +kernel
theorem dX9_take_7 : decode cX9_take 7 = .ok (.ifCond .eq 13, 3) := by decide +kernel
theorem dX9_take_10 : decode cX9_take 10 = .ok (.aload_n 0, 1) := by decide +kernel
theorem dX9_take_11 : decode cX9_take 11 = .ok (.dup, 1) := by decide +kernel
theorem dX9_take_12 : decode cX9_take 12 = .ok (.getfield 32, 3) := by decide +kernel
theorem dX9_take_15 : decode cX9_take 15 = .ok (.iconst 1, 1) := by decide +kernel
theorem dX9_take_16 : decode cX9_take 16 = .ok (.iadd, 1) := by decide +kernel
theorem dX9_take_17 : decode cX9_take 17 = .ok (.putfield 32, 3) := by decide +kernel
theorem dX9_take_20 : decode cX9_take 20 = .ok (.iload_n 2, 1) := by decide +kernel
theorem dX9_take_21 : decode cX9_take 21 = .ok (.ireturn, 1) := by decide +kernel
theorem dX9_takeSign_0 : decode cX9_takeSign 0 = .ok (.aload_n 0, 1) := by decide +kernel
theorem dX9_takeSign_1 : decode cX9_takeSign 1 = .ok (.getfield 32, 3) := by decide +kernel
theorem dX9_takeSign_4 : decode cX9_takeSign 4 = .ok (.aload_n 0, 1) := by decide +kernel
theorem dX9_takeSign_5 : decode cX9_takeSign 5 = .ok (.getfield 19, 3) := by decide +kernel
theorem dX9_takeSign_8 : decode cX9_takeSign 8 = .ok (.if_icmp .lt 6, 3) := by decide +kernel
theorem dX9_takeSign_11 : decode cX9_takeSign 11 = .ok (.bipush 32, 2) := by decide +kernel
theorem dX9_takeSign_13 : decode cX9_takeSign 13 = .ok (.ireturn, 1) := by decide +kernel
theorem dX9_takeSign_14 : decode cX9_takeSign 14 = .ok (.aload_n 0, 1) := by decide +kernel
theorem dX9_takeSign_15 : decode cX9_takeSign 15 = .ok (.dup, 1) := by decide +kernel
theorem dX9_takeSign_16 : decode cX9_takeSign 16 = .ok (.getfield 32, 3) := by decide +kernel
theorem dX9_takeSign_19 : decode cX9_takeSign 19 = .ok (.iconst 1, 1) := by decide +kernel
theorem dX9_takeSign_20 : decode cX9_takeSign 20 = .ok (.iadd, 1) := by decide +kernel
theorem dX9_takeSign_21 : decode cX9_takeSign 21 = .ok (.putfield 32, 3) := by decide +kernel
theorem dX9_takeSign_24 : decode cX9_takeSign 24 = .ok (.aload_n 0, 1) := by decide +kernel
theorem dX9_takeSign_25 : decode cX9_takeSign 25 = .ok (.getfield 11, 3) := by decide +kernel
theorem dX9_takeSign_28 : decode cX9_takeSign 28 = .ok (.aload_n 0, 1) := by decide +kernel
theorem dX9_takeSign_29 : decode cX9_takeSign 29 = .ok (.getfield 32, 3) := by decide +kernel
theorem dX9_takeSign_32 : decode cX9_takeSign 32 = .ok (.iconst 1, 1) := by decide +kernel
theorem dX9_takeSign_33 : decode cX9_takeSign 33 = .ok (.isub, 1) := by decide +kernel
theorem dX9_takeSign_34 : decode cX9_takeSign 34 = .ok (.caload, 1) := by decide +kernel
theorem dX9_takeSign_35 : decode cX9_takeSign 35 = .ok (.ireturn, 1) := by decide +kernel
