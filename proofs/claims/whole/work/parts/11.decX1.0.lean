theorem dX1_init_0 : decode cX1_init 0 = .ok (.aload_n 0, 1) := by decide +kernel
theorem dX1_init_1 : decode cX1_init 1 = .ok (.invokespecial 1, 3) := by decide +kernel
theorem dX1_init_4 : decode cX1_init 4 = .ok (.aload_n 0, 1) := by decide +kernel
theorem dX1_init_5 : decode cX1_init 5 = .ok (.aload_n 1, 1) := by decide +kernel
theorem dX1_init_6 : decode cX1_init 6 = .ok (.putfield 7, 3) := by decide +kernel
theorem dX1_init_9 : decode cX1_init 9 = .ok (.aload_n 0, 1) := by decide +kernel
theorem dX1_init_10 : decode cX1_init 10 = .ok (.iload_n 2, 1) := by decide +kernel
theorem dX1_init_11 : decode cX1_init 11 = .ok (.putfield 13, 3) := by decide +kernel
theorem dX1_init_14 : decode cX1_init 14 = .ok (.aload_n 0, 1) := by decide +kernel
theorem dX1_init_15 : decode cX1_init 15 = .ok (.iload_n 3, 1) := by decide +kernel
theorem dX1_init_16 : decode cX1_init 16 = .ok (.putfield 17, 3) := by decide +kernel
theorem dX1_init_19 : decode cX1_init 19 = .ok (.aload_n 0, 1) := by decide +kernel
theorem dX1_init_20 : decode cX1_init 20 = .ok (.iload 4, 2) := by decide +kernel
theorem dX1_init_22 : decode cX1_init 22 = .ok (.putfield 20, 3) := by decide +kernel
theorem dX1_init_25 : decode cX1_init 25 = .ok (.aload_n 0, 1) := by decide +kernel
theorem dX1_init_26 : decode cX1_init 26 = .ok (.iload 5, 2) := by decide +kernel
theorem dX1_init_28 : decode cX1_init 28 = .ok (.putfield 23, 3) := by decide +kernel
theorem dX1_init_31 : decode cX1_init 31 = .ok (.aload_n 0, 1) := by decide +kernel
theorem dX1_init_32 : decode cX1_init 32 = .ok (.iload 6, 2) := by decide +kernel
theorem dX1_init_34 : decode cX1_init 34 = .ok (.putfield 26, 3) := by decide +kernel
theorem dX1_init_37 : decode cX1_init 37 = .ok (.aload_n 0, 1) := by decide +kernel
theorem dX1_init_38 : decode cX1_init 38 = .ok (.iload 7, 2) := by decide +kernel
theorem dX1_init_40 : decode cX1_init 40 = .ok (.putfield 29, 3) := by decide +kernel
theorem dX1_init_43 : decode cX1_init 43 = .ok (.return_, 1) := by decide +kernel
theorem dX1_isFor_0 : decode cX1_isFor 0 = .ok (.aload_n 0, 1) := by decide +kernel
theorem dX1_isFor_1 : decode cX1_isFor 1 = .ok (.getfield 13, 3) := by decide +kernel
theorem dX1_isFor_4 : decode cX1_isFor 4 = .ok (.iload_n 1, 1) := by decide +kernel
theorem dX1_isFor_5 : decode cX1_isFor 5 = .ok (.if_icmp .ne 15, 3) := by decide +kernel
theorem dX1_isFor_8 : decode cX1_isFor 8 = .ok (.aload_n 0, 1) := by decide +kernel
theorem dX1_isFor_9 : decode cX1_isFor 9 = .ok (.getfield 29, 3) := by decide +kernel
theorem dX1_isFor_12 : decode cX1_isFor 12 = .ok (.iload_n 2, 1) := by decide +kernel
theorem dX1_isFor_13 : decode cX1_isFor 13 = .ok (.if_icmp .gt 7, 3) := by decide +kernel
theorem dX1_isFor_16 : decode cX1_isFor 16 = .ok (.iconst 1, 1) := by decide +kernel
theorem dX1_isFor_17 : decode cX1_isFor 17 = .ok (.goto 4, 3) := by decide +kernel
theorem dX1_isFor_20 : decode cX1_isFor 20 = .ok (.iconst 0, 1) := by decide +kernel
theorem dX1_isFor_21 : decode cX1_isFor 21 = .ok (.ireturn, 1) := by decide +kernel
theorem dX1_part_0 : decode cX1_part 0 = .ok (.iload_n 1, 1) := by decide +kernel
theorem dX1_part_1 : decode cX1_part 1 = .ok (.tableswitch 72 0 5 #[39, 47, 52, 57, 62, 67], 39) := by decide +kernel
theorem dX1_part_40 : decode cX1_part 40 = .ok (.aload_n 0, 1) := by decide +kernel
theorem dX1_part_41 : decode cX1_part 41 = .ok (.getfield 7, 3) := by decide +kernel
theorem dX1_part_44 : decode cX1_part 44 = .ok (.getfield 32, 3) := by decide +kernel
theorem dX1_part_47 : decode cX1_part 47 = .ok (.ireturn, 1) := by decide +kernel
theorem dX1_part_48 : decode cX1_part 48 = .ok (.aload_n 0, 1) := by decide +kernel
theorem dX1_part_49 : decode cX1_part 49 = .ok (.getfield 13, 3) := by decide +kernel
theorem dX1_part_52 : decode cX1_part 52 = .ok (.ireturn, 1) := by decide +kernel
theorem dX1_part_53 : decode cX1_part 53 = .ok (.aload_n 0, 1) := by decide +kernel
theorem dX1_part_54 : decode cX1_part 54 = .ok (.getfield 17, 3) := by decide +kernel
theorem dX1_part_57 : decode cX1_part 57 = .ok (.ireturn, 1) := by decide +kernel
theorem dX1_part_58 : decode cX1_part 58 = .ok (.aload_n 0, 1) := by decide +kernel
theorem dX1_part_59 : decode cX1_part 59 = .ok (.getfield 20, 3) := by decide +kernel
theorem dX1_part_62 : decode cX1_part 62 = .ok (.ireturn, 1) := by decide +kernel
theorem dX1_part_63 : decode cX1_part 63 = .ok (.aload_n 0, 1) := by decide +kernel
theorem dX1_part_64 : decode cX1_part 64 = .ok (.getfield 23, 3) := by decide +kernel
theorem dX1_part_67 : decode cX1_part 67 = .ok (.ireturn, 1) := by decide +kernel
theorem dX1_part_68 : decode cX1_part 68 = .ok (.aload_n 0, 1) := by decide +kernel
theorem dX1_part_69 : decode cX1_part 69 = .ok (.getfield 26, 3) := by decide +kernel
theorem dX1_part_72 : decode cX1_part 72 = .ok (.ireturn, 1) := by decide +kernel
theorem dX1_part_73 : decode cX1_part 73 = .ok (.aload_n 0, 1) := by decide +kernel
theorem dX1_part_74 : decode cX1_part 74 = .ok (.getfield 29, 3) := by decide +kernel
theorem dX1_part_77 : decode cX1_part 77 = .ok (.ireturn, 1) := by decide +kernel
