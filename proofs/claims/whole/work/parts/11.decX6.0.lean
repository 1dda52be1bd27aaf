theorem dX6_init_0 : decode cX6_init 0 = .ok (.aload_n 0, 1) := by decide +kernel
theorem dX6_init_1 : decode cX6_init 1 = .ok (.invokespecial 3, 3) := by decide +kernel
theorem dX6_init_4 : decode cX6_init 4 = .ok (.aload_n 0, 1) := by decide +kernel
theorem dX6_init_5 : decode cX6_init 5 = .ok (.iload_n 1, 1) := by decide +kernel
theorem dX6_init_6 : decode cX6_init 6 = .ok (.putfield 9, 3) := by decide +kernel
theorem dX6_init_9 : decode cX6_init 9 = .ok (.aload_n 0, 1) := by decide +kernel
theorem dX6_init_10 : decode cX6_init 10 = .ok (.iload_n 2, 1) := by decide +kernel
theorem dX6_init_11 : decode cX6_init 11 = .ok (.putfield 15, 3) := by decide +kernel
theorem dX6_init_14 : decode cX6_init 14 = .ok (.aload_n 0, 1) := by decide +kernel
theorem dX6_init_15 : decode cX6_init 15 = .ok (.aload_n 3, 1) := by decide +kernel
theorem dX6_init_16 : decode cX6_init 16 = .ok (.putfield 18, 3) := by decide +kernel
theorem dX6_init_19 : decode cX6_init 19 = .ok (.return_, 1) := by decide +kernel
theorem dX6_joined_0 : decode cX6_joined 0 = .ok (.iload_n 0, 1) := by decide +kernel
theorem dX6_joined_1 : decode cX6_joined 1 = .ok (.tableswitch 208 38 62 #[200, 208, 208, 208, 133, 115, 208, 124, 208, 142, 208, 208, 208, 208, 208, 208, 208, 208, 208, 208, 208, 208, 172, 158, 186], 115) := by decide +kernel
theorem dX6_joined_116 : decode cX6_joined 116 = .ok (.iload_n 1, 1) := by decide +kernel
theorem dX6_joined_117 : decode cX6_joined 117 = .ok (.i2l, 1) := by decide +kernel
theorem dX6_joined_118 : decode cX6_joined 118 = .ok (.iload_n 2, 1) := by decide +kernel
theorem dX6_joined_119 : decode cX6_joined 119 = .ok (.i2l, 1) := by decide +kernel
theorem dX6_joined_120 : decode cX6_joined 120 = .ok (.ladd, 1) := by decide +kernel
theorem dX6_joined_121 : decode cX6_joined 121 = .ok (.lstore_n 3, 1) := by decide +kernel
theorem dX6_joined_122 : decode cX6_joined 122 = .ok (.goto 92, 3) := by decide +kernel
theorem dX6_joined_125 : decode cX6_joined 125 = .ok (.iload_n 1, 1) := by decide +kernel
theorem dX6_joined_126 : decode cX6_joined 126 = .ok (.i2l, 1) := by decide +kernel
theorem dX6_joined_127 : decode cX6_joined 127 = .ok (.iload_n 2, 1) := by decide +kernel
theorem dX6_joined_128 : decode cX6_joined 128 = .ok (.i2l, 1) := by decide +kernel
theorem dX6_joined_129 : decode cX6_joined 129 = .ok (.lsub, 1) := by decide +kernel
theorem dX6_joined_130 : decode cX6_joined 130 = .ok (.lstore_n 3, 1) := by decide +kernel
theorem dX6_joined_131 : decode cX6_joined 131 = .ok (.goto 83, 3) := by decide +kernel
theorem dX6_joined_134 : decode cX6_joined 134 = .ok (.iload_n 1, 1) := by decide +kernel
theorem dX6_joined_135 : decode cX6_joined 135 = .ok (.i2l, 1) := by decide +kernel
theorem dX6_joined_136 : decode cX6_joined 136 = .ok (.iload_n 2, 1) := by decide +kernel
theorem dX6_joined_137 : decode cX6_joined 137 = .ok (.i2l, 1) := by decide +kernel
theorem dX6_joined_138 : decode cX6_joined 138 = .ok (.lmul, 1) := by decide +kernel
theorem dX6_joined_139 : decode cX6_joined 139 = .ok (.lstore_n 3, 1) := by decide +kernel
theorem dX6_joined_140 : decode cX6_joined 140 = .ok (.goto 74, 3) := by decide +kernel
theorem dX6_joined_143 : decode cX6_joined 143 = .ok (.iload_n 2, 1) := by decide +kernel
theorem dX6_joined_144 : decode cX6_joined 144 = .ok (.ifCond .ne 7, 3) := by decide +kernel
theorem dX6_joined_147 : decode cX6_joined 147 = .ok (.lconst 0, 1) := by decide +kernel
theorem dX6_joined_148 : decode cX6_joined 148 = .ok (.goto 7, 3) := by decide +kernel
theorem dX6_joined_151 : decode cX6_joined 151 = .ok (.iload_n 1, 1) := by decide +kernel
theorem dX6_joined_152 : decode cX6_joined 152 = .ok (.iload_n 2, 1) := by decide +kernel
theorem dX6_joined_153 : decode cX6_joined 153 = .ok (.idiv, 1) := by decide +kernel
theorem dX6_joined_154 : decode cX6_joined 154 = .ok (.i2l, 1) := by decide +kernel
theorem dX6_joined_155 : decode cX6_joined 155 = .ok (.lstore_n 3, 1) := by decide +kernel
theorem dX6_joined_156 : decode cX6_joined 156 = .ok (.goto 58, 3) := by decide +kernel
theorem dX6_joined_159 : decode cX6_joined 159 = .ok (.iload_n 1, 1) := by decide +kernel
theorem dX6_joined_160 : decode cX6_joined 160 = .ok (.iload_n 2, 1) := by decide +kernel
theorem dX6_joined_161 : decode cX6_joined 161 = .ok (.if_icmp .ne 7, 3) := by decide +kernel
theorem dX6_joined_164 : decode cX6_joined 164 = .ok (.lconst 1, 1) := by decide +kernel
theorem dX6_joined_165 : decode cX6_joined 165 = .ok (.goto 4, 3) := by decide +kernel
theorem dX6_joined_168 : decode cX6_joined 168 = .ok (.lconst 0, 1) := by decide +kernel
theorem dX6_joined_169 : decode cX6_joined 169 = .ok (.lstore_n 3, 1) := by decide +kernel
theorem dX6_joined_170 : decode cX6_joined 170 = .ok (.goto 44, 3) := by decide +kernel
theorem dX6_joined_173 : decode cX6_joined 173 = .ok (.iload_n 1, 1) := by decide +kernel
theorem dX6_joined_174 : decode cX6_joined 174 = .ok (.iload_n 2, 1) := by decide +kernel
theorem dX6_joined_175 : decode cX6_joined 175 = .ok (.if_icmp .ge 7, 3) := by decide +kernel
theorem dX6_joined_178 : decode cX6_joined 178 = .ok (.lconst 1, 1) := by decide +kernel
theorem dX6_joined_179 : decode cX6_joined 179 = .ok (.goto 4, 3) := by decide +kernel
theorem dX6_joined_182 : decode cX6_joined 182 = .ok (.lconst 0, 1) := by decide +kernel
theorem dX6_joined_183 : decode cX6_joined 183 = .ok (.lstore_n 3, 1) := by decide +kernel
theorem dX6_joined_184 : decode cX6_joined 184 = .ok (.goto 30, 3) := by decide +kernel
theorem dX6_joined_187 : decode cX6_joined 187 = .ok (.iload_n 1, 1) := by decide +kernel
theorem dX6_joined_188 : decode cX6_joined 188 = .ok (.iload_n 2, 1) := by decide +kernel
theorem dX6_joined_189 : decode cX6_joined 189 = .ok (.if_icmp .le 7, 3) := by decide +kernel
theorem dX6_joined_192 : decode cX6_joined 192 = .ok (.lconst 1, 1) := by decide +kernel
theorem dX6_joined_193 : decode cX6_joined 193 = .ok (.goto 4, 3) := by decide +kernel
theorem dX6_joined_196 : decode cX6_joined 196 = .ok (.lconst 0, 1) := by decide +kernel
theorem dX6_joined_197 : decode cX6_joined 197 = .ok (.lstore_n 3, 1) := by decide +kernel
theorem dX6_joined_198 : decode cX6_joined 198 = .ok (.goto 16, 3) := by decide +kernel
theorem dX6_joined_201 : decode cX6_joined 201 = .ok (.iload_n 1, 1) := by decide +kernel
theorem dX6_joined_202 : decode cX6_joined 202 = .ok (.iload_n 2, 1) := by decide +kernel
theorem dX6_joined_203 : decode cX6_joined 203 = .ok (.iand, 1) := by decide +kernel
theorem dX6_joined_204 : decode cX6_joined 204 = .ok (.i2l, 1) := by decide +kernel
theorem dX6_joined_205 : decode cX6_joined 205 = .ok (.lstore_n 3, 1) := by decide +kernel
theorem dX6_joined_206 : decode cX6_joined 206 = .ok (.goto 8, 3) := by decide +kernel
theorem dX6_joined_209 : decode cX6_joined 209 = .ok (.iload_n 1, 1) := by decide +kernel
theorem dX6_joined_210 : decode cX6_joined 210 = .ok (.iload_n 2, 1) := by decide +kernel
theorem dX6_joined_211 : decode cX6_joined 211 = .ok (.ior, 1) := by decide +kernel
theorem dX6_joined_212 : decode cX6_joined 212 = .ok (.i2l, 1) := by decide +kernel
theorem dX6_joined_213 : decode cX6_joined 213 = .ok (.lstore_n 3, 1) := by decide +kernel
theorem dX6_joined_214 : decode cX6_joined 214 = .ok (.ldc2_w 53, 3) := by decide +kernel
theorem dX6_joined_217 : decode cX6_joined 217 = .ok (.ldc2_w 55, 3) := by decide +kernel
theorem dX6_joined_220 : decode cX6_joined 220 = .ok (.lload_n 3, 1) := by decide +kernel
theorem dX6_joined_221 : decode cX6_joined 221 = .ok (.invokestatic 57, 3) := by decide +kernel
theorem dX6_joined_224 : decode cX6_joined 224 = .ok (.invokestatic 63, 3) := by decide +kernel
theorem dX6_joined_227 : decode cX6_joined 227 = .ok (.l2i, 1) := by decide +kernel
theorem dX6_joined_228 : decode cX6_joined 228 = .ok (.ireturn, 1) := by decide +kernel
theorem dX6_work_0 : decode cX6_work 0 = .ok (.iload_n 0, 1) := by decide +kernel
theorem dX6_work_1 : decode cX6_work 1 = .ok (.ifCond .lt 9, 3) := by decide +kernel
theorem dX6_work_4 : decode cX6_work 4 = .ok (.aload_n 2, 1) := by decide +kernel
theorem dX6_work_5 : decode cX6_work 5 = .ok (.iload_n 0, 1) := by decide +kernel
theorem dX6_work_6 : decode cX6_work 6 = .ok (.invokevirtual 43, 3) := by decide +kernel
theorem dX6_work_9 : decode cX6_work 9 = .ok (.return_, 1) := by decide +kernel
theorem dX6_work_10 : decode cX6_work 10 = .ok (.iload_n 0, 1) := by decide +kernel
theorem dX6_work_11 : decode cX6_work 11 = .ok (.ineg, 1) := by decide +kernel
theorem dX6_work_12 : decode cX6_work 12 = .ok (.i2c, 1) := by decide +kernel
theorem dX6_work_13 : decode cX6_work 13 = .ok (.istore_n 3, 1) := by decide +kernel
theorem dX6_work_14 : decode cX6_work 14 = .ok (.ldc 47, 2) := by decide +kernel
theorem dX6_work_16 : decode cX6_work 16 = .ok (.iload_n 3, 1) := by decide +kernel
theorem dX6_work_17 : decode cX6_work 17 = .ok (.invokevirtual 29, 3) := by decide +kernel
theorem dX6_work_20 : decode cX6_work 20 = .ok (.istore 4, 2) := by decide +kernel
theorem dX6_work_22 : decode cX6_work 22 = .ok (.iload 4, 2) := by decide +kernel
theorem dX6_work_24 : decode cX6_work 24 = .ok (.ifCond .lt 21, 3) := by decide +kernel
theorem dX6_work_27 : decode cX6_work 27 = .ok (.iload 4, 2) := by decide +kernel
theorem dX6_work_29 : decode cX6_work 29 = .ok (.aload_n 1, 1) := by decide +kernel
theorem dX6_work_30 : decode cX6_work 30 = .ok (.arraylength, 1) := by decide +kernel
theorem dX6_work_31 : decode cX6_work 31 = .ok (.if_icmp .ge 14, 3) := by decide +kernel
theorem dX6_work_34 : decode cX6_work 34 = .ok (.aload_n 2, 1) := by decide +kernel
theorem dX6_work_35 : decode cX6_work 35 = .ok (.aload_n 1, 1) := by decide +kernel
theorem dX6_work_36 : decode cX6_work 36 = .ok (.iload 4, 2) := by decide +kernel
theorem dX6_work_38 : decode cX6_work 38 = .ok (.iaload, 1) := by decide +kernel
theorem dX6_work_39 : decode cX6_work 39 = .ok (.invokevirtual 43, 3) := by decide +kernel
theorem dX6_work_42 : decode cX6_work 42 = .ok (.goto 52, 3) := by decide +kernel
theorem dX6_work_45 : decode cX6_work 45 = .ok (.iload_n 3, 1) := by decide +kernel
theorem dX6_work_46 : decode cX6_work 46 = .ok (.bipush 33, 2) := by decide +kernel
theorem dX6_work_48 : decode cX6_work 48 = .ok (.if_icmp .ne 22, 3) := by decide +kernel
theorem dX6_work_51 : decode cX6_work 51 = .ok (.aload_n 2, 1) := by decide +kernel
theorem dX6_work_52 : decode cX6_work 52 = .ok (.aload_n 2, 1) := by decide +kernel
theorem dX6_work_53 : decode cX6_work 53 = .ok (.invokevirtual 35, 3) := by decide +kernel
theorem dX6_work_56 : decode cX6_work 56 = .ok (.ifCond .ne 7, 3) := by decide +kernel
theorem dX6_work_59 : decode cX6_work 59 = .ok (.iconst 1, 1) := by decide +kernel
theorem dX6_work_60 : decode cX6_work 60 = .ok (.goto 4, 3) := by decide +kernel
theorem dX6_work_63 : decode cX6_work 63 = .ok (.iconst 0, 1) := by decide +kernel
theorem dX6_work_64 : decode cX6_work 64 = .ok (.invokevirtual 43, 3) := by decide +kernel
theorem dX6_work_67 : decode cX6_work 67 = .ok (.goto 27, 3) := by decide +kernel
theorem dX6_work_70 : decode cX6_work 70 = .ok (.aload_n 2, 1) := by decide +kernel
theorem dX6_work_71 : decode cX6_work 71 = .ok (.invokevirtual 35, 3) := by decide +kernel
theorem dX6_work_74 : decode cX6_work 74 = .ok (.istore 5, 2) := by decide +kernel
theorem dX6_work_76 : decode cX6_work 76 = .ok (.aload_n 2, 1) := by decide +kernel
theorem dX6_work_77 : decode cX6_work 77 = .ok (.invokevirtual 35, 3) := by decide +kernel
theorem dX6_work_80 : decode cX6_work 80 = .ok (.istore 6, 2) := by decide +kernel
theorem dX6_work_82 : decode cX6_work 82 = .ok (.aload_n 2, 1) := by decide +kernel
theorem dX6_work_83 : decode cX6_work 83 = .ok (.iload_n 3, 1) := by decide +kernel
theorem dX6_work_84 : decode cX6_work 84 = .ok (.iload 6, 2) := by decide +kernel
theorem dX6_work_86 : decode cX6_work 86 = .ok (.iload 5, 2) := by decide +kernel
theorem dX6_work_88 : decode cX6_work 88 = .ok (.invokestatic 49, 3) := by decide +kernel
theorem dX6_work_91 : decode cX6_work 91 = .ok (.invokevirtual 43, 3) := by decide +kernel
theorem dX6_work_94 : decode cX6_work 94 = .ok (.return_, 1) := by decide +kernel
theorem dX6_worth_0 : decode cX6_worth 0 = .ok (.iconst 0, 1) := by decide +kernel
theorem dX6_worth_1 : decode cX6_worth 1 = .ok (.istore 4, 2) := by decide +kernel
theorem dX6_worth_3 : decode cX6_worth 3 = .ok (.aload_n 3, 1) := by decide +kernel
theorem dX6_worth_4 : decode cX6_worth 4 = .ok (.invokevirtual 22, 3) := by decide +kernel
theorem dX6_worth_7 : decode cX6_worth 7 = .ok (.aload_n 0, 1) := by decide +kernel
theorem dX6_worth_8 : decode cX6_worth 8 = .ok (.getfield 18, 3) := by decide +kernel
theorem dX6_worth_11 : decode cX6_worth 11 = .ok (.astore 5, 2) := by decide +kernel
theorem dX6_worth_13 : decode cX6_worth 13 = .ok (.aload 5, 2) := by decide +kernel
theorem dX6_worth_15 : decode cX6_worth 15 = .ok (.arraylength, 1) := by decide +kernel
theorem dX6_worth_16 : decode cX6_worth 16 = .ok (.istore 6, 2) := by decide +kernel
theorem dX6_worth_18 : decode cX6_worth 18 = .ok (.iconst 0, 1) := by decide +kernel
theorem dX6_worth_19 : decode cX6_worth 19 = .ok (.istore 7, 2) := by decide +kernel
theorem dX6_worth_21 : decode cX6_worth 21 = .ok (.iload 7, 2) := by decide +kernel
theorem dX6_worth_23 : decode cX6_worth 23 = .ok (.iload 6, 2) := by decide +kernel
theorem dX6_worth_25 : decode cX6_worth 25 = .ok (.if_icmp .ge 108, 3) := by decide +kernel
theorem dX6_worth_28 : decode cX6_worth 28 = .ok (.aload 5, 2) := by decide +kernel
theorem dX6_worth_30 : decode cX6_worth 30 = .ok (.iload 7, 2) := by decide +kernel
theorem dX6_worth_32 : decode cX6_worth 32 = .ok (.iaload, 1) := by decide +kernel
theorem dX6_worth_33 : decode cX6_worth 33 = .ok (.istore 8, 2) := by decide +kernel
theorem dX6_worth_35 : decode cX6_worth 35 = .ok (.iload 8, 2) := by decide +kernel
theorem dX6_worth_37 : decode cX6_worth 37 = .ok (.ifCond .ge 32, 3) := by decide +kernel
theorem dX6_worth_40 : decode cX6_worth 40 = .ok (.ldc 27, 2) := by decide +kernel
theorem dX6_worth_42 : decode cX6_worth 42 = .ok (.iload 8, 2) := by decide +kernel
theorem dX6_worth_44 : decode cX6_worth 44 = .ok (.ineg, 1) := by decide +kernel
theorem dX6_worth_45 : decode cX6_worth 45 = .ok (.i2c, 1) := by decide +kernel
theorem dX6_worth_46 : decode cX6_worth 46 = .ok (.invokevirtual 29, 3) := by decide +kernel
theorem dX6_worth_49 : decode cX6_worth 49 = .ok (.ifCond .lt 20, 3) := by decide +kernel
theorem dX6_worth_52 : decode cX6_worth 52 = .ok (.iload 8, 2) := by decide +kernel
theorem dX6_worth_54 : decode cX6_worth 54 = .ok (.iload_n 1, 1) := by decide +kernel
theorem dX6_worth_55 : decode cX6_worth 55 = .ok (.ineg, 1) := by decide +kernel
theorem dX6_worth_56 : decode cX6_worth 56 = .ok (.if_icmp .ne 7, 3) := by decide +kernel
theorem dX6_worth_59 : decode cX6_worth 59 = .ok (.iconst 1, 1) := by decide +kernel
theorem dX6_worth_60 : decode cX6_worth 60 = .ok (.goto 4, 3) := by decide +kernel
theorem dX6_worth_63 : decode cX6_worth 63 = .ok (.iconst 0, 1) := by decide +kernel
theorem dX6_worth_64 : decode cX6_worth 64 = .ok (.istore 4, 2) := by decide +kernel
theorem dX6_worth_66 : decode cX6_worth 66 = .ok (.goto 61, 3) := by decide +kernel
theorem dX6_worth_69 : decode cX6_worth 69 = .ok (.iload 4, 2) := by decide +kernel
theorem dX6_worth_71 : decode cX6_worth 71 = .ok (.ifCond .eq 15, 3) := by decide +kernel
theorem dX6_worth_74 : decode cX6_worth 74 = .ok (.iload 8, 2) := by decide +kernel
theorem dX6_worth_76 : decode cX6_worth 76 = .ok (.bipush (-59), 2) := by decide +kernel
theorem dX6_worth_78 : decode cX6_worth 78 = .ok (.if_icmp .ne 8, 3) := by decide +kernel
theorem dX6_worth_81 : decode cX6_worth 81 = .ok (.aload_n 3, 1) := by decide +kernel
theorem dX6_worth_82 : decode cX6_worth 82 = .ok (.invokevirtual 35, 3) := by decide +kernel
theorem dX6_worth_85 : decode cX6_worth 85 = .ok (.ireturn, 1) := by decide +kernel
theorem dX6_worth_86 : decode cX6_worth 86 = .ok (.iload 4, 2) := by decide +kernel
theorem dX6_worth_88 : decode cX6_worth 88 = .ok (.ifCond .eq 27, 3) := by decide +kernel
theorem dX6_worth_91 : decode cX6_worth 91 = .ok (.iload 8, 2) := by decide +kernel
theorem dX6_worth_93 : decode cX6_worth 93 = .ok (.bipush (-63), 2) := by decide +kernel
theorem dX6_worth_95 : decode cX6_worth 95 = .ok (.if_icmp .ne 20, 3) := by decide +kernel
theorem dX6_worth_98 : decode cX6_worth 98 = .ok (.aload_n 3, 1) := by decide +kernel
theorem dX6_worth_99 : decode cX6_worth 99 = .ok (.invokevirtual 35, 3) := by decide +kernel
theorem dX6_worth_102 : decode cX6_worth 102 = .ok (.ifCond .eq 7, 3) := by decide +kernel
theorem dX6_worth_105 : decode cX6_worth 105 = .ok (.iconst 1, 1) := by decide +kernel
theorem dX6_worth_106 : decode cX6_worth 106 = .ok (.goto 4, 3) := by decide +kernel
theorem dX6_worth_109 : decode cX6_worth 109 = .ok (.iconst 0, 1) := by decide +kernel
theorem dX6_worth_110 : decode cX6_worth 110 = .ok (.istore 4, 2) := by decide +kernel
theorem dX6_worth_112 : decode cX6_worth 112 = .ok (.goto 15, 3) := by decide +kernel
theorem dX6_worth_115 : decode cX6_worth 115 = .ok (.iload 4, 2) := by decide +kernel
theorem dX6_worth_117 : decode cX6_worth 117 = .ok (.ifCond .eq 10, 3) := by decide +kernel
theorem dX6_worth_120 : decode cX6_worth 120 = .ok (.iload 8, 2) := by decide +kernel
theorem dX6_worth_122 : decode cX6_worth 122 = .ok (.aload_n 2, 1) := by decide +kernel
theorem dX6_worth_123 : decode cX6_worth 123 = .ok (.aload_n 3, 1) := by decide +kernel
theorem dX6_worth_124 : decode cX6_worth 124 = .ok (.invokestatic 39, 3) := by decide +kernel
theorem dX6_worth_127 : decode cX6_worth 127 = .ok (.iinc 7 1, 3) := by decide +kernel
theorem dX6_worth_130 : decode cX6_worth 130 = .ok (.goto (-109), 3) := by decide +kernel
theorem dX6_worth_133 : decode cX6_worth 133 = .ok (.iconst 0, 1) := by decide +kernel
theorem dX6_worth_134 : decode cX6_worth 134 = .ok (.ireturn, 1) := by decide +kernel
