theorem dX12_init_0 : decode cX12_init 0 = .ok (.aload_n 0, 1) := by decide +kernel
theorem dX12_init_1 : decode cX12_init 1 = .ok (.invokespecial 1, 3) := by decide +kernel
theorem dX12_init_4 : decode cX12_init 4 = .ok (.aload_n 0, 1) := by decide +kernel
theorem dX12_init_5 : decode cX12_init 5 = .ok (.iconst 2, 1) := by decide +kernel
theorem dX12_init_6 : decode cX12_init 6 = .ok (.newarray .int, 2) := by decide +kernel
theorem dX12_init_8 : decode cX12_init 8 = .ok (.putfield 7, 3) := by decide +kernel
theorem dX12_init_11 : decode cX12_init 11 = .ok (.aload_n 0, 1) := by decide +kernel
theorem dX12_init_12 : decode cX12_init 12 = .ok (.sipush 142, 3) := by decide +kernel
theorem dX12_init_15 : decode cX12_init 15 = .ok (.newarray .int, 2) := by decide +kernel
theorem dX12_init_17 : decode cX12_init 17 = .ok (.putfield 13, 3) := by decide +kernel
theorem dX12_init_20 : decode cX12_init 20 = .ok (.aload_n 0, 1) := by decide +kernel
theorem dX12_init_21 : decode cX12_init 21 = .ok (.bipush 9, 2) := by decide +kernel
theorem dX12_init_23 : decode cX12_init 23 = .ok (.newarray .int, 2) := by decide +kernel
theorem dX12_init_25 : decode cX12_init 25 = .ok (.putfield 16, 3) := by decide +kernel
theorem dX12_init_28 : decode cX12_init 28 = .ok (.aload_n 0, 1) := by decide +kernel
theorem dX12_init_29 : decode cX12_init 29 = .ok (.bipush 9, 2) := by decide +kernel
theorem dX12_init_31 : decode cX12_init 31 = .ok (.newarray .int, 2) := by decide +kernel
theorem dX12_init_33 : decode cX12_init 33 = .ok (.putfield 19, 3) := by decide +kernel
theorem dX12_init_36 : decode cX12_init 36 = .ok (.aload_n 0, 1) := by decide +kernel
theorem dX12_init_37 : decode cX12_init 37 = .ok (.bipush 9, 2) := by decide +kernel
theorem dX12_init_39 : decode cX12_init 39 = .ok (.newarray .int, 2) := by decide +kernel
theorem dX12_init_41 : decode cX12_init 41 = .ok (.putfield 22, 3) := by decide +kernel
theorem dX12_init_44 : decode cX12_init 44 = .ok (.aload_n 0, 1) := by decide +kernel
theorem dX12_init_45 : decode cX12_init 45 = .ok (.bipush 45, 2) := by decide +kernel
theorem dX12_init_47 : decode cX12_init 47 = .ok (.newarray .int, 2) := by decide +kernel
theorem dX12_init_49 : decode cX12_init 49 = .ok (.putfield 25, 3) := by decide +kernel
theorem dX12_init_52 : decode cX12_init 52 = .ok (.aload_n 0, 1) := by decide +kernel
theorem dX12_init_53 : decode cX12_init 53 = .ok (.bipush 30, 2) := by decide +kernel
theorem dX12_init_55 : decode cX12_init 55 = .ok (.newarray .int, 2) := by decide +kernel
theorem dX12_init_57 : decode cX12_init 57 = .ok (.putfield 28, 3) := by decide +kernel
theorem dX12_init_60 : decode cX12_init 60 = .ok (.aload_n 0, 1) := by decide +kernel
theorem dX12_init_61 : decode cX12_init 61 = .ok (.bipush 8, 2) := by decide +kernel
theorem dX12_init_63 : decode cX12_init 63 = .ok (.newarray .int, 2) := by decide +kernel
theorem dX12_init_65 : decode cX12_init 65 = .ok (.putfield 31, 3) := by decide +kernel
theorem dX12_init_68 : decode cX12_init 68 = .ok (.aload_n 0, 1) := by decide +kernel
theorem dX12_init_69 : decode cX12_init 69 = .ok (.bipush 8, 2) := by decide +kernel
theorem dX12_init_71 : decode cX12_init 71 = .ok (.newarray .int, 2) := by decide +kernel
theorem dX12_init_73 : decode cX12_init 73 = .ok (.putfield 34, 3) := by decide +kernel
theorem dX12_init_76 : decode cX12_init 76 = .ok (.aload_n 0, 1) := by decide +kernel
theorem dX12_init_77 : decode cX12_init 77 = .ok (.iconst 4, 1) := by decide +kernel
theorem dX12_init_78 : decode cX12_init 78 = .ok (.newarray .int, 2) := by decide +kernel
theorem dX12_init_80 : decode cX12_init 80 = .ok (.putfield 37, 3) := by decide +kernel
theorem dX12_init_83 : decode cX12_init 83 = .ok (.aload_n 0, 1) := by decide +kernel
theorem dX12_init_84 : decode cX12_init 84 = .ok (.iconst 4, 1) := by decide +kernel
theorem dX12_init_85 : decode cX12_init 85 = .ok (.newarray .int, 2) := by decide +kernel
theorem dX12_init_87 : decode cX12_init 87 = .ok (.putfield 40, 3) := by decide +kernel
theorem dX12_init_90 : decode cX12_init 90 = .ok (.aload_n 0, 1) := by decide +kernel
theorem dX12_init_91 : decode cX12_init 91 = .ok (.bipush 30, 2) := by decide +kernel
theorem dX12_init_93 : decode cX12_init 93 = .ok (.newarray .int, 2) := by decide +kernel
theorem dX12_init_95 : decode cX12_init 95 = .ok (.putfield 43, 3) := by decide +kernel
theorem dX12_init_98 : decode cX12_init 98 = .ok (.aload_n 0, 1) := by decide +kernel
theorem dX12_init_99 : decode cX12_init 99 = .ok (.bipush 30, 2) := by decide +kernel
theorem dX12_init_101 : decode cX12_init 101 = .ok (.newarray .int, 2) := by decide +kernel
theorem dX12_init_103 : decode cX12_init 103 = .ok (.putfield 46, 3) := by decide +kernel
theorem dX12_init_106 : decode cX12_init 106 = .ok (.aload_n 0, 1) := by decide +kernel
theorem dX12_init_107 : decode cX12_init 107 = .ok (.bipush 30, 2) := by decide +kernel
theorem dX12_init_109 : decode cX12_init 109 = .ok (.newarray .int, 2) := by decide +kernel
theorem dX12_init_111 : decode cX12_init 111 = .ok (.putfield 49, 3) := by decide +kernel
theorem dX12_init_114 : decode cX12_init 114 = .ok (.aload_n 0, 1) := by decide +kernel
theorem dX12_init_115 : decode cX12_init 115 = .ok (.bipush 30, 2) := by decide +kernel
theorem dX12_init_117 : decode cX12_init 117 = .ok (.newarray .int, 2) := by decide +kernel
theorem dX12_init_119 : decode cX12_init 119 = .ok (.putfield 52, 3) := by decide +kernel
theorem dX12_init_122 : decode cX12_init 122 = .ok (.aload_n 0, 1) := by decide +kernel
theorem dX12_init_123 : decode cX12_init 123 = .ok (.bipush 30, 2) := by decide +kernel
theorem dX12_init_125 : decode cX12_init 125 = .ok (.newarray .int, 2) := by decide +kernel
theorem dX12_init_127 : decode cX12_init 127 = .ok (.putfield 55, 3) := by decide +kernel
theorem dX12_init_130 : decode cX12_init 130 = .ok (.aload_n 0, 1) := by decide +kernel
theorem dX12_init_131 : decode cX12_init 131 = .ok (.iconst 2, 1) := by decide +kernel
theorem dX12_init_132 : decode cX12_init 132 = .ok (.newarray .int, 2) := by decide +kernel
theorem dX12_init_134 : decode cX12_init 134 = .ok (.putfield 58, 3) := by decide +kernel
theorem dX12_init_137 : decode cX12_init 137 = .ok (.aload_n 0, 1) := by decide +kernel
theorem dX12_init_138 : decode cX12_init 138 = .ok (.sipush 240, 3) := by decide +kernel
theorem dX12_init_141 : decode cX12_init 141 = .ok (.newarray .int, 2) := by decide +kernel
theorem dX12_init_143 : decode cX12_init 143 = .ok (.putfield 61, 3) := by decide +kernel
theorem dX12_init_146 : decode cX12_init 146 = .ok (.aload_n 0, 1) := by decide +kernel
theorem dX12_init_147 : decode cX12_init 147 = .ok (.sipush 256, 3) := by decide +kernel
theorem dX12_init_150 : decode cX12_init 150 = .ok (.newarray .int, 2) := by decide +kernel
theorem dX12_init_152 : decode cX12_init 152 = .ok (.putfield 64, 3) := by decide +kernel
theorem dX12_init_155 : decode cX12_init 155 = .ok (.aload_n 0, 1) := by decide +kernel
theorem dX12_init_156 : decode cX12_init 156 = .ok (.bipush 8, 2) := by decide +kernel
theorem dX12_init_158 : decode cX12_init 158 = .ok (.newarray .int, 2) := by decide +kernel
theorem dX12_init_160 : decode cX12_init 160 = .ok (.putfield 67, 3) := by decide +kernel
theorem dX12_init_163 : decode cX12_init 163 = .ok (.aload_n 0, 1) := by decide +kernel
theorem dX12_init_164 : decode cX12_init 164 = .ok (.bipush 8, 2) := by decide +kernel
theorem dX12_init_166 : decode cX12_init 166 = .ok (.newarray .int, 2) := by decide +kernel
theorem dX12_init_168 : decode cX12_init 168 = .ok (.putfield 70, 3) := by decide +kernel
theorem dX12_init_171 : decode cX12_init 171 = .ok (.aload_n 0, 1) := by decide +kernel
theorem dX12_init_172 : decode cX12_init 172 = .ok (.bipush 8, 2) := by decide +kernel
theorem dX12_init_174 : decode cX12_init 174 = .ok (.newarray .int, 2) := by decide +kernel
theorem dX12_init_176 : decode cX12_init 176 = .ok (.putfield 73, 3) := by decide +kernel
theorem dX12_init_179 : decode cX12_init 179 = .ok (.aload_n 0, 1) := by decide +kernel
theorem dX12_init_180 : decode cX12_init 180 = .ok (.sipush 600, 3) := by decide +kernel
theorem dX12_init_183 : decode cX12_init 183 = .ok (.newarray .int, 2) := by decide +kernel
theorem dX12_init_185 : decode cX12_init 185 = .ok (.putfield 76, 3) := by decide +kernel
theorem dX12_init_188 : decode cX12_init 188 = .ok (.aload_n 0, 1) := by decide +kernel
theorem dX12_init_189 : decode cX12_init 189 = .ok (.iconst 4, 1) := by decide +kernel
theorem dX12_init_190 : decode cX12_init 190 = .ok (.newarray .boolean, 2) := by decide +kernel
theorem dX12_init_192 : decode cX12_init 192 = .ok (.putfield 79, 3) := by decide +kernel
theorem dX12_init_195 : decode cX12_init 195 = .ok (.aload_n 0, 1) := by decide +kernel
theorem dX12_init_196 : decode cX12_init 196 = .ok (.iconst 4, 1) := by decide +kernel
theorem dX12_init_197 : decode cX12_init 197 = .ok (.newarray .int, 2) := by decide +kernel
theorem dX12_init_199 : decode cX12_init 199 = .ok (.putfield 83, 3) := by decide +kernel
theorem dX12_init_202 : decode cX12_init 202 = .ok (.aload_n 0, 1) := by decide +kernel
theorem dX12_init_203 : decode cX12_init 203 = .ok (.iconst 4, 1) := by decide +kernel
theorem dX12_init_204 : decode cX12_init 204 = .ok (.newarray .int, 2) := by decide +kernel
theorem dX12_init_206 : decode cX12_init 206 = .ok (.putfield 86, 3) := by decide +kernel
theorem dX12_init_209 : decode cX12_init 209 = .ok (.aload_n 0, 1) := by decide +kernel
theorem dX12_init_210 : decode cX12_init 210 = .ok (.sipush 240, 3) := by decide +kernel
theorem dX12_init_213 : decode cX12_init 213 = .ok (.newarray .int, 2) := by decide +kernel
theorem dX12_init_215 : decode cX12_init 215 = .ok (.putfield 89, 3) := by decide +kernel
theorem dX12_init_218 : decode cX12_init 218 = .ok (.aload_n 0, 1) := by decide +kernel
theorem dX12_init_219 : decode cX12_init 219 = .ok (.bipush 60, 2) := by decide +kernel
theorem dX12_init_221 : decode cX12_init 221 = .ok (.newarray .int, 2) := by decide +kernel
theorem dX12_init_223 : decode cX12_init 223 = .ok (.putfield 92, 3) := by decide +kernel
theorem dX12_init_226 : decode cX12_init 226 = .ok (.aload_n 0, 1) := by decide +kernel
theorem dX12_init_227 : decode cX12_init 227 = .ok (.bipush 8, 2) := by decide +kernel
theorem dX12_init_229 : decode cX12_init 229 = .ok (.putfield 95, 3) := by decide +kernel
theorem dX12_init_232 : decode cX12_init 232 = .ok (.aload_n 0, 1) := by decide +kernel
theorem dX12_init_233 : decode cX12_init 233 = .ok (.bipush 7, 2) := by decide +kernel
theorem dX12_init_235 : decode cX12_init 235 = .ok (.putfield 99, 3) := by decide +kernel
theorem dX12_init_238 : decode cX12_init 238 = .ok (.return_, 1) := by decide +kernel
theorem dX12_in_0 : decode cX12_in 0 = .ok (.iload_n 0, 1) := by decide +kernel
theorem dX12_in_1 : decode cX12_in 1 = .ok (.iload_n 1, 1) := by decide +kernel
theorem dX12_in_2 : decode cX12_in 2 = .ok (.if_icmp .lt 12, 3) := by decide +kernel
theorem dX12_in_5 : decode cX12_in 5 = .ok (.iload_n 0, 1) := by decide +kernel
theorem dX12_in_6 : decode cX12_in 6 = .ok (.iload_n 2, 1) := by decide +kernel
theorem dX12_in_7 : decode cX12_in 7 = .ok (.if_icmp .gt 7, 3) := by decide +kernel
theorem dX12_in_10 : decode cX12_in 10 = .ok (.iconst 1, 1) := by decide +kernel
theorem dX12_in_11 : decode cX12_in 11 = .ok (.goto 4, 3) := by decide +kernel
theorem dX12_in_14 : decode cX12_in 14 = .ok (.iconst 0, 1) := by decide +kernel
theorem dX12_in_15 : decode cX12_in 15 = .ok (.ireturn, 1) := by decide +kernel
theorem dX12_isIn_0 : decode cX12_isIn 0 = .ok (.iload_n 0, 1) := by decide +kernel
theorem dX12_isIn_1 : decode cX12_isIn 1 = .ok (.iload_n 1, 1) := by decide +kernel
theorem dX12_isIn_2 : decode cX12_isIn 2 = .ok (.ishr, 1) := by decide +kernel
theorem dX12_isIn_3 : decode cX12_isIn 3 = .ok (.iconst 1, 1) := by decide +kernel
theorem dX12_isIn_4 : decode cX12_isIn 4 = .ok (.iand, 1) := by decide +kernel
theorem dX12_isIn_5 : decode cX12_isIn 5 = .ok (.iconst 1, 1) := by decide +kernel
theorem dX12_isIn_6 : decode cX12_isIn 6 = .ok (.if_icmp .ne 7, 3) := by decide +kernel
theorem dX12_isIn_9 : decode cX12_isIn 9 = .ok (.iconst 1, 1) := by decide +kernel
theorem dX12_isIn_10 : decode cX12_isIn 10 = .ok (.goto 4, 3) := by decide +kernel
theorem dX12_isIn_13 : decode cX12_isIn 13 = .ok (.iconst 0, 1) := by decide +kernel
theorem dX12_isIn_14 : decode cX12_isIn 14 = .ok (.ireturn, 1) := by decide +kernel
theorem dX12_no_0 : decode cX12_no 0 = .ok (.ldc2_w 102, 3) := by decide +kernel
theorem dX12_no_3 : decode cX12_no 3 = .ok (.iload_n 0, 1) := by decide +kernel
theorem dX12_no_4 : decode cX12_no 4 = .ok (.i2l, 1) := by decide +kernel
theorem dX12_no_5 : decode cX12_no 5 = .ok (.lsub, 1) := by decide +kernel
theorem dX12_no_6 : decode cX12_no 6 = .ok (.lreturn, 1) := by decide +kernel
theorem dX12_lowest_0 : decode cX12_lowest 0 = .ok (.lload_n 0, 1) := by decide +kernel
theorem dX12_lowest_1 : decode cX12_lowest 1 = .ok (.lstore 5, 2) := by decide +kernel
theorem dX12_lowest_3 : decode cX12_lowest 3 = .ok (.lload_n 2, 1) := by decide +kernel
theorem dX12_lowest_4 : decode cX12_lowest 4 = .ok (.lstore 7, 2) := by decide +kernel
theorem dX12_lowest_6 : decode cX12_lowest 6 = .ok (.lload 7, 2) := by decide +kernel
theorem dX12_lowest_8 : decode cX12_lowest 8 = .ok (.lconst 0, 1) := by decide +kernel
theorem dX12_lowest_9 : decode cX12_lowest 9 = .ok (.lcmp, 1) := by decide +kernel
theorem dX12_lowest_10 : decode cX12_lowest 10 = .ok (.ifCond .eq 21, 3) := by decide +kernel
theorem dX12_lowest_13 : decode cX12_lowest 13 = .ok (.lload 5, 2) := by decide +kernel
theorem dX12_lowest_15 : decode cX12_lowest 15 = .ok (.lload 7, 2) := by decide +kernel
theorem dX12_lowest_17 : decode cX12_lowest 17 = .ok (.lrem, 1) := by decide +kernel
theorem dX12_lowest_18 : decode cX12_lowest 18 = .ok (.lstore 9, 2) := by decide +kernel
theorem dX12_lowest_20 : decode cX12_lowest 20 = .ok (.lload 7, 2) := by decide +kernel
theorem dX12_lowest_22 : decode cX12_lowest 22 = .ok (.lstore 5, 2) := by decide +kernel
theorem dX12_lowest_24 : decode cX12_lowest 24 = .ok (.lload 9, 2) := by decide +kernel
theorem dX12_lowest_26 : decode cX12_lowest 26 = .ok (.lstore 7, 2) := by decide +kernel
theorem dX12_lowest_28 : decode cX12_lowest 28 = .ok (.goto (-22), 3) := by decide +kernel
theorem dX12_lowest_31 : decode cX12_lowest 31 = .ok (.iload 4, 2) := by decide +kernel
theorem dX12_lowest_33 : decode cX12_lowest 33 = .ok (.ifCond .ne 10, 3) := by decide +kernel
theorem dX12_lowest_36 : decode cX12_lowest 36 = .ok (.lload_n 0, 1) := by decide +kernel
theorem dX12_lowest_37 : decode cX12_lowest 37 = .ok (.lload 5, 2) := by decide +kernel
theorem dX12_lowest_39 : decode cX12_lowest 39 = .ok (.ldiv, 1) := by decide +kernel
theorem dX12_lowest_40 : decode cX12_lowest 40 = .ok (.goto 7, 3) := by decide +kernel
theorem dX12_lowest_43 : decode cX12_lowest 43 = .ok (.lload_n 2, 1) := by decide +kernel
theorem dX12_lowest_44 : decode cX12_lowest 44 = .ok (.lload 5, 2) := by decide +kernel
theorem dX12_lowest_46 : decode cX12_lowest 46 = .ok (.ldiv, 1) := by decide +kernel
theorem dX12_lowest_47 : decode cX12_lowest 47 = .ok (.lreturn, 1) := by decide +kernel
theorem dX12_isText_0 : decode cX12_isText 0 = .ok (.iload_n 0, 1) := by decide +kernel
theorem dX12_isText_1 : decode cX12_isText 1 = .ok (.iconst 0, 1) := by decide +kernel
theorem dX12_isText_2 : decode cX12_isText 2 = .ok (.iconst 1, 1) := by decide +kernel
theorem dX12_isText_3 : decode cX12_isText 3 = .ok (.invokestatic 104, 3) := by decide +kernel
theorem dX12_isText_6 : decode cX12_isText 6 = .ok (.ireturn, 1) := by decide +kernel
theorem dX12_isNight_0 : decode cX12_isNight 0 = .ok (.iload_n 0, 1) := by decide +kernel
theorem dX12_isNight_1 : decode cX12_isNight 1 = .ok (.iconst 0, 1) := by decide +kernel
theorem dX12_isNight_2 : decode cX12_isNight 2 = .ok (.bipush 29, 2) := by decide +kernel
theorem dX12_isNight_4 : decode cX12_isNight 4 = .ok (.invokestatic 104, 3) := by decide +kernel
theorem dX12_isNight_7 : decode cX12_isNight 7 = .ok (.ireturn, 1) := by decide +kernel
theorem dX12_type_0 : decode cX12_type 0 = .ok (.iload_n 1, 1) := by decide +kernel
theorem dX12_type_1 : decode cX12_type 1 = .ok (.invokestatic 108, 3) := by decide +kernel
theorem dX12_type_4 : decode cX12_type 4 = .ok (.ifCond .eq 14, 3) := by decide +kernel
theorem dX12_type_7 : decode cX12_type 7 = .ok (.iload_n 2, 1) := by decide +kernel
theorem dX12_type_8 : decode cX12_type 8 = .ok (.iconst 0, 1) := by decide +kernel
theorem dX12_type_9 : decode cX12_type 9 = .ok (.sipush 255, 3) := by decide +kernel
theorem dX12_type_12 : decode cX12_type 12 = .ok (.invokestatic 104, 3) := by decide +kernel
theorem dX12_type_15 : decode cX12_type 15 = .ok (.ifCond .ne 6, 3) := by decide +kernel
theorem dX12_type_18 : decode cX12_type 18 = .ok (.bipush (-2), 2) := by decide +kernel
theorem dX12_type_20 : decode cX12_type 20 = .ok (.ireturn, 1) := by decide +kernel
theorem dX12_type_21 : decode cX12_type 21 = .ok (.aload_n 0, 1) := by decide +kernel
theorem dX12_type_22 : decode cX12_type 22 = .ok (.getfield 7, 3) := by decide +kernel
theorem dX12_type_25 : decode cX12_type 25 = .ok (.iload_n 1, 1) := by decide +kernel
theorem dX12_type_26 : decode cX12_type 26 = .ok (.iaload, 1) := by decide +kernel
theorem dX12_type_27 : decode cX12_type 27 = .ok (.iload_n 1, 1) := by decide +kernel
theorem dX12_type_28 : decode cX12_type 28 = .ok (.ifCond .ne 8, 3) := by decide +kernel
theorem dX12_type_31 : decode cX12_type 31 = .ok (.bipush 71, 2) := by decide +kernel
theorem dX12_type_33 : decode cX12_type 33 = .ok (.goto 5, 3) := by decide +kernel
theorem dX12_type_36 : decode cX12_type 36 = .ok (.bipush 30, 2) := by decide +kernel
theorem dX12_type_38 : decode cX12_type 38 = .ok (.if_icmp .ne 6, 3) := by decide +kernel
theorem dX12_type_41 : decode cX12_type 41 = .ok (.bipush (-4), 2) := by decide +kernel
theorem dX12_type_43 : decode cX12_type 43 = .ok (.ireturn, 1) := by decide +kernel
theorem dX12_type_44 : decode cX12_type 44 = .ok (.aload_n 0, 1) := by decide +kernel
theorem dX12_type_45 : decode cX12_type 45 = .ok (.getfield 13, 3) := by decide +kernel
theorem dX12_type_48 : decode cX12_type 48 = .ok (.bipush 71, 2) := by decide +kernel
theorem dX12_type_50 : decode cX12_type 50 = .ok (.iload_n 1, 1) := by decide +kernel
theorem dX12_type_51 : decode cX12_type 51 = .ok (.imul, 1) := by decide +kernel
theorem dX12_type_52 : decode cX12_type 52 = .ok (.aload_n 0, 1) := by decide +kernel
theorem dX12_type_53 : decode cX12_type 53 = .ok (.getfield 7, 3) := by decide +kernel
theorem dX12_type_56 : decode cX12_type 56 = .ok (.iload_n 1, 1) := by decide +kernel
theorem dX12_type_57 : decode cX12_type 57 = .ok (.iaload, 1) := by decide +kernel
theorem dX12_type_58 : decode cX12_type 58 = .ok (.iadd, 1) := by decide +kernel
theorem dX12_type_59 : decode cX12_type 59 = .ok (.iload_n 2, 1) := by decide +kernel
theorem dX12_type_60 : decode cX12_type 60 = .ok (.iastore, 1) := by decide +kernel
theorem dX12_type_61 : decode cX12_type 61 = .ok (.aload_n 0, 1) := by decide +kernel
theorem dX12_type_62 : decode cX12_type 62 = .ok (.getfield 7, 3) := by decide +kernel
theorem dX12_type_65 : decode cX12_type 65 = .ok (.iload_n 1, 1) := by decide +kernel
theorem dX12_type_66 : decode cX12_type 66 = .ok (.dup2, 1) := by decide +kernel
theorem dX12_type_67 : decode cX12_type 67 = .ok (.iaload, 1) := by decide +kernel
theorem dX12_type_68 : decode cX12_type 68 = .ok (.iconst 1, 1) := by decide +kernel
theorem dX12_type_69 : decode cX12_type 69 = .ok (.iadd, 1) := by decide +kernel
theorem dX12_type_70 : decode cX12_type 70 = .ok (.iastore, 1) := by decide +kernel
theorem dX12_type_71 : decode cX12_type 71 = .ok (.aload_n 0, 1) := by decide +kernel
theorem dX12_type_72 : decode cX12_type 72 = .ok (.getfield 7, 3) := by decide +kernel
theorem dX12_type_75 : decode cX12_type 75 = .ok (.iload_n 1, 1) := by decide +kernel
theorem dX12_type_76 : decode cX12_type 76 = .ok (.iaload, 1) := by decide +kernel
theorem dX12_type_77 : decode cX12_type 77 = .ok (.ireturn, 1) := by decide +kernel
theorem dX12_wipe_0 : decode cX12_wipe 0 = .ok (.iload_n 1, 1) := by decide +kernel
theorem dX12_wipe_1 : decode cX12_wipe 1 = .ok (.invokestatic 108, 3) := by decide +kernel
theorem dX12_wipe_4 : decode cX12_wipe 4 = .ok (.ifCond .ne 6, 3) := by decide +kernel
theorem dX12_wipe_7 : decode cX12_wipe 7 = .ok (.bipush (-2), 2) := by decide +kernel
theorem dX12_wipe_9 : decode cX12_wipe 9 = .ok (.ireturn, 1) := by decide +kernel
theorem dX12_wipe_10 : decode cX12_wipe 10 = .ok (.aload_n 0, 1) := by decide +kernel
theorem dX12_wipe_11 : decode cX12_wipe 11 = .ok (.getfield 7, 3) := by decide +kernel
theorem dX12_wipe_14 : decode cX12_wipe 14 = .ok (.iload_n 1, 1) := by decide +kernel
theorem dX12_wipe_15 : decode cX12_wipe 15 = .ok (.iaload, 1) := by decide +kernel
theorem dX12_wipe_16 : decode cX12_wipe 16 = .ok (.istore_n 2, 1) := by decide +kernel
theorem dX12_wipe_17 : decode cX12_wipe 17 = .ok (.aload_n 0, 1) := by decide +kernel
theorem dX12_wipe_18 : decode cX12_wipe 18 = .ok (.getfield 7, 3) := by decide +kernel
theorem dX12_wipe_21 : decode cX12_wipe 21 = .ok (.iload_n 1, 1) := by decide +kernel
theorem dX12_wipe_22 : decode cX12_wipe 22 = .ok (.iconst 0, 1) := by decide +kernel
theorem dX12_wipe_23 : decode cX12_wipe 23 = .ok (.iastore, 1) := by decide +kernel
theorem dX12_wipe_24 : decode cX12_wipe 24 = .ok (.iload_n 2, 1) := by decide +kernel
theorem dX12_wipe_25 : decode cX12_wipe 25 = .ok (.ireturn, 1) := by decide +kernel
theorem dX12_undo_0 : decode cX12_undo 0 = .ok (.iload_n 1, 1) := by decide +kernel
theorem dX12_undo_1 : decode cX12_undo 1 = .ok (.invokestatic 108, 3) := by decide +kernel
theorem dX12_undo_4 : decode cX12_undo 4 = .ok (.ifCond .ne 6, 3) := by decide +kernel
theorem dX12_undo_7 : decode cX12_undo 7 = .ok (.bipush (-2), 2) := by decide +kernel
theorem dX12_undo_9 : decode cX12_undo 9 = .ok (.ireturn, 1) := by decide +kernel
theorem dX12_undo_10 : decode cX12_undo 10 = .ok (.aload_n 0, 1) := by decide +kernel
theorem dX12_undo_11 : decode cX12_undo 11 = .ok (.getfield 7, 3) := by decide +kernel
theorem dX12_undo_14 : decode cX12_undo 14 = .ok (.iload_n 1, 1) := by decide +kernel
theorem dX12_undo_15 : decode cX12_undo 15 = .ok (.iaload, 1) := by decide +kernel
theorem dX12_undo_16 : decode cX12_undo 16 = .ok (.ifCond .ne 6, 3) := by decide +kernel
theorem dX12_undo_19 : decode cX12_undo 19 = .ok (.bipush (-3), 2) := by decide +kernel
theorem dX12_undo_21 : decode cX12_undo 21 = .ok (.ireturn, 1) := by decide +kernel
theorem dX12_undo_22 : decode cX12_undo 22 = .ok (.aload_n 0, 1) := by decide +kernel
theorem dX12_undo_23 : decode cX12_undo 23 = .ok (.getfield 7, 3) := by decide +kernel
theorem dX12_undo_26 : decode cX12_undo 26 = .ok (.iload_n 1, 1) := by decide +kernel
theorem dX12_undo_27 : decode cX12_undo 27 = .ok (.dup2, 1) := by decide +kernel
theorem dX12_undo_28 : decode cX12_undo 28 = .ok (.iaload, 1) := by decide +kernel
theorem dX12_undo_29 : decode cX12_undo 29 = .ok (.iconst 1, 1) := by decide +kernel
theorem dX12_undo_30 : decode cX12_undo 30 = .ok (.isub, 1) := by decide +kernel
theorem dX12_undo_31 : decode cX12_undo 31 = .ok (.iastore, 1) := by decide +kernel
theorem dX12_undo_32 : decode cX12_undo 32 = .ok (.aload_n 0, 1) := by decide +kernel
theorem dX12_undo_33 : decode cX12_undo 33 = .ok (.getfield 7, 3) := by decide +kernel
theorem dX12_undo_36 : decode cX12_undo 36 = .ok (.iload_n 1, 1) := by decide +kernel
theorem dX12_undo_37 : decode cX12_undo 37 = .ok (.iaload, 1) := by decide +kernel
theorem dX12_undo_38 : decode cX12_undo 38 = .ok (.ireturn, 1) := by decide +kernel
theorem dX12_byteAt_0 : decode cX12_byteAt 0 = .ok (.iload_n 1, 1) := by decide +kernel
theorem dX12_byteAt_1 : decode cX12_byteAt 1 = .ok (.aload_n 0, 1) := by decide +kernel
theorem dX12_byteAt_2 : decode cX12_byteAt 2 = .ok (.getfield 7, 3) := by decide +kernel
theorem dX12_byteAt_5 : decode cX12_byteAt 5 = .ok (.iconst 0, 1) := by decide +kernel
theorem dX12_byteAt_6 : decode cX12_byteAt 6 = .ok (.iaload, 1) := by decide +kernel
theorem dX12_byteAt_7 : decode cX12_byteAt 7 = .ok (.if_icmp .ge 12, 3) := by decide +kernel
theorem dX12_byteAt_10 : decode cX12_byteAt 10 = .ok (.aload_n 0, 1) := by decide +kernel
theorem dX12_byteAt_11 : decode cX12_byteAt 11 = .ok (.getfield 13, 3) := by decide +kernel
theorem dX12_byteAt_14 : decode cX12_byteAt 14 = .ok (.iload_n 1, 1) := by decide +kernel
theorem dX12_byteAt_15 : decode cX12_byteAt 15 = .ok (.iaload, 1) := by decide +kernel
theorem dX12_byteAt_16 : decode cX12_byteAt 16 = .ok (.goto 4, 3) := by decide +kernel
theorem dX12_byteAt_19 : decode cX12_byteAt 19 = .ok (.iconst (-1), 1) := by decide +kernel
theorem dX12_byteAt_20 : decode cX12_byteAt 20 = .ok (.ireturn, 1) := by decide +kernel
theorem dX12_isSound_0 : decode cX12_isSound 0 = .ok (.aload_n 0, 1) := by decide +kernel
theorem dX12_isSound_1 : decode cX12_isSound 1 = .ok (.iload_n 1, 1) := by decide +kernel
theorem dX12_isSound_2 : decode cX12_isSound 2 = .ok (.invokevirtual 112, 3) := by decide +kernel
theorem dX12_isSound_5 : decode cX12_isSound 5 = .ok (.bipush 97, 2) := by decide +kernel
theorem dX12_isSound_7 : decode cX12_isSound 7 = .ok (.bipush 104, 2) := by decide +kernel
theorem dX12_isSound_9 : decode cX12_isSound 9 = .ok (.invokestatic 104, 3) := by decide +kernel
theorem dX12_isSound_12 : decode cX12_isSound 12 = .ok (.ireturn, 1) := by decide +kernel
theorem dX12_readsWheel_0 : decode cX12_readsWheel 0 = .ok (.aload_n 0, 1) := by decide +kernel
theorem dX12_readsWheel_1 : decode cX12_readsWheel 1 = .ok (.iload_n 2, 1) := by decide +kernel
theorem dX12_readsWheel_2 : decode cX12_readsWheel 2 = .ok (.invokevirtual 112, 3) := by decide +kernel
theorem dX12_readsWheel_5 : decode cX12_readsWheel 5 = .ok (.istore_n 3, 1) := by decide +kernel
theorem dX12_readsWheel_6 : decode cX12_readsWheel 6 = .ok (.iload_n 3, 1) := by decide +kernel
theorem dX12_readsWheel_7 : decode cX12_readsWheel 7 = .ok (.bipush 104, 2) := by decide +kernel
theorem dX12_readsWheel_9 : decode cX12_readsWheel 9 = .ok (.if_icmp .ne 7, 3) := by decide +kernel
theorem dX12_readsWheel_12 : decode cX12_readsWheel 12 = .ok (.iconst 0, 1) := by decide +kernel
theorem dX12_readsWheel_13 : decode cX12_readsWheel 13 = .ok (.goto 24, 3) := by decide +kernel
theorem dX12_readsWheel_16 : decode cX12_readsWheel 16 = .ok (.iload_n 3, 1) := by decide +kernel
theorem dX12_readsWheel_17 : decode cX12_readsWheel 17 = .ok (.bipush 115, 2) := by decide +kernel
theorem dX12_readsWheel_19 : decode cX12_readsWheel 19 = .ok (.if_icmp .ne 7, 3) := by decide +kernel
theorem dX12_readsWheel_22 : decode cX12_readsWheel 22 = .ok (.iconst 1, 1) := by decide +kernel
theorem dX12_readsWheel_23 : decode cX12_readsWheel 23 = .ok (.goto 14, 3) := by decide +kernel
theorem dX12_readsWheel_26 : decode cX12_readsWheel 26 = .ok (.iload_n 3, 1) := by decide +kernel
theorem dX12_readsWheel_27 : decode cX12_readsWheel 27 = .ok (.bipush 98, 2) := by decide +kernel
theorem dX12_readsWheel_29 : decode cX12_readsWheel 29 = .ok (.if_icmp .ne 7, 3) := by decide +kernel
theorem dX12_readsWheel_32 : decode cX12_readsWheel 32 = .ok (.iconst 2, 1) := by decide +kernel
theorem dX12_readsWheel_33 : decode cX12_readsWheel 33 = .ok (.goto 4, 3) := by decide +kernel
theorem dX12_readsWheel_36 : decode cX12_readsWheel 36 = .ok (.iconst (-1), 1) := by decide +kernel
theorem dX12_readsWheel_37 : decode cX12_readsWheel 37 = .ok (.istore 4, 2) := by decide +kernel
theorem dX12_readsWheel_39 : decode cX12_readsWheel 39 = .ok (.iload_n 1, 1) := by decide +kernel
theorem dX12_readsWheel_40 : decode cX12_readsWheel 40 = .ok (.bipush 8, 2) := by decide +kernel
theorem dX12_readsWheel_42 : decode cX12_readsWheel 42 = .ok (.if_icmp .eq 9, 3) := by decide +kernel
theorem dX12_readsWheel_45 : decode cX12_readsWheel 45 = .ok (.iload 4, 2) := by decide +kernel
theorem dX12_readsWheel_47 : decode cX12_readsWheel 47 = .ok (.iconst (-1), 1) := by decide +kernel
theorem dX12_readsWheel_48 : decode cX12_readsWheel 48 = .ok (.if_icmp .ne 5, 3) := by decide +kernel
theorem dX12_readsWheel_51 : decode cX12_readsWheel 51 = .ok (.iconst (-1), 1) := by decide +kernel
theorem dX12_readsWheel_52 : decode cX12_readsWheel 52 = .ok (.ireturn, 1) := by decide +kernel
theorem dX12_readsWheel_53 : decode cX12_readsWheel 53 = .ok (.aload_n 0, 1) := by decide +kernel
theorem dX12_readsWheel_54 : decode cX12_readsWheel 54 = .ok (.iload_n 2, 1) := by decide +kernel
theorem dX12_readsWheel_55 : decode cX12_readsWheel 55 = .ok (.iconst 1, 1) := by decide +kernel
theorem dX12_readsWheel_56 : decode cX12_readsWheel 56 = .ok (.iadd, 1) := by decide +kernel
theorem dX12_readsWheel_57 : decode cX12_readsWheel 57 = .ok (.invokevirtual 112, 3) := by decide +kernel
theorem dX12_readsWheel_60 : decode cX12_readsWheel 60 = .ok (.bipush 48, 2) := by decide +kernel
theorem dX12_readsWheel_62 : decode cX12_readsWheel 62 = .ok (.bipush 49, 2) := by decide +kernel
theorem dX12_readsWheel_64 : decode cX12_readsWheel 64 = .ok (.invokestatic 104, 3) := by decide +kernel
theorem dX12_readsWheel_67 : decode cX12_readsWheel 67 = .ok (.ifCond .ne 6, 3) := by decide +kernel
theorem dX12_readsWheel_70 : decode cX12_readsWheel 70 = .ok (.bipush (-2), 2) := by decide +kernel
theorem dX12_readsWheel_72 : decode cX12_readsWheel 72 = .ok (.ireturn, 1) := by decide +kernel
theorem dX12_readsWheel_73 : decode cX12_readsWheel 73 = .ok (.aload_n 0, 1) := by decide +kernel
theorem dX12_readsWheel_74 : decode cX12_readsWheel 74 = .ok (.iload_n 2, 1) := by decide +kernel
theorem dX12_readsWheel_75 : decode cX12_readsWheel 75 = .ok (.iconst 2, 1) := by decide +kernel
theorem dX12_readsWheel_76 : decode cX12_readsWheel 76 = .ok (.iadd, 1) := by decide +kernel
theorem dX12_readsWheel_77 : decode cX12_readsWheel 77 = .ok (.invokevirtual 112, 3) := by decide +kernel
theorem dX12_readsWheel_80 : decode cX12_readsWheel 80 = .ok (.bipush 48, 2) := by decide +kernel
theorem dX12_readsWheel_82 : decode cX12_readsWheel 82 = .ok (.bipush 57, 2) := by decide +kernel
theorem dX12_readsWheel_84 : decode cX12_readsWheel 84 = .ok (.invokestatic 104, 3) := by decide +kernel
theorem dX12_readsWheel_87 : decode cX12_readsWheel 87 = .ok (.ifCond .ne 6, 3) := by decide +kernel
theorem dX12_readsWheel_90 : decode cX12_readsWheel 90 = .ok (.bipush (-3), 2) := by decide +kernel
theorem dX12_readsWheel_92 : decode cX12_readsWheel 92 = .ok (.ireturn, 1) := by decide +kernel
theorem dX12_readsWheel_93 : decode cX12_readsWheel 93 = .ok (.aload_n 0, 1) := by decide +kernel
theorem dX12_readsWheel_94 : decode cX12_readsWheel 94 = .ok (.iload_n 2, 1) := by decide +kernel
theorem dX12_readsWheel_95 : decode cX12_readsWheel 95 = .ok (.iconst 3, 1) := by decide +kernel
theorem dX12_readsWheel_96 : decode cX12_readsWheel 96 = .ok (.iadd, 1) := by decide +kernel
theorem dX12_readsWheel_97 : decode cX12_readsWheel 97 = .ok (.invokevirtual 116, 3) := by decide +kernel
theorem dX12_readsWheel_100 : decode cX12_readsWheel 100 = .ok (.ifCond .ne 6, 3) := by decide +kernel
theorem dX12_readsWheel_103 : decode cX12_readsWheel 103 = .ok (.bipush (-4), 2) := by decide +kernel
theorem dX12_readsWheel_105 : decode cX12_readsWheel 105 = .ok (.ireturn, 1) := by decide +kernel
theorem dX12_readsWheel_106 : decode cX12_readsWheel 106 = .ok (.iconst 0, 1) := by decide +kernel
theorem dX12_readsWheel_107 : decode cX12_readsWheel 107 = .ok (.istore 5, 2) := by decide +kernel
theorem dX12_readsWheel_109 : decode cX12_readsWheel 109 = .ok (.iload 5, 2) := by decide +kernel
theorem dX12_readsWheel_111 : decode cX12_readsWheel 111 = .ok (.iconst 5, 1) := by decide +kernel
theorem dX12_readsWheel_112 : decode cX12_readsWheel 112 = .ok (.if_icmp .ge 46, 3) := by decide +kernel
theorem dX12_readsWheel_115 : decode cX12_readsWheel 115 = .ok (.aload_n 0, 1) := by decide +kernel
theorem dX12_readsWheel_116 : decode cX12_readsWheel 116 = .ok (.iload_n 2, 1) := by decide +kernel
theorem dX12_readsWheel_117 : decode cX12_readsWheel 117 = .ok (.iconst 3, 1) := by decide +kernel
theorem dX12_readsWheel_118 : decode cX12_readsWheel 118 = .ok (.iadd, 1) := by decide +kernel
theorem dX12_readsWheel_119 : decode cX12_readsWheel 119 = .ok (.iload 5, 2) := by decide +kernel
theorem dX12_readsWheel_121 : decode cX12_readsWheel 121 = .ok (.iadd, 1) := by decide +kernel
theorem dX12_readsWheel_122 : decode cX12_readsWheel 122 = .ok (.invokevirtual 116, 3) := by decide +kernel
theorem dX12_readsWheel_125 : decode cX12_readsWheel 125 = .ok (.ifCond .eq 33, 3) := by decide +kernel
theorem dX12_readsWheel_128 : decode cX12_readsWheel 128 = .ok (.aload_n 0, 1) := by decide +kernel
theorem dX12_readsWheel_129 : decode cX12_readsWheel 129 = .ok (.getfield 25, 3) := by decide +kernel
theorem dX12_readsWheel_132 : decode cX12_readsWheel 132 = .ok (.iconst 5, 1) := by decide +kernel
theorem dX12_readsWheel_133 : decode cX12_readsWheel 133 = .ok (.iload_n 1, 1) := by decide +kernel
theorem dX12_readsWheel_134 : decode cX12_readsWheel 134 = .ok (.imul, 1) := by decide +kernel
theorem dX12_readsWheel_135 : decode cX12_readsWheel 135 = .ok (.iload 5, 2) := by decide +kernel
theorem dX12_readsWheel_137 : decode cX12_readsWheel 137 = .ok (.iadd, 1) := by decide +kernel
theorem dX12_readsWheel_138 : decode cX12_readsWheel 138 = .ok (.aload_n 0, 1) := by decide +kernel
theorem dX12_readsWheel_139 : decode cX12_readsWheel 139 = .ok (.iload_n 2, 1) := by decide +kernel
theorem dX12_readsWheel_140 : decode cX12_readsWheel 140 = .ok (.iconst 3, 1) := by decide +kernel
theorem dX12_readsWheel_141 : decode cX12_readsWheel 141 = .ok (.iadd, 1) := by decide +kernel
theorem dX12_readsWheel_142 : decode cX12_readsWheel 142 = .ok (.iload 5, 2) := by decide +kernel
theorem dX12_readsWheel_144 : decode cX12_readsWheel 144 = .ok (.iadd, 1) := by decide +kernel
theorem dX12_readsWheel_145 : decode cX12_readsWheel 145 = .ok (.invokevirtual 112, 3) := by decide +kernel
theorem dX12_readsWheel_148 : decode cX12_readsWheel 148 = .ok (.bipush 97, 2) := by decide +kernel
theorem dX12_readsWheel_150 : decode cX12_readsWheel 150 = .ok (.isub, 1) := by decide +kernel
theorem dX12_readsWheel_151 : decode cX12_readsWheel 151 = .ok (.iastore, 1) := by decide +kernel
theorem dX12_readsWheel_152 : decode cX12_readsWheel 152 = .ok (.iinc 5 1, 3) := by decide +kernel
theorem dX12_readsWheel_155 : decode cX12_readsWheel 155 = .ok (.goto (-46), 3) := by decide +kernel
theorem dX12_readsWheel_158 : decode cX12_readsWheel 158 = .ok (.aload_n 0, 1) := by decide +kernel
theorem dX12_readsWheel_159 : decode cX12_readsWheel 159 = .ok (.getfield 16, 3) := by decide +kernel
theorem dX12_readsWheel_162 : decode cX12_readsWheel 162 = .ok (.iload_n 1, 1) := by decide +kernel
theorem dX12_readsWheel_163 : decode cX12_readsWheel 163 = .ok (.iload 4, 2) := by decide +kernel
theorem dX12_readsWheel_165 : decode cX12_readsWheel 165 = .ok (.iastore, 1) := by decide +kernel
theorem dX12_readsWheel_166 : decode cX12_readsWheel 166 = .ok (.aload_n 0, 1) := by decide +kernel
theorem dX12_readsWheel_167 : decode cX12_readsWheel 167 = .ok (.getfield 19, 3) := by decide +kernel
theorem dX12_readsWheel_170 : decode cX12_readsWheel 170 = .ok (.iload_n 1, 1) := by decide +kernel
theorem dX12_readsWheel_171 : decode cX12_readsWheel 171 = .ok (.bipush 10, 2) := by decide +kernel
theorem dX12_readsWheel_173 : decode cX12_readsWheel 173 = .ok (.aload_n 0, 1) := by decide +kernel
theorem dX12_readsWheel_174 : decode cX12_readsWheel 174 = .ok (.iload_n 2, 1) := by decide +kernel
theorem dX12_readsWheel_175 : decode cX12_readsWheel 175 = .ok (.iconst 1, 1) := by decide +kernel
theorem dX12_readsWheel_176 : decode cX12_readsWheel 176 = .ok (.iadd, 1) := by decide +kernel
theorem dX12_readsWheel_177 : decode cX12_readsWheel 177 = .ok (.invokevirtual 112, 3) := by decide +kernel
theorem dX12_readsWheel_180 : decode cX12_readsWheel 180 = .ok (.bipush 48, 2) := by decide +kernel
theorem dX12_readsWheel_182 : decode cX12_readsWheel 182 = .ok (.isub, 1) := by decide +kernel
theorem dX12_readsWheel_183 : decode cX12_readsWheel 183 = .ok (.imul, 1) := by decide +kernel
theorem dX12_readsWheel_184 : decode cX12_readsWheel 184 = .ok (.aload_n 0, 1) := by decide +kernel
theorem dX12_readsWheel_185 : decode cX12_readsWheel 185 = .ok (.iload_n 2, 1) := by decide +kernel
theorem dX12_readsWheel_186 : decode cX12_readsWheel 186 = .ok (.iconst 2, 1) := by decide +kernel
theorem dX12_readsWheel_187 : decode cX12_readsWheel 187 = .ok (.iadd, 1) := by decide +kernel
theorem dX12_readsWheel_188 : decode cX12_readsWheel 188 = .ok (.invokevirtual 112, 3) := by decide +kernel
theorem dX12_readsWheel_191 : decode cX12_readsWheel 191 = .ok (.iadd, 1) := by decide +kernel
theorem dX12_readsWheel_192 : decode cX12_readsWheel 192 = .ok (.bipush 48, 2) := by decide +kernel
theorem dX12_readsWheel_194 : decode cX12_readsWheel 194 = .ok (.isub, 1) := by decide +kernel
theorem dX12_readsWheel_195 : decode cX12_readsWheel 195 = .ok (.iastore, 1) := by decide +kernel
theorem dX12_readsWheel_196 : decode cX12_readsWheel 196 = .ok (.aload_n 0, 1) := by decide +kernel
theorem dX12_readsWheel_197 : decode cX12_readsWheel 197 = .ok (.getfield 22, 3) := by decide +kernel
theorem dX12_readsWheel_200 : decode cX12_readsWheel 200 = .ok (.iload_n 1, 1) := by decide +kernel
theorem dX12_readsWheel_201 : decode cX12_readsWheel 201 = .ok (.iload 5, 2) := by decide +kernel
theorem dX12_readsWheel_203 : decode cX12_readsWheel 203 = .ok (.iastore, 1) := by decide +kernel
theorem dX12_readsWheel_204 : decode cX12_readsWheel 204 = .ok (.iconst 3, 1) := by decide +kernel
theorem dX12_readsWheel_205 : decode cX12_readsWheel 205 = .ok (.iload 5, 2) := by decide +kernel
theorem dX12_readsWheel_207 : decode cX12_readsWheel 207 = .ok (.iadd, 1) := by decide +kernel
theorem dX12_readsWheel_208 : decode cX12_readsWheel 208 = .ok (.ireturn, 1) := by decide +kernel
theorem dX12_readsWheels_0 : decode cX12_readsWheels 0 = .ok (.iconst 0, 1) := by decide +kernel
theorem dX12_readsWheels_1 : decode cX12_readsWheels 1 = .ok (.istore_n 1, 1) := by decide +kernel
theorem dX12_readsWheels_2 : decode cX12_readsWheels 2 = .ok (.iconst 0, 1) := by decide +kernel
theorem dX12_readsWheels_3 : decode cX12_readsWheels 3 = .ok (.istore_n 2, 1) := by decide +kernel
theorem dX12_readsWheels_4 : decode cX12_readsWheels 4 = .ok (.aload_n 0, 1) := by decide +kernel
theorem dX12_readsWheels_5 : decode cX12_readsWheels 5 = .ok (.iconst 0, 1) := by decide +kernel
theorem dX12_readsWheels_6 : decode cX12_readsWheels 6 = .ok (.putfield 119, 3) := by decide +kernel
theorem dX12_readsWheels_9 : decode cX12_readsWheels 9 = .ok (.iload_n 2, 1) := by decide +kernel
theorem dX12_readsWheels_10 : decode cX12_readsWheels 10 = .ok (.aload_n 0, 1) := by decide +kernel
theorem dX12_readsWheels_11 : decode cX12_readsWheels 11 = .ok (.getfield 7, 3) := by decide +kernel
theorem dX12_readsWheels_14 : decode cX12_readsWheels 14 = .ok (.iconst 0, 1) := by decide +kernel
theorem dX12_readsWheels_15 : decode cX12_readsWheels 15 = .ok (.iaload, 1) := by decide +kernel
theorem dX12_readsWheels_16 : decode cX12_readsWheels 16 = .ok (.if_icmp .lt 7, 3) := by decide +kernel
theorem dX12_readsWheels_19 : decode cX12_readsWheels 19 = .ok (.iload_n 2, 1) := by decide +kernel
theorem dX12_readsWheels_20 : decode cX12_readsWheels 20 = .ok (.ifCond .le 62, 3) := by decide +kernel
theorem dX12_readsWheels_23 : decode cX12_readsWheels 23 = .ok (.aload_n 0, 1) := by decide +kernel
theorem dX12_readsWheels_24 : decode cX12_readsWheels 24 = .ok (.iload_n 1, 1) := by decide +kernel
theorem dX12_readsWheels_25 : decode cX12_readsWheels 25 = .ok (.iload_n 2, 1) := by decide +kernel
theorem dX12_readsWheels_26 : decode cX12_readsWheels 26 = .ok (.invokevirtual 122, 3) := by decide +kernel
theorem dX12_readsWheels_29 : decode cX12_readsWheels 29 = .ok (.istore_n 3, 1) := by decide +kernel
theorem dX12_readsWheels_30 : decode cX12_readsWheels 30 = .ok (.iload_n 3, 1) := by decide +kernel
theorem dX12_readsWheels_31 : decode cX12_readsWheels 31 = .ok (.ifCond .ge 9, 3) := by decide +kernel
theorem dX12_readsWheels_34 : decode cX12_readsWheels 34 = .ok (.iload_n 2, 1) := by decide +kernel
theorem dX12_readsWheels_35 : decode cX12_readsWheels 35 = .ok (.iload_n 3, 1) := by decide +kernel
theorem dX12_readsWheels_36 : decode cX12_readsWheels 36 = .ok (.isub, 1) := by decide +kernel
theorem dX12_readsWheels_37 : decode cX12_readsWheels 37 = .ok (.iconst 1, 1) := by decide +kernel
theorem dX12_readsWheels_38 : decode cX12_readsWheels 38 = .ok (.isub, 1) := by decide +kernel
theorem dX12_readsWheels_39 : decode cX12_readsWheels 39 = .ok (.ireturn, 1) := by decide +kernel
theorem dX12_readsWheels_40 : decode cX12_readsWheels 40 = .ok (.iinc 1 1, 3) := by decide +kernel
theorem dX12_readsWheels_43 : decode cX12_readsWheels 43 = .ok (.iload_n 2, 1) := by decide +kernel
theorem dX12_readsWheels_44 : decode cX12_readsWheels 44 = .ok (.iload_n 3, 1) := by decide +kernel
theorem dX12_readsWheels_45 : decode cX12_readsWheels 45 = .ok (.iadd, 1) := by decide +kernel
theorem dX12_readsWheels_46 : decode cX12_readsWheels 46 = .ok (.istore_n 2, 1) := by decide +kernel
theorem dX12_readsWheels_47 : decode cX12_readsWheels 47 = .ok (.iload_n 2, 1) := by decide +kernel
theorem dX12_readsWheels_48 : decode cX12_readsWheels 48 = .ok (.aload_n 0, 1) := by decide +kernel
theorem dX12_readsWheels_49 : decode cX12_readsWheels 49 = .ok (.getfield 7, 3) := by decide +kernel
theorem dX12_readsWheels_52 : decode cX12_readsWheels 52 = .ok (.iconst 0, 1) := by decide +kernel
theorem dX12_readsWheels_53 : decode cX12_readsWheels 53 = .ok (.iaload, 1) := by decide +kernel
theorem dX12_readsWheels_54 : decode cX12_readsWheels 54 = .ok (.if_icmp .ne 10, 3) := by decide +kernel
theorem dX12_readsWheels_57 : decode cX12_readsWheels 57 = .ok (.aload_n 0, 1) := by decide +kernel
theorem dX12_readsWheels_58 : decode cX12_readsWheels 58 = .ok (.iload_n 1, 1) := by decide +kernel
theorem dX12_readsWheels_59 : decode cX12_readsWheels 59 = .ok (.putfield 119, 3) := by decide +kernel
theorem dX12_readsWheels_62 : decode cX12_readsWheels 62 = .ok (.iconst (-1), 1) := by decide +kernel
theorem dX12_readsWheels_63 : decode cX12_readsWheels 63 = .ok (.ireturn, 1) := by decide +kernel
theorem dX12_readsWheels_64 : decode cX12_readsWheels 64 = .ok (.aload_n 0, 1) := by decide +kernel
theorem dX12_readsWheels_65 : decode cX12_readsWheels 65 = .ok (.iload_n 2, 1) := by decide +kernel
theorem dX12_readsWheels_66 : decode cX12_readsWheels 66 = .ok (.invokevirtual 112, 3) := by decide +kernel
theorem dX12_readsWheels_69 : decode cX12_readsWheels 69 = .ok (.bipush 59, 2) := by decide +kernel
theorem dX12_readsWheels_71 : decode cX12_readsWheels 71 = .ok (.if_icmp .eq 5, 3) := by decide +kernel
theorem dX12_readsWheels_74 : decode cX12_readsWheels 74 = .ok (.iload_n 2, 1) := by decide +kernel
theorem dX12_readsWheels_75 : decode cX12_readsWheels 75 = .ok (.ireturn, 1) := by decide +kernel
theorem dX12_readsWheels_76 : decode cX12_readsWheels 76 = .ok (.iinc 2 1, 3) := by decide +kernel
theorem dX12_readsWheels_79 : decode cX12_readsWheels 79 = .ok (.goto (-70), 3) := by decide +kernel
theorem dX12_readsWheels_82 : decode cX12_readsWheels 82 = .ok (.iconst (-1), 1) := by decide +kernel
theorem dX12_readsWheels_83 : decode cX12_readsWheels 83 = .ok (.ireturn, 1) := by decide +kernel
theorem dX12_readsCave_0 : decode cX12_readsCave 0 = .ok (.aload_n 0, 1) := by decide +kernel
theorem dX12_readsCave_1 : decode cX12_readsCave 1 = .ok (.iconst 0, 1) := by decide +kernel
theorem dX12_readsCave_2 : decode cX12_readsCave 2 = .ok (.putfield 126, 3) := by decide +kernel
theorem dX12_readsCave_5 : decode cX12_readsCave 5 = .ok (.iconst 0, 1) := by decide +kernel
theorem dX12_readsCave_6 : decode cX12_readsCave 6 = .ok (.istore_n 1, 1) := by decide +kernel
theorem dX12_readsCave_7 : decode cX12_readsCave 7 = .ok (.iload_n 1, 1) := by decide +kernel
theorem dX12_readsCave_8 : decode cX12_readsCave 8 = .ok (.bipush 30, 2) := by decide +kernel
theorem dX12_readsCave_10 : decode cX12_readsCave 10 = .ok (.if_icmp .ge 16, 3) := by decide +kernel
theorem dX12_readsCave_13 : decode cX12_readsCave 13 = .ok (.aload_n 0, 1) := by decide +kernel
theorem dX12_readsCave_14 : decode cX12_readsCave 14 = .ok (.getfield 28, 3) := by decide +kernel
theorem dX12_readsCave_17 : decode cX12_readsCave 17 = .ok (.iload_n 1, 1) := by decide +kernel
theorem dX12_readsCave_18 : decode cX12_readsCave 18 = .ok (.iconst 5, 1) := by decide +kernel
theorem dX12_readsCave_19 : decode cX12_readsCave 19 = .ok (.iastore, 1) := by decide +kernel
theorem dX12_readsCave_20 : decode cX12_readsCave 20 = .ok (.iinc 1 1, 3) := by decide +kernel
theorem dX12_readsCave_23 : decode cX12_readsCave 23 = .ok (.goto (-16), 3) := by decide +kernel
theorem dX12_readsCave_26 : decode cX12_readsCave 26 = .ok (.iconst 0, 1) := by decide +kernel
theorem dX12_readsCave_27 : decode cX12_readsCave 27 = .ok (.istore_n 1, 1) := by decide +kernel
theorem dX12_readsCave_28 : decode cX12_readsCave 28 = .ok (.iload_n 1, 1) := by decide +kernel
theorem dX12_readsCave_29 : decode cX12_readsCave 29 = .ok (.aload_n 0, 1) := by decide +kernel
theorem dX12_readsCave_30 : decode cX12_readsCave 30 = .ok (.getfield 7, 3) := by decide +kernel
theorem dX12_readsCave_33 : decode cX12_readsCave 33 = .ok (.iconst 1, 1) := by decide +kernel
theorem dX12_readsCave_34 : decode cX12_readsCave 34 = .ok (.iaload, 1) := by decide +kernel
theorem dX12_readsCave_35 : decode cX12_readsCave 35 = .ok (.if_icmp .ge 30, 3) := by decide +kernel
theorem dX12_readsCave_38 : decode cX12_readsCave 38 = .ok (.aload_n 0, 1) := by decide +kernel
theorem dX12_readsCave_39 : decode cX12_readsCave 39 = .ok (.getfield 13, 3) := by decide +kernel
theorem dX12_readsCave_42 : decode cX12_readsCave 42 = .ok (.bipush 71, 2) := by decide +kernel
theorem dX12_readsCave_44 : decode cX12_readsCave 44 = .ok (.iload_n 1, 1) := by decide +kernel
theorem dX12_readsCave_45 : decode cX12_readsCave 45 = .ok (.iadd, 1) := by decide +kernel
theorem dX12_readsCave_46 : decode cX12_readsCave 46 = .ok (.iaload, 1) := by decide +kernel
theorem dX12_readsCave_47 : decode cX12_readsCave 47 = .ok (.bipush 48, 2) := by decide +kernel
theorem dX12_readsCave_49 : decode cX12_readsCave 49 = .ok (.bipush 57, 2) := by decide +kernel
theorem dX12_readsCave_51 : decode cX12_readsCave 51 = .ok (.invokestatic 104, 3) := by decide +kernel
theorem dX12_readsCave_54 : decode cX12_readsCave 54 = .ok (.ifCond .ne 5, 3) := by decide +kernel
theorem dX12_readsCave_57 : decode cX12_readsCave 57 = .ok (.iload_n 1, 1) := by decide +kernel
theorem dX12_readsCave_58 : decode cX12_readsCave 58 = .ok (.ireturn, 1) := by decide +kernel
theorem dX12_readsCave_59 : decode cX12_readsCave 59 = .ok (.iinc 1 1, 3) := by decide +kernel
theorem dX12_readsCave_62 : decode cX12_readsCave 62 = .ok (.goto (-34), 3) := by decide +kernel
theorem dX12_readsCave_65 : decode cX12_readsCave 65 = .ok (.iconst 0, 1) := by decide +kernel
theorem dX12_readsCave_66 : decode cX12_readsCave 66 = .ok (.istore_n 1, 1) := by decide +kernel
theorem dX12_readsCave_67 : decode cX12_readsCave 67 = .ok (.iload_n 1, 1) := by decide +kernel
theorem dX12_readsCave_68 : decode cX12_readsCave 68 = .ok (.aload_n 0, 1) := by decide +kernel
theorem dX12_readsCave_69 : decode cX12_readsCave 69 = .ok (.getfield 7, 3) := by decide +kernel
theorem dX12_readsCave_72 : decode cX12_readsCave 72 = .ok (.iconst 1, 1) := by decide +kernel
theorem dX12_readsCave_73 : decode cX12_readsCave 73 = .ok (.iaload, 1) := by decide +kernel
theorem dX12_readsCave_74 : decode cX12_readsCave 74 = .ok (.if_icmp .ge 27, 3) := by decide +kernel
theorem dX12_readsCave_77 : decode cX12_readsCave 77 = .ok (.aload_n 0, 1) := by decide +kernel
theorem dX12_readsCave_78 : decode cX12_readsCave 78 = .ok (.getfield 28, 3) := by decide +kernel
theorem dX12_readsCave_81 : decode cX12_readsCave 81 = .ok (.iload_n 1, 1) := by decide +kernel
theorem dX12_readsCave_82 : decode cX12_readsCave 82 = .ok (.aload_n 0, 1) := by decide +kernel
theorem dX12_readsCave_83 : decode cX12_readsCave 83 = .ok (.getfield 13, 3) := by decide +kernel
theorem dX12_readsCave_86 : decode cX12_readsCave 86 = .ok (.bipush 71, 2) := by decide +kernel
theorem dX12_readsCave_88 : decode cX12_readsCave 88 = .ok (.iload_n 1, 1) := by decide +kernel
theorem dX12_readsCave_89 : decode cX12_readsCave 89 = .ok (.iadd, 1) := by decide +kernel
theorem dX12_readsCave_90 : decode cX12_readsCave 90 = .ok (.iaload, 1) := by decide +kernel
theorem dX12_readsCave_91 : decode cX12_readsCave 91 = .ok (.bipush 48, 2) := by decide +kernel
theorem dX12_readsCave_93 : decode cX12_readsCave 93 = .ok (.isub, 1) := by decide +kernel
theorem dX12_readsCave_94 : decode cX12_readsCave 94 = .ok (.iastore, 1) := by decide +kernel
theorem dX12_readsCave_95 : decode cX12_readsCave 95 = .ok (.iinc 1 1, 3) := by decide +kernel
theorem dX12_readsCave_98 : decode cX12_readsCave 98 = .ok (.goto (-31), 3) := by decide +kernel
theorem dX12_readsCave_101 : decode cX12_readsCave 101 = .ok (.aload_n 0, 1) := by decide +kernel
theorem dX12_readsCave_102 : decode cX12_readsCave 102 = .ok (.aload_n 0, 1) := by decide +kernel
theorem dX12_readsCave_103 : decode cX12_readsCave 103 = .ok (.getfield 7, 3) := by decide +kernel
theorem dX12_readsCave_106 : decode cX12_readsCave 106 = .ok (.iconst 1, 1) := by decide +kernel
theorem dX12_readsCave_107 : decode cX12_readsCave 107 = .ok (.iaload, 1) := by decide +kernel
theorem dX12_readsCave_108 : decode cX12_readsCave 108 = .ok (.putfield 126, 3) := by decide +kernel
theorem dX12_readsCave_111 : decode cX12_readsCave 111 = .ok (.iconst (-1), 1) := by decide +kernel
theorem dX12_readsCave_112 : decode cX12_readsCave 112 = .ok (.ireturn, 1) := by decide +kernel
theorem dX12_faultOf_0 : decode cX12_faultOf 0 = .ok (.aload_n 0, 1) := by decide +kernel
theorem dX12_faultOf_1 : decode cX12_faultOf 1 = .ok (.invokevirtual 129, 3) := by decide +kernel
theorem dX12_faultOf_4 : decode cX12_faultOf 4 = .ok (.istore_n 2, 1) := by decide +kernel
theorem dX12_faultOf_5 : decode cX12_faultOf 5 = .ok (.aload_n 0, 1) := by decide +kernel
theorem dX12_faultOf_6 : decode cX12_faultOf 6 = .ok (.invokevirtual 133, 3) := by decide +kernel
theorem dX12_faultOf_9 : decode cX12_faultOf 9 = .ok (.istore_n 3, 1) := by decide +kernel
theorem dX12_faultOf_10 : decode cX12_faultOf 10 = .ok (.iload_n 1, 1) := by decide +kernel
theorem dX12_faultOf_11 : decode cX12_faultOf 11 = .ok (.ifCond .ne 7, 3) := by decide +kernel
theorem dX12_faultOf_14 : decode cX12_faultOf 14 = .ok (.iload_n 2, 1) := by decide +kernel
theorem dX12_faultOf_15 : decode cX12_faultOf 15 = .ok (.goto 4, 3) := by decide +kernel
theorem dX12_faultOf_18 : decode cX12_faultOf 18 = .ok (.iload_n 3, 1) := by decide +kernel
theorem dX12_faultOf_19 : decode cX12_faultOf 19 = .ok (.ireturn, 1) := by decide +kernel
theorem dX12_reads_0 : decode cX12_reads 0 = .ok (.aload_n 0, 1) := by decide +kernel
theorem dX12_reads_1 : decode cX12_reads 1 = .ok (.iconst 0, 1) := by decide +kernel
theorem dX12_reads_2 : decode cX12_reads 2 = .ok (.invokevirtual 136, 3) := by decide +kernel
theorem dX12_reads_5 : decode cX12_reads 5 = .ok (.istore_n 1, 1) := by decide +kernel
theorem dX12_reads_6 : decode cX12_reads 6 = .ok (.return_, 1) := by decide +kernel
theorem dX12_fault_0 : decode cX12_fault 0 = .ok (.iload_n 1, 1) := by decide +kernel
theorem dX12_fault_1 : decode cX12_fault 1 = .ok (.invokestatic 108, 3) := by decide +kernel
theorem dX12_fault_4 : decode cX12_fault 4 = .ok (.ifCond .eq 11, 3) := by decide +kernel
theorem dX12_fault_7 : decode cX12_fault 7 = .ok (.aload_n 0, 1) := by decide +kernel
theorem dX12_fault_8 : decode cX12_fault 8 = .ok (.iload_n 1, 1) := by decide +kernel
theorem dX12_fault_9 : decode cX12_fault 9 = .ok (.invokevirtual 136, 3) := by decide +kernel
theorem dX12_fault_12 : decode cX12_fault 12 = .ok (.goto 5, 3) := by decide +kernel
theorem dX12_fault_15 : decode cX12_fault 15 = .ok (.bipush (-2), 2) := by decide +kernel
theorem dX12_fault_17 : decode cX12_fault 17 = .ok (.ireturn, 1) := by decide +kernel
theorem dX12_isWheel_0 : decode cX12_isWheel 0 = .ok (.aload_n 0, 1) := by decide +kernel
theorem dX12_isWheel_1 : decode cX12_isWheel 1 = .ok (.invokevirtual 139, 3) := by decide +kernel
theorem dX12_isWheel_4 : decode cX12_isWheel 4 = .ok (.iload_n 1, 1) := by decide +kernel
theorem dX12_isWheel_5 : decode cX12_isWheel 5 = .ok (.iconst 0, 1) := by decide +kernel
theorem dX12_isWheel_6 : decode cX12_isWheel 6 = .ok (.aload_n 0, 1) := by decide +kernel
theorem dX12_isWheel_7 : decode cX12_isWheel 7 = .ok (.getfield 119, 3) := by decide +kernel
theorem dX12_isWheel_10 : decode cX12_isWheel 10 = .ok (.iconst 1, 1) := by decide +kernel
theorem dX12_isWheel_11 : decode cX12_isWheel 11 = .ok (.isub, 1) := by decide +kernel
theorem dX12_isWheel_12 : decode cX12_isWheel 12 = .ok (.invokestatic 104, 3) := by decide +kernel
theorem dX12_isWheel_15 : decode cX12_isWheel 15 = .ok (.ireturn, 1) := by decide +kernel
theorem dX12_wheelOf_0 : decode cX12_wheelOf 0 = .ok (.iload_n 2, 1) := by decide +kernel
theorem dX12_wheelOf_1 : decode cX12_wheelOf 1 = .ok (.ifCond .ne 12, 3) := by decide +kernel
theorem dX12_wheelOf_4 : decode cX12_wheelOf 4 = .ok (.aload_n 0, 1) := by decide +kernel
theorem dX12_wheelOf_5 : decode cX12_wheelOf 5 = .ok (.getfield 16, 3) := by decide +kernel
theorem dX12_wheelOf_8 : decode cX12_wheelOf 8 = .ok (.iload_n 1, 1) := by decide +kernel
theorem dX12_wheelOf_9 : decode cX12_wheelOf 9 = .ok (.iaload, 1) := by decide +kernel
theorem dX12_wheelOf_10 : decode cX12_wheelOf 10 = .ok (.goto 59, 3) := by decide +kernel
theorem dX12_wheelOf_13 : decode cX12_wheelOf 13 = .ok (.iload_n 2, 1) := by decide +kernel
theorem dX12_wheelOf_14 : decode cX12_wheelOf 14 = .ok (.iconst 1, 1) := by decide +kernel
theorem dX12_wheelOf_15 : decode cX12_wheelOf 15 = .ok (.if_icmp .ne 12, 3) := by decide +kernel
theorem dX12_wheelOf_18 : decode cX12_wheelOf 18 = .ok (.aload_n 0, 1) := by decide +kernel
theorem dX12_wheelOf_19 : decode cX12_wheelOf 19 = .ok (.getfield 19, 3) := by decide +kernel
theorem dX12_wheelOf_22 : decode cX12_wheelOf 22 = .ok (.iload_n 1, 1) := by decide +kernel
theorem dX12_wheelOf_23 : decode cX12_wheelOf 23 = .ok (.iaload, 1) := by decide +kernel
theorem dX12_wheelOf_24 : decode cX12_wheelOf 24 = .ok (.goto 45, 3) := by decide +kernel
theorem dX12_wheelOf_27 : decode cX12_wheelOf 27 = .ok (.iload_n 2, 1) := by decide +kernel
theorem dX12_wheelOf_28 : decode cX12_wheelOf 28 = .ok (.iconst 2, 1) := by decide +kernel
theorem dX12_wheelOf_29 : decode cX12_wheelOf 29 = .ok (.if_icmp .ne 12, 3) := by decide +kernel
theorem dX12_wheelOf_32 : decode cX12_wheelOf 32 = .ok (.aload_n 0, 1) := by decide +kernel
theorem dX12_wheelOf_33 : decode cX12_wheelOf 33 = .ok (.getfield 22, 3) := by decide +kernel
theorem dX12_wheelOf_36 : decode cX12_wheelOf 36 = .ok (.iload_n 1, 1) := by decide +kernel
theorem dX12_wheelOf_37 : decode cX12_wheelOf 37 = .ok (.iaload, 1) := by decide +kernel
theorem dX12_wheelOf_38 : decode cX12_wheelOf 38 = .ok (.goto 31, 3) := by decide +kernel
theorem dX12_wheelOf_41 : decode cX12_wheelOf 41 = .ok (.iload_n 2, 1) := by decide +kernel
theorem dX12_wheelOf_42 : decode cX12_wheelOf 42 = .ok (.iconst 3, 1) := by decide +kernel
theorem dX12_wheelOf_43 : decode cX12_wheelOf 43 = .ok (.isub, 1) := by decide +kernel
theorem dX12_wheelOf_44 : decode cX12_wheelOf 44 = .ok (.aload_n 0, 1) := by decide +kernel
theorem dX12_wheelOf_45 : decode cX12_wheelOf 45 = .ok (.getfield 22, 3) := by decide +kernel
theorem dX12_wheelOf_48 : decode cX12_wheelOf 48 = .ok (.iload_n 1, 1) := by decide +kernel
theorem dX12_wheelOf_49 : decode cX12_wheelOf 49 = .ok (.iaload, 1) := by decide +kernel
theorem dX12_wheelOf_50 : decode cX12_wheelOf 50 = .ok (.if_icmp .ge 18, 3) := by decide +kernel
theorem dX12_wheelOf_53 : decode cX12_wheelOf 53 = .ok (.aload_n 0, 1) := by decide +kernel
theorem dX12_wheelOf_54 : decode cX12_wheelOf 54 = .ok (.getfield 25, 3) := by decide +kernel
theorem dX12_wheelOf_57 : decode cX12_wheelOf 57 = .ok (.iconst 5, 1) := by decide +kernel
theorem dX12_wheelOf_58 : decode cX12_wheelOf 58 = .ok (.iload_n 1, 1) := by decide +kernel
theorem dX12_wheelOf_59 : decode cX12_wheelOf 59 = .ok (.imul, 1) := by decide +kernel
theorem dX12_wheelOf_60 : decode cX12_wheelOf 60 = .ok (.iload_n 2, 1) := by decide +kernel
theorem dX12_wheelOf_61 : decode cX12_wheelOf 61 = .ok (.iadd, 1) := by decide +kernel
theorem dX12_wheelOf_62 : decode cX12_wheelOf 62 = .ok (.iconst 3, 1) := by decide +kernel
theorem dX12_wheelOf_63 : decode cX12_wheelOf 63 = .ok (.isub, 1) := by decide +kernel
theorem dX12_wheelOf_64 : decode cX12_wheelOf 64 = .ok (.iaload, 1) := by decide +kernel
theorem dX12_wheelOf_65 : decode cX12_wheelOf 65 = .ok (.goto 4, 3) := by decide +kernel
theorem dX12_wheelOf_68 : decode cX12_wheelOf 68 = .ok (.iconst (-1), 1) := by decide +kernel
theorem dX12_wheelOf_69 : decode cX12_wheelOf 69 = .ok (.ireturn, 1) := by decide +kernel
theorem dX12_wheel_0 : decode cX12_wheel 0 = .ok (.aload_n 0, 1) := by decide +kernel
theorem dX12_wheel_1 : decode cX12_wheel 1 = .ok (.iload_n 1, 1) := by decide +kernel
theorem dX12_wheel_2 : decode cX12_wheel 2 = .ok (.invokevirtual 142, 3) := by decide +kernel
theorem dX12_wheel_5 : decode cX12_wheel 5 = .ok (.ifCond .eq 22, 3) := by decide +kernel
theorem dX12_wheel_8 : decode cX12_wheel 8 = .ok (.iload_n 2, 1) := by decide +kernel
theorem dX12_wheel_9 : decode cX12_wheel 9 = .ok (.iconst 0, 1) := by decide +kernel
theorem dX12_wheel_10 : decode cX12_wheel 10 = .ok (.bipush 7, 2) := by decide +kernel
theorem dX12_wheel_12 : decode cX12_wheel 12 = .ok (.invokestatic 104, 3) := by decide +kernel
theorem dX12_wheel_15 : decode cX12_wheel 15 = .ok (.ifCond .eq 12, 3) := by decide +kernel
theorem dX12_wheel_18 : decode cX12_wheel 18 = .ok (.aload_n 0, 1) := by decide +kernel
theorem dX12_wheel_19 : decode cX12_wheel 19 = .ok (.iload_n 1, 1) := by decide +kernel
theorem dX12_wheel_20 : decode cX12_wheel 20 = .ok (.iload_n 2, 1) := by decide +kernel
theorem dX12_wheel_21 : decode cX12_wheel 21 = .ok (.invokevirtual 145, 3) := by decide +kernel
theorem dX12_wheel_24 : decode cX12_wheel 24 = .ok (.goto 5, 3) := by decide +kernel
theorem dX12_wheel_27 : decode cX12_wheel 27 = .ok (.bipush (-2), 2) := by decide +kernel
theorem dX12_wheel_29 : decode cX12_wheel 29 = .ok (.ireturn, 1) := by decide +kernel
theorem dX12_warmOf_0 : decode cX12_warmOf 0 = .ok (.aload_n 0, 1) := by decide +kernel
theorem dX12_warmOf_1 : decode cX12_warmOf 1 = .ok (.invokevirtual 139, 3) := by decide +kernel
theorem dX12_warmOf_4 : decode cX12_warmOf 4 = .ok (.aload_n 0, 1) := by decide +kernel
theorem dX12_warmOf_5 : decode cX12_warmOf 5 = .ok (.getfield 28, 3) := by decide +kernel
theorem dX12_warmOf_8 : decode cX12_warmOf 8 = .ok (.iload_n 1, 1) := by decide +kernel
theorem dX12_warmOf_9 : decode cX12_warmOf 9 = .ok (.iaload, 1) := by decide +kernel
theorem dX12_warmOf_10 : decode cX12_warmOf 10 = .ok (.ireturn, 1) := by decide +kernel
theorem dX12_warm_0 : decode cX12_warm 0 = .ok (.iload_n 1, 1) := by decide +kernel
theorem dX12_warm_1 : decode cX12_warm 1 = .ok (.invokestatic 148, 3) := by decide +kernel
theorem dX12_warm_4 : decode cX12_warm 4 = .ok (.ifCond .eq 11, 3) := by decide +kernel
theorem dX12_warm_7 : decode cX12_warm 7 = .ok (.aload_n 0, 1) := by decide +kernel
theorem dX12_warm_8 : decode cX12_warm 8 = .ok (.iload_n 1, 1) := by decide +kernel
theorem dX12_warm_9 : decode cX12_warm 9 = .ok (.invokevirtual 151, 3) := by decide +kernel
theorem dX12_warm_12 : decode cX12_warm 12 = .ok (.goto 5, 3) := by decide +kernel
theorem dX12_warm_15 : decode cX12_warm 15 = .ok (.bipush (-2), 2) := by decide +kernel
theorem dX12_warm_17 : decode cX12_warm 17 = .ok (.ireturn, 1) := by decide +kernel
theorem dX12_set_0 : decode cX12_set 0 = .ok (.iload_n 1, 1) := by decide +kernel
theorem dX12_set_1 : decode cX12_set 1 = .ok (.iconst 0, 1) := by decide +kernel
theorem dX12_set_2 : decode cX12_set 2 = .ok (.iconst 1, 1) := by decide +kernel
theorem dX12_set_3 : decode cX12_set 3 = .ok (.invokestatic 104, 3) := by decide +kernel
theorem dX12_set_6 : decode cX12_set 6 = .ok (.ifCond .eq 30, 3) := by decide +kernel
theorem dX12_set_9 : decode cX12_set 9 = .ok (.iload_n 2, 1) := by decide +kernel
theorem dX12_set_10 : decode cX12_set 10 = .ok (.iload_n 1, 1) := by decide +kernel
theorem dX12_set_11 : decode cX12_set 11 = .ok (.ifCond .ne 7, 3) := by decide +kernel
theorem dX12_set_14 : decode cX12_set 14 = .ok (.iconst 1, 1) := by decide +kernel
theorem dX12_set_15 : decode cX12_set 15 = .ok (.goto 4, 3) := by decide +kernel
theorem dX12_set_18 : decode cX12_set 18 = .ok (.iconst 0, 1) := by decide +kernel
theorem dX12_set_19 : decode cX12_set 19 = .ok (.iload_n 1, 1) := by decide +kernel
theorem dX12_set_20 : decode cX12_set 20 = .ok (.ifCond .ne 8, 3) := by decide +kernel
theorem dX12_set_23 : decode cX12_set 23 = .ok (.bipush 20, 2) := by decide +kernel
theorem dX12_set_25 : decode cX12_set 25 = .ok (.goto 5, 3) := by decide +kernel
theorem dX12_set_28 : decode cX12_set 28 = .ok (.bipush 8, 2) := by decide +kernel
theorem dX12_set_30 : decode cX12_set 30 = .ok (.invokestatic 104, 3) := by decide +kernel
theorem dX12_set_33 : decode cX12_set 33 = .ok (.ifCond .ne 6, 3) := by decide +kernel
theorem dX12_set_36 : decode cX12_set 36 = .ok (.bipush (-2), 2) := by decide +kernel
theorem dX12_set_38 : decode cX12_set 38 = .ok (.ireturn, 1) := by decide +kernel
theorem dX12_set_39 : decode cX12_set 39 = .ok (.iload_n 1, 1) := by decide +kernel
theorem dX12_set_40 : decode cX12_set 40 = .ok (.ifCond .ne 10, 3) := by decide +kernel
theorem dX12_set_43 : decode cX12_set 43 = .ok (.aload_n 0, 1) := by decide +kernel
theorem dX12_set_44 : decode cX12_set 44 = .ok (.getfield 95, 3) := by decide +kernel
theorem dX12_set_47 : decode cX12_set 47 = .ok (.goto 7, 3) := by decide +kernel
theorem dX12_set_50 : decode cX12_set 50 = .ok (.aload_n 0, 1) := by decide +kernel
theorem dX12_set_51 : decode cX12_set 51 = .ok (.getfield 99, 3) := by decide +kernel
theorem dX12_set_54 : decode cX12_set 54 = .ok (.istore_n 3, 1) := by decide +kernel
theorem dX12_set_55 : decode cX12_set 55 = .ok (.aload_n 0, 1) := by decide +kernel
theorem dX12_set_56 : decode cX12_set 56 = .ok (.iload_n 1, 1) := by decide +kernel
theorem dX12_set_57 : decode cX12_set 57 = .ok (.ifCond .ne 7, 3) := by decide +kernel
theorem dX12_set_60 : decode cX12_set 60 = .ok (.iload_n 2, 1) := by decide +kernel
theorem dX12_set_61 : decode cX12_set 61 = .ok (.goto 7, 3) := by decide +kernel
theorem dX12_set_64 : decode cX12_set 64 = .ok (.aload_n 0, 1) := by decide +kernel
theorem dX12_set_65 : decode cX12_set 65 = .ok (.getfield 95, 3) := by decide +kernel
theorem dX12_set_68 : decode cX12_set 68 = .ok (.putfield 95, 3) := by decide +kernel
theorem dX12_set_71 : decode cX12_set 71 = .ok (.aload_n 0, 1) := by decide +kernel
theorem dX12_set_72 : decode cX12_set 72 = .ok (.iload_n 1, 1) := by decide +kernel
theorem dX12_set_73 : decode cX12_set 73 = .ok (.iconst 1, 1) := by decide +kernel
theorem dX12_set_74 : decode cX12_set 74 = .ok (.if_icmp .ne 7, 3) := by decide +kernel
theorem dX12_set_77 : decode cX12_set 77 = .ok (.iload_n 2, 1) := by decide +kernel
theorem dX12_set_78 : decode cX12_set 78 = .ok (.goto 7, 3) := by decide +kernel
theorem dX12_set_81 : decode cX12_set 81 = .ok (.aload_n 0, 1) := by decide +kernel
theorem dX12_set_82 : decode cX12_set 82 = .ok (.getfield 99, 3) := by decide +kernel
theorem dX12_set_85 : decode cX12_set 85 = .ok (.putfield 99, 3) := by decide +kernel
theorem dX12_set_88 : decode cX12_set 88 = .ok (.iload_n 3, 1) := by decide +kernel
theorem dX12_set_89 : decode cX12_set 89 = .ok (.ireturn, 1) := by decide +kernel
theorem dX12_turning_0 : decode cX12_turning 0 = .ok (.iload_n 1, 1) := by decide +kernel
theorem dX12_turning_1 : decode cX12_turning 1 = .ok (.invokestatic 148, 3) := by decide +kernel
theorem dX12_turning_4 : decode cX12_turning 4 = .ok (.ifCond .eq 13, 3) := by decide +kernel
theorem dX12_turning_7 : decode cX12_turning 7 = .ok (.iload_n 2, 1) := by decide +kernel
theorem dX12_turning_8 : decode cX12_turning 8 = .ok (.iconst 0, 1) := by decide +kernel
theorem dX12_turning_9 : decode cX12_turning 9 = .ok (.bipush 7, 2) := by decide +kernel
theorem dX12_turning_11 : decode cX12_turning 11 = .ok (.invokestatic 104, 3) := by decide +kernel
theorem dX12_turning_14 : decode cX12_turning 14 = .ok (.ifCond .ne 6, 3) := by decide +kernel
theorem dX12_turning_17 : decode cX12_turning 17 = .ok (.bipush (-2), 2) := by decide +kernel
theorem dX12_turning_19 : decode cX12_turning 19 = .ok (.ireturn, 1) := by decide +kernel
theorem dX12_turning_20 : decode cX12_turning 20 = .ok (.aload_n 0, 1) := by decide +kernel
theorem dX12_turning_21 : decode cX12_turning 21 = .ok (.getfield 154, 3) := by decide +kernel
theorem dX12_turning_24 : decode cX12_turning 24 = .ok (.bipush 8, 2) := by decide +kernel
theorem dX12_turning_26 : decode cX12_turning 26 = .ok (.if_icmp .ne 6, 3) := by decide +kernel
theorem dX12_turning_29 : decode cX12_turning 29 = .ok (.bipush (-4), 2) := by decide +kernel
theorem dX12_turning_31 : decode cX12_turning 31 = .ok (.ireturn, 1) := by decide +kernel
theorem dX12_turning_32 : decode cX12_turning 32 = .ok (.aload_n 0, 1) := by decide +kernel
theorem dX12_turning_33 : decode cX12_turning 33 = .ok (.getfield 31, 3) := by decide +kernel
theorem dX12_turning_36 : decode cX12_turning 36 = .ok (.aload_n 0, 1) := by decide +kernel
theorem dX12_turning_37 : decode cX12_turning 37 = .ok (.getfield 154, 3) := by decide +kernel
theorem dX12_turning_40 : decode cX12_turning 40 = .ok (.iload_n 1, 1) := by decide +kernel
theorem dX12_turning_41 : decode cX12_turning 41 = .ok (.iastore, 1) := by decide +kernel
theorem dX12_turning_42 : decode cX12_turning 42 = .ok (.aload_n 0, 1) := by decide +kernel
theorem dX12_turning_43 : decode cX12_turning 43 = .ok (.getfield 34, 3) := by decide +kernel
theorem dX12_turning_46 : decode cX12_turning 46 = .ok (.aload_n 0, 1) := by decide +kernel
theorem dX12_turning_47 : decode cX12_turning 47 = .ok (.getfield 154, 3) := by decide +kernel
theorem dX12_turning_50 : decode cX12_turning 50 = .ok (.iload_n 2, 1) := by decide +kernel
theorem dX12_turning_51 : decode cX12_turning 51 = .ok (.iastore, 1) := by decide +kernel
theorem dX12_turning_52 : decode cX12_turning 52 = .ok (.aload_n 0, 1) := by decide +kernel
theorem dX12_turning_53 : decode cX12_turning 53 = .ok (.dup, 1) := by decide +kernel
theorem dX12_turning_54 : decode cX12_turning 54 = .ok (.getfield 154, 3) := by decide +kernel
theorem dX12_turning_57 : decode cX12_turning 57 = .ok (.iconst 1, 1) := by decide +kernel
theorem dX12_turning_58 : decode cX12_turning 58 = .ok (.iadd, 1) := by decide +kernel
theorem dX12_turning_59 : decode cX12_turning 59 = .ok (.putfield 154, 3) := by decide +kernel
theorem dX12_turning_62 : decode cX12_turning 62 = .ok (.aload_n 0, 1) := by decide +kernel
theorem dX12_turning_63 : decode cX12_turning 63 = .ok (.getfield 154, 3) := by decide +kernel
theorem dX12_turning_66 : decode cX12_turning 66 = .ok (.ireturn, 1) := by decide +kernel
theorem dX12_knock_0 : decode cX12_knock 0 = .ok (.iload_n 1, 1) := by decide +kernel
theorem dX12_knock_1 : decode cX12_knock 1 = .ok (.invokestatic 148, 3) := by decide +kernel
theorem dX12_knock_4 : decode cX12_knock 4 = .ok (.ifCond .eq 13, 3) := by decide +kernel
theorem dX12_knock_7 : decode cX12_knock 7 = .ok (.iload_n 2, 1) := by decide +kernel
theorem dX12_knock_8 : decode cX12_knock 8 = .ok (.iconst 0, 1) := by decide +kernel
theorem dX12_knock_9 : decode cX12_knock 9 = .ok (.bipush 7, 2) := by decide +kernel
theorem dX12_knock_11 : decode cX12_knock 11 = .ok (.invokestatic 104, 3) := by decide +kernel
theorem dX12_knock_14 : decode cX12_knock 14 = .ok (.ifCond .ne 6, 3) := by decide +kernel
theorem dX12_knock_17 : decode cX12_knock 17 = .ok (.bipush (-2), 2) := by decide +kernel
theorem dX12_knock_19 : decode cX12_knock 19 = .ok (.ireturn, 1) := by decide +kernel
theorem dX12_knock_20 : decode cX12_knock 20 = .ok (.aload_n 0, 1) := by decide +kernel
theorem dX12_knock_21 : decode cX12_knock 21 = .ok (.getfield 157, 3) := by decide +kernel
theorem dX12_knock_24 : decode cX12_knock 24 = .ok (.iconst 4, 1) := by decide +kernel
theorem dX12_knock_25 : decode cX12_knock 25 = .ok (.if_icmp .ne 6, 3) := by decide +kernel
theorem dX12_knock_28 : decode cX12_knock 28 = .ok (.bipush (-4), 2) := by decide +kernel
theorem dX12_knock_30 : decode cX12_knock 30 = .ok (.ireturn, 1) := by decide +kernel
theorem dX12_knock_31 : decode cX12_knock 31 = .ok (.aload_n 0, 1) := by decide +kernel
theorem dX12_knock_32 : decode cX12_knock 32 = .ok (.getfield 37, 3) := by decide +kernel
theorem dX12_knock_35 : decode cX12_knock 35 = .ok (.aload_n 0, 1) := by decide +kernel
theorem dX12_knock_36 : decode cX12_knock 36 = .ok (.getfield 157, 3) := by decide +kernel
theorem dX12_knock_39 : decode cX12_knock 39 = .ok (.iload_n 1, 1) := by decide +kernel
theorem dX12_knock_40 : decode cX12_knock 40 = .ok (.iastore, 1) := by decide +kernel
theorem dX12_knock_41 : decode cX12_knock 41 = .ok (.aload_n 0, 1) := by decide +kernel
theorem dX12_knock_42 : decode cX12_knock 42 = .ok (.getfield 40, 3) := by decide +kernel
theorem dX12_knock_45 : decode cX12_knock 45 = .ok (.aload_n 0, 1) := by decide +kernel
theorem dX12_knock_46 : decode cX12_knock 46 = .ok (.getfield 157, 3) := by decide +kernel
theorem dX12_knock_49 : decode cX12_knock 49 = .ok (.iload_n 2, 1) := by decide +kernel
theorem dX12_knock_50 : decode cX12_knock 50 = .ok (.iastore, 1) := by decide +kernel
theorem dX12_knock_51 : decode cX12_knock 51 = .ok (.aload_n 0, 1) := by decide +kernel
theorem dX12_knock_52 : decode cX12_knock 52 = .ok (.dup, 1) := by decide +kernel
theorem dX12_knock_53 : decode cX12_knock 53 = .ok (.getfield 157, 3) := by decide +kernel
theorem dX12_knock_56 : decode cX12_knock 56 = .ok (.iconst 1, 1) := by decide +kernel
theorem dX12_knock_57 : decode cX12_knock 57 = .ok (.iadd, 1) := by decide +kernel
theorem dX12_knock_58 : decode cX12_knock 58 = .ok (.putfield 157, 3) := by decide +kernel
theorem dX12_knock_61 : decode cX12_knock 61 = .ok (.aload_n 0, 1) := by decide +kernel
theorem dX12_knock_62 : decode cX12_knock 62 = .ok (.getfield 157, 3) := by decide +kernel
theorem dX12_knock_65 : decode cX12_knock 65 = .ok (.ireturn, 1) := by decide +kernel
theorem dX12_back_0 : decode cX12_back 0 = .ok (.iload_n 1, 1) := by decide +kernel
theorem dX12_back_1 : decode cX12_back 1 = .ok (.iconst 0, 1) := by decide +kernel
theorem dX12_back_2 : decode cX12_back 2 = .ok (.iconst 1, 1) := by decide +kernel
theorem dX12_back_3 : decode cX12_back 3 = .ok (.invokestatic 104, 3) := by decide +kernel
theorem dX12_back_6 : decode cX12_back 6 = .ok (.ifCond .ne 6, 3) := by decide +kernel
theorem dX12_back_9 : decode cX12_back 9 = .ok (.bipush (-2), 2) := by decide +kernel
theorem dX12_back_11 : decode cX12_back 11 = .ok (.ireturn, 1) := by decide +kernel
theorem dX12_back_12 : decode cX12_back 12 = .ok (.iload_n 1, 1) := by decide +kernel
theorem dX12_back_13 : decode cX12_back 13 = .ok (.ifCond .ne 10, 3) := by decide +kernel
theorem dX12_back_16 : decode cX12_back 16 = .ok (.aload_n 0, 1) := by decide +kernel
theorem dX12_back_17 : decode cX12_back 17 = .ok (.getfield 154, 3) := by decide +kernel
theorem dX12_back_20 : decode cX12_back 20 = .ok (.goto 7, 3) := by decide +kernel
theorem dX12_back_23 : decode cX12_back 23 = .ok (.aload_n 0, 1) := by decide +kernel
theorem dX12_back_24 : decode cX12_back 24 = .ok (.getfield 157, 3) := by decide +kernel
theorem dX12_back_27 : decode cX12_back 27 = .ok (.istore_n 2, 1) := by decide +kernel
theorem dX12_back_28 : decode cX12_back 28 = .ok (.iload_n 2, 1) := by decide +kernel
theorem dX12_back_29 : decode cX12_back 29 = .ok (.ifCond .ne 6, 3) := by decide +kernel
theorem dX12_back_32 : decode cX12_back 32 = .ok (.bipush (-3), 2) := by decide +kernel
theorem dX12_back_34 : decode cX12_back 34 = .ok (.ireturn, 1) := by decide +kernel
theorem dX12_back_35 : decode cX12_back 35 = .ok (.aload_n 0, 1) := by decide +kernel
theorem dX12_back_36 : decode cX12_back 36 = .ok (.dup, 1) := by decide +kernel
theorem dX12_back_37 : decode cX12_back 37 = .ok (.getfield 154, 3) := by decide +kernel
theorem dX12_back_40 : decode cX12_back 40 = .ok (.iload_n 1, 1) := by decide +kernel
theorem dX12_back_41 : decode cX12_back 41 = .ok (.ifCond .ne 7, 3) := by decide +kernel
theorem dX12_back_44 : decode cX12_back 44 = .ok (.iconst 1, 1) := by decide +kernel
theorem dX12_back_45 : decode cX12_back 45 = .ok (.goto 4, 3) := by decide +kernel
theorem dX12_back_48 : decode cX12_back 48 = .ok (.iconst 0, 1) := by decide +kernel
theorem dX12_back_49 : decode cX12_back 49 = .ok (.isub, 1) := by decide +kernel
theorem dX12_back_50 : decode cX12_back 50 = .ok (.putfield 154, 3) := by decide +kernel
theorem dX12_back_53 : decode cX12_back 53 = .ok (.aload_n 0, 1) := by decide +kernel
theorem dX12_back_54 : decode cX12_back 54 = .ok (.dup, 1) := by decide +kernel
theorem dX12_back_55 : decode cX12_back 55 = .ok (.getfield 157, 3) := by decide +kernel
theorem dX12_back_58 : decode cX12_back 58 = .ok (.iload_n 1, 1) := by decide +kernel
theorem dX12_back_59 : decode cX12_back 59 = .ok (.iconst 1, 1) := by decide +kernel
theorem dX12_back_60 : decode cX12_back 60 = .ok (.if_icmp .ne 7, 3) := by decide +kernel
theorem dX12_back_63 : decode cX12_back 63 = .ok (.iconst 1, 1) := by decide +kernel
theorem dX12_back_64 : decode cX12_back 64 = .ok (.goto 4, 3) := by decide +kernel
theorem dX12_back_67 : decode cX12_back 67 = .ok (.iconst 0, 1) := by decide +kernel
theorem dX12_back_68 : decode cX12_back 68 = .ok (.isub, 1) := by decide +kernel
theorem dX12_back_69 : decode cX12_back 69 = .ok (.putfield 157, 3) := by decide +kernel
theorem dX12_back_72 : decode cX12_back 72 = .ok (.iload_n 2, 1) := by decide +kernel
theorem dX12_back_73 : decode cX12_back 73 = .ok (.iconst 1, 1) := by decide +kernel
theorem dX12_back_74 : decode cX12_back 74 = .ok (.isub, 1) := by decide +kernel
theorem dX12_back_75 : decode cX12_back 75 = .ok (.ireturn, 1) := by decide +kernel
theorem dX12_read_0 : decode cX12_read 0 = .ok (.iload_n 1, 1) := by decide +kernel
theorem dX12_read_1 : decode cX12_read 1 = .ok (.invokestatic 160, 3) := by decide +kernel
theorem dX12_read_4 : decode cX12_read 4 = .ok (.ifCond .ne 6, 3) := by decide +kernel
theorem dX12_read_7 : decode cX12_read 7 = .ok (.bipush (-2), 2) := by decide +kernel
theorem dX12_read_9 : decode cX12_read 9 = .ok (.ireturn, 1) := by decide +kernel
theorem dX12_read_10 : decode cX12_read 10 = .ok (.aload_n 0, 1) := by decide +kernel
theorem dX12_read_11 : decode cX12_read 11 = .ok (.getfield 79, 3) := by decide +kernel
theorem dX12_read_14 : decode cX12_read 14 = .ok (.iload_n 1, 1) := by decide +kernel
theorem dX12_read_15 : decode cX12_read 15 = .ok (.baload, 1) := by decide +kernel
theorem dX12_read_16 : decode cX12_read 16 = .ok (.ifCond .ne 9, 3) := by decide +kernel
theorem dX12_read_19 : decode cX12_read 19 = .ok (.aload_n 0, 1) := by decide +kernel
theorem dX12_read_20 : decode cX12_read 20 = .ok (.iconst 1, 1) := by decide +kernel
theorem dX12_read_21 : decode cX12_read 21 = .ok (.invokevirtual 163, 3) := by decide +kernel
theorem dX12_read_24 : decode cX12_read 24 = .ok (.ireturn, 1) := by decide +kernel
theorem dX12_read_25 : decode cX12_read 25 = .ok (.iconst 0, 1) := by decide +kernel
theorem dX12_read_26 : decode cX12_read 26 = .ok (.istore_n 2, 1) := by decide +kernel
theorem dX12_read_27 : decode cX12_read 27 = .ok (.iconst 2, 1) := by decide +kernel
theorem dX12_read_28 : decode cX12_read 28 = .ok (.iload_n 2, 1) := by decide +kernel
theorem dX12_read_29 : decode cX12_read 29 = .ok (.imul, 1) := by decide +kernel
theorem dX12_read_30 : decode cX12_read 30 = .ok (.iconst 1, 1) := by decide +kernel
theorem dX12_read_31 : decode cX12_read 31 = .ok (.iadd, 1) := by decide +kernel
theorem dX12_read_32 : decode cX12_read 32 = .ok (.aload_n 0, 1) := by decide +kernel
theorem dX12_read_33 : decode cX12_read 33 = .ok (.getfield 86, 3) := by decide +kernel
theorem dX12_read_36 : decode cX12_read 36 = .ok (.iload_n 1, 1) := by decide +kernel
theorem dX12_read_37 : decode cX12_read 37 = .ok (.iaload, 1) := by decide +kernel
theorem dX12_read_38 : decode cX12_read 38 = .ok (.if_icmp .ge 44, 3) := by decide +kernel
theorem dX12_read_41 : decode cX12_read 41 = .ok (.aload_n 0, 1) := by decide +kernel
theorem dX12_read_42 : decode cX12_read 42 = .ok (.aload_n 0, 1) := by decide +kernel
theorem dX12_read_43 : decode cX12_read 43 = .ok (.getfield 89, 3) := by decide +kernel
theorem dX12_read_46 : decode cX12_read 46 = .ok (.bipush 60, 2) := by decide +kernel
theorem dX12_read_48 : decode cX12_read 48 = .ok (.iload_n 1, 1) := by decide +kernel
theorem dX12_read_49 : decode cX12_read 49 = .ok (.imul, 1) := by decide +kernel
theorem dX12_read_50 : decode cX12_read 50 = .ok (.iconst 2, 1) := by decide +kernel
theorem dX12_read_51 : decode cX12_read 51 = .ok (.iload_n 2, 1) := by decide +kernel
theorem dX12_read_52 : decode cX12_read 52 = .ok (.imul, 1) := by decide +kernel
theorem dX12_read_53 : decode cX12_read 53 = .ok (.iadd, 1) := by decide +kernel
theorem dX12_read_54 : decode cX12_read 54 = .ok (.iaload, 1) := by decide +kernel
theorem dX12_read_55 : decode cX12_read 55 = .ok (.aload_n 0, 1) := by decide +kernel
theorem dX12_read_56 : decode cX12_read 56 = .ok (.getfield 89, 3) := by decide +kernel
theorem dX12_read_59 : decode cX12_read 59 = .ok (.bipush 60, 2) := by decide +kernel
theorem dX12_read_61 : decode cX12_read 61 = .ok (.iload_n 1, 1) := by decide +kernel
theorem dX12_read_62 : decode cX12_read 62 = .ok (.imul, 1) := by decide +kernel
theorem dX12_read_63 : decode cX12_read 63 = .ok (.iconst 2, 1) := by decide +kernel
theorem dX12_read_64 : decode cX12_read 64 = .ok (.iload_n 2, 1) := by decide +kernel
theorem dX12_read_65 : decode cX12_read 65 = .ok (.imul, 1) := by decide +kernel
theorem dX12_read_66 : decode cX12_read 66 = .ok (.iadd, 1) := by decide +kernel
theorem dX12_read_67 : decode cX12_read 67 = .ok (.iconst 1, 1) := by decide +kernel
theorem dX12_read_68 : decode cX12_read 68 = .ok (.iadd, 1) := by decide +kernel
theorem dX12_read_69 : decode cX12_read 69 = .ok (.iaload, 1) := by decide +kernel
theorem dX12_read_70 : decode cX12_read 70 = .ok (.invokevirtual 166, 3) := by decide +kernel
theorem dX12_read_73 : decode cX12_read 73 = .ok (.ifCond .le 9, 3) := by decide +kernel
theorem dX12_read_76 : decode cX12_read 76 = .ok (.iinc 2 1, 3) := by decide +kernel
theorem dX12_read_79 : decode cX12_read 79 = .ok (.goto (-52), 3) := by decide +kernel
theorem dX12_read_82 : decode cX12_read 82 = .ok (.iload_n 2, 1) := by decide +kernel
theorem dX12_read_83 : decode cX12_read 83 = .ok (.ireturn, 1) := by decide +kernel
theorem dX12_asTold_0 : decode cX12_asTold 0 = .ok (.aload_n 0, 1) := by decide +kernel
theorem dX12_asTold_1 : decode cX12_asTold 1 = .ok (.invokevirtual 139, 3) := by decide +kernel
theorem dX12_asTold_4 : decode cX12_asTold 4 = .ok (.iconst 0, 1) := by decide +kernel
theorem dX12_asTold_5 : decode cX12_asTold 5 = .ok (.istore_n 1, 1) := by decide +kernel
theorem dX12_asTold_6 : decode cX12_asTold 6 = .ok (.iload_n 1, 1) := by decide +kernel
theorem dX12_asTold_7 : decode cX12_asTold 7 = .ok (.bipush 30, 2) := by decide +kernel
theorem dX12_asTold_9 : decode cX12_asTold 9 = .ok (.if_icmp .ge 21, 3) := by decide +kernel
theorem dX12_asTold_12 : decode cX12_asTold 12 = .ok (.aload_n 0, 1) := by decide +kernel
theorem dX12_asTold_13 : decode cX12_asTold 13 = .ok (.getfield 43, 3) := by decide +kernel
theorem dX12_asTold_16 : decode cX12_asTold 16 = .ok (.iload_n 1, 1) := by decide +kernel
theorem dX12_asTold_17 : decode cX12_asTold 17 = .ok (.aload_n 0, 1) := by decide +kernel
theorem dX12_asTold_18 : decode cX12_asTold 18 = .ok (.getfield 28, 3) := by decide +kernel
theorem dX12_asTold_21 : decode cX12_asTold 21 = .ok (.iload_n 1, 1) := by decide +kernel
theorem dX12_asTold_22 : decode cX12_asTold 22 = .ok (.iaload, 1) := by decide +kernel
theorem dX12_asTold_23 : decode cX12_asTold 23 = .ok (.iastore, 1) := by decide +kernel
theorem dX12_asTold_24 : decode cX12_asTold 24 = .ok (.iinc 1 1, 3) := by decide +kernel
theorem dX12_asTold_27 : decode cX12_asTold 27 = .ok (.goto (-21), 3) := by decide +kernel
theorem dX12_asTold_30 : decode cX12_asTold 30 = .ok (.return_, 1) := by decide +kernel
theorem dX12_turns_0 : decode cX12_turns 0 = .ok (.aload_n 0, 1) := by decide +kernel
theorem dX12_turns_1 : decode cX12_turns 1 = .ok (.iconst 0, 1) := by decide +kernel
theorem dX12_turns_2 : decode cX12_turns 2 = .ok (.putfield 169, 3) := by decide +kernel
theorem dX12_turns_5 : decode cX12_turns 5 = .ok (.aload_n 0, 1) := by decide +kernel
theorem dX12_turns_6 : decode cX12_turns 6 = .ok (.iconst 0, 1) := by decide +kernel
theorem dX12_turns_7 : decode cX12_turns 7 = .ok (.putfield 172, 3) := by decide +kernel
theorem dX12_turns_10 : decode cX12_turns 10 = .ok (.iconst 0, 1) := by decide +kernel
theorem dX12_turns_11 : decode cX12_turns 11 = .ok (.istore_n 3, 1) := by decide +kernel
theorem dX12_turns_12 : decode cX12_turns 12 = .ok (.iload_n 3, 1) := by decide +kernel
theorem dX12_turns_13 : decode cX12_turns 13 = .ok (.aload_n 0, 1) := by decide +kernel
theorem dX12_turns_14 : decode cX12_turns 14 = .ok (.getfield 154, 3) := by decide +kernel
theorem dX12_turns_17 : decode cX12_turns 17 = .ok (.if_icmp .ge 48, 3) := by decide +kernel
theorem dX12_turns_20 : decode cX12_turns 20 = .ok (.aload_n 0, 1) := by decide +kernel
theorem dX12_turns_21 : decode cX12_turns 21 = .ok (.dup, 1) := by decide +kernel
theorem dX12_turns_22 : decode cX12_turns 22 = .ok (.getfield 169, 3) := by decide +kernel
theorem dX12_turns_25 : decode cX12_turns 25 = .ok (.aload_n 0, 1) := by decide +kernel
theorem dX12_turns_26 : decode cX12_turns 26 = .ok (.getfield 34, 3) := by decide +kernel
theorem dX12_turns_29 : decode cX12_turns 29 = .ok (.iload_n 3, 1) := by decide +kernel
theorem dX12_turns_30 : decode cX12_turns 30 = .ok (.iaload, 1) := by decide +kernel
theorem dX12_turns_31 : decode cX12_turns 31 = .ok (.iload_n 1, 1) := by decide +kernel
theorem dX12_turns_32 : decode cX12_turns 32 = .ok (.if_icmp .ne 22, 3) := by decide +kernel
theorem dX12_turns_35 : decode cX12_turns 35 = .ok (.iload_n 2, 1) := by decide +kernel
theorem dX12_turns_36 : decode cX12_turns 36 = .ok (.iload_n 3, 1) := by decide +kernel
theorem dX12_turns_37 : decode cX12_turns 37 = .ok (.invokestatic 175, 3) := by decide +kernel
theorem dX12_turns_40 : decode cX12_turns 40 = .ok (.ifCond .ne 14, 3) := by decide +kernel
theorem dX12_turns_43 : decode cX12_turns 43 = .ok (.iconst 1, 1) := by decide +kernel
theorem dX12_turns_44 : decode cX12_turns 44 = .ok (.aload_n 0, 1) := by decide +kernel
theorem dX12_turns_45 : decode cX12_turns 45 = .ok (.getfield 31, 3) := by decide +kernel
theorem dX12_turns_48 : decode cX12_turns 48 = .ok (.iload_n 3, 1) := by decide +kernel
theorem dX12_turns_49 : decode cX12_turns 49 = .ok (.iaload, 1) := by decide +kernel
theorem dX12_turns_50 : decode cX12_turns 50 = .ok (.ishl, 1) := by decide +kernel
theorem dX12_turns_51 : decode cX12_turns 51 = .ok (.goto 4, 3) := by decide +kernel
theorem dX12_turns_54 : decode cX12_turns 54 = .ok (.iconst 0, 1) := by decide +kernel
theorem dX12_turns_55 : decode cX12_turns 55 = .ok (.ior, 1) := by decide +kernel
theorem dX12_turns_56 : decode cX12_turns 56 = .ok (.putfield 169, 3) := by decide +kernel
theorem dX12_turns_59 : decode cX12_turns 59 = .ok (.iinc 3 1, 3) := by decide +kernel
theorem dX12_turns_62 : decode cX12_turns 62 = .ok (.goto (-50), 3) := by decide +kernel
theorem dX12_turns_65 : decode cX12_turns 65 = .ok (.iconst 0, 1) := by decide +kernel
theorem dX12_turns_66 : decode cX12_turns 66 = .ok (.istore_n 3, 1) := by decide +kernel
theorem dX12_turns_67 : decode cX12_turns 67 = .ok (.iload_n 3, 1) := by decide +kernel
theorem dX12_turns_68 : decode cX12_turns 68 = .ok (.aload_n 0, 1) := by decide +kernel
theorem dX12_turns_69 : decode cX12_turns 69 = .ok (.getfield 157, 3) := by decide +kernel
theorem dX12_turns_72 : decode cX12_turns 72 = .ok (.if_icmp .ge 40, 3) := by decide +kernel
theorem dX12_turns_75 : decode cX12_turns 75 = .ok (.aload_n 0, 1) := by decide +kernel
theorem dX12_turns_76 : decode cX12_turns 76 = .ok (.dup, 1) := by decide +kernel
theorem dX12_turns_77 : decode cX12_turns 77 = .ok (.getfield 172, 3) := by decide +kernel
theorem dX12_turns_80 : decode cX12_turns 80 = .ok (.aload_n 0, 1) := by decide +kernel
theorem dX12_turns_81 : decode cX12_turns 81 = .ok (.getfield 40, 3) := by decide +kernel
theorem dX12_turns_84 : decode cX12_turns 84 = .ok (.iload_n 3, 1) := by decide +kernel
theorem dX12_turns_85 : decode cX12_turns 85 = .ok (.iaload, 1) := by decide +kernel
theorem dX12_turns_86 : decode cX12_turns 86 = .ok (.iload_n 1, 1) := by decide +kernel
theorem dX12_turns_87 : decode cX12_turns 87 = .ok (.if_icmp .ne 14, 3) := by decide +kernel
theorem dX12_turns_90 : decode cX12_turns 90 = .ok (.iconst 1, 1) := by decide +kernel
theorem dX12_turns_91 : decode cX12_turns 91 = .ok (.aload_n 0, 1) := by decide +kernel
theorem dX12_turns_92 : decode cX12_turns 92 = .ok (.getfield 37, 3) := by decide +kernel
theorem dX12_turns_95 : decode cX12_turns 95 = .ok (.iload_n 3, 1) := by decide +kernel
theorem dX12_turns_96 : decode cX12_turns 96 = .ok (.iaload, 1) := by decide +kernel
theorem dX12_turns_97 : decode cX12_turns 97 = .ok (.ishl, 1) := by decide +kernel
theorem dX12_turns_98 : decode cX12_turns 98 = .ok (.goto 4, 3) := by decide +kernel
theorem dX12_turns_101 : decode cX12_turns 101 = .ok (.iconst 0, 1) := by decide +kernel
theorem dX12_turns_102 : decode cX12_turns 102 = .ok (.ior, 1) := by decide +kernel
theorem dX12_turns_103 : decode cX12_turns 103 = .ok (.putfield 172, 3) := by decide +kernel
theorem dX12_turns_106 : decode cX12_turns 106 = .ok (.iinc 3 1, 3) := by decide +kernel
theorem dX12_turns_109 : decode cX12_turns 109 = .ok (.goto (-42), 3) := by decide +kernel
theorem dX12_turns_112 : decode cX12_turns 112 = .ok (.return_, 1) := by decide +kernel
theorem dX12_grows_0 : decode cX12_grows 0 = .ok (.aload_n 0, 1) := by decide +kernel
theorem dX12_grows_1 : decode cX12_grows 1 = .ok (.getfield 43, 3) := by decide +kernel
theorem dX12_grows_4 : decode cX12_grows 4 = .ok (.iload_n 2, 1) := by decide +kernel
theorem dX12_grows_5 : decode cX12_grows 5 = .ok (.iaload, 1) := by decide +kernel
theorem dX12_grows_6 : decode cX12_grows 6 = .ok (.istore_n 3, 1) := by decide +kernel
theorem dX12_grows_7 : decode cX12_grows 7 = .ok (.aload_n 0, 1) := by decide +kernel
theorem dX12_grows_8 : decode cX12_grows 8 = .ok (.getfield 169, 3) := by decide +kernel
theorem dX12_grows_11 : decode cX12_grows 11 = .ok (.iload_n 2, 1) := by decide +kernel
theorem dX12_grows_12 : decode cX12_grows 12 = .ok (.invokestatic 175, 3) := by decide +kernel
theorem dX12_grows_15 : decode cX12_grows 15 = .ok (.istore 4, 2) := by decide +kernel
theorem dX12_grows_17 : decode cX12_grows 17 = .ok (.iload_n 2, 1) := by decide +kernel
theorem dX12_grows_18 : decode cX12_grows 18 = .ok (.ifCond .le 20, 3) := by decide +kernel
theorem dX12_grows_21 : decode cX12_grows 21 = .ok (.aload_n 0, 1) := by decide +kernel
theorem dX12_grows_22 : decode cX12_grows 22 = .ok (.getfield 169, 3) := by decide +kernel
theorem dX12_grows_25 : decode cX12_grows 25 = .ok (.iload_n 2, 1) := by decide +kernel
theorem dX12_grows_26 : decode cX12_grows 26 = .ok (.iconst 1, 1) := by decide +kernel
theorem dX12_grows_27 : decode cX12_grows 27 = .ok (.isub, 1) := by decide +kernel
theorem dX12_grows_28 : decode cX12_grows 28 = .ok (.invokestatic 175, 3) := by decide +kernel
theorem dX12_grows_31 : decode cX12_grows 31 = .ok (.ifCond .eq 7, 3) := by decide +kernel
theorem dX12_grows_34 : decode cX12_grows 34 = .ok (.iconst 1, 1) := by decide +kernel
theorem dX12_grows_35 : decode cX12_grows 35 = .ok (.goto 4, 3) := by decide +kernel
theorem dX12_grows_38 : decode cX12_grows 38 = .ok (.iconst 0, 1) := by decide +kernel
theorem dX12_grows_39 : decode cX12_grows 39 = .ok (.istore 5, 2) := by decide +kernel
theorem dX12_grows_41 : decode cX12_grows 41 = .ok (.aload_n 0, 1) := by decide +kernel
theorem dX12_grows_42 : decode cX12_grows 42 = .ok (.getfield 16, 3) := by decide +kernel
theorem dX12_grows_45 : decode cX12_grows 45 = .ok (.iload_n 1, 1) := by decide +kernel
theorem dX12_grows_46 : decode cX12_grows 46 = .ok (.iaload, 1) := by decide +kernel
theorem dX12_grows_47 : decode cX12_grows 47 = .ok (.ifCond .ne 23, 3) := by decide +kernel
theorem dX12_grows_50 : decode cX12_grows 50 = .ok (.iload 4, 2) := by decide +kernel
theorem dX12_grows_52 : decode cX12_grows 52 = .ok (.ifCond .ne 8, 3) := by decide +kernel
theorem dX12_grows_55 : decode cX12_grows 55 = .ok (.iload 5, 2) := by decide +kernel
theorem dX12_grows_57 : decode cX12_grows 57 = .ok (.ifCond .eq 7, 3) := by decide +kernel
theorem dX12_grows_60 : decode cX12_grows 60 = .ok (.iload_n 3, 1) := by decide +kernel
theorem dX12_grows_61 : decode cX12_grows 61 = .ok (.goto 39, 3) := by decide +kernel
theorem dX12_grows_64 : decode cX12_grows 64 = .ok (.iload_n 3, 1) := by decide +kernel
theorem dX12_grows_65 : decode cX12_grows 65 = .ok (.iconst 2, 1) := by decide +kernel
theorem dX12_grows_66 : decode cX12_grows 66 = .ok (.idiv, 1) := by decide +kernel
theorem dX12_grows_67 : decode cX12_grows 67 = .ok (.goto 33, 3) := by decide +kernel
theorem dX12_grows_70 : decode cX12_grows 70 = .ok (.aload_n 0, 1) := by decide +kernel
theorem dX12_grows_71 : decode cX12_grows 71 = .ok (.getfield 16, 3) := by decide +kernel
theorem dX12_grows_74 : decode cX12_grows 74 = .ok (.iload_n 1, 1) := by decide +kernel
theorem dX12_grows_75 : decode cX12_grows 75 = .ok (.iaload, 1) := by decide +kernel
theorem dX12_grows_76 : decode cX12_grows 76 = .ok (.iconst 1, 1) := by decide +kernel
theorem dX12_grows_77 : decode cX12_grows 77 = .ok (.if_icmp .ne 20, 3) := by decide +kernel
theorem dX12_grows_80 : decode cX12_grows 80 = .ok (.iload 4, 2) := by decide +kernel
theorem dX12_grows_82 : decode cX12_grows 82 = .ok (.ifCond .eq 7, 3) := by decide +kernel
theorem dX12_grows_85 : decode cX12_grows 85 = .ok (.iconst 0, 1) := by decide +kernel
theorem dX12_grows_86 : decode cX12_grows 86 = .ok (.goto 14, 3) := by decide +kernel
theorem dX12_grows_89 : decode cX12_grows 89 = .ok (.iload_n 3, 1) := by decide +kernel
theorem dX12_grows_90 : decode cX12_grows 90 = .ok (.iload_n 3, 1) := by decide +kernel
theorem dX12_grows_91 : decode cX12_grows 91 = .ok (.iconst 2, 1) := by decide +kernel
theorem dX12_grows_92 : decode cX12_grows 92 = .ok (.idiv, 1) := by decide +kernel
theorem dX12_grows_93 : decode cX12_grows 93 = .ok (.iadd, 1) := by decide +kernel
theorem dX12_grows_94 : decode cX12_grows 94 = .ok (.goto 6, 3) := by decide +kernel
theorem dX12_grows_97 : decode cX12_grows 97 = .ok (.iload_n 3, 1) := by decide +kernel
theorem dX12_grows_98 : decode cX12_grows 98 = .ok (.iconst 1, 1) := by decide +kernel
theorem dX12_grows_99 : decode cX12_grows 99 = .ok (.iadd, 1) := by decide +kernel
theorem dX12_grows_100 : decode cX12_grows 100 = .ok (.istore 6, 2) := by decide +kernel
theorem dX12_grows_102 : decode cX12_grows 102 = .ok (.iload 6, 2) := by decide +kernel
theorem dX12_grows_104 : decode cX12_grows 104 = .ok (.aload_n 0, 1) := by decide +kernel
theorem dX12_grows_105 : decode cX12_grows 105 = .ok (.getfield 172, 3) := by decide +kernel
theorem dX12_grows_108 : decode cX12_grows 108 = .ok (.iload_n 2, 1) := by decide +kernel
theorem dX12_grows_109 : decode cX12_grows 109 = .ok (.invokestatic 175, 3) := by decide +kernel
theorem dX12_grows_112 : decode cX12_grows 112 = .ok (.ifCond .eq 7, 3) := by decide +kernel
theorem dX12_grows_115 : decode cX12_grows 115 = .ok (.iconst 2, 1) := by decide +kernel
theorem dX12_grows_116 : decode cX12_grows 116 = .ok (.goto 4, 3) := by decide +kernel
theorem dX12_grows_119 : decode cX12_grows 119 = .ok (.iconst 0, 1) := by decide +kernel
theorem dX12_grows_120 : decode cX12_grows 120 = .ok (.iadd, 1) := by decide +kernel
theorem dX12_grows_121 : decode cX12_grows 121 = .ok (.ireturn, 1) := by decide +kernel
theorem dX12_goes_0 : decode cX12_goes 0 = .ok (.iconst 0, 1) := by decide +kernel
theorem dX12_goes_1 : decode cX12_goes 1 = .ok (.istore_n 2, 1) := by decide +kernel
theorem dX12_goes_2 : decode cX12_goes 2 = .ok (.iconst 0, 1) := by decide +kernel
theorem dX12_goes_3 : decode cX12_goes 3 = .ok (.istore_n 3, 1) := by decide +kernel
theorem dX12_goes_4 : decode cX12_goes 4 = .ok (.iconst 0, 1) := by decide +kernel
theorem dX12_goes_5 : decode cX12_goes 5 = .ok (.istore 4, 2) := by decide +kernel
theorem dX12_goes_7 : decode cX12_goes 7 = .ok (.iload 4, 2) := by decide +kernel
theorem dX12_goes_9 : decode cX12_goes 9 = .ok (.bipush 30, 2) := by decide +kernel
theorem dX12_goes_11 : decode cX12_goes 11 = .ok (.if_icmp .ge 215, 3) := by decide +kernel
theorem dX12_goes_14 : decode cX12_goes 14 = .ok (.iload 4, 2) := by decide +kernel
theorem dX12_goes_16 : decode cX12_goes 16 = .ok (.aload_n 0, 1) := by decide +kernel
theorem dX12_goes_17 : decode cX12_goes 17 = .ok (.getfield 19, 3) := by decide +kernel
theorem dX12_goes_20 : decode cX12_goes 20 = .ok (.iload_n 1, 1) := by decide +kernel
theorem dX12_goes_21 : decode cX12_goes 21 = .ok (.iaload, 1) := by decide +kernel
theorem dX12_goes_22 : decode cX12_goes 22 = .ok (.if_icmp .lt 11, 3) := by decide +kernel
theorem dX12_goes_25 : decode cX12_goes 25 = .ok (.iload_n 3, 1) := by decide +kernel
theorem dX12_goes_26 : decode cX12_goes 26 = .ok (.ifCond .ne 7, 3) := by decide +kernel
theorem dX12_goes_29 : decode cX12_goes 29 = .ok (.iconst 1, 1) := by decide +kernel
theorem dX12_goes_30 : decode cX12_goes 30 = .ok (.goto 4, 3) := by decide +kernel
theorem dX12_goes_33 : decode cX12_goes 33 = .ok (.iconst 0, 1) := by decide +kernel
theorem dX12_goes_34 : decode cX12_goes 34 = .ok (.istore 5, 2) := by decide +kernel
theorem dX12_goes_36 : decode cX12_goes 36 = .ok (.iload_n 2, 1) := by decide +kernel
theorem dX12_goes_37 : decode cX12_goes 37 = .ok (.iload 5, 2) := by decide +kernel
theorem dX12_goes_39 : decode cX12_goes 39 = .ok (.ifCond .eq 13, 3) := by decide +kernel
theorem dX12_goes_42 : decode cX12_goes 42 = .ok (.aload_n 0, 1) := by decide +kernel
theorem dX12_goes_43 : decode cX12_goes 43 = .ok (.iload_n 1, 1) := by decide +kernel
theorem dX12_goes_44 : decode cX12_goes 44 = .ok (.iload 4, 2) := by decide +kernel
theorem dX12_goes_46 : decode cX12_goes 46 = .ok (.invokevirtual 179, 3) := by decide +kernel
theorem dX12_goes_49 : decode cX12_goes 49 = .ok (.goto 4, 3) := by decide +kernel
theorem dX12_goes_52 : decode cX12_goes 52 = .ok (.iconst 0, 1) := by decide +kernel
theorem dX12_goes_53 : decode cX12_goes 53 = .ok (.iadd, 1) := by decide +kernel
theorem dX12_goes_54 : decode cX12_goes 54 = .ok (.istore_n 2, 1) := by decide +kernel
theorem dX12_goes_55 : decode cX12_goes 55 = .ok (.iload_n 2, 1) := by decide +kernel
theorem dX12_goes_56 : decode cX12_goes 56 = .ok (.aload_n 0, 1) := by decide +kernel
theorem dX12_goes_57 : decode cX12_goes 57 = .ok (.getfield 95, 3) := by decide +kernel
theorem dX12_goes_60 : decode cX12_goes 60 = .ok (.idiv, 1) := by decide +kernel
theorem dX12_goes_61 : decode cX12_goes 61 = .ok (.istore 6, 2) := by decide +kernel
theorem dX12_goes_63 : decode cX12_goes 63 = .ok (.iload 5, 2) := by decide +kernel
theorem dX12_goes_65 : decode cX12_goes 65 = .ok (.ifCond .eq 18, 3) := by decide +kernel
theorem dX12_goes_68 : decode cX12_goes 68 = .ok (.iload 6, 2) := by decide +kernel
theorem dX12_goes_70 : decode cX12_goes 70 = .ok (.aload_n 0, 1) := by decide +kernel
theorem dX12_goes_71 : decode cX12_goes 71 = .ok (.getfield 22, 3) := by decide +kernel
theorem dX12_goes_74 : decode cX12_goes 74 = .ok (.iload_n 1, 1) := by decide +kernel
theorem dX12_goes_75 : decode cX12_goes 75 = .ok (.iaload, 1) := by decide +kernel
theorem dX12_goes_76 : decode cX12_goes 76 = .ok (.if_icmp .ge 7, 3) := by decide +kernel
theorem dX12_goes_79 : decode cX12_goes 79 = .ok (.iconst 1, 1) := by decide +kernel
theorem dX12_goes_80 : decode cX12_goes 80 = .ok (.goto 4, 3) := by decide +kernel
theorem dX12_goes_83 : decode cX12_goes 83 = .ok (.iconst 0, 1) := by decide +kernel
theorem dX12_goes_84 : decode cX12_goes 84 = .ok (.istore 7, 2) := by decide +kernel
theorem dX12_goes_86 : decode cX12_goes 86 = .ok (.iload 7, 2) := by decide +kernel
theorem dX12_goes_88 : decode cX12_goes 88 = .ok (.ifCond .eq 17, 3) := by decide +kernel
theorem dX12_goes_91 : decode cX12_goes 91 = .ok (.aload_n 0, 1) := by decide +kernel
theorem dX12_goes_92 : decode cX12_goes 92 = .ok (.getfield 25, 3) := by decide +kernel
theorem dX12_goes_95 : decode cX12_goes 95 = .ok (.iconst 5, 1) := by decide +kernel
theorem dX12_goes_96 : decode cX12_goes 96 = .ok (.iload_n 1, 1) := by decide +kernel
theorem dX12_goes_97 : decode cX12_goes 97 = .ok (.imul, 1) := by decide +kernel
theorem dX12_goes_98 : decode cX12_goes 98 = .ok (.iload 6, 2) := by decide +kernel
theorem dX12_goes_100 : decode cX12_goes 100 = .ok (.iadd, 1) := by decide +kernel
theorem dX12_goes_101 : decode cX12_goes 101 = .ok (.iaload, 1) := by decide +kernel
theorem dX12_goes_102 : decode cX12_goes 102 = .ok (.goto 4, 3) := by decide +kernel
theorem dX12_goes_105 : decode cX12_goes 105 = .ok (.iconst (-1), 1) := by decide +kernel
theorem dX12_goes_106 : decode cX12_goes 106 = .ok (.istore 8, 2) := by decide +kernel
theorem dX12_goes_108 : decode cX12_goes 108 = .ok (.iload 7, 2) := by decide +kernel
theorem dX12_goes_110 : decode cX12_goes 110 = .ok (.ifCond .eq 26, 3) := by decide +kernel
theorem dX12_goes_113 : decode cX12_goes 113 = .ok (.iload 8, 2) := by decide +kernel
theorem dX12_goes_115 : decode cX12_goes 115 = .ok (.aload_n 0, 1) := by decide +kernel
theorem dX12_goes_116 : decode cX12_goes 116 = .ok (.getfield 99, 3) := by decide +kernel
theorem dX12_goes_119 : decode cX12_goes 119 = .ok (.if_icmp .lt 17, 3) := by decide +kernel
theorem dX12_goes_122 : decode cX12_goes 122 = .ok (.aload_n 0, 1) := by decide +kernel
theorem dX12_goes_123 : decode cX12_goes 123 = .ok (.getfield 16, 3) := by decide +kernel
theorem dX12_goes_126 : decode cX12_goes 126 = .ok (.iload_n 1, 1) := by decide +kernel
theorem dX12_goes_127 : decode cX12_goes 127 = .ok (.iaload, 1) := by decide +kernel
theorem dX12_goes_128 : decode cX12_goes 128 = .ok (.iconst 2, 1) := by decide +kernel
theorem dX12_goes_129 : decode cX12_goes 129 = .ok (.if_icmp .ge 7, 3) := by decide +kernel
theorem dX12_goes_132 : decode cX12_goes 132 = .ok (.iconst 1, 1) := by decide +kernel
theorem dX12_goes_133 : decode cX12_goes 133 = .ok (.goto 4, 3) := by decide +kernel
theorem dX12_goes_136 : decode cX12_goes 136 = .ok (.iconst 0, 1) := by decide +kernel
theorem dX12_goes_137 : decode cX12_goes 137 = .ok (.istore 9, 2) := by decide +kernel
theorem dX12_goes_139 : decode cX12_goes 139 = .ok (.aload_n 0, 1) := by decide +kernel
theorem dX12_goes_140 : decode cX12_goes 140 = .ok (.getfield 46, 3) := by decide +kernel
theorem dX12_goes_143 : decode cX12_goes 143 = .ok (.iload 4, 2) := by decide +kernel
theorem dX12_goes_145 : decode cX12_goes 145 = .ok (.iload_n 2, 1) := by decide +kernel
theorem dX12_goes_146 : decode cX12_goes 146 = .ok (.iastore, 1) := by decide +kernel
theorem dX12_goes_147 : decode cX12_goes 147 = .ok (.aload_n 0, 1) := by decide +kernel
theorem dX12_goes_148 : decode cX12_goes 148 = .ok (.getfield 49, 3) := by decide +kernel
theorem dX12_goes_151 : decode cX12_goes 151 = .ok (.iload 4, 2) := by decide +kernel
theorem dX12_goes_153 : decode cX12_goes 153 = .ok (.iload 8, 2) := by decide +kernel
theorem dX12_goes_155 : decode cX12_goes 155 = .ok (.iastore, 1) := by decide +kernel
theorem dX12_goes_156 : decode cX12_goes 156 = .ok (.aload_n 0, 1) := by decide +kernel
theorem dX12_goes_157 : decode cX12_goes 157 = .ok (.getfield 52, 3) := by decide +kernel
theorem dX12_goes_160 : decode cX12_goes 160 = .ok (.iload 4, 2) := by decide +kernel
theorem dX12_goes_162 : decode cX12_goes 162 = .ok (.iload 4, 2) := by decide +kernel
theorem dX12_goes_164 : decode cX12_goes 164 = .ok (.aload_n 0, 1) := by decide +kernel
theorem dX12_goes_165 : decode cX12_goes 165 = .ok (.getfield 19, 3) := by decide +kernel
theorem dX12_goes_168 : decode cX12_goes 168 = .ok (.iload_n 1, 1) := by decide +kernel
theorem dX12_goes_169 : decode cX12_goes 169 = .ok (.iaload, 1) := by decide +kernel
theorem dX12_goes_170 : decode cX12_goes 170 = .ok (.if_icmp .ge 7, 3) := by decide +kernel
theorem dX12_goes_173 : decode cX12_goes 173 = .ok (.iconst 0, 1) := by decide +kernel
theorem dX12_goes_174 : decode cX12_goes 174 = .ok (.goto 30, 3) := by decide +kernel
theorem dX12_goes_177 : decode cX12_goes 177 = .ok (.iload_n 3, 1) := by decide +kernel
theorem dX12_goes_178 : decode cX12_goes 178 = .ok (.ifCond .eq 7, 3) := by decide +kernel
theorem dX12_goes_181 : decode cX12_goes 181 = .ok (.iconst 4, 1) := by decide +kernel
theorem dX12_goes_182 : decode cX12_goes 182 = .ok (.goto 22, 3) := by decide +kernel
theorem dX12_goes_185 : decode cX12_goes 185 = .ok (.iload 7, 2) := by decide +kernel
theorem dX12_goes_187 : decode cX12_goes 187 = .ok (.ifCond .ne 7, 3) := by decide +kernel
theorem dX12_goes_190 : decode cX12_goes 190 = .ok (.iconst 2, 1) := by decide +kernel
theorem dX12_goes_191 : decode cX12_goes 191 = .ok (.goto 13, 3) := by decide +kernel
theorem dX12_goes_194 : decode cX12_goes 194 = .ok (.iload 9, 2) := by decide +kernel
theorem dX12_goes_196 : decode cX12_goes 196 = .ok (.ifCond .eq 7, 3) := by decide +kernel
theorem dX12_goes_199 : decode cX12_goes 199 = .ok (.iconst 3, 1) := by decide +kernel
theorem dX12_goes_200 : decode cX12_goes 200 = .ok (.goto 4, 3) := by decide +kernel
theorem dX12_goes_203 : decode cX12_goes 203 = .ok (.iconst 1, 1) := by decide +kernel
theorem dX12_goes_204 : decode cX12_goes 204 = .ok (.iastore, 1) := by decide +kernel
theorem dX12_goes_205 : decode cX12_goes 205 = .ok (.iload_n 3, 1) := by decide +kernel
theorem dX12_goes_206 : decode cX12_goes 206 = .ok (.ifCond .ne 8, 3) := by decide +kernel
theorem dX12_goes_209 : decode cX12_goes 209 = .ok (.iload 9, 2) := by decide +kernel
theorem dX12_goes_211 : decode cX12_goes 211 = .ok (.ifCond .eq 7, 3) := by decide +kernel
theorem dX12_goes_214 : decode cX12_goes 214 = .ok (.iconst 1, 1) := by decide +kernel
theorem dX12_goes_215 : decode cX12_goes 215 = .ok (.goto 4, 3) := by decide +kernel
theorem dX12_goes_218 : decode cX12_goes 218 = .ok (.iconst 0, 1) := by decide +kernel
theorem dX12_goes_219 : decode cX12_goes 219 = .ok (.istore_n 3, 1) := by decide +kernel
theorem dX12_goes_220 : decode cX12_goes 220 = .ok (.iinc 4 1, 3) := by decide +kernel
theorem dX12_goes_223 : decode cX12_goes 223 = .ok (.goto (-216), 3) := by decide +kernel
theorem dX12_goes_226 : decode cX12_goes 226 = .ok (.return_, 1) := by decide +kernel
theorem dX12_runs_0 : decode cX12_runs 0 = .ok (.aload_n 0, 1) := by decide +kernel
theorem dX12_runs_1 : decode cX12_runs 1 = .ok (.iload_n 1, 1) := by decide +kernel
theorem dX12_runs_2 : decode cX12_runs 2 = .ok (.iconst 0, 1) := by decide +kernel
theorem dX12_runs_3 : decode cX12_runs 3 = .ok (.invokevirtual 182, 3) := by decide +kernel
theorem dX12_runs_6 : decode cX12_runs 6 = .ok (.aload_n 0, 1) := by decide +kernel
theorem dX12_runs_7 : decode cX12_runs 7 = .ok (.iload_n 1, 1) := by decide +kernel
theorem dX12_runs_8 : decode cX12_runs 8 = .ok (.invokevirtual 186, 3) := by decide +kernel
theorem dX12_runs_11 : decode cX12_runs 11 = .ok (.return_, 1) := by decide +kernel
theorem dX12_runsTold_0 : decode cX12_runsTold 0 = .ok (.aload_n 0, 1) := by decide +kernel
theorem dX12_runsTold_1 : decode cX12_runsTold 1 = .ok (.invokevirtual 190, 3) := by decide +kernel
theorem dX12_runsTold_4 : decode cX12_runsTold 4 = .ok (.aload_n 0, 1) := by decide +kernel
theorem dX12_runsTold_5 : decode cX12_runsTold 5 = .ok (.iload_n 1, 1) := by decide +kernel
theorem dX12_runsTold_6 : decode cX12_runsTold 6 = .ok (.invokevirtual 193, 3) := by decide +kernel
theorem dX12_runsTold_9 : decode cX12_runsTold 9 = .ok (.return_, 1) := by decide +kernel
theorem dX12_atOf_0 : decode cX12_atOf 0 = .ok (.aload_n 0, 1) := by decide +kernel
theorem dX12_atOf_1 : decode cX12_atOf 1 = .ok (.iload_n 2, 1) := by decide +kernel
theorem dX12_atOf_2 : decode cX12_atOf 2 = .ok (.invokevirtual 196, 3) := by decide +kernel
theorem dX12_atOf_5 : decode cX12_atOf 5 = .ok (.iload_n 3, 1) := by decide +kernel
theorem dX12_atOf_6 : decode cX12_atOf 6 = .ok (.ifCond .ne 12, 3) := by decide +kernel
theorem dX12_atOf_9 : decode cX12_atOf 9 = .ok (.aload_n 0, 1) := by decide +kernel
theorem dX12_atOf_10 : decode cX12_atOf 10 = .ok (.getfield 46, 3) := by decide +kernel
theorem dX12_atOf_13 : decode cX12_atOf 13 = .ok (.iload_n 1, 1) := by decide +kernel
theorem dX12_atOf_14 : decode cX12_atOf 14 = .ok (.iaload, 1) := by decide +kernel
theorem dX12_atOf_15 : decode cX12_atOf 15 = .ok (.goto 23, 3) := by decide +kernel
theorem dX12_atOf_18 : decode cX12_atOf 18 = .ok (.iload_n 3, 1) := by decide +kernel
theorem dX12_atOf_19 : decode cX12_atOf 19 = .ok (.iconst 1, 1) := by decide +kernel
theorem dX12_atOf_20 : decode cX12_atOf 20 = .ok (.if_icmp .ne 12, 3) := by decide +kernel
theorem dX12_atOf_23 : decode cX12_atOf 23 = .ok (.aload_n 0, 1) := by decide +kernel
theorem dX12_atOf_24 : decode cX12_atOf 24 = .ok (.getfield 49, 3) := by decide +kernel
theorem dX12_atOf_27 : decode cX12_atOf 27 = .ok (.iload_n 1, 1) := by decide +kernel
theorem dX12_atOf_28 : decode cX12_atOf 28 = .ok (.iaload, 1) := by decide +kernel
theorem dX12_atOf_29 : decode cX12_atOf 29 = .ok (.goto 9, 3) := by decide +kernel
theorem dX12_atOf_32 : decode cX12_atOf 32 = .ok (.aload_n 0, 1) := by decide +kernel
theorem dX12_atOf_33 : decode cX12_atOf 33 = .ok (.getfield 52, 3) := by decide +kernel
theorem dX12_atOf_36 : decode cX12_atOf 36 = .ok (.iload_n 1, 1) := by decide +kernel
theorem dX12_atOf_37 : decode cX12_atOf 37 = .ok (.iaload, 1) := by decide +kernel
theorem dX12_atOf_38 : decode cX12_atOf 38 = .ok (.ireturn, 1) := by decide +kernel
theorem dX12_at_0 : decode cX12_at 0 = .ok (.iload_n 1, 1) := by decide +kernel
theorem dX12_at_1 : decode cX12_at 1 = .ok (.invokestatic 148, 3) := by decide +kernel
theorem dX12_at_4 : decode cX12_at 4 = .ok (.ifCond .eq 30, 3) := by decide +kernel
theorem dX12_at_7 : decode cX12_at 7 = .ok (.aload_n 0, 1) := by decide +kernel
theorem dX12_at_8 : decode cX12_at 8 = .ok (.iload_n 2, 1) := by decide +kernel
theorem dX12_at_9 : decode cX12_at 9 = .ok (.invokevirtual 142, 3) := by decide +kernel
theorem dX12_at_12 : decode cX12_at 12 = .ok (.ifCond .eq 22, 3) := by decide +kernel
theorem dX12_at_15 : decode cX12_at 15 = .ok (.iload_n 3, 1) := by decide +kernel
theorem dX12_at_16 : decode cX12_at 16 = .ok (.iconst 0, 1) := by decide +kernel
theorem dX12_at_17 : decode cX12_at 17 = .ok (.iconst 2, 1) := by decide +kernel
theorem dX12_at_18 : decode cX12_at 18 = .ok (.invokestatic 104, 3) := by decide +kernel
theorem dX12_at_21 : decode cX12_at 21 = .ok (.ifCond .eq 13, 3) := by decide +kernel
theorem dX12_at_24 : decode cX12_at 24 = .ok (.aload_n 0, 1) := by decide +kernel
theorem dX12_at_25 : decode cX12_at 25 = .ok (.iload_n 1, 1) := by decide +kernel
theorem dX12_at_26 : decode cX12_at 26 = .ok (.iload_n 2, 1) := by decide +kernel
theorem dX12_at_27 : decode cX12_at 27 = .ok (.iload_n 3, 1) := by decide +kernel
theorem dX12_at_28 : decode cX12_at 28 = .ok (.invokevirtual 199, 3) := by decide +kernel
theorem dX12_at_31 : decode cX12_at 31 = .ok (.goto 5, 3) := by decide +kernel
theorem dX12_at_34 : decode cX12_at 34 = .ok (.bipush (-2), 2) := by decide +kernel
theorem dX12_at_36 : decode cX12_at 36 = .ok (.ireturn, 1) := by decide +kernel
theorem dX12_heardMany_0 : decode cX12_heardMany 0 = .ok (.iconst 0, 1) := by decide +kernel
theorem dX12_heardMany_1 : decode cX12_heardMany 1 = .ok (.istore_n 1, 1) := by decide +kernel
theorem dX12_heardMany_2 : decode cX12_heardMany 2 = .ok (.iconst 0, 1) := by decide +kernel
theorem dX12_heardMany_3 : decode cX12_heardMany 3 = .ok (.istore_n 2, 1) := by decide +kernel
theorem dX12_heardMany_4 : decode cX12_heardMany 4 = .ok (.iload_n 2, 1) := by decide +kernel
theorem dX12_heardMany_5 : decode cX12_heardMany 5 = .ok (.bipush 30, 2) := by decide +kernel
theorem dX12_heardMany_7 : decode cX12_heardMany 7 = .ok (.if_icmp .ge 27, 3) := by decide +kernel
theorem dX12_heardMany_10 : decode cX12_heardMany 10 = .ok (.iload_n 1, 1) := by decide +kernel
theorem dX12_heardMany_11 : decode cX12_heardMany 11 = .ok (.aload_n 0, 1) := by decide +kernel
theorem dX12_heardMany_12 : decode cX12_heardMany 12 = .ok (.getfield 49, 3) := by decide +kernel
theorem dX12_heardMany_15 : decode cX12_heardMany 15 = .ok (.iload_n 2, 1) := by decide +kernel
theorem dX12_heardMany_16 : decode cX12_heardMany 16 = .ok (.iaload, 1) := by decide +kernel
theorem dX12_heardMany_17 : decode cX12_heardMany 17 = .ok (.iconst (-1), 1) := by decide +kernel
theorem dX12_heardMany_18 : decode cX12_heardMany 18 = .ok (.if_icmp .eq 7, 3) := by decide +kernel
theorem dX12_heardMany_21 : decode cX12_heardMany 21 = .ok (.iconst 1, 1) := by decide +kernel
theorem dX12_heardMany_22 : decode cX12_heardMany 22 = .ok (.goto 4, 3) := by decide +kernel
theorem dX12_heardMany_25 : decode cX12_heardMany 25 = .ok (.iconst 0, 1) := by decide +kernel
theorem dX12_heardMany_26 : decode cX12_heardMany 26 = .ok (.iadd, 1) := by decide +kernel
theorem dX12_heardMany_27 : decode cX12_heardMany 27 = .ok (.istore_n 1, 1) := by decide +kernel
theorem dX12_heardMany_28 : decode cX12_heardMany 28 = .ok (.iinc 2 1, 3) := by decide +kernel
theorem dX12_heardMany_31 : decode cX12_heardMany 31 = .ok (.goto (-27), 3) := by decide +kernel
theorem dX12_heardMany_34 : decode cX12_heardMany 34 = .ok (.iload_n 1, 1) := by decide +kernel
theorem dX12_heardMany_35 : decode cX12_heardMany 35 = .ok (.ireturn, 1) := by decide +kernel
theorem dX12_longsOf_0 : decode cX12_longsOf 0 = .ok (.aload_n 0, 1) := by decide +kernel
theorem dX12_longsOf_1 : decode cX12_longsOf 1 = .ok (.iload_n 1, 1) := by decide +kernel
theorem dX12_longsOf_2 : decode cX12_longsOf 2 = .ok (.invokevirtual 196, 3) := by decide +kernel
theorem dX12_longsOf_5 : decode cX12_longsOf 5 = .ok (.aload_n 0, 1) := by decide +kernel
theorem dX12_longsOf_6 : decode cX12_longsOf 6 = .ok (.invokevirtual 203, 3) := by decide +kernel
theorem dX12_longsOf_9 : decode cX12_longsOf 9 = .ok (.ireturn, 1) := by decide +kernel
theorem dX12_longs_0 : decode cX12_longs 0 = .ok (.aload_n 0, 1) := by decide +kernel
theorem dX12_longs_1 : decode cX12_longs 1 = .ok (.iload_n 1, 1) := by decide +kernel
theorem dX12_longs_2 : decode cX12_longs 2 = .ok (.invokevirtual 142, 3) := by decide +kernel
theorem dX12_longs_5 : decode cX12_longs 5 = .ok (.ifCond .eq 11, 3) := by decide +kernel
theorem dX12_longs_8 : decode cX12_longs 8 = .ok (.aload_n 0, 1) := by decide +kernel
theorem dX12_longs_9 : decode cX12_longs 9 = .ok (.iload_n 1, 1) := by decide +kernel
theorem dX12_longs_10 : decode cX12_longs 10 = .ok (.invokevirtual 206, 3) := by decide +kernel
theorem dX12_longs_13 : decode cX12_longs 13 = .ok (.goto 5, 3) := by decide +kernel
theorem dX12_longs_16 : decode cX12_longs 16 = .ok (.bipush (-2), 2) := by decide +kernel
theorem dX12_longs_18 : decode cX12_longs 18 = .ok (.ireturn, 1) := by decide +kernel
theorem dX12_screamOf_0 : decode cX12_screamOf 0 = .ok (.aload_n 0, 1) := by decide +kernel
theorem dX12_screamOf_1 : decode cX12_screamOf 1 = .ok (.invokevirtual 190, 3) := by decide +kernel
theorem dX12_screamOf_4 : decode cX12_screamOf 4 = .ok (.bipush 30, 2) := by decide +kernel
theorem dX12_screamOf_6 : decode cX12_screamOf 6 = .ok (.istore_n 2, 1) := by decide +kernel
theorem dX12_screamOf_7 : decode cX12_screamOf 7 = .ok (.iconst (-1), 1) := by decide +kernel
theorem dX12_screamOf_8 : decode cX12_screamOf 8 = .ok (.istore_n 3, 1) := by decide +kernel
theorem dX12_screamOf_9 : decode cX12_screamOf 9 = .ok (.iconst 0, 1) := by decide +kernel
theorem dX12_screamOf_10 : decode cX12_screamOf 10 = .ok (.istore 4, 2) := by decide +kernel
theorem dX12_screamOf_12 : decode cX12_screamOf 12 = .ok (.iload 4, 2) := by decide +kernel
theorem dX12_screamOf_14 : decode cX12_screamOf 14 = .ok (.aload_n 0, 1) := by decide +kernel
theorem dX12_screamOf_15 : decode cX12_screamOf 15 = .ok (.getfield 119, 3) := by decide +kernel
theorem dX12_screamOf_18 : decode cX12_screamOf 18 = .ok (.if_icmp .ge 61, 3) := by decide +kernel
theorem dX12_screamOf_21 : decode cX12_screamOf 21 = .ok (.aload_n 0, 1) := by decide +kernel
theorem dX12_screamOf_22 : decode cX12_screamOf 22 = .ok (.iload 4, 2) := by decide +kernel
theorem dX12_screamOf_24 : decode cX12_screamOf 24 = .ok (.invokevirtual 193, 3) := by decide +kernel
theorem dX12_screamOf_27 : decode cX12_screamOf 27 = .ok (.iconst 0, 1) := by decide +kernel
theorem dX12_screamOf_28 : decode cX12_screamOf 28 = .ok (.istore 5, 2) := by decide +kernel
theorem dX12_screamOf_30 : decode cX12_screamOf 30 = .ok (.iload 5, 2) := by decide +kernel
theorem dX12_screamOf_32 : decode cX12_screamOf 32 = .ok (.iload_n 2, 1) := by decide +kernel
theorem dX12_screamOf_33 : decode cX12_screamOf 33 = .ok (.if_icmp .ge 40, 3) := by decide +kernel
theorem dX12_screamOf_36 : decode cX12_screamOf 36 = .ok (.aload_n 0, 1) := by decide +kernel
theorem dX12_screamOf_37 : decode cX12_screamOf 37 = .ok (.getfield 49, 3) := by decide +kernel
theorem dX12_screamOf_40 : decode cX12_screamOf 40 = .ok (.iload 5, 2) := by decide +kernel
theorem dX12_screamOf_42 : decode cX12_screamOf 42 = .ok (.iaload, 1) := by decide +kernel
theorem dX12_screamOf_43 : decode cX12_screamOf 43 = .ok (.iconst (-1), 1) := by decide +kernel
theorem dX12_screamOf_44 : decode cX12_screamOf 44 = .ok (.if_icmp .eq 23, 3) := by decide +kernel
theorem dX12_screamOf_47 : decode cX12_screamOf 47 = .ok (.aload_n 0, 1) := by decide +kernel
theorem dX12_screamOf_48 : decode cX12_screamOf 48 = .ok (.getfield 49, 3) := by decide +kernel
theorem dX12_screamOf_51 : decode cX12_screamOf 51 = .ok (.iload 5, 2) := by decide +kernel
theorem dX12_screamOf_53 : decode cX12_screamOf 53 = .ok (.iaload, 1) := by decide +kernel
theorem dX12_screamOf_54 : decode cX12_screamOf 54 = .ok (.aload_n 0, 1) := by decide +kernel
theorem dX12_screamOf_55 : decode cX12_screamOf 55 = .ok (.getfield 99, 3) := by decide +kernel
theorem dX12_screamOf_58 : decode cX12_screamOf 58 = .ok (.if_icmp .lt 9, 3) := by decide +kernel
theorem dX12_screamOf_61 : decode cX12_screamOf 61 = .ok (.iload 5, 2) := by decide +kernel
theorem dX12_screamOf_63 : decode cX12_screamOf 63 = .ok (.istore_n 2, 1) := by decide +kernel
theorem dX12_screamOf_64 : decode cX12_screamOf 64 = .ok (.iload 4, 2) := by decide +kernel
theorem dX12_screamOf_66 : decode cX12_screamOf 66 = .ok (.istore_n 3, 1) := by decide +kernel
theorem dX12_screamOf_67 : decode cX12_screamOf 67 = .ok (.iinc 5 1, 3) := by decide +kernel
theorem dX12_screamOf_70 : decode cX12_screamOf 70 = .ok (.goto (-40), 3) := by decide +kernel
theorem dX12_screamOf_73 : decode cX12_screamOf 73 = .ok (.iinc 4 1, 3) := by decide +kernel
theorem dX12_screamOf_76 : decode cX12_screamOf 76 = .ok (.goto (-64), 3) := by decide +kernel
theorem dX12_screamOf_79 : decode cX12_screamOf 79 = .ok (.iload_n 3, 1) := by decide +kernel
theorem dX12_screamOf_80 : decode cX12_screamOf 80 = .ok (.iconst (-1), 1) := by decide +kernel
theorem dX12_screamOf_81 : decode cX12_screamOf 81 = .ok (.if_icmp .ne 7, 3) := by decide +kernel
theorem dX12_screamOf_84 : decode cX12_screamOf 84 = .ok (.iconst (-1), 1) := by decide +kernel
theorem dX12_screamOf_85 : decode cX12_screamOf 85 = .ok (.goto 12, 3) := by decide +kernel
theorem dX12_screamOf_88 : decode cX12_screamOf 88 = .ok (.iload_n 1, 1) := by decide +kernel
theorem dX12_screamOf_89 : decode cX12_screamOf 89 = .ok (.ifCond .ne 7, 3) := by decide +kernel
theorem dX12_screamOf_92 : decode cX12_screamOf 92 = .ok (.iload_n 2, 1) := by decide +kernel
theorem dX12_screamOf_93 : decode cX12_screamOf 93 = .ok (.goto 4, 3) := by decide +kernel
theorem dX12_screamOf_96 : decode cX12_screamOf 96 = .ok (.iload_n 3, 1) := by decide +kernel
theorem dX12_screamOf_97 : decode cX12_screamOf 97 = .ok (.ireturn, 1) := by decide +kernel
theorem dX12_scream_0 : decode cX12_scream 0 = .ok (.iload_n 1, 1) := by decide +kernel
theorem dX12_scream_1 : decode cX12_scream 1 = .ok (.iconst 0, 1) := by decide +kernel
theorem dX12_scream_2 : decode cX12_scream 2 = .ok (.iconst 1, 1) := by decide +kernel
theorem dX12_scream_3 : decode cX12_scream 3 = .ok (.invokestatic 104, 3) := by decide +kernel
theorem dX12_scream_6 : decode cX12_scream 6 = .ok (.ifCond .eq 11, 3) := by decide +kernel
theorem dX12_scream_9 : decode cX12_scream 9 = .ok (.aload_n 0, 1) := by decide +kernel
theorem dX12_scream_10 : decode cX12_scream 10 = .ok (.iload_n 1, 1) := by decide +kernel
theorem dX12_scream_11 : decode cX12_scream 11 = .ok (.invokevirtual 209, 3) := by decide +kernel
theorem dX12_scream_14 : decode cX12_scream 14 = .ok (.goto 5, 3) := by decide +kernel
theorem dX12_scream_17 : decode cX12_scream 17 = .ok (.bipush (-2), 2) := by decide +kernel
theorem dX12_scream_19 : decode cX12_scream 19 = .ok (.ireturn, 1) := by decide +kernel
theorem dX12_chordOf_0 : decode cX12_chordOf 0 = .ok (.aload_n 0, 1) := by decide +kernel
theorem dX12_chordOf_1 : decode cX12_chordOf 1 = .ok (.invokevirtual 190, 3) := by decide +kernel
theorem dX12_chordOf_4 : decode cX12_chordOf 4 = .ok (.iconst 0, 1) := by decide +kernel
theorem dX12_chordOf_5 : decode cX12_chordOf 5 = .ok (.istore_n 3, 1) := by decide +kernel
theorem dX12_chordOf_6 : decode cX12_chordOf 6 = .ok (.iload_n 3, 1) := by decide +kernel
theorem dX12_chordOf_7 : decode cX12_chordOf 7 = .ok (.bipush 30, 2) := by decide +kernel
theorem dX12_chordOf_9 : decode cX12_chordOf 9 = .ok (.if_icmp .ge 16, 3) := by decide +kernel
theorem dX12_chordOf_12 : decode cX12_chordOf 12 = .ok (.aload_n 0, 1) := by decide +kernel
theorem dX12_chordOf_13 : decode cX12_chordOf 13 = .ok (.getfield 55, 3) := by decide +kernel
theorem dX12_chordOf_16 : decode cX12_chordOf 16 = .ok (.iload_n 3, 1) := by decide +kernel
theorem dX12_chordOf_17 : decode cX12_chordOf 17 = .ok (.iconst 0, 1) := by decide +kernel
theorem dX12_chordOf_18 : decode cX12_chordOf 18 = .ok (.iastore, 1) := by decide +kernel
theorem dX12_chordOf_19 : decode cX12_chordOf 19 = .ok (.iinc 3 1, 3) := by decide +kernel
theorem dX12_chordOf_22 : decode cX12_chordOf 22 = .ok (.goto (-16), 3) := by decide +kernel
theorem dX12_chordOf_25 : decode cX12_chordOf 25 = .ok (.iconst 0, 1) := by decide +kernel
theorem dX12_chordOf_26 : decode cX12_chordOf 26 = .ok (.istore_n 3, 1) := by decide +kernel
theorem dX12_chordOf_27 : decode cX12_chordOf 27 = .ok (.iload_n 3, 1) := by decide +kernel
theorem dX12_chordOf_28 : decode cX12_chordOf 28 = .ok (.aload_n 0, 1) := by decide +kernel
theorem dX12_chordOf_29 : decode cX12_chordOf 29 = .ok (.getfield 119, 3) := by decide +kernel
theorem dX12_chordOf_32 : decode cX12_chordOf 32 = .ok (.if_icmp .ge 56, 3) := by decide +kernel
theorem dX12_chordOf_35 : decode cX12_chordOf 35 = .ok (.aload_n 0, 1) := by decide +kernel
theorem dX12_chordOf_36 : decode cX12_chordOf 36 = .ok (.iload_n 3, 1) := by decide +kernel
theorem dX12_chordOf_37 : decode cX12_chordOf 37 = .ok (.invokevirtual 193, 3) := by decide +kernel
theorem dX12_chordOf_40 : decode cX12_chordOf 40 = .ok (.iconst 0, 1) := by decide +kernel
theorem dX12_chordOf_41 : decode cX12_chordOf 41 = .ok (.istore 4, 2) := by decide +kernel
theorem dX12_chordOf_43 : decode cX12_chordOf 43 = .ok (.iload 4, 2) := by decide +kernel
theorem dX12_chordOf_45 : decode cX12_chordOf 45 = .ok (.bipush 30, 2) := by decide +kernel
theorem dX12_chordOf_47 : decode cX12_chordOf 47 = .ok (.if_icmp .ge 35, 3) := by decide +kernel
theorem dX12_chordOf_50 : decode cX12_chordOf 50 = .ok (.aload_n 0, 1) := by decide +kernel
theorem dX12_chordOf_51 : decode cX12_chordOf 51 = .ok (.getfield 55, 3) := by decide +kernel
theorem dX12_chordOf_54 : decode cX12_chordOf 54 = .ok (.iload 4, 2) := by decide +kernel
theorem dX12_chordOf_56 : decode cX12_chordOf 56 = .ok (.dup2, 1) := by decide +kernel
theorem dX12_chordOf_57 : decode cX12_chordOf 57 = .ok (.iaload, 1) := by decide +kernel
theorem dX12_chordOf_58 : decode cX12_chordOf 58 = .ok (.aload_n 0, 1) := by decide +kernel
theorem dX12_chordOf_59 : decode cX12_chordOf 59 = .ok (.getfield 49, 3) := by decide +kernel
theorem dX12_chordOf_62 : decode cX12_chordOf 62 = .ok (.iload 4, 2) := by decide +kernel
theorem dX12_chordOf_64 : decode cX12_chordOf 64 = .ok (.iaload, 1) := by decide +kernel
theorem dX12_chordOf_65 : decode cX12_chordOf 65 = .ok (.iload_n 1, 1) := by decide +kernel
theorem dX12_chordOf_66 : decode cX12_chordOf 66 = .ok (.if_icmp .ne 7, 3) := by decide +kernel
theorem dX12_chordOf_69 : decode cX12_chordOf 69 = .ok (.iconst 1, 1) := by decide +kernel
theorem dX12_chordOf_70 : decode cX12_chordOf 70 = .ok (.goto 4, 3) := by decide +kernel
theorem dX12_chordOf_73 : decode cX12_chordOf 73 = .ok (.iconst 0, 1) := by decide +kernel
theorem dX12_chordOf_74 : decode cX12_chordOf 74 = .ok (.iadd, 1) := by decide +kernel
theorem dX12_chordOf_75 : decode cX12_chordOf 75 = .ok (.iastore, 1) := by decide +kernel
theorem dX12_chordOf_76 : decode cX12_chordOf 76 = .ok (.iinc 4 1, 3) := by decide +kernel
theorem dX12_chordOf_79 : decode cX12_chordOf 79 = .ok (.goto (-36), 3) := by decide +kernel
theorem dX12_chordOf_82 : decode cX12_chordOf 82 = .ok (.iinc 3 1, 3) := by decide +kernel
theorem dX12_chordOf_85 : decode cX12_chordOf 85 = .ok (.goto (-58), 3) := by decide +kernel
theorem dX12_chordOf_88 : decode cX12_chordOf 88 = .ok (.iconst (-1), 1) := by decide +kernel
theorem dX12_chordOf_89 : decode cX12_chordOf 89 = .ok (.istore_n 3, 1) := by decide +kernel
theorem dX12_chordOf_90 : decode cX12_chordOf 90 = .ok (.iconst 0, 1) := by decide +kernel
theorem dX12_chordOf_91 : decode cX12_chordOf 91 = .ok (.istore 4, 2) := by decide +kernel
theorem dX12_chordOf_93 : decode cX12_chordOf 93 = .ok (.iconst 0, 1) := by decide +kernel
theorem dX12_chordOf_94 : decode cX12_chordOf 94 = .ok (.istore 5, 2) := by decide +kernel
theorem dX12_chordOf_96 : decode cX12_chordOf 96 = .ok (.iload 5, 2) := by decide +kernel
theorem dX12_chordOf_98 : decode cX12_chordOf 98 = .ok (.bipush 30, 2) := by decide +kernel
theorem dX12_chordOf_100 : decode cX12_chordOf 100 = .ok (.if_icmp .ge 54, 3) := by decide +kernel
theorem dX12_chordOf_103 : decode cX12_chordOf 103 = .ok (.aload_n 0, 1) := by decide +kernel
theorem dX12_chordOf_104 : decode cX12_chordOf 104 = .ok (.getfield 55, 3) := by decide +kernel
theorem dX12_chordOf_107 : decode cX12_chordOf 107 = .ok (.iload 5, 2) := by decide +kernel
theorem dX12_chordOf_109 : decode cX12_chordOf 109 = .ok (.iaload, 1) := by decide +kernel
theorem dX12_chordOf_110 : decode cX12_chordOf 110 = .ok (.iload 4, 2) := by decide +kernel
theorem dX12_chordOf_112 : decode cX12_chordOf 112 = .ok (.if_icmp .le 8, 3) := by decide +kernel
theorem dX12_chordOf_115 : decode cX12_chordOf 115 = .ok (.iload 5, 2) := by decide +kernel
theorem dX12_chordOf_117 : decode cX12_chordOf 117 = .ok (.goto 4, 3) := by decide +kernel
theorem dX12_chordOf_120 : decode cX12_chordOf 120 = .ok (.iload_n 3, 1) := by decide +kernel
theorem dX12_chordOf_121 : decode cX12_chordOf 121 = .ok (.istore_n 3, 1) := by decide +kernel
theorem dX12_chordOf_122 : decode cX12_chordOf 122 = .ok (.aload_n 0, 1) := by decide +kernel
theorem dX12_chordOf_123 : decode cX12_chordOf 123 = .ok (.getfield 55, 3) := by decide +kernel
theorem dX12_chordOf_126 : decode cX12_chordOf 126 = .ok (.iload 5, 2) := by decide +kernel
theorem dX12_chordOf_128 : decode cX12_chordOf 128 = .ok (.iaload, 1) := by decide +kernel
theorem dX12_chordOf_129 : decode cX12_chordOf 129 = .ok (.iload 4, 2) := by decide +kernel
theorem dX12_chordOf_131 : decode cX12_chordOf 131 = .ok (.if_icmp .le 13, 3) := by decide +kernel
theorem dX12_chordOf_134 : decode cX12_chordOf 134 = .ok (.aload_n 0, 1) := by decide +kernel
theorem dX12_chordOf_135 : decode cX12_chordOf 135 = .ok (.getfield 55, 3) := by decide +kernel
theorem dX12_chordOf_138 : decode cX12_chordOf 138 = .ok (.iload 5, 2) := by decide +kernel
theorem dX12_chordOf_140 : decode cX12_chordOf 140 = .ok (.iaload, 1) := by decide +kernel
theorem dX12_chordOf_141 : decode cX12_chordOf 141 = .ok (.goto 5, 3) := by decide +kernel
theorem dX12_chordOf_144 : decode cX12_chordOf 144 = .ok (.iload 4, 2) := by decide +kernel
theorem dX12_chordOf_146 : decode cX12_chordOf 146 = .ok (.istore 4, 2) := by decide +kernel
theorem dX12_chordOf_148 : decode cX12_chordOf 148 = .ok (.iinc 5 1, 3) := by decide +kernel
theorem dX12_chordOf_151 : decode cX12_chordOf 151 = .ok (.goto (-55), 3) := by decide +kernel
theorem dX12_chordOf_154 : decode cX12_chordOf 154 = .ok (.iload_n 3, 1) := by decide +kernel
theorem dX12_chordOf_155 : decode cX12_chordOf 155 = .ok (.iconst (-1), 1) := by decide +kernel
theorem dX12_chordOf_156 : decode cX12_chordOf 156 = .ok (.if_icmp .eq 7, 3) := by decide +kernel
theorem dX12_chordOf_159 : decode cX12_chordOf 159 = .ok (.iload_n 2, 1) := by decide +kernel
theorem dX12_chordOf_160 : decode cX12_chordOf 160 = .ok (.ifCond .ne 7, 3) := by decide +kernel
theorem dX12_chordOf_163 : decode cX12_chordOf 163 = .ok (.iload_n 3, 1) := by decide +kernel
theorem dX12_chordOf_164 : decode cX12_chordOf 164 = .ok (.goto 5, 3) := by decide +kernel
theorem dX12_chordOf_167 : decode cX12_chordOf 167 = .ok (.iload 4, 2) := by decide +kernel
theorem dX12_chordOf_169 : decode cX12_chordOf 169 = .ok (.ireturn, 1) := by decide +kernel
theorem dX12_chord_0 : decode cX12_chord 0 = .ok (.iload_n 1, 1) := by decide +kernel
theorem dX12_chord_1 : decode cX12_chord 1 = .ok (.iconst 0, 1) := by decide +kernel
theorem dX12_chord_2 : decode cX12_chord 2 = .ok (.bipush 7, 2) := by decide +kernel
theorem dX12_chord_4 : decode cX12_chord 4 = .ok (.invokestatic 104, 3) := by decide +kernel
theorem dX12_chord_7 : decode cX12_chord 7 = .ok (.ifCond .eq 21, 3) := by decide +kernel
theorem dX12_chord_10 : decode cX12_chord 10 = .ok (.iload_n 2, 1) := by decide +kernel
theorem dX12_chord_11 : decode cX12_chord 11 = .ok (.iconst 0, 1) := by decide +kernel
theorem dX12_chord_12 : decode cX12_chord 12 = .ok (.iconst 1, 1) := by decide +kernel
theorem dX12_chord_13 : decode cX12_chord 13 = .ok (.invokestatic 104, 3) := by decide +kernel
theorem dX12_chord_16 : decode cX12_chord 16 = .ok (.ifCond .eq 12, 3) := by decide +kernel
theorem dX12_chord_19 : decode cX12_chord 19 = .ok (.aload_n 0, 1) := by decide +kernel
theorem dX12_chord_20 : decode cX12_chord 20 = .ok (.iload_n 1, 1) := by decide +kernel
theorem dX12_chord_21 : decode cX12_chord 21 = .ok (.iload_n 2, 1) := by decide +kernel
theorem dX12_chord_22 : decode cX12_chord 22 = .ok (.invokevirtual 212, 3) := by decide +kernel
theorem dX12_chord_25 : decode cX12_chord 25 = .ok (.goto 5, 3) := by decide +kernel
theorem dX12_chord_28 : decode cX12_chord 28 = .ok (.bipush (-2), 2) := by decide +kernel
theorem dX12_chord_30 : decode cX12_chord 30 = .ok (.ireturn, 1) := by decide +kernel
theorem dX12_hushNow_0 : decode cX12_hushNow 0 = .ok (.aload_n 0, 1) := by decide +kernel
theorem dX12_hushNow_1 : decode cX12_hushNow 1 = .ok (.invokevirtual 190, 3) := by decide +kernel
theorem dX12_hushNow_4 : decode cX12_hushNow 4 = .ok (.ldc 215, 2) := by decide +kernel
theorem dX12_hushNow_6 : decode cX12_hushNow 6 = .ok (.istore_n 1, 1) := by decide +kernel
theorem dX12_hushNow_7 : decode cX12_hushNow 7 = .ok (.iconst 0, 1) := by decide +kernel
theorem dX12_hushNow_8 : decode cX12_hushNow 8 = .ok (.istore_n 2, 1) := by decide +kernel
theorem dX12_hushNow_9 : decode cX12_hushNow 9 = .ok (.iload_n 2, 1) := by decide +kernel
theorem dX12_hushNow_10 : decode cX12_hushNow 10 = .ok (.aload_n 0, 1) := by decide +kernel
theorem dX12_hushNow_11 : decode cX12_hushNow 11 = .ok (.getfield 119, 3) := by decide +kernel
theorem dX12_hushNow_14 : decode cX12_hushNow 14 = .ok (.if_icmp .ge 50, 3) := by decide +kernel
theorem dX12_hushNow_17 : decode cX12_hushNow 17 = .ok (.aload_n 0, 1) := by decide +kernel
theorem dX12_hushNow_18 : decode cX12_hushNow 18 = .ok (.iload_n 2, 1) := by decide +kernel
theorem dX12_hushNow_19 : decode cX12_hushNow 19 = .ok (.invokevirtual 193, 3) := by decide +kernel
theorem dX12_hushNow_22 : decode cX12_hushNow 22 = .ok (.iconst 0, 1) := by decide +kernel
theorem dX12_hushNow_23 : decode cX12_hushNow 23 = .ok (.istore_n 3, 1) := by decide +kernel
theorem dX12_hushNow_24 : decode cX12_hushNow 24 = .ok (.iload_n 3, 1) := by decide +kernel
theorem dX12_hushNow_25 : decode cX12_hushNow 25 = .ok (.bipush 30, 2) := by decide +kernel
theorem dX12_hushNow_27 : decode cX12_hushNow 27 = .ok (.if_icmp .ge 31, 3) := by decide +kernel
theorem dX12_hushNow_30 : decode cX12_hushNow 30 = .ok (.iload_n 1, 1) := by decide +kernel
theorem dX12_hushNow_31 : decode cX12_hushNow 31 = .ok (.aload_n 0, 1) := by decide +kernel
theorem dX12_hushNow_32 : decode cX12_hushNow 32 = .ok (.getfield 49, 3) := by decide +kernel
theorem dX12_hushNow_35 : decode cX12_hushNow 35 = .ok (.iload_n 3, 1) := by decide +kernel
theorem dX12_hushNow_36 : decode cX12_hushNow 36 = .ok (.iaload, 1) := by decide +kernel
theorem dX12_hushNow_37 : decode cX12_hushNow 37 = .ok (.iconst (-1), 1) := by decide +kernel
theorem dX12_hushNow_38 : decode cX12_hushNow 38 = .ok (.if_icmp .eq 11, 3) := by decide +kernel
theorem dX12_hushNow_41 : decode cX12_hushNow 41 = .ok (.iconst 1, 1) := by decide +kernel
theorem dX12_hushNow_42 : decode cX12_hushNow 42 = .ok (.iload_n 3, 1) := by decide +kernel
theorem dX12_hushNow_43 : decode cX12_hushNow 43 = .ok (.ishl, 1) := by decide +kernel
theorem dX12_hushNow_44 : decode cX12_hushNow 44 = .ok (.iconst (-1), 1) := by decide +kernel
theorem dX12_hushNow_45 : decode cX12_hushNow 45 = .ok (.ixor, 1) := by decide +kernel
theorem dX12_hushNow_46 : decode cX12_hushNow 46 = .ok (.goto 4, 3) := by decide +kernel
theorem dX12_hushNow_49 : decode cX12_hushNow 49 = .ok (.iconst (-1), 1) := by decide +kernel
theorem dX12_hushNow_50 : decode cX12_hushNow 50 = .ok (.iand, 1) := by decide +kernel
theorem dX12_hushNow_51 : decode cX12_hushNow 51 = .ok (.istore_n 1, 1) := by decide +kernel
theorem dX12_hushNow_52 : decode cX12_hushNow 52 = .ok (.iinc 3 1, 3) := by decide +kernel
theorem dX12_hushNow_55 : decode cX12_hushNow 55 = .ok (.goto (-31), 3) := by decide +kernel
theorem dX12_hushNow_58 : decode cX12_hushNow 58 = .ok (.iinc 2 1, 3) := by decide +kernel
theorem dX12_hushNow_61 : decode cX12_hushNow 61 = .ok (.goto (-52), 3) := by decide +kernel
theorem dX12_hushNow_64 : decode cX12_hushNow 64 = .ok (.iload_n 1, 1) := by decide +kernel
theorem dX12_hushNow_65 : decode cX12_hushNow 65 = .ok (.ireturn, 1) := by decide +kernel
theorem dX12_hush_0 : decode cX12_hush 0 = .ok (.aload_n 0, 1) := by decide +kernel
theorem dX12_hush_1 : decode cX12_hush 1 = .ok (.invokevirtual 216, 3) := by decide +kernel
theorem dX12_hush_4 : decode cX12_hush 4 = .ok (.ireturn, 1) := by decide +kernel
theorem dX12_isRipe_0 : decode cX12_isRipe 0 = .ok (.aload_n 0, 1) := by decide +kernel
theorem dX12_isRipe_1 : decode cX12_isRipe 1 = .ok (.iload_n 1, 1) := by decide +kernel
theorem dX12_isRipe_2 : decode cX12_isRipe 2 = .ok (.iconst 0, 1) := by decide +kernel
theorem dX12_isRipe_3 : decode cX12_isRipe 3 = .ok (.invokevirtual 182, 3) := by decide +kernel
theorem dX12_isRipe_6 : decode cX12_isRipe 6 = .ok (.aload_n 0, 1) := by decide +kernel
theorem dX12_isRipe_7 : decode cX12_isRipe 7 = .ok (.dup, 1) := by decide +kernel
theorem dX12_isRipe_8 : decode cX12_isRipe 8 = .ok (.getfield 169, 3) := by decide +kernel
theorem dX12_isRipe_11 : decode cX12_isRipe 11 = .ok (.iload_n 3, 1) := by decide +kernel
theorem dX12_isRipe_12 : decode cX12_isRipe 12 = .ok (.ior, 1) := by decide +kernel
theorem dX12_isRipe_13 : decode cX12_isRipe 13 = .ok (.putfield 169, 3) := by decide +kernel
theorem dX12_isRipe_16 : decode cX12_isRipe 16 = .ok (.aload_n 0, 1) := by decide +kernel
theorem dX12_isRipe_17 : decode cX12_isRipe 17 = .ok (.iload_n 1, 1) := by decide +kernel
theorem dX12_isRipe_18 : decode cX12_isRipe 18 = .ok (.invokevirtual 186, 3) := by decide +kernel
theorem dX12_isRipe_21 : decode cX12_isRipe 21 = .ok (.aload_n 0, 1) := by decide +kernel
theorem dX12_isRipe_22 : decode cX12_isRipe 22 = .ok (.getfield 49, 3) := by decide +kernel
theorem dX12_isRipe_25 : decode cX12_isRipe 25 = .ok (.iload_n 2, 1) := by decide +kernel
theorem dX12_isRipe_26 : decode cX12_isRipe 26 = .ok (.iaload, 1) := by decide +kernel
theorem dX12_isRipe_27 : decode cX12_isRipe 27 = .ok (.iconst (-1), 1) := by decide +kernel
theorem dX12_isRipe_28 : decode cX12_isRipe 28 = .ok (.if_icmp .eq 29, 3) := by decide +kernel
theorem dX12_isRipe_31 : decode cX12_isRipe 31 = .ok (.aload_n 0, 1) := by decide +kernel
theorem dX12_isRipe_32 : decode cX12_isRipe 32 = .ok (.getfield 46, 3) := by decide +kernel
theorem dX12_isRipe_35 : decode cX12_isRipe 35 = .ok (.iload_n 2, 1) := by decide +kernel
theorem dX12_isRipe_36 : decode cX12_isRipe 36 = .ok (.iaload, 1) := by decide +kernel
theorem dX12_isRipe_37 : decode cX12_isRipe 37 = .ok (.aload_n 0, 1) := by decide +kernel
theorem dX12_isRipe_38 : decode cX12_isRipe 38 = .ok (.getfield 95, 3) := by decide +kernel
theorem dX12_isRipe_41 : decode cX12_isRipe 41 = .ok (.idiv, 1) := by decide +kernel
theorem dX12_isRipe_42 : decode cX12_isRipe 42 = .ok (.aload_n 0, 1) := by decide +kernel
theorem dX12_isRipe_43 : decode cX12_isRipe 43 = .ok (.getfield 22, 3) := by decide +kernel
theorem dX12_isRipe_46 : decode cX12_isRipe 46 = .ok (.iload_n 1, 1) := by decide +kernel
theorem dX12_isRipe_47 : decode cX12_isRipe 47 = .ok (.iaload, 1) := by decide +kernel
theorem dX12_isRipe_48 : decode cX12_isRipe 48 = .ok (.iconst 1, 1) := by decide +kernel
theorem dX12_isRipe_49 : decode cX12_isRipe 49 = .ok (.isub, 1) := by decide +kernel
theorem dX12_isRipe_50 : decode cX12_isRipe 50 = .ok (.if_icmp .ne 7, 3) := by decide +kernel
theorem dX12_isRipe_53 : decode cX12_isRipe 53 = .ok (.iconst 1, 1) := by decide +kernel
theorem dX12_isRipe_54 : decode cX12_isRipe 54 = .ok (.goto 4, 3) := by decide +kernel
theorem dX12_isRipe_57 : decode cX12_isRipe 57 = .ok (.iconst 0, 1) := by decide +kernel
theorem dX12_isRipe_58 : decode cX12_isRipe 58 = .ok (.ireturn, 1) := by decide +kernel
theorem dX12_ripeBy_0 : decode cX12_ripeBy 0 = .ok (.aload_n 0, 1) := by decide +kernel
theorem dX12_ripeBy_1 : decode cX12_ripeBy 1 = .ok (.invokevirtual 190, 3) := by decide +kernel
theorem dX12_ripeBy_4 : decode cX12_ripeBy 4 = .ok (.aload_n 0, 1) := by decide +kernel
theorem dX12_ripeBy_5 : decode cX12_ripeBy 5 = .ok (.iload_n 1, 1) := by decide +kernel
theorem dX12_ripeBy_6 : decode cX12_ripeBy 6 = .ok (.iload_n 2, 1) := by decide +kernel
theorem dX12_ripeBy_7 : decode cX12_ripeBy 7 = .ok (.iconst 0, 1) := by decide +kernel
theorem dX12_ripeBy_8 : decode cX12_ripeBy 8 = .ok (.invokevirtual 219, 3) := by decide +kernel
theorem dX12_ripeBy_11 : decode cX12_ripeBy 11 = .ok (.ifCond .eq 5, 3) := by decide +kernel
theorem dX12_ripeBy_14 : decode cX12_ripeBy 14 = .ok (.iconst 0, 1) := by decide +kernel
theorem dX12_ripeBy_15 : decode cX12_ripeBy 15 = .ok (.ireturn, 1) := by decide +kernel
theorem dX12_ripeBy_16 : decode cX12_ripeBy 16 = .ok (.iconst 0, 1) := by decide +kernel
theorem dX12_ripeBy_17 : decode cX12_ripeBy 17 = .ok (.istore_n 3, 1) := by decide +kernel
theorem dX12_ripeBy_18 : decode cX12_ripeBy 18 = .ok (.iload_n 3, 1) := by decide +kernel
theorem dX12_ripeBy_19 : decode cX12_ripeBy 19 = .ok (.bipush 30, 2) := by decide +kernel
theorem dX12_ripeBy_21 : decode cX12_ripeBy 21 = .ok (.if_icmp .ge 30, 3) := by decide +kernel
theorem dX12_ripeBy_24 : decode cX12_ripeBy 24 = .ok (.aload_n 0, 1) := by decide +kernel
theorem dX12_ripeBy_25 : decode cX12_ripeBy 25 = .ok (.getfield 58, 3) := by decide +kernel
theorem dX12_ripeBy_28 : decode cX12_ripeBy 28 = .ok (.iconst 0, 1) := by decide +kernel
theorem dX12_ripeBy_29 : decode cX12_ripeBy 29 = .ok (.iload_n 3, 1) := by decide +kernel
theorem dX12_ripeBy_30 : decode cX12_ripeBy 30 = .ok (.iastore, 1) := by decide +kernel
theorem dX12_ripeBy_31 : decode cX12_ripeBy 31 = .ok (.aload_n 0, 1) := by decide +kernel
theorem dX12_ripeBy_32 : decode cX12_ripeBy 32 = .ok (.iload_n 1, 1) := by decide +kernel
theorem dX12_ripeBy_33 : decode cX12_ripeBy 33 = .ok (.iload_n 2, 1) := by decide +kernel
theorem dX12_ripeBy_34 : decode cX12_ripeBy 34 = .ok (.iconst 1, 1) := by decide +kernel
theorem dX12_ripeBy_35 : decode cX12_ripeBy 35 = .ok (.iload_n 3, 1) := by decide +kernel
theorem dX12_ripeBy_36 : decode cX12_ripeBy 36 = .ok (.ishl, 1) := by decide +kernel
theorem dX12_ripeBy_37 : decode cX12_ripeBy 37 = .ok (.invokevirtual 219, 3) := by decide +kernel
theorem dX12_ripeBy_40 : decode cX12_ripeBy 40 = .ok (.ifCond .eq 5, 3) := by decide +kernel
theorem dX12_ripeBy_43 : decode cX12_ripeBy 43 = .ok (.iconst 1, 1) := by decide +kernel
theorem dX12_ripeBy_44 : decode cX12_ripeBy 44 = .ok (.ireturn, 1) := by decide +kernel
theorem dX12_ripeBy_45 : decode cX12_ripeBy 45 = .ok (.iinc 3 1, 3) := by decide +kernel
theorem dX12_ripeBy_48 : decode cX12_ripeBy 48 = .ok (.goto (-30), 3) := by decide +kernel
theorem dX12_ripeBy_51 : decode cX12_ripeBy 51 = .ok (.iconst 0, 1) := by decide +kernel
theorem dX12_ripeBy_52 : decode cX12_ripeBy 52 = .ok (.istore_n 3, 1) := by decide +kernel
theorem dX12_ripeBy_53 : decode cX12_ripeBy 53 = .ok (.iload_n 3, 1) := by decide +kernel
theorem dX12_ripeBy_54 : decode cX12_ripeBy 54 = .ok (.bipush 30, 2) := by decide +kernel
theorem dX12_ripeBy_56 : decode cX12_ripeBy 56 = .ok (.if_icmp .ge 61, 3) := by decide +kernel
theorem dX12_ripeBy_59 : decode cX12_ripeBy 59 = .ok (.iload_n 3, 1) := by decide +kernel
theorem dX12_ripeBy_60 : decode cX12_ripeBy 60 = .ok (.iconst 1, 1) := by decide +kernel
theorem dX12_ripeBy_61 : decode cX12_ripeBy 61 = .ok (.iadd, 1) := by decide +kernel
theorem dX12_ripeBy_62 : decode cX12_ripeBy 62 = .ok (.istore 4, 2) := by decide +kernel
theorem dX12_ripeBy_64 : decode cX12_ripeBy 64 = .ok (.iload 4, 2) := by decide +kernel
theorem dX12_ripeBy_66 : decode cX12_ripeBy 66 = .ok (.bipush 30, 2) := by decide +kernel
theorem dX12_ripeBy_68 : decode cX12_ripeBy 68 = .ok (.if_icmp .ge 43, 3) := by decide +kernel
theorem dX12_ripeBy_71 : decode cX12_ripeBy 71 = .ok (.aload_n 0, 1) := by decide +kernel
theorem dX12_ripeBy_72 : decode cX12_ripeBy 72 = .ok (.getfield 58, 3) := by decide +kernel
theorem dX12_ripeBy_75 : decode cX12_ripeBy 75 = .ok (.iconst 0, 1) := by decide +kernel
theorem dX12_ripeBy_76 : decode cX12_ripeBy 76 = .ok (.iload_n 3, 1) := by decide +kernel
theorem dX12_ripeBy_77 : decode cX12_ripeBy 77 = .ok (.iastore, 1) := by decide +kernel
theorem dX12_ripeBy_78 : decode cX12_ripeBy 78 = .ok (.aload_n 0, 1) := by decide +kernel
theorem dX12_ripeBy_79 : decode cX12_ripeBy 79 = .ok (.getfield 58, 3) := by decide +kernel
theorem dX12_ripeBy_82 : decode cX12_ripeBy 82 = .ok (.iconst 1, 1) := by decide +kernel
theorem dX12_ripeBy_83 : decode cX12_ripeBy 83 = .ok (.iload 4, 2) := by decide +kernel
theorem dX12_ripeBy_85 : decode cX12_ripeBy 85 = .ok (.iastore, 1) := by decide +kernel
theorem dX12_ripeBy_86 : decode cX12_ripeBy 86 = .ok (.aload_n 0, 1) := by decide +kernel
theorem dX12_ripeBy_87 : decode cX12_ripeBy 87 = .ok (.iload_n 1, 1) := by decide +kernel
theorem dX12_ripeBy_88 : decode cX12_ripeBy 88 = .ok (.iload_n 2, 1) := by decide +kernel
theorem dX12_ripeBy_89 : decode cX12_ripeBy 89 = .ok (.iconst 1, 1) := by decide +kernel
theorem dX12_ripeBy_90 : decode cX12_ripeBy 90 = .ok (.iload_n 3, 1) := by decide +kernel
theorem dX12_ripeBy_91 : decode cX12_ripeBy 91 = .ok (.ishl, 1) := by decide +kernel
theorem dX12_ripeBy_92 : decode cX12_ripeBy 92 = .ok (.iconst 1, 1) := by decide +kernel
theorem dX12_ripeBy_93 : decode cX12_ripeBy 93 = .ok (.iload 4, 2) := by decide +kernel
theorem dX12_ripeBy_95 : decode cX12_ripeBy 95 = .ok (.ishl, 1) := by decide +kernel
theorem dX12_ripeBy_96 : decode cX12_ripeBy 96 = .ok (.ior, 1) := by decide +kernel
theorem dX12_ripeBy_97 : decode cX12_ripeBy 97 = .ok (.invokevirtual 219, 3) := by decide +kernel
theorem dX12_ripeBy_100 : decode cX12_ripeBy 100 = .ok (.ifCond .eq 5, 3) := by decide +kernel
theorem dX12_ripeBy_103 : decode cX12_ripeBy 103 = .ok (.iconst 2, 1) := by decide +kernel
theorem dX12_ripeBy_104 : decode cX12_ripeBy 104 = .ok (.ireturn, 1) := by decide +kernel
theorem dX12_ripeBy_105 : decode cX12_ripeBy 105 = .ok (.iinc 4 1, 3) := by decide +kernel
theorem dX12_ripeBy_108 : decode cX12_ripeBy 108 = .ok (.goto (-44), 3) := by decide +kernel
theorem dX12_ripeBy_111 : decode cX12_ripeBy 111 = .ok (.iinc 3 1, 3) := by decide +kernel
theorem dX12_ripeBy_114 : decode cX12_ripeBy 114 = .ok (.goto (-61), 3) := by decide +kernel
theorem dX12_ripeBy_117 : decode cX12_ripeBy 117 = .ok (.iconst (-1), 1) := by decide +kernel
theorem dX12_ripeBy_118 : decode cX12_ripeBy 118 = .ok (.ireturn, 1) := by decide +kernel
theorem dX12_ofRow_0 : decode cX12_ofRow 0 = .ok (.iload_n 2, 1) := by decide +kernel
theorem dX12_ofRow_1 : decode cX12_ofRow 1 = .ok (.iconst (-1), 1) := by decide +kernel
theorem dX12_ofRow_2 : decode cX12_ofRow 2 = .ok (.if_icmp .ne 7, 3) := by decide +kernel
theorem dX12_ofRow_5 : decode cX12_ofRow 5 = .ok (.iload_n 1, 1) := by decide +kernel
theorem dX12_ofRow_6 : decode cX12_ofRow 6 = .ok (.goto 18, 3) := by decide +kernel
theorem dX12_ofRow_9 : decode cX12_ofRow 9 = .ok (.iload_n 2, 1) := by decide +kernel
theorem dX12_ofRow_10 : decode cX12_ofRow 10 = .ok (.iload_n 1, 1) := by decide +kernel
theorem dX12_ofRow_11 : decode cX12_ofRow 11 = .ok (.if_icmp .ge 12, 3) := by decide +kernel
theorem dX12_ofRow_14 : decode cX12_ofRow 14 = .ok (.aload_n 0, 1) := by decide +kernel
theorem dX12_ofRow_15 : decode cX12_ofRow 15 = .ok (.getfield 58, 3) := by decide +kernel
theorem dX12_ofRow_18 : decode cX12_ofRow 18 = .ok (.iload_n 2, 1) := by decide +kernel
theorem dX12_ofRow_19 : decode cX12_ofRow 19 = .ok (.iaload, 1) := by decide +kernel
theorem dX12_ofRow_20 : decode cX12_ofRow 20 = .ok (.goto 4, 3) := by decide +kernel
theorem dX12_ofRow_23 : decode cX12_ofRow 23 = .ok (.iconst (-1), 1) := by decide +kernel
theorem dX12_ofRow_24 : decode cX12_ofRow 24 = .ok (.ireturn, 1) := by decide +kernel
theorem dX12_ripe_0 : decode cX12_ripe 0 = .ok (.aload_n 0, 1) := by decide +kernel
theorem dX12_ripe_1 : decode cX12_ripe 1 = .ok (.iload_n 1, 1) := by decide +kernel
theorem dX12_ripe_2 : decode cX12_ripe 2 = .ok (.invokevirtual 142, 3) := by decide +kernel
theorem dX12_ripe_5 : decode cX12_ripe 5 = .ok (.ifCond .eq 33, 3) := by decide +kernel
theorem dX12_ripe_8 : decode cX12_ripe 8 = .ok (.iload_n 2, 1) := by decide +kernel
theorem dX12_ripe_9 : decode cX12_ripe 9 = .ok (.invokestatic 148, 3) := by decide +kernel
theorem dX12_ripe_12 : decode cX12_ripe 12 = .ok (.ifCond .eq 26, 3) := by decide +kernel
theorem dX12_ripe_15 : decode cX12_ripe 15 = .ok (.iload_n 3, 1) := by decide +kernel
theorem dX12_ripe_16 : decode cX12_ripe 16 = .ok (.iconst (-1), 1) := by decide +kernel
theorem dX12_ripe_17 : decode cX12_ripe 17 = .ok (.iconst 1, 1) := by decide +kernel
theorem dX12_ripe_18 : decode cX12_ripe 18 = .ok (.invokestatic 104, 3) := by decide +kernel
theorem dX12_ripe_21 : decode cX12_ripe 21 = .ok (.ifCond .eq 17, 3) := by decide +kernel
theorem dX12_ripe_24 : decode cX12_ripe 24 = .ok (.aload_n 0, 1) := by decide +kernel
theorem dX12_ripe_25 : decode cX12_ripe 25 = .ok (.aload_n 0, 1) := by decide +kernel
theorem dX12_ripe_26 : decode cX12_ripe 26 = .ok (.iload_n 1, 1) := by decide +kernel
theorem dX12_ripe_27 : decode cX12_ripe 27 = .ok (.iload_n 2, 1) := by decide +kernel
theorem dX12_ripe_28 : decode cX12_ripe 28 = .ok (.invokevirtual 222, 3) := by decide +kernel
theorem dX12_ripe_31 : decode cX12_ripe 31 = .ok (.iload_n 3, 1) := by decide +kernel
theorem dX12_ripe_32 : decode cX12_ripe 32 = .ok (.invokevirtual 225, 3) := by decide +kernel
theorem dX12_ripe_35 : decode cX12_ripe 35 = .ok (.goto 5, 3) := by decide +kernel
theorem dX12_ripe_38 : decode cX12_ripe 38 = .ok (.bipush (-2), 2) := by decide +kernel
theorem dX12_ripe_40 : decode cX12_ripe 40 = .ok (.ireturn, 1) := by decide +kernel
theorem dX12_coldOf_0 : decode cX12_coldOf 0 = .ok (.aload_n 0, 1) := by decide +kernel
theorem dX12_coldOf_1 : decode cX12_coldOf 1 = .ok (.invokevirtual 190, 3) := by decide +kernel
theorem dX12_coldOf_4 : decode cX12_coldOf 4 = .ok (.iconst (-1), 1) := by decide +kernel
theorem dX12_coldOf_5 : decode cX12_coldOf 5 = .ok (.istore_n 3, 1) := by decide +kernel
theorem dX12_coldOf_6 : decode cX12_coldOf 6 = .ok (.iconst (-1), 1) := by decide +kernel
theorem dX12_coldOf_7 : decode cX12_coldOf 7 = .ok (.istore 4, 2) := by decide +kernel
theorem dX12_coldOf_9 : decode cX12_coldOf 9 = .ok (.iconst 0, 1) := by decide +kernel
theorem dX12_coldOf_10 : decode cX12_coldOf 10 = .ok (.istore 5, 2) := by decide +kernel
theorem dX12_coldOf_12 : decode cX12_coldOf 12 = .ok (.iload 5, 2) := by decide +kernel
theorem dX12_coldOf_14 : decode cX12_coldOf 14 = .ok (.bipush 30, 2) := by decide +kernel
theorem dX12_coldOf_16 : decode cX12_coldOf 16 = .ok (.if_icmp .ge 72, 3) := by decide +kernel
theorem dX12_coldOf_19 : decode cX12_coldOf 19 = .ok (.aload_n 0, 1) := by decide +kernel
theorem dX12_coldOf_20 : decode cX12_coldOf 20 = .ok (.getfield 43, 3) := by decide +kernel
theorem dX12_coldOf_23 : decode cX12_coldOf 23 = .ok (.iload 5, 2) := by decide +kernel
theorem dX12_coldOf_25 : decode cX12_coldOf 25 = .ok (.iconst 0, 1) := by decide +kernel
theorem dX12_coldOf_26 : decode cX12_coldOf 26 = .ok (.iastore, 1) := by decide +kernel
theorem dX12_coldOf_27 : decode cX12_coldOf 27 = .ok (.aload_n 0, 1) := by decide +kernel
theorem dX12_coldOf_28 : decode cX12_coldOf 28 = .ok (.iload_n 1, 1) := by decide +kernel
theorem dX12_coldOf_29 : decode cX12_coldOf 29 = .ok (.invokevirtual 193, 3) := by decide +kernel
theorem dX12_coldOf_32 : decode cX12_coldOf 32 = .ok (.aload_n 0, 1) := by decide +kernel
theorem dX12_coldOf_33 : decode cX12_coldOf 33 = .ok (.getfield 43, 3) := by decide +kernel
theorem dX12_coldOf_36 : decode cX12_coldOf 36 = .ok (.iload 5, 2) := by decide +kernel
theorem dX12_coldOf_38 : decode cX12_coldOf 38 = .ok (.aload_n 0, 1) := by decide +kernel
theorem dX12_coldOf_39 : decode cX12_coldOf 39 = .ok (.getfield 28, 3) := by decide +kernel
theorem dX12_coldOf_42 : decode cX12_coldOf 42 = .ok (.iload 5, 2) := by decide +kernel
theorem dX12_coldOf_44 : decode cX12_coldOf 44 = .ok (.iaload, 1) := by decide +kernel
theorem dX12_coldOf_45 : decode cX12_coldOf 45 = .ok (.iastore, 1) := by decide +kernel
theorem dX12_coldOf_46 : decode cX12_coldOf 46 = .ok (.aload_n 0, 1) := by decide +kernel
theorem dX12_coldOf_47 : decode cX12_coldOf 47 = .ok (.invokevirtual 203, 3) := by decide +kernel
theorem dX12_coldOf_50 : decode cX12_coldOf 50 = .ok (.istore 6, 2) := by decide +kernel
theorem dX12_coldOf_52 : decode cX12_coldOf 52 = .ok (.iload 6, 2) := by decide +kernel
theorem dX12_coldOf_54 : decode cX12_coldOf 54 = .ok (.iload 4, 2) := by decide +kernel
theorem dX12_coldOf_56 : decode cX12_coldOf 56 = .ok (.if_icmp .le 8, 3) := by decide +kernel
theorem dX12_coldOf_59 : decode cX12_coldOf 59 = .ok (.iload 5, 2) := by decide +kernel
theorem dX12_coldOf_61 : decode cX12_coldOf 61 = .ok (.goto 4, 3) := by decide +kernel
theorem dX12_coldOf_64 : decode cX12_coldOf 64 = .ok (.iload_n 3, 1) := by decide +kernel
theorem dX12_coldOf_65 : decode cX12_coldOf 65 = .ok (.istore_n 3, 1) := by decide +kernel
theorem dX12_coldOf_66 : decode cX12_coldOf 66 = .ok (.iload 6, 2) := by decide +kernel
theorem dX12_coldOf_68 : decode cX12_coldOf 68 = .ok (.iload 4, 2) := by decide +kernel
theorem dX12_coldOf_70 : decode cX12_coldOf 70 = .ok (.if_icmp .le 8, 3) := by decide +kernel
theorem dX12_coldOf_73 : decode cX12_coldOf 73 = .ok (.iload 6, 2) := by decide +kernel
theorem dX12_coldOf_75 : decode cX12_coldOf 75 = .ok (.goto 5, 3) := by decide +kernel
theorem dX12_coldOf_78 : decode cX12_coldOf 78 = .ok (.iload 4, 2) := by decide +kernel
theorem dX12_coldOf_80 : decode cX12_coldOf 80 = .ok (.istore 4, 2) := by decide +kernel
theorem dX12_coldOf_82 : decode cX12_coldOf 82 = .ok (.iinc 5 1, 3) := by decide +kernel
theorem dX12_coldOf_85 : decode cX12_coldOf 85 = .ok (.goto (-73), 3) := by decide +kernel
theorem dX12_coldOf_88 : decode cX12_coldOf 88 = .ok (.iload_n 2, 1) := by decide +kernel
theorem dX12_coldOf_89 : decode cX12_coldOf 89 = .ok (.ifCond .ne 7, 3) := by decide +kernel
theorem dX12_coldOf_92 : decode cX12_coldOf 92 = .ok (.iload_n 3, 1) := by decide +kernel
theorem dX12_coldOf_93 : decode cX12_coldOf 93 = .ok (.goto 5, 3) := by decide +kernel
theorem dX12_coldOf_96 : decode cX12_coldOf 96 = .ok (.iload 4, 2) := by decide +kernel
theorem dX12_coldOf_98 : decode cX12_coldOf 98 = .ok (.ireturn, 1) := by decide +kernel
theorem dX12_cold_0 : decode cX12_cold 0 = .ok (.aload_n 0, 1) := by decide +kernel
theorem dX12_cold_1 : decode cX12_cold 1 = .ok (.iload_n 1, 1) := by decide +kernel
theorem dX12_cold_2 : decode cX12_cold 2 = .ok (.invokevirtual 142, 3) := by decide +kernel
theorem dX12_cold_5 : decode cX12_cold 5 = .ok (.ifCond .eq 21, 3) := by decide +kernel
theorem dX12_cold_8 : decode cX12_cold 8 = .ok (.iload_n 2, 1) := by decide +kernel
theorem dX12_cold_9 : decode cX12_cold 9 = .ok (.iconst 0, 1) := by decide +kernel
theorem dX12_cold_10 : decode cX12_cold 10 = .ok (.iconst 1, 1) := by decide +kernel
theorem dX12_cold_11 : decode cX12_cold 11 = .ok (.invokestatic 104, 3) := by decide +kernel
theorem dX12_cold_14 : decode cX12_cold 14 = .ok (.ifCond .eq 12, 3) := by decide +kernel
theorem dX12_cold_17 : decode cX12_cold 17 = .ok (.aload_n 0, 1) := by decide +kernel
theorem dX12_cold_18 : decode cX12_cold 18 = .ok (.iload_n 1, 1) := by decide +kernel
theorem dX12_cold_19 : decode cX12_cold 19 = .ok (.iload_n 2, 1) := by decide +kernel
theorem dX12_cold_20 : decode cX12_cold 20 = .ok (.invokevirtual 228, 3) := by decide +kernel
theorem dX12_cold_23 : decode cX12_cold 23 = .ok (.goto 5, 3) := by decide +kernel
theorem dX12_cold_26 : decode cX12_cold 26 = .ok (.bipush (-2), 2) := by decide +kernel
theorem dX12_cold_28 : decode cX12_cold 28 = .ok (.ireturn, 1) := by decide +kernel
theorem dX12_comeOf_0 : decode cX12_comeOf 0 = .ok (.aload_n 0, 1) := by decide +kernel
theorem dX12_comeOf_1 : decode cX12_comeOf 1 = .ok (.invokevirtual 190, 3) := by decide +kernel
theorem dX12_comeOf_4 : decode cX12_comeOf 4 = .ok (.aload_n 0, 1) := by decide +kernel
theorem dX12_comeOf_5 : decode cX12_comeOf 5 = .ok (.getfield 19, 3) := by decide +kernel
theorem dX12_comeOf_8 : decode cX12_comeOf 8 = .ok (.iload_n 1, 1) := by decide +kernel
theorem dX12_comeOf_9 : decode cX12_comeOf 9 = .ok (.iaload, 1) := by decide +kernel
theorem dX12_comeOf_10 : decode cX12_comeOf 10 = .ok (.istore_n 3, 1) := by decide +kernel
theorem dX12_comeOf_11 : decode cX12_comeOf 11 = .ok (.iconst (-1), 1) := by decide +kernel
theorem dX12_comeOf_12 : decode cX12_comeOf 12 = .ok (.istore 4, 2) := by decide +kernel
theorem dX12_comeOf_14 : decode cX12_comeOf 14 = .ok (.iconst (-1), 1) := by decide +kernel
theorem dX12_comeOf_15 : decode cX12_comeOf 15 = .ok (.istore 5, 2) := by decide +kernel
theorem dX12_comeOf_17 : decode cX12_comeOf 17 = .ok (.iconst 0, 1) := by decide +kernel
theorem dX12_comeOf_18 : decode cX12_comeOf 18 = .ok (.istore 6, 2) := by decide +kernel
theorem dX12_comeOf_20 : decode cX12_comeOf 20 = .ok (.iload 6, 2) := by decide +kernel
theorem dX12_comeOf_22 : decode cX12_comeOf 22 = .ok (.bipush 20, 2) := by decide +kernel
theorem dX12_comeOf_24 : decode cX12_comeOf 24 = .ok (.if_icmp .ge 83, 3) := by decide +kernel
theorem dX12_comeOf_27 : decode cX12_comeOf 27 = .ok (.aload_n 0, 1) := by decide +kernel
theorem dX12_comeOf_28 : decode cX12_comeOf 28 = .ok (.getfield 19, 3) := by decide +kernel
theorem dX12_comeOf_31 : decode cX12_comeOf 31 = .ok (.iload_n 1, 1) := by decide +kernel
theorem dX12_comeOf_32 : decode cX12_comeOf 32 = .ok (.iload 6, 2) := by decide +kernel
theorem dX12_comeOf_34 : decode cX12_comeOf 34 = .ok (.iastore, 1) := by decide +kernel
theorem dX12_comeOf_35 : decode cX12_comeOf 35 = .ok (.aload_n 0, 1) := by decide +kernel
theorem dX12_comeOf_36 : decode cX12_comeOf 36 = .ok (.iload_n 1, 1) := by decide +kernel
theorem dX12_comeOf_37 : decode cX12_comeOf 37 = .ok (.invokevirtual 193, 3) := by decide +kernel
theorem dX12_comeOf_40 : decode cX12_comeOf 40 = .ok (.aload_n 0, 1) := by decide +kernel
theorem dX12_comeOf_41 : decode cX12_comeOf 41 = .ok (.getfield 49, 3) := by decide +kernel
theorem dX12_comeOf_44 : decode cX12_comeOf 44 = .ok (.bipush 29, 2) := by decide +kernel
theorem dX12_comeOf_46 : decode cX12_comeOf 46 = .ok (.iaload, 1) := by decide +kernel
theorem dX12_comeOf_47 : decode cX12_comeOf 47 = .ok (.iconst (-1), 1) := by decide +kernel
theorem dX12_comeOf_48 : decode cX12_comeOf 48 = .ok (.if_icmp .ne 7, 3) := by decide +kernel
theorem dX12_comeOf_51 : decode cX12_comeOf 51 = .ok (.iconst (-1), 1) := by decide +kernel
theorem dX12_comeOf_52 : decode cX12_comeOf 52 = .ok (.goto 15, 3) := by decide +kernel
theorem dX12_comeOf_55 : decode cX12_comeOf 55 = .ok (.aload_n 0, 1) := by decide +kernel
theorem dX12_comeOf_56 : decode cX12_comeOf 56 = .ok (.getfield 46, 3) := by decide +kernel
theorem dX12_comeOf_59 : decode cX12_comeOf 59 = .ok (.bipush 29, 2) := by decide +kernel
theorem dX12_comeOf_61 : decode cX12_comeOf 61 = .ok (.iaload, 1) := by decide +kernel
theorem dX12_comeOf_62 : decode cX12_comeOf 62 = .ok (.aload_n 0, 1) := by decide +kernel
theorem dX12_comeOf_63 : decode cX12_comeOf 63 = .ok (.getfield 95, 3) := by decide +kernel
theorem dX12_comeOf_66 : decode cX12_comeOf 66 = .ok (.idiv, 1) := by decide +kernel
theorem dX12_comeOf_67 : decode cX12_comeOf 67 = .ok (.istore 7, 2) := by decide +kernel
theorem dX12_comeOf_69 : decode cX12_comeOf 69 = .ok (.iload 7, 2) := by decide +kernel
theorem dX12_comeOf_71 : decode cX12_comeOf 71 = .ok (.iload 5, 2) := by decide +kernel
theorem dX12_comeOf_73 : decode cX12_comeOf 73 = .ok (.if_icmp .le 8, 3) := by decide +kernel
theorem dX12_comeOf_76 : decode cX12_comeOf 76 = .ok (.iload 6, 2) := by decide +kernel
theorem dX12_comeOf_78 : decode cX12_comeOf 78 = .ok (.goto 5, 3) := by decide +kernel
theorem dX12_comeOf_81 : decode cX12_comeOf 81 = .ok (.iload 4, 2) := by decide +kernel
theorem dX12_comeOf_83 : decode cX12_comeOf 83 = .ok (.istore 4, 2) := by decide +kernel
theorem dX12_comeOf_85 : decode cX12_comeOf 85 = .ok (.iload 7, 2) := by decide +kernel
theorem dX12_comeOf_87 : decode cX12_comeOf 87 = .ok (.iload 5, 2) := by decide +kernel
theorem dX12_comeOf_89 : decode cX12_comeOf 89 = .ok (.if_icmp .le 8, 3) := by decide +kernel
theorem dX12_comeOf_92 : decode cX12_comeOf 92 = .ok (.iload 7, 2) := by decide +kernel
theorem dX12_comeOf_94 : decode cX12_comeOf 94 = .ok (.goto 5, 3) := by decide +kernel
theorem dX12_comeOf_97 : decode cX12_comeOf 97 = .ok (.iload 5, 2) := by decide +kernel
theorem dX12_comeOf_99 : decode cX12_comeOf 99 = .ok (.istore 5, 2) := by decide +kernel
theorem dX12_comeOf_101 : decode cX12_comeOf 101 = .ok (.iinc 6 1, 3) := by decide +kernel
theorem dX12_comeOf_104 : decode cX12_comeOf 104 = .ok (.goto (-84), 3) := by decide +kernel
theorem dX12_comeOf_107 : decode cX12_comeOf 107 = .ok (.aload_n 0, 1) := by decide +kernel
theorem dX12_comeOf_108 : decode cX12_comeOf 108 = .ok (.getfield 19, 3) := by decide +kernel
theorem dX12_comeOf_111 : decode cX12_comeOf 111 = .ok (.iload_n 1, 1) := by decide +kernel
theorem dX12_comeOf_112 : decode cX12_comeOf 112 = .ok (.iload_n 3, 1) := by decide +kernel
theorem dX12_comeOf_113 : decode cX12_comeOf 113 = .ok (.iastore, 1) := by decide +kernel
theorem dX12_comeOf_114 : decode cX12_comeOf 114 = .ok (.iload_n 2, 1) := by decide +kernel
theorem dX12_comeOf_115 : decode cX12_comeOf 115 = .ok (.ifCond .ne 8, 3) := by decide +kernel
theorem dX12_comeOf_118 : decode cX12_comeOf 118 = .ok (.iload 4, 2) := by decide +kernel
theorem dX12_comeOf_120 : decode cX12_comeOf 120 = .ok (.goto 5, 3) := by decide +kernel
theorem dX12_comeOf_123 : decode cX12_comeOf 123 = .ok (.iload 5, 2) := by decide +kernel
theorem dX12_comeOf_125 : decode cX12_comeOf 125 = .ok (.ireturn, 1) := by decide +kernel
theorem dX12_come_0 : decode cX12_come 0 = .ok (.aload_n 0, 1) := by decide +kernel
theorem dX12_come_1 : decode cX12_come 1 = .ok (.iload_n 1, 1) := by decide +kernel
theorem dX12_come_2 : decode cX12_come 2 = .ok (.invokevirtual 142, 3) := by decide +kernel
theorem dX12_come_5 : decode cX12_come 5 = .ok (.ifCond .eq 21, 3) := by decide +kernel
theorem dX12_come_8 : decode cX12_come 8 = .ok (.iload_n 2, 1) := by decide +kernel
theorem dX12_come_9 : decode cX12_come 9 = .ok (.iconst 0, 1) := by decide +kernel
theorem dX12_come_10 : decode cX12_come 10 = .ok (.iconst 1, 1) := by decide +kernel
theorem dX12_come_11 : decode cX12_come 11 = .ok (.invokestatic 104, 3) := by decide +kernel
theorem dX12_come_14 : decode cX12_come 14 = .ok (.ifCond .eq 12, 3) := by decide +kernel
theorem dX12_come_17 : decode cX12_come 17 = .ok (.aload_n 0, 1) := by decide +kernel
theorem dX12_come_18 : decode cX12_come 18 = .ok (.iload_n 1, 1) := by decide +kernel
theorem dX12_come_19 : decode cX12_come 19 = .ok (.iload_n 2, 1) := by decide +kernel
theorem dX12_come_20 : decode cX12_come 20 = .ok (.invokevirtual 231, 3) := by decide +kernel
theorem dX12_come_23 : decode cX12_come 23 = .ok (.goto 5, 3) := by decide +kernel
theorem dX12_come_26 : decode cX12_come 26 = .ok (.bipush (-2), 2) := by decide +kernel
theorem dX12_come_28 : decode cX12_come 28 = .ok (.ireturn, 1) := by decide +kernel
theorem dX12_saleNow_0 : decode cX12_saleNow 0 = .ok (.aload_n 0, 1) := by decide +kernel
theorem dX12_saleNow_1 : decode cX12_saleNow 1 = .ok (.invokevirtual 190, 3) := by decide +kernel
theorem dX12_saleNow_4 : decode cX12_saleNow 4 = .ok (.iconst 0, 1) := by decide +kernel
theorem dX12_saleNow_5 : decode cX12_saleNow 5 = .ok (.istore_n 1, 1) := by decide +kernel
theorem dX12_saleNow_6 : decode cX12_saleNow 6 = .ok (.iconst 0, 1) := by decide +kernel
theorem dX12_saleNow_7 : decode cX12_saleNow 7 = .ok (.istore_n 2, 1) := by decide +kernel
theorem dX12_saleNow_8 : decode cX12_saleNow 8 = .ok (.iload_n 2, 1) := by decide +kernel
theorem dX12_saleNow_9 : decode cX12_saleNow 9 = .ok (.aload_n 0, 1) := by decide +kernel
theorem dX12_saleNow_10 : decode cX12_saleNow 10 = .ok (.getfield 119, 3) := by decide +kernel
theorem dX12_saleNow_13 : decode cX12_saleNow 13 = .ok (.if_icmp .ge 66, 3) := by decide +kernel
theorem dX12_saleNow_16 : decode cX12_saleNow 16 = .ok (.aload_n 0, 1) := by decide +kernel
theorem dX12_saleNow_17 : decode cX12_saleNow 17 = .ok (.iload_n 2, 1) := by decide +kernel
theorem dX12_saleNow_18 : decode cX12_saleNow 18 = .ok (.invokevirtual 193, 3) := by decide +kernel
theorem dX12_saleNow_21 : decode cX12_saleNow 21 = .ok (.iconst 0, 1) := by decide +kernel
theorem dX12_saleNow_22 : decode cX12_saleNow 22 = .ok (.istore_n 3, 1) := by decide +kernel
theorem dX12_saleNow_23 : decode cX12_saleNow 23 = .ok (.iload_n 3, 1) := by decide +kernel
theorem dX12_saleNow_24 : decode cX12_saleNow 24 = .ok (.bipush 30, 2) := by decide +kernel
theorem dX12_saleNow_26 : decode cX12_saleNow 26 = .ok (.if_icmp .ge 47, 3) := by decide +kernel
theorem dX12_saleNow_29 : decode cX12_saleNow 29 = .ok (.aload_n 0, 1) := by decide +kernel
theorem dX12_saleNow_30 : decode cX12_saleNow 30 = .ok (.getfield 61, 3) := by decide +kernel
theorem dX12_saleNow_33 : decode cX12_saleNow 33 = .ok (.bipush 8, 2) := by decide +kernel
theorem dX12_saleNow_35 : decode cX12_saleNow 35 = .ok (.iload_n 3, 1) := by decide +kernel
theorem dX12_saleNow_36 : decode cX12_saleNow 36 = .ok (.imul, 1) := by decide +kernel
theorem dX12_saleNow_37 : decode cX12_saleNow 37 = .ok (.iload_n 2, 1) := by decide +kernel
theorem dX12_saleNow_38 : decode cX12_saleNow 38 = .ok (.iadd, 1) := by decide +kernel
theorem dX12_saleNow_39 : decode cX12_saleNow 39 = .ok (.aload_n 0, 1) := by decide +kernel
theorem dX12_saleNow_40 : decode cX12_saleNow 40 = .ok (.getfield 49, 3) := by decide +kernel
theorem dX12_saleNow_43 : decode cX12_saleNow 43 = .ok (.iload_n 3, 1) := by decide +kernel
theorem dX12_saleNow_44 : decode cX12_saleNow 44 = .ok (.iaload, 1) := by decide +kernel
theorem dX12_saleNow_45 : decode cX12_saleNow 45 = .ok (.iconst (-1), 1) := by decide +kernel
theorem dX12_saleNow_46 : decode cX12_saleNow 46 = .ok (.if_icmp .ne 7, 3) := by decide +kernel
theorem dX12_saleNow_49 : decode cX12_saleNow 49 = .ok (.iconst 0, 1) := by decide +kernel
theorem dX12_saleNow_50 : decode cX12_saleNow 50 = .ok (.goto 16, 3) := by decide +kernel
theorem dX12_saleNow_53 : decode cX12_saleNow 53 = .ok (.aload_n 0, 1) := by decide +kernel
theorem dX12_saleNow_54 : decode cX12_saleNow 54 = .ok (.getfield 46, 3) := by decide +kernel
theorem dX12_saleNow_57 : decode cX12_saleNow 57 = .ok (.iload_n 3, 1) := by decide +kernel
theorem dX12_saleNow_58 : decode cX12_saleNow 58 = .ok (.iaload, 1) := by decide +kernel
theorem dX12_saleNow_59 : decode cX12_saleNow 59 = .ok (.aload_n 0, 1) := by decide +kernel
theorem dX12_saleNow_60 : decode cX12_saleNow 60 = .ok (.getfield 95, 3) := by decide +kernel
theorem dX12_saleNow_63 : decode cX12_saleNow 63 = .ok (.idiv, 1) := by decide +kernel
theorem dX12_saleNow_64 : decode cX12_saleNow 64 = .ok (.iconst 1, 1) := by decide +kernel
theorem dX12_saleNow_65 : decode cX12_saleNow 65 = .ok (.iadd, 1) := by decide +kernel
