theorem dX12_saleNow_66 : decode cX12_saleNow 66 = .ok (.iastore, 1) := by decide +kernel
theorem dX12_saleNow_67 : decode cX12_saleNow 67 = .ok (.iinc 3 1, 3) := by decide +kernel
theorem dX12_saleNow_70 : decode cX12_saleNow 70 = .ok (.goto (-47), 3) := by decide +kernel
theorem dX12_saleNow_73 : decode cX12_saleNow 73 = .ok (.iinc 2 1, 3) := by decide +kernel
theorem dX12_saleNow_76 : decode cX12_saleNow 76 = .ok (.goto (-68), 3) := by decide +kernel
theorem dX12_saleNow_79 : decode cX12_saleNow 79 = .ok (.iconst 0, 1) := by decide +kernel
theorem dX12_saleNow_80 : decode cX12_saleNow 80 = .ok (.istore_n 2, 1) := by decide +kernel
theorem dX12_saleNow_81 : decode cX12_saleNow 81 = .ok (.iload_n 2, 1) := by decide +kernel
theorem dX12_saleNow_82 : decode cX12_saleNow 82 = .ok (.sipush 256, 3) := by decide +kernel
theorem dX12_saleNow_85 : decode cX12_saleNow 85 = .ok (.if_icmp .ge 16, 3) := by decide +kernel
theorem dX12_saleNow_88 : decode cX12_saleNow 88 = .ok (.aload_n 0, 1) := by decide +kernel
theorem dX12_saleNow_89 : decode cX12_saleNow 89 = .ok (.getfield 64, 3) := by decide +kernel
theorem dX12_saleNow_92 : decode cX12_saleNow 92 = .ok (.iload_n 2, 1) := by decide +kernel
theorem dX12_saleNow_93 : decode cX12_saleNow 93 = .ok (.iconst 0, 1) := by decide +kernel
theorem dX12_saleNow_94 : decode cX12_saleNow 94 = .ok (.iastore, 1) := by decide +kernel
theorem dX12_saleNow_95 : decode cX12_saleNow 95 = .ok (.iinc 2 1, 3) := by decide +kernel
theorem dX12_saleNow_98 : decode cX12_saleNow 98 = .ok (.goto (-17), 3) := by decide +kernel
theorem dX12_saleNow_101 : decode cX12_saleNow 101 = .ok (.iconst 0, 1) := by decide +kernel
theorem dX12_saleNow_102 : decode cX12_saleNow 102 = .ok (.istore_n 2, 1) := by decide +kernel
theorem dX12_saleNow_103 : decode cX12_saleNow 103 = .ok (.iload_n 2, 1) := by decide +kernel
theorem dX12_saleNow_104 : decode cX12_saleNow 104 = .ok (.bipush 30, 2) := by decide +kernel
theorem dX12_saleNow_106 : decode cX12_saleNow 106 = .ok (.if_icmp .ge 115, 3) := by decide +kernel
theorem dX12_saleNow_109 : decode cX12_saleNow 109 = .ok (.iconst 1, 1) := by decide +kernel
theorem dX12_saleNow_110 : decode cX12_saleNow 110 = .ok (.aload_n 0, 1) := by decide +kernel
theorem dX12_saleNow_111 : decode cX12_saleNow 111 = .ok (.getfield 119, 3) := by decide +kernel
theorem dX12_saleNow_114 : decode cX12_saleNow 114 = .ok (.ishl, 1) := by decide +kernel
theorem dX12_saleNow_115 : decode cX12_saleNow 115 = .ok (.iconst 1, 1) := by decide +kernel
theorem dX12_saleNow_116 : decode cX12_saleNow 116 = .ok (.isub, 1) := by decide +kernel
theorem dX12_saleNow_117 : decode cX12_saleNow 117 = .ok (.istore_n 3, 1) := by decide +kernel
theorem dX12_saleNow_118 : decode cX12_saleNow 118 = .ok (.iload_n 3, 1) := by decide +kernel
theorem dX12_saleNow_119 : decode cX12_saleNow 119 = .ok (.ifCond .le 96, 3) := by decide +kernel
theorem dX12_saleNow_122 : decode cX12_saleNow 122 = .ok (.iconst 0, 1) := by decide +kernel
theorem dX12_saleNow_123 : decode cX12_saleNow 123 = .ok (.istore 4, 2) := by decide +kernel
theorem dX12_saleNow_125 : decode cX12_saleNow 125 = .ok (.iload 4, 2) := by decide +kernel
theorem dX12_saleNow_127 : decode cX12_saleNow 127 = .ok (.aload_n 0, 1) := by decide +kernel
theorem dX12_saleNow_128 : decode cX12_saleNow 128 = .ok (.getfield 119, 3) := by decide +kernel
theorem dX12_saleNow_131 : decode cX12_saleNow 131 = .ok (.if_icmp .ge 78, 3) := by decide +kernel
theorem dX12_saleNow_134 : decode cX12_saleNow 134 = .ok (.iload_n 3, 1) := by decide +kernel
theorem dX12_saleNow_135 : decode cX12_saleNow 135 = .ok (.iload 4, 2) := by decide +kernel
theorem dX12_saleNow_137 : decode cX12_saleNow 137 = .ok (.invokestatic 175, 3) := by decide +kernel
theorem dX12_saleNow_140 : decode cX12_saleNow 140 = .ok (.ifCond .eq 32, 3) := by decide +kernel
theorem dX12_saleNow_143 : decode cX12_saleNow 143 = .ok (.aload_n 0, 1) := by decide +kernel
theorem dX12_saleNow_144 : decode cX12_saleNow 144 = .ok (.getfield 64, 3) := by decide +kernel
theorem dX12_saleNow_147 : decode cX12_saleNow 147 = .ok (.iload_n 3, 1) := by decide +kernel
theorem dX12_saleNow_148 : decode cX12_saleNow 148 = .ok (.iconst 1, 1) := by decide +kernel
theorem dX12_saleNow_149 : decode cX12_saleNow 149 = .ok (.iload 4, 2) := by decide +kernel
theorem dX12_saleNow_151 : decode cX12_saleNow 151 = .ok (.ishl, 1) := by decide +kernel
theorem dX12_saleNow_152 : decode cX12_saleNow 152 = .ok (.iconst (-1), 1) := by decide +kernel
theorem dX12_saleNow_153 : decode cX12_saleNow 153 = .ok (.ixor, 1) := by decide +kernel
theorem dX12_saleNow_154 : decode cX12_saleNow 154 = .ok (.iand, 1) := by decide +kernel
theorem dX12_saleNow_155 : decode cX12_saleNow 155 = .ok (.iaload, 1) := by decide +kernel
theorem dX12_saleNow_156 : decode cX12_saleNow 156 = .ok (.aload_n 0, 1) := by decide +kernel
theorem dX12_saleNow_157 : decode cX12_saleNow 157 = .ok (.getfield 61, 3) := by decide +kernel
theorem dX12_saleNow_160 : decode cX12_saleNow 160 = .ok (.bipush 8, 2) := by decide +kernel
theorem dX12_saleNow_162 : decode cX12_saleNow 162 = .ok (.iload_n 2, 1) := by decide +kernel
theorem dX12_saleNow_163 : decode cX12_saleNow 163 = .ok (.imul, 1) := by decide +kernel
theorem dX12_saleNow_164 : decode cX12_saleNow 164 = .ok (.iload 4, 2) := by decide +kernel
theorem dX12_saleNow_166 : decode cX12_saleNow 166 = .ok (.iadd, 1) := by decide +kernel
theorem dX12_saleNow_167 : decode cX12_saleNow 167 = .ok (.iaload, 1) := by decide +kernel
theorem dX12_saleNow_168 : decode cX12_saleNow 168 = .ok (.iadd, 1) := by decide +kernel
theorem dX12_saleNow_169 : decode cX12_saleNow 169 = .ok (.goto 4, 3) := by decide +kernel
theorem dX12_saleNow_172 : decode cX12_saleNow 172 = .ok (.iconst 0, 1) := by decide +kernel
theorem dX12_saleNow_173 : decode cX12_saleNow 173 = .ok (.istore 5, 2) := by decide +kernel
theorem dX12_saleNow_175 : decode cX12_saleNow 175 = .ok (.aload_n 0, 1) := by decide +kernel
theorem dX12_saleNow_176 : decode cX12_saleNow 176 = .ok (.getfield 64, 3) := by decide +kernel
theorem dX12_saleNow_179 : decode cX12_saleNow 179 = .ok (.iload_n 3, 1) := by decide +kernel
theorem dX12_saleNow_180 : decode cX12_saleNow 180 = .ok (.iload 5, 2) := by decide +kernel
theorem dX12_saleNow_182 : decode cX12_saleNow 182 = .ok (.aload_n 0, 1) := by decide +kernel
theorem dX12_saleNow_183 : decode cX12_saleNow 183 = .ok (.getfield 64, 3) := by decide +kernel
theorem dX12_saleNow_186 : decode cX12_saleNow 186 = .ok (.iload_n 3, 1) := by decide +kernel
theorem dX12_saleNow_187 : decode cX12_saleNow 187 = .ok (.iaload, 1) := by decide +kernel
theorem dX12_saleNow_188 : decode cX12_saleNow 188 = .ok (.if_icmp .le 8, 3) := by decide +kernel
theorem dX12_saleNow_191 : decode cX12_saleNow 191 = .ok (.iload 5, 2) := by decide +kernel
theorem dX12_saleNow_193 : decode cX12_saleNow 193 = .ok (.goto 9, 3) := by decide +kernel
theorem dX12_saleNow_196 : decode cX12_saleNow 196 = .ok (.aload_n 0, 1) := by decide +kernel
theorem dX12_saleNow_197 : decode cX12_saleNow 197 = .ok (.getfield 64, 3) := by decide +kernel
theorem dX12_saleNow_200 : decode cX12_saleNow 200 = .ok (.iload_n 3, 1) := by decide +kernel
theorem dX12_saleNow_201 : decode cX12_saleNow 201 = .ok (.iaload, 1) := by decide +kernel
theorem dX12_saleNow_202 : decode cX12_saleNow 202 = .ok (.iastore, 1) := by decide +kernel
theorem dX12_saleNow_203 : decode cX12_saleNow 203 = .ok (.iinc 4 1, 3) := by decide +kernel
theorem dX12_saleNow_206 : decode cX12_saleNow 206 = .ok (.goto (-81), 3) := by decide +kernel
theorem dX12_saleNow_209 : decode cX12_saleNow 209 = .ok (.iinc 3 (-1), 3) := by decide +kernel
theorem dX12_saleNow_212 : decode cX12_saleNow 212 = .ok (.goto (-94), 3) := by decide +kernel
theorem dX12_saleNow_215 : decode cX12_saleNow 215 = .ok (.iinc 2 1, 3) := by decide +kernel
theorem dX12_saleNow_218 : decode cX12_saleNow 218 = .ok (.goto (-115), 3) := by decide +kernel
theorem dX12_saleNow_221 : decode cX12_saleNow 221 = .ok (.iconst 0, 1) := by decide +kernel
theorem dX12_saleNow_222 : decode cX12_saleNow 222 = .ok (.istore_n 2, 1) := by decide +kernel
theorem dX12_saleNow_223 : decode cX12_saleNow 223 = .ok (.iload_n 2, 1) := by decide +kernel
theorem dX12_saleNow_224 : decode cX12_saleNow 224 = .ok (.iconst 1, 1) := by decide +kernel
theorem dX12_saleNow_225 : decode cX12_saleNow 225 = .ok (.aload_n 0, 1) := by decide +kernel
theorem dX12_saleNow_226 : decode cX12_saleNow 226 = .ok (.getfield 119, 3) := by decide +kernel
theorem dX12_saleNow_229 : decode cX12_saleNow 229 = .ok (.ishl, 1) := by decide +kernel
theorem dX12_saleNow_230 : decode cX12_saleNow 230 = .ok (.if_icmp .ge 30, 3) := by decide +kernel
theorem dX12_saleNow_233 : decode cX12_saleNow 233 = .ok (.aload_n 0, 1) := by decide +kernel
theorem dX12_saleNow_234 : decode cX12_saleNow 234 = .ok (.getfield 64, 3) := by decide +kernel
theorem dX12_saleNow_237 : decode cX12_saleNow 237 = .ok (.iload_n 2, 1) := by decide +kernel
theorem dX12_saleNow_238 : decode cX12_saleNow 238 = .ok (.iaload, 1) := by decide +kernel
theorem dX12_saleNow_239 : decode cX12_saleNow 239 = .ok (.iload_n 1, 1) := by decide +kernel
theorem dX12_saleNow_240 : decode cX12_saleNow 240 = .ok (.if_icmp .le 12, 3) := by decide +kernel
theorem dX12_saleNow_243 : decode cX12_saleNow 243 = .ok (.aload_n 0, 1) := by decide +kernel
theorem dX12_saleNow_244 : decode cX12_saleNow 244 = .ok (.getfield 64, 3) := by decide +kernel
theorem dX12_saleNow_247 : decode cX12_saleNow 247 = .ok (.iload_n 2, 1) := by decide +kernel
theorem dX12_saleNow_248 : decode cX12_saleNow 248 = .ok (.iaload, 1) := by decide +kernel
theorem dX12_saleNow_249 : decode cX12_saleNow 249 = .ok (.goto 4, 3) := by decide +kernel
theorem dX12_saleNow_252 : decode cX12_saleNow 252 = .ok (.iload_n 1, 1) := by decide +kernel
theorem dX12_saleNow_253 : decode cX12_saleNow 253 = .ok (.istore_n 1, 1) := by decide +kernel
theorem dX12_saleNow_254 : decode cX12_saleNow 254 = .ok (.iinc 2 1, 3) := by decide +kernel
theorem dX12_saleNow_257 : decode cX12_saleNow 257 = .ok (.goto (-34), 3) := by decide +kernel
theorem dX12_saleNow_260 : decode cX12_saleNow 260 = .ok (.iload_n 1, 1) := by decide +kernel
theorem dX12_saleNow_261 : decode cX12_saleNow 261 = .ok (.ireturn, 1) := by decide +kernel
theorem dX12_sale_0 : decode cX12_sale 0 = .ok (.aload_n 0, 1) := by decide +kernel
theorem dX12_sale_1 : decode cX12_sale 1 = .ok (.invokevirtual 234, 3) := by decide +kernel
theorem dX12_sale_4 : decode cX12_sale 4 = .ok (.ireturn, 1) := by decide +kernel
theorem dX12_listen_0 : decode cX12_listen 0 = .ok (.iload_n 1, 1) := by decide +kernel
theorem dX12_listen_1 : decode cX12_listen 1 = .ok (.invokestatic 148, 3) := by decide +kernel
theorem dX12_listen_4 : decode cX12_listen 4 = .ok (.ifCond .eq 23, 3) := by decide +kernel
theorem dX12_listen_7 : decode cX12_listen 7 = .ok (.iload_n 2, 1) := by decide +kernel
theorem dX12_listen_8 : decode cX12_listen 8 = .ok (.iconst 0, 1) := by decide +kernel
theorem dX12_listen_9 : decode cX12_listen 9 = .ok (.bipush 7, 2) := by decide +kernel
theorem dX12_listen_11 : decode cX12_listen 11 = .ok (.invokestatic 104, 3) := by decide +kernel
theorem dX12_listen_14 : decode cX12_listen 14 = .ok (.ifCond .eq 13, 3) := by decide +kernel
theorem dX12_listen_17 : decode cX12_listen 17 = .ok (.iload_n 3, 1) := by decide +kernel
theorem dX12_listen_18 : decode cX12_listen 18 = .ok (.iconst 0, 1) := by decide +kernel
theorem dX12_listen_19 : decode cX12_listen 19 = .ok (.bipush 8, 2) := by decide +kernel
theorem dX12_listen_21 : decode cX12_listen 21 = .ok (.invokestatic 104, 3) := by decide +kernel
theorem dX12_listen_24 : decode cX12_listen 24 = .ok (.ifCond .ne 6, 3) := by decide +kernel
theorem dX12_listen_27 : decode cX12_listen 27 = .ok (.bipush (-2), 2) := by decide +kernel
theorem dX12_listen_29 : decode cX12_listen 29 = .ok (.ireturn, 1) := by decide +kernel
theorem dX12_listen_30 : decode cX12_listen 30 = .ok (.aload_n 0, 1) := by decide +kernel
theorem dX12_listen_31 : decode cX12_listen 31 = .ok (.getfield 237, 3) := by decide +kernel
theorem dX12_listen_34 : decode cX12_listen 34 = .ok (.bipush 8, 2) := by decide +kernel
theorem dX12_listen_36 : decode cX12_listen 36 = .ok (.if_icmp .ne 6, 3) := by decide +kernel
theorem dX12_listen_39 : decode cX12_listen 39 = .ok (.bipush (-4), 2) := by decide +kernel
theorem dX12_listen_41 : decode cX12_listen 41 = .ok (.ireturn, 1) := by decide +kernel
theorem dX12_listen_42 : decode cX12_listen 42 = .ok (.aload_n 0, 1) := by decide +kernel
theorem dX12_listen_43 : decode cX12_listen 43 = .ok (.getfield 67, 3) := by decide +kernel
theorem dX12_listen_46 : decode cX12_listen 46 = .ok (.aload_n 0, 1) := by decide +kernel
theorem dX12_listen_47 : decode cX12_listen 47 = .ok (.getfield 237, 3) := by decide +kernel
theorem dX12_listen_50 : decode cX12_listen 50 = .ok (.iload_n 1, 1) := by decide +kernel
theorem dX12_listen_51 : decode cX12_listen 51 = .ok (.iastore, 1) := by decide +kernel
theorem dX12_listen_52 : decode cX12_listen 52 = .ok (.aload_n 0, 1) := by decide +kernel
theorem dX12_listen_53 : decode cX12_listen 53 = .ok (.getfield 70, 3) := by decide +kernel
theorem dX12_listen_56 : decode cX12_listen 56 = .ok (.aload_n 0, 1) := by decide +kernel
theorem dX12_listen_57 : decode cX12_listen 57 = .ok (.getfield 237, 3) := by decide +kernel
theorem dX12_listen_60 : decode cX12_listen 60 = .ok (.iload_n 2, 1) := by decide +kernel
theorem dX12_listen_61 : decode cX12_listen 61 = .ok (.iastore, 1) := by decide +kernel
theorem dX12_listen_62 : decode cX12_listen 62 = .ok (.aload_n 0, 1) := by decide +kernel
theorem dX12_listen_63 : decode cX12_listen 63 = .ok (.getfield 73, 3) := by decide +kernel
theorem dX12_listen_66 : decode cX12_listen 66 = .ok (.aload_n 0, 1) := by decide +kernel
theorem dX12_listen_67 : decode cX12_listen 67 = .ok (.getfield 237, 3) := by decide +kernel
theorem dX12_listen_70 : decode cX12_listen 70 = .ok (.iload_n 3, 1) := by decide +kernel
theorem dX12_listen_71 : decode cX12_listen 71 = .ok (.iastore, 1) := by decide +kernel
theorem dX12_listen_72 : decode cX12_listen 72 = .ok (.aload_n 0, 1) := by decide +kernel
theorem dX12_listen_73 : decode cX12_listen 73 = .ok (.dup, 1) := by decide +kernel
theorem dX12_listen_74 : decode cX12_listen 74 = .ok (.getfield 237, 3) := by decide +kernel
theorem dX12_listen_77 : decode cX12_listen 77 = .ok (.iconst 1, 1) := by decide +kernel
theorem dX12_listen_78 : decode cX12_listen 78 = .ok (.iadd, 1) := by decide +kernel
theorem dX12_listen_79 : decode cX12_listen 79 = .ok (.putfield 237, 3) := by decide +kernel
theorem dX12_listen_82 : decode cX12_listen 82 = .ok (.aload_n 0, 1) := by decide +kernel
theorem dX12_listen_83 : decode cX12_listen 83 = .ok (.getfield 237, 3) := by decide +kernel
theorem dX12_listen_86 : decode cX12_listen 86 = .ok (.ireturn, 1) := by decide +kernel
theorem dX12_forget_0 : decode cX12_forget 0 = .ok (.aload_n 0, 1) := by decide +kernel
theorem dX12_forget_1 : decode cX12_forget 1 = .ok (.getfield 237, 3) := by decide +kernel
theorem dX12_forget_4 : decode cX12_forget 4 = .ok (.istore_n 1, 1) := by decide +kernel
theorem dX12_forget_5 : decode cX12_forget 5 = .ok (.aload_n 0, 1) := by decide +kernel
theorem dX12_forget_6 : decode cX12_forget 6 = .ok (.iconst 0, 1) := by decide +kernel
theorem dX12_forget_7 : decode cX12_forget 7 = .ok (.putfield 237, 3) := by decide +kernel
theorem dX12_forget_10 : decode cX12_forget 10 = .ok (.iload_n 1, 1) := by decide +kernel
theorem dX12_forget_11 : decode cX12_forget 11 = .ok (.ireturn, 1) := by decide +kernel
theorem dX12_isHeard_0 : decode cX12_isHeard 0 = .ok (.iconst 1, 1) := by decide +kernel
theorem dX12_isHeard_1 : decode cX12_isHeard 1 = .ok (.istore_n 2, 1) := by decide +kernel
theorem dX12_isHeard_2 : decode cX12_isHeard 2 = .ok (.iconst 0, 1) := by decide +kernel
theorem dX12_isHeard_3 : decode cX12_isHeard 3 = .ok (.istore_n 3, 1) := by decide +kernel
theorem dX12_isHeard_4 : decode cX12_isHeard 4 = .ok (.iload_n 3, 1) := by decide +kernel
theorem dX12_isHeard_5 : decode cX12_isHeard 5 = .ok (.aload_n 0, 1) := by decide +kernel
theorem dX12_isHeard_6 : decode cX12_isHeard 6 = .ok (.getfield 237, 3) := by decide +kernel
theorem dX12_isHeard_9 : decode cX12_isHeard 9 = .ok (.if_icmp .ge 98, 3) := by decide +kernel
theorem dX12_isHeard_12 : decode cX12_isHeard 12 = .ok (.iload_n 2, 1) := by decide +kernel
theorem dX12_isHeard_13 : decode cX12_isHeard 13 = .ok (.ifCond .eq 94, 3) := by decide +kernel
theorem dX12_isHeard_16 : decode cX12_isHeard 16 = .ok (.aload_n 0, 1) := by decide +kernel
theorem dX12_isHeard_17 : decode cX12_isHeard 17 = .ok (.getfield 70, 3) := by decide +kernel
theorem dX12_isHeard_20 : decode cX12_isHeard 20 = .ok (.iload_n 3, 1) := by decide +kernel
theorem dX12_isHeard_21 : decode cX12_isHeard 21 = .ok (.iaload, 1) := by decide +kernel
theorem dX12_isHeard_22 : decode cX12_isHeard 22 = .ok (.aload_n 0, 1) := by decide +kernel
theorem dX12_isHeard_23 : decode cX12_isHeard 23 = .ok (.getfield 119, 3) := by decide +kernel
theorem dX12_isHeard_26 : decode cX12_isHeard 26 = .ok (.if_icmp .ge 7, 3) := by decide +kernel
theorem dX12_isHeard_29 : decode cX12_isHeard 29 = .ok (.iconst 1, 1) := by decide +kernel
theorem dX12_isHeard_30 : decode cX12_isHeard 30 = .ok (.goto 4, 3) := by decide +kernel
theorem dX12_isHeard_33 : decode cX12_isHeard 33 = .ok (.iconst 0, 1) := by decide +kernel
theorem dX12_isHeard_34 : decode cX12_isHeard 34 = .ok (.istore_n 2, 1) := by decide +kernel
theorem dX12_isHeard_35 : decode cX12_isHeard 35 = .ok (.iload_n 2, 1) := by decide +kernel
theorem dX12_isHeard_36 : decode cX12_isHeard 36 = .ok (.ifCond .eq 65, 3) := by decide +kernel
theorem dX12_isHeard_39 : decode cX12_isHeard 39 = .ok (.aload_n 0, 1) := by decide +kernel
theorem dX12_isHeard_40 : decode cX12_isHeard 40 = .ok (.aload_n 0, 1) := by decide +kernel
theorem dX12_isHeard_41 : decode cX12_isHeard 41 = .ok (.getfield 70, 3) := by decide +kernel
theorem dX12_isHeard_44 : decode cX12_isHeard 44 = .ok (.iload_n 3, 1) := by decide +kernel
theorem dX12_isHeard_45 : decode cX12_isHeard 45 = .ok (.iaload, 1) := by decide +kernel
theorem dX12_isHeard_46 : decode cX12_isHeard 46 = .ok (.iload_n 1, 1) := by decide +kernel
theorem dX12_isHeard_47 : decode cX12_isHeard 47 = .ok (.invokevirtual 182, 3) := by decide +kernel
theorem dX12_isHeard_50 : decode cX12_isHeard 50 = .ok (.aload_n 0, 1) := by decide +kernel
theorem dX12_isHeard_51 : decode cX12_isHeard 51 = .ok (.aload_n 0, 1) := by decide +kernel
theorem dX12_isHeard_52 : decode cX12_isHeard 52 = .ok (.getfield 70, 3) := by decide +kernel
theorem dX12_isHeard_55 : decode cX12_isHeard 55 = .ok (.iload_n 3, 1) := by decide +kernel
theorem dX12_isHeard_56 : decode cX12_isHeard 56 = .ok (.iaload, 1) := by decide +kernel
theorem dX12_isHeard_57 : decode cX12_isHeard 57 = .ok (.invokevirtual 186, 3) := by decide +kernel
theorem dX12_isHeard_60 : decode cX12_isHeard 60 = .ok (.aload_n 0, 1) := by decide +kernel
theorem dX12_isHeard_61 : decode cX12_isHeard 61 = .ok (.getfield 49, 3) := by decide +kernel
theorem dX12_isHeard_64 : decode cX12_isHeard 64 = .ok (.aload_n 0, 1) := by decide +kernel
theorem dX12_isHeard_65 : decode cX12_isHeard 65 = .ok (.getfield 67, 3) := by decide +kernel
theorem dX12_isHeard_68 : decode cX12_isHeard 68 = .ok (.iload_n 3, 1) := by decide +kernel
theorem dX12_isHeard_69 : decode cX12_isHeard 69 = .ok (.iaload, 1) := by decide +kernel
theorem dX12_isHeard_70 : decode cX12_isHeard 70 = .ok (.iaload, 1) := by decide +kernel
theorem dX12_isHeard_71 : decode cX12_isHeard 71 = .ok (.istore 4, 2) := by decide +kernel
theorem dX12_isHeard_73 : decode cX12_isHeard 73 = .ok (.iload 4, 2) := by decide +kernel
theorem dX12_isHeard_75 : decode cX12_isHeard 75 = .ok (.iconst (-1), 1) := by decide +kernel
theorem dX12_isHeard_76 : decode cX12_isHeard 76 = .ok (.if_icmp .ne 8, 3) := by decide +kernel
theorem dX12_isHeard_79 : decode cX12_isHeard 79 = .ok (.bipush 8, 2) := by decide +kernel
theorem dX12_isHeard_81 : decode cX12_isHeard 81 = .ok (.goto 5, 3) := by decide +kernel
theorem dX12_isHeard_84 : decode cX12_isHeard 84 = .ok (.iload 4, 2) := by decide +kernel
theorem dX12_isHeard_86 : decode cX12_isHeard 86 = .ok (.aload_n 0, 1) := by decide +kernel
theorem dX12_isHeard_87 : decode cX12_isHeard 87 = .ok (.getfield 73, 3) := by decide +kernel
theorem dX12_isHeard_90 : decode cX12_isHeard 90 = .ok (.iload_n 3, 1) := by decide +kernel
theorem dX12_isHeard_91 : decode cX12_isHeard 91 = .ok (.iaload, 1) := by decide +kernel
theorem dX12_isHeard_92 : decode cX12_isHeard 92 = .ok (.if_icmp .ne 7, 3) := by decide +kernel
theorem dX12_isHeard_95 : decode cX12_isHeard 95 = .ok (.iconst 1, 1) := by decide +kernel
theorem dX12_isHeard_96 : decode cX12_isHeard 96 = .ok (.goto 4, 3) := by decide +kernel
theorem dX12_isHeard_99 : decode cX12_isHeard 99 = .ok (.iconst 0, 1) := by decide +kernel
theorem dX12_isHeard_100 : decode cX12_isHeard 100 = .ok (.istore_n 2, 1) := by decide +kernel
theorem dX12_isHeard_101 : decode cX12_isHeard 101 = .ok (.iinc 3 1, 3) := by decide +kernel
theorem dX12_isHeard_104 : decode cX12_isHeard 104 = .ok (.goto (-100), 3) := by decide +kernel
theorem dX12_isHeard_107 : decode cX12_isHeard 107 = .ok (.iload_n 2, 1) := by decide +kernel
theorem dX12_isHeard_108 : decode cX12_isHeard 108 = .ok (.ireturn, 1) := by decide +kernel
theorem dX12_neverNow_0 : decode cX12_neverNow 0 = .ok (.aload_n 0, 1) := by decide +kernel
theorem dX12_neverNow_1 : decode cX12_neverNow 1 = .ok (.invokevirtual 190, 3) := by decide +kernel
theorem dX12_neverNow_4 : decode cX12_neverNow 4 = .ok (.iconst 0, 1) := by decide +kernel
theorem dX12_neverNow_5 : decode cX12_neverNow 5 = .ok (.istore_n 1, 1) := by decide +kernel
theorem dX12_neverNow_6 : decode cX12_neverNow 6 = .ok (.iconst 0, 1) := by decide +kernel
theorem dX12_neverNow_7 : decode cX12_neverNow 7 = .ok (.istore_n 2, 1) := by decide +kernel
theorem dX12_neverNow_8 : decode cX12_neverNow 8 = .ok (.iload_n 2, 1) := by decide +kernel
theorem dX12_neverNow_9 : decode cX12_neverNow 9 = .ok (.aload_n 0, 1) := by decide +kernel
theorem dX12_neverNow_10 : decode cX12_neverNow 10 = .ok (.getfield 154, 3) := by decide +kernel
theorem dX12_neverNow_13 : decode cX12_neverNow 13 = .ok (.if_icmp .ge 29, 3) := by decide +kernel
theorem dX12_neverNow_16 : decode cX12_neverNow 16 = .ok (.iload_n 1, 1) := by decide +kernel
theorem dX12_neverNow_17 : decode cX12_neverNow 17 = .ok (.aload_n 0, 1) := by decide +kernel
theorem dX12_neverNow_18 : decode cX12_neverNow 18 = .ok (.iconst 1, 1) := by decide +kernel
theorem dX12_neverNow_19 : decode cX12_neverNow 19 = .ok (.iload_n 2, 1) := by decide +kernel
theorem dX12_neverNow_20 : decode cX12_neverNow 20 = .ok (.ishl, 1) := by decide +kernel
theorem dX12_neverNow_21 : decode cX12_neverNow 21 = .ok (.invokevirtual 240, 3) := by decide +kernel
theorem dX12_neverNow_24 : decode cX12_neverNow 24 = .ok (.ifCond .eq 9, 3) := by decide +kernel
theorem dX12_neverNow_27 : decode cX12_neverNow 27 = .ok (.iconst 1, 1) := by decide +kernel
theorem dX12_neverNow_28 : decode cX12_neverNow 28 = .ok (.iload_n 2, 1) := by decide +kernel
theorem dX12_neverNow_29 : decode cX12_neverNow 29 = .ok (.ishl, 1) := by decide +kernel
theorem dX12_neverNow_30 : decode cX12_neverNow 30 = .ok (.goto 4, 3) := by decide +kernel
theorem dX12_neverNow_33 : decode cX12_neverNow 33 = .ok (.iconst 0, 1) := by decide +kernel
theorem dX12_neverNow_34 : decode cX12_neverNow 34 = .ok (.ior, 1) := by decide +kernel
theorem dX12_neverNow_35 : decode cX12_neverNow 35 = .ok (.istore_n 1, 1) := by decide +kernel
theorem dX12_neverNow_36 : decode cX12_neverNow 36 = .ok (.iinc 2 1, 3) := by decide +kernel
theorem dX12_neverNow_39 : decode cX12_neverNow 39 = .ok (.goto (-31), 3) := by decide +kernel
theorem dX12_neverNow_42 : decode cX12_neverNow 42 = .ok (.iload_n 1, 1) := by decide +kernel
theorem dX12_neverNow_43 : decode cX12_neverNow 43 = .ok (.ireturn, 1) := by decide +kernel
theorem dX12_never_0 : decode cX12_never 0 = .ok (.aload_n 0, 1) := by decide +kernel
theorem dX12_never_1 : decode cX12_never 1 = .ok (.invokevirtual 243, 3) := by decide +kernel
theorem dX12_never_4 : decode cX12_never 4 = .ok (.ireturn, 1) := by decide +kernel
theorem dX12_fromBy_0 : decode cX12_fromBy 0 = .ok (.aload_n 0, 1) := by decide +kernel
theorem dX12_fromBy_1 : decode cX12_fromBy 1 = .ok (.invokevirtual 190, 3) := by decide +kernel
theorem dX12_fromBy_4 : decode cX12_fromBy 4 = .ok (.aload_n 0, 1) := by decide +kernel
theorem dX12_fromBy_5 : decode cX12_fromBy 5 = .ok (.getfield 19, 3) := by decide +kernel
theorem dX12_fromBy_8 : decode cX12_fromBy 8 = .ok (.iload_n 1, 1) := by decide +kernel
theorem dX12_fromBy_9 : decode cX12_fromBy 9 = .ok (.iaload, 1) := by decide +kernel
theorem dX12_fromBy_10 : decode cX12_fromBy 10 = .ok (.istore_n 2, 1) := by decide +kernel
theorem dX12_fromBy_11 : decode cX12_fromBy 11 = .ok (.iconst 0, 1) := by decide +kernel
theorem dX12_fromBy_12 : decode cX12_fromBy 12 = .ok (.istore_n 3, 1) := by decide +kernel
theorem dX12_fromBy_13 : decode cX12_fromBy 13 = .ok (.iconst 0, 1) := by decide +kernel
theorem dX12_fromBy_14 : decode cX12_fromBy 14 = .ok (.istore 4, 2) := by decide +kernel
theorem dX12_fromBy_16 : decode cX12_fromBy 16 = .ok (.iload 4, 2) := by decide +kernel
theorem dX12_fromBy_18 : decode cX12_fromBy 18 = .ok (.bipush 20, 2) := by decide +kernel
theorem dX12_fromBy_20 : decode cX12_fromBy 20 = .ok (.if_icmp .ge 77, 3) := by decide +kernel
theorem dX12_fromBy_23 : decode cX12_fromBy 23 = .ok (.aload_n 0, 1) := by decide +kernel
theorem dX12_fromBy_24 : decode cX12_fromBy 24 = .ok (.getfield 19, 3) := by decide +kernel
theorem dX12_fromBy_27 : decode cX12_fromBy 27 = .ok (.iload_n 1, 1) := by decide +kernel
theorem dX12_fromBy_28 : decode cX12_fromBy 28 = .ok (.iload 4, 2) := by decide +kernel
theorem dX12_fromBy_30 : decode cX12_fromBy 30 = .ok (.iastore, 1) := by decide +kernel
theorem dX12_fromBy_31 : decode cX12_fromBy 31 = .ok (.iload_n 3, 1) := by decide +kernel
theorem dX12_fromBy_32 : decode cX12_fromBy 32 = .ok (.aload_n 0, 1) := by decide +kernel
theorem dX12_fromBy_33 : decode cX12_fromBy 33 = .ok (.iconst 0, 1) := by decide +kernel
theorem dX12_fromBy_34 : decode cX12_fromBy 34 = .ok (.invokevirtual 240, 3) := by decide +kernel
theorem dX12_fromBy_37 : decode cX12_fromBy 37 = .ok (.ifCond .eq 10, 3) := by decide +kernel
theorem dX12_fromBy_40 : decode cX12_fromBy 40 = .ok (.iconst 1, 1) := by decide +kernel
theorem dX12_fromBy_41 : decode cX12_fromBy 41 = .ok (.iload 4, 2) := by decide +kernel
theorem dX12_fromBy_43 : decode cX12_fromBy 43 = .ok (.ishl, 1) := by decide +kernel
theorem dX12_fromBy_44 : decode cX12_fromBy 44 = .ok (.goto 4, 3) := by decide +kernel
theorem dX12_fromBy_47 : decode cX12_fromBy 47 = .ok (.iconst 0, 1) := by decide +kernel
theorem dX12_fromBy_48 : decode cX12_fromBy 48 = .ok (.ior, 1) := by decide +kernel
theorem dX12_fromBy_49 : decode cX12_fromBy 49 = .ok (.istore_n 3, 1) := by decide +kernel
theorem dX12_fromBy_50 : decode cX12_fromBy 50 = .ok (.aload_n 0, 1) := by decide +kernel
theorem dX12_fromBy_51 : decode cX12_fromBy 51 = .ok (.iload_n 1, 1) := by decide +kernel
theorem dX12_fromBy_52 : decode cX12_fromBy 52 = .ok (.invokevirtual 193, 3) := by decide +kernel
theorem dX12_fromBy_55 : decode cX12_fromBy 55 = .ok (.iconst 0, 1) := by decide +kernel
theorem dX12_fromBy_56 : decode cX12_fromBy 56 = .ok (.istore 5, 2) := by decide +kernel
theorem dX12_fromBy_58 : decode cX12_fromBy 58 = .ok (.iload 5, 2) := by decide +kernel
theorem dX12_fromBy_60 : decode cX12_fromBy 60 = .ok (.bipush 30, 2) := by decide +kernel
theorem dX12_fromBy_62 : decode cX12_fromBy 62 = .ok (.if_icmp .ge 29, 3) := by decide +kernel
theorem dX12_fromBy_65 : decode cX12_fromBy 65 = .ok (.aload_n 0, 1) := by decide +kernel
theorem dX12_fromBy_66 : decode cX12_fromBy 66 = .ok (.getfield 76, 3) := by decide +kernel
theorem dX12_fromBy_69 : decode cX12_fromBy 69 = .ok (.bipush 30, 2) := by decide +kernel
theorem dX12_fromBy_71 : decode cX12_fromBy 71 = .ok (.iload 4, 2) := by decide +kernel
theorem dX12_fromBy_73 : decode cX12_fromBy 73 = .ok (.imul, 1) := by decide +kernel
theorem dX12_fromBy_74 : decode cX12_fromBy 74 = .ok (.iload 5, 2) := by decide +kernel
theorem dX12_fromBy_76 : decode cX12_fromBy 76 = .ok (.iadd, 1) := by decide +kernel
theorem dX12_fromBy_77 : decode cX12_fromBy 77 = .ok (.aload_n 0, 1) := by decide +kernel
theorem dX12_fromBy_78 : decode cX12_fromBy 78 = .ok (.getfield 49, 3) := by decide +kernel
theorem dX12_fromBy_81 : decode cX12_fromBy 81 = .ok (.iload 5, 2) := by decide +kernel
theorem dX12_fromBy_83 : decode cX12_fromBy 83 = .ok (.iaload, 1) := by decide +kernel
theorem dX12_fromBy_84 : decode cX12_fromBy 84 = .ok (.iastore, 1) := by decide +kernel
theorem dX12_fromBy_85 : decode cX12_fromBy 85 = .ok (.iinc 5 1, 3) := by decide +kernel
theorem dX12_fromBy_88 : decode cX12_fromBy 88 = .ok (.goto (-30), 3) := by decide +kernel
theorem dX12_fromBy_91 : decode cX12_fromBy 91 = .ok (.iinc 4 1, 3) := by decide +kernel
theorem dX12_fromBy_94 : decode cX12_fromBy 94 = .ok (.goto (-78), 3) := by decide +kernel
theorem dX12_fromBy_97 : decode cX12_fromBy 97 = .ok (.aload_n 0, 1) := by decide +kernel
theorem dX12_fromBy_98 : decode cX12_fromBy 98 = .ok (.getfield 19, 3) := by decide +kernel
theorem dX12_fromBy_101 : decode cX12_fromBy 101 = .ok (.iload_n 1, 1) := by decide +kernel
theorem dX12_fromBy_102 : decode cX12_fromBy 102 = .ok (.iload_n 2, 1) := by decide +kernel
theorem dX12_fromBy_103 : decode cX12_fromBy 103 = .ok (.iastore, 1) := by decide +kernel
theorem dX12_fromBy_104 : decode cX12_fromBy 104 = .ok (.iload_n 3, 1) := by decide +kernel
theorem dX12_fromBy_105 : decode cX12_fromBy 105 = .ok (.ireturn, 1) := by decide +kernel
theorem dX12_sortBy_0 : decode cX12_sortBy 0 = .ok (.aload_n 0, 1) := by decide +kernel
theorem dX12_sortBy_1 : decode cX12_sortBy 1 = .ok (.invokevirtual 190, 3) := by decide +kernel
theorem dX12_sortBy_4 : decode cX12_sortBy 4 = .ok (.aload_n 0, 1) := by decide +kernel
theorem dX12_sortBy_5 : decode cX12_sortBy 5 = .ok (.getfield 16, 3) := by decide +kernel
theorem dX12_sortBy_8 : decode cX12_sortBy 8 = .ok (.iload_n 1, 1) := by decide +kernel
theorem dX12_sortBy_9 : decode cX12_sortBy 9 = .ok (.iaload, 1) := by decide +kernel
theorem dX12_sortBy_10 : decode cX12_sortBy 10 = .ok (.istore_n 2, 1) := by decide +kernel
theorem dX12_sortBy_11 : decode cX12_sortBy 11 = .ok (.iconst 0, 1) := by decide +kernel
theorem dX12_sortBy_12 : decode cX12_sortBy 12 = .ok (.istore_n 3, 1) := by decide +kernel
theorem dX12_sortBy_13 : decode cX12_sortBy 13 = .ok (.iconst 0, 1) := by decide +kernel
theorem dX12_sortBy_14 : decode cX12_sortBy 14 = .ok (.istore 4, 2) := by decide +kernel
theorem dX12_sortBy_16 : decode cX12_sortBy 16 = .ok (.iload 4, 2) := by decide +kernel
theorem dX12_sortBy_18 : decode cX12_sortBy 18 = .ok (.iconst 3, 1) := by decide +kernel
theorem dX12_sortBy_19 : decode cX12_sortBy 19 = .ok (.if_icmp .ge 36, 3) := by decide +kernel
theorem dX12_sortBy_22 : decode cX12_sortBy 22 = .ok (.aload_n 0, 1) := by decide +kernel
theorem dX12_sortBy_23 : decode cX12_sortBy 23 = .ok (.getfield 16, 3) := by decide +kernel
theorem dX12_sortBy_26 : decode cX12_sortBy 26 = .ok (.iload_n 1, 1) := by decide +kernel
theorem dX12_sortBy_27 : decode cX12_sortBy 27 = .ok (.iload 4, 2) := by decide +kernel
theorem dX12_sortBy_29 : decode cX12_sortBy 29 = .ok (.iastore, 1) := by decide +kernel
theorem dX12_sortBy_30 : decode cX12_sortBy 30 = .ok (.iload_n 3, 1) := by decide +kernel
theorem dX12_sortBy_31 : decode cX12_sortBy 31 = .ok (.aload_n 0, 1) := by decide +kernel
theorem dX12_sortBy_32 : decode cX12_sortBy 32 = .ok (.iconst 0, 1) := by decide +kernel
theorem dX12_sortBy_33 : decode cX12_sortBy 33 = .ok (.invokevirtual 240, 3) := by decide +kernel
theorem dX12_sortBy_36 : decode cX12_sortBy 36 = .ok (.ifCond .eq 10, 3) := by decide +kernel
theorem dX12_sortBy_39 : decode cX12_sortBy 39 = .ok (.iconst 1, 1) := by decide +kernel
theorem dX12_sortBy_40 : decode cX12_sortBy 40 = .ok (.iload 4, 2) := by decide +kernel
theorem dX12_sortBy_42 : decode cX12_sortBy 42 = .ok (.ishl, 1) := by decide +kernel
theorem dX12_sortBy_43 : decode cX12_sortBy 43 = .ok (.goto 4, 3) := by decide +kernel
theorem dX12_sortBy_46 : decode cX12_sortBy 46 = .ok (.iconst 0, 1) := by decide +kernel
theorem dX12_sortBy_47 : decode cX12_sortBy 47 = .ok (.ior, 1) := by decide +kernel
theorem dX12_sortBy_48 : decode cX12_sortBy 48 = .ok (.istore_n 3, 1) := by decide +kernel
theorem dX12_sortBy_49 : decode cX12_sortBy 49 = .ok (.iinc 4 1, 3) := by decide +kernel
theorem dX12_sortBy_52 : decode cX12_sortBy 52 = .ok (.goto (-36), 3) := by decide +kernel
theorem dX12_sortBy_55 : decode cX12_sortBy 55 = .ok (.aload_n 0, 1) := by decide +kernel
theorem dX12_sortBy_56 : decode cX12_sortBy 56 = .ok (.getfield 16, 3) := by decide +kernel
theorem dX12_sortBy_59 : decode cX12_sortBy 59 = .ok (.iload_n 1, 1) := by decide +kernel
theorem dX12_sortBy_60 : decode cX12_sortBy 60 = .ok (.iload_n 2, 1) := by decide +kernel
theorem dX12_sortBy_61 : decode cX12_sortBy 61 = .ok (.iastore, 1) := by decide +kernel
theorem dX12_sortBy_62 : decode cX12_sortBy 62 = .ok (.iload_n 3, 1) := by decide +kernel
theorem dX12_sortBy_63 : decode cX12_sortBy 63 = .ok (.ireturn, 1) := by decide +kernel
theorem dX12_was_0 : decode cX12_was 0 = .ok (.aload_n 0, 1) := by decide +kernel
theorem dX12_was_1 : decode cX12_was 1 = .ok (.iload_n 1, 1) := by decide +kernel
theorem dX12_was_2 : decode cX12_was 2 = .ok (.invokevirtual 142, 3) := by decide +kernel
theorem dX12_was_5 : decode cX12_was 5 = .ok (.ifCond .eq 32, 3) := by decide +kernel
theorem dX12_was_8 : decode cX12_was 8 = .ok (.iload_n 2, 1) := by decide +kernel
theorem dX12_was_9 : decode cX12_was 9 = .ok (.iconst 0, 1) := by decide +kernel
theorem dX12_was_10 : decode cX12_was 10 = .ok (.iconst 1, 1) := by decide +kernel
theorem dX12_was_11 : decode cX12_was 11 = .ok (.invokestatic 104, 3) := by decide +kernel
theorem dX12_was_14 : decode cX12_was 14 = .ok (.ifCond .eq 23, 3) := by decide +kernel
theorem dX12_was_17 : decode cX12_was 17 = .ok (.iload_n 2, 1) := by decide +kernel
theorem dX12_was_18 : decode cX12_was 18 = .ok (.ifCond .ne 11, 3) := by decide +kernel
theorem dX12_was_21 : decode cX12_was 21 = .ok (.aload_n 0, 1) := by decide +kernel
theorem dX12_was_22 : decode cX12_was 22 = .ok (.iload_n 1, 1) := by decide +kernel
theorem dX12_was_23 : decode cX12_was 23 = .ok (.invokevirtual 246, 3) := by decide +kernel
theorem dX12_was_26 : decode cX12_was 26 = .ok (.goto 13, 3) := by decide +kernel
theorem dX12_was_29 : decode cX12_was 29 = .ok (.aload_n 0, 1) := by decide +kernel
theorem dX12_was_30 : decode cX12_was 30 = .ok (.iload_n 1, 1) := by decide +kernel
theorem dX12_was_31 : decode cX12_was 31 = .ok (.invokevirtual 249, 3) := by decide +kernel
theorem dX12_was_34 : decode cX12_was 34 = .ok (.goto 5, 3) := by decide +kernel
theorem dX12_was_37 : decode cX12_was 37 = .ok (.bipush (-2), 2) := by decide +kernel
theorem dX12_was_39 : decode cX12_was 39 = .ok (.ireturn, 1) := by decide +kernel
theorem dX12_askOf_0 : decode cX12_askOf 0 = .ok (.aload_n 0, 1) := by decide +kernel
theorem dX12_askOf_1 : decode cX12_askOf 1 = .ok (.iload_n 1, 1) := by decide +kernel
theorem dX12_askOf_2 : decode cX12_askOf 2 = .ok (.invokevirtual 246, 3) := by decide +kernel
theorem dX12_askOf_5 : decode cX12_askOf 5 = .ok (.istore_n 2, 1) := by decide +kernel
theorem dX12_askOf_6 : decode cX12_askOf 6 = .ok (.iconst (-1), 1) := by decide +kernel
theorem dX12_askOf_7 : decode cX12_askOf 7 = .ok (.istore_n 3, 1) := by decide +kernel
theorem dX12_askOf_8 : decode cX12_askOf 8 = .ok (.iconst 0, 1) := by decide +kernel
theorem dX12_askOf_9 : decode cX12_askOf 9 = .ok (.istore 4, 2) := by decide +kernel
theorem dX12_askOf_11 : decode cX12_askOf 11 = .ok (.iconst 0, 1) := by decide +kernel
theorem dX12_askOf_12 : decode cX12_askOf 12 = .ok (.istore 5, 2) := by decide +kernel
theorem dX12_askOf_14 : decode cX12_askOf 14 = .ok (.iload 5, 2) := by decide +kernel
theorem dX12_askOf_16 : decode cX12_askOf 16 = .ok (.bipush 30, 2) := by decide +kernel
theorem dX12_askOf_18 : decode cX12_askOf 18 = .ok (.if_icmp .ge 165, 3) := by decide +kernel
theorem dX12_askOf_21 : decode cX12_askOf 21 = .ok (.iconst 0, 1) := by decide +kernel
theorem dX12_askOf_22 : decode cX12_askOf 22 = .ok (.istore 6, 2) := by decide +kernel
theorem dX12_askOf_24 : decode cX12_askOf 24 = .ok (.iconst 0, 1) := by decide +kernel
theorem dX12_askOf_25 : decode cX12_askOf 25 = .ok (.istore 7, 2) := by decide +kernel
theorem dX12_askOf_27 : decode cX12_askOf 27 = .ok (.iload 7, 2) := by decide +kernel
theorem dX12_askOf_29 : decode cX12_askOf 29 = .ok (.bipush 20, 2) := by decide +kernel
theorem dX12_askOf_31 : decode cX12_askOf 31 = .ok (.if_icmp .ge 101, 3) := by decide +kernel
theorem dX12_askOf_34 : decode cX12_askOf 34 = .ok (.iconst 0, 1) := by decide +kernel
theorem dX12_askOf_35 : decode cX12_askOf 35 = .ok (.istore 8, 2) := by decide +kernel
theorem dX12_askOf_37 : decode cX12_askOf 37 = .ok (.iconst 0, 1) := by decide +kernel
theorem dX12_askOf_38 : decode cX12_askOf 38 = .ok (.istore 9, 2) := by decide +kernel
theorem dX12_askOf_40 : decode cX12_askOf 40 = .ok (.iload 9, 2) := by decide +kernel
theorem dX12_askOf_42 : decode cX12_askOf 42 = .ok (.bipush 20, 2) := by decide +kernel
theorem dX12_askOf_44 : decode cX12_askOf 44 = .ok (.if_icmp .ge 66, 3) := by decide +kernel
theorem dX12_askOf_47 : decode cX12_askOf 47 = .ok (.iload 8, 2) := by decide +kernel
theorem dX12_askOf_49 : decode cX12_askOf 49 = .ok (.iload_n 2, 1) := by decide +kernel
theorem dX12_askOf_50 : decode cX12_askOf 50 = .ok (.iload 7, 2) := by decide +kernel
theorem dX12_askOf_52 : decode cX12_askOf 52 = .ok (.invokestatic 175, 3) := by decide +kernel
theorem dX12_askOf_55 : decode cX12_askOf 55 = .ok (.ifCond .eq 45, 3) := by decide +kernel
theorem dX12_askOf_58 : decode cX12_askOf 58 = .ok (.iload_n 2, 1) := by decide +kernel
theorem dX12_askOf_59 : decode cX12_askOf 59 = .ok (.iload 9, 2) := by decide +kernel
theorem dX12_askOf_61 : decode cX12_askOf 61 = .ok (.invokestatic 175, 3) := by decide +kernel
theorem dX12_askOf_64 : decode cX12_askOf 64 = .ok (.ifCond .eq 36, 3) := by decide +kernel
theorem dX12_askOf_67 : decode cX12_askOf 67 = .ok (.aload_n 0, 1) := by decide +kernel
theorem dX12_askOf_68 : decode cX12_askOf 68 = .ok (.getfield 76, 3) := by decide +kernel
theorem dX12_askOf_71 : decode cX12_askOf 71 = .ok (.bipush 30, 2) := by decide +kernel
theorem dX12_askOf_73 : decode cX12_askOf 73 = .ok (.iload 7, 2) := by decide +kernel
theorem dX12_askOf_75 : decode cX12_askOf 75 = .ok (.imul, 1) := by decide +kernel
theorem dX12_askOf_76 : decode cX12_askOf 76 = .ok (.iload 5, 2) := by decide +kernel
theorem dX12_askOf_78 : decode cX12_askOf 78 = .ok (.iadd, 1) := by decide +kernel
theorem dX12_askOf_79 : decode cX12_askOf 79 = .ok (.iaload, 1) := by decide +kernel
theorem dX12_askOf_80 : decode cX12_askOf 80 = .ok (.aload_n 0, 1) := by decide +kernel
theorem dX12_askOf_81 : decode cX12_askOf 81 = .ok (.getfield 76, 3) := by decide +kernel
theorem dX12_askOf_84 : decode cX12_askOf 84 = .ok (.bipush 30, 2) := by decide +kernel
theorem dX12_askOf_86 : decode cX12_askOf 86 = .ok (.iload 9, 2) := by decide +kernel
theorem dX12_askOf_88 : decode cX12_askOf 88 = .ok (.imul, 1) := by decide +kernel
theorem dX12_askOf_89 : decode cX12_askOf 89 = .ok (.iload 5, 2) := by decide +kernel
theorem dX12_askOf_91 : decode cX12_askOf 91 = .ok (.iadd, 1) := by decide +kernel
theorem dX12_askOf_92 : decode cX12_askOf 92 = .ok (.iaload, 1) := by decide +kernel
theorem dX12_askOf_93 : decode cX12_askOf 93 = .ok (.if_icmp .ne 7, 3) := by decide +kernel
theorem dX12_askOf_96 : decode cX12_askOf 96 = .ok (.iconst 1, 1) := by decide +kernel
theorem dX12_askOf_97 : decode cX12_askOf 97 = .ok (.goto 4, 3) := by decide +kernel
theorem dX12_askOf_100 : decode cX12_askOf 100 = .ok (.iconst 0, 1) := by decide +kernel
theorem dX12_askOf_101 : decode cX12_askOf 101 = .ok (.iadd, 1) := by decide +kernel
theorem dX12_askOf_102 : decode cX12_askOf 102 = .ok (.istore 8, 2) := by decide +kernel
theorem dX12_askOf_104 : decode cX12_askOf 104 = .ok (.iinc 9 1, 3) := by decide +kernel
theorem dX12_askOf_107 : decode cX12_askOf 107 = .ok (.goto (-67), 3) := by decide +kernel
theorem dX12_askOf_110 : decode cX12_askOf 110 = .ok (.iload 8, 2) := by decide +kernel
theorem dX12_askOf_112 : decode cX12_askOf 112 = .ok (.iload 6, 2) := by decide +kernel
theorem dX12_askOf_114 : decode cX12_askOf 114 = .ok (.if_icmp .le 8, 3) := by decide +kernel
theorem dX12_askOf_117 : decode cX12_askOf 117 = .ok (.iload 8, 2) := by decide +kernel
theorem dX12_askOf_119 : decode cX12_askOf 119 = .ok (.goto 5, 3) := by decide +kernel
theorem dX12_askOf_122 : decode cX12_askOf 122 = .ok (.iload 6, 2) := by decide +kernel
theorem dX12_askOf_124 : decode cX12_askOf 124 = .ok (.istore 6, 2) := by decide +kernel
theorem dX12_askOf_126 : decode cX12_askOf 126 = .ok (.iinc 7 1, 3) := by decide +kernel
theorem dX12_askOf_129 : decode cX12_askOf 129 = .ok (.goto (-102), 3) := by decide +kernel
theorem dX12_askOf_132 : decode cX12_askOf 132 = .ok (.iload_n 3, 1) := by decide +kernel
theorem dX12_askOf_133 : decode cX12_askOf 133 = .ok (.iconst (-1), 1) := by decide +kernel
theorem dX12_askOf_134 : decode cX12_askOf 134 = .ok (.if_icmp .eq 10, 3) := by decide +kernel
theorem dX12_askOf_137 : decode cX12_askOf 137 = .ok (.iload 6, 2) := by decide +kernel
theorem dX12_askOf_139 : decode cX12_askOf 139 = .ok (.iload 4, 2) := by decide +kernel
theorem dX12_askOf_141 : decode cX12_askOf 141 = .ok (.if_icmp .ge 7, 3) := by decide +kernel
theorem dX12_askOf_144 : decode cX12_askOf 144 = .ok (.iconst 1, 1) := by decide +kernel
theorem dX12_askOf_145 : decode cX12_askOf 145 = .ok (.goto 4, 3) := by decide +kernel
theorem dX12_askOf_148 : decode cX12_askOf 148 = .ok (.iconst 0, 1) := by decide +kernel
theorem dX12_askOf_149 : decode cX12_askOf 149 = .ok (.istore 7, 2) := by decide +kernel
theorem dX12_askOf_151 : decode cX12_askOf 151 = .ok (.iload 7, 2) := by decide +kernel
theorem dX12_askOf_153 : decode cX12_askOf 153 = .ok (.ifCond .eq 8, 3) := by decide +kernel
theorem dX12_askOf_156 : decode cX12_askOf 156 = .ok (.iload 5, 2) := by decide +kernel
theorem dX12_askOf_158 : decode cX12_askOf 158 = .ok (.goto 4, 3) := by decide +kernel
theorem dX12_askOf_161 : decode cX12_askOf 161 = .ok (.iload_n 3, 1) := by decide +kernel
theorem dX12_askOf_162 : decode cX12_askOf 162 = .ok (.istore_n 3, 1) := by decide +kernel
theorem dX12_askOf_163 : decode cX12_askOf 163 = .ok (.iload 7, 2) := by decide +kernel
theorem dX12_askOf_165 : decode cX12_askOf 165 = .ok (.ifCond .eq 8, 3) := by decide +kernel
theorem dX12_askOf_168 : decode cX12_askOf 168 = .ok (.iload 6, 2) := by decide +kernel
theorem dX12_askOf_170 : decode cX12_askOf 170 = .ok (.goto 5, 3) := by decide +kernel
theorem dX12_askOf_173 : decode cX12_askOf 173 = .ok (.iload 4, 2) := by decide +kernel
theorem dX12_askOf_175 : decode cX12_askOf 175 = .ok (.istore 4, 2) := by decide +kernel
theorem dX12_askOf_177 : decode cX12_askOf 177 = .ok (.iinc 5 1, 3) := by decide +kernel
theorem dX12_askOf_180 : decode cX12_askOf 180 = .ok (.goto (-166), 3) := by decide +kernel
theorem dX12_askOf_183 : decode cX12_askOf 183 = .ok (.iload_n 3, 1) := by decide +kernel
theorem dX12_askOf_184 : decode cX12_askOf 184 = .ok (.ireturn, 1) := by decide +kernel
theorem dX12_ask_0 : decode cX12_ask 0 = .ok (.aload_n 0, 1) := by decide +kernel
theorem dX12_ask_1 : decode cX12_ask 1 = .ok (.iload_n 1, 1) := by decide +kernel
theorem dX12_ask_2 : decode cX12_ask 2 = .ok (.invokevirtual 142, 3) := by decide +kernel
theorem dX12_ask_5 : decode cX12_ask 5 = .ok (.ifCond .eq 11, 3) := by decide +kernel
theorem dX12_ask_8 : decode cX12_ask 8 = .ok (.aload_n 0, 1) := by decide +kernel
theorem dX12_ask_9 : decode cX12_ask 9 = .ok (.iload_n 1, 1) := by decide +kernel
theorem dX12_ask_10 : decode cX12_ask 10 = .ok (.invokevirtual 252, 3) := by decide +kernel
theorem dX12_ask_13 : decode cX12_ask 13 = .ok (.goto 5, 3) := by decide +kernel
theorem dX12_ask_16 : decode cX12_ask 16 = .ok (.bipush (-2), 2) := by decide +kernel
theorem dX12_ask_18 : decode cX12_ask 18 = .ok (.ireturn, 1) := by decide +kernel
theorem dX12_frostOf_0 : decode cX12_frostOf 0 = .ok (.aload_n 0, 1) := by decide +kernel
theorem dX12_frostOf_1 : decode cX12_frostOf 1 = .ok (.invokevirtual 190, 3) := by decide +kernel
theorem dX12_frostOf_4 : decode cX12_frostOf 4 = .ok (.lconst 0, 1) := by decide +kernel
theorem dX12_frostOf_5 : decode cX12_frostOf 5 = .ok (.lstore 6, 2) := by decide +kernel
theorem dX12_frostOf_7 : decode cX12_frostOf 7 = .ok (.iconst 0, 1) := by decide +kernel
theorem dX12_frostOf_8 : decode cX12_frostOf 8 = .ok (.istore 8, 2) := by decide +kernel
theorem dX12_frostOf_10 : decode cX12_frostOf 10 = .ok (.iload 8, 2) := by decide +kernel
theorem dX12_frostOf_12 : decode cX12_frostOf 12 = .ok (.iconst 1, 1) := by decide +kernel
theorem dX12_frostOf_13 : decode cX12_frostOf 13 = .ok (.iload_n 2, 1) := by decide +kernel
theorem dX12_frostOf_14 : decode cX12_frostOf 14 = .ok (.iconst 1, 1) := by decide +kernel
theorem dX12_frostOf_15 : decode cX12_frostOf 15 = .ok (.iadd, 1) := by decide +kernel
theorem dX12_frostOf_16 : decode cX12_frostOf 16 = .ok (.ishl, 1) := by decide +kernel
theorem dX12_frostOf_17 : decode cX12_frostOf 17 = .ok (.if_icmp .ge 114, 3) := by decide +kernel
theorem dX12_frostOf_20 : decode cX12_frostOf 20 = .ok (.lconst 1, 1) := by decide +kernel
theorem dX12_frostOf_21 : decode cX12_frostOf 21 = .ok (.lstore 9, 2) := by decide +kernel
theorem dX12_frostOf_23 : decode cX12_frostOf 23 = .ok (.iconst 0, 1) := by decide +kernel
theorem dX12_frostOf_24 : decode cX12_frostOf 24 = .ok (.istore 11, 2) := by decide +kernel
theorem dX12_frostOf_26 : decode cX12_frostOf 26 = .ok (.iload 11, 2) := by decide +kernel
theorem dX12_frostOf_28 : decode cX12_frostOf 28 = .ok (.iload_n 2, 1) := by decide +kernel
theorem dX12_frostOf_29 : decode cX12_frostOf 29 = .ok (.if_icmp .gt 62, 3) := by decide +kernel
theorem dX12_frostOf_32 : decode cX12_frostOf 32 = .ok (.lload 9, 2) := by decide +kernel
theorem dX12_frostOf_34 : decode cX12_frostOf 34 = .ok (.iload 8, 2) := by decide +kernel
theorem dX12_frostOf_36 : decode cX12_frostOf 36 = .ok (.iload 11, 2) := by decide +kernel
theorem dX12_frostOf_38 : decode cX12_frostOf 38 = .ok (.invokestatic 175, 3) := by decide +kernel
theorem dX12_frostOf_41 : decode cX12_frostOf 41 = .ok (.ifCond .eq 8, 3) := by decide +kernel
theorem dX12_frostOf_44 : decode cX12_frostOf 44 = .ok (.iload_n 1, 1) := by decide +kernel
theorem dX12_frostOf_45 : decode cX12_frostOf 45 = .ok (.i2l, 1) := by decide +kernel
theorem dX12_frostOf_46 : decode cX12_frostOf 46 = .ok (.goto 8, 3) := by decide +kernel
theorem dX12_frostOf_49 : decode cX12_frostOf 49 = .ok (.bipush 16, 2) := by decide +kernel
theorem dX12_frostOf_51 : decode cX12_frostOf 51 = .ok (.iload_n 1, 1) := by decide +kernel
theorem dX12_frostOf_52 : decode cX12_frostOf 52 = .ok (.isub, 1) := by decide +kernel
theorem dX12_frostOf_53 : decode cX12_frostOf 53 = .ok (.i2l, 1) := by decide +kernel
theorem dX12_frostOf_54 : decode cX12_frostOf 54 = .ok (.lmul, 1) := by decide +kernel
theorem dX12_frostOf_55 : decode cX12_frostOf 55 = .ok (.lstore 9, 2) := by decide +kernel
theorem dX12_frostOf_57 : decode cX12_frostOf 57 = .ok (.aload_n 0, 1) := by decide +kernel
theorem dX12_frostOf_58 : decode cX12_frostOf 58 = .ok (.getfield 43, 3) := by decide +kernel
theorem dX12_frostOf_61 : decode cX12_frostOf 61 = .ok (.iload 11, 2) := by decide +kernel
theorem dX12_frostOf_63 : decode cX12_frostOf 63 = .ok (.iload 8, 2) := by decide +kernel
theorem dX12_frostOf_65 : decode cX12_frostOf 65 = .ok (.iload 11, 2) := by decide +kernel
theorem dX12_frostOf_67 : decode cX12_frostOf 67 = .ok (.invokestatic 175, 3) := by decide +kernel
theorem dX12_frostOf_70 : decode cX12_frostOf 70 = .ok (.ifCond .eq 7, 3) := by decide +kernel
theorem dX12_frostOf_73 : decode cX12_frostOf 73 = .ok (.iconst 0, 1) := by decide +kernel
theorem dX12_frostOf_74 : decode cX12_frostOf 74 = .ok (.goto 10, 3) := by decide +kernel
theorem dX12_frostOf_77 : decode cX12_frostOf 77 = .ok (.aload_n 0, 1) := by decide +kernel
theorem dX12_frostOf_78 : decode cX12_frostOf 78 = .ok (.getfield 28, 3) := by decide +kernel
theorem dX12_frostOf_81 : decode cX12_frostOf 81 = .ok (.iload 11, 2) := by decide +kernel
theorem dX12_frostOf_83 : decode cX12_frostOf 83 = .ok (.iaload, 1) := by decide +kernel
theorem dX12_frostOf_84 : decode cX12_frostOf 84 = .ok (.iastore, 1) := by decide +kernel
theorem dX12_frostOf_85 : decode cX12_frostOf 85 = .ok (.iinc 11 1, 3) := by decide +kernel
theorem dX12_frostOf_88 : decode cX12_frostOf 88 = .ok (.goto (-62), 3) := by decide +kernel
theorem dX12_frostOf_91 : decode cX12_frostOf 91 = .ok (.lload 9, 2) := by decide +kernel
theorem dX12_frostOf_93 : decode cX12_frostOf 93 = .ok (.lconst 0, 1) := by decide +kernel
theorem dX12_frostOf_94 : decode cX12_frostOf 94 = .ok (.lcmp, 1) := by decide +kernel
theorem dX12_frostOf_95 : decode cX12_frostOf 95 = .ok (.ifCond .le 30, 3) := by decide +kernel
theorem dX12_frostOf_98 : decode cX12_frostOf 98 = .ok (.aload_n 0, 1) := by decide +kernel
theorem dX12_frostOf_99 : decode cX12_frostOf 99 = .ok (.iload_n 3, 1) := by decide +kernel
theorem dX12_frostOf_100 : decode cX12_frostOf 100 = .ok (.invokevirtual 193, 3) := by decide +kernel
theorem dX12_frostOf_103 : decode cX12_frostOf 103 = .ok (.lload 6, 2) := by decide +kernel
theorem dX12_frostOf_105 : decode cX12_frostOf 105 = .ok (.aload_n 0, 1) := by decide +kernel
theorem dX12_frostOf_106 : decode cX12_frostOf 106 = .ok (.getfield 49, 3) := by decide +kernel
theorem dX12_frostOf_109 : decode cX12_frostOf 109 = .ok (.iload 4, 2) := by decide +kernel
theorem dX12_frostOf_111 : decode cX12_frostOf 111 = .ok (.iaload, 1) := by decide +kernel
theorem dX12_frostOf_112 : decode cX12_frostOf 112 = .ok (.iconst (-1), 1) := by decide +kernel
theorem dX12_frostOf_113 : decode cX12_frostOf 113 = .ok (.if_icmp .eq 8, 3) := by decide +kernel
theorem dX12_frostOf_116 : decode cX12_frostOf 116 = .ok (.lload 9, 2) := by decide +kernel
theorem dX12_frostOf_118 : decode cX12_frostOf 118 = .ok (.goto 4, 3) := by decide +kernel
theorem dX12_frostOf_121 : decode cX12_frostOf 121 = .ok (.lconst 0, 1) := by decide +kernel
theorem dX12_frostOf_122 : decode cX12_frostOf 122 = .ok (.ladd, 1) := by decide +kernel
theorem dX12_frostOf_123 : decode cX12_frostOf 123 = .ok (.lstore 6, 2) := by decide +kernel
theorem dX12_frostOf_125 : decode cX12_frostOf 125 = .ok (.iinc 8 1, 3) := by decide +kernel
theorem dX12_frostOf_128 : decode cX12_frostOf 128 = .ok (.goto (-118), 3) := by decide +kernel
theorem dX12_frostOf_131 : decode cX12_frostOf 131 = .ok (.lload 6, 2) := by decide +kernel
theorem dX12_frostOf_133 : decode cX12_frostOf 133 = .ok (.lconst 1, 1) := by decide +kernel
theorem dX12_frostOf_134 : decode cX12_frostOf 134 = .ok (.iconst 4, 1) := by decide +kernel
theorem dX12_frostOf_135 : decode cX12_frostOf 135 = .ok (.iload_n 2, 1) := by decide +kernel
theorem dX12_frostOf_136 : decode cX12_frostOf 136 = .ok (.iconst 1, 1) := by decide +kernel
theorem dX12_frostOf_137 : decode cX12_frostOf 137 = .ok (.iadd, 1) := by decide +kernel
theorem dX12_frostOf_138 : decode cX12_frostOf 138 = .ok (.imul, 1) := by decide +kernel
theorem dX12_frostOf_139 : decode cX12_frostOf 139 = .ok (.lshl, 1) := by decide +kernel
theorem dX12_frostOf_140 : decode cX12_frostOf 140 = .ok (.iload 5, 2) := by decide +kernel
theorem dX12_frostOf_142 : decode cX12_frostOf 142 = .ok (.invokestatic 255, 3) := by decide +kernel
theorem dX12_frostOf_145 : decode cX12_frostOf 145 = .ok (.lreturn, 1) := by decide +kernel
theorem dX12_frost_0 : decode cX12_frost 0 = .ok (.iload_n 1, 1) := by decide +kernel
theorem dX12_frost_1 : decode cX12_frost 1 = .ok (.iconst 0, 1) := by decide +kernel
theorem dX12_frost_2 : decode cX12_frost 2 = .ok (.bipush 16, 2) := by decide +kernel
theorem dX12_frost_4 : decode cX12_frost 4 = .ok (.invokestatic 104, 3) := by decide +kernel
theorem dX12_frost_7 : decode cX12_frost 7 = .ok (.ifCond .eq 25, 3) := by decide +kernel
theorem dX12_frost_10 : decode cX12_frost 10 = .ok (.iload_n 2, 1) := by decide +kernel
theorem dX12_frost_11 : decode cX12_frost 11 = .ok (.iconst 0, 1) := by decide +kernel
theorem dX12_frost_12 : decode cX12_frost 12 = .ok (.bipush 9, 2) := by decide +kernel
theorem dX12_frost_14 : decode cX12_frost 14 = .ok (.invokestatic 104, 3) := by decide +kernel
theorem dX12_frost_17 : decode cX12_frost 17 = .ok (.ifCond .eq 15, 3) := by decide +kernel
theorem dX12_frost_20 : decode cX12_frost 20 = .ok (.aload_n 0, 1) := by decide +kernel
theorem dX12_frost_21 : decode cX12_frost 21 = .ok (.iload_n 3, 1) := by decide +kernel
theorem dX12_frost_22 : decode cX12_frost 22 = .ok (.invokevirtual 142, 3) := by decide +kernel
theorem dX12_frost_25 : decode cX12_frost 25 = .ok (.ifCond .eq 7, 3) := by decide +kernel
theorem dX12_frost_28 : decode cX12_frost 28 = .ok (.iconst 1, 1) := by decide +kernel
theorem dX12_frost_29 : decode cX12_frost 29 = .ok (.goto 4, 3) := by decide +kernel
theorem dX12_frost_32 : decode cX12_frost 32 = .ok (.iconst 0, 1) := by decide +kernel
theorem dX12_frost_33 : decode cX12_frost 33 = .ok (.istore 6, 2) := by decide +kernel
theorem dX12_frost_35 : decode cX12_frost 35 = .ok (.iload 6, 2) := by decide +kernel
theorem dX12_frost_37 : decode cX12_frost 37 = .ok (.ifCond .eq 35, 3) := by decide +kernel
theorem dX12_frost_40 : decode cX12_frost 40 = .ok (.iload 4, 2) := by decide +kernel
theorem dX12_frost_42 : decode cX12_frost 42 = .ok (.invokestatic 148, 3) := by decide +kernel
theorem dX12_frost_45 : decode cX12_frost 45 = .ok (.ifCond .eq 27, 3) := by decide +kernel
theorem dX12_frost_48 : decode cX12_frost 48 = .ok (.iload 5, 2) := by decide +kernel
theorem dX12_frost_50 : decode cX12_frost 50 = .ok (.iconst 0, 1) := by decide +kernel
theorem dX12_frost_51 : decode cX12_frost 51 = .ok (.iconst 1, 1) := by decide +kernel
theorem dX12_frost_52 : decode cX12_frost 52 = .ok (.invokestatic 104, 3) := by decide +kernel
theorem dX12_frost_55 : decode cX12_frost 55 = .ok (.ifCond .eq 17, 3) := by decide +kernel
theorem dX12_frost_58 : decode cX12_frost 58 = .ok (.aload_n 0, 1) := by decide +kernel
theorem dX12_frost_59 : decode cX12_frost 59 = .ok (.iload_n 1, 1) := by decide +kernel
theorem dX12_frost_60 : decode cX12_frost 60 = .ok (.iload_n 2, 1) := by decide +kernel
theorem dX12_frost_61 : decode cX12_frost 61 = .ok (.iload_n 3, 1) := by decide +kernel
theorem dX12_frost_62 : decode cX12_frost 62 = .ok (.iload 4, 2) := by decide +kernel
theorem dX12_frost_64 : decode cX12_frost 64 = .ok (.iload 5, 2) := by decide +kernel
theorem dX12_frost_66 : decode cX12_frost 66 = .ok (.invokevirtual 259, 3) := by decide +kernel
theorem dX12_frost_69 : decode cX12_frost 69 = .ok (.goto 8, 3) := by decide +kernel
theorem dX12_frost_72 : decode cX12_frost 72 = .ok (.bipush (-2), 2) := by decide +kernel
theorem dX12_frost_74 : decode cX12_frost 74 = .ok (.invokestatic 263, 3) := by decide +kernel
theorem dX12_frost_77 : decode cX12_frost 77 = .ok (.lreturn, 1) := by decide +kernel
theorem dX12_summerOf_0 : decode cX12_summerOf 0 = .ok (.aload_n 0, 1) := by decide +kernel
theorem dX12_summerOf_1 : decode cX12_summerOf 1 = .ok (.invokevirtual 190, 3) := by decide +kernel
theorem dX12_summerOf_4 : decode cX12_summerOf 4 = .ok (.iload_n 1, 1) := by decide +kernel
theorem dX12_summerOf_5 : decode cX12_summerOf 5 = .ok (.istore 4, 2) := by decide +kernel
theorem dX12_summerOf_7 : decode cX12_summerOf 7 = .ok (.iconst 0, 1) := by decide +kernel
theorem dX12_summerOf_8 : decode cX12_summerOf 8 = .ok (.istore 5, 2) := by decide +kernel
theorem dX12_summerOf_10 : decode cX12_summerOf 10 = .ok (.iload 5, 2) := by decide +kernel
theorem dX12_summerOf_12 : decode cX12_summerOf 12 = .ok (.bipush 30, 2) := by decide +kernel
theorem dX12_summerOf_14 : decode cX12_summerOf 14 = .ok (.if_icmp .ge 65, 3) := by decide +kernel
theorem dX12_summerOf_17 : decode cX12_summerOf 17 = .ok (.iload 5, 2) := by decide +kernel
theorem dX12_summerOf_19 : decode cX12_summerOf 19 = .ok (.iload_n 2, 1) := by decide +kernel
theorem dX12_summerOf_20 : decode cX12_summerOf 20 = .ok (.if_icmp .ge 16, 3) := by decide +kernel
theorem dX12_summerOf_23 : decode cX12_summerOf 23 = .ok (.ldc_w 267, 3) := by decide +kernel
theorem dX12_summerOf_26 : decode cX12_summerOf 26 = .ok (.iload 4, 2) := by decide +kernel
theorem dX12_summerOf_28 : decode cX12_summerOf 28 = .ok (.imul, 1) := by decide +kernel
theorem dX12_summerOf_29 : decode cX12_summerOf 29 = .ok (.sipush 12345, 3) := by decide +kernel
theorem dX12_summerOf_32 : decode cX12_summerOf 32 = .ok (.iadd, 1) := by decide +kernel
theorem dX12_summerOf_33 : decode cX12_summerOf 33 = .ok (.goto 5, 3) := by decide +kernel
theorem dX12_summerOf_36 : decode cX12_summerOf 36 = .ok (.iload 4, 2) := by decide +kernel
theorem dX12_summerOf_38 : decode cX12_summerOf 38 = .ok (.istore 4, 2) := by decide +kernel
theorem dX12_summerOf_40 : decode cX12_summerOf 40 = .ok (.aload_n 0, 1) := by decide +kernel
theorem dX12_summerOf_41 : decode cX12_summerOf 41 = .ok (.getfield 43, 3) := by decide +kernel
theorem dX12_summerOf_44 : decode cX12_summerOf 44 = .ok (.iload 5, 2) := by decide +kernel
theorem dX12_summerOf_46 : decode cX12_summerOf 46 = .ok (.iload 5, 2) := by decide +kernel
theorem dX12_summerOf_48 : decode cX12_summerOf 48 = .ok (.iload_n 2, 1) := by decide +kernel
theorem dX12_summerOf_49 : decode cX12_summerOf 49 = .ok (.if_icmp .ge 14, 3) := by decide +kernel
theorem dX12_summerOf_52 : decode cX12_summerOf 52 = .ok (.iload 4, 2) := by decide +kernel
theorem dX12_summerOf_54 : decode cX12_summerOf 54 = .ok (.bipush 16, 2) := by decide +kernel
theorem dX12_summerOf_56 : decode cX12_summerOf 56 = .ok (.iushr, 1) := by decide +kernel
theorem dX12_summerOf_57 : decode cX12_summerOf 57 = .ok (.bipush 10, 2) := by decide +kernel
theorem dX12_summerOf_59 : decode cX12_summerOf 59 = .ok (.irem, 1) := by decide +kernel
theorem dX12_summerOf_60 : decode cX12_summerOf 60 = .ok (.goto 4, 3) := by decide +kernel
theorem dX12_summerOf_63 : decode cX12_summerOf 63 = .ok (.iconst 5, 1) := by decide +kernel
theorem dX12_summerOf_64 : decode cX12_summerOf 64 = .ok (.iastore, 1) := by decide +kernel
theorem dX12_summerOf_65 : decode cX12_summerOf 65 = .ok (.aload_n 0, 1) := by decide +kernel
theorem dX12_summerOf_66 : decode cX12_summerOf 66 = .ok (.getfield 55, 3) := by decide +kernel
theorem dX12_summerOf_69 : decode cX12_summerOf 69 = .ok (.iload 5, 2) := by decide +kernel
theorem dX12_summerOf_71 : decode cX12_summerOf 71 = .ok (.iconst 0, 1) := by decide +kernel
theorem dX12_summerOf_72 : decode cX12_summerOf 72 = .ok (.iastore, 1) := by decide +kernel
theorem dX12_summerOf_73 : decode cX12_summerOf 73 = .ok (.iinc 5 1, 3) := by decide +kernel
theorem dX12_summerOf_76 : decode cX12_summerOf 76 = .ok (.goto (-66), 3) := by decide +kernel
theorem dX12_summerOf_79 : decode cX12_summerOf 79 = .ok (.iconst 0, 1) := by decide +kernel
theorem dX12_summerOf_80 : decode cX12_summerOf 80 = .ok (.istore 5, 2) := by decide +kernel
theorem dX12_summerOf_82 : decode cX12_summerOf 82 = .ok (.iconst 0, 1) := by decide +kernel
theorem dX12_summerOf_83 : decode cX12_summerOf 83 = .ok (.istore 6, 2) := by decide +kernel
theorem dX12_summerOf_85 : decode cX12_summerOf 85 = .ok (.iconst 0, 1) := by decide +kernel
theorem dX12_summerOf_86 : decode cX12_summerOf 86 = .ok (.istore 7, 2) := by decide +kernel
theorem dX12_summerOf_88 : decode cX12_summerOf 88 = .ok (.iload 7, 2) := by decide +kernel
theorem dX12_summerOf_90 : decode cX12_summerOf 90 = .ok (.aload_n 0, 1) := by decide +kernel
theorem dX12_summerOf_91 : decode cX12_summerOf 91 = .ok (.getfield 119, 3) := by decide +kernel
theorem dX12_summerOf_94 : decode cX12_summerOf 94 = .ok (.if_icmp .ge 78, 3) := by decide +kernel
theorem dX12_summerOf_97 : decode cX12_summerOf 97 = .ok (.aload_n 0, 1) := by decide +kernel
theorem dX12_summerOf_98 : decode cX12_summerOf 98 = .ok (.iload 7, 2) := by decide +kernel
theorem dX12_summerOf_100 : decode cX12_summerOf 100 = .ok (.invokevirtual 193, 3) := by decide +kernel
theorem dX12_summerOf_103 : decode cX12_summerOf 103 = .ok (.iconst 0, 1) := by decide +kernel
theorem dX12_summerOf_104 : decode cX12_summerOf 104 = .ok (.istore 8, 2) := by decide +kernel
theorem dX12_summerOf_106 : decode cX12_summerOf 106 = .ok (.iload 8, 2) := by decide +kernel
theorem dX12_summerOf_108 : decode cX12_summerOf 108 = .ok (.bipush 30, 2) := by decide +kernel
theorem dX12_summerOf_110 : decode cX12_summerOf 110 = .ok (.if_icmp .ge 56, 3) := by decide +kernel
theorem dX12_summerOf_113 : decode cX12_summerOf 113 = .ok (.aload_n 0, 1) := by decide +kernel
theorem dX12_summerOf_114 : decode cX12_summerOf 114 = .ok (.getfield 55, 3) := by decide +kernel
theorem dX12_summerOf_117 : decode cX12_summerOf 117 = .ok (.iload 8, 2) := by decide +kernel
theorem dX12_summerOf_119 : decode cX12_summerOf 119 = .ok (.dup2, 1) := by decide +kernel
theorem dX12_summerOf_120 : decode cX12_summerOf 120 = .ok (.iaload, 1) := by decide +kernel
theorem dX12_summerOf_121 : decode cX12_summerOf 121 = .ok (.aload_n 0, 1) := by decide +kernel
theorem dX12_summerOf_122 : decode cX12_summerOf 122 = .ok (.getfield 49, 3) := by decide +kernel
theorem dX12_summerOf_125 : decode cX12_summerOf 125 = .ok (.iload 8, 2) := by decide +kernel
theorem dX12_summerOf_127 : decode cX12_summerOf 127 = .ok (.iaload, 1) := by decide +kernel
theorem dX12_summerOf_128 : decode cX12_summerOf 128 = .ok (.iconst (-1), 1) := by decide +kernel
theorem dX12_summerOf_129 : decode cX12_summerOf 129 = .ok (.if_icmp .eq 7, 3) := by decide +kernel
theorem dX12_summerOf_132 : decode cX12_summerOf 132 = .ok (.iconst 1, 1) := by decide +kernel
theorem dX12_summerOf_133 : decode cX12_summerOf 133 = .ok (.goto 4, 3) := by decide +kernel
theorem dX12_summerOf_136 : decode cX12_summerOf 136 = .ok (.iconst 0, 1) := by decide +kernel
theorem dX12_summerOf_137 : decode cX12_summerOf 137 = .ok (.iadd, 1) := by decide +kernel
theorem dX12_summerOf_138 : decode cX12_summerOf 138 = .ok (.iastore, 1) := by decide +kernel
theorem dX12_summerOf_139 : decode cX12_summerOf 139 = .ok (.iload 5, 2) := by decide +kernel
theorem dX12_summerOf_141 : decode cX12_summerOf 141 = .ok (.aload_n 0, 1) := by decide +kernel
theorem dX12_summerOf_142 : decode cX12_summerOf 142 = .ok (.getfield 52, 3) := by decide +kernel
theorem dX12_summerOf_145 : decode cX12_summerOf 145 = .ok (.iload 8, 2) := by decide +kernel
theorem dX12_summerOf_147 : decode cX12_summerOf 147 = .ok (.iaload, 1) := by decide +kernel
theorem dX12_summerOf_148 : decode cX12_summerOf 148 = .ok (.iconst 3, 1) := by decide +kernel
theorem dX12_summerOf_149 : decode cX12_summerOf 149 = .ok (.if_icmp .ne 7, 3) := by decide +kernel
theorem dX12_summerOf_152 : decode cX12_summerOf 152 = .ok (.iconst 1, 1) := by decide +kernel
theorem dX12_summerOf_153 : decode cX12_summerOf 153 = .ok (.goto 4, 3) := by decide +kernel
theorem dX12_summerOf_156 : decode cX12_summerOf 156 = .ok (.iconst 0, 1) := by decide +kernel
theorem dX12_summerOf_157 : decode cX12_summerOf 157 = .ok (.iadd, 1) := by decide +kernel
theorem dX12_summerOf_158 : decode cX12_summerOf 158 = .ok (.istore 5, 2) := by decide +kernel
theorem dX12_summerOf_160 : decode cX12_summerOf 160 = .ok (.iinc 8 1, 3) := by decide +kernel
theorem dX12_summerOf_163 : decode cX12_summerOf 163 = .ok (.goto (-57), 3) := by decide +kernel
theorem dX12_summerOf_166 : decode cX12_summerOf 166 = .ok (.iinc 7 1, 3) := by decide +kernel
theorem dX12_summerOf_169 : decode cX12_summerOf 169 = .ok (.goto (-81), 3) := by decide +kernel
theorem dX12_summerOf_172 : decode cX12_summerOf 172 = .ok (.iconst 0, 1) := by decide +kernel
theorem dX12_summerOf_173 : decode cX12_summerOf 173 = .ok (.istore 7, 2) := by decide +kernel
theorem dX12_summerOf_175 : decode cX12_summerOf 175 = .ok (.iload 7, 2) := by decide +kernel
theorem dX12_summerOf_177 : decode cX12_summerOf 177 = .ok (.bipush 30, 2) := by decide +kernel
theorem dX12_summerOf_179 : decode cX12_summerOf 179 = .ok (.if_icmp .ge 40, 3) := by decide +kernel
theorem dX12_summerOf_182 : decode cX12_summerOf 182 = .ok (.iload 6, 2) := by decide +kernel
theorem dX12_summerOf_184 : decode cX12_summerOf 184 = .ok (.aload_n 0, 1) := by decide +kernel
theorem dX12_summerOf_185 : decode cX12_summerOf 185 = .ok (.getfield 119, 3) := by decide +kernel
theorem dX12_summerOf_188 : decode cX12_summerOf 188 = .ok (.ifCond .le 21, 3) := by decide +kernel
theorem dX12_summerOf_191 : decode cX12_summerOf 191 = .ok (.aload_n 0, 1) := by decide +kernel
theorem dX12_summerOf_192 : decode cX12_summerOf 192 = .ok (.getfield 55, 3) := by decide +kernel
theorem dX12_summerOf_195 : decode cX12_summerOf 195 = .ok (.iload 7, 2) := by decide +kernel
theorem dX12_summerOf_197 : decode cX12_summerOf 197 = .ok (.iaload, 1) := by decide +kernel
theorem dX12_summerOf_198 : decode cX12_summerOf 198 = .ok (.aload_n 0, 1) := by decide +kernel
theorem dX12_summerOf_199 : decode cX12_summerOf 199 = .ok (.getfield 119, 3) := by decide +kernel
theorem dX12_summerOf_202 : decode cX12_summerOf 202 = .ok (.if_icmp .ne 7, 3) := by decide +kernel
theorem dX12_summerOf_205 : decode cX12_summerOf 205 = .ok (.iconst 1, 1) := by decide +kernel
theorem dX12_summerOf_206 : decode cX12_summerOf 206 = .ok (.goto 4, 3) := by decide +kernel
theorem dX12_summerOf_209 : decode cX12_summerOf 209 = .ok (.iconst 0, 1) := by decide +kernel
theorem dX12_summerOf_210 : decode cX12_summerOf 210 = .ok (.iadd, 1) := by decide +kernel
theorem dX12_summerOf_211 : decode cX12_summerOf 211 = .ok (.istore 6, 2) := by decide +kernel
theorem dX12_summerOf_213 : decode cX12_summerOf 213 = .ok (.iinc 7 1, 3) := by decide +kernel
theorem dX12_summerOf_216 : decode cX12_summerOf 216 = .ok (.goto (-41), 3) := by decide +kernel
theorem dX12_summerOf_219 : decode cX12_summerOf 219 = .ok (.iload_n 3, 1) := by decide +kernel
theorem dX12_summerOf_220 : decode cX12_summerOf 220 = .ok (.ifCond .ne 8, 3) := by decide +kernel
theorem dX12_summerOf_223 : decode cX12_summerOf 223 = .ok (.iload 6, 2) := by decide +kernel
theorem dX12_summerOf_225 : decode cX12_summerOf 225 = .ok (.goto 5, 3) := by decide +kernel
theorem dX12_summerOf_228 : decode cX12_summerOf 228 = .ok (.iload 5, 2) := by decide +kernel
theorem dX12_summerOf_230 : decode cX12_summerOf 230 = .ok (.ireturn, 1) := by decide +kernel
theorem dX12_summer_0 : decode cX12_summer 0 = .ok (.iload_n 2, 1) := by decide +kernel
theorem dX12_summer_1 : decode cX12_summer 1 = .ok (.iconst 0, 1) := by decide +kernel
theorem dX12_summer_2 : decode cX12_summer 2 = .ok (.bipush 30, 2) := by decide +kernel
theorem dX12_summer_4 : decode cX12_summer 4 = .ok (.invokestatic 104, 3) := by decide +kernel
theorem dX12_summer_7 : decode cX12_summer 7 = .ok (.ifCond .eq 22, 3) := by decide +kernel
theorem dX12_summer_10 : decode cX12_summer 10 = .ok (.iload_n 3, 1) := by decide +kernel
theorem dX12_summer_11 : decode cX12_summer 11 = .ok (.iconst 0, 1) := by decide +kernel
theorem dX12_summer_12 : decode cX12_summer 12 = .ok (.iconst 1, 1) := by decide +kernel
theorem dX12_summer_13 : decode cX12_summer 13 = .ok (.invokestatic 104, 3) := by decide +kernel
theorem dX12_summer_16 : decode cX12_summer 16 = .ok (.ifCond .eq 13, 3) := by decide +kernel
theorem dX12_summer_19 : decode cX12_summer 19 = .ok (.aload_n 0, 1) := by decide +kernel
theorem dX12_summer_20 : decode cX12_summer 20 = .ok (.iload_n 1, 1) := by decide +kernel
theorem dX12_summer_21 : decode cX12_summer 21 = .ok (.iload_n 2, 1) := by decide +kernel
theorem dX12_summer_22 : decode cX12_summer 22 = .ok (.iload_n 3, 1) := by decide +kernel
theorem dX12_summer_23 : decode cX12_summer 23 = .ok (.invokevirtual 268, 3) := by decide +kernel
theorem dX12_summer_26 : decode cX12_summer 26 = .ok (.goto 5, 3) := by decide +kernel
theorem dX12_summer_29 : decode cX12_summer 29 = .ok (.bipush (-2), 2) := by decide +kernel
theorem dX12_summer_31 : decode cX12_summer 31 = .ok (.ireturn, 1) := by decide +kernel
theorem dX12_meets_0 : decode cX12_meets 0 = .ok (.aload_n 0, 1) := by decide +kernel
theorem dX12_meets_1 : decode cX12_meets 1 = .ok (.iload_n 1, 1) := by decide +kernel
theorem dX12_meets_2 : decode cX12_meets 2 = .ok (.putfield 271, 3) := by decide +kernel
theorem dX12_meets_5 : decode cX12_meets 5 = .ok (.bipush (-10), 2) := by decide +kernel
theorem dX12_meets_7 : decode cX12_meets 7 = .ok (.iload_n 1, 1) := by decide +kernel
theorem dX12_meets_8 : decode cX12_meets 8 = .ok (.isub, 1) := by decide +kernel
theorem dX12_meets_9 : decode cX12_meets 9 = .ok (.ireturn, 1) := by decide +kernel
theorem dX12_isSheet_0 : decode cX12_isSheet 0 = .ok (.iload_n 0, 1) := by decide +kernel
theorem dX12_isSheet_1 : decode cX12_isSheet 1 = .ok (.iconst 0, 1) := by decide +kernel
theorem dX12_isSheet_2 : decode cX12_isSheet 2 = .ok (.iconst 3, 1) := by decide +kernel
theorem dX12_isSheet_3 : decode cX12_isSheet 3 = .ok (.invokestatic 104, 3) := by decide +kernel
theorem dX12_isSheet_6 : decode cX12_isSheet 6 = .ok (.ireturn, 1) := by decide +kernel
theorem dX12_sheet_0 : decode cX12_sheet 0 = .ok (.iload_n 1, 1) := by decide +kernel
theorem dX12_sheet_1 : decode cX12_sheet 1 = .ok (.invokestatic 160, 3) := by decide +kernel
theorem dX12_sheet_4 : decode cX12_sheet 4 = .ok (.ifCond .eq 18, 3) := by decide +kernel
theorem dX12_sheet_7 : decode cX12_sheet 7 = .ok (.iload_n 2, 1) := by decide +kernel
theorem dX12_sheet_8 : decode cX12_sheet 8 = .ok (.iconst 0, 1) := by decide +kernel
theorem dX12_sheet_9 : decode cX12_sheet 9 = .ok (.iconst 2, 1) := by decide +kernel
theorem dX12_sheet_10 : decode cX12_sheet 10 = .ok (.invokestatic 104, 3) := by decide +kernel
theorem dX12_sheet_13 : decode cX12_sheet 13 = .ok (.ifCond .eq 9, 3) := by decide +kernel
theorem dX12_sheet_16 : decode cX12_sheet 16 = .ok (.iload_n 3, 1) := by decide +kernel
theorem dX12_sheet_17 : decode cX12_sheet 17 = .ok (.bipush 60, 2) := by decide +kernel
theorem dX12_sheet_19 : decode cX12_sheet 19 = .ok (.if_icmp .le 6, 3) := by decide +kernel
theorem dX12_sheet_22 : decode cX12_sheet 22 = .ok (.bipush (-2), 2) := by decide +kernel
theorem dX12_sheet_24 : decode cX12_sheet 24 = .ok (.ireturn, 1) := by decide +kernel
theorem dX12_sheet_25 : decode cX12_sheet 25 = .ok (.iload_n 3, 1) := by decide +kernel
theorem dX12_sheet_26 : decode cX12_sheet 26 = .ok (.ifCond .ge 9, 3) := by decide +kernel
theorem dX12_sheet_29 : decode cX12_sheet 29 = .ok (.aload_n 0, 1) := by decide +kernel
theorem dX12_sheet_30 : decode cX12_sheet 30 = .ok (.iconst 5, 1) := by decide +kernel
theorem dX12_sheet_31 : decode cX12_sheet 31 = .ok (.invokevirtual 163, 3) := by decide +kernel
theorem dX12_sheet_34 : decode cX12_sheet 34 = .ok (.ireturn, 1) := by decide +kernel
theorem dX12_sheet_35 : decode cX12_sheet 35 = .ok (.aload_n 0, 1) := by decide +kernel
theorem dX12_sheet_36 : decode cX12_sheet 36 = .ok (.getfield 79, 3) := by decide +kernel
theorem dX12_sheet_39 : decode cX12_sheet 39 = .ok (.iload_n 1, 1) := by decide +kernel
theorem dX12_sheet_40 : decode cX12_sheet 40 = .ok (.iconst 1, 1) := by decide +kernel
theorem dX12_sheet_41 : decode cX12_sheet 41 = .ok (.bastore, 1) := by decide +kernel
theorem dX12_sheet_42 : decode cX12_sheet 42 = .ok (.aload_n 0, 1) := by decide +kernel
theorem dX12_sheet_43 : decode cX12_sheet 43 = .ok (.getfield 83, 3) := by decide +kernel
theorem dX12_sheet_46 : decode cX12_sheet 46 = .ok (.iload_n 1, 1) := by decide +kernel
theorem dX12_sheet_47 : decode cX12_sheet 47 = .ok (.iload_n 2, 1) := by decide +kernel
theorem dX12_sheet_48 : decode cX12_sheet 48 = .ok (.iastore, 1) := by decide +kernel
theorem dX12_sheet_49 : decode cX12_sheet 49 = .ok (.aload_n 0, 1) := by decide +kernel
theorem dX12_sheet_50 : decode cX12_sheet 50 = .ok (.getfield 86, 3) := by decide +kernel
theorem dX12_sheet_53 : decode cX12_sheet 53 = .ok (.iload_n 1, 1) := by decide +kernel
theorem dX12_sheet_54 : decode cX12_sheet 54 = .ok (.iload_n 3, 1) := by decide +kernel
theorem dX12_sheet_55 : decode cX12_sheet 55 = .ok (.iastore, 1) := by decide +kernel
theorem dX12_sheet_56 : decode cX12_sheet 56 = .ok (.iconst 0, 1) := by decide +kernel
theorem dX12_sheet_57 : decode cX12_sheet 57 = .ok (.istore 4, 2) := by decide +kernel
theorem dX12_sheet_59 : decode cX12_sheet 59 = .ok (.iload 4, 2) := by decide +kernel
theorem dX12_sheet_61 : decode cX12_sheet 61 = .ok (.bipush 60, 2) := by decide +kernel
theorem dX12_sheet_63 : decode cX12_sheet 63 = .ok (.if_icmp .ge 22, 3) := by decide +kernel
theorem dX12_sheet_66 : decode cX12_sheet 66 = .ok (.aload_n 0, 1) := by decide +kernel
theorem dX12_sheet_67 : decode cX12_sheet 67 = .ok (.getfield 89, 3) := by decide +kernel
theorem dX12_sheet_70 : decode cX12_sheet 70 = .ok (.bipush 60, 2) := by decide +kernel
theorem dX12_sheet_72 : decode cX12_sheet 72 = .ok (.iload_n 1, 1) := by decide +kernel
theorem dX12_sheet_73 : decode cX12_sheet 73 = .ok (.imul, 1) := by decide +kernel
theorem dX12_sheet_74 : decode cX12_sheet 74 = .ok (.iload 4, 2) := by decide +kernel
theorem dX12_sheet_76 : decode cX12_sheet 76 = .ok (.iadd, 1) := by decide +kernel
theorem dX12_sheet_77 : decode cX12_sheet 77 = .ok (.iconst 0, 1) := by decide +kernel
theorem dX12_sheet_78 : decode cX12_sheet 78 = .ok (.iastore, 1) := by decide +kernel
theorem dX12_sheet_79 : decode cX12_sheet 79 = .ok (.iinc 4 1, 3) := by decide +kernel
theorem dX12_sheet_82 : decode cX12_sheet 82 = .ok (.goto (-23), 3) := by decide +kernel
theorem dX12_sheet_85 : decode cX12_sheet 85 = .ok (.iload_n 3, 1) := by decide +kernel
theorem dX12_sheet_86 : decode cX12_sheet 86 = .ok (.ireturn, 1) := by decide +kernel
theorem dX12_lose_0 : decode cX12_lose 0 = .ok (.iload_n 1, 1) := by decide +kernel
theorem dX12_lose_1 : decode cX12_lose 1 = .ok (.invokestatic 160, 3) := by decide +kernel
theorem dX12_lose_4 : decode cX12_lose 4 = .ok (.ifCond .ne 6, 3) := by decide +kernel
theorem dX12_lose_7 : decode cX12_lose 7 = .ok (.bipush (-2), 2) := by decide +kernel
theorem dX12_lose_9 : decode cX12_lose 9 = .ok (.ireturn, 1) := by decide +kernel
theorem dX12_lose_10 : decode cX12_lose 10 = .ok (.aload_n 0, 1) := by decide +kernel
theorem dX12_lose_11 : decode cX12_lose 11 = .ok (.getfield 79, 3) := by decide +kernel
theorem dX12_lose_14 : decode cX12_lose 14 = .ok (.iload_n 1, 1) := by decide +kernel
theorem dX12_lose_15 : decode cX12_lose 15 = .ok (.baload, 1) := by decide +kernel
theorem dX12_lose_16 : decode cX12_lose 16 = .ok (.ifCond .ne 9, 3) := by decide +kernel
theorem dX12_lose_19 : decode cX12_lose 19 = .ok (.aload_n 0, 1) := by decide +kernel
theorem dX12_lose_20 : decode cX12_lose 20 = .ok (.iconst 1, 1) := by decide +kernel
theorem dX12_lose_21 : decode cX12_lose 21 = .ok (.invokevirtual 163, 3) := by decide +kernel
theorem dX12_lose_24 : decode cX12_lose 24 = .ok (.ireturn, 1) := by decide +kernel
theorem dX12_lose_25 : decode cX12_lose 25 = .ok (.aload_n 0, 1) := by decide +kernel
theorem dX12_lose_26 : decode cX12_lose 26 = .ok (.getfield 79, 3) := by decide +kernel
theorem dX12_lose_29 : decode cX12_lose 29 = .ok (.iload_n 1, 1) := by decide +kernel
theorem dX12_lose_30 : decode cX12_lose 30 = .ok (.iconst 0, 1) := by decide +kernel
theorem dX12_lose_31 : decode cX12_lose 31 = .ok (.bastore, 1) := by decide +kernel
theorem dX12_lose_32 : decode cX12_lose 32 = .ok (.aload_n 0, 1) := by decide +kernel
theorem dX12_lose_33 : decode cX12_lose 33 = .ok (.getfield 86, 3) := by decide +kernel
theorem dX12_lose_36 : decode cX12_lose 36 = .ok (.iload_n 1, 1) := by decide +kernel
theorem dX12_lose_37 : decode cX12_lose 37 = .ok (.iaload, 1) := by decide +kernel
theorem dX12_lose_38 : decode cX12_lose 38 = .ok (.ireturn, 1) := by decide +kernel
theorem dX12_lacks_0 : decode cX12_lacks 0 = .ok (.aload_n 0, 1) := by decide +kernel
theorem dX12_lacks_1 : decode cX12_lacks 1 = .ok (.getfield 79, 3) := by decide +kernel
theorem dX12_lacks_4 : decode cX12_lacks 4 = .ok (.iload_n 1, 1) := by decide +kernel
theorem dX12_lacks_5 : decode cX12_lacks 5 = .ok (.baload, 1) := by decide +kernel
theorem dX12_lacks_6 : decode cX12_lacks 6 = .ok (.ifCond .ne 7, 3) := by decide +kernel
theorem dX12_lacks_9 : decode cX12_lacks 9 = .ok (.iconst 1, 1) := by decide +kernel
theorem dX12_lacks_10 : decode cX12_lacks 10 = .ok (.goto 38, 3) := by decide +kernel
theorem dX12_lacks_13 : decode cX12_lacks 13 = .ok (.aload_n 0, 1) := by decide +kernel
theorem dX12_lacks_14 : decode cX12_lacks 14 = .ok (.getfield 83, 3) := by decide +kernel
theorem dX12_lacks_17 : decode cX12_lacks 17 = .ok (.iload_n 1, 1) := by decide +kernel
theorem dX12_lacks_18 : decode cX12_lacks 18 = .ok (.iaload, 1) := by decide +kernel
theorem dX12_lacks_19 : decode cX12_lacks 19 = .ok (.iload_n 2, 1) := by decide +kernel
theorem dX12_lacks_20 : decode cX12_lacks 20 = .ok (.if_icmp .eq 7, 3) := by decide +kernel
theorem dX12_lacks_23 : decode cX12_lacks 23 = .ok (.iconst 3, 1) := by decide +kernel
theorem dX12_lacks_24 : decode cX12_lacks 24 = .ok (.goto 24, 3) := by decide +kernel
theorem dX12_lacks_27 : decode cX12_lacks 27 = .ok (.iload_n 3, 1) := by decide +kernel
theorem dX12_lacks_28 : decode cX12_lacks 28 = .ok (.iconst 0, 1) := by decide +kernel
theorem dX12_lacks_29 : decode cX12_lacks 29 = .ok (.aload_n 0, 1) := by decide +kernel
theorem dX12_lacks_30 : decode cX12_lacks 30 = .ok (.getfield 86, 3) := by decide +kernel
theorem dX12_lacks_33 : decode cX12_lacks 33 = .ok (.iload_n 1, 1) := by decide +kernel
theorem dX12_lacks_34 : decode cX12_lacks 34 = .ok (.iaload, 1) := by decide +kernel
theorem dX12_lacks_35 : decode cX12_lacks 35 = .ok (.iconst 1, 1) := by decide +kernel
theorem dX12_lacks_36 : decode cX12_lacks 36 = .ok (.isub, 1) := by decide +kernel
theorem dX12_lacks_37 : decode cX12_lacks 37 = .ok (.invokestatic 104, 3) := by decide +kernel
theorem dX12_lacks_40 : decode cX12_lacks 40 = .ok (.ifCond .eq 7, 3) := by decide +kernel
theorem dX12_lacks_43 : decode cX12_lacks 43 = .ok (.iconst 0, 1) := by decide +kernel
theorem dX12_lacks_44 : decode cX12_lacks 44 = .ok (.goto 4, 3) := by decide +kernel
theorem dX12_lacks_47 : decode cX12_lacks 47 = .ok (.iconst 2, 1) := by decide +kernel
theorem dX12_lacks_48 : decode cX12_lacks 48 = .ok (.ireturn, 1) := by decide +kernel
theorem dX12_keep_0 : decode cX12_keep 0 = .ok (.aload_n 0, 1) := by decide +kernel
theorem dX12_keep_1 : decode cX12_keep 1 = .ok (.getfield 89, 3) := by decide +kernel
theorem dX12_keep_4 : decode cX12_keep 4 = .ok (.bipush 60, 2) := by decide +kernel
theorem dX12_keep_6 : decode cX12_keep 6 = .ok (.iload_n 1, 1) := by decide +kernel
theorem dX12_keep_7 : decode cX12_keep 7 = .ok (.imul, 1) := by decide +kernel
theorem dX12_keep_8 : decode cX12_keep 8 = .ok (.iload_n 2, 1) := by decide +kernel
theorem dX12_keep_9 : decode cX12_keep 9 = .ok (.iadd, 1) := by decide +kernel
theorem dX12_keep_10 : decode cX12_keep 10 = .ok (.aload_n 0, 1) := by decide +kernel
theorem dX12_keep_11 : decode cX12_keep 11 = .ok (.getfield 83, 3) := by decide +kernel
theorem dX12_keep_14 : decode cX12_keep 14 = .ok (.iload_n 1, 1) := by decide +kernel
theorem dX12_keep_15 : decode cX12_keep 15 = .ok (.iaload, 1) := by decide +kernel
theorem dX12_keep_16 : decode cX12_keep 16 = .ok (.ifCond .ne 8, 3) := by decide +kernel
theorem dX12_keep_19 : decode cX12_keep 19 = .ok (.iload_n 3, 1) := by decide +kernel
theorem dX12_keep_20 : decode cX12_keep 20 = .ok (.i2b, 1) := by decide +kernel
theorem dX12_keep_21 : decode cX12_keep 21 = .ok (.goto 19, 3) := by decide +kernel
theorem dX12_keep_24 : decode cX12_keep 24 = .ok (.aload_n 0, 1) := by decide +kernel
theorem dX12_keep_25 : decode cX12_keep 25 = .ok (.getfield 83, 3) := by decide +kernel
theorem dX12_keep_28 : decode cX12_keep 28 = .ok (.iload_n 1, 1) := by decide +kernel
theorem dX12_keep_29 : decode cX12_keep 29 = .ok (.iaload, 1) := by decide +kernel
theorem dX12_keep_30 : decode cX12_keep 30 = .ok (.iconst 1, 1) := by decide +kernel
theorem dX12_keep_31 : decode cX12_keep 31 = .ok (.if_icmp .ne 8, 3) := by decide +kernel
theorem dX12_keep_34 : decode cX12_keep 34 = .ok (.iload_n 3, 1) := by decide +kernel
theorem dX12_keep_35 : decode cX12_keep 35 = .ok (.i2s, 1) := by decide +kernel
theorem dX12_keep_36 : decode cX12_keep 36 = .ok (.goto 4, 3) := by decide +kernel
theorem dX12_keep_39 : decode cX12_keep 39 = .ok (.iload_n 3, 1) := by decide +kernel
theorem dX12_keep_40 : decode cX12_keep 40 = .ok (.iastore, 1) := by decide +kernel
theorem dX12_keep_41 : decode cX12_keep 41 = .ok (.return_, 1) := by decide +kernel
theorem dX12_put_0 : decode cX12_put 0 = .ok (.iload_n 1, 1) := by decide +kernel
theorem dX12_put_1 : decode cX12_put 1 = .ok (.invokestatic 160, 3) := by decide +kernel
theorem dX12_put_4 : decode cX12_put 4 = .ok (.ifCond .eq 12, 3) := by decide +kernel
theorem dX12_put_7 : decode cX12_put 7 = .ok (.iload_n 2, 1) := by decide +kernel
theorem dX12_put_8 : decode cX12_put 8 = .ok (.iconst 0, 1) := by decide +kernel
theorem dX12_put_9 : decode cX12_put 9 = .ok (.iconst 2, 1) := by decide +kernel
theorem dX12_put_10 : decode cX12_put 10 = .ok (.invokestatic 104, 3) := by decide +kernel
theorem dX12_put_13 : decode cX12_put 13 = .ok (.ifCond .ne 6, 3) := by decide +kernel
theorem dX12_put_16 : decode cX12_put 16 = .ok (.bipush (-2), 2) := by decide +kernel
theorem dX12_put_18 : decode cX12_put 18 = .ok (.ireturn, 1) := by decide +kernel
theorem dX12_put_19 : decode cX12_put 19 = .ok (.aload_n 0, 1) := by decide +kernel
theorem dX12_put_20 : decode cX12_put 20 = .ok (.iload_n 1, 1) := by decide +kernel
theorem dX12_put_21 : decode cX12_put 21 = .ok (.iload_n 2, 1) := by decide +kernel
theorem dX12_put_22 : decode cX12_put 22 = .ok (.iload_n 3, 1) := by decide +kernel
theorem dX12_put_23 : decode cX12_put 23 = .ok (.invokevirtual 274, 3) := by decide +kernel
theorem dX12_put_26 : decode cX12_put 26 = .ok (.istore 5, 2) := by decide +kernel
theorem dX12_put_28 : decode cX12_put 28 = .ok (.iload 5, 2) := by decide +kernel
theorem dX12_put_30 : decode cX12_put 30 = .ok (.ifCond .le 10, 3) := by decide +kernel
theorem dX12_put_33 : decode cX12_put 33 = .ok (.aload_n 0, 1) := by decide +kernel
theorem dX12_put_34 : decode cX12_put 34 = .ok (.iload 5, 2) := by decide +kernel
theorem dX12_put_36 : decode cX12_put 36 = .ok (.invokevirtual 163, 3) := by decide +kernel
theorem dX12_put_39 : decode cX12_put 39 = .ok (.ireturn, 1) := by decide +kernel
theorem dX12_put_40 : decode cX12_put 40 = .ok (.aload_n 0, 1) := by decide +kernel
theorem dX12_put_41 : decode cX12_put 41 = .ok (.iload_n 1, 1) := by decide +kernel
theorem dX12_put_42 : decode cX12_put 42 = .ok (.iload_n 3, 1) := by decide +kernel
theorem dX12_put_43 : decode cX12_put 43 = .ok (.iload 4, 2) := by decide +kernel
theorem dX12_put_45 : decode cX12_put 45 = .ok (.invokevirtual 277, 3) := by decide +kernel
theorem dX12_put_48 : decode cX12_put 48 = .ok (.iconst 1, 1) := by decide +kernel
theorem dX12_put_49 : decode cX12_put 49 = .ok (.ireturn, 1) := by decide +kernel
theorem dX12_get_0 : decode cX12_get 0 = .ok (.iload_n 1, 1) := by decide +kernel
theorem dX12_get_1 : decode cX12_get 1 = .ok (.invokestatic 160, 3) := by decide +kernel
theorem dX12_get_4 : decode cX12_get 4 = .ok (.ifCond .eq 12, 3) := by decide +kernel
theorem dX12_get_7 : decode cX12_get 7 = .ok (.iload_n 2, 1) := by decide +kernel
theorem dX12_get_8 : decode cX12_get 8 = .ok (.iconst 0, 1) := by decide +kernel
theorem dX12_get_9 : decode cX12_get 9 = .ok (.iconst 2, 1) := by decide +kernel
theorem dX12_get_10 : decode cX12_get 10 = .ok (.invokestatic 104, 3) := by decide +kernel
theorem dX12_get_13 : decode cX12_get 13 = .ok (.ifCond .ne 7, 3) := by decide +kernel
theorem dX12_get_16 : decode cX12_get 16 = .ok (.ldc_w 281, 3) := by decide +kernel
theorem dX12_get_19 : decode cX12_get 19 = .ok (.ireturn, 1) := by decide +kernel
theorem dX12_get_20 : decode cX12_get 20 = .ok (.aload_n 0, 1) := by decide +kernel
theorem dX12_get_21 : decode cX12_get 21 = .ok (.iload_n 1, 1) := by decide +kernel
theorem dX12_get_22 : decode cX12_get 22 = .ok (.iload_n 2, 1) := by decide +kernel
theorem dX12_get_23 : decode cX12_get 23 = .ok (.iload_n 3, 1) := by decide +kernel
theorem dX12_get_24 : decode cX12_get 24 = .ok (.invokevirtual 274, 3) := by decide +kernel
theorem dX12_get_27 : decode cX12_get 27 = .ok (.istore 4, 2) := by decide +kernel
theorem dX12_get_29 : decode cX12_get 29 = .ok (.iload 4, 2) := by decide +kernel
theorem dX12_get_31 : decode cX12_get 31 = .ok (.ifCond .le 13, 3) := by decide +kernel
theorem dX12_get_34 : decode cX12_get 34 = .ok (.aload_n 0, 1) := by decide +kernel
theorem dX12_get_35 : decode cX12_get 35 = .ok (.iload 4, 2) := by decide +kernel
theorem dX12_get_37 : decode cX12_get 37 = .ok (.putfield 271, 3) := by decide +kernel
theorem dX12_get_40 : decode cX12_get 40 = .ok (.ldc_w 281, 3) := by decide +kernel
theorem dX12_get_43 : decode cX12_get 43 = .ok (.ireturn, 1) := by decide +kernel
theorem dX12_get_44 : decode cX12_get 44 = .ok (.aload_n 0, 1) := by decide +kernel
theorem dX12_get_45 : decode cX12_get 45 = .ok (.getfield 89, 3) := by decide +kernel
theorem dX12_get_48 : decode cX12_get 48 = .ok (.bipush 60, 2) := by decide +kernel
theorem dX12_get_50 : decode cX12_get 50 = .ok (.iload_n 1, 1) := by decide +kernel
theorem dX12_get_51 : decode cX12_get 51 = .ok (.imul, 1) := by decide +kernel
theorem dX12_get_52 : decode cX12_get 52 = .ok (.iload_n 3, 1) := by decide +kernel
theorem dX12_get_53 : decode cX12_get 53 = .ok (.iadd, 1) := by decide +kernel
theorem dX12_get_54 : decode cX12_get 54 = .ok (.iaload, 1) := by decide +kernel
theorem dX12_get_55 : decode cX12_get 55 = .ok (.ireturn, 1) := by decide +kernel
theorem dX12_copy_0 : decode cX12_copy 0 = .ok (.iload_n 1, 1) := by decide +kernel
theorem dX12_copy_1 : decode cX12_copy 1 = .ok (.invokestatic 160, 3) := by decide +kernel
theorem dX12_copy_4 : decode cX12_copy 4 = .ok (.ifCond .eq 10, 3) := by decide +kernel
theorem dX12_copy_7 : decode cX12_copy 7 = .ok (.iload_n 3, 1) := by decide +kernel
theorem dX12_copy_8 : decode cX12_copy 8 = .ok (.invokestatic 160, 3) := by decide +kernel
theorem dX12_copy_11 : decode cX12_copy 11 = .ok (.ifCond .ne 6, 3) := by decide +kernel
theorem dX12_copy_14 : decode cX12_copy 14 = .ok (.bipush (-2), 2) := by decide +kernel
theorem dX12_copy_16 : decode cX12_copy 16 = .ok (.ireturn, 1) := by decide +kernel
theorem dX12_copy_17 : decode cX12_copy 17 = .ok (.aload_n 0, 1) := by decide +kernel
theorem dX12_copy_18 : decode cX12_copy 18 = .ok (.getfield 79, 3) := by decide +kernel
theorem dX12_copy_21 : decode cX12_copy 21 = .ok (.iload_n 1, 1) := by decide +kernel
theorem dX12_copy_22 : decode cX12_copy 22 = .ok (.baload, 1) := by decide +kernel
theorem dX12_copy_23 : decode cX12_copy 23 = .ok (.ifCond .eq 12, 3) := by decide +kernel
theorem dX12_copy_26 : decode cX12_copy 26 = .ok (.aload_n 0, 1) := by decide +kernel
theorem dX12_copy_27 : decode cX12_copy 27 = .ok (.getfield 79, 3) := by decide +kernel
theorem dX12_copy_30 : decode cX12_copy 30 = .ok (.iload_n 3, 1) := by decide +kernel
theorem dX12_copy_31 : decode cX12_copy 31 = .ok (.baload, 1) := by decide +kernel
theorem dX12_copy_32 : decode cX12_copy 32 = .ok (.ifCond .ne 9, 3) := by decide +kernel
theorem dX12_copy_35 : decode cX12_copy 35 = .ok (.aload_n 0, 1) := by decide +kernel
theorem dX12_copy_36 : decode cX12_copy 36 = .ok (.iconst 1, 1) := by decide +kernel
theorem dX12_copy_37 : decode cX12_copy 37 = .ok (.invokevirtual 163, 3) := by decide +kernel
theorem dX12_copy_40 : decode cX12_copy 40 = .ok (.ireturn, 1) := by decide +kernel
theorem dX12_copy_41 : decode cX12_copy 41 = .ok (.aload_n 0, 1) := by decide +kernel
theorem dX12_copy_42 : decode cX12_copy 42 = .ok (.getfield 83, 3) := by decide +kernel
theorem dX12_copy_45 : decode cX12_copy 45 = .ok (.iload_n 1, 1) := by decide +kernel
theorem dX12_copy_46 : decode cX12_copy 46 = .ok (.iaload, 1) := by decide +kernel
theorem dX12_copy_47 : decode cX12_copy 47 = .ok (.aload_n 0, 1) := by decide +kernel
theorem dX12_copy_48 : decode cX12_copy 48 = .ok (.getfield 83, 3) := by decide +kernel
theorem dX12_copy_51 : decode cX12_copy 51 = .ok (.iload_n 3, 1) := by decide +kernel
theorem dX12_copy_52 : decode cX12_copy 52 = .ok (.iaload, 1) := by decide +kernel
theorem dX12_copy_53 : decode cX12_copy 53 = .ok (.if_icmp .eq 9, 3) := by decide +kernel
theorem dX12_copy_56 : decode cX12_copy 56 = .ok (.aload_n 0, 1) := by decide +kernel
theorem dX12_copy_57 : decode cX12_copy 57 = .ok (.iconst 4, 1) := by decide +kernel
theorem dX12_copy_58 : decode cX12_copy 58 = .ok (.invokevirtual 163, 3) := by decide +kernel
theorem dX12_copy_61 : decode cX12_copy 61 = .ok (.ireturn, 1) := by decide +kernel
theorem dX12_copy_62 : decode cX12_copy 62 = .ok (.iload_n 2, 1) := by decide +kernel
theorem dX12_copy_63 : decode cX12_copy 63 = .ok (.ifCond .lt 48, 3) := by decide +kernel
theorem dX12_copy_66 : decode cX12_copy 66 = .ok (.iload 4, 2) := by decide +kernel
theorem dX12_copy_68 : decode cX12_copy 68 = .ok (.ifCond .lt 43, 3) := by decide +kernel
theorem dX12_copy_71 : decode cX12_copy 71 = .ok (.iload 5, 2) := by decide +kernel
theorem dX12_copy_73 : decode cX12_copy 73 = .ok (.ifCond .lt 38, 3) := by decide +kernel
theorem dX12_copy_76 : decode cX12_copy 76 = .ok (.iload_n 2, 1) := by decide +kernel
theorem dX12_copy_77 : decode cX12_copy 77 = .ok (.i2l, 1) := by decide +kernel
theorem dX12_copy_78 : decode cX12_copy 78 = .ok (.iload 5, 2) := by decide +kernel
theorem dX12_copy_80 : decode cX12_copy 80 = .ok (.i2l, 1) := by decide +kernel
theorem dX12_copy_81 : decode cX12_copy 81 = .ok (.ladd, 1) := by decide +kernel
theorem dX12_copy_82 : decode cX12_copy 82 = .ok (.aload_n 0, 1) := by decide +kernel
theorem dX12_copy_83 : decode cX12_copy 83 = .ok (.getfield 86, 3) := by decide +kernel
theorem dX12_copy_86 : decode cX12_copy 86 = .ok (.iload_n 1, 1) := by decide +kernel
theorem dX12_copy_87 : decode cX12_copy 87 = .ok (.iaload, 1) := by decide +kernel
theorem dX12_copy_88 : decode cX12_copy 88 = .ok (.i2l, 1) := by decide +kernel
theorem dX12_copy_89 : decode cX12_copy 89 = .ok (.lcmp, 1) := by decide +kernel
theorem dX12_copy_90 : decode cX12_copy 90 = .ok (.ifCond .gt 21, 3) := by decide +kernel
theorem dX12_copy_93 : decode cX12_copy 93 = .ok (.iload 4, 2) := by decide +kernel
theorem dX12_copy_95 : decode cX12_copy 95 = .ok (.i2l, 1) := by decide +kernel
theorem dX12_copy_96 : decode cX12_copy 96 = .ok (.iload 5, 2) := by decide +kernel
theorem dX12_copy_98 : decode cX12_copy 98 = .ok (.i2l, 1) := by decide +kernel
theorem dX12_copy_99 : decode cX12_copy 99 = .ok (.ladd, 1) := by decide +kernel
theorem dX12_copy_100 : decode cX12_copy 100 = .ok (.aload_n 0, 1) := by decide +kernel
theorem dX12_copy_101 : decode cX12_copy 101 = .ok (.getfield 86, 3) := by decide +kernel
theorem dX12_copy_104 : decode cX12_copy 104 = .ok (.iload_n 3, 1) := by decide +kernel
theorem dX12_copy_105 : decode cX12_copy 105 = .ok (.iaload, 1) := by decide +kernel
theorem dX12_copy_106 : decode cX12_copy 106 = .ok (.i2l, 1) := by decide +kernel
theorem dX12_copy_107 : decode cX12_copy 107 = .ok (.lcmp, 1) := by decide +kernel
theorem dX12_copy_108 : decode cX12_copy 108 = .ok (.ifCond .le 9, 3) := by decide +kernel
theorem dX12_copy_111 : decode cX12_copy 111 = .ok (.aload_n 0, 1) := by decide +kernel
theorem dX12_copy_112 : decode cX12_copy 112 = .ok (.iconst 2, 1) := by decide +kernel
theorem dX12_copy_113 : decode cX12_copy 113 = .ok (.invokevirtual 163, 3) := by decide +kernel
theorem dX12_copy_116 : decode cX12_copy 116 = .ok (.ireturn, 1) := by decide +kernel
theorem dX12_copy_117 : decode cX12_copy 117 = .ok (.iconst 0, 1) := by decide +kernel
theorem dX12_copy_118 : decode cX12_copy 118 = .ok (.istore 6, 2) := by decide +kernel
theorem dX12_copy_120 : decode cX12_copy 120 = .ok (.iload 6, 2) := by decide +kernel
theorem dX12_copy_122 : decode cX12_copy 122 = .ok (.iload 5, 2) := by decide +kernel
theorem dX12_copy_124 : decode cX12_copy 124 = .ok (.if_icmp .ge 30, 3) := by decide +kernel
theorem dX12_copy_127 : decode cX12_copy 127 = .ok (.aload_n 0, 1) := by decide +kernel
theorem dX12_copy_128 : decode cX12_copy 128 = .ok (.getfield 92, 3) := by decide +kernel
theorem dX12_copy_131 : decode cX12_copy 131 = .ok (.iload 6, 2) := by decide +kernel
theorem dX12_copy_133 : decode cX12_copy 133 = .ok (.aload_n 0, 1) := by decide +kernel
theorem dX12_copy_134 : decode cX12_copy 134 = .ok (.getfield 89, 3) := by decide +kernel
theorem dX12_copy_137 : decode cX12_copy 137 = .ok (.bipush 60, 2) := by decide +kernel
theorem dX12_copy_139 : decode cX12_copy 139 = .ok (.iload_n 1, 1) := by decide +kernel
theorem dX12_copy_140 : decode cX12_copy 140 = .ok (.imul, 1) := by decide +kernel
theorem dX12_copy_141 : decode cX12_copy 141 = .ok (.iload_n 2, 1) := by decide +kernel
theorem dX12_copy_142 : decode cX12_copy 142 = .ok (.iadd, 1) := by decide +kernel
theorem dX12_copy_143 : decode cX12_copy 143 = .ok (.iload 6, 2) := by decide +kernel
theorem dX12_copy_145 : decode cX12_copy 145 = .ok (.iadd, 1) := by decide +kernel
theorem dX12_copy_146 : decode cX12_copy 146 = .ok (.iaload, 1) := by decide +kernel
theorem dX12_copy_147 : decode cX12_copy 147 = .ok (.iastore, 1) := by decide +kernel
theorem dX12_copy_148 : decode cX12_copy 148 = .ok (.iinc 6 1, 3) := by decide +kernel
theorem dX12_copy_151 : decode cX12_copy 151 = .ok (.goto (-31), 3) := by decide +kernel
theorem dX12_copy_154 : decode cX12_copy 154 = .ok (.iconst 0, 1) := by decide +kernel
theorem dX12_copy_155 : decode cX12_copy 155 = .ok (.istore 6, 2) := by decide +kernel
theorem dX12_copy_157 : decode cX12_copy 157 = .ok (.iload 6, 2) := by decide +kernel
theorem dX12_copy_159 : decode cX12_copy 159 = .ok (.iload 5, 2) := by decide +kernel
theorem dX12_copy_161 : decode cX12_copy 161 = .ok (.if_icmp .ge 31, 3) := by decide +kernel
theorem dX12_copy_164 : decode cX12_copy 164 = .ok (.aload_n 0, 1) := by decide +kernel
theorem dX12_copy_165 : decode cX12_copy 165 = .ok (.getfield 89, 3) := by decide +kernel
theorem dX12_copy_168 : decode cX12_copy 168 = .ok (.bipush 60, 2) := by decide +kernel
theorem dX12_copy_170 : decode cX12_copy 170 = .ok (.iload_n 3, 1) := by decide +kernel
theorem dX12_copy_171 : decode cX12_copy 171 = .ok (.imul, 1) := by decide +kernel
theorem dX12_copy_172 : decode cX12_copy 172 = .ok (.iload 4, 2) := by decide +kernel
theorem dX12_copy_174 : decode cX12_copy 174 = .ok (.iadd, 1) := by decide +kernel
theorem dX12_copy_175 : decode cX12_copy 175 = .ok (.iload 6, 2) := by decide +kernel
theorem dX12_copy_177 : decode cX12_copy 177 = .ok (.iadd, 1) := by decide +kernel
theorem dX12_copy_178 : decode cX12_copy 178 = .ok (.aload_n 0, 1) := by decide +kernel
theorem dX12_copy_179 : decode cX12_copy 179 = .ok (.getfield 92, 3) := by decide +kernel
theorem dX12_copy_182 : decode cX12_copy 182 = .ok (.iload 6, 2) := by decide +kernel
theorem dX12_copy_184 : decode cX12_copy 184 = .ok (.iaload, 1) := by decide +kernel
theorem dX12_copy_185 : decode cX12_copy 185 = .ok (.iastore, 1) := by decide +kernel
theorem dX12_copy_186 : decode cX12_copy 186 = .ok (.iinc 6 1, 3) := by decide +kernel
theorem dX12_copy_189 : decode cX12_copy 189 = .ok (.goto (-32), 3) := by decide +kernel
theorem dX12_copy_192 : decode cX12_copy 192 = .ok (.iconst 1, 1) := by decide +kernel
theorem dX12_copy_193 : decode cX12_copy 193 = .ok (.ireturn, 1) := by decide +kernel
theorem dX12_write_0 : decode cX12_write 0 = .ok (.aload_n 0, 1) := by decide +kernel
theorem dX12_write_1 : decode cX12_write 1 = .ok (.iload_n 1, 1) := by decide +kernel
theorem dX12_write_2 : decode cX12_write 2 = .ok (.invokevirtual 142, 3) := by decide +kernel
theorem dX12_write_5 : decode cX12_write 5 = .ok (.ifCond .eq 10, 3) := by decide +kernel
theorem dX12_write_8 : decode cX12_write 8 = .ok (.iload_n 2, 1) := by decide +kernel
theorem dX12_write_9 : decode cX12_write 9 = .ok (.invokestatic 160, 3) := by decide +kernel
theorem dX12_write_12 : decode cX12_write 12 = .ok (.ifCond .ne 6, 3) := by decide +kernel
theorem dX12_write_15 : decode cX12_write 15 = .ok (.bipush (-2), 2) := by decide +kernel
theorem dX12_write_17 : decode cX12_write 17 = .ok (.ireturn, 1) := by decide +kernel
theorem dX12_write_18 : decode cX12_write 18 = .ok (.aload_n 0, 1) := by decide +kernel
theorem dX12_write_19 : decode cX12_write 19 = .ok (.getfield 79, 3) := by decide +kernel
theorem dX12_write_22 : decode cX12_write 22 = .ok (.iload_n 2, 1) := by decide +kernel
theorem dX12_write_23 : decode cX12_write 23 = .ok (.baload, 1) := by decide +kernel
theorem dX12_write_24 : decode cX12_write 24 = .ok (.ifCond .ne 9, 3) := by decide +kernel
theorem dX12_write_27 : decode cX12_write 27 = .ok (.aload_n 0, 1) := by decide +kernel
theorem dX12_write_28 : decode cX12_write 28 = .ok (.iconst 1, 1) := by decide +kernel
theorem dX12_write_29 : decode cX12_write 29 = .ok (.invokevirtual 163, 3) := by decide +kernel
theorem dX12_write_32 : decode cX12_write 32 = .ok (.ireturn, 1) := by decide +kernel
theorem dX12_write_33 : decode cX12_write 33 = .ok (.aload_n 0, 1) := by decide +kernel
theorem dX12_write_34 : decode cX12_write 34 = .ok (.iload_n 1, 1) := by decide +kernel
theorem dX12_write_35 : decode cX12_write 35 = .ok (.invokevirtual 196, 3) := by decide +kernel
theorem dX12_write_38 : decode cX12_write 38 = .ok (.iconst 0, 1) := by decide +kernel
theorem dX12_write_39 : decode cX12_write 39 = .ok (.istore_n 3, 1) := by decide +kernel
theorem dX12_write_40 : decode cX12_write 40 = .ok (.iload_n 3, 1) := by decide +kernel
theorem dX12_write_41 : decode cX12_write 41 = .ok (.aload_n 0, 1) := by decide +kernel
theorem dX12_write_42 : decode cX12_write 42 = .ok (.getfield 86, 3) := by decide +kernel
theorem dX12_write_45 : decode cX12_write 45 = .ok (.iload_n 2, 1) := by decide +kernel
theorem dX12_write_46 : decode cX12_write 46 = .ok (.iaload, 1) := by decide +kernel
theorem dX12_write_47 : decode cX12_write 47 = .ok (.if_icmp .ge 27, 3) := by decide +kernel
theorem dX12_write_50 : decode cX12_write 50 = .ok (.iload_n 3, 1) := by decide +kernel
theorem dX12_write_51 : decode cX12_write 51 = .ok (.bipush 30, 2) := by decide +kernel
theorem dX12_write_53 : decode cX12_write 53 = .ok (.if_icmp .ge 21, 3) := by decide +kernel
theorem dX12_write_56 : decode cX12_write 56 = .ok (.aload_n 0, 1) := by decide +kernel
theorem dX12_write_57 : decode cX12_write 57 = .ok (.iload_n 2, 1) := by decide +kernel
theorem dX12_write_58 : decode cX12_write 58 = .ok (.iload_n 3, 1) := by decide +kernel
theorem dX12_write_59 : decode cX12_write 59 = .ok (.aload_n 0, 1) := by decide +kernel
theorem dX12_write_60 : decode cX12_write 60 = .ok (.getfield 49, 3) := by decide +kernel
theorem dX12_write_63 : decode cX12_write 63 = .ok (.iload_n 3, 1) := by decide +kernel
theorem dX12_write_64 : decode cX12_write 64 = .ok (.iaload, 1) := by decide +kernel
theorem dX12_write_65 : decode cX12_write 65 = .ok (.invokevirtual 277, 3) := by decide +kernel
theorem dX12_write_68 : decode cX12_write 68 = .ok (.iinc 3 1, 3) := by decide +kernel
theorem dX12_write_71 : decode cX12_write 71 = .ok (.goto (-31), 3) := by decide +kernel
theorem dX12_write_74 : decode cX12_write 74 = .ok (.iload_n 3, 1) := by decide +kernel
theorem dX12_write_75 : decode cX12_write 75 = .ok (.ireturn, 1) := by decide +kernel
theorem dX12_eatenNow_0 : decode cX12_eatenNow 0 = .ok (.aload_n 0, 1) := by decide +kernel
theorem dX12_eatenNow_1 : decode cX12_eatenNow 1 = .ok (.invokevirtual 190, 3) := by decide +kernel
theorem dX12_eatenNow_4 : decode cX12_eatenNow 4 = .ok (.iconst 0, 1) := by decide +kernel
theorem dX12_eatenNow_5 : decode cX12_eatenNow 5 = .ok (.istore_n 1, 1) := by decide +kernel
theorem dX12_eatenNow_6 : decode cX12_eatenNow 6 = .ok (.iconst 0, 1) := by decide +kernel
theorem dX12_eatenNow_7 : decode cX12_eatenNow 7 = .ok (.istore_n 2, 1) := by decide +kernel
theorem dX12_eatenNow_8 : decode cX12_eatenNow 8 = .ok (.iload_n 2, 1) := by decide +kernel
theorem dX12_eatenNow_9 : decode cX12_eatenNow 9 = .ok (.aload_n 0, 1) := by decide +kernel
theorem dX12_eatenNow_10 : decode cX12_eatenNow 10 = .ok (.getfield 119, 3) := by decide +kernel
theorem dX12_eatenNow_13 : decode cX12_eatenNow 13 = .ok (.if_icmp .ge 46, 3) := by decide +kernel
theorem dX12_eatenNow_16 : decode cX12_eatenNow 16 = .ok (.aload_n 0, 1) := by decide +kernel
theorem dX12_eatenNow_17 : decode cX12_eatenNow 17 = .ok (.iload_n 2, 1) := by decide +kernel
theorem dX12_eatenNow_18 : decode cX12_eatenNow 18 = .ok (.invokevirtual 193, 3) := by decide +kernel
theorem dX12_eatenNow_21 : decode cX12_eatenNow 21 = .ok (.iconst 0, 1) := by decide +kernel
theorem dX12_eatenNow_22 : decode cX12_eatenNow 22 = .ok (.istore_n 3, 1) := by decide +kernel
theorem dX12_eatenNow_23 : decode cX12_eatenNow 23 = .ok (.iload_n 3, 1) := by decide +kernel
theorem dX12_eatenNow_24 : decode cX12_eatenNow 24 = .ok (.bipush 30, 2) := by decide +kernel
theorem dX12_eatenNow_26 : decode cX12_eatenNow 26 = .ok (.if_icmp .ge 27, 3) := by decide +kernel
theorem dX12_eatenNow_29 : decode cX12_eatenNow 29 = .ok (.iload_n 1, 1) := by decide +kernel
theorem dX12_eatenNow_30 : decode cX12_eatenNow 30 = .ok (.aload_n 0, 1) := by decide +kernel
theorem dX12_eatenNow_31 : decode cX12_eatenNow 31 = .ok (.getfield 52, 3) := by decide +kernel
theorem dX12_eatenNow_34 : decode cX12_eatenNow 34 = .ok (.iload_n 3, 1) := by decide +kernel
theorem dX12_eatenNow_35 : decode cX12_eatenNow 35 = .ok (.iaload, 1) := by decide +kernel
theorem dX12_eatenNow_36 : decode cX12_eatenNow 36 = .ok (.iconst 3, 1) := by decide +kernel
theorem dX12_eatenNow_37 : decode cX12_eatenNow 37 = .ok (.if_icmp .ne 7, 3) := by decide +kernel
theorem dX12_eatenNow_40 : decode cX12_eatenNow 40 = .ok (.iconst 1, 1) := by decide +kernel
theorem dX12_eatenNow_41 : decode cX12_eatenNow 41 = .ok (.goto 4, 3) := by decide +kernel
theorem dX12_eatenNow_44 : decode cX12_eatenNow 44 = .ok (.iconst 0, 1) := by decide +kernel
theorem dX12_eatenNow_45 : decode cX12_eatenNow 45 = .ok (.iadd, 1) := by decide +kernel
theorem dX12_eatenNow_46 : decode cX12_eatenNow 46 = .ok (.istore_n 1, 1) := by decide +kernel
theorem dX12_eatenNow_47 : decode cX12_eatenNow 47 = .ok (.iinc 3 1, 3) := by decide +kernel
theorem dX12_eatenNow_50 : decode cX12_eatenNow 50 = .ok (.goto (-27), 3) := by decide +kernel
theorem dX12_eatenNow_53 : decode cX12_eatenNow 53 = .ok (.iinc 2 1, 3) := by decide +kernel
theorem dX12_eatenNow_56 : decode cX12_eatenNow 56 = .ok (.goto (-48), 3) := by decide +kernel
theorem dX12_eatenNow_59 : decode cX12_eatenNow 59 = .ok (.iload_n 1, 1) := by decide +kernel
theorem dX12_eatenNow_60 : decode cX12_eatenNow 60 = .ok (.ireturn, 1) := by decide +kernel
theorem dX12_sumOf_0 : decode cX12_sumOf 0 = .ok (.aload_n 0, 1) := by decide +kernel
theorem dX12_sumOf_1 : decode cX12_sumOf 1 = .ok (.invokevirtual 282, 3) := by decide +kernel
theorem dX12_sumOf_4 : decode cX12_sumOf 4 = .ok (.istore_n 2, 1) := by decide +kernel
theorem dX12_sumOf_5 : decode cX12_sumOf 5 = .ok (.iload_n 1, 1) := by decide +kernel
theorem dX12_sumOf_6 : decode cX12_sumOf 6 = .ok (.ifCond .ne 10, 3) := by decide +kernel
theorem dX12_sumOf_9 : decode cX12_sumOf 9 = .ok (.aload_n 0, 1) := by decide +kernel
theorem dX12_sumOf_10 : decode cX12_sumOf 10 = .ok (.getfield 119, 3) := by decide +kernel
theorem dX12_sumOf_13 : decode cX12_sumOf 13 = .ok (.goto 16, 3) := by decide +kernel
theorem dX12_sumOf_16 : decode cX12_sumOf 16 = .ok (.iload_n 1, 1) := by decide +kernel
theorem dX12_sumOf_17 : decode cX12_sumOf 17 = .ok (.iconst 1, 1) := by decide +kernel
theorem dX12_sumOf_18 : decode cX12_sumOf 18 = .ok (.if_icmp .ne 10, 3) := by decide +kernel
theorem dX12_sumOf_21 : decode cX12_sumOf 21 = .ok (.aload_n 0, 1) := by decide +kernel
theorem dX12_sumOf_22 : decode cX12_sumOf 22 = .ok (.getfield 126, 3) := by decide +kernel
theorem dX12_sumOf_25 : decode cX12_sumOf 25 = .ok (.goto 4, 3) := by decide +kernel
theorem dX12_sumOf_28 : decode cX12_sumOf 28 = .ok (.iload_n 2, 1) := by decide +kernel
theorem dX12_sumOf_29 : decode cX12_sumOf 29 = .ok (.ireturn, 1) := by decide +kernel
theorem dX12_count_0 : decode cX12_count 0 = .ok (.iload_n 1, 1) := by decide +kernel
theorem dX12_count_1 : decode cX12_count 1 = .ok (.tableswitch 86 0 8 #[51, 51, 57, 57, 66, 71, 51, 76, 81], 51) := by decide +kernel
theorem dX12_count_52 : decode cX12_count 52 = .ok (.aload_n 0, 1) := by decide +kernel
theorem dX12_count_53 : decode cX12_count 53 = .ok (.iload_n 1, 1) := by decide +kernel
theorem dX12_count_54 : decode cX12_count 54 = .ok (.invokevirtual 285, 3) := by decide +kernel
theorem dX12_count_57 : decode cX12_count 57 = .ok (.ireturn, 1) := by decide +kernel
theorem dX12_count_58 : decode cX12_count 58 = .ok (.aload_n 0, 1) := by decide +kernel
theorem dX12_count_59 : decode cX12_count 59 = .ok (.getfield 7, 3) := by decide +kernel
theorem dX12_count_62 : decode cX12_count 62 = .ok (.iload_n 1, 1) := by decide +kernel
theorem dX12_count_63 : decode cX12_count 63 = .ok (.iconst 2, 1) := by decide +kernel
theorem dX12_count_64 : decode cX12_count 64 = .ok (.isub, 1) := by decide +kernel
theorem dX12_count_65 : decode cX12_count 65 = .ok (.iaload, 1) := by decide +kernel
theorem dX12_count_66 : decode cX12_count 66 = .ok (.ireturn, 1) := by decide +kernel
theorem dX12_count_67 : decode cX12_count 67 = .ok (.aload_n 0, 1) := by decide +kernel
theorem dX12_count_68 : decode cX12_count 68 = .ok (.getfield 154, 3) := by decide +kernel
theorem dX12_count_71 : decode cX12_count 71 = .ok (.ireturn, 1) := by decide +kernel
theorem dX12_count_72 : decode cX12_count 72 = .ok (.aload_n 0, 1) := by decide +kernel
theorem dX12_count_73 : decode cX12_count 73 = .ok (.getfield 157, 3) := by decide +kernel
theorem dX12_count_76 : decode cX12_count 76 = .ok (.ireturn, 1) := by decide +kernel
theorem dX12_count_77 : decode cX12_count 77 = .ok (.aload_n 0, 1) := by decide +kernel
theorem dX12_count_78 : decode cX12_count 78 = .ok (.getfield 237, 3) := by decide +kernel
theorem dX12_count_81 : decode cX12_count 81 = .ok (.ireturn, 1) := by decide +kernel
theorem dX12_count_82 : decode cX12_count 82 = .ok (.aload_n 0, 1) := by decide +kernel
theorem dX12_count_83 : decode cX12_count 83 = .ok (.getfield 271, 3) := by decide +kernel
theorem dX12_count_86 : decode cX12_count 86 = .ok (.ireturn, 1) := by decide +kernel
theorem dX12_count_87 : decode cX12_count 87 = .ok (.bipush (-2), 2) := by decide +kernel
theorem dX12_count_89 : decode cX12_count 89 = .ok (.ireturn, 1) := by decide +kernel
theorem dX12_nightDigest_0 : decode cX12_nightDigest 0 = .ok (.lload_n 1, 1) := by decide +kernel
theorem dX12_nightDigest_1 : decode cX12_nightDigest 1 = .ok (.lstore 5, 2) := by decide +kernel
theorem dX12_nightDigest_3 : decode cX12_nightDigest 3 = .ok (.iconst 0, 1) := by decide +kernel
theorem dX12_nightDigest_4 : decode cX12_nightDigest 4 = .ok (.istore 7, 2) := by decide +kernel
theorem dX12_nightDigest_6 : decode cX12_nightDigest 6 = .ok (.iload 7, 2) := by decide +kernel
theorem dX12_nightDigest_8 : decode cX12_nightDigest 8 = .ok (.iconst 3, 1) := by decide +kernel
theorem dX12_nightDigest_9 : decode cX12_nightDigest 9 = .ok (.if_icmp .ge 28, 3) := by decide +kernel
theorem dX12_nightDigest_12 : decode cX12_nightDigest 12 = .ok (.ldc2_w 288, 3) := by decide +kernel
theorem dX12_nightDigest_15 : decode cX12_nightDigest 15 = .ok (.lload 5, 2) := by decide +kernel
theorem dX12_nightDigest_17 : decode cX12_nightDigest 17 = .ok (.lmul, 1) := by decide +kernel
theorem dX12_nightDigest_18 : decode cX12_nightDigest 18 = .ok (.aload_n 0, 1) := by decide +kernel
theorem dX12_nightDigest_19 : decode cX12_nightDigest 19 = .ok (.iload_n 3, 1) := by decide +kernel
theorem dX12_nightDigest_20 : decode cX12_nightDigest 20 = .ok (.iload 4, 2) := by decide +kernel
theorem dX12_nightDigest_22 : decode cX12_nightDigest 22 = .ok (.iload 7, 2) := by decide +kernel
theorem dX12_nightDigest_24 : decode cX12_nightDigest 24 = .ok (.invokevirtual 199, 3) := by decide +kernel
theorem dX12_nightDigest_27 : decode cX12_nightDigest 27 = .ok (.i2l, 1) := by decide +kernel
theorem dX12_nightDigest_28 : decode cX12_nightDigest 28 = .ok (.ladd, 1) := by decide +kernel
theorem dX12_nightDigest_29 : decode cX12_nightDigest 29 = .ok (.lstore 5, 2) := by decide +kernel
theorem dX12_nightDigest_31 : decode cX12_nightDigest 31 = .ok (.iinc 7 1, 3) := by decide +kernel
theorem dX12_nightDigest_34 : decode cX12_nightDigest 34 = .ok (.goto (-28), 3) := by decide +kernel
theorem dX12_nightDigest_37 : decode cX12_nightDigest 37 = .ok (.lload 5, 2) := by decide +kernel
theorem dX12_nightDigest_39 : decode cX12_nightDigest 39 = .ok (.lreturn, 1) := by decide +kernel
theorem dX12_wheelDigest_0 : decode cX12_wheelDigest 0 = .ok (.lload_n 1, 1) := by decide +kernel
theorem dX12_wheelDigest_1 : decode cX12_wheelDigest 1 = .ok (.lstore 4, 2) := by decide +kernel
theorem dX12_wheelDigest_3 : decode cX12_wheelDigest 3 = .ok (.iconst 0, 1) := by decide +kernel
theorem dX12_wheelDigest_4 : decode cX12_wheelDigest 4 = .ok (.istore 6, 2) := by decide +kernel
theorem dX12_wheelDigest_6 : decode cX12_wheelDigest 6 = .ok (.iload 6, 2) := by decide +kernel
theorem dX12_wheelDigest_8 : decode cX12_wheelDigest 8 = .ok (.bipush 8, 2) := by decide +kernel
theorem dX12_wheelDigest_10 : decode cX12_wheelDigest 10 = .ok (.if_icmp .ge 26, 3) := by decide +kernel
theorem dX12_wheelDigest_13 : decode cX12_wheelDigest 13 = .ok (.ldc2_w 288, 3) := by decide +kernel
theorem dX12_wheelDigest_16 : decode cX12_wheelDigest 16 = .ok (.lload 4, 2) := by decide +kernel
theorem dX12_wheelDigest_18 : decode cX12_wheelDigest 18 = .ok (.lmul, 1) := by decide +kernel
theorem dX12_wheelDigest_19 : decode cX12_wheelDigest 19 = .ok (.aload_n 0, 1) := by decide +kernel
theorem dX12_wheelDigest_20 : decode cX12_wheelDigest 20 = .ok (.iload_n 3, 1) := by decide +kernel
theorem dX12_wheelDigest_21 : decode cX12_wheelDigest 21 = .ok (.iload 6, 2) := by decide +kernel
theorem dX12_wheelDigest_23 : decode cX12_wheelDigest 23 = .ok (.invokevirtual 145, 3) := by decide +kernel
theorem dX12_wheelDigest_26 : decode cX12_wheelDigest 26 = .ok (.i2l, 1) := by decide +kernel
theorem dX12_wheelDigest_27 : decode cX12_wheelDigest 27 = .ok (.ladd, 1) := by decide +kernel
theorem dX12_wheelDigest_28 : decode cX12_wheelDigest 28 = .ok (.lstore 4, 2) := by decide +kernel
theorem dX12_wheelDigest_30 : decode cX12_wheelDigest 30 = .ok (.iinc 6 1, 3) := by decide +kernel
theorem dX12_wheelDigest_33 : decode cX12_wheelDigest 33 = .ok (.goto (-27), 3) := by decide +kernel
theorem dX12_wheelDigest_36 : decode cX12_wheelDigest 36 = .ok (.aload_n 0, 1) := by decide +kernel
theorem dX12_wheelDigest_37 : decode cX12_wheelDigest 37 = .ok (.lload 4, 2) := by decide +kernel
theorem dX12_wheelDigest_39 : decode cX12_wheelDigest 39 = .ok (.iconst 0, 1) := by decide +kernel
theorem dX12_wheelDigest_40 : decode cX12_wheelDigest 40 = .ok (.iload_n 3, 1) := by decide +kernel
theorem dX12_wheelDigest_41 : decode cX12_wheelDigest 41 = .ok (.invokevirtual 290, 3) := by decide +kernel
theorem dX12_wheelDigest_44 : decode cX12_wheelDigest 44 = .ok (.lstore 4, 2) := by decide +kernel
theorem dX12_wheelDigest_46 : decode cX12_wheelDigest 46 = .ok (.aload_n 0, 1) := by decide +kernel
theorem dX12_wheelDigest_47 : decode cX12_wheelDigest 47 = .ok (.lload 4, 2) := by decide +kernel
theorem dX12_wheelDigest_49 : decode cX12_wheelDigest 49 = .ok (.iconst 5, 1) := by decide +kernel
theorem dX12_wheelDigest_50 : decode cX12_wheelDigest 50 = .ok (.iload_n 3, 1) := by decide +kernel
theorem dX12_wheelDigest_51 : decode cX12_wheelDigest 51 = .ok (.invokevirtual 290, 3) := by decide +kernel
theorem dX12_wheelDigest_54 : decode cX12_wheelDigest 54 = .ok (.lstore 4, 2) := by decide +kernel
theorem dX12_wheelDigest_56 : decode cX12_wheelDigest 56 = .ok (.aload_n 0, 1) := by decide +kernel
theorem dX12_wheelDigest_57 : decode cX12_wheelDigest 57 = .ok (.lload 4, 2) := by decide +kernel
theorem dX12_wheelDigest_59 : decode cX12_wheelDigest 59 = .ok (.bipush 12, 2) := by decide +kernel
theorem dX12_wheelDigest_61 : decode cX12_wheelDigest 61 = .ok (.iload_n 3, 1) := by decide +kernel
theorem dX12_wheelDigest_62 : decode cX12_wheelDigest 62 = .ok (.invokevirtual 290, 3) := by decide +kernel
theorem dX12_wheelDigest_65 : decode cX12_wheelDigest 65 = .ok (.lstore 4, 2) := by decide +kernel
theorem dX12_wheelDigest_67 : decode cX12_wheelDigest 67 = .ok (.aload_n 0, 1) := by decide +kernel
theorem dX12_wheelDigest_68 : decode cX12_wheelDigest 68 = .ok (.lload 4, 2) := by decide +kernel
theorem dX12_wheelDigest_70 : decode cX12_wheelDigest 70 = .ok (.bipush 29, 2) := by decide +kernel
theorem dX12_wheelDigest_72 : decode cX12_wheelDigest 72 = .ok (.iload_n 3, 1) := by decide +kernel
theorem dX12_wheelDigest_73 : decode cX12_wheelDigest 73 = .ok (.invokevirtual 290, 3) := by decide +kernel
theorem dX12_wheelDigest_76 : decode cX12_wheelDigest 76 = .ok (.lstore 4, 2) := by decide +kernel
theorem dX12_wheelDigest_78 : decode cX12_wheelDigest 78 = .ok (.ldc2_w 288, 3) := by decide +kernel
theorem dX12_wheelDigest_81 : decode cX12_wheelDigest 81 = .ok (.lload 4, 2) := by decide +kernel
theorem dX12_wheelDigest_83 : decode cX12_wheelDigest 83 = .ok (.lmul, 1) := by decide +kernel
theorem dX12_wheelDigest_84 : decode cX12_wheelDigest 84 = .ok (.aload_n 0, 1) := by decide +kernel
theorem dX12_wheelDigest_85 : decode cX12_wheelDigest 85 = .ok (.iload_n 3, 1) := by decide +kernel
theorem dX12_wheelDigest_86 : decode cX12_wheelDigest 86 = .ok (.invokevirtual 206, 3) := by decide +kernel
theorem dX12_wheelDigest_89 : decode cX12_wheelDigest 89 = .ok (.i2l, 1) := by decide +kernel
theorem dX12_wheelDigest_90 : decode cX12_wheelDigest 90 = .ok (.ladd, 1) := by decide +kernel
theorem dX12_wheelDigest_91 : decode cX12_wheelDigest 91 = .ok (.lstore 4, 2) := by decide +kernel
theorem dX12_wheelDigest_93 : decode cX12_wheelDigest 93 = .ok (.aload_n 0, 1) := by decide +kernel
theorem dX12_wheelDigest_94 : decode cX12_wheelDigest 94 = .ok (.iload_n 3, 1) := by decide +kernel
theorem dX12_wheelDigest_95 : decode cX12_wheelDigest 95 = .ok (.bipush 12, 2) := by decide +kernel
theorem dX12_wheelDigest_97 : decode cX12_wheelDigest 97 = .ok (.invokevirtual 222, 3) := by decide +kernel
theorem dX12_wheelDigest_100 : decode cX12_wheelDigest 100 = .ok (.istore 6, 2) := by decide +kernel
theorem dX12_wheelDigest_102 : decode cX12_wheelDigest 102 = .ok (.ldc2_w 288, 3) := by decide +kernel
theorem dX12_wheelDigest_105 : decode cX12_wheelDigest 105 = .ok (.lload 4, 2) := by decide +kernel
theorem dX12_wheelDigest_107 : decode cX12_wheelDigest 107 = .ok (.lmul, 1) := by decide +kernel
theorem dX12_wheelDigest_108 : decode cX12_wheelDigest 108 = .ok (.iload 6, 2) := by decide +kernel
theorem dX12_wheelDigest_110 : decode cX12_wheelDigest 110 = .ok (.i2l, 1) := by decide +kernel
theorem dX12_wheelDigest_111 : decode cX12_wheelDigest 111 = .ok (.ladd, 1) := by decide +kernel
theorem dX12_wheelDigest_112 : decode cX12_wheelDigest 112 = .ok (.lstore 4, 2) := by decide +kernel
theorem dX12_wheelDigest_114 : decode cX12_wheelDigest 114 = .ok (.ldc2_w 288, 3) := by decide +kernel
theorem dX12_wheelDigest_117 : decode cX12_wheelDigest 117 = .ok (.lload 4, 2) := by decide +kernel
theorem dX12_wheelDigest_119 : decode cX12_wheelDigest 119 = .ok (.lmul, 1) := by decide +kernel
theorem dX12_wheelDigest_120 : decode cX12_wheelDigest 120 = .ok (.aload_n 0, 1) := by decide +kernel
theorem dX12_wheelDigest_121 : decode cX12_wheelDigest 121 = .ok (.iload 6, 2) := by decide +kernel
theorem dX12_wheelDigest_123 : decode cX12_wheelDigest 123 = .ok (.iconst 0, 1) := by decide +kernel
theorem dX12_wheelDigest_124 : decode cX12_wheelDigest 124 = .ok (.invokevirtual 225, 3) := by decide +kernel
theorem dX12_wheelDigest_127 : decode cX12_wheelDigest 127 = .ok (.i2l, 1) := by decide +kernel
theorem dX12_wheelDigest_128 : decode cX12_wheelDigest 128 = .ok (.ladd, 1) := by decide +kernel
theorem dX12_wheelDigest_129 : decode cX12_wheelDigest 129 = .ok (.lstore 4, 2) := by decide +kernel
theorem dX12_wheelDigest_131 : decode cX12_wheelDigest 131 = .ok (.ldc2_w 288, 3) := by decide +kernel
theorem dX12_wheelDigest_134 : decode cX12_wheelDigest 134 = .ok (.lload 4, 2) := by decide +kernel
theorem dX12_wheelDigest_136 : decode cX12_wheelDigest 136 = .ok (.lmul, 1) := by decide +kernel
theorem dX12_wheelDigest_137 : decode cX12_wheelDigest 137 = .ok (.aload_n 0, 1) := by decide +kernel
theorem dX12_wheelDigest_138 : decode cX12_wheelDigest 138 = .ok (.iload_n 3, 1) := by decide +kernel
theorem dX12_wheelDigest_139 : decode cX12_wheelDigest 139 = .ok (.iconst 0, 1) := by decide +kernel
theorem dX12_wheelDigest_140 : decode cX12_wheelDigest 140 = .ok (.invokevirtual 228, 3) := by decide +kernel
theorem dX12_wheelDigest_143 : decode cX12_wheelDigest 143 = .ok (.i2l, 1) := by decide +kernel
theorem dX12_wheelDigest_144 : decode cX12_wheelDigest 144 = .ok (.ladd, 1) := by decide +kernel
theorem dX12_wheelDigest_145 : decode cX12_wheelDigest 145 = .ok (.lstore 4, 2) := by decide +kernel
theorem dX12_wheelDigest_147 : decode cX12_wheelDigest 147 = .ok (.ldc2_w 288, 3) := by decide +kernel
theorem dX12_wheelDigest_150 : decode cX12_wheelDigest 150 = .ok (.lload 4, 2) := by decide +kernel
theorem dX12_wheelDigest_152 : decode cX12_wheelDigest 152 = .ok (.lmul, 1) := by decide +kernel
theorem dX12_wheelDigest_153 : decode cX12_wheelDigest 153 = .ok (.aload_n 0, 1) := by decide +kernel
theorem dX12_wheelDigest_154 : decode cX12_wheelDigest 154 = .ok (.iload_n 3, 1) := by decide +kernel
theorem dX12_wheelDigest_155 : decode cX12_wheelDigest 155 = .ok (.iconst 1, 1) := by decide +kernel
theorem dX12_wheelDigest_156 : decode cX12_wheelDigest 156 = .ok (.invokevirtual 228, 3) := by decide +kernel
theorem dX12_wheelDigest_159 : decode cX12_wheelDigest 159 = .ok (.i2l, 1) := by decide +kernel
theorem dX12_wheelDigest_160 : decode cX12_wheelDigest 160 = .ok (.ladd, 1) := by decide +kernel
theorem dX12_wheelDigest_161 : decode cX12_wheelDigest 161 = .ok (.lstore 4, 2) := by decide +kernel
theorem dX12_wheelDigest_163 : decode cX12_wheelDigest 163 = .ok (.ldc2_w 288, 3) := by decide +kernel
theorem dX12_wheelDigest_166 : decode cX12_wheelDigest 166 = .ok (.lload 4, 2) := by decide +kernel
theorem dX12_wheelDigest_168 : decode cX12_wheelDigest 168 = .ok (.lmul, 1) := by decide +kernel
theorem dX12_wheelDigest_169 : decode cX12_wheelDigest 169 = .ok (.aload_n 0, 1) := by decide +kernel
theorem dX12_wheelDigest_170 : decode cX12_wheelDigest 170 = .ok (.iload_n 3, 1) := by decide +kernel
theorem dX12_wheelDigest_171 : decode cX12_wheelDigest 171 = .ok (.iconst 0, 1) := by decide +kernel
theorem dX12_wheelDigest_172 : decode cX12_wheelDigest 172 = .ok (.invokevirtual 231, 3) := by decide +kernel
theorem dX12_wheelDigest_175 : decode cX12_wheelDigest 175 = .ok (.i2l, 1) := by decide +kernel
theorem dX12_wheelDigest_176 : decode cX12_wheelDigest 176 = .ok (.ladd, 1) := by decide +kernel
theorem dX12_wheelDigest_177 : decode cX12_wheelDigest 177 = .ok (.lstore 4, 2) := by decide +kernel
theorem dX12_wheelDigest_179 : decode cX12_wheelDigest 179 = .ok (.ldc2_w 288, 3) := by decide +kernel
theorem dX12_wheelDigest_182 : decode cX12_wheelDigest 182 = .ok (.lload 4, 2) := by decide +kernel
theorem dX12_wheelDigest_184 : decode cX12_wheelDigest 184 = .ok (.lmul, 1) := by decide +kernel
theorem dX12_wheelDigest_185 : decode cX12_wheelDigest 185 = .ok (.aload_n 0, 1) := by decide +kernel
theorem dX12_wheelDigest_186 : decode cX12_wheelDigest 186 = .ok (.iload_n 3, 1) := by decide +kernel
theorem dX12_wheelDigest_187 : decode cX12_wheelDigest 187 = .ok (.iconst 1, 1) := by decide +kernel
theorem dX12_wheelDigest_188 : decode cX12_wheelDigest 188 = .ok (.invokevirtual 231, 3) := by decide +kernel
theorem dX12_wheelDigest_191 : decode cX12_wheelDigest 191 = .ok (.i2l, 1) := by decide +kernel
theorem dX12_wheelDigest_192 : decode cX12_wheelDigest 192 = .ok (.ladd, 1) := by decide +kernel
theorem dX12_wheelDigest_193 : decode cX12_wheelDigest 193 = .ok (.lstore 4, 2) := by decide +kernel
theorem dX12_wheelDigest_195 : decode cX12_wheelDigest 195 = .ok (.ldc2_w 288, 3) := by decide +kernel
theorem dX12_wheelDigest_198 : decode cX12_wheelDigest 198 = .ok (.lload 4, 2) := by decide +kernel
theorem dX12_wheelDigest_200 : decode cX12_wheelDigest 200 = .ok (.lmul, 1) := by decide +kernel
theorem dX12_wheelDigest_201 : decode cX12_wheelDigest 201 = .ok (.aload_n 0, 1) := by decide +kernel
theorem dX12_wheelDigest_202 : decode cX12_wheelDigest 202 = .ok (.iload_n 3, 1) := by decide +kernel
theorem dX12_wheelDigest_203 : decode cX12_wheelDigest 203 = .ok (.invokevirtual 246, 3) := by decide +kernel
theorem dX12_wheelDigest_206 : decode cX12_wheelDigest 206 = .ok (.i2l, 1) := by decide +kernel
theorem dX12_wheelDigest_207 : decode cX12_wheelDigest 207 = .ok (.ladd, 1) := by decide +kernel
theorem dX12_wheelDigest_208 : decode cX12_wheelDigest 208 = .ok (.lstore 4, 2) := by decide +kernel
theorem dX12_wheelDigest_210 : decode cX12_wheelDigest 210 = .ok (.ldc2_w 288, 3) := by decide +kernel
theorem dX12_wheelDigest_213 : decode cX12_wheelDigest 213 = .ok (.lload 4, 2) := by decide +kernel
theorem dX12_wheelDigest_215 : decode cX12_wheelDigest 215 = .ok (.lmul, 1) := by decide +kernel
theorem dX12_wheelDigest_216 : decode cX12_wheelDigest 216 = .ok (.aload_n 0, 1) := by decide +kernel
theorem dX12_wheelDigest_217 : decode cX12_wheelDigest 217 = .ok (.iload_n 3, 1) := by decide +kernel
theorem dX12_wheelDigest_218 : decode cX12_wheelDigest 218 = .ok (.invokevirtual 249, 3) := by decide +kernel
theorem dX12_wheelDigest_221 : decode cX12_wheelDigest 221 = .ok (.i2l, 1) := by decide +kernel
theorem dX12_wheelDigest_222 : decode cX12_wheelDigest 222 = .ok (.ladd, 1) := by decide +kernel
theorem dX12_wheelDigest_223 : decode cX12_wheelDigest 223 = .ok (.lstore 4, 2) := by decide +kernel
theorem dX12_wheelDigest_225 : decode cX12_wheelDigest 225 = .ok (.ldc2_w 288, 3) := by decide +kernel
theorem dX12_wheelDigest_228 : decode cX12_wheelDigest 228 = .ok (.lload 4, 2) := by decide +kernel
theorem dX12_wheelDigest_230 : decode cX12_wheelDigest 230 = .ok (.lmul, 1) := by decide +kernel
theorem dX12_wheelDigest_231 : decode cX12_wheelDigest 231 = .ok (.aload_n 0, 1) := by decide +kernel
theorem dX12_wheelDigest_232 : decode cX12_wheelDigest 232 = .ok (.iload_n 3, 1) := by decide +kernel
theorem dX12_wheelDigest_233 : decode cX12_wheelDigest 233 = .ok (.invokevirtual 252, 3) := by decide +kernel
theorem dX12_wheelDigest_236 : decode cX12_wheelDigest 236 = .ok (.i2l, 1) := by decide +kernel
theorem dX12_wheelDigest_237 : decode cX12_wheelDigest 237 = .ok (.ladd, 1) := by decide +kernel
theorem dX12_wheelDigest_238 : decode cX12_wheelDigest 238 = .ok (.lstore 4, 2) := by decide +kernel
theorem dX12_wheelDigest_240 : decode cX12_wheelDigest 240 = .ok (.ldc2_w 288, 3) := by decide +kernel
theorem dX12_wheelDigest_243 : decode cX12_wheelDigest 243 = .ok (.lload 4, 2) := by decide +kernel
theorem dX12_wheelDigest_245 : decode cX12_wheelDigest 245 = .ok (.lmul, 1) := by decide +kernel
theorem dX12_wheelDigest_246 : decode cX12_wheelDigest 246 = .ok (.aload_n 0, 1) := by decide +kernel
theorem dX12_wheelDigest_247 : decode cX12_wheelDigest 247 = .ok (.iconst 5, 1) := by decide +kernel
theorem dX12_wheelDigest_248 : decode cX12_wheelDigest 248 = .ok (.iconst 5, 1) := by decide +kernel
theorem dX12_wheelDigest_249 : decode cX12_wheelDigest 249 = .ok (.iload_n 3, 1) := by decide +kernel
theorem dX12_wheelDigest_250 : decode cX12_wheelDigest 250 = .ok (.bipush 12, 2) := by decide +kernel
theorem dX12_wheelDigest_252 : decode cX12_wheelDigest 252 = .ok (.iconst 0, 1) := by decide +kernel
theorem dX12_wheelDigest_253 : decode cX12_wheelDigest 253 = .ok (.invokevirtual 259, 3) := by decide +kernel
theorem dX12_wheelDigest_256 : decode cX12_wheelDigest 256 = .ok (.ladd, 1) := by decide +kernel
theorem dX12_wheelDigest_257 : decode cX12_wheelDigest 257 = .ok (.lstore 4, 2) := by decide +kernel
theorem dX12_wheelDigest_259 : decode cX12_wheelDigest 259 = .ok (.ldc2_w 288, 3) := by decide +kernel
theorem dX12_wheelDigest_262 : decode cX12_wheelDigest 262 = .ok (.lload 4, 2) := by decide +kernel
theorem dX12_wheelDigest_264 : decode cX12_wheelDigest 264 = .ok (.lmul, 1) := by decide +kernel
theorem dX12_wheelDigest_265 : decode cX12_wheelDigest 265 = .ok (.aload_n 0, 1) := by decide +kernel
theorem dX12_wheelDigest_266 : decode cX12_wheelDigest 266 = .ok (.iconst 5, 1) := by decide +kernel
theorem dX12_wheelDigest_267 : decode cX12_wheelDigest 267 = .ok (.iconst 5, 1) := by decide +kernel
theorem dX12_wheelDigest_268 : decode cX12_wheelDigest 268 = .ok (.iload_n 3, 1) := by decide +kernel
theorem dX12_wheelDigest_269 : decode cX12_wheelDigest 269 = .ok (.bipush 12, 2) := by decide +kernel
theorem dX12_wheelDigest_271 : decode cX12_wheelDigest 271 = .ok (.iconst 1, 1) := by decide +kernel
theorem dX12_wheelDigest_272 : decode cX12_wheelDigest 272 = .ok (.invokevirtual 259, 3) := by decide +kernel
theorem dX12_wheelDigest_275 : decode cX12_wheelDigest 275 = .ok (.ladd, 1) := by decide +kernel
theorem dX12_wheelDigest_276 : decode cX12_wheelDigest 276 = .ok (.lreturn, 1) := by decide +kernel
theorem dX12_digest_0 : decode cX12_digest 0 = .ok (.ldc2_w 294, 3) := by decide +kernel
theorem dX12_digest_3 : decode cX12_digest 3 = .ok (.lstore_n 1, 1) := by decide +kernel
theorem dX12_digest_4 : decode cX12_digest 4 = .ok (.iconst 0, 1) := by decide +kernel
theorem dX12_digest_5 : decode cX12_digest 5 = .ok (.istore_n 3, 1) := by decide +kernel
theorem dX12_digest_6 : decode cX12_digest 6 = .ok (.iload_n 3, 1) := by decide +kernel
theorem dX12_digest_7 : decode cX12_digest 7 = .ok (.bipush 8, 2) := by decide +kernel
theorem dX12_digest_9 : decode cX12_digest 9 = .ok (.if_icmp .ge 22, 3) := by decide +kernel
theorem dX12_digest_12 : decode cX12_digest 12 = .ok (.ldc2_w 288, 3) := by decide +kernel
theorem dX12_digest_15 : decode cX12_digest 15 = .ok (.lload_n 1, 1) := by decide +kernel
theorem dX12_digest_16 : decode cX12_digest 16 = .ok (.lmul, 1) := by decide +kernel
theorem dX12_digest_17 : decode cX12_digest 17 = .ok (.aload_n 0, 1) := by decide +kernel
theorem dX12_digest_18 : decode cX12_digest 18 = .ok (.iload_n 3, 1) := by decide +kernel
theorem dX12_digest_19 : decode cX12_digest 19 = .ok (.invokevirtual 296, 3) := by decide +kernel
theorem dX12_digest_22 : decode cX12_digest 22 = .ok (.i2l, 1) := by decide +kernel
theorem dX12_digest_23 : decode cX12_digest 23 = .ok (.ladd, 1) := by decide +kernel
theorem dX12_digest_24 : decode cX12_digest 24 = .ok (.lstore_n 1, 1) := by decide +kernel
theorem dX12_digest_25 : decode cX12_digest 25 = .ok (.iinc 3 1, 3) := by decide +kernel
theorem dX12_digest_28 : decode cX12_digest 28 = .ok (.goto (-22), 3) := by decide +kernel
theorem dX12_digest_31 : decode cX12_digest 31 = .ok (.ldc2_w 288, 3) := by decide +kernel
theorem dX12_digest_34 : decode cX12_digest 34 = .ok (.lload_n 1, 1) := by decide +kernel
theorem dX12_digest_35 : decode cX12_digest 35 = .ok (.lmul, 1) := by decide +kernel
theorem dX12_digest_36 : decode cX12_digest 36 = .ok (.aload_n 0, 1) := by decide +kernel
theorem dX12_digest_37 : decode cX12_digest 37 = .ok (.iconst 0, 1) := by decide +kernel
theorem dX12_digest_38 : decode cX12_digest 38 = .ok (.invokevirtual 136, 3) := by decide +kernel
theorem dX12_digest_41 : decode cX12_digest 41 = .ok (.i2l, 1) := by decide +kernel
theorem dX12_digest_42 : decode cX12_digest 42 = .ok (.ladd, 1) := by decide +kernel
theorem dX12_digest_43 : decode cX12_digest 43 = .ok (.lstore_n 1, 1) := by decide +kernel
theorem dX12_digest_44 : decode cX12_digest 44 = .ok (.ldc2_w 288, 3) := by decide +kernel
theorem dX12_digest_47 : decode cX12_digest 47 = .ok (.lload_n 1, 1) := by decide +kernel
theorem dX12_digest_48 : decode cX12_digest 48 = .ok (.lmul, 1) := by decide +kernel
theorem dX12_digest_49 : decode cX12_digest 49 = .ok (.aload_n 0, 1) := by decide +kernel
theorem dX12_digest_50 : decode cX12_digest 50 = .ok (.iconst 1, 1) := by decide +kernel
theorem dX12_digest_51 : decode cX12_digest 51 = .ok (.invokevirtual 136, 3) := by decide +kernel
theorem dX12_digest_54 : decode cX12_digest 54 = .ok (.i2l, 1) := by decide +kernel
theorem dX12_digest_55 : decode cX12_digest 55 = .ok (.ladd, 1) := by decide +kernel
theorem dX12_digest_56 : decode cX12_digest 56 = .ok (.lstore_n 1, 1) := by decide +kernel
theorem dX12_digest_57 : decode cX12_digest 57 = .ok (.ldc2_w 288, 3) := by decide +kernel
theorem dX12_digest_60 : decode cX12_digest 60 = .ok (.lload_n 1, 1) := by decide +kernel
theorem dX12_digest_61 : decode cX12_digest 61 = .ok (.lmul, 1) := by decide +kernel
theorem dX12_digest_62 : decode cX12_digest 62 = .ok (.aload_n 0, 1) := by decide +kernel
theorem dX12_digest_63 : decode cX12_digest 63 = .ok (.iconst 0, 1) := by decide +kernel
theorem dX12_digest_64 : decode cX12_digest 64 = .ok (.invokevirtual 151, 3) := by decide +kernel
theorem dX12_digest_67 : decode cX12_digest 67 = .ok (.i2l, 1) := by decide +kernel
theorem dX12_digest_68 : decode cX12_digest 68 = .ok (.ladd, 1) := by decide +kernel
theorem dX12_digest_69 : decode cX12_digest 69 = .ok (.lstore_n 1, 1) := by decide +kernel
theorem dX12_digest_70 : decode cX12_digest 70 = .ok (.ldc2_w 288, 3) := by decide +kernel
theorem dX12_digest_73 : decode cX12_digest 73 = .ok (.lload_n 1, 1) := by decide +kernel
theorem dX12_digest_74 : decode cX12_digest 74 = .ok (.lmul, 1) := by decide +kernel
theorem dX12_digest_75 : decode cX12_digest 75 = .ok (.aload_n 0, 1) := by decide +kernel
theorem dX12_digest_76 : decode cX12_digest 76 = .ok (.bipush 9, 2) := by decide +kernel
theorem dX12_digest_78 : decode cX12_digest 78 = .ok (.invokevirtual 151, 3) := by decide +kernel
theorem dX12_digest_81 : decode cX12_digest 81 = .ok (.i2l, 1) := by decide +kernel
theorem dX12_digest_82 : decode cX12_digest 82 = .ok (.ladd, 1) := by decide +kernel
theorem dX12_digest_83 : decode cX12_digest 83 = .ok (.lstore_n 1, 1) := by decide +kernel
theorem dX12_digest_84 : decode cX12_digest 84 = .ok (.ldc2_w 288, 3) := by decide +kernel
theorem dX12_digest_87 : decode cX12_digest 87 = .ok (.lload_n 1, 1) := by decide +kernel
theorem dX12_digest_88 : decode cX12_digest 88 = .ok (.lmul, 1) := by decide +kernel
theorem dX12_digest_89 : decode cX12_digest 89 = .ok (.aload_n 0, 1) := by decide +kernel
theorem dX12_digest_90 : decode cX12_digest 90 = .ok (.bipush 19, 2) := by decide +kernel
theorem dX12_digest_92 : decode cX12_digest 92 = .ok (.invokevirtual 151, 3) := by decide +kernel
theorem dX12_digest_95 : decode cX12_digest 95 = .ok (.i2l, 1) := by decide +kernel
theorem dX12_digest_96 : decode cX12_digest 96 = .ok (.ladd, 1) := by decide +kernel
theorem dX12_digest_97 : decode cX12_digest 97 = .ok (.lstore_n 1, 1) := by decide +kernel
theorem dX12_digest_98 : decode cX12_digest 98 = .ok (.ldc2_w 288, 3) := by decide +kernel
theorem dX12_digest_101 : decode cX12_digest 101 = .ok (.lload_n 1, 1) := by decide +kernel
theorem dX12_digest_102 : decode cX12_digest 102 = .ok (.lmul, 1) := by decide +kernel
theorem dX12_digest_103 : decode cX12_digest 103 = .ok (.aload_n 0, 1) := by decide +kernel
theorem dX12_digest_104 : decode cX12_digest 104 = .ok (.bipush 29, 2) := by decide +kernel
theorem dX12_digest_106 : decode cX12_digest 106 = .ok (.invokevirtual 151, 3) := by decide +kernel
theorem dX12_digest_109 : decode cX12_digest 109 = .ok (.i2l, 1) := by decide +kernel
theorem dX12_digest_110 : decode cX12_digest 110 = .ok (.ladd, 1) := by decide +kernel
theorem dX12_digest_111 : decode cX12_digest 111 = .ok (.lstore_n 1, 1) := by decide +kernel
theorem dX12_digest_112 : decode cX12_digest 112 = .ok (.iconst 0, 1) := by decide +kernel
theorem dX12_digest_113 : decode cX12_digest 113 = .ok (.istore_n 3, 1) := by decide +kernel
theorem dX12_digest_114 : decode cX12_digest 114 = .ok (.iload_n 3, 1) := by decide +kernel
theorem dX12_digest_115 : decode cX12_digest 115 = .ok (.aload_n 0, 1) := by decide +kernel
theorem dX12_digest_116 : decode cX12_digest 116 = .ok (.getfield 119, 3) := by decide +kernel
theorem dX12_digest_119 : decode cX12_digest 119 = .ok (.if_icmp .ge 16, 3) := by decide +kernel
theorem dX12_digest_122 : decode cX12_digest 122 = .ok (.aload_n 0, 1) := by decide +kernel
theorem dX12_digest_123 : decode cX12_digest 123 = .ok (.lload_n 1, 1) := by decide +kernel
theorem dX12_digest_124 : decode cX12_digest 124 = .ok (.iload_n 3, 1) := by decide +kernel
theorem dX12_digest_125 : decode cX12_digest 125 = .ok (.invokevirtual 299, 3) := by decide +kernel
theorem dX12_digest_128 : decode cX12_digest 128 = .ok (.lstore_n 1, 1) := by decide +kernel
theorem dX12_digest_129 : decode cX12_digest 129 = .ok (.iinc 3 1, 3) := by decide +kernel
theorem dX12_digest_132 : decode cX12_digest 132 = .ok (.goto (-18), 3) := by decide +kernel
theorem dX12_digest_135 : decode cX12_digest 135 = .ok (.ldc2_w 288, 3) := by decide +kernel
theorem dX12_digest_138 : decode cX12_digest 138 = .ok (.lload_n 1, 1) := by decide +kernel
theorem dX12_digest_139 : decode cX12_digest 139 = .ok (.lmul, 1) := by decide +kernel
theorem dX12_digest_140 : decode cX12_digest 140 = .ok (.aload_n 0, 1) := by decide +kernel
theorem dX12_digest_141 : decode cX12_digest 141 = .ok (.iconst 0, 1) := by decide +kernel
theorem dX12_digest_142 : decode cX12_digest 142 = .ok (.invokevirtual 209, 3) := by decide +kernel
theorem dX12_digest_145 : decode cX12_digest 145 = .ok (.i2l, 1) := by decide +kernel
theorem dX12_digest_146 : decode cX12_digest 146 = .ok (.ladd, 1) := by decide +kernel
theorem dX12_digest_147 : decode cX12_digest 147 = .ok (.lstore_n 1, 1) := by decide +kernel
theorem dX12_digest_148 : decode cX12_digest 148 = .ok (.ldc2_w 288, 3) := by decide +kernel
theorem dX12_digest_151 : decode cX12_digest 151 = .ok (.lload_n 1, 1) := by decide +kernel
theorem dX12_digest_152 : decode cX12_digest 152 = .ok (.lmul, 1) := by decide +kernel
theorem dX12_digest_153 : decode cX12_digest 153 = .ok (.aload_n 0, 1) := by decide +kernel
theorem dX12_digest_154 : decode cX12_digest 154 = .ok (.iconst 1, 1) := by decide +kernel
theorem dX12_digest_155 : decode cX12_digest 155 = .ok (.invokevirtual 209, 3) := by decide +kernel
theorem dX12_digest_158 : decode cX12_digest 158 = .ok (.i2l, 1) := by decide +kernel
theorem dX12_digest_159 : decode cX12_digest 159 = .ok (.ladd, 1) := by decide +kernel
theorem dX12_digest_160 : decode cX12_digest 160 = .ok (.lstore_n 1, 1) := by decide +kernel
theorem dX12_digest_161 : decode cX12_digest 161 = .ok (.iconst 0, 1) := by decide +kernel
theorem dX12_digest_162 : decode cX12_digest 162 = .ok (.istore_n 3, 1) := by decide +kernel
theorem dX12_digest_163 : decode cX12_digest 163 = .ok (.iload_n 3, 1) := by decide +kernel
theorem dX12_digest_164 : decode cX12_digest 164 = .ok (.bipush 8, 2) := by decide +kernel
theorem dX12_digest_166 : decode cX12_digest 166 = .ok (.if_icmp .ge 37, 3) := by decide +kernel
theorem dX12_digest_169 : decode cX12_digest 169 = .ok (.ldc2_w 288, 3) := by decide +kernel
theorem dX12_digest_172 : decode cX12_digest 172 = .ok (.lload_n 1, 1) := by decide +kernel
theorem dX12_digest_173 : decode cX12_digest 173 = .ok (.lmul, 1) := by decide +kernel
theorem dX12_digest_174 : decode cX12_digest 174 = .ok (.aload_n 0, 1) := by decide +kernel
theorem dX12_digest_175 : decode cX12_digest 175 = .ok (.iload_n 3, 1) := by decide +kernel
theorem dX12_digest_176 : decode cX12_digest 176 = .ok (.iconst 0, 1) := by decide +kernel
theorem dX12_digest_177 : decode cX12_digest 177 = .ok (.invokevirtual 212, 3) := by decide +kernel
theorem dX12_digest_180 : decode cX12_digest 180 = .ok (.i2l, 1) := by decide +kernel
theorem dX12_digest_181 : decode cX12_digest 181 = .ok (.ladd, 1) := by decide +kernel
theorem dX12_digest_182 : decode cX12_digest 182 = .ok (.lstore_n 1, 1) := by decide +kernel
theorem dX12_digest_183 : decode cX12_digest 183 = .ok (.ldc2_w 288, 3) := by decide +kernel
theorem dX12_digest_186 : decode cX12_digest 186 = .ok (.lload_n 1, 1) := by decide +kernel
theorem dX12_digest_187 : decode cX12_digest 187 = .ok (.lmul, 1) := by decide +kernel
theorem dX12_digest_188 : decode cX12_digest 188 = .ok (.aload_n 0, 1) := by decide +kernel
theorem dX12_digest_189 : decode cX12_digest 189 = .ok (.iload_n 3, 1) := by decide +kernel
theorem dX12_digest_190 : decode cX12_digest 190 = .ok (.iconst 1, 1) := by decide +kernel
theorem dX12_digest_191 : decode cX12_digest 191 = .ok (.invokevirtual 212, 3) := by decide +kernel
theorem dX12_digest_194 : decode cX12_digest 194 = .ok (.i2l, 1) := by decide +kernel
theorem dX12_digest_195 : decode cX12_digest 195 = .ok (.ladd, 1) := by decide +kernel
theorem dX12_digest_196 : decode cX12_digest 196 = .ok (.lstore_n 1, 1) := by decide +kernel
theorem dX12_digest_197 : decode cX12_digest 197 = .ok (.iinc 3 1, 3) := by decide +kernel
theorem dX12_digest_200 : decode cX12_digest 200 = .ok (.goto (-37), 3) := by decide +kernel
theorem dX12_digest_203 : decode cX12_digest 203 = .ok (.ldc2_w 288, 3) := by decide +kernel
theorem dX12_digest_206 : decode cX12_digest 206 = .ok (.lload_n 1, 1) := by decide +kernel
theorem dX12_digest_207 : decode cX12_digest 207 = .ok (.lmul, 1) := by decide +kernel
theorem dX12_digest_208 : decode cX12_digest 208 = .ok (.aload_n 0, 1) := by decide +kernel
theorem dX12_digest_209 : decode cX12_digest 209 = .ok (.invokevirtual 216, 3) := by decide +kernel
theorem dX12_digest_212 : decode cX12_digest 212 = .ok (.i2l, 1) := by decide +kernel
theorem dX12_digest_213 : decode cX12_digest 213 = .ok (.ladd, 1) := by decide +kernel
theorem dX12_digest_214 : decode cX12_digest 214 = .ok (.lstore_n 1, 1) := by decide +kernel
theorem dX12_digest_215 : decode cX12_digest 215 = .ok (.ldc2_w 288, 3) := by decide +kernel
theorem dX12_digest_218 : decode cX12_digest 218 = .ok (.lload_n 1, 1) := by decide +kernel
theorem dX12_digest_219 : decode cX12_digest 219 = .ok (.lmul, 1) := by decide +kernel
theorem dX12_digest_220 : decode cX12_digest 220 = .ok (.aload_n 0, 1) := by decide +kernel
theorem dX12_digest_221 : decode cX12_digest 221 = .ok (.invokevirtual 234, 3) := by decide +kernel
theorem dX12_digest_224 : decode cX12_digest 224 = .ok (.i2l, 1) := by decide +kernel
theorem dX12_digest_225 : decode cX12_digest 225 = .ok (.ladd, 1) := by decide +kernel
theorem dX12_digest_226 : decode cX12_digest 226 = .ok (.lstore_n 1, 1) := by decide +kernel
theorem dX12_digest_227 : decode cX12_digest 227 = .ok (.ldc2_w 288, 3) := by decide +kernel
theorem dX12_digest_230 : decode cX12_digest 230 = .ok (.lload_n 1, 1) := by decide +kernel
theorem dX12_digest_231 : decode cX12_digest 231 = .ok (.lmul, 1) := by decide +kernel
theorem dX12_digest_232 : decode cX12_digest 232 = .ok (.aload_n 0, 1) := by decide +kernel
theorem dX12_digest_233 : decode cX12_digest 233 = .ok (.invokevirtual 243, 3) := by decide +kernel
theorem dX12_digest_236 : decode cX12_digest 236 = .ok (.i2l, 1) := by decide +kernel
theorem dX12_digest_237 : decode cX12_digest 237 = .ok (.ladd, 1) := by decide +kernel
theorem dX12_digest_238 : decode cX12_digest 238 = .ok (.lstore_n 1, 1) := by decide +kernel
theorem dX12_digest_239 : decode cX12_digest 239 = .ok (.ldc2_w 288, 3) := by decide +kernel
theorem dX12_digest_242 : decode cX12_digest 242 = .ok (.lload_n 1, 1) := by decide +kernel
theorem dX12_digest_243 : decode cX12_digest 243 = .ok (.lmul, 1) := by decide +kernel
theorem dX12_digest_244 : decode cX12_digest 244 = .ok (.aload_n 0, 1) := by decide +kernel
theorem dX12_digest_245 : decode cX12_digest 245 = .ok (.bipush 7, 2) := by decide +kernel
theorem dX12_digest_247 : decode cX12_digest 247 = .ok (.bipush 20, 2) := by decide +kernel
theorem dX12_digest_249 : decode cX12_digest 249 = .ok (.iconst 0, 1) := by decide +kernel
theorem dX12_digest_250 : decode cX12_digest 250 = .ok (.invokevirtual 268, 3) := by decide +kernel
theorem dX12_digest_253 : decode cX12_digest 253 = .ok (.i2l, 1) := by decide +kernel
theorem dX12_digest_254 : decode cX12_digest 254 = .ok (.ladd, 1) := by decide +kernel
theorem dX12_digest_255 : decode cX12_digest 255 = .ok (.lstore_n 1, 1) := by decide +kernel
theorem dX12_digest_256 : decode cX12_digest 256 = .ok (.ldc2_w 288, 3) := by decide +kernel
theorem dX12_digest_259 : decode cX12_digest 259 = .ok (.lload_n 1, 1) := by decide +kernel
theorem dX12_digest_260 : decode cX12_digest 260 = .ok (.lmul, 1) := by decide +kernel
theorem dX12_digest_261 : decode cX12_digest 261 = .ok (.aload_n 0, 1) := by decide +kernel
theorem dX12_digest_262 : decode cX12_digest 262 = .ok (.bipush 7, 2) := by decide +kernel
theorem dX12_digest_264 : decode cX12_digest 264 = .ok (.bipush 20, 2) := by decide +kernel
theorem dX12_digest_266 : decode cX12_digest 266 = .ok (.iconst 1, 1) := by decide +kernel
theorem dX12_digest_267 : decode cX12_digest 267 = .ok (.invokevirtual 268, 3) := by decide +kernel
theorem dX12_digest_270 : decode cX12_digest 270 = .ok (.i2l, 1) := by decide +kernel
theorem dX12_digest_271 : decode cX12_digest 271 = .ok (.ladd, 1) := by decide +kernel
theorem dX12_digest_272 : decode cX12_digest 272 = .ok (.lreturn, 1) := by decide +kernel
