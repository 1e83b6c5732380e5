theorem dX4_init_0 : decode mX4_init.2.2.1 0 = .ok (.aload_n 0, 1) := by decide +kernel
theorem dX4_init_1 : decode mX4_init.2.2.1 1 = .ok (.invokespecial 3, 3) := by decide +kernel
theorem dX4_init_4 : decode mX4_init.2.2.1 4 = .ok (.aload_n 0, 1) := by decide +kernel
theorem dX4_init_5 : decode mX4_init.2.2.1 5 = .ok (.new 9, 3) := by decide +kernel
theorem dX4_init_8 : decode mX4_init.2.2.1 8 = .ok (.dup, 1) := by decide +kernel
theorem dX4_init_9 : decode mX4_init.2.2.1 9 = .ok (.invokespecial 11, 3) := by decide +kernel
theorem dX4_init_12 : decode mX4_init.2.2.1 12 = .ok (.putfield 12, 3) := by decide +kernel
theorem dX4_init_15 : decode mX4_init.2.2.1 15 = .ok (.aload_n 0, 1) := by decide +kernel
theorem dX4_init_16 : decode mX4_init.2.2.1 16 = .ok (.new 18, 3) := by decide +kernel
theorem dX4_init_19 : decode mX4_init.2.2.1 19 = .ok (.dup, 1) := by decide +kernel
theorem dX4_init_20 : decode mX4_init.2.2.1 20 = .ok (.invokespecial 20, 3) := by decide +kernel
theorem dX4_init_23 : decode mX4_init.2.2.1 23 = .ok (.putfield 21, 3) := by decide +kernel
theorem dX4_init_26 : decode mX4_init.2.2.1 26 = .ok (.aload_n 0, 1) := by decide +kernel
theorem dX4_init_27 : decode mX4_init.2.2.1 27 = .ok (.iconst (-1), 1) := by decide +kernel
theorem dX4_init_28 : decode mX4_init.2.2.1 28 = .ok (.putfield 25, 3) := by decide +kernel
theorem dX4_init_31 : decode mX4_init.2.2.1 31 = .ok (.aload_n 0, 1) := by decide +kernel
theorem dX4_init_32 : decode mX4_init.2.2.1 32 = .ok (.aload_n 1, 1) := by decide +kernel
theorem dX4_init_33 : decode mX4_init.2.2.1 33 = .ok (.putfield 29, 3) := by decide +kernel
theorem dX4_init_36 : decode mX4_init.2.2.1 36 = .ok (.return_, 1) := by decide +kernel
theorem dX4_handOver_0 : decode mX4_handOver.2.2.1 0 = .ok (.aload_n 0, 1) := by decide +kernel
theorem dX4_handOver_1 : decode mX4_handOver.2.2.1 1 = .ok (.getfield 21, 3) := by decide +kernel
theorem dX4_handOver_4 : decode mX4_handOver.2.2.1 4 = .ok (.astore_n 2, 1) := by decide +kernel
theorem dX4_handOver_5 : decode mX4_handOver.2.2.1 5 = .ok (.aload_n 0, 1) := by decide +kernel
theorem dX4_handOver_6 : decode mX4_handOver.2.2.1 6 = .ok (.aload_n 1, 1) := by decide +kernel
theorem dX4_handOver_7 : decode mX4_handOver.2.2.1 7 = .ok (.putfield 21, 3) := by decide +kernel
theorem dX4_handOver_10 : decode mX4_handOver.2.2.1 10 = .ok (.aload_n 2, 1) := by decide +kernel
theorem dX4_handOver_11 : decode mX4_handOver.2.2.1 11 = .ok (.areturn, 1) := by decide +kernel
theorem dX4_read_0 : decode mX4_read.2.2.1 0 = .ok (.aload_n 0, 1) := by decide +kernel
theorem dX4_read_1 : decode mX4_read.2.2.1 1 = .ok (.getfield 12, 3) := by decide +kernel
theorem dX4_read_4 : decode mX4_read.2.2.1 4 = .ok (.aload_n 1, 1) := by decide +kernel
theorem dX4_read_5 : decode mX4_read.2.2.1 5 = .ok (.invokevirtual 33, 3) := by decide +kernel
theorem dX4_read_8 : decode mX4_read.2.2.1 8 = .ok (.istore_n 2, 1) := by decide +kernel
theorem dX4_read_9 : decode mX4_read.2.2.1 9 = .ok (.aload_n 0, 1) := by decide +kernel
theorem dX4_read_10 : decode mX4_read.2.2.1 10 = .ok (.iload_n 2, 1) := by decide +kernel
theorem dX4_read_11 : decode mX4_read.2.2.1 11 = .ok (.iconst (-1), 1) := by decide +kernel
theorem dX4_read_12 : decode mX4_read.2.2.1 12 = .ok (.if_icmp .ne 13, 3) := by decide +kernel
theorem dX4_read_15 : decode mX4_read.2.2.1 15 = .ok (.aload_n 0, 1) := by decide +kernel
theorem dX4_read_16 : decode mX4_read.2.2.1 16 = .ok (.getfield 12, 3) := by decide +kernel
theorem dX4_read_19 : decode mX4_read.2.2.1 19 = .ok (.getfield 37, 3) := by decide +kernel
theorem dX4_read_22 : decode mX4_read.2.2.1 22 = .ok (.goto 4, 3) := by decide +kernel
theorem dX4_read_25 : decode mX4_read.2.2.1 25 = .ok (.iload_n 2, 1) := by decide +kernel
theorem dX4_read_26 : decode mX4_read.2.2.1 26 = .ok (.putfield 25, 3) := by decide +kernel
theorem dX4_read_29 : decode mX4_read.2.2.1 29 = .ok (.iload_n 2, 1) := by decide +kernel
theorem dX4_read_30 : decode mX4_read.2.2.1 30 = .ok (.aload_n 1, 1) := by decide +kernel
theorem dX4_read_31 : decode mX4_read.2.2.1 31 = .ok (.invokevirtual 40, 3) := by decide +kernel
theorem dX4_read_34 : decode mX4_read.2.2.1 34 = .ok (.if_icmp .eq 5, 3) := by decide +kernel
theorem dX4_read_37 : decode mX4_read.2.2.1 37 = .ok (.iconst 1, 1) := by decide +kernel
theorem dX4_read_38 : decode mX4_read.2.2.1 38 = .ok (.ireturn, 1) := by decide +kernel
theorem dX4_read_39 : decode mX4_read.2.2.1 39 = .ok (.aload_n 0, 1) := by decide +kernel
theorem dX4_read_40 : decode mX4_read.2.2.1 40 = .ok (.iconst (-1), 1) := by decide +kernel
theorem dX4_read_41 : decode mX4_read.2.2.1 41 = .ok (.putfield 25, 3) := by decide +kernel
theorem dX4_read_44 : decode mX4_read.2.2.1 44 = .ok (.aload_n 0, 1) := by decide +kernel
theorem dX4_read_45 : decode mX4_read.2.2.1 45 = .ok (.getfield 12, 3) := by decide +kernel
theorem dX4_read_48 : decode mX4_read.2.2.1 48 = .ok (.iconst 0, 1) := by decide +kernel
theorem dX4_read_49 : decode mX4_read.2.2.1 49 = .ok (.ldc 46, 2) := by decide +kernel
theorem dX4_read_51 : decode mX4_read.2.2.1 51 = .ok (.invokevirtual 48, 3) := by decide +kernel
theorem dX4_read_54 : decode mX4_read.2.2.1 54 = .ok (.istore_n 3, 1) := by decide +kernel
theorem dX4_read_55 : decode mX4_read.2.2.1 55 = .ok (.aload_n 0, 1) := by decide +kernel
theorem dX4_read_56 : decode mX4_read.2.2.1 56 = .ok (.getfield 12, 3) := by decide +kernel
theorem dX4_read_59 : decode mX4_read.2.2.1 59 = .ok (.iload_n 3, 1) := by decide +kernel
theorem dX4_read_60 : decode mX4_read.2.2.1 60 = .ok (.bipush 100, 2) := by decide +kernel
theorem dX4_read_62 : decode mX4_read.2.2.1 62 = .ok (.invokevirtual 52, 3) := by decide +kernel
theorem dX4_read_65 : decode mX4_read.2.2.1 65 = .ok (.ifCond .ne 5, 3) := by decide +kernel
theorem dX4_read_68 : decode mX4_read.2.2.1 68 = .ok (.iconst 2, 1) := by decide +kernel
theorem dX4_read_69 : decode mX4_read.2.2.1 69 = .ok (.ireturn, 1) := by decide +kernel
theorem dX4_read_70 : decode mX4_read.2.2.1 70 = .ok (.aload_n 0, 1) := by decide +kernel
theorem dX4_read_71 : decode mX4_read.2.2.1 71 = .ok (.getfield 12, 3) := by decide +kernel
theorem dX4_read_74 : decode mX4_read.2.2.1 74 = .ok (.aload_n 0, 1) := by decide +kernel
theorem dX4_read_75 : decode mX4_read.2.2.1 75 = .ok (.getfield 12, 3) := by decide +kernel
theorem dX4_read_78 : decode mX4_read.2.2.1 78 = .ok (.iload_n 3, 1) := by decide +kernel
theorem dX4_read_79 : decode mX4_read.2.2.1 79 = .ok (.ldc 56, 2) := by decide +kernel
theorem dX4_read_81 : decode mX4_read.2.2.1 81 = .ok (.invokevirtual 48, 3) := by decide +kernel
theorem dX4_read_84 : decode mX4_read.2.2.1 84 = .ok (.invokevirtual 58, 3) := by decide +kernel
theorem dX4_read_87 : decode mX4_read.2.2.1 87 = .ok (.iconst 1, 1) := by decide +kernel
theorem dX4_read_88 : decode mX4_read.2.2.1 88 = .ok (.bipush 60, 2) := by decide +kernel
theorem dX4_read_90 : decode mX4_read.2.2.1 90 = .ok (.invokestatic 62, 3) := by decide +kernel
theorem dX4_read_93 : decode mX4_read.2.2.1 93 = .ok (.ifCond .ne 5, 3) := by decide +kernel
theorem dX4_read_96 : decode mX4_read.2.2.1 96 = .ok (.iconst 3, 1) := by decide +kernel
theorem dX4_read_97 : decode mX4_read.2.2.1 97 = .ok (.ireturn, 1) := by decide +kernel
theorem dX4_read_98 : decode mX4_read.2.2.1 98 = .ok (.aload_n 0, 1) := by decide +kernel
theorem dX4_read_99 : decode mX4_read.2.2.1 99 = .ok (.getfield 21, 3) := by decide +kernel
theorem dX4_read_102 : decode mX4_read.2.2.1 102 = .ok (.aload_n 0, 1) := by decide +kernel
theorem dX4_read_103 : decode mX4_read.2.2.1 103 = .ok (.getfield 12, 3) := by decide +kernel
theorem dX4_read_106 : decode mX4_read.2.2.1 106 = .ok (.aload_n 0, 1) := by decide +kernel
theorem dX4_read_107 : decode mX4_read.2.2.1 107 = .ok (.getfield 12, 3) := by decide +kernel
theorem dX4_read_110 : decode mX4_read.2.2.1 110 = .ok (.iload_n 3, 1) := by decide +kernel
theorem dX4_read_111 : decode mX4_read.2.2.1 111 = .ok (.ldc 66, 2) := by decide +kernel
theorem dX4_read_113 : decode mX4_read.2.2.1 113 = .ok (.invokevirtual 48, 3) := by decide +kernel
theorem dX4_read_116 : decode mX4_read.2.2.1 116 = .ok (.invokevirtual 68, 3) := by decide +kernel
theorem dX4_read_119 : decode mX4_read.2.2.1 119 = .ok (.putfield 71, 3) := by decide +kernel
theorem dX4_read_122 : decode mX4_read.2.2.1 122 = .ok (.aload_n 0, 1) := by decide +kernel
theorem dX4_read_123 : decode mX4_read.2.2.1 123 = .ok (.getfield 21, 3) := by decide +kernel
theorem dX4_read_126 : decode mX4_read.2.2.1 126 = .ok (.getfield 71, 3) := by decide +kernel
theorem dX4_read_129 : decode mX4_read.2.2.1 129 = .ok (.bipush 32, 2) := by decide +kernel
theorem dX4_read_131 : decode mX4_read.2.2.1 131 = .ok (.sipush 1024, 3) := by decide +kernel
theorem dX4_read_134 : decode mX4_read.2.2.1 134 = .ok (.invokestatic 62, 3) := by decide +kernel
theorem dX4_read_137 : decode mX4_read.2.2.1 137 = .ok (.ifCond .ne 5, 3) := by decide +kernel
theorem dX4_read_140 : decode mX4_read.2.2.1 140 = .ok (.iconst 4, 1) := by decide +kernel
theorem dX4_read_141 : decode mX4_read.2.2.1 141 = .ok (.ireturn, 1) := by decide +kernel
theorem dX4_read_142 : decode mX4_read.2.2.1 142 = .ok (.aload_n 0, 1) := by decide +kernel
theorem dX4_read_143 : decode mX4_read.2.2.1 143 = .ok (.getfield 12, 3) := by decide +kernel
theorem dX4_read_146 : decode mX4_read.2.2.1 146 = .ok (.iload_n 3, 1) := by decide +kernel
theorem dX4_read_147 : decode mX4_read.2.2.1 147 = .ok (.ldc 74, 2) := by decide +kernel
theorem dX4_read_149 : decode mX4_read.2.2.1 149 = .ok (.invokevirtual 48, 3) := by decide +kernel
theorem dX4_read_152 : decode mX4_read.2.2.1 152 = .ok (.istore 4, 2) := by decide +kernel
theorem dX4_read_154 : decode mX4_read.2.2.1 154 = .ok (.aload_n 0, 1) := by decide +kernel
theorem dX4_read_155 : decode mX4_read.2.2.1 155 = .ok (.getfield 12, 3) := by decide +kernel
theorem dX4_read_158 : decode mX4_read.2.2.1 158 = .ok (.iload_n 3, 1) := by decide +kernel
theorem dX4_read_159 : decode mX4_read.2.2.1 159 = .ok (.ldc 76, 2) := by decide +kernel
theorem dX4_read_161 : decode mX4_read.2.2.1 161 = .ok (.invokevirtual 48, 3) := by decide +kernel
theorem dX4_read_164 : decode mX4_read.2.2.1 164 = .ok (.istore 5, 2) := by decide +kernel
theorem dX4_read_166 : decode mX4_read.2.2.1 166 = .ok (.iload 4, 2) := by decide +kernel
theorem dX4_read_168 : decode mX4_read.2.2.1 168 = .ok (.iconst (-1), 1) := by decide +kernel
theorem dX4_read_169 : decode mX4_read.2.2.1 169 = .ok (.if_icmp .ne 7, 3) := by decide +kernel
theorem dX4_read_172 : decode mX4_read.2.2.1 172 = .ok (.iconst 1, 1) := by decide +kernel
theorem dX4_read_173 : decode mX4_read.2.2.1 173 = .ok (.goto 4, 3) := by decide +kernel
theorem dX4_read_176 : decode mX4_read.2.2.1 176 = .ok (.iconst 0, 1) := by decide +kernel
theorem dX4_read_177 : decode mX4_read.2.2.1 177 = .ok (.iload 5, 2) := by decide +kernel
theorem dX4_read_179 : decode mX4_read.2.2.1 179 = .ok (.iconst (-1), 1) := by decide +kernel
theorem dX4_read_180 : decode mX4_read.2.2.1 180 = .ok (.if_icmp .ne 7, 3) := by decide +kernel
theorem dX4_read_183 : decode mX4_read.2.2.1 183 = .ok (.iconst 1, 1) := by decide +kernel
theorem dX4_read_184 : decode mX4_read.2.2.1 184 = .ok (.goto 4, 3) := by decide +kernel
theorem dX4_read_187 : decode mX4_read.2.2.1 187 = .ok (.iconst 0, 1) := by decide +kernel
theorem dX4_read_188 : decode mX4_read.2.2.1 188 = .ok (.if_icmp .eq 30, 3) := by decide +kernel
theorem dX4_read_191 : decode mX4_read.2.2.1 191 = .ok (.iload 5, 2) := by decide +kernel
theorem dX4_read_193 : decode mX4_read.2.2.1 193 = .ok (.iconst (-1), 1) := by decide +kernel
theorem dX4_read_194 : decode mX4_read.2.2.1 194 = .ok (.if_icmp .ne 15, 3) := by decide +kernel
theorem dX4_read_197 : decode mX4_read.2.2.1 197 = .ok (.aload_n 0, 1) := by decide +kernel
theorem dX4_read_198 : decode mX4_read.2.2.1 198 = .ok (.iload 4, 2) := by decide +kernel
theorem dX4_read_200 : decode mX4_read.2.2.1 200 = .ok (.invokevirtual 78, 3) := by decide +kernel
theorem dX4_read_203 : decode mX4_read.2.2.1 203 = .ok (.ifCond .eq 15, 3) := by decide +kernel
theorem dX4_read_206 : decode mX4_read.2.2.1 206 = .ok (.goto 14, 3) := by decide +kernel
theorem dX4_read_209 : decode mX4_read.2.2.1 209 = .ok (.aload_n 0, 1) := by decide +kernel
theorem dX4_read_210 : decode mX4_read.2.2.1 210 = .ok (.iload 5, 2) := by decide +kernel
theorem dX4_read_212 : decode mX4_read.2.2.1 212 = .ok (.invokevirtual 82, 3) := by decide +kernel
theorem dX4_read_215 : decode mX4_read.2.2.1 215 = .ok (.ifCond .ne 5, 3) := by decide +kernel
theorem dX4_read_218 : decode mX4_read.2.2.1 218 = .ok (.iconst 5, 1) := by decide +kernel
theorem dX4_read_219 : decode mX4_read.2.2.1 219 = .ok (.ireturn, 1) := by decide +kernel
theorem dX4_read_220 : decode mX4_read.2.2.1 220 = .ok (.aload_n 0, 1) := by decide +kernel
theorem dX4_read_221 : decode mX4_read.2.2.1 221 = .ok (.aload_n 1, 1) := by decide +kernel
theorem dX4_read_222 : decode mX4_read.2.2.1 222 = .ok (.aload_n 0, 1) := by decide +kernel
theorem dX4_read_223 : decode mX4_read.2.2.1 223 = .ok (.getfield 12, 3) := by decide +kernel
theorem dX4_read_226 : decode mX4_read.2.2.1 226 = .ok (.iload_n 3, 1) := by decide +kernel
theorem dX4_read_227 : decode mX4_read.2.2.1 227 = .ok (.ldc 85, 2) := by decide +kernel
theorem dX4_read_229 : decode mX4_read.2.2.1 229 = .ok (.invokevirtual 48, 3) := by decide +kernel
theorem dX4_read_232 : decode mX4_read.2.2.1 232 = .ok (.invokevirtual 87, 3) := by decide +kernel
theorem dX4_read_235 : decode mX4_read.2.2.1 235 = .ok (.ifCond .ne 6, 3) := by decide +kernel
theorem dX4_read_238 : decode mX4_read.2.2.1 238 = .ok (.bipush 6, 2) := by decide +kernel
theorem dX4_read_240 : decode mX4_read.2.2.1 240 = .ok (.ireturn, 1) := by decide +kernel
theorem dX4_read_241 : decode mX4_read.2.2.1 241 = .ok (.aload_n 0, 1) := by decide +kernel
theorem dX4_read_242 : decode mX4_read.2.2.1 242 = .ok (.getfield 29, 3) := by decide +kernel
theorem dX4_read_245 : decode mX4_read.2.2.1 245 = .ok (.aload_n 1, 1) := by decide +kernel
theorem dX4_read_246 : decode mX4_read.2.2.1 246 = .ok (.iload_n 3, 1) := by decide +kernel
theorem dX4_read_247 : decode mX4_read.2.2.1 247 = .ok (.aload_n 0, 1) := by decide +kernel
theorem dX4_read_248 : decode mX4_read.2.2.1 248 = .ok (.getfield 12, 3) := by decide +kernel
theorem dX4_read_251 : decode mX4_read.2.2.1 251 = .ok (.iload_n 3, 1) := by decide +kernel
theorem dX4_read_252 : decode mX4_read.2.2.1 252 = .ok (.invokevirtual 91, 3) := by decide +kernel
theorem dX4_read_255 : decode mX4_read.2.2.1 255 = .ok (.iload_n 3, 1) := by decide +kernel
theorem dX4_read_256 : decode mX4_read.2.2.1 256 = .ok (.isub, 1) := by decide +kernel
theorem dX4_read_257 : decode mX4_read.2.2.1 257 = .ok (.invokevirtual 94, 3) := by decide +kernel
theorem dX4_read_260 : decode mX4_read.2.2.1 260 = .ok (.aload_n 0, 1) := by decide +kernel
theorem dX4_read_261 : decode mX4_read.2.2.1 261 = .ok (.getfield 21, 3) := by decide +kernel
theorem dX4_read_264 : decode mX4_read.2.2.1 264 = .ok (.getfield 100, 3) := by decide +kernel
theorem dX4_read_267 : decode mX4_read.2.2.1 267 = .ok (.iconst 0, 1) := by decide +kernel
theorem dX4_read_268 : decode mX4_read.2.2.1 268 = .ok (.invokevirtual 104, 3) := by decide +kernel
theorem dX4_read_271 : decode mX4_read.2.2.1 271 = .ok (.aload_n 0, 1) := by decide +kernel
theorem dX4_read_272 : decode mX4_read.2.2.1 272 = .ok (.getfield 29, 3) := by decide +kernel
theorem dX4_read_275 : decode mX4_read.2.2.1 275 = .ok (.aload_n 0, 1) := by decide +kernel
theorem dX4_read_276 : decode mX4_read.2.2.1 276 = .ok (.getfield 21, 3) := by decide +kernel
theorem dX4_read_279 : decode mX4_read.2.2.1 279 = .ok (.getfield 100, 3) := by decide +kernel
theorem dX4_read_282 : decode mX4_read.2.2.1 282 = .ok (.invokevirtual 108, 3) := by decide +kernel
theorem dX4_read_285 : decode mX4_read.2.2.1 285 = .ok (.iconst 0, 1) := by decide +kernel
theorem dX4_read_286 : decode mX4_read.2.2.1 286 = .ok (.ireturn, 1) := by decide +kernel
theorem dX4_readLength_0 : decode mX4_readLength.2.2.1 0 = .ok (.aload_n 0, 1) := by decide +kernel
theorem dX4_readLength_1 : decode mX4_readLength.2.2.1 1 = .ok (.getfield 21, 3) := by decide +kernel
theorem dX4_readLength_4 : decode mX4_readLength.2.2.1 4 = .ok (.iconst 0, 1) := by decide +kernel
theorem dX4_readLength_5 : decode mX4_readLength.2.2.1 5 = .ok (.putfield 112, 3) := by decide +kernel
theorem dX4_readLength_8 : decode mX4_readLength.2.2.1 8 = .ok (.aload_n 0, 1) := by decide +kernel
theorem dX4_readLength_9 : decode mX4_readLength.2.2.1 9 = .ok (.getfield 21, 3) := by decide +kernel
theorem dX4_readLength_12 : decode mX4_readLength.2.2.1 12 = .ok (.aload_n 0, 1) := by decide +kernel
theorem dX4_readLength_13 : decode mX4_readLength.2.2.1 13 = .ok (.getfield 12, 3) := by decide +kernel
theorem dX4_readLength_16 : decode mX4_readLength.2.2.1 16 = .ok (.iload_n 1, 1) := by decide +kernel
theorem dX4_readLength_17 : decode mX4_readLength.2.2.1 17 = .ok (.invokevirtual 68, 3) := by decide +kernel
theorem dX4_readLength_20 : decode mX4_readLength.2.2.1 20 = .ok (.putfield 114, 3) := by decide +kernel
theorem dX4_readLength_23 : decode mX4_readLength.2.2.1 23 = .ok (.aload_n 0, 1) := by decide +kernel
theorem dX4_readLength_24 : decode mX4_readLength.2.2.1 24 = .ok (.getfield 21, 3) := by decide +kernel
theorem dX4_readLength_27 : decode mX4_readLength.2.2.1 27 = .ok (.getfield 114, 3) := by decide +kernel
theorem dX4_readLength_30 : decode mX4_readLength.2.2.1 30 = .ok (.iconst 1, 1) := by decide +kernel
theorem dX4_readLength_31 : decode mX4_readLength.2.2.1 31 = .ok (.sipush 4096, 3) := by decide +kernel
theorem dX4_readLength_34 : decode mX4_readLength.2.2.1 34 = .ok (.invokestatic 62, 3) := by decide +kernel
theorem dX4_readLength_37 : decode mX4_readLength.2.2.1 37 = .ok (.ireturn, 1) := by decide +kernel
theorem dX4_readFiles_0 : decode mX4_readFiles.2.2.1 0 = .ok (.aload_n 0, 1) := by decide +kernel
theorem dX4_readFiles_1 : decode mX4_readFiles.2.2.1 1 = .ok (.getfield 12, 3) := by decide +kernel
theorem dX4_readFiles_4 : decode mX4_readFiles.2.2.1 4 = .ok (.iload_n 1, 1) := by decide +kernel
theorem dX4_readFiles_5 : decode mX4_readFiles.2.2.1 5 = .ok (.bipush 108, 2) := by decide +kernel
theorem dX4_readFiles_7 : decode mX4_readFiles.2.2.1 7 = .ok (.invokevirtual 52, 3) := by decide +kernel
theorem dX4_readFiles_10 : decode mX4_readFiles.2.2.1 10 = .ok (.ifCond .ne 5, 3) := by decide +kernel
theorem dX4_readFiles_13 : decode mX4_readFiles.2.2.1 13 = .ok (.iconst 0, 1) := by decide +kernel
theorem dX4_readFiles_14 : decode mX4_readFiles.2.2.1 14 = .ok (.ireturn, 1) := by decide +kernel
theorem dX4_readFiles_15 : decode mX4_readFiles.2.2.1 15 = .ok (.aload_n 0, 1) := by decide +kernel
theorem dX4_readFiles_16 : decode mX4_readFiles.2.2.1 16 = .ok (.getfield 21, 3) := by decide +kernel
theorem dX4_readFiles_19 : decode mX4_readFiles.2.2.1 19 = .ok (.iconst 0, 1) := by decide +kernel
theorem dX4_readFiles_20 : decode mX4_readFiles.2.2.1 20 = .ok (.putfield 112, 3) := by decide +kernel
theorem dX4_readFiles_23 : decode mX4_readFiles.2.2.1 23 = .ok (.aload_n 0, 1) := by decide +kernel
theorem dX4_readFiles_24 : decode mX4_readFiles.2.2.1 24 = .ok (.getfield 21, 3) := by decide +kernel
theorem dX4_readFiles_27 : decode mX4_readFiles.2.2.1 27 = .ok (.iconst 0, 1) := by decide +kernel
theorem dX4_readFiles_28 : decode mX4_readFiles.2.2.1 28 = .ok (.putfield 114, 3) := by decide +kernel
theorem dX4_readFiles_31 : decode mX4_readFiles.2.2.1 31 = .ok (.iload_n 1, 1) := by decide +kernel
theorem dX4_readFiles_32 : decode mX4_readFiles.2.2.1 32 = .ok (.iconst 1, 1) := by decide +kernel
theorem dX4_readFiles_33 : decode mX4_readFiles.2.2.1 33 = .ok (.iadd, 1) := by decide +kernel
theorem dX4_readFiles_34 : decode mX4_readFiles.2.2.1 34 = .ok (.istore_n 2, 1) := by decide +kernel
theorem dX4_readFiles_35 : decode mX4_readFiles.2.2.1 35 = .ok (.iconst 0, 1) := by decide +kernel
theorem dX4_readFiles_36 : decode mX4_readFiles.2.2.1 36 = .ok (.istore_n 3, 1) := by decide +kernel
theorem dX4_readFiles_37 : decode mX4_readFiles.2.2.1 37 = .ok (.iload_n 3, 1) := by decide +kernel
theorem dX4_readFiles_38 : decode mX4_readFiles.2.2.1 38 = .ok (.bipush 16, 2) := by decide +kernel
theorem dX4_readFiles_40 : decode mX4_readFiles.2.2.1 40 = .ok (.if_icmp .ge 148, 3) := by decide +kernel
theorem dX4_readFiles_43 : decode mX4_readFiles.2.2.1 43 = .ok (.aload_n 0, 1) := by decide +kernel
theorem dX4_readFiles_44 : decode mX4_readFiles.2.2.1 44 = .ok (.getfield 12, 3) := by decide +kernel
theorem dX4_readFiles_47 : decode mX4_readFiles.2.2.1 47 = .ok (.iload_n 2, 1) := by decide +kernel
theorem dX4_readFiles_48 : decode mX4_readFiles.2.2.1 48 = .ok (.bipush 101, 2) := by decide +kernel
theorem dX4_readFiles_50 : decode mX4_readFiles.2.2.1 50 = .ok (.invokevirtual 52, 3) := by decide +kernel
theorem dX4_readFiles_53 : decode mX4_readFiles.2.2.1 53 = .ok (.ifCond .ne 135, 3) := by decide +kernel
theorem dX4_readFiles_56 : decode mX4_readFiles.2.2.1 56 = .ok (.aload_n 0, 1) := by decide +kernel
theorem dX4_readFiles_57 : decode mX4_readFiles.2.2.1 57 = .ok (.getfield 12, 3) := by decide +kernel
theorem dX4_readFiles_60 : decode mX4_readFiles.2.2.1 60 = .ok (.aload_n 0, 1) := by decide +kernel
theorem dX4_readFiles_61 : decode mX4_readFiles.2.2.1 61 = .ok (.getfield 12, 3) := by decide +kernel
theorem dX4_readFiles_64 : decode mX4_readFiles.2.2.1 64 = .ok (.iload_n 2, 1) := by decide +kernel
theorem dX4_readFiles_65 : decode mX4_readFiles.2.2.1 65 = .ok (.ldc 74, 2) := by decide +kernel
theorem dX4_readFiles_67 : decode mX4_readFiles.2.2.1 67 = .ok (.invokevirtual 48, 3) := by decide +kernel
theorem dX4_readFiles_70 : decode mX4_readFiles.2.2.1 70 = .ok (.invokevirtual 68, 3) := by decide +kernel
theorem dX4_readFiles_73 : decode mX4_readFiles.2.2.1 73 = .ok (.istore 4, 2) := by decide +kernel
theorem dX4_readFiles_75 : decode mX4_readFiles.2.2.1 75 = .ok (.aload_n 0, 1) := by decide +kernel
theorem dX4_readFiles_76 : decode mX4_readFiles.2.2.1 76 = .ok (.aload_n 0, 1) := by decide +kernel
theorem dX4_readFiles_77 : decode mX4_readFiles.2.2.1 77 = .ok (.getfield 12, 3) := by decide +kernel
theorem dX4_readFiles_80 : decode mX4_readFiles.2.2.1 80 = .ok (.iload_n 2, 1) := by decide +kernel
theorem dX4_readFiles_81 : decode mX4_readFiles.2.2.1 81 = .ok (.ldc 116, 2) := by decide +kernel
theorem dX4_readFiles_83 : decode mX4_readFiles.2.2.1 83 = .ok (.invokevirtual 48, 3) := by decide +kernel
theorem dX4_readFiles_86 : decode mX4_readFiles.2.2.1 86 = .ok (.invokevirtual 118, 3) := by decide +kernel
theorem dX4_readFiles_89 : decode mX4_readFiles.2.2.1 89 = .ok (.istore 5, 2) := by decide +kernel
theorem dX4_readFiles_91 : decode mX4_readFiles.2.2.1 91 = .ok (.iload 4, 2) := by decide +kernel
theorem dX4_readFiles_93 : decode mX4_readFiles.2.2.1 93 = .ok (.iconst 0, 1) := by decide +kernel
theorem dX4_readFiles_94 : decode mX4_readFiles.2.2.1 94 = .ok (.sipush 4096, 3) := by decide +kernel
theorem dX4_readFiles_97 : decode mX4_readFiles.2.2.1 97 = .ok (.invokestatic 62, 3) := by decide +kernel
theorem dX4_readFiles_100 : decode mX4_readFiles.2.2.1 100 = .ok (.ifCond .eq 9, 3) := by decide +kernel
theorem dX4_readFiles_103 : decode mX4_readFiles.2.2.1 103 = .ok (.iload 5, 2) := by decide +kernel
theorem dX4_readFiles_105 : decode mX4_readFiles.2.2.1 105 = .ok (.iconst (-1), 1) := by decide +kernel
theorem dX4_readFiles_106 : decode mX4_readFiles.2.2.1 106 = .ok (.if_icmp .ne 5, 3) := by decide +kernel
theorem dX4_readFiles_109 : decode mX4_readFiles.2.2.1 109 = .ok (.iconst 0, 1) := by decide +kernel
theorem dX4_readFiles_110 : decode mX4_readFiles.2.2.1 110 = .ok (.ireturn, 1) := by decide +kernel
theorem dX4_readFiles_111 : decode mX4_readFiles.2.2.1 111 = .ok (.aload_n 0, 1) := by decide +kernel
theorem dX4_readFiles_112 : decode mX4_readFiles.2.2.1 112 = .ok (.getfield 21, 3) := by decide +kernel
theorem dX4_readFiles_115 : decode mX4_readFiles.2.2.1 115 = .ok (.getfield 121, 3) := by decide +kernel
theorem dX4_readFiles_118 : decode mX4_readFiles.2.2.1 118 = .ok (.iload_n 3, 1) := by decide +kernel
theorem dX4_readFiles_119 : decode mX4_readFiles.2.2.1 119 = .ok (.iload 4, 2) := by decide +kernel
theorem dX4_readFiles_121 : decode mX4_readFiles.2.2.1 121 = .ok (.iastore, 1) := by decide +kernel
theorem dX4_readFiles_122 : decode mX4_readFiles.2.2.1 122 = .ok (.aload_n 0, 1) := by decide +kernel
theorem dX4_readFiles_123 : decode mX4_readFiles.2.2.1 123 = .ok (.getfield 21, 3) := by decide +kernel
theorem dX4_readFiles_126 : decode mX4_readFiles.2.2.1 126 = .ok (.getfield 125, 3) := by decide +kernel
theorem dX4_readFiles_129 : decode mX4_readFiles.2.2.1 129 = .ok (.iload_n 3, 1) := by decide +kernel
theorem dX4_readFiles_130 : decode mX4_readFiles.2.2.1 130 = .ok (.aload_n 0, 1) := by decide +kernel
theorem dX4_readFiles_131 : decode mX4_readFiles.2.2.1 131 = .ok (.getfield 21, 3) := by decide +kernel
theorem dX4_readFiles_134 : decode mX4_readFiles.2.2.1 134 = .ok (.getfield 114, 3) := by decide +kernel
theorem dX4_readFiles_137 : decode mX4_readFiles.2.2.1 137 = .ok (.iastore, 1) := by decide +kernel
theorem dX4_readFiles_138 : decode mX4_readFiles.2.2.1 138 = .ok (.aload_n 0, 1) := by decide +kernel
theorem dX4_readFiles_139 : decode mX4_readFiles.2.2.1 139 = .ok (.getfield 21, 3) := by decide +kernel
theorem dX4_readFiles_142 : decode mX4_readFiles.2.2.1 142 = .ok (.getfield 128, 3) := by decide +kernel
theorem dX4_readFiles_145 : decode mX4_readFiles.2.2.1 145 = .ok (.iload_n 3, 1) := by decide +kernel
theorem dX4_readFiles_146 : decode mX4_readFiles.2.2.1 146 = .ok (.iload 5, 2) := by decide +kernel
theorem dX4_readFiles_148 : decode mX4_readFiles.2.2.1 148 = .ok (.iastore, 1) := by decide +kernel
theorem dX4_readFiles_149 : decode mX4_readFiles.2.2.1 149 = .ok (.aload_n 0, 1) := by decide +kernel
theorem dX4_readFiles_150 : decode mX4_readFiles.2.2.1 150 = .ok (.getfield 21, 3) := by decide +kernel
theorem dX4_readFiles_153 : decode mX4_readFiles.2.2.1 153 = .ok (.dup, 1) := by decide +kernel
theorem dX4_readFiles_154 : decode mX4_readFiles.2.2.1 154 = .ok (.getfield 114, 3) := by decide +kernel
theorem dX4_readFiles_157 : decode mX4_readFiles.2.2.1 157 = .ok (.iload 4, 2) := by decide +kernel
theorem dX4_readFiles_159 : decode mX4_readFiles.2.2.1 159 = .ok (.iadd, 1) := by decide +kernel
theorem dX4_readFiles_160 : decode mX4_readFiles.2.2.1 160 = .ok (.putfield 114, 3) := by decide +kernel
theorem dX4_readFiles_163 : decode mX4_readFiles.2.2.1 163 = .ok (.aload_n 0, 1) := by decide +kernel
theorem dX4_readFiles_164 : decode mX4_readFiles.2.2.1 164 = .ok (.getfield 21, 3) := by decide +kernel
theorem dX4_readFiles_167 : decode mX4_readFiles.2.2.1 167 = .ok (.iload_n 3, 1) := by decide +kernel
theorem dX4_readFiles_168 : decode mX4_readFiles.2.2.1 168 = .ok (.iconst 1, 1) := by decide +kernel
theorem dX4_readFiles_169 : decode mX4_readFiles.2.2.1 169 = .ok (.iadd, 1) := by decide +kernel
theorem dX4_readFiles_170 : decode mX4_readFiles.2.2.1 170 = .ok (.putfield 112, 3) := by decide +kernel
theorem dX4_readFiles_173 : decode mX4_readFiles.2.2.1 173 = .ok (.aload_n 0, 1) := by decide +kernel
theorem dX4_readFiles_174 : decode mX4_readFiles.2.2.1 174 = .ok (.getfield 12, 3) := by decide +kernel
theorem dX4_readFiles_177 : decode mX4_readFiles.2.2.1 177 = .ok (.iload_n 2, 1) := by decide +kernel
theorem dX4_readFiles_178 : decode mX4_readFiles.2.2.1 178 = .ok (.invokevirtual 91, 3) := by decide +kernel
theorem dX4_readFiles_181 : decode mX4_readFiles.2.2.1 181 = .ok (.istore_n 2, 1) := by decide +kernel
theorem dX4_readFiles_182 : decode mX4_readFiles.2.2.1 182 = .ok (.iinc 3 1, 3) := by decide +kernel
theorem dX4_readFiles_185 : decode mX4_readFiles.2.2.1 185 = .ok (.goto (-148), 3) := by decide +kernel
theorem dX4_readFiles_188 : decode mX4_readFiles.2.2.1 188 = .ok (.aload_n 0, 1) := by decide +kernel
theorem dX4_readFiles_189 : decode mX4_readFiles.2.2.1 189 = .ok (.getfield 12, 3) := by decide +kernel
theorem dX4_readFiles_192 : decode mX4_readFiles.2.2.1 192 = .ok (.iload_n 2, 1) := by decide +kernel
theorem dX4_readFiles_193 : decode mX4_readFiles.2.2.1 193 = .ok (.bipush 101, 2) := by decide +kernel
theorem dX4_readFiles_195 : decode mX4_readFiles.2.2.1 195 = .ok (.invokevirtual 52, 3) := by decide +kernel
theorem dX4_readFiles_198 : decode mX4_readFiles.2.2.1 198 = .ok (.ifCond .eq 24, 3) := by decide +kernel
theorem dX4_readFiles_201 : decode mX4_readFiles.2.2.1 201 = .ok (.aload_n 0, 1) := by decide +kernel
theorem dX4_readFiles_202 : decode mX4_readFiles.2.2.1 202 = .ok (.getfield 21, 3) := by decide +kernel
theorem dX4_readFiles_205 : decode mX4_readFiles.2.2.1 205 = .ok (.getfield 114, 3) := by decide +kernel
theorem dX4_readFiles_208 : decode mX4_readFiles.2.2.1 208 = .ok (.iconst 1, 1) := by decide +kernel
theorem dX4_readFiles_209 : decode mX4_readFiles.2.2.1 209 = .ok (.sipush 4096, 3) := by decide +kernel
theorem dX4_readFiles_212 : decode mX4_readFiles.2.2.1 212 = .ok (.invokestatic 62, 3) := by decide +kernel
theorem dX4_readFiles_215 : decode mX4_readFiles.2.2.1 215 = .ok (.ifCond .eq 7, 3) := by decide +kernel
theorem dX4_readFiles_218 : decode mX4_readFiles.2.2.1 218 = .ok (.iconst 1, 1) := by decide +kernel
theorem dX4_readFiles_219 : decode mX4_readFiles.2.2.1 219 = .ok (.goto 4, 3) := by decide +kernel
theorem dX4_readFiles_222 : decode mX4_readFiles.2.2.1 222 = .ok (.iconst 0, 1) := by decide +kernel
theorem dX4_readFiles_223 : decode mX4_readFiles.2.2.1 223 = .ok (.ireturn, 1) := by decide +kernel
theorem dX4_pathLength_0 : decode mX4_pathLength.2.2.1 0 = .ok (.aload_n 0, 1) := by decide +kernel
theorem dX4_pathLength_1 : decode mX4_pathLength.2.2.1 1 = .ok (.getfield 12, 3) := by decide +kernel
theorem dX4_pathLength_4 : decode mX4_pathLength.2.2.1 4 = .ok (.iload_n 1, 1) := by decide +kernel
theorem dX4_pathLength_5 : decode mX4_pathLength.2.2.1 5 = .ok (.bipush 108, 2) := by decide +kernel
theorem dX4_pathLength_7 : decode mX4_pathLength.2.2.1 7 = .ok (.invokevirtual 52, 3) := by decide +kernel
theorem dX4_pathLength_10 : decode mX4_pathLength.2.2.1 10 = .ok (.ifCond .ne 5, 3) := by decide +kernel
theorem dX4_pathLength_13 : decode mX4_pathLength.2.2.1 13 = .ok (.iconst (-1), 1) := by decide +kernel
theorem dX4_pathLength_14 : decode mX4_pathLength.2.2.1 14 = .ok (.ireturn, 1) := by decide +kernel
theorem dX4_pathLength_15 : decode mX4_pathLength.2.2.1 15 = .ok (.iload_n 1, 1) := by decide +kernel
theorem dX4_pathLength_16 : decode mX4_pathLength.2.2.1 16 = .ok (.iconst 1, 1) := by decide +kernel
theorem dX4_pathLength_17 : decode mX4_pathLength.2.2.1 17 = .ok (.iadd, 1) := by decide +kernel
theorem dX4_pathLength_18 : decode mX4_pathLength.2.2.1 18 = .ok (.istore_n 2, 1) := by decide +kernel
theorem dX4_pathLength_19 : decode mX4_pathLength.2.2.1 19 = .ok (.iconst 0, 1) := by decide +kernel
theorem dX4_pathLength_20 : decode mX4_pathLength.2.2.1 20 = .ok (.istore_n 3, 1) := by decide +kernel
theorem dX4_pathLength_21 : decode mX4_pathLength.2.2.1 21 = .ok (.iload_n 3, 1) := by decide +kernel
theorem dX4_pathLength_22 : decode mX4_pathLength.2.2.1 22 = .ok (.bipush 8, 2) := by decide +kernel
theorem dX4_pathLength_24 : decode mX4_pathLength.2.2.1 24 = .ok (.if_icmp .ge 35, 3) := by decide +kernel
theorem dX4_pathLength_27 : decode mX4_pathLength.2.2.1 27 = .ok (.aload_n 0, 1) := by decide +kernel
theorem dX4_pathLength_28 : decode mX4_pathLength.2.2.1 28 = .ok (.getfield 12, 3) := by decide +kernel
theorem dX4_pathLength_31 : decode mX4_pathLength.2.2.1 31 = .ok (.iload_n 2, 1) := by decide +kernel
theorem dX4_pathLength_32 : decode mX4_pathLength.2.2.1 32 = .ok (.invokevirtual 58, 3) := by decide +kernel
theorem dX4_pathLength_35 : decode mX4_pathLength.2.2.1 35 = .ok (.iconst 1, 1) := by decide +kernel
theorem dX4_pathLength_36 : decode mX4_pathLength.2.2.1 36 = .ok (.bipush 60, 2) := by decide +kernel
theorem dX4_pathLength_38 : decode mX4_pathLength.2.2.1 38 = .ok (.invokestatic 62, 3) := by decide +kernel
theorem dX4_pathLength_41 : decode mX4_pathLength.2.2.1 41 = .ok (.ifCond .eq 18, 3) := by decide +kernel
theorem dX4_pathLength_44 : decode mX4_pathLength.2.2.1 44 = .ok (.aload_n 0, 1) := by decide +kernel
theorem dX4_pathLength_45 : decode mX4_pathLength.2.2.1 45 = .ok (.getfield 12, 3) := by decide +kernel
theorem dX4_pathLength_48 : decode mX4_pathLength.2.2.1 48 = .ok (.iload_n 2, 1) := by decide +kernel
theorem dX4_pathLength_49 : decode mX4_pathLength.2.2.1 49 = .ok (.invokevirtual 91, 3) := by decide +kernel
theorem dX4_pathLength_52 : decode mX4_pathLength.2.2.1 52 = .ok (.istore_n 2, 1) := by decide +kernel
theorem dX4_pathLength_53 : decode mX4_pathLength.2.2.1 53 = .ok (.iinc 3 1, 3) := by decide +kernel
theorem dX4_pathLength_56 : decode mX4_pathLength.2.2.1 56 = .ok (.goto (-35), 3) := by decide +kernel
theorem dX4_pathLength_59 : decode mX4_pathLength.2.2.1 59 = .ok (.iload_n 3, 1) := by decide +kernel
theorem dX4_pathLength_60 : decode mX4_pathLength.2.2.1 60 = .ok (.ifCond .le 20, 3) := by decide +kernel
theorem dX4_pathLength_63 : decode mX4_pathLength.2.2.1 63 = .ok (.aload_n 0, 1) := by decide +kernel
theorem dX4_pathLength_64 : decode mX4_pathLength.2.2.1 64 = .ok (.getfield 12, 3) := by decide +kernel
theorem dX4_pathLength_67 : decode mX4_pathLength.2.2.1 67 = .ok (.iload_n 2, 1) := by decide +kernel
theorem dX4_pathLength_68 : decode mX4_pathLength.2.2.1 68 = .ok (.bipush 101, 2) := by decide +kernel
theorem dX4_pathLength_70 : decode mX4_pathLength.2.2.1 70 = .ok (.invokevirtual 52, 3) := by decide +kernel
theorem dX4_pathLength_73 : decode mX4_pathLength.2.2.1 73 = .ok (.ifCond .eq 7, 3) := by decide +kernel
theorem dX4_pathLength_76 : decode mX4_pathLength.2.2.1 76 = .ok (.iload_n 3, 1) := by decide +kernel
theorem dX4_pathLength_77 : decode mX4_pathLength.2.2.1 77 = .ok (.goto 4, 3) := by decide +kernel
theorem dX4_pathLength_80 : decode mX4_pathLength.2.2.1 80 = .ok (.iconst (-1), 1) := by decide +kernel
theorem dX4_pathLength_81 : decode mX4_pathLength.2.2.1 81 = .ok (.ireturn, 1) := by decide +kernel
theorem dX4_readPieces_0 : decode mX4_readPieces.2.2.1 0 = .ok (.aload_n 0, 1) := by decide +kernel
theorem dX4_readPieces_1 : decode mX4_readPieces.2.2.1 1 = .ok (.getfield 21, 3) := by decide +kernel
theorem dX4_readPieces_4 : decode mX4_readPieces.2.2.1 4 = .ok (.aload_n 0, 1) := by decide +kernel
theorem dX4_readPieces_5 : decode mX4_readPieces.2.2.1 5 = .ok (.getfield 21, 3) := by decide +kernel
theorem dX4_readPieces_8 : decode mX4_readPieces.2.2.1 8 = .ok (.getfield 114, 3) := by decide +kernel
theorem dX4_readPieces_11 : decode mX4_readPieces.2.2.1 11 = .ok (.aload_n 0, 1) := by decide +kernel
theorem dX4_readPieces_12 : decode mX4_readPieces.2.2.1 12 = .ok (.getfield 21, 3) := by decide +kernel
theorem dX4_readPieces_15 : decode mX4_readPieces.2.2.1 15 = .ok (.getfield 71, 3) := by decide +kernel
theorem dX4_readPieces_18 : decode mX4_readPieces.2.2.1 18 = .ok (.invokestatic 131, 3) := by decide +kernel
theorem dX4_readPieces_21 : decode mX4_readPieces.2.2.1 21 = .ok (.putfield 135, 3) := by decide +kernel
theorem dX4_readPieces_24 : decode mX4_readPieces.2.2.1 24 = .ok (.bipush 20, 2) := by decide +kernel
theorem dX4_readPieces_26 : decode mX4_readPieces.2.2.1 26 = .ok (.aload_n 0, 1) := by decide +kernel
theorem dX4_readPieces_27 : decode mX4_readPieces.2.2.1 27 = .ok (.getfield 21, 3) := by decide +kernel
theorem dX4_readPieces_30 : decode mX4_readPieces.2.2.1 30 = .ok (.getfield 135, 3) := by decide +kernel
theorem dX4_readPieces_33 : decode mX4_readPieces.2.2.1 33 = .ok (.imul, 1) := by decide +kernel
theorem dX4_readPieces_34 : decode mX4_readPieces.2.2.1 34 = .ok (.istore_n 3, 1) := by decide +kernel
theorem dX4_readPieces_35 : decode mX4_readPieces.2.2.1 35 = .ok (.aload_n 0, 1) := by decide +kernel
theorem dX4_readPieces_36 : decode mX4_readPieces.2.2.1 36 = .ok (.getfield 21, 3) := by decide +kernel
theorem dX4_readPieces_39 : decode mX4_readPieces.2.2.1 39 = .ok (.getfield 135, 3) := by decide +kernel
theorem dX4_readPieces_42 : decode mX4_readPieces.2.2.1 42 = .ok (.bipush 64, 2) := by decide +kernel
theorem dX4_readPieces_44 : decode mX4_readPieces.2.2.1 44 = .ok (.if_icmp .gt 15, 3) := by decide +kernel
theorem dX4_readPieces_47 : decode mX4_readPieces.2.2.1 47 = .ok (.aload_n 0, 1) := by decide +kernel
theorem dX4_readPieces_48 : decode mX4_readPieces.2.2.1 48 = .ok (.getfield 12, 3) := by decide +kernel
theorem dX4_readPieces_51 : decode mX4_readPieces.2.2.1 51 = .ok (.iload_n 2, 1) := by decide +kernel
theorem dX4_readPieces_52 : decode mX4_readPieces.2.2.1 52 = .ok (.invokevirtual 58, 3) := by decide +kernel
theorem dX4_readPieces_55 : decode mX4_readPieces.2.2.1 55 = .ok (.iload_n 3, 1) := by decide +kernel
theorem dX4_readPieces_56 : decode mX4_readPieces.2.2.1 56 = .ok (.if_icmp .eq 5, 3) := by decide +kernel
theorem dX4_readPieces_59 : decode mX4_readPieces.2.2.1 59 = .ok (.iconst 0, 1) := by decide +kernel
theorem dX4_readPieces_60 : decode mX4_readPieces.2.2.1 60 = .ok (.ireturn, 1) := by decide +kernel
theorem dX4_readPieces_61 : decode mX4_readPieces.2.2.1 61 = .ok (.aload_n 0, 1) := by decide +kernel
theorem dX4_readPieces_62 : decode mX4_readPieces.2.2.1 62 = .ok (.getfield 21, 3) := by decide +kernel
theorem dX4_readPieces_65 : decode mX4_readPieces.2.2.1 65 = .ok (.getfield 137, 3) := by decide +kernel
theorem dX4_readPieces_68 : decode mX4_readPieces.2.2.1 68 = .ok (.iconst 0, 1) := by decide +kernel
theorem dX4_readPieces_69 : decode mX4_readPieces.2.2.1 69 = .ok (.invokevirtual 104, 3) := by decide +kernel
theorem dX4_readPieces_72 : decode mX4_readPieces.2.2.1 72 = .ok (.aload_n 0, 1) := by decide +kernel
theorem dX4_readPieces_73 : decode mX4_readPieces.2.2.1 73 = .ok (.getfield 21, 3) := by decide +kernel
theorem dX4_readPieces_76 : decode mX4_readPieces.2.2.1 76 = .ok (.getfield 137, 3) := by decide +kernel
theorem dX4_readPieces_79 : decode mX4_readPieces.2.2.1 79 = .ok (.aload_n 1, 1) := by decide +kernel
theorem dX4_readPieces_80 : decode mX4_readPieces.2.2.1 80 = .ok (.aload_n 0, 1) := by decide +kernel
theorem dX4_readPieces_81 : decode mX4_readPieces.2.2.1 81 = .ok (.getfield 12, 3) := by decide +kernel
theorem dX4_readPieces_84 : decode mX4_readPieces.2.2.1 84 = .ok (.iload_n 2, 1) := by decide +kernel
theorem dX4_readPieces_85 : decode mX4_readPieces.2.2.1 85 = .ok (.invokevirtual 91, 3) := by decide +kernel
theorem dX4_readPieces_88 : decode mX4_readPieces.2.2.1 88 = .ok (.iload_n 3, 1) := by decide +kernel
theorem dX4_readPieces_89 : decode mX4_readPieces.2.2.1 89 = .ok (.isub, 1) := by decide +kernel
theorem dX4_readPieces_90 : decode mX4_readPieces.2.2.1 90 = .ok (.iload_n 3, 1) := by decide +kernel
theorem dX4_readPieces_91 : decode mX4_readPieces.2.2.1 91 = .ok (.invokevirtual 140, 3) := by decide +kernel
theorem dX4_readPieces_94 : decode mX4_readPieces.2.2.1 94 = .ok (.iconst 1, 1) := by decide +kernel
theorem dX4_readPieces_95 : decode mX4_readPieces.2.2.1 95 = .ok (.ireturn, 1) := by decide +kernel
