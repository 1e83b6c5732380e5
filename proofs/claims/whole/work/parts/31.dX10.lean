theorem dX10_init_0 : decode mX10_init.2.2.1 0 = .ok (.aload_n 0, 1) := by decide +kernel
theorem dX10_init_1 : decode mX10_init.2.2.1 1 = .ok (.invokespecial 1, 3) := by decide +kernel
theorem dX10_init_4 : decode mX10_init.2.2.1 4 = .ok (.aload_n 0, 1) := by decide +kernel
theorem dX10_init_5 : decode mX10_init.2.2.1 5 = .ok (.sipush 6000, 3) := by decide +kernel
theorem dX10_init_8 : decode mX10_init.2.2.1 8 = .ok (.newarray .byte, 2) := by decide +kernel
theorem dX10_init_10 : decode mX10_init.2.2.1 10 = .ok (.putfield 7, 3) := by decide +kernel
theorem dX10_init_13 : decode mX10_init.2.2.1 13 = .ok (.aload_n 0, 1) := by decide +kernel
theorem dX10_init_14 : decode mX10_init.2.2.1 14 = .ok (.sipush 6000, 3) := by decide +kernel
theorem dX10_init_17 : decode mX10_init.2.2.1 17 = .ok (.newarray .byte, 2) := by decide +kernel
theorem dX10_init_19 : decode mX10_init.2.2.1 19 = .ok (.putfield 13, 3) := by decide +kernel
theorem dX10_init_22 : decode mX10_init.2.2.1 22 = .ok (.aload_n 0, 1) := by decide +kernel
theorem dX10_init_23 : decode mX10_init.2.2.1 23 = .ok (.sipush 6100, 3) := by decide +kernel
theorem dX10_init_26 : decode mX10_init.2.2.1 26 = .ok (.newarray .byte, 2) := by decide +kernel
theorem dX10_init_28 : decode mX10_init.2.2.1 28 = .ok (.putfield 16, 3) := by decide +kernel
theorem dX10_init_31 : decode mX10_init.2.2.1 31 = .ok (.aload_n 0, 1) := by decide +kernel
theorem dX10_init_32 : decode mX10_init.2.2.1 32 = .ok (.bipush 80, 2) := by decide +kernel
theorem dX10_init_34 : decode mX10_init.2.2.1 34 = .ok (.newarray .int, 2) := by decide +kernel
theorem dX10_init_36 : decode mX10_init.2.2.1 36 = .ok (.putfield 19, 3) := by decide +kernel
theorem dX10_init_39 : decode mX10_init.2.2.1 39 = .ok (.aload_n 0, 1) := by decide +kernel
theorem dX10_init_40 : decode mX10_init.2.2.1 40 = .ok (.iconst 5, 1) := by decide +kernel
theorem dX10_init_41 : decode mX10_init.2.2.1 41 = .ok (.newarray .int, 2) := by decide +kernel
theorem dX10_init_43 : decode mX10_init.2.2.1 43 = .ok (.putfield 23, 3) := by decide +kernel
theorem dX10_init_46 : decode mX10_init.2.2.1 46 = .ok (.aload_n 0, 1) := by decide +kernel
theorem dX10_init_47 : decode mX10_init.2.2.1 47 = .ok (.bipush 20, 2) := by decide +kernel
theorem dX10_init_49 : decode mX10_init.2.2.1 49 = .ok (.newarray .byte, 2) := by decide +kernel
theorem dX10_init_51 : decode mX10_init.2.2.1 51 = .ok (.putfield 26, 3) := by decide +kernel
theorem dX10_init_54 : decode mX10_init.2.2.1 54 = .ok (.aload_n 0, 1) := by decide +kernel
theorem dX10_init_55 : decode mX10_init.2.2.1 55 = .ok (.bipush 8, 2) := by decide +kernel
theorem dX10_init_57 : decode mX10_init.2.2.1 57 = .ok (.newarray .int, 2) := by decide +kernel
theorem dX10_init_59 : decode mX10_init.2.2.1 59 = .ok (.putfield 29, 3) := by decide +kernel
theorem dX10_init_62 : decode mX10_init.2.2.1 62 = .ok (.aload_n 0, 1) := by decide +kernel
theorem dX10_init_63 : decode mX10_init.2.2.1 63 = .ok (.bipush 8, 2) := by decide +kernel
theorem dX10_init_65 : decode mX10_init.2.2.1 65 = .ok (.newarray .int, 2) := by decide +kernel
theorem dX10_init_67 : decode mX10_init.2.2.1 67 = .ok (.putfield 32, 3) := by decide +kernel
theorem dX10_init_70 : decode mX10_init.2.2.1 70 = .ok (.aload_n 0, 1) := by decide +kernel
theorem dX10_init_71 : decode mX10_init.2.2.1 71 = .ok (.bipush 41, 2) := by decide +kernel
theorem dX10_init_73 : decode mX10_init.2.2.1 73 = .ok (.newarray .byte, 2) := by decide +kernel
theorem dX10_init_75 : decode mX10_init.2.2.1 75 = .ok (.dup, 1) := by decide +kernel
theorem dX10_init_76 : decode mX10_init.2.2.1 76 = .ok (.iconst 0, 1) := by decide +kernel
theorem dX10_init_77 : decode mX10_init.2.2.1 77 = .ok (.bipush 105, 2) := by decide +kernel
theorem dX10_init_79 : decode mX10_init.2.2.1 79 = .ok (.bastore, 1) := by decide +kernel
theorem dX10_init_80 : decode mX10_init.2.2.1 80 = .ok (.dup, 1) := by decide +kernel
theorem dX10_init_81 : decode mX10_init.2.2.1 81 = .ok (.iconst 1, 1) := by decide +kernel
theorem dX10_init_82 : decode mX10_init.2.2.1 82 = .ok (.bipush 110, 2) := by decide +kernel
theorem dX10_init_84 : decode mX10_init.2.2.1 84 = .ok (.bastore, 1) := by decide +kernel
theorem dX10_init_85 : decode mX10_init.2.2.1 85 = .ok (.dup, 1) := by decide +kernel
theorem dX10_init_86 : decode mX10_init.2.2.1 86 = .ok (.iconst 2, 1) := by decide +kernel
theorem dX10_init_87 : decode mX10_init.2.2.1 87 = .ok (.bipush 102, 2) := by decide +kernel
theorem dX10_init_89 : decode mX10_init.2.2.1 89 = .ok (.bastore, 1) := by decide +kernel
theorem dX10_init_90 : decode mX10_init.2.2.1 90 = .ok (.dup, 1) := by decide +kernel
theorem dX10_init_91 : decode mX10_init.2.2.1 91 = .ok (.iconst 3, 1) := by decide +kernel
theorem dX10_init_92 : decode mX10_init.2.2.1 92 = .ok (.bipush 111, 2) := by decide +kernel
theorem dX10_init_94 : decode mX10_init.2.2.1 94 = .ok (.bastore, 1) := by decide +kernel
theorem dX10_init_95 : decode mX10_init.2.2.1 95 = .ok (.dup, 1) := by decide +kernel
theorem dX10_init_96 : decode mX10_init.2.2.1 96 = .ok (.iconst 4, 1) := by decide +kernel
theorem dX10_init_97 : decode mX10_init.2.2.1 97 = .ok (.bipush 110, 2) := by decide +kernel
theorem dX10_init_99 : decode mX10_init.2.2.1 99 = .ok (.bastore, 1) := by decide +kernel
theorem dX10_init_100 : decode mX10_init.2.2.1 100 = .ok (.dup, 1) := by decide +kernel
theorem dX10_init_101 : decode mX10_init.2.2.1 101 = .ok (.iconst 5, 1) := by decide +kernel
theorem dX10_init_102 : decode mX10_init.2.2.1 102 = .ok (.bipush 97, 2) := by decide +kernel
theorem dX10_init_104 : decode mX10_init.2.2.1 104 = .ok (.bastore, 1) := by decide +kernel
theorem dX10_init_105 : decode mX10_init.2.2.1 105 = .ok (.dup, 1) := by decide +kernel
theorem dX10_init_106 : decode mX10_init.2.2.1 106 = .ok (.bipush 6, 2) := by decide +kernel
theorem dX10_init_108 : decode mX10_init.2.2.1 108 = .ok (.bipush 109, 2) := by decide +kernel
theorem dX10_init_110 : decode mX10_init.2.2.1 110 = .ok (.bastore, 1) := by decide +kernel
theorem dX10_init_111 : decode mX10_init.2.2.1 111 = .ok (.dup, 1) := by decide +kernel
theorem dX10_init_112 : decode mX10_init.2.2.1 112 = .ok (.bipush 7, 2) := by decide +kernel
theorem dX10_init_114 : decode mX10_init.2.2.1 114 = .ok (.bipush 101, 2) := by decide +kernel
theorem dX10_init_116 : decode mX10_init.2.2.1 116 = .ok (.bastore, 1) := by decide +kernel
theorem dX10_init_117 : decode mX10_init.2.2.1 117 = .ok (.dup, 1) := by decide +kernel
theorem dX10_init_118 : decode mX10_init.2.2.1 118 = .ok (.bipush 8, 2) := by decide +kernel
theorem dX10_init_120 : decode mX10_init.2.2.1 120 = .ok (.bipush 112, 2) := by decide +kernel
theorem dX10_init_122 : decode mX10_init.2.2.1 122 = .ok (.bastore, 1) := by decide +kernel
theorem dX10_init_123 : decode mX10_init.2.2.1 123 = .ok (.dup, 1) := by decide +kernel
theorem dX10_init_124 : decode mX10_init.2.2.1 124 = .ok (.bipush 9, 2) := by decide +kernel
theorem dX10_init_126 : decode mX10_init.2.2.1 126 = .ok (.bipush 105, 2) := by decide +kernel
theorem dX10_init_128 : decode mX10_init.2.2.1 128 = .ok (.bastore, 1) := by decide +kernel
theorem dX10_init_129 : decode mX10_init.2.2.1 129 = .ok (.dup, 1) := by decide +kernel
theorem dX10_init_130 : decode mX10_init.2.2.1 130 = .ok (.bipush 10, 2) := by decide +kernel
theorem dX10_init_132 : decode mX10_init.2.2.1 132 = .ok (.bipush 101, 2) := by decide +kernel
theorem dX10_init_134 : decode mX10_init.2.2.1 134 = .ok (.bastore, 1) := by decide +kernel
theorem dX10_init_135 : decode mX10_init.2.2.1 135 = .ok (.dup, 1) := by decide +kernel
theorem dX10_init_136 : decode mX10_init.2.2.1 136 = .ok (.bipush 11, 2) := by decide +kernel
theorem dX10_init_138 : decode mX10_init.2.2.1 138 = .ok (.bipush 99, 2) := by decide +kernel
theorem dX10_init_140 : decode mX10_init.2.2.1 140 = .ok (.bastore, 1) := by decide +kernel
theorem dX10_init_141 : decode mX10_init.2.2.1 141 = .ok (.dup, 1) := by decide +kernel
theorem dX10_init_142 : decode mX10_init.2.2.1 142 = .ok (.bipush 12, 2) := by decide +kernel
theorem dX10_init_144 : decode mX10_init.2.2.1 144 = .ok (.bipush 101, 2) := by decide +kernel
theorem dX10_init_146 : decode mX10_init.2.2.1 146 = .ok (.bastore, 1) := by decide +kernel
theorem dX10_init_147 : decode mX10_init.2.2.1 147 = .ok (.dup, 1) := by decide +kernel
theorem dX10_init_148 : decode mX10_init.2.2.1 148 = .ok (.bipush 13, 2) := by decide +kernel
theorem dX10_init_150 : decode mX10_init.2.2.1 150 = .ok (.bipush 32, 2) := by decide +kernel
theorem dX10_init_152 : decode mX10_init.2.2.1 152 = .ok (.bastore, 1) := by decide +kernel
theorem dX10_init_153 : decode mX10_init.2.2.1 153 = .ok (.dup, 1) := by decide +kernel
theorem dX10_init_154 : decode mX10_init.2.2.1 154 = .ok (.bipush 14, 2) := by decide +kernel
theorem dX10_init_156 : decode mX10_init.2.2.1 156 = .ok (.bipush 108, 2) := by decide +kernel
theorem dX10_init_158 : decode mX10_init.2.2.1 158 = .ok (.bastore, 1) := by decide +kernel
theorem dX10_init_159 : decode mX10_init.2.2.1 159 = .ok (.dup, 1) := by decide +kernel
theorem dX10_init_160 : decode mX10_init.2.2.1 160 = .ok (.bipush 15, 2) := by decide +kernel
theorem dX10_init_162 : decode mX10_init.2.2.1 162 = .ok (.bipush 101, 2) := by decide +kernel
theorem dX10_init_164 : decode mX10_init.2.2.1 164 = .ok (.bastore, 1) := by decide +kernel
theorem dX10_init_165 : decode mX10_init.2.2.1 165 = .ok (.dup, 1) := by decide +kernel
theorem dX10_init_166 : decode mX10_init.2.2.1 166 = .ok (.bipush 16, 2) := by decide +kernel
theorem dX10_init_168 : decode mX10_init.2.2.1 168 = .ok (.bipush 110, 2) := by decide +kernel
theorem dX10_init_170 : decode mX10_init.2.2.1 170 = .ok (.bastore, 1) := by decide +kernel
theorem dX10_init_171 : decode mX10_init.2.2.1 171 = .ok (.dup, 1) := by decide +kernel
theorem dX10_init_172 : decode mX10_init.2.2.1 172 = .ok (.bipush 17, 2) := by decide +kernel
theorem dX10_init_174 : decode mX10_init.2.2.1 174 = .ok (.bipush 103, 2) := by decide +kernel
theorem dX10_init_176 : decode mX10_init.2.2.1 176 = .ok (.bastore, 1) := by decide +kernel
theorem dX10_init_177 : decode mX10_init.2.2.1 177 = .ok (.dup, 1) := by decide +kernel
theorem dX10_init_178 : decode mX10_init.2.2.1 178 = .ok (.bipush 18, 2) := by decide +kernel
theorem dX10_init_180 : decode mX10_init.2.2.1 180 = .ok (.bipush 116, 2) := by decide +kernel
theorem dX10_init_182 : decode mX10_init.2.2.1 182 = .ok (.bastore, 1) := by decide +kernel
theorem dX10_init_183 : decode mX10_init.2.2.1 183 = .ok (.dup, 1) := by decide +kernel
theorem dX10_init_184 : decode mX10_init.2.2.1 184 = .ok (.bipush 19, 2) := by decide +kernel
theorem dX10_init_186 : decode mX10_init.2.2.1 186 = .ok (.bipush 104, 2) := by decide +kernel
theorem dX10_init_188 : decode mX10_init.2.2.1 188 = .ok (.bastore, 1) := by decide +kernel
theorem dX10_init_189 : decode mX10_init.2.2.1 189 = .ok (.dup, 1) := by decide +kernel
theorem dX10_init_190 : decode mX10_init.2.2.1 190 = .ok (.bipush 20, 2) := by decide +kernel
theorem dX10_init_192 : decode mX10_init.2.2.1 192 = .ok (.bipush 108, 2) := by decide +kernel
theorem dX10_init_194 : decode mX10_init.2.2.1 194 = .ok (.bastore, 1) := by decide +kernel
theorem dX10_init_195 : decode mX10_init.2.2.1 195 = .ok (.dup, 1) := by decide +kernel
theorem dX10_init_196 : decode mX10_init.2.2.1 196 = .ok (.bipush 21, 2) := by decide +kernel
theorem dX10_init_198 : decode mX10_init.2.2.1 198 = .ok (.bipush 101, 2) := by decide +kernel
theorem dX10_init_200 : decode mX10_init.2.2.1 200 = .ok (.bastore, 1) := by decide +kernel
theorem dX10_init_201 : decode mX10_init.2.2.1 201 = .ok (.dup, 1) := by decide +kernel
theorem dX10_init_202 : decode mX10_init.2.2.1 202 = .ok (.bipush 22, 2) := by decide +kernel
theorem dX10_init_204 : decode mX10_init.2.2.1 204 = .ok (.bipush 110, 2) := by decide +kernel
theorem dX10_init_206 : decode mX10_init.2.2.1 206 = .ok (.bastore, 1) := by decide +kernel
theorem dX10_init_207 : decode mX10_init.2.2.1 207 = .ok (.dup, 1) := by decide +kernel
theorem dX10_init_208 : decode mX10_init.2.2.1 208 = .ok (.bipush 23, 2) := by decide +kernel
theorem dX10_init_210 : decode mX10_init.2.2.1 210 = .ok (.bipush 103, 2) := by decide +kernel
theorem dX10_init_212 : decode mX10_init.2.2.1 212 = .ok (.bastore, 1) := by decide +kernel
theorem dX10_init_213 : decode mX10_init.2.2.1 213 = .ok (.dup, 1) := by decide +kernel
theorem dX10_init_214 : decode mX10_init.2.2.1 214 = .ok (.bipush 24, 2) := by decide +kernel
theorem dX10_init_216 : decode mX10_init.2.2.1 216 = .ok (.bipush 116, 2) := by decide +kernel
theorem dX10_init_218 : decode mX10_init.2.2.1 218 = .ok (.bastore, 1) := by decide +kernel
theorem dX10_init_219 : decode mX10_init.2.2.1 219 = .ok (.dup, 1) := by decide +kernel
theorem dX10_init_220 : decode mX10_init.2.2.1 220 = .ok (.bipush 25, 2) := by decide +kernel
theorem dX10_init_222 : decode mX10_init.2.2.1 222 = .ok (.bipush 104, 2) := by decide +kernel
theorem dX10_init_224 : decode mX10_init.2.2.1 224 = .ok (.bastore, 1) := by decide +kernel
theorem dX10_init_225 : decode mX10_init.2.2.1 225 = .ok (.dup, 1) := by decide +kernel
theorem dX10_init_226 : decode mX10_init.2.2.1 226 = .ok (.bipush 26, 2) := by decide +kernel
theorem dX10_init_228 : decode mX10_init.2.2.1 228 = .ok (.bipush 102, 2) := by decide +kernel
theorem dX10_init_230 : decode mX10_init.2.2.1 230 = .ok (.bastore, 1) := by decide +kernel
theorem dX10_init_231 : decode mX10_init.2.2.1 231 = .ok (.dup, 1) := by decide +kernel
theorem dX10_init_232 : decode mX10_init.2.2.1 232 = .ok (.bipush 27, 2) := by decide +kernel
theorem dX10_init_234 : decode mX10_init.2.2.1 234 = .ok (.bipush 105, 2) := by decide +kernel
theorem dX10_init_236 : decode mX10_init.2.2.1 236 = .ok (.bastore, 1) := by decide +kernel
theorem dX10_init_237 : decode mX10_init.2.2.1 237 = .ok (.dup, 1) := by decide +kernel
theorem dX10_init_238 : decode mX10_init.2.2.1 238 = .ok (.bipush 28, 2) := by decide +kernel
theorem dX10_init_240 : decode mX10_init.2.2.1 240 = .ok (.bipush 108, 2) := by decide +kernel
theorem dX10_init_242 : decode mX10_init.2.2.1 242 = .ok (.bastore, 1) := by decide +kernel
theorem dX10_init_243 : decode mX10_init.2.2.1 243 = .ok (.dup, 1) := by decide +kernel
theorem dX10_init_244 : decode mX10_init.2.2.1 244 = .ok (.bipush 29, 2) := by decide +kernel
theorem dX10_init_246 : decode mX10_init.2.2.1 246 = .ok (.bipush 101, 2) := by decide +kernel
theorem dX10_init_248 : decode mX10_init.2.2.1 248 = .ok (.bastore, 1) := by decide +kernel
theorem dX10_init_249 : decode mX10_init.2.2.1 249 = .ok (.dup, 1) := by decide +kernel
theorem dX10_init_250 : decode mX10_init.2.2.1 250 = .ok (.bipush 30, 2) := by decide +kernel
theorem dX10_init_252 : decode mX10_init.2.2.1 252 = .ok (.bipush 115, 2) := by decide +kernel
theorem dX10_init_254 : decode mX10_init.2.2.1 254 = .ok (.bastore, 1) := by decide +kernel
theorem dX10_init_255 : decode mX10_init.2.2.1 255 = .ok (.dup, 1) := by decide +kernel
theorem dX10_init_256 : decode mX10_init.2.2.1 256 = .ok (.bipush 31, 2) := by decide +kernel
theorem dX10_init_258 : decode mX10_init.2.2.1 258 = .ok (.bipush 112, 2) := by decide +kernel
theorem dX10_init_260 : decode mX10_init.2.2.1 260 = .ok (.bastore, 1) := by decide +kernel
theorem dX10_init_261 : decode mX10_init.2.2.1 261 = .ok (.dup, 1) := by decide +kernel
theorem dX10_init_262 : decode mX10_init.2.2.1 262 = .ok (.bipush 32, 2) := by decide +kernel
theorem dX10_init_264 : decode mX10_init.2.2.1 264 = .ok (.bipush 97, 2) := by decide +kernel
theorem dX10_init_266 : decode mX10_init.2.2.1 266 = .ok (.bastore, 1) := by decide +kernel
theorem dX10_init_267 : decode mX10_init.2.2.1 267 = .ok (.dup, 1) := by decide +kernel
theorem dX10_init_268 : decode mX10_init.2.2.1 268 = .ok (.bipush 33, 2) := by decide +kernel
theorem dX10_init_270 : decode mX10_init.2.2.1 270 = .ok (.bipush 116, 2) := by decide +kernel
theorem dX10_init_272 : decode mX10_init.2.2.1 272 = .ok (.bastore, 1) := by decide +kernel
theorem dX10_init_273 : decode mX10_init.2.2.1 273 = .ok (.dup, 1) := by decide +kernel
theorem dX10_init_274 : decode mX10_init.2.2.1 274 = .ok (.bipush 34, 2) := by decide +kernel
theorem dX10_init_276 : decode mX10_init.2.2.1 276 = .ok (.bipush 104, 2) := by decide +kernel
theorem dX10_init_278 : decode mX10_init.2.2.1 278 = .ok (.bastore, 1) := by decide +kernel
theorem dX10_init_279 : decode mX10_init.2.2.1 279 = .ok (.dup, 1) := by decide +kernel
theorem dX10_init_280 : decode mX10_init.2.2.1 280 = .ok (.bipush 35, 2) := by decide +kernel
theorem dX10_init_282 : decode mX10_init.2.2.1 282 = .ok (.bipush 112, 2) := by decide +kernel
theorem dX10_init_284 : decode mX10_init.2.2.1 284 = .ok (.bastore, 1) := by decide +kernel
theorem dX10_init_285 : decode mX10_init.2.2.1 285 = .ok (.dup, 1) := by decide +kernel
theorem dX10_init_286 : decode mX10_init.2.2.1 286 = .ok (.bipush 36, 2) := by decide +kernel
theorem dX10_init_288 : decode mX10_init.2.2.1 288 = .ok (.bipush 105, 2) := by decide +kernel
theorem dX10_init_290 : decode mX10_init.2.2.1 290 = .ok (.bastore, 1) := by decide +kernel
theorem dX10_init_291 : decode mX10_init.2.2.1 291 = .ok (.dup, 1) := by decide +kernel
theorem dX10_init_292 : decode mX10_init.2.2.1 292 = .ok (.bipush 37, 2) := by decide +kernel
theorem dX10_init_294 : decode mX10_init.2.2.1 294 = .ok (.bipush 101, 2) := by decide +kernel
theorem dX10_init_296 : decode mX10_init.2.2.1 296 = .ok (.bastore, 1) := by decide +kernel
theorem dX10_init_297 : decode mX10_init.2.2.1 297 = .ok (.dup, 1) := by decide +kernel
theorem dX10_init_298 : decode mX10_init.2.2.1 298 = .ok (.bipush 38, 2) := by decide +kernel
theorem dX10_init_300 : decode mX10_init.2.2.1 300 = .ok (.bipush 99, 2) := by decide +kernel
theorem dX10_init_302 : decode mX10_init.2.2.1 302 = .ok (.bastore, 1) := by decide +kernel
theorem dX10_init_303 : decode mX10_init.2.2.1 303 = .ok (.dup, 1) := by decide +kernel
theorem dX10_init_304 : decode mX10_init.2.2.1 304 = .ok (.bipush 39, 2) := by decide +kernel
theorem dX10_init_306 : decode mX10_init.2.2.1 306 = .ok (.bipush 101, 2) := by decide +kernel
theorem dX10_init_308 : decode mX10_init.2.2.1 308 = .ok (.bastore, 1) := by decide +kernel
theorem dX10_init_309 : decode mX10_init.2.2.1 309 = .ok (.dup, 1) := by decide +kernel
theorem dX10_init_310 : decode mX10_init.2.2.1 310 = .ok (.bipush 40, 2) := by decide +kernel
theorem dX10_init_312 : decode mX10_init.2.2.1 312 = .ok (.bipush 115, 2) := by decide +kernel
theorem dX10_init_314 : decode mX10_init.2.2.1 314 = .ok (.bastore, 1) := by decide +kernel
theorem dX10_init_315 : decode mX10_init.2.2.1 315 = .ok (.putfield 35, 3) := by decide +kernel
theorem dX10_init_318 : decode mX10_init.2.2.1 318 = .ok (.aload_n 0, 1) := by decide +kernel
theorem dX10_init_319 : decode mX10_init.2.2.1 319 = .ok (.bipush 8, 2) := by decide +kernel
theorem dX10_init_321 : decode mX10_init.2.2.1 321 = .ok (.newarray .int, 2) := by decide +kernel
theorem dX10_init_323 : decode mX10_init.2.2.1 323 = .ok (.dup, 1) := by decide +kernel
theorem dX10_init_324 : decode mX10_init.2.2.1 324 = .ok (.iconst 0, 1) := by decide +kernel
theorem dX10_init_325 : decode mX10_init.2.2.1 325 = .ok (.iconst 0, 1) := by decide +kernel
theorem dX10_init_326 : decode mX10_init.2.2.1 326 = .ok (.iastore, 1) := by decide +kernel
theorem dX10_init_327 : decode mX10_init.2.2.1 327 = .ok (.dup, 1) := by decide +kernel
theorem dX10_init_328 : decode mX10_init.2.2.1 328 = .ok (.iconst 1, 1) := by decide +kernel
theorem dX10_init_329 : decode mX10_init.2.2.1 329 = .ok (.iconst 4, 1) := by decide +kernel
theorem dX10_init_330 : decode mX10_init.2.2.1 330 = .ok (.iastore, 1) := by decide +kernel
theorem dX10_init_331 : decode mX10_init.2.2.1 331 = .ok (.dup, 1) := by decide +kernel
theorem dX10_init_332 : decode mX10_init.2.2.1 332 = .ok (.iconst 2, 1) := by decide +kernel
theorem dX10_init_333 : decode mX10_init.2.2.1 333 = .ok (.bipush 8, 2) := by decide +kernel
theorem dX10_init_335 : decode mX10_init.2.2.1 335 = .ok (.iastore, 1) := by decide +kernel
theorem dX10_init_336 : decode mX10_init.2.2.1 336 = .ok (.dup, 1) := by decide +kernel
theorem dX10_init_337 : decode mX10_init.2.2.1 337 = .ok (.iconst 3, 1) := by decide +kernel
theorem dX10_init_338 : decode mX10_init.2.2.1 338 = .ok (.bipush 20, 2) := by decide +kernel
theorem dX10_init_340 : decode mX10_init.2.2.1 340 = .ok (.iastore, 1) := by decide +kernel
theorem dX10_init_341 : decode mX10_init.2.2.1 341 = .ok (.dup, 1) := by decide +kernel
theorem dX10_init_342 : decode mX10_init.2.2.1 342 = .ok (.iconst 4, 1) := by decide +kernel
theorem dX10_init_343 : decode mX10_init.2.2.1 343 = .ok (.bipush 26, 2) := by decide +kernel
theorem dX10_init_345 : decode mX10_init.2.2.1 345 = .ok (.iastore, 1) := by decide +kernel
theorem dX10_init_346 : decode mX10_init.2.2.1 346 = .ok (.dup, 1) := by decide +kernel
theorem dX10_init_347 : decode mX10_init.2.2.1 347 = .ok (.iconst 5, 1) := by decide +kernel
theorem dX10_init_348 : decode mX10_init.2.2.1 348 = .ok (.bipush 31, 2) := by decide +kernel
theorem dX10_init_350 : decode mX10_init.2.2.1 350 = .ok (.iastore, 1) := by decide +kernel
theorem dX10_init_351 : decode mX10_init.2.2.1 351 = .ok (.dup, 1) := by decide +kernel
theorem dX10_init_352 : decode mX10_init.2.2.1 352 = .ok (.bipush 6, 2) := by decide +kernel
theorem dX10_init_354 : decode mX10_init.2.2.1 354 = .ok (.bipush 35, 2) := by decide +kernel
theorem dX10_init_356 : decode mX10_init.2.2.1 356 = .ok (.iastore, 1) := by decide +kernel
theorem dX10_init_357 : decode mX10_init.2.2.1 357 = .ok (.dup, 1) := by decide +kernel
theorem dX10_init_358 : decode mX10_init.2.2.1 358 = .ok (.bipush 7, 2) := by decide +kernel
theorem dX10_init_360 : decode mX10_init.2.2.1 360 = .ok (.bipush 41, 2) := by decide +kernel
theorem dX10_init_362 : decode mX10_init.2.2.1 362 = .ok (.iastore, 1) := by decide +kernel
theorem dX10_init_363 : decode mX10_init.2.2.1 363 = .ok (.putfield 38, 3) := by decide +kernel
theorem dX10_init_366 : decode mX10_init.2.2.1 366 = .ok (.aload_n 0, 1) := by decide +kernel
theorem dX10_init_367 : decode mX10_init.2.2.1 367 = .ok (.bipush 16, 2) := by decide +kernel
theorem dX10_init_369 : decode mX10_init.2.2.1 369 = .ok (.newarray .int, 2) := by decide +kernel
theorem dX10_init_371 : decode mX10_init.2.2.1 371 = .ok (.putfield 41, 3) := by decide +kernel
theorem dX10_init_374 : decode mX10_init.2.2.1 374 = .ok (.aload_n 0, 1) := by decide +kernel
theorem dX10_init_375 : decode mX10_init.2.2.1 375 = .ok (.bipush 16, 2) := by decide +kernel
theorem dX10_init_377 : decode mX10_init.2.2.1 377 = .ok (.newarray .int, 2) := by decide +kernel
theorem dX10_init_379 : decode mX10_init.2.2.1 379 = .ok (.putfield 44, 3) := by decide +kernel
theorem dX10_init_382 : decode mX10_init.2.2.1 382 = .ok (.aload_n 0, 1) := by decide +kernel
theorem dX10_init_383 : decode mX10_init.2.2.1 383 = .ok (.sipush 1280, 3) := by decide +kernel
theorem dX10_init_386 : decode mX10_init.2.2.1 386 = .ok (.newarray .byte, 2) := by decide +kernel
theorem dX10_init_388 : decode mX10_init.2.2.1 388 = .ok (.putfield 47, 3) := by decide +kernel
theorem dX10_init_391 : decode mX10_init.2.2.1 391 = .ok (.aload_n 0, 1) := by decide +kernel
theorem dX10_init_392 : decode mX10_init.2.2.1 392 = .ok (.bipush 20, 2) := by decide +kernel
theorem dX10_init_394 : decode mX10_init.2.2.1 394 = .ok (.newarray .byte, 2) := by decide +kernel
theorem dX10_init_396 : decode mX10_init.2.2.1 396 = .ok (.putfield 50, 3) := by decide +kernel
theorem dX10_init_399 : decode mX10_init.2.2.1 399 = .ok (.aload_n 0, 1) := by decide +kernel
theorem dX10_init_400 : decode mX10_init.2.2.1 400 = .ok (.sipush 4096, 3) := by decide +kernel
theorem dX10_init_403 : decode mX10_init.2.2.1 403 = .ok (.newarray .byte, 2) := by decide +kernel
theorem dX10_init_405 : decode mX10_init.2.2.1 405 = .ok (.putfield 53, 3) := by decide +kernel
theorem dX10_init_408 : decode mX10_init.2.2.1 408 = .ok (.aload_n 0, 1) := by decide +kernel
theorem dX10_init_409 : decode mX10_init.2.2.1 409 = .ok (.iconst (-1), 1) := by decide +kernel
theorem dX10_init_410 : decode mX10_init.2.2.1 410 = .ok (.putfield 56, 3) := by decide +kernel
theorem dX10_init_413 : decode mX10_init.2.2.1 413 = .ok (.aload_n 0, 1) := by decide +kernel
theorem dX10_init_414 : decode mX10_init.2.2.1 414 = .ok (.bipush 16, 2) := by decide +kernel
theorem dX10_init_416 : decode mX10_init.2.2.1 416 = .ok (.newarray .int, 2) := by decide +kernel
theorem dX10_init_418 : decode mX10_init.2.2.1 418 = .ok (.putfield 60, 3) := by decide +kernel
theorem dX10_init_421 : decode mX10_init.2.2.1 421 = .ok (.aload_n 0, 1) := by decide +kernel
theorem dX10_init_422 : decode mX10_init.2.2.1 422 = .ok (.bipush 16, 2) := by decide +kernel
theorem dX10_init_424 : decode mX10_init.2.2.1 424 = .ok (.newarray .int, 2) := by decide +kernel
theorem dX10_init_426 : decode mX10_init.2.2.1 426 = .ok (.putfield 63, 3) := by decide +kernel
theorem dX10_init_429 : decode mX10_init.2.2.1 429 = .ok (.aload_n 0, 1) := by decide +kernel
theorem dX10_init_430 : decode mX10_init.2.2.1 430 = .ok (.iconst 5, 1) := by decide +kernel
theorem dX10_init_431 : decode mX10_init.2.2.1 431 = .ok (.newarray .boolean, 2) := by decide +kernel
theorem dX10_init_433 : decode mX10_init.2.2.1 433 = .ok (.putfield 66, 3) := by decide +kernel
theorem dX10_init_436 : decode mX10_init.2.2.1 436 = .ok (.aload_n 0, 1) := by decide +kernel
theorem dX10_init_437 : decode mX10_init.2.2.1 437 = .ok (.sipush 16384, 3) := by decide +kernel
theorem dX10_init_440 : decode mX10_init.2.2.1 440 = .ok (.newarray .byte, 2) := by decide +kernel
theorem dX10_init_442 : decode mX10_init.2.2.1 442 = .ok (.putfield 70, 3) := by decide +kernel
theorem dX10_init_445 : decode mX10_init.2.2.1 445 = .ok (.aload_n 0, 1) := by decide +kernel
theorem dX10_init_446 : decode mX10_init.2.2.1 446 = .ok (.sipush 256, 3) := by decide +kernel
theorem dX10_init_449 : decode mX10_init.2.2.1 449 = .ok (.newarray .boolean, 2) := by decide +kernel
theorem dX10_init_451 : decode mX10_init.2.2.1 451 = .ok (.putfield 73, 3) := by decide +kernel
theorem dX10_init_454 : decode mX10_init.2.2.1 454 = .ok (.aload_n 0, 1) := by decide +kernel
theorem dX10_init_455 : decode mX10_init.2.2.1 455 = .ok (.sipush 4096, 3) := by decide +kernel
theorem dX10_init_458 : decode mX10_init.2.2.1 458 = .ok (.newarray .boolean, 2) := by decide +kernel
theorem dX10_init_460 : decode mX10_init.2.2.1 460 = .ok (.putfield 76, 3) := by decide +kernel
theorem dX10_init_463 : decode mX10_init.2.2.1 463 = .ok (.aload_n 0, 1) := by decide +kernel
theorem dX10_init_464 : decode mX10_init.2.2.1 464 = .ok (.bipush 20, 2) := by decide +kernel
theorem dX10_init_466 : decode mX10_init.2.2.1 466 = .ok (.newarray .int, 2) := by decide +kernel
theorem dX10_init_468 : decode mX10_init.2.2.1 468 = .ok (.putfield 79, 3) := by decide +kernel
theorem dX10_init_471 : decode mX10_init.2.2.1 471 = .ok (.aload_n 0, 1) := by decide +kernel
theorem dX10_init_472 : decode mX10_init.2.2.1 472 = .ok (.bipush 25, 2) := by decide +kernel
theorem dX10_init_474 : decode mX10_init.2.2.1 474 = .ok (.newarray .boolean, 2) := by decide +kernel
theorem dX10_init_476 : decode mX10_init.2.2.1 476 = .ok (.putfield 82, 3) := by decide +kernel
theorem dX10_init_479 : decode mX10_init.2.2.1 479 = .ok (.aload_n 0, 1) := by decide +kernel
theorem dX10_init_480 : decode mX10_init.2.2.1 480 = .ok (.bipush 25, 2) := by decide +kernel
theorem dX10_init_482 : decode mX10_init.2.2.1 482 = .ok (.newarray .boolean, 2) := by decide +kernel
theorem dX10_init_484 : decode mX10_init.2.2.1 484 = .ok (.putfield 85, 3) := by decide +kernel
theorem dX10_init_487 : decode mX10_init.2.2.1 487 = .ok (.aload_n 0, 1) := by decide +kernel
theorem dX10_init_488 : decode mX10_init.2.2.1 488 = .ok (.bipush 25, 2) := by decide +kernel
theorem dX10_init_490 : decode mX10_init.2.2.1 490 = .ok (.newarray .boolean, 2) := by decide +kernel
theorem dX10_init_492 : decode mX10_init.2.2.1 492 = .ok (.putfield 88, 3) := by decide +kernel
theorem dX10_init_495 : decode mX10_init.2.2.1 495 = .ok (.aload_n 0, 1) := by decide +kernel
theorem dX10_init_496 : decode mX10_init.2.2.1 496 = .ok (.bipush 25, 2) := by decide +kernel
theorem dX10_init_498 : decode mX10_init.2.2.1 498 = .ok (.newarray .boolean, 2) := by decide +kernel
theorem dX10_init_500 : decode mX10_init.2.2.1 500 = .ok (.putfield 91, 3) := by decide +kernel
theorem dX10_init_503 : decode mX10_init.2.2.1 503 = .ok (.aload_n 0, 1) := by decide +kernel
theorem dX10_init_504 : decode mX10_init.2.2.1 504 = .ok (.bipush 25, 2) := by decide +kernel
theorem dX10_init_506 : decode mX10_init.2.2.1 506 = .ok (.newarray .boolean, 2) := by decide +kernel
theorem dX10_init_508 : decode mX10_init.2.2.1 508 = .ok (.putfield 94, 3) := by decide +kernel
theorem dX10_init_511 : decode mX10_init.2.2.1 511 = .ok (.aload_n 0, 1) := by decide +kernel
theorem dX10_init_512 : decode mX10_init.2.2.1 512 = .ok (.bipush 25, 2) := by decide +kernel
theorem dX10_init_514 : decode mX10_init.2.2.1 514 = .ok (.newarray .boolean, 2) := by decide +kernel
theorem dX10_init_516 : decode mX10_init.2.2.1 516 = .ok (.putfield 97, 3) := by decide +kernel
theorem dX10_init_519 : decode mX10_init.2.2.1 519 = .ok (.aload_n 0, 1) := by decide +kernel
theorem dX10_init_520 : decode mX10_init.2.2.1 520 = .ok (.bipush 25, 2) := by decide +kernel
theorem dX10_init_522 : decode mX10_init.2.2.1 522 = .ok (.newarray .boolean, 2) := by decide +kernel
theorem dX10_init_524 : decode mX10_init.2.2.1 524 = .ok (.putfield 100, 3) := by decide +kernel
theorem dX10_init_527 : decode mX10_init.2.2.1 527 = .ok (.aload_n 0, 1) := by decide +kernel
theorem dX10_init_528 : decode mX10_init.2.2.1 528 = .ok (.sipush 1600, 3) := by decide +kernel
theorem dX10_init_531 : decode mX10_init.2.2.1 531 = .ok (.newarray .boolean, 2) := by decide +kernel
theorem dX10_init_533 : decode mX10_init.2.2.1 533 = .ok (.putfield 103, 3) := by decide +kernel
theorem dX10_init_536 : decode mX10_init.2.2.1 536 = .ok (.aload_n 0, 1) := by decide +kernel
theorem dX10_init_537 : decode mX10_init.2.2.1 537 = .ok (.bipush 25, 2) := by decide +kernel
theorem dX10_init_539 : decode mX10_init.2.2.1 539 = .ok (.newarray .int, 2) := by decide +kernel
theorem dX10_init_541 : decode mX10_init.2.2.1 541 = .ok (.putfield 106, 3) := by decide +kernel
theorem dX10_init_544 : decode mX10_init.2.2.1 544 = .ok (.aload_n 0, 1) := by decide +kernel
theorem dX10_init_545 : decode mX10_init.2.2.1 545 = .ok (.bipush 100, 2) := by decide +kernel
theorem dX10_init_547 : decode mX10_init.2.2.1 547 = .ok (.newarray .int, 2) := by decide +kernel
theorem dX10_init_549 : decode mX10_init.2.2.1 549 = .ok (.putfield 109, 3) := by decide +kernel
theorem dX10_init_552 : decode mX10_init.2.2.1 552 = .ok (.aload_n 0, 1) := by decide +kernel
theorem dX10_init_553 : decode mX10_init.2.2.1 553 = .ok (.ldc 112, 2) := by decide +kernel
theorem dX10_init_555 : decode mX10_init.2.2.1 555 = .ok (.newarray .byte, 2) := by decide +kernel
theorem dX10_init_557 : decode mX10_init.2.2.1 557 = .ok (.putfield 113, 3) := by decide +kernel
theorem dX10_init_560 : decode mX10_init.2.2.1 560 = .ok (.aload_n 0, 1) := by decide +kernel
theorem dX10_init_561 : decode mX10_init.2.2.1 561 = .ok (.bipush 25, 2) := by decide +kernel
theorem dX10_init_563 : decode mX10_init.2.2.1 563 = .ok (.newarray .int, 2) := by decide +kernel
theorem dX10_init_565 : decode mX10_init.2.2.1 565 = .ok (.putfield 116, 3) := by decide +kernel
theorem dX10_init_568 : decode mX10_init.2.2.1 568 = .ok (.aload_n 0, 1) := by decide +kernel
theorem dX10_init_569 : decode mX10_init.2.2.1 569 = .ok (.bipush 80, 2) := by decide +kernel
theorem dX10_init_571 : decode mX10_init.2.2.1 571 = .ok (.newarray .byte, 2) := by decide +kernel
theorem dX10_init_573 : decode mX10_init.2.2.1 573 = .ok (.putfield 119, 3) := by decide +kernel
theorem dX10_init_576 : decode mX10_init.2.2.1 576 = .ok (.aload_n 0, 1) := by decide +kernel
theorem dX10_init_577 : decode mX10_init.2.2.1 577 = .ok (.bipush 20, 2) := by decide +kernel
theorem dX10_init_579 : decode mX10_init.2.2.1 579 = .ok (.newarray .byte, 2) := by decide +kernel
theorem dX10_init_581 : decode mX10_init.2.2.1 581 = .ok (.dup, 1) := by decide +kernel
theorem dX10_init_582 : decode mX10_init.2.2.1 582 = .ok (.iconst 0, 1) := by decide +kernel
theorem dX10_init_583 : decode mX10_init.2.2.1 583 = .ok (.bipush 19, 2) := by decide +kernel
theorem dX10_init_585 : decode mX10_init.2.2.1 585 = .ok (.bastore, 1) := by decide +kernel
theorem dX10_init_586 : decode mX10_init.2.2.1 586 = .ok (.dup, 1) := by decide +kernel
theorem dX10_init_587 : decode mX10_init.2.2.1 587 = .ok (.iconst 1, 1) := by decide +kernel
theorem dX10_init_588 : decode mX10_init.2.2.1 588 = .ok (.bipush 66, 2) := by decide +kernel
theorem dX10_init_590 : decode mX10_init.2.2.1 590 = .ok (.bastore, 1) := by decide +kernel
theorem dX10_init_591 : decode mX10_init.2.2.1 591 = .ok (.dup, 1) := by decide +kernel
theorem dX10_init_592 : decode mX10_init.2.2.1 592 = .ok (.iconst 2, 1) := by decide +kernel
theorem dX10_init_593 : decode mX10_init.2.2.1 593 = .ok (.bipush 105, 2) := by decide +kernel
theorem dX10_init_595 : decode mX10_init.2.2.1 595 = .ok (.bastore, 1) := by decide +kernel
theorem dX10_init_596 : decode mX10_init.2.2.1 596 = .ok (.dup, 1) := by decide +kernel
theorem dX10_init_597 : decode mX10_init.2.2.1 597 = .ok (.iconst 3, 1) := by decide +kernel
theorem dX10_init_598 : decode mX10_init.2.2.1 598 = .ok (.bipush 116, 2) := by decide +kernel
theorem dX10_init_600 : decode mX10_init.2.2.1 600 = .ok (.bastore, 1) := by decide +kernel
theorem dX10_init_601 : decode mX10_init.2.2.1 601 = .ok (.dup, 1) := by decide +kernel
theorem dX10_init_602 : decode mX10_init.2.2.1 602 = .ok (.iconst 4, 1) := by decide +kernel
theorem dX10_init_603 : decode mX10_init.2.2.1 603 = .ok (.bipush 84, 2) := by decide +kernel
theorem dX10_init_605 : decode mX10_init.2.2.1 605 = .ok (.bastore, 1) := by decide +kernel
theorem dX10_init_606 : decode mX10_init.2.2.1 606 = .ok (.dup, 1) := by decide +kernel
theorem dX10_init_607 : decode mX10_init.2.2.1 607 = .ok (.iconst 5, 1) := by decide +kernel
theorem dX10_init_608 : decode mX10_init.2.2.1 608 = .ok (.bipush 111, 2) := by decide +kernel
theorem dX10_init_610 : decode mX10_init.2.2.1 610 = .ok (.bastore, 1) := by decide +kernel
theorem dX10_init_611 : decode mX10_init.2.2.1 611 = .ok (.dup, 1) := by decide +kernel
theorem dX10_init_612 : decode mX10_init.2.2.1 612 = .ok (.bipush 6, 2) := by decide +kernel
theorem dX10_init_614 : decode mX10_init.2.2.1 614 = .ok (.bipush 114, 2) := by decide +kernel
theorem dX10_init_616 : decode mX10_init.2.2.1 616 = .ok (.bastore, 1) := by decide +kernel
theorem dX10_init_617 : decode mX10_init.2.2.1 617 = .ok (.dup, 1) := by decide +kernel
theorem dX10_init_618 : decode mX10_init.2.2.1 618 = .ok (.bipush 7, 2) := by decide +kernel
theorem dX10_init_620 : decode mX10_init.2.2.1 620 = .ok (.bipush 114, 2) := by decide +kernel
theorem dX10_init_622 : decode mX10_init.2.2.1 622 = .ok (.bastore, 1) := by decide +kernel
theorem dX10_init_623 : decode mX10_init.2.2.1 623 = .ok (.dup, 1) := by decide +kernel
theorem dX10_init_624 : decode mX10_init.2.2.1 624 = .ok (.bipush 8, 2) := by decide +kernel
theorem dX10_init_626 : decode mX10_init.2.2.1 626 = .ok (.bipush 101, 2) := by decide +kernel
theorem dX10_init_628 : decode mX10_init.2.2.1 628 = .ok (.bastore, 1) := by decide +kernel
theorem dX10_init_629 : decode mX10_init.2.2.1 629 = .ok (.dup, 1) := by decide +kernel
theorem dX10_init_630 : decode mX10_init.2.2.1 630 = .ok (.bipush 9, 2) := by decide +kernel
theorem dX10_init_632 : decode mX10_init.2.2.1 632 = .ok (.bipush 110, 2) := by decide +kernel
theorem dX10_init_634 : decode mX10_init.2.2.1 634 = .ok (.bastore, 1) := by decide +kernel
theorem dX10_init_635 : decode mX10_init.2.2.1 635 = .ok (.dup, 1) := by decide +kernel
theorem dX10_init_636 : decode mX10_init.2.2.1 636 = .ok (.bipush 10, 2) := by decide +kernel
theorem dX10_init_638 : decode mX10_init.2.2.1 638 = .ok (.bipush 116, 2) := by decide +kernel
theorem dX10_init_640 : decode mX10_init.2.2.1 640 = .ok (.bastore, 1) := by decide +kernel
theorem dX10_init_641 : decode mX10_init.2.2.1 641 = .ok (.dup, 1) := by decide +kernel
theorem dX10_init_642 : decode mX10_init.2.2.1 642 = .ok (.bipush 11, 2) := by decide +kernel
theorem dX10_init_644 : decode mX10_init.2.2.1 644 = .ok (.bipush 32, 2) := by decide +kernel
theorem dX10_init_646 : decode mX10_init.2.2.1 646 = .ok (.bastore, 1) := by decide +kernel
theorem dX10_init_647 : decode mX10_init.2.2.1 647 = .ok (.dup, 1) := by decide +kernel
theorem dX10_init_648 : decode mX10_init.2.2.1 648 = .ok (.bipush 12, 2) := by decide +kernel
theorem dX10_init_650 : decode mX10_init.2.2.1 650 = .ok (.bipush 112, 2) := by decide +kernel
theorem dX10_init_652 : decode mX10_init.2.2.1 652 = .ok (.bastore, 1) := by decide +kernel
theorem dX10_init_653 : decode mX10_init.2.2.1 653 = .ok (.dup, 1) := by decide +kernel
theorem dX10_init_654 : decode mX10_init.2.2.1 654 = .ok (.bipush 13, 2) := by decide +kernel
theorem dX10_init_656 : decode mX10_init.2.2.1 656 = .ok (.bipush 114, 2) := by decide +kernel
theorem dX10_init_658 : decode mX10_init.2.2.1 658 = .ok (.bastore, 1) := by decide +kernel
theorem dX10_init_659 : decode mX10_init.2.2.1 659 = .ok (.dup, 1) := by decide +kernel
theorem dX10_init_660 : decode mX10_init.2.2.1 660 = .ok (.bipush 14, 2) := by decide +kernel
theorem dX10_init_662 : decode mX10_init.2.2.1 662 = .ok (.bipush 111, 2) := by decide +kernel
theorem dX10_init_664 : decode mX10_init.2.2.1 664 = .ok (.bastore, 1) := by decide +kernel
theorem dX10_init_665 : decode mX10_init.2.2.1 665 = .ok (.dup, 1) := by decide +kernel
theorem dX10_init_666 : decode mX10_init.2.2.1 666 = .ok (.bipush 15, 2) := by decide +kernel
theorem dX10_init_668 : decode mX10_init.2.2.1 668 = .ok (.bipush 116, 2) := by decide +kernel
theorem dX10_init_670 : decode mX10_init.2.2.1 670 = .ok (.bastore, 1) := by decide +kernel
theorem dX10_init_671 : decode mX10_init.2.2.1 671 = .ok (.dup, 1) := by decide +kernel
theorem dX10_init_672 : decode mX10_init.2.2.1 672 = .ok (.bipush 16, 2) := by decide +kernel
theorem dX10_init_674 : decode mX10_init.2.2.1 674 = .ok (.bipush 111, 2) := by decide +kernel
theorem dX10_init_676 : decode mX10_init.2.2.1 676 = .ok (.bastore, 1) := by decide +kernel
theorem dX10_init_677 : decode mX10_init.2.2.1 677 = .ok (.dup, 1) := by decide +kernel
theorem dX10_init_678 : decode mX10_init.2.2.1 678 = .ok (.bipush 17, 2) := by decide +kernel
theorem dX10_init_680 : decode mX10_init.2.2.1 680 = .ok (.bipush 99, 2) := by decide +kernel
theorem dX10_init_682 : decode mX10_init.2.2.1 682 = .ok (.bastore, 1) := by decide +kernel
theorem dX10_init_683 : decode mX10_init.2.2.1 683 = .ok (.dup, 1) := by decide +kernel
theorem dX10_init_684 : decode mX10_init.2.2.1 684 = .ok (.bipush 18, 2) := by decide +kernel
theorem dX10_init_686 : decode mX10_init.2.2.1 686 = .ok (.bipush 111, 2) := by decide +kernel
theorem dX10_init_688 : decode mX10_init.2.2.1 688 = .ok (.bastore, 1) := by decide +kernel
theorem dX10_init_689 : decode mX10_init.2.2.1 689 = .ok (.dup, 1) := by decide +kernel
theorem dX10_init_690 : decode mX10_init.2.2.1 690 = .ok (.bipush 19, 2) := by decide +kernel
theorem dX10_init_692 : decode mX10_init.2.2.1 692 = .ok (.bipush 108, 2) := by decide +kernel
theorem dX10_init_694 : decode mX10_init.2.2.1 694 = .ok (.bastore, 1) := by decide +kernel
theorem dX10_init_695 : decode mX10_init.2.2.1 695 = .ok (.putfield 122, 3) := by decide +kernel
theorem dX10_init_698 : decode mX10_init.2.2.1 698 = .ok (.aload_n 0, 1) := by decide +kernel
theorem dX10_init_699 : decode mX10_init.2.2.1 699 = .ok (.bipush 8, 2) := by decide +kernel
theorem dX10_init_701 : decode mX10_init.2.2.1 701 = .ok (.newarray .byte, 2) := by decide +kernel
theorem dX10_init_703 : decode mX10_init.2.2.1 703 = .ok (.dup, 1) := by decide +kernel
theorem dX10_init_704 : decode mX10_init.2.2.1 704 = .ok (.iconst 0, 1) := by decide +kernel
theorem dX10_init_705 : decode mX10_init.2.2.1 705 = .ok (.bipush 45, 2) := by decide +kernel
theorem dX10_init_707 : decode mX10_init.2.2.1 707 = .ok (.bastore, 1) := by decide +kernel
theorem dX10_init_708 : decode mX10_init.2.2.1 708 = .ok (.dup, 1) := by decide +kernel
theorem dX10_init_709 : decode mX10_init.2.2.1 709 = .ok (.iconst 1, 1) := by decide +kernel
theorem dX10_init_710 : decode mX10_init.2.2.1 710 = .ok (.bipush 74, 2) := by decide +kernel
theorem dX10_init_712 : decode mX10_init.2.2.1 712 = .ok (.bastore, 1) := by decide +kernel
theorem dX10_init_713 : decode mX10_init.2.2.1 713 = .ok (.dup, 1) := by decide +kernel
theorem dX10_init_714 : decode mX10_init.2.2.1 714 = .ok (.iconst 2, 1) := by decide +kernel
theorem dX10_init_715 : decode mX10_init.2.2.1 715 = .ok (.bipush 68, 2) := by decide +kernel
theorem dX10_init_717 : decode mX10_init.2.2.1 717 = .ok (.bastore, 1) := by decide +kernel
theorem dX10_init_718 : decode mX10_init.2.2.1 718 = .ok (.dup, 1) := by decide +kernel
theorem dX10_init_719 : decode mX10_init.2.2.1 719 = .ok (.iconst 3, 1) := by decide +kernel
theorem dX10_init_720 : decode mX10_init.2.2.1 720 = .ok (.bipush 48, 2) := by decide +kernel
theorem dX10_init_722 : decode mX10_init.2.2.1 722 = .ok (.bastore, 1) := by decide +kernel
theorem dX10_init_723 : decode mX10_init.2.2.1 723 = .ok (.dup, 1) := by decide +kernel
theorem dX10_init_724 : decode mX10_init.2.2.1 724 = .ok (.iconst 4, 1) := by decide +kernel
theorem dX10_init_725 : decode mX10_init.2.2.1 725 = .ok (.bipush 48, 2) := by decide +kernel
theorem dX10_init_727 : decode mX10_init.2.2.1 727 = .ok (.bastore, 1) := by decide +kernel
theorem dX10_init_728 : decode mX10_init.2.2.1 728 = .ok (.dup, 1) := by decide +kernel
theorem dX10_init_729 : decode mX10_init.2.2.1 729 = .ok (.iconst 5, 1) := by decide +kernel
theorem dX10_init_730 : decode mX10_init.2.2.1 730 = .ok (.bipush 48, 2) := by decide +kernel
theorem dX10_init_732 : decode mX10_init.2.2.1 732 = .ok (.bastore, 1) := by decide +kernel
theorem dX10_init_733 : decode mX10_init.2.2.1 733 = .ok (.dup, 1) := by decide +kernel
theorem dX10_init_734 : decode mX10_init.2.2.1 734 = .ok (.bipush 6, 2) := by decide +kernel
theorem dX10_init_736 : decode mX10_init.2.2.1 736 = .ok (.bipush 49, 2) := by decide +kernel
theorem dX10_init_738 : decode mX10_init.2.2.1 738 = .ok (.bastore, 1) := by decide +kernel
theorem dX10_init_739 : decode mX10_init.2.2.1 739 = .ok (.dup, 1) := by decide +kernel
theorem dX10_init_740 : decode mX10_init.2.2.1 740 = .ok (.bipush 7, 2) := by decide +kernel
theorem dX10_init_742 : decode mX10_init.2.2.1 742 = .ok (.bipush 45, 2) := by decide +kernel
theorem dX10_init_744 : decode mX10_init.2.2.1 744 = .ok (.bastore, 1) := by decide +kernel
theorem dX10_init_745 : decode mX10_init.2.2.1 745 = .ok (.putfield 125, 3) := by decide +kernel
theorem dX10_init_748 : decode mX10_init.2.2.1 748 = .ok (.aload_n 0, 1) := by decide +kernel
theorem dX10_init_749 : decode mX10_init.2.2.1 749 = .ok (.bipush 104, 2) := by decide +kernel
theorem dX10_init_751 : decode mX10_init.2.2.1 751 = .ok (.newarray .byte, 2) := by decide +kernel
theorem dX10_init_753 : decode mX10_init.2.2.1 753 = .ok (.putfield 128, 3) := by decide +kernel
theorem dX10_init_756 : decode mX10_init.2.2.1 756 = .ok (.return_, 1) := by decide +kernel
theorem dX10_feed_0 : decode mX10_feed.2.2.1 0 = .ok (.aload_n 0, 1) := by decide +kernel
theorem dX10_feed_1 : decode mX10_feed.2.2.1 1 = .ok (.getfield 131, 3) := by decide +kernel
theorem dX10_feed_4 : decode mX10_feed.2.2.1 4 = .ok (.bipush 20, 2) := by decide +kernel
theorem dX10_feed_6 : decode mX10_feed.2.2.1 6 = .ok (.iadd, 1) := by decide +kernel
theorem dX10_feed_7 : decode mX10_feed.2.2.1 7 = .ok (.sipush 6000, 3) := by decide +kernel
theorem dX10_feed_10 : decode mX10_feed.2.2.1 10 = .ok (.if_icmp .le 5, 3) := by decide +kernel
theorem dX10_feed_13 : decode mX10_feed.2.2.1 13 = .ok (.iconst (-1), 1) := by decide +kernel
theorem dX10_feed_14 : decode mX10_feed.2.2.1 14 = .ok (.ireturn, 1) := by decide +kernel
theorem dX10_feed_15 : decode mX10_feed.2.2.1 15 = .ok (.iconst 0, 1) := by decide +kernel
theorem dX10_feed_16 : decode mX10_feed.2.2.1 16 = .ok (.istore 6, 2) := by decide +kernel
theorem dX10_feed_18 : decode mX10_feed.2.2.1 18 = .ok (.iload 6, 2) := by decide +kernel
theorem dX10_feed_20 : decode mX10_feed.2.2.1 20 = .ok (.bipush 20, 2) := by decide +kernel
theorem dX10_feed_22 : decode mX10_feed.2.2.1 22 = .ok (.if_icmp .ge 90, 3) := by decide +kernel
theorem dX10_feed_25 : decode mX10_feed.2.2.1 25 = .ok (.iload 6, 2) := by decide +kernel
theorem dX10_feed_27 : decode mX10_feed.2.2.1 27 = .ok (.iconst 4, 1) := by decide +kernel
theorem dX10_feed_28 : decode mX10_feed.2.2.1 28 = .ok (.if_icmp .ge 7, 3) := by decide +kernel
theorem dX10_feed_31 : decode mX10_feed.2.2.1 31 = .ok (.iload_n 1, 1) := by decide +kernel
theorem dX10_feed_32 : decode mX10_feed.2.2.1 32 = .ok (.goto 39, 3) := by decide +kernel
theorem dX10_feed_35 : decode mX10_feed.2.2.1 35 = .ok (.iload 6, 2) := by decide +kernel
theorem dX10_feed_37 : decode mX10_feed.2.2.1 37 = .ok (.bipush 8, 2) := by decide +kernel
theorem dX10_feed_39 : decode mX10_feed.2.2.1 39 = .ok (.if_icmp .ge 7, 3) := by decide +kernel
theorem dX10_feed_42 : decode mX10_feed.2.2.1 42 = .ok (.iload_n 2, 1) := by decide +kernel
theorem dX10_feed_43 : decode mX10_feed.2.2.1 43 = .ok (.goto 28, 3) := by decide +kernel
theorem dX10_feed_46 : decode mX10_feed.2.2.1 46 = .ok (.iload 6, 2) := by decide +kernel
theorem dX10_feed_48 : decode mX10_feed.2.2.1 48 = .ok (.bipush 12, 2) := by decide +kernel
theorem dX10_feed_50 : decode mX10_feed.2.2.1 50 = .ok (.if_icmp .ge 7, 3) := by decide +kernel
theorem dX10_feed_53 : decode mX10_feed.2.2.1 53 = .ok (.iload_n 3, 1) := by decide +kernel
theorem dX10_feed_54 : decode mX10_feed.2.2.1 54 = .ok (.goto 17, 3) := by decide +kernel
theorem dX10_feed_57 : decode mX10_feed.2.2.1 57 = .ok (.iload 6, 2) := by decide +kernel
theorem dX10_feed_59 : decode mX10_feed.2.2.1 59 = .ok (.bipush 16, 2) := by decide +kernel
theorem dX10_feed_61 : decode mX10_feed.2.2.1 61 = .ok (.if_icmp .ge 8, 3) := by decide +kernel
theorem dX10_feed_64 : decode mX10_feed.2.2.1 64 = .ok (.iload 4, 2) := by decide +kernel
theorem dX10_feed_66 : decode mX10_feed.2.2.1 66 = .ok (.goto 5, 3) := by decide +kernel
theorem dX10_feed_69 : decode mX10_feed.2.2.1 69 = .ok (.iload 5, 2) := by decide +kernel
theorem dX10_feed_71 : decode mX10_feed.2.2.1 71 = .ok (.istore 7, 2) := by decide +kernel
theorem dX10_feed_73 : decode mX10_feed.2.2.1 73 = .ok (.aload_n 0, 1) := by decide +kernel
theorem dX10_feed_74 : decode mX10_feed.2.2.1 74 = .ok (.getfield 7, 3) := by decide +kernel
theorem dX10_feed_77 : decode mX10_feed.2.2.1 77 = .ok (.aload_n 0, 1) := by decide +kernel
theorem dX10_feed_78 : decode mX10_feed.2.2.1 78 = .ok (.getfield 131, 3) := by decide +kernel
theorem dX10_feed_81 : decode mX10_feed.2.2.1 81 = .ok (.iload 7, 2) := by decide +kernel
theorem dX10_feed_83 : decode mX10_feed.2.2.1 83 = .ok (.bipush 24, 2) := by decide +kernel
theorem dX10_feed_85 : decode mX10_feed.2.2.1 85 = .ok (.bipush 8, 2) := by decide +kernel
theorem dX10_feed_87 : decode mX10_feed.2.2.1 87 = .ok (.iload 6, 2) := by decide +kernel
theorem dX10_feed_89 : decode mX10_feed.2.2.1 89 = .ok (.iconst 4, 1) := by decide +kernel
theorem dX10_feed_90 : decode mX10_feed.2.2.1 90 = .ok (.irem, 1) := by decide +kernel
theorem dX10_feed_91 : decode mX10_feed.2.2.1 91 = .ok (.imul, 1) := by decide +kernel
theorem dX10_feed_92 : decode mX10_feed.2.2.1 92 = .ok (.isub, 1) := by decide +kernel
theorem dX10_feed_93 : decode mX10_feed.2.2.1 93 = .ok (.ishr, 1) := by decide +kernel
theorem dX10_feed_94 : decode mX10_feed.2.2.1 94 = .ok (.i2b, 1) := by decide +kernel
theorem dX10_feed_95 : decode mX10_feed.2.2.1 95 = .ok (.bastore, 1) := by decide +kernel
theorem dX10_feed_96 : decode mX10_feed.2.2.1 96 = .ok (.aload_n 0, 1) := by decide +kernel
theorem dX10_feed_97 : decode mX10_feed.2.2.1 97 = .ok (.dup, 1) := by decide +kernel
theorem dX10_feed_98 : decode mX10_feed.2.2.1 98 = .ok (.getfield 131, 3) := by decide +kernel
theorem dX10_feed_101 : decode mX10_feed.2.2.1 101 = .ok (.iconst 1, 1) := by decide +kernel
theorem dX10_feed_102 : decode mX10_feed.2.2.1 102 = .ok (.iadd, 1) := by decide +kernel
theorem dX10_feed_103 : decode mX10_feed.2.2.1 103 = .ok (.putfield 131, 3) := by decide +kernel
theorem dX10_feed_106 : decode mX10_feed.2.2.1 106 = .ok (.iinc 6 1, 3) := by decide +kernel
theorem dX10_feed_109 : decode mX10_feed.2.2.1 109 = .ok (.goto (-91), 3) := by decide +kernel
theorem dX10_feed_112 : decode mX10_feed.2.2.1 112 = .ok (.aload_n 0, 1) := by decide +kernel
theorem dX10_feed_113 : decode mX10_feed.2.2.1 113 = .ok (.getfield 131, 3) := by decide +kernel
theorem dX10_feed_116 : decode mX10_feed.2.2.1 116 = .ok (.ireturn, 1) := by decide +kernel
theorem dX10_end_0 : decode mX10_end.2.2.1 0 = .ok (.iload_n 1, 1) := by decide +kernel
theorem dX10_end_1 : decode mX10_end.2.2.1 1 = .ok (.ifCond .lt 11, 3) := by decide +kernel
theorem dX10_end_4 : decode mX10_end.2.2.1 4 = .ok (.iload_n 1, 1) := by decide +kernel
theorem dX10_end_5 : decode mX10_end.2.2.1 5 = .ok (.aload_n 0, 1) := by decide +kernel
theorem dX10_end_6 : decode mX10_end.2.2.1 6 = .ok (.getfield 131, 3) := by decide +kernel
theorem dX10_end_9 : decode mX10_end.2.2.1 9 = .ok (.if_icmp .le 5, 3) := by decide +kernel
theorem dX10_end_12 : decode mX10_end.2.2.1 12 = .ok (.iconst (-1), 1) := by decide +kernel
theorem dX10_end_13 : decode mX10_end.2.2.1 13 = .ok (.ireturn, 1) := by decide +kernel
theorem dX10_end_14 : decode mX10_end.2.2.1 14 = .ok (.aload_n 0, 1) := by decide +kernel
theorem dX10_end_15 : decode mX10_end.2.2.1 15 = .ok (.iload_n 1, 1) := by decide +kernel
theorem dX10_end_16 : decode mX10_end.2.2.1 16 = .ok (.putfield 131, 3) := by decide +kernel
theorem dX10_end_19 : decode mX10_end.2.2.1 19 = .ok (.iload_n 1, 1) := by decide +kernel
theorem dX10_end_20 : decode mX10_end.2.2.1 20 = .ok (.ireturn, 1) := by decide +kernel
theorem dX10_take_0 : decode mX10_take.2.2.1 0 = .ok (.iconst 0, 1) := by decide +kernel
theorem dX10_take_1 : decode mX10_take.2.2.1 1 = .ok (.istore_n 1, 1) := by decide +kernel
theorem dX10_take_2 : decode mX10_take.2.2.1 2 = .ok (.iload_n 1, 1) := by decide +kernel
theorem dX10_take_3 : decode mX10_take.2.2.1 3 = .ok (.aload_n 0, 1) := by decide +kernel
theorem dX10_take_4 : decode mX10_take.2.2.1 4 = .ok (.getfield 134, 3) := by decide +kernel
theorem dX10_take_7 : decode mX10_take.2.2.1 7 = .ok (.if_icmp .ge 21, 3) := by decide +kernel
theorem dX10_take_10 : decode mX10_take.2.2.1 10 = .ok (.aload_n 0, 1) := by decide +kernel
theorem dX10_take_11 : decode mX10_take.2.2.1 11 = .ok (.getfield 7, 3) := by decide +kernel
theorem dX10_take_14 : decode mX10_take.2.2.1 14 = .ok (.iload_n 1, 1) := by decide +kernel
theorem dX10_take_15 : decode mX10_take.2.2.1 15 = .ok (.aload_n 0, 1) := by decide +kernel
theorem dX10_take_16 : decode mX10_take.2.2.1 16 = .ok (.getfield 13, 3) := by decide +kernel
theorem dX10_take_19 : decode mX10_take.2.2.1 19 = .ok (.iload_n 1, 1) := by decide +kernel
theorem dX10_take_20 : decode mX10_take.2.2.1 20 = .ok (.baload, 1) := by decide +kernel
theorem dX10_take_21 : decode mX10_take.2.2.1 21 = .ok (.bastore, 1) := by decide +kernel
theorem dX10_take_22 : decode mX10_take.2.2.1 22 = .ok (.iinc 1 1, 3) := by decide +kernel
theorem dX10_take_25 : decode mX10_take.2.2.1 25 = .ok (.goto (-23), 3) := by decide +kernel
theorem dX10_take_28 : decode mX10_take.2.2.1 28 = .ok (.aload_n 0, 1) := by decide +kernel
theorem dX10_take_29 : decode mX10_take.2.2.1 29 = .ok (.aload_n 0, 1) := by decide +kernel
theorem dX10_take_30 : decode mX10_take.2.2.1 30 = .ok (.getfield 134, 3) := by decide +kernel
theorem dX10_take_33 : decode mX10_take.2.2.1 33 = .ok (.putfield 131, 3) := by decide +kernel
theorem dX10_take_36 : decode mX10_take.2.2.1 36 = .ok (.aload_n 0, 1) := by decide +kernel
theorem dX10_take_37 : decode mX10_take.2.2.1 37 = .ok (.getfield 131, 3) := by decide +kernel
theorem dX10_take_40 : decode mX10_take.2.2.1 40 = .ok (.ireturn, 1) := by decide +kernel
theorem dX10_alter_0 : decode mX10_alter.2.2.1 0 = .ok (.iload_n 1, 1) := by decide +kernel
theorem dX10_alter_1 : decode mX10_alter.2.2.1 1 = .ok (.ifCond .lt 11, 3) := by decide +kernel
theorem dX10_alter_4 : decode mX10_alter.2.2.1 4 = .ok (.iload_n 1, 1) := by decide +kernel
theorem dX10_alter_5 : decode mX10_alter.2.2.1 5 = .ok (.aload_n 0, 1) := by decide +kernel
theorem dX10_alter_6 : decode mX10_alter.2.2.1 6 = .ok (.getfield 131, 3) := by decide +kernel
theorem dX10_alter_9 : decode mX10_alter.2.2.1 9 = .ok (.if_icmp .lt 5, 3) := by decide +kernel
theorem dX10_alter_12 : decode mX10_alter.2.2.1 12 = .ok (.iconst 0, 1) := by decide +kernel
theorem dX10_alter_13 : decode mX10_alter.2.2.1 13 = .ok (.ireturn, 1) := by decide +kernel
theorem dX10_alter_14 : decode mX10_alter.2.2.1 14 = .ok (.aload_n 0, 1) := by decide +kernel
theorem dX10_alter_15 : decode mX10_alter.2.2.1 15 = .ok (.getfield 7, 3) := by decide +kernel
theorem dX10_alter_18 : decode mX10_alter.2.2.1 18 = .ok (.iload_n 1, 1) := by decide +kernel
theorem dX10_alter_19 : decode mX10_alter.2.2.1 19 = .ok (.iload_n 2, 1) := by decide +kernel
theorem dX10_alter_20 : decode mX10_alter.2.2.1 20 = .ok (.i2b, 1) := by decide +kernel
theorem dX10_alter_21 : decode mX10_alter.2.2.1 21 = .ok (.bastore, 1) := by decide +kernel
theorem dX10_alter_22 : decode mX10_alter.2.2.1 22 = .ok (.iconst 1, 1) := by decide +kernel
theorem dX10_alter_23 : decode mX10_alter.2.2.1 23 = .ok (.ireturn, 1) := by decide +kernel
theorem dX10_out_0 : decode mX10_out.2.2.1 0 = .ok (.iload_n 1, 1) := by decide +kernel
theorem dX10_out_1 : decode mX10_out.2.2.1 1 = .ok (.ifCond .lt 11, 3) := by decide +kernel
theorem dX10_out_4 : decode mX10_out.2.2.1 4 = .ok (.iload_n 1, 1) := by decide +kernel
theorem dX10_out_5 : decode mX10_out.2.2.1 5 = .ok (.aload_n 0, 1) := by decide +kernel
theorem dX10_out_6 : decode mX10_out.2.2.1 6 = .ok (.getfield 134, 3) := by decide +kernel
theorem dX10_out_9 : decode mX10_out.2.2.1 9 = .ok (.if_icmp .lt 7, 3) := by decide +kernel
theorem dX10_out_12 : decode mX10_out.2.2.1 12 = .ok (.iconst (-1), 1) := by decide +kernel
theorem dX10_out_13 : decode mX10_out.2.2.1 13 = .ok (.goto 13, 3) := by decide +kernel
theorem dX10_out_16 : decode mX10_out.2.2.1 16 = .ok (.aload_n 0, 1) := by decide +kernel
theorem dX10_out_17 : decode mX10_out.2.2.1 17 = .ok (.getfield 13, 3) := by decide +kernel
theorem dX10_out_20 : decode mX10_out.2.2.1 20 = .ok (.iload_n 1, 1) := by decide +kernel
theorem dX10_out_21 : decode mX10_out.2.2.1 21 = .ok (.baload, 1) := by decide +kernel
theorem dX10_out_22 : decode mX10_out.2.2.1 22 = .ok (.sipush 255, 3) := by decide +kernel
theorem dX10_out_25 : decode mX10_out.2.2.1 25 = .ok (.iand, 1) := by decide +kernel
theorem dX10_out_26 : decode mX10_out.2.2.1 26 = .ok (.ireturn, 1) := by decide +kernel
theorem dX10_used_0 : decode mX10_used.2.2.1 0 = .ok (.aload_n 0, 1) := by decide +kernel
theorem dX10_used_1 : decode mX10_used.2.2.1 1 = .ok (.getfield 131, 3) := by decide +kernel
theorem dX10_used_4 : decode mX10_used.2.2.1 4 = .ok (.istore_n 1, 1) := by decide +kernel
theorem dX10_used_5 : decode mX10_used.2.2.1 5 = .ok (.aload_n 0, 1) := by decide +kernel
theorem dX10_used_6 : decode mX10_used.2.2.1 6 = .ok (.iconst 0, 1) := by decide +kernel
theorem dX10_used_7 : decode mX10_used.2.2.1 7 = .ok (.putfield 131, 3) := by decide +kernel
theorem dX10_used_10 : decode mX10_used.2.2.1 10 = .ok (.iload_n 1, 1) := by decide +kernel
theorem dX10_used_11 : decode mX10_used.2.2.1 11 = .ok (.ireturn, 1) := by decide +kernel
theorem dX10_rowFrom_0 : decode mX10_rowFrom.2.2.1 0 = .ok (.aload_n 0, 1) := by decide +kernel
theorem dX10_rowFrom_1 : decode mX10_rowFrom.2.2.1 1 = .ok (.iload_n 1, 1) := by decide +kernel
theorem dX10_rowFrom_2 : decode mX10_rowFrom.2.2.1 2 = .ok (.putfield 137, 3) := by decide +kernel
theorem dX10_rowFrom_5 : decode mX10_rowFrom.2.2.1 5 = .ok (.return_, 1) := by decide +kernel
theorem dX10_turned_0 : decode mX10_turned.2.2.1 0 = .ok (.iload_n 0, 1) := by decide +kernel
theorem dX10_turned_1 : decode mX10_turned.2.2.1 1 = .ok (.iload_n 1, 1) := by decide +kernel
theorem dX10_turned_2 : decode mX10_turned.2.2.1 2 = .ok (.ishl, 1) := by decide +kernel
theorem dX10_turned_3 : decode mX10_turned.2.2.1 3 = .ok (.iload_n 0, 1) := by decide +kernel
theorem dX10_turned_4 : decode mX10_turned.2.2.1 4 = .ok (.bipush 32, 2) := by decide +kernel
theorem dX10_turned_6 : decode mX10_turned.2.2.1 6 = .ok (.iload_n 1, 1) := by decide +kernel
theorem dX10_turned_7 : decode mX10_turned.2.2.1 7 = .ok (.isub, 1) := by decide +kernel
theorem dX10_turned_8 : decode mX10_turned.2.2.1 8 = .ok (.iushr, 1) := by decide +kernel
theorem dX10_turned_9 : decode mX10_turned.2.2.1 9 = .ok (.ior, 1) := by decide +kernel
theorem dX10_turned_10 : decode mX10_turned.2.2.1 10 = .ok (.ireturn, 1) := by decide +kernel
theorem dX10_chunk_0 : decode mX10_chunk.2.2.1 0 = .ok (.iconst 0, 1) := by decide +kernel
theorem dX10_chunk_1 : decode mX10_chunk.2.2.1 1 = .ok (.istore_n 2, 1) := by decide +kernel
theorem dX10_chunk_2 : decode mX10_chunk.2.2.1 2 = .ok (.iload_n 2, 1) := by decide +kernel
theorem dX10_chunk_3 : decode mX10_chunk.2.2.1 3 = .ok (.bipush 16, 2) := by decide +kernel
theorem dX10_chunk_5 : decode mX10_chunk.2.2.1 5 = .ok (.if_icmp .ge 79, 3) := by decide +kernel
theorem dX10_chunk_8 : decode mX10_chunk.2.2.1 8 = .ok (.iload_n 1, 1) := by decide +kernel
theorem dX10_chunk_9 : decode mX10_chunk.2.2.1 9 = .ok (.iconst 4, 1) := by decide +kernel
theorem dX10_chunk_10 : decode mX10_chunk.2.2.1 10 = .ok (.iload_n 2, 1) := by decide +kernel
theorem dX10_chunk_11 : decode mX10_chunk.2.2.1 11 = .ok (.imul, 1) := by decide +kernel
theorem dX10_chunk_12 : decode mX10_chunk.2.2.1 12 = .ok (.iadd, 1) := by decide +kernel
theorem dX10_chunk_13 : decode mX10_chunk.2.2.1 13 = .ok (.istore_n 3, 1) := by decide +kernel
theorem dX10_chunk_14 : decode mX10_chunk.2.2.1 14 = .ok (.aload_n 0, 1) := by decide +kernel
theorem dX10_chunk_15 : decode mX10_chunk.2.2.1 15 = .ok (.getfield 19, 3) := by decide +kernel
theorem dX10_chunk_18 : decode mX10_chunk.2.2.1 18 = .ok (.iload_n 2, 1) := by decide +kernel
theorem dX10_chunk_19 : decode mX10_chunk.2.2.1 19 = .ok (.aload_n 0, 1) := by decide +kernel
theorem dX10_chunk_20 : decode mX10_chunk.2.2.1 20 = .ok (.getfield 16, 3) := by decide +kernel
theorem dX10_chunk_23 : decode mX10_chunk.2.2.1 23 = .ok (.iload_n 3, 1) := by decide +kernel
theorem dX10_chunk_24 : decode mX10_chunk.2.2.1 24 = .ok (.baload, 1) := by decide +kernel
theorem dX10_chunk_25 : decode mX10_chunk.2.2.1 25 = .ok (.sipush 255, 3) := by decide +kernel
theorem dX10_chunk_28 : decode mX10_chunk.2.2.1 28 = .ok (.iand, 1) := by decide +kernel
theorem dX10_chunk_29 : decode mX10_chunk.2.2.1 29 = .ok (.bipush 24, 2) := by decide +kernel
theorem dX10_chunk_31 : decode mX10_chunk.2.2.1 31 = .ok (.ishl, 1) := by decide +kernel
theorem dX10_chunk_32 : decode mX10_chunk.2.2.1 32 = .ok (.aload_n 0, 1) := by decide +kernel
theorem dX10_chunk_33 : decode mX10_chunk.2.2.1 33 = .ok (.getfield 16, 3) := by decide +kernel
theorem dX10_chunk_36 : decode mX10_chunk.2.2.1 36 = .ok (.iload_n 3, 1) := by decide +kernel
theorem dX10_chunk_37 : decode mX10_chunk.2.2.1 37 = .ok (.iconst 1, 1) := by decide +kernel
theorem dX10_chunk_38 : decode mX10_chunk.2.2.1 38 = .ok (.iadd, 1) := by decide +kernel
theorem dX10_chunk_39 : decode mX10_chunk.2.2.1 39 = .ok (.baload, 1) := by decide +kernel
theorem dX10_chunk_40 : decode mX10_chunk.2.2.1 40 = .ok (.sipush 255, 3) := by decide +kernel
theorem dX10_chunk_43 : decode mX10_chunk.2.2.1 43 = .ok (.iand, 1) := by decide +kernel
theorem dX10_chunk_44 : decode mX10_chunk.2.2.1 44 = .ok (.bipush 16, 2) := by decide +kernel
theorem dX10_chunk_46 : decode mX10_chunk.2.2.1 46 = .ok (.ishl, 1) := by decide +kernel
theorem dX10_chunk_47 : decode mX10_chunk.2.2.1 47 = .ok (.ior, 1) := by decide +kernel
theorem dX10_chunk_48 : decode mX10_chunk.2.2.1 48 = .ok (.aload_n 0, 1) := by decide +kernel
theorem dX10_chunk_49 : decode mX10_chunk.2.2.1 49 = .ok (.getfield 16, 3) := by decide +kernel
theorem dX10_chunk_52 : decode mX10_chunk.2.2.1 52 = .ok (.iload_n 3, 1) := by decide +kernel
theorem dX10_chunk_53 : decode mX10_chunk.2.2.1 53 = .ok (.iconst 2, 1) := by decide +kernel
theorem dX10_chunk_54 : decode mX10_chunk.2.2.1 54 = .ok (.iadd, 1) := by decide +kernel
theorem dX10_chunk_55 : decode mX10_chunk.2.2.1 55 = .ok (.baload, 1) := by decide +kernel
theorem dX10_chunk_56 : decode mX10_chunk.2.2.1 56 = .ok (.sipush 255, 3) := by decide +kernel
theorem dX10_chunk_59 : decode mX10_chunk.2.2.1 59 = .ok (.iand, 1) := by decide +kernel
theorem dX10_chunk_60 : decode mX10_chunk.2.2.1 60 = .ok (.bipush 8, 2) := by decide +kernel
theorem dX10_chunk_62 : decode mX10_chunk.2.2.1 62 = .ok (.ishl, 1) := by decide +kernel
theorem dX10_chunk_63 : decode mX10_chunk.2.2.1 63 = .ok (.ior, 1) := by decide +kernel
theorem dX10_chunk_64 : decode mX10_chunk.2.2.1 64 = .ok (.aload_n 0, 1) := by decide +kernel
theorem dX10_chunk_65 : decode mX10_chunk.2.2.1 65 = .ok (.getfield 16, 3) := by decide +kernel
theorem dX10_chunk_68 : decode mX10_chunk.2.2.1 68 = .ok (.iload_n 3, 1) := by decide +kernel
theorem dX10_chunk_69 : decode mX10_chunk.2.2.1 69 = .ok (.iconst 3, 1) := by decide +kernel
theorem dX10_chunk_70 : decode mX10_chunk.2.2.1 70 = .ok (.iadd, 1) := by decide +kernel
theorem dX10_chunk_71 : decode mX10_chunk.2.2.1 71 = .ok (.baload, 1) := by decide +kernel
theorem dX10_chunk_72 : decode mX10_chunk.2.2.1 72 = .ok (.sipush 255, 3) := by decide +kernel
theorem dX10_chunk_75 : decode mX10_chunk.2.2.1 75 = .ok (.iand, 1) := by decide +kernel
theorem dX10_chunk_76 : decode mX10_chunk.2.2.1 76 = .ok (.ior, 1) := by decide +kernel
theorem dX10_chunk_77 : decode mX10_chunk.2.2.1 77 = .ok (.iastore, 1) := by decide +kernel
theorem dX10_chunk_78 : decode mX10_chunk.2.2.1 78 = .ok (.iinc 2 1, 3) := by decide +kernel
theorem dX10_chunk_81 : decode mX10_chunk.2.2.1 81 = .ok (.goto (-79), 3) := by decide +kernel
theorem dX10_chunk_84 : decode mX10_chunk.2.2.1 84 = .ok (.bipush 16, 2) := by decide +kernel
theorem dX10_chunk_86 : decode mX10_chunk.2.2.1 86 = .ok (.istore_n 2, 1) := by decide +kernel
theorem dX10_chunk_87 : decode mX10_chunk.2.2.1 87 = .ok (.iload_n 2, 1) := by decide +kernel
theorem dX10_chunk_88 : decode mX10_chunk.2.2.1 88 = .ok (.bipush 80, 2) := by decide +kernel
theorem dX10_chunk_90 : decode mX10_chunk.2.2.1 90 = .ok (.if_icmp .ge 57, 3) := by decide +kernel
theorem dX10_chunk_93 : decode mX10_chunk.2.2.1 93 = .ok (.aload_n 0, 1) := by decide +kernel
theorem dX10_chunk_94 : decode mX10_chunk.2.2.1 94 = .ok (.getfield 19, 3) := by decide +kernel
theorem dX10_chunk_97 : decode mX10_chunk.2.2.1 97 = .ok (.iload_n 2, 1) := by decide +kernel
theorem dX10_chunk_98 : decode mX10_chunk.2.2.1 98 = .ok (.aload_n 0, 1) := by decide +kernel
theorem dX10_chunk_99 : decode mX10_chunk.2.2.1 99 = .ok (.getfield 19, 3) := by decide +kernel
theorem dX10_chunk_102 : decode mX10_chunk.2.2.1 102 = .ok (.iload_n 2, 1) := by decide +kernel
theorem dX10_chunk_103 : decode mX10_chunk.2.2.1 103 = .ok (.iconst 3, 1) := by decide +kernel
theorem dX10_chunk_104 : decode mX10_chunk.2.2.1 104 = .ok (.isub, 1) := by decide +kernel
theorem dX10_chunk_105 : decode mX10_chunk.2.2.1 105 = .ok (.iaload, 1) := by decide +kernel
theorem dX10_chunk_106 : decode mX10_chunk.2.2.1 106 = .ok (.aload_n 0, 1) := by decide +kernel
theorem dX10_chunk_107 : decode mX10_chunk.2.2.1 107 = .ok (.getfield 19, 3) := by decide +kernel
theorem dX10_chunk_110 : decode mX10_chunk.2.2.1 110 = .ok (.iload_n 2, 1) := by decide +kernel
theorem dX10_chunk_111 : decode mX10_chunk.2.2.1 111 = .ok (.bipush 8, 2) := by decide +kernel
theorem dX10_chunk_113 : decode mX10_chunk.2.2.1 113 = .ok (.isub, 1) := by decide +kernel
theorem dX10_chunk_114 : decode mX10_chunk.2.2.1 114 = .ok (.iaload, 1) := by decide +kernel
theorem dX10_chunk_115 : decode mX10_chunk.2.2.1 115 = .ok (.ixor, 1) := by decide +kernel
theorem dX10_chunk_116 : decode mX10_chunk.2.2.1 116 = .ok (.aload_n 0, 1) := by decide +kernel
theorem dX10_chunk_117 : decode mX10_chunk.2.2.1 117 = .ok (.getfield 19, 3) := by decide +kernel
theorem dX10_chunk_120 : decode mX10_chunk.2.2.1 120 = .ok (.iload_n 2, 1) := by decide +kernel
theorem dX10_chunk_121 : decode mX10_chunk.2.2.1 121 = .ok (.bipush 14, 2) := by decide +kernel
theorem dX10_chunk_123 : decode mX10_chunk.2.2.1 123 = .ok (.isub, 1) := by decide +kernel
theorem dX10_chunk_124 : decode mX10_chunk.2.2.1 124 = .ok (.iaload, 1) := by decide +kernel
theorem dX10_chunk_125 : decode mX10_chunk.2.2.1 125 = .ok (.ixor, 1) := by decide +kernel
theorem dX10_chunk_126 : decode mX10_chunk.2.2.1 126 = .ok (.aload_n 0, 1) := by decide +kernel
theorem dX10_chunk_127 : decode mX10_chunk.2.2.1 127 = .ok (.getfield 19, 3) := by decide +kernel
theorem dX10_chunk_130 : decode mX10_chunk.2.2.1 130 = .ok (.iload_n 2, 1) := by decide +kernel
theorem dX10_chunk_131 : decode mX10_chunk.2.2.1 131 = .ok (.bipush 16, 2) := by decide +kernel
theorem dX10_chunk_133 : decode mX10_chunk.2.2.1 133 = .ok (.isub, 1) := by decide +kernel
theorem dX10_chunk_134 : decode mX10_chunk.2.2.1 134 = .ok (.iaload, 1) := by decide +kernel
theorem dX10_chunk_135 : decode mX10_chunk.2.2.1 135 = .ok (.ixor, 1) := by decide +kernel
theorem dX10_chunk_136 : decode mX10_chunk.2.2.1 136 = .ok (.iconst 1, 1) := by decide +kernel
theorem dX10_chunk_137 : decode mX10_chunk.2.2.1 137 = .ok (.invokestatic 140, 3) := by decide +kernel
theorem dX10_chunk_140 : decode mX10_chunk.2.2.1 140 = .ok (.iastore, 1) := by decide +kernel
theorem dX10_chunk_141 : decode mX10_chunk.2.2.1 141 = .ok (.iinc 2 1, 3) := by decide +kernel
theorem dX10_chunk_144 : decode mX10_chunk.2.2.1 144 = .ok (.goto (-57), 3) := by decide +kernel
theorem dX10_chunk_147 : decode mX10_chunk.2.2.1 147 = .ok (.aload_n 0, 1) := by decide +kernel
theorem dX10_chunk_148 : decode mX10_chunk.2.2.1 148 = .ok (.getfield 23, 3) := by decide +kernel
theorem dX10_chunk_151 : decode mX10_chunk.2.2.1 151 = .ok (.iconst 0, 1) := by decide +kernel
theorem dX10_chunk_152 : decode mX10_chunk.2.2.1 152 = .ok (.iaload, 1) := by decide +kernel
theorem dX10_chunk_153 : decode mX10_chunk.2.2.1 153 = .ok (.istore_n 2, 1) := by decide +kernel
theorem dX10_chunk_154 : decode mX10_chunk.2.2.1 154 = .ok (.aload_n 0, 1) := by decide +kernel
theorem dX10_chunk_155 : decode mX10_chunk.2.2.1 155 = .ok (.getfield 23, 3) := by decide +kernel
theorem dX10_chunk_158 : decode mX10_chunk.2.2.1 158 = .ok (.iconst 1, 1) := by decide +kernel
theorem dX10_chunk_159 : decode mX10_chunk.2.2.1 159 = .ok (.iaload, 1) := by decide +kernel
theorem dX10_chunk_160 : decode mX10_chunk.2.2.1 160 = .ok (.istore_n 3, 1) := by decide +kernel
theorem dX10_chunk_161 : decode mX10_chunk.2.2.1 161 = .ok (.aload_n 0, 1) := by decide +kernel
theorem dX10_chunk_162 : decode mX10_chunk.2.2.1 162 = .ok (.getfield 23, 3) := by decide +kernel
theorem dX10_chunk_165 : decode mX10_chunk.2.2.1 165 = .ok (.iconst 2, 1) := by decide +kernel
theorem dX10_chunk_166 : decode mX10_chunk.2.2.1 166 = .ok (.iaload, 1) := by decide +kernel
theorem dX10_chunk_167 : decode mX10_chunk.2.2.1 167 = .ok (.istore 4, 2) := by decide +kernel
theorem dX10_chunk_169 : decode mX10_chunk.2.2.1 169 = .ok (.aload_n 0, 1) := by decide +kernel
theorem dX10_chunk_170 : decode mX10_chunk.2.2.1 170 = .ok (.getfield 23, 3) := by decide +kernel
theorem dX10_chunk_173 : decode mX10_chunk.2.2.1 173 = .ok (.iconst 3, 1) := by decide +kernel
theorem dX10_chunk_174 : decode mX10_chunk.2.2.1 174 = .ok (.iaload, 1) := by decide +kernel
theorem dX10_chunk_175 : decode mX10_chunk.2.2.1 175 = .ok (.istore 5, 2) := by decide +kernel
theorem dX10_chunk_177 : decode mX10_chunk.2.2.1 177 = .ok (.aload_n 0, 1) := by decide +kernel
theorem dX10_chunk_178 : decode mX10_chunk.2.2.1 178 = .ok (.getfield 23, 3) := by decide +kernel
theorem dX10_chunk_181 : decode mX10_chunk.2.2.1 181 = .ok (.iconst 4, 1) := by decide +kernel
theorem dX10_chunk_182 : decode mX10_chunk.2.2.1 182 = .ok (.iaload, 1) := by decide +kernel
theorem dX10_chunk_183 : decode mX10_chunk.2.2.1 183 = .ok (.istore 6, 2) := by decide +kernel
theorem dX10_chunk_185 : decode mX10_chunk.2.2.1 185 = .ok (.iconst 0, 1) := by decide +kernel
theorem dX10_chunk_186 : decode mX10_chunk.2.2.1 186 = .ok (.istore 7, 2) := by decide +kernel
theorem dX10_chunk_188 : decode mX10_chunk.2.2.1 188 = .ok (.iload 7, 2) := by decide +kernel
theorem dX10_chunk_190 : decode mX10_chunk.2.2.1 190 = .ok (.bipush 80, 2) := by decide +kernel
theorem dX10_chunk_192 : decode mX10_chunk.2.2.1 192 = .ok (.if_icmp .ge 156, 3) := by decide +kernel
theorem dX10_chunk_195 : decode mX10_chunk.2.2.1 195 = .ok (.iload 7, 2) := by decide +kernel
theorem dX10_chunk_197 : decode mX10_chunk.2.2.1 197 = .ok (.bipush 20, 2) := by decide +kernel
theorem dX10_chunk_199 : decode mX10_chunk.2.2.1 199 = .ok (.if_icmp .ge 17, 3) := by decide +kernel
theorem dX10_chunk_202 : decode mX10_chunk.2.2.1 202 = .ok (.iload_n 3, 1) := by decide +kernel
theorem dX10_chunk_203 : decode mX10_chunk.2.2.1 203 = .ok (.iload 4, 2) := by decide +kernel
theorem dX10_chunk_205 : decode mX10_chunk.2.2.1 205 = .ok (.iand, 1) := by decide +kernel
theorem dX10_chunk_206 : decode mX10_chunk.2.2.1 206 = .ok (.iload_n 3, 1) := by decide +kernel
theorem dX10_chunk_207 : decode mX10_chunk.2.2.1 207 = .ok (.iconst (-1), 1) := by decide +kernel
theorem dX10_chunk_208 : decode mX10_chunk.2.2.1 208 = .ok (.ixor, 1) := by decide +kernel
theorem dX10_chunk_209 : decode mX10_chunk.2.2.1 209 = .ok (.iload 5, 2) := by decide +kernel
theorem dX10_chunk_211 : decode mX10_chunk.2.2.1 211 = .ok (.iand, 1) := by decide +kernel
theorem dX10_chunk_212 : decode mX10_chunk.2.2.1 212 = .ok (.ior, 1) := by decide +kernel
theorem dX10_chunk_213 : decode mX10_chunk.2.2.1 213 = .ok (.goto 42, 3) := by decide +kernel
theorem dX10_chunk_216 : decode mX10_chunk.2.2.1 216 = .ok (.iload 7, 2) := by decide +kernel
theorem dX10_chunk_218 : decode mX10_chunk.2.2.1 218 = .ok (.bipush 40, 2) := by decide +kernel
theorem dX10_chunk_220 : decode mX10_chunk.2.2.1 220 = .ok (.if_icmp .lt 10, 3) := by decide +kernel
theorem dX10_chunk_223 : decode mX10_chunk.2.2.1 223 = .ok (.iload 7, 2) := by decide +kernel
theorem dX10_chunk_225 : decode mX10_chunk.2.2.1 225 = .ok (.bipush 59, 2) := by decide +kernel
theorem dX10_chunk_227 : decode mX10_chunk.2.2.1 227 = .ok (.if_icmp .le 13, 3) := by decide +kernel
theorem dX10_chunk_230 : decode mX10_chunk.2.2.1 230 = .ok (.iload_n 3, 1) := by decide +kernel
theorem dX10_chunk_231 : decode mX10_chunk.2.2.1 231 = .ok (.iload 4, 2) := by decide +kernel
theorem dX10_chunk_233 : decode mX10_chunk.2.2.1 233 = .ok (.ixor, 1) := by decide +kernel
theorem dX10_chunk_234 : decode mX10_chunk.2.2.1 234 = .ok (.iload 5, 2) := by decide +kernel
theorem dX10_chunk_236 : decode mX10_chunk.2.2.1 236 = .ok (.ixor, 1) := by decide +kernel
theorem dX10_chunk_237 : decode mX10_chunk.2.2.1 237 = .ok (.goto 18, 3) := by decide +kernel
theorem dX10_chunk_240 : decode mX10_chunk.2.2.1 240 = .ok (.iload_n 3, 1) := by decide +kernel
theorem dX10_chunk_241 : decode mX10_chunk.2.2.1 241 = .ok (.iload 4, 2) := by decide +kernel
theorem dX10_chunk_243 : decode mX10_chunk.2.2.1 243 = .ok (.iand, 1) := by decide +kernel
theorem dX10_chunk_244 : decode mX10_chunk.2.2.1 244 = .ok (.iload_n 3, 1) := by decide +kernel
theorem dX10_chunk_245 : decode mX10_chunk.2.2.1 245 = .ok (.iload 5, 2) := by decide +kernel
theorem dX10_chunk_247 : decode mX10_chunk.2.2.1 247 = .ok (.iand, 1) := by decide +kernel
theorem dX10_chunk_248 : decode mX10_chunk.2.2.1 248 = .ok (.ior, 1) := by decide +kernel
theorem dX10_chunk_249 : decode mX10_chunk.2.2.1 249 = .ok (.iload 4, 2) := by decide +kernel
theorem dX10_chunk_251 : decode mX10_chunk.2.2.1 251 = .ok (.iload 5, 2) := by decide +kernel
theorem dX10_chunk_253 : decode mX10_chunk.2.2.1 253 = .ok (.iand, 1) := by decide +kernel
theorem dX10_chunk_254 : decode mX10_chunk.2.2.1 254 = .ok (.ior, 1) := by decide +kernel
theorem dX10_chunk_255 : decode mX10_chunk.2.2.1 255 = .ok (.istore 8, 2) := by decide +kernel
theorem dX10_chunk_257 : decode mX10_chunk.2.2.1 257 = .ok (.iload 7, 2) := by decide +kernel
theorem dX10_chunk_259 : decode mX10_chunk.2.2.1 259 = .ok (.bipush 20, 2) := by decide +kernel
theorem dX10_chunk_261 : decode mX10_chunk.2.2.1 261 = .ok (.if_icmp .ge 8, 3) := by decide +kernel
theorem dX10_chunk_264 : decode mX10_chunk.2.2.1 264 = .ok (.ldc 144, 2) := by decide +kernel
theorem dX10_chunk_266 : decode mX10_chunk.2.2.1 266 = .ok (.goto 29, 3) := by decide +kernel
theorem dX10_chunk_269 : decode mX10_chunk.2.2.1 269 = .ok (.iload 7, 2) := by decide +kernel
theorem dX10_chunk_271 : decode mX10_chunk.2.2.1 271 = .ok (.bipush 40, 2) := by decide +kernel
theorem dX10_chunk_273 : decode mX10_chunk.2.2.1 273 = .ok (.if_icmp .ge 8, 3) := by decide +kernel
theorem dX10_chunk_276 : decode mX10_chunk.2.2.1 276 = .ok (.ldc 145, 2) := by decide +kernel
theorem dX10_chunk_278 : decode mX10_chunk.2.2.1 278 = .ok (.goto 17, 3) := by decide +kernel
theorem dX10_chunk_281 : decode mX10_chunk.2.2.1 281 = .ok (.iload 7, 2) := by decide +kernel
theorem dX10_chunk_283 : decode mX10_chunk.2.2.1 283 = .ok (.bipush 60, 2) := by decide +kernel
theorem dX10_chunk_285 : decode mX10_chunk.2.2.1 285 = .ok (.if_icmp .ge 8, 3) := by decide +kernel
theorem dX10_chunk_288 : decode mX10_chunk.2.2.1 288 = .ok (.ldc 146, 2) := by decide +kernel
theorem dX10_chunk_290 : decode mX10_chunk.2.2.1 290 = .ok (.goto 5, 3) := by decide +kernel
theorem dX10_chunk_293 : decode mX10_chunk.2.2.1 293 = .ok (.ldc 147, 2) := by decide +kernel
theorem dX10_chunk_295 : decode mX10_chunk.2.2.1 295 = .ok (.istore 9, 2) := by decide +kernel
theorem dX10_chunk_297 : decode mX10_chunk.2.2.1 297 = .ok (.iload_n 2, 1) := by decide +kernel
theorem dX10_chunk_298 : decode mX10_chunk.2.2.1 298 = .ok (.iconst 5, 1) := by decide +kernel
theorem dX10_chunk_299 : decode mX10_chunk.2.2.1 299 = .ok (.invokestatic 140, 3) := by decide +kernel
theorem dX10_chunk_302 : decode mX10_chunk.2.2.1 302 = .ok (.iload 8, 2) := by decide +kernel
theorem dX10_chunk_304 : decode mX10_chunk.2.2.1 304 = .ok (.iadd, 1) := by decide +kernel
theorem dX10_chunk_305 : decode mX10_chunk.2.2.1 305 = .ok (.iload 6, 2) := by decide +kernel
theorem dX10_chunk_307 : decode mX10_chunk.2.2.1 307 = .ok (.iadd, 1) := by decide +kernel
theorem dX10_chunk_308 : decode mX10_chunk.2.2.1 308 = .ok (.iload 9, 2) := by decide +kernel
theorem dX10_chunk_310 : decode mX10_chunk.2.2.1 310 = .ok (.iadd, 1) := by decide +kernel
theorem dX10_chunk_311 : decode mX10_chunk.2.2.1 311 = .ok (.aload_n 0, 1) := by decide +kernel
theorem dX10_chunk_312 : decode mX10_chunk.2.2.1 312 = .ok (.getfield 19, 3) := by decide +kernel
theorem dX10_chunk_315 : decode mX10_chunk.2.2.1 315 = .ok (.iload 7, 2) := by decide +kernel
theorem dX10_chunk_317 : decode mX10_chunk.2.2.1 317 = .ok (.iaload, 1) := by decide +kernel
theorem dX10_chunk_318 : decode mX10_chunk.2.2.1 318 = .ok (.iadd, 1) := by decide +kernel
theorem dX10_chunk_319 : decode mX10_chunk.2.2.1 319 = .ok (.istore 10, 2) := by decide +kernel
theorem dX10_chunk_321 : decode mX10_chunk.2.2.1 321 = .ok (.iload 5, 2) := by decide +kernel
theorem dX10_chunk_323 : decode mX10_chunk.2.2.1 323 = .ok (.istore 6, 2) := by decide +kernel
theorem dX10_chunk_325 : decode mX10_chunk.2.2.1 325 = .ok (.iload 4, 2) := by decide +kernel
theorem dX10_chunk_327 : decode mX10_chunk.2.2.1 327 = .ok (.istore 5, 2) := by decide +kernel
theorem dX10_chunk_329 : decode mX10_chunk.2.2.1 329 = .ok (.iload_n 3, 1) := by decide +kernel
theorem dX10_chunk_330 : decode mX10_chunk.2.2.1 330 = .ok (.bipush 30, 2) := by decide +kernel
theorem dX10_chunk_332 : decode mX10_chunk.2.2.1 332 = .ok (.invokestatic 140, 3) := by decide +kernel
theorem dX10_chunk_335 : decode mX10_chunk.2.2.1 335 = .ok (.istore 4, 2) := by decide +kernel
theorem dX10_chunk_337 : decode mX10_chunk.2.2.1 337 = .ok (.iload_n 2, 1) := by decide +kernel
theorem dX10_chunk_338 : decode mX10_chunk.2.2.1 338 = .ok (.istore_n 3, 1) := by decide +kernel
theorem dX10_chunk_339 : decode mX10_chunk.2.2.1 339 = .ok (.iload 10, 2) := by decide +kernel
theorem dX10_chunk_341 : decode mX10_chunk.2.2.1 341 = .ok (.istore_n 2, 1) := by decide +kernel
theorem dX10_chunk_342 : decode mX10_chunk.2.2.1 342 = .ok (.iinc 7 1, 3) := by decide +kernel
theorem dX10_chunk_345 : decode mX10_chunk.2.2.1 345 = .ok (.goto (-157), 3) := by decide +kernel
theorem dX10_chunk_348 : decode mX10_chunk.2.2.1 348 = .ok (.aload_n 0, 1) := by decide +kernel
theorem dX10_chunk_349 : decode mX10_chunk.2.2.1 349 = .ok (.getfield 23, 3) := by decide +kernel
theorem dX10_chunk_352 : decode mX10_chunk.2.2.1 352 = .ok (.iconst 0, 1) := by decide +kernel
theorem dX10_chunk_353 : decode mX10_chunk.2.2.1 353 = .ok (.dup2, 1) := by decide +kernel
theorem dX10_chunk_354 : decode mX10_chunk.2.2.1 354 = .ok (.iaload, 1) := by decide +kernel
theorem dX10_chunk_355 : decode mX10_chunk.2.2.1 355 = .ok (.iload_n 2, 1) := by decide +kernel
theorem dX10_chunk_356 : decode mX10_chunk.2.2.1 356 = .ok (.iadd, 1) := by decide +kernel
theorem dX10_chunk_357 : decode mX10_chunk.2.2.1 357 = .ok (.iastore, 1) := by decide +kernel
theorem dX10_chunk_358 : decode mX10_chunk.2.2.1 358 = .ok (.aload_n 0, 1) := by decide +kernel
theorem dX10_chunk_359 : decode mX10_chunk.2.2.1 359 = .ok (.getfield 23, 3) := by decide +kernel
theorem dX10_chunk_362 : decode mX10_chunk.2.2.1 362 = .ok (.iconst 1, 1) := by decide +kernel
theorem dX10_chunk_363 : decode mX10_chunk.2.2.1 363 = .ok (.dup2, 1) := by decide +kernel
theorem dX10_chunk_364 : decode mX10_chunk.2.2.1 364 = .ok (.iaload, 1) := by decide +kernel
theorem dX10_chunk_365 : decode mX10_chunk.2.2.1 365 = .ok (.iload_n 3, 1) := by decide +kernel
theorem dX10_chunk_366 : decode mX10_chunk.2.2.1 366 = .ok (.iadd, 1) := by decide +kernel
theorem dX10_chunk_367 : decode mX10_chunk.2.2.1 367 = .ok (.iastore, 1) := by decide +kernel
theorem dX10_chunk_368 : decode mX10_chunk.2.2.1 368 = .ok (.aload_n 0, 1) := by decide +kernel
theorem dX10_chunk_369 : decode mX10_chunk.2.2.1 369 = .ok (.getfield 23, 3) := by decide +kernel
theorem dX10_chunk_372 : decode mX10_chunk.2.2.1 372 = .ok (.iconst 2, 1) := by decide +kernel
theorem dX10_chunk_373 : decode mX10_chunk.2.2.1 373 = .ok (.dup2, 1) := by decide +kernel
theorem dX10_chunk_374 : decode mX10_chunk.2.2.1 374 = .ok (.iaload, 1) := by decide +kernel
theorem dX10_chunk_375 : decode mX10_chunk.2.2.1 375 = .ok (.iload 4, 2) := by decide +kernel
theorem dX10_chunk_377 : decode mX10_chunk.2.2.1 377 = .ok (.iadd, 1) := by decide +kernel
theorem dX10_chunk_378 : decode mX10_chunk.2.2.1 378 = .ok (.iastore, 1) := by decide +kernel
theorem dX10_chunk_379 : decode mX10_chunk.2.2.1 379 = .ok (.aload_n 0, 1) := by decide +kernel
theorem dX10_chunk_380 : decode mX10_chunk.2.2.1 380 = .ok (.getfield 23, 3) := by decide +kernel
theorem dX10_chunk_383 : decode mX10_chunk.2.2.1 383 = .ok (.iconst 3, 1) := by decide +kernel
theorem dX10_chunk_384 : decode mX10_chunk.2.2.1 384 = .ok (.dup2, 1) := by decide +kernel
theorem dX10_chunk_385 : decode mX10_chunk.2.2.1 385 = .ok (.iaload, 1) := by decide +kernel
theorem dX10_chunk_386 : decode mX10_chunk.2.2.1 386 = .ok (.iload 5, 2) := by decide +kernel
theorem dX10_chunk_388 : decode mX10_chunk.2.2.1 388 = .ok (.iadd, 1) := by decide +kernel
theorem dX10_chunk_389 : decode mX10_chunk.2.2.1 389 = .ok (.iastore, 1) := by decide +kernel
theorem dX10_chunk_390 : decode mX10_chunk.2.2.1 390 = .ok (.aload_n 0, 1) := by decide +kernel
theorem dX10_chunk_391 : decode mX10_chunk.2.2.1 391 = .ok (.getfield 23, 3) := by decide +kernel
theorem dX10_chunk_394 : decode mX10_chunk.2.2.1 394 = .ok (.iconst 4, 1) := by decide +kernel
theorem dX10_chunk_395 : decode mX10_chunk.2.2.1 395 = .ok (.dup2, 1) := by decide +kernel
theorem dX10_chunk_396 : decode mX10_chunk.2.2.1 396 = .ok (.iaload, 1) := by decide +kernel
theorem dX10_chunk_397 : decode mX10_chunk.2.2.1 397 = .ok (.iload 6, 2) := by decide +kernel
theorem dX10_chunk_399 : decode mX10_chunk.2.2.1 399 = .ok (.iadd, 1) := by decide +kernel
theorem dX10_chunk_400 : decode mX10_chunk.2.2.1 400 = .ok (.iastore, 1) := by decide +kernel
theorem dX10_chunk_401 : decode mX10_chunk.2.2.1 401 = .ok (.return_, 1) := by decide +kernel
theorem dX10_sha_0 : decode mX10_sha.2.2.1 0 = .ok (.aload_n 0, 1) := by decide +kernel
theorem dX10_sha_1 : decode mX10_sha.2.2.1 1 = .ok (.getfield 23, 3) := by decide +kernel
theorem dX10_sha_4 : decode mX10_sha.2.2.1 4 = .ok (.iconst 0, 1) := by decide +kernel
theorem dX10_sha_5 : decode mX10_sha.2.2.1 5 = .ok (.ldc 148, 2) := by decide +kernel
theorem dX10_sha_7 : decode mX10_sha.2.2.1 7 = .ok (.iastore, 1) := by decide +kernel
theorem dX10_sha_8 : decode mX10_sha.2.2.1 8 = .ok (.aload_n 0, 1) := by decide +kernel
theorem dX10_sha_9 : decode mX10_sha.2.2.1 9 = .ok (.getfield 23, 3) := by decide +kernel
theorem dX10_sha_12 : decode mX10_sha.2.2.1 12 = .ok (.iconst 1, 1) := by decide +kernel
theorem dX10_sha_13 : decode mX10_sha.2.2.1 13 = .ok (.ldc 149, 2) := by decide +kernel
theorem dX10_sha_15 : decode mX10_sha.2.2.1 15 = .ok (.iastore, 1) := by decide +kernel
theorem dX10_sha_16 : decode mX10_sha.2.2.1 16 = .ok (.aload_n 0, 1) := by decide +kernel
theorem dX10_sha_17 : decode mX10_sha.2.2.1 17 = .ok (.getfield 23, 3) := by decide +kernel
theorem dX10_sha_20 : decode mX10_sha.2.2.1 20 = .ok (.iconst 2, 1) := by decide +kernel
theorem dX10_sha_21 : decode mX10_sha.2.2.1 21 = .ok (.ldc 150, 2) := by decide +kernel
theorem dX10_sha_23 : decode mX10_sha.2.2.1 23 = .ok (.iastore, 1) := by decide +kernel
theorem dX10_sha_24 : decode mX10_sha.2.2.1 24 = .ok (.aload_n 0, 1) := by decide +kernel
theorem dX10_sha_25 : decode mX10_sha.2.2.1 25 = .ok (.getfield 23, 3) := by decide +kernel
theorem dX10_sha_28 : decode mX10_sha.2.2.1 28 = .ok (.iconst 3, 1) := by decide +kernel
theorem dX10_sha_29 : decode mX10_sha.2.2.1 29 = .ok (.ldc 151, 2) := by decide +kernel
theorem dX10_sha_31 : decode mX10_sha.2.2.1 31 = .ok (.iastore, 1) := by decide +kernel
theorem dX10_sha_32 : decode mX10_sha.2.2.1 32 = .ok (.aload_n 0, 1) := by decide +kernel
theorem dX10_sha_33 : decode mX10_sha.2.2.1 33 = .ok (.getfield 23, 3) := by decide +kernel
theorem dX10_sha_36 : decode mX10_sha.2.2.1 36 = .ok (.iconst 4, 1) := by decide +kernel
theorem dX10_sha_37 : decode mX10_sha.2.2.1 37 = .ok (.ldc 152, 2) := by decide +kernel
theorem dX10_sha_39 : decode mX10_sha.2.2.1 39 = .ok (.iastore, 1) := by decide +kernel
theorem dX10_sha_40 : decode mX10_sha.2.2.1 40 = .ok (.ldc2_w 153, 3) := by decide +kernel
theorem dX10_sha_43 : decode mX10_sha.2.2.1 43 = .ok (.aload_n 0, 1) := by decide +kernel
theorem dX10_sha_44 : decode mX10_sha.2.2.1 44 = .ok (.getfield 137, 3) := by decide +kernel
theorem dX10_sha_47 : decode mX10_sha.2.2.1 47 = .ok (.i2l, 1) := by decide +kernel
theorem dX10_sha_48 : decode mX10_sha.2.2.1 48 = .ok (.lmul, 1) := by decide +kernel
theorem dX10_sha_49 : decode mX10_sha.2.2.1 49 = .ok (.lstore_n 1, 1) := by decide +kernel
theorem dX10_sha_50 : decode mX10_sha.2.2.1 50 = .ok (.aload_n 0, 1) := by decide +kernel
theorem dX10_sha_51 : decode mX10_sha.2.2.1 51 = .ok (.getfield 16, 3) := by decide +kernel
theorem dX10_sha_54 : decode mX10_sha.2.2.1 54 = .ok (.aload_n 0, 1) := by decide +kernel
theorem dX10_sha_55 : decode mX10_sha.2.2.1 55 = .ok (.getfield 137, 3) := by decide +kernel
theorem dX10_sha_58 : decode mX10_sha.2.2.1 58 = .ok (.bipush (-128), 2) := by decide +kernel
theorem dX10_sha_60 : decode mX10_sha.2.2.1 60 = .ok (.bastore, 1) := by decide +kernel
theorem dX10_sha_61 : decode mX10_sha.2.2.1 61 = .ok (.aload_n 0, 1) := by decide +kernel
theorem dX10_sha_62 : decode mX10_sha.2.2.1 62 = .ok (.dup, 1) := by decide +kernel
theorem dX10_sha_63 : decode mX10_sha.2.2.1 63 = .ok (.getfield 137, 3) := by decide +kernel
theorem dX10_sha_66 : decode mX10_sha.2.2.1 66 = .ok (.iconst 1, 1) := by decide +kernel
theorem dX10_sha_67 : decode mX10_sha.2.2.1 67 = .ok (.iadd, 1) := by decide +kernel
theorem dX10_sha_68 : decode mX10_sha.2.2.1 68 = .ok (.putfield 137, 3) := by decide +kernel
theorem dX10_sha_71 : decode mX10_sha.2.2.1 71 = .ok (.aload_n 0, 1) := by decide +kernel
theorem dX10_sha_72 : decode mX10_sha.2.2.1 72 = .ok (.getfield 137, 3) := by decide +kernel
theorem dX10_sha_75 : decode mX10_sha.2.2.1 75 = .ok (.bipush 64, 2) := by decide +kernel
theorem dX10_sha_77 : decode mX10_sha.2.2.1 77 = .ok (.irem, 1) := by decide +kernel
theorem dX10_sha_78 : decode mX10_sha.2.2.1 78 = .ok (.bipush 56, 2) := by decide +kernel
theorem dX10_sha_80 : decode mX10_sha.2.2.1 80 = .ok (.if_icmp .eq 26, 3) := by decide +kernel
theorem dX10_sha_83 : decode mX10_sha.2.2.1 83 = .ok (.aload_n 0, 1) := by decide +kernel
theorem dX10_sha_84 : decode mX10_sha.2.2.1 84 = .ok (.getfield 16, 3) := by decide +kernel
theorem dX10_sha_87 : decode mX10_sha.2.2.1 87 = .ok (.aload_n 0, 1) := by decide +kernel
theorem dX10_sha_88 : decode mX10_sha.2.2.1 88 = .ok (.getfield 137, 3) := by decide +kernel
theorem dX10_sha_91 : decode mX10_sha.2.2.1 91 = .ok (.iconst 0, 1) := by decide +kernel
theorem dX10_sha_92 : decode mX10_sha.2.2.1 92 = .ok (.bastore, 1) := by decide +kernel
theorem dX10_sha_93 : decode mX10_sha.2.2.1 93 = .ok (.aload_n 0, 1) := by decide +kernel
theorem dX10_sha_94 : decode mX10_sha.2.2.1 94 = .ok (.dup, 1) := by decide +kernel
theorem dX10_sha_95 : decode mX10_sha.2.2.1 95 = .ok (.getfield 137, 3) := by decide +kernel
theorem dX10_sha_98 : decode mX10_sha.2.2.1 98 = .ok (.iconst 1, 1) := by decide +kernel
theorem dX10_sha_99 : decode mX10_sha.2.2.1 99 = .ok (.iadd, 1) := by decide +kernel
theorem dX10_sha_100 : decode mX10_sha.2.2.1 100 = .ok (.putfield 137, 3) := by decide +kernel
theorem dX10_sha_103 : decode mX10_sha.2.2.1 103 = .ok (.goto (-32), 3) := by decide +kernel
theorem dX10_sha_106 : decode mX10_sha.2.2.1 106 = .ok (.bipush 7, 2) := by decide +kernel
theorem dX10_sha_108 : decode mX10_sha.2.2.1 108 = .ok (.istore_n 3, 1) := by decide +kernel
theorem dX10_sha_109 : decode mX10_sha.2.2.1 109 = .ok (.iload_n 3, 1) := by decide +kernel
theorem dX10_sha_110 : decode mX10_sha.2.2.1 110 = .ok (.ifCond .lt 36, 3) := by decide +kernel
theorem dX10_sha_113 : decode mX10_sha.2.2.1 113 = .ok (.aload_n 0, 1) := by decide +kernel
theorem dX10_sha_114 : decode mX10_sha.2.2.1 114 = .ok (.getfield 16, 3) := by decide +kernel
theorem dX10_sha_117 : decode mX10_sha.2.2.1 117 = .ok (.aload_n 0, 1) := by decide +kernel
theorem dX10_sha_118 : decode mX10_sha.2.2.1 118 = .ok (.getfield 137, 3) := by decide +kernel
theorem dX10_sha_121 : decode mX10_sha.2.2.1 121 = .ok (.lload_n 1, 1) := by decide +kernel
theorem dX10_sha_122 : decode mX10_sha.2.2.1 122 = .ok (.bipush 8, 2) := by decide +kernel
theorem dX10_sha_124 : decode mX10_sha.2.2.1 124 = .ok (.iload_n 3, 1) := by decide +kernel
theorem dX10_sha_125 : decode mX10_sha.2.2.1 125 = .ok (.imul, 1) := by decide +kernel
theorem dX10_sha_126 : decode mX10_sha.2.2.1 126 = .ok (.lshr, 1) := by decide +kernel
theorem dX10_sha_127 : decode mX10_sha.2.2.1 127 = .ok (.l2i, 1) := by decide +kernel
theorem dX10_sha_128 : decode mX10_sha.2.2.1 128 = .ok (.i2b, 1) := by decide +kernel
theorem dX10_sha_129 : decode mX10_sha.2.2.1 129 = .ok (.bastore, 1) := by decide +kernel
theorem dX10_sha_130 : decode mX10_sha.2.2.1 130 = .ok (.aload_n 0, 1) := by decide +kernel
theorem dX10_sha_131 : decode mX10_sha.2.2.1 131 = .ok (.dup, 1) := by decide +kernel
theorem dX10_sha_132 : decode mX10_sha.2.2.1 132 = .ok (.getfield 137, 3) := by decide +kernel
theorem dX10_sha_135 : decode mX10_sha.2.2.1 135 = .ok (.iconst 1, 1) := by decide +kernel
theorem dX10_sha_136 : decode mX10_sha.2.2.1 136 = .ok (.iadd, 1) := by decide +kernel
theorem dX10_sha_137 : decode mX10_sha.2.2.1 137 = .ok (.putfield 137, 3) := by decide +kernel
theorem dX10_sha_140 : decode mX10_sha.2.2.1 140 = .ok (.iinc 3 (-1), 3) := by decide +kernel
theorem dX10_sha_143 : decode mX10_sha.2.2.1 143 = .ok (.goto (-34), 3) := by decide +kernel
theorem dX10_sha_146 : decode mX10_sha.2.2.1 146 = .ok (.iconst 0, 1) := by decide +kernel
theorem dX10_sha_147 : decode mX10_sha.2.2.1 147 = .ok (.istore_n 3, 1) := by decide +kernel
theorem dX10_sha_148 : decode mX10_sha.2.2.1 148 = .ok (.iload_n 3, 1) := by decide +kernel
theorem dX10_sha_149 : decode mX10_sha.2.2.1 149 = .ok (.aload_n 0, 1) := by decide +kernel
theorem dX10_sha_150 : decode mX10_sha.2.2.1 150 = .ok (.getfield 137, 3) := by decide +kernel
theorem dX10_sha_153 : decode mX10_sha.2.2.1 153 = .ok (.if_icmp .ge 14, 3) := by decide +kernel
theorem dX10_sha_156 : decode mX10_sha.2.2.1 156 = .ok (.aload_n 0, 1) := by decide +kernel
theorem dX10_sha_157 : decode mX10_sha.2.2.1 157 = .ok (.iload_n 3, 1) := by decide +kernel
theorem dX10_sha_158 : decode mX10_sha.2.2.1 158 = .ok (.invokevirtual 155, 3) := by decide +kernel
theorem dX10_sha_161 : decode mX10_sha.2.2.1 161 = .ok (.iinc 3 64, 3) := by decide +kernel
theorem dX10_sha_164 : decode mX10_sha.2.2.1 164 = .ok (.goto (-16), 3) := by decide +kernel
theorem dX10_sha_167 : decode mX10_sha.2.2.1 167 = .ok (.iconst 0, 1) := by decide +kernel
theorem dX10_sha_168 : decode mX10_sha.2.2.1 168 = .ok (.istore_n 3, 1) := by decide +kernel
theorem dX10_sha_169 : decode mX10_sha.2.2.1 169 = .ok (.iload_n 3, 1) := by decide +kernel
theorem dX10_sha_170 : decode mX10_sha.2.2.1 170 = .ok (.bipush 20, 2) := by decide +kernel
theorem dX10_sha_172 : decode mX10_sha.2.2.1 172 = .ok (.if_icmp .ge 34, 3) := by decide +kernel
theorem dX10_sha_175 : decode mX10_sha.2.2.1 175 = .ok (.aload_n 0, 1) := by decide +kernel
theorem dX10_sha_176 : decode mX10_sha.2.2.1 176 = .ok (.getfield 26, 3) := by decide +kernel
theorem dX10_sha_179 : decode mX10_sha.2.2.1 179 = .ok (.iload_n 3, 1) := by decide +kernel
theorem dX10_sha_180 : decode mX10_sha.2.2.1 180 = .ok (.aload_n 0, 1) := by decide +kernel
theorem dX10_sha_181 : decode mX10_sha.2.2.1 181 = .ok (.getfield 23, 3) := by decide +kernel
theorem dX10_sha_184 : decode mX10_sha.2.2.1 184 = .ok (.iload_n 3, 1) := by decide +kernel
theorem dX10_sha_185 : decode mX10_sha.2.2.1 185 = .ok (.iconst 4, 1) := by decide +kernel
theorem dX10_sha_186 : decode mX10_sha.2.2.1 186 = .ok (.idiv, 1) := by decide +kernel
theorem dX10_sha_187 : decode mX10_sha.2.2.1 187 = .ok (.iaload, 1) := by decide +kernel
theorem dX10_sha_188 : decode mX10_sha.2.2.1 188 = .ok (.bipush 24, 2) := by decide +kernel
theorem dX10_sha_190 : decode mX10_sha.2.2.1 190 = .ok (.bipush 8, 2) := by decide +kernel
theorem dX10_sha_192 : decode mX10_sha.2.2.1 192 = .ok (.iload_n 3, 1) := by decide +kernel
theorem dX10_sha_193 : decode mX10_sha.2.2.1 193 = .ok (.iconst 4, 1) := by decide +kernel
theorem dX10_sha_194 : decode mX10_sha.2.2.1 194 = .ok (.irem, 1) := by decide +kernel
theorem dX10_sha_195 : decode mX10_sha.2.2.1 195 = .ok (.imul, 1) := by decide +kernel
theorem dX10_sha_196 : decode mX10_sha.2.2.1 196 = .ok (.isub, 1) := by decide +kernel
theorem dX10_sha_197 : decode mX10_sha.2.2.1 197 = .ok (.ishr, 1) := by decide +kernel
theorem dX10_sha_198 : decode mX10_sha.2.2.1 198 = .ok (.i2b, 1) := by decide +kernel
theorem dX10_sha_199 : decode mX10_sha.2.2.1 199 = .ok (.bastore, 1) := by decide +kernel
theorem dX10_sha_200 : decode mX10_sha.2.2.1 200 = .ok (.iinc 3 1, 3) := by decide +kernel
theorem dX10_sha_203 : decode mX10_sha.2.2.1 203 = .ok (.goto (-34), 3) := by decide +kernel
theorem dX10_sha_206 : decode mX10_sha.2.2.1 206 = .ok (.return_, 1) := by decide +kernel
theorem dX10_digest_0 : decode mX10_digest.2.2.1 0 = .ok (.aload_n 0, 1) := by decide +kernel
theorem dX10_digest_1 : decode mX10_digest.2.2.1 1 = .ok (.invokevirtual 159, 3) := by decide +kernel
theorem dX10_digest_4 : decode mX10_digest.2.2.1 4 = .ok (.istore_n 1, 1) := by decide +kernel
theorem dX10_digest_5 : decode mX10_digest.2.2.1 5 = .ok (.iconst 0, 1) := by decide +kernel
theorem dX10_digest_6 : decode mX10_digest.2.2.1 6 = .ok (.istore_n 2, 1) := by decide +kernel
theorem dX10_digest_7 : decode mX10_digest.2.2.1 7 = .ok (.iload_n 2, 1) := by decide +kernel
theorem dX10_digest_8 : decode mX10_digest.2.2.1 8 = .ok (.iload_n 1, 1) := by decide +kernel
theorem dX10_digest_9 : decode mX10_digest.2.2.1 9 = .ok (.if_icmp .ge 21, 3) := by decide +kernel
theorem dX10_digest_12 : decode mX10_digest.2.2.1 12 = .ok (.aload_n 0, 1) := by decide +kernel
theorem dX10_digest_13 : decode mX10_digest.2.2.1 13 = .ok (.getfield 16, 3) := by decide +kernel
theorem dX10_digest_16 : decode mX10_digest.2.2.1 16 = .ok (.iload_n 2, 1) := by decide +kernel
theorem dX10_digest_17 : decode mX10_digest.2.2.1 17 = .ok (.aload_n 0, 1) := by decide +kernel
theorem dX10_digest_18 : decode mX10_digest.2.2.1 18 = .ok (.getfield 7, 3) := by decide +kernel
theorem dX10_digest_21 : decode mX10_digest.2.2.1 21 = .ok (.iload_n 2, 1) := by decide +kernel
theorem dX10_digest_22 : decode mX10_digest.2.2.1 22 = .ok (.baload, 1) := by decide +kernel
theorem dX10_digest_23 : decode mX10_digest.2.2.1 23 = .ok (.bastore, 1) := by decide +kernel
theorem dX10_digest_24 : decode mX10_digest.2.2.1 24 = .ok (.iinc 2 1, 3) := by decide +kernel
theorem dX10_digest_27 : decode mX10_digest.2.2.1 27 = .ok (.goto (-20), 3) := by decide +kernel
theorem dX10_digest_30 : decode mX10_digest.2.2.1 30 = .ok (.aload_n 0, 1) := by decide +kernel
theorem dX10_digest_31 : decode mX10_digest.2.2.1 31 = .ok (.iload_n 1, 1) := by decide +kernel
theorem dX10_digest_32 : decode mX10_digest.2.2.1 32 = .ok (.invokevirtual 163, 3) := by decide +kernel
theorem dX10_digest_35 : decode mX10_digest.2.2.1 35 = .ok (.aload_n 0, 1) := by decide +kernel
theorem dX10_digest_36 : decode mX10_digest.2.2.1 36 = .ok (.invokevirtual 166, 3) := by decide +kernel
theorem dX10_digest_39 : decode mX10_digest.2.2.1 39 = .ok (.iconst 0, 1) := by decide +kernel
theorem dX10_digest_40 : decode mX10_digest.2.2.1 40 = .ok (.istore_n 2, 1) := by decide +kernel
theorem dX10_digest_41 : decode mX10_digest.2.2.1 41 = .ok (.iload_n 2, 1) := by decide +kernel
theorem dX10_digest_42 : decode mX10_digest.2.2.1 42 = .ok (.bipush 20, 2) := by decide +kernel
theorem dX10_digest_44 : decode mX10_digest.2.2.1 44 = .ok (.if_icmp .ge 21, 3) := by decide +kernel
theorem dX10_digest_47 : decode mX10_digest.2.2.1 47 = .ok (.aload_n 0, 1) := by decide +kernel
theorem dX10_digest_48 : decode mX10_digest.2.2.1 48 = .ok (.getfield 13, 3) := by decide +kernel
theorem dX10_digest_51 : decode mX10_digest.2.2.1 51 = .ok (.iload_n 2, 1) := by decide +kernel
theorem dX10_digest_52 : decode mX10_digest.2.2.1 52 = .ok (.aload_n 0, 1) := by decide +kernel
theorem dX10_digest_53 : decode mX10_digest.2.2.1 53 = .ok (.getfield 26, 3) := by decide +kernel
theorem dX10_digest_56 : decode mX10_digest.2.2.1 56 = .ok (.iload_n 2, 1) := by decide +kernel
theorem dX10_digest_57 : decode mX10_digest.2.2.1 57 = .ok (.baload, 1) := by decide +kernel
theorem dX10_digest_58 : decode mX10_digest.2.2.1 58 = .ok (.bastore, 1) := by decide +kernel
theorem dX10_digest_59 : decode mX10_digest.2.2.1 59 = .ok (.iinc 2 1, 3) := by decide +kernel
theorem dX10_digest_62 : decode mX10_digest.2.2.1 62 = .ok (.goto (-21), 3) := by decide +kernel
theorem dX10_digest_65 : decode mX10_digest.2.2.1 65 = .ok (.aload_n 0, 1) := by decide +kernel
theorem dX10_digest_66 : decode mX10_digest.2.2.1 66 = .ok (.bipush 20, 2) := by decide +kernel
theorem dX10_digest_68 : decode mX10_digest.2.2.1 68 = .ok (.putfield 134, 3) := by decide +kernel
theorem dX10_digest_71 : decode mX10_digest.2.2.1 71 = .ok (.bipush 20, 2) := by decide +kernel
theorem dX10_digest_73 : decode mX10_digest.2.2.1 73 = .ok (.ireturn, 1) := by decide +kernel
theorem dX10_byteAt_0 : decode mX10_byteAt.2.2.1 0 = .ok (.iload_n 1, 1) := by decide +kernel
theorem dX10_byteAt_1 : decode mX10_byteAt.2.2.1 1 = .ok (.aload_n 0, 1) := by decide +kernel
theorem dX10_byteAt_2 : decode mX10_byteAt.2.2.1 2 = .ok (.getfield 169, 3) := by decide +kernel
theorem dX10_byteAt_5 : decode mX10_byteAt.2.2.1 5 = .ok (.if_icmp .ge 16, 3) := by decide +kernel
theorem dX10_byteAt_8 : decode mX10_byteAt.2.2.1 8 = .ok (.aload_n 0, 1) := by decide +kernel
theorem dX10_byteAt_9 : decode mX10_byteAt.2.2.1 9 = .ok (.getfield 7, 3) := by decide +kernel
theorem dX10_byteAt_12 : decode mX10_byteAt.2.2.1 12 = .ok (.iload_n 1, 1) := by decide +kernel
theorem dX10_byteAt_13 : decode mX10_byteAt.2.2.1 13 = .ok (.baload, 1) := by decide +kernel
theorem dX10_byteAt_14 : decode mX10_byteAt.2.2.1 14 = .ok (.sipush 255, 3) := by decide +kernel
theorem dX10_byteAt_17 : decode mX10_byteAt.2.2.1 17 = .ok (.iand, 1) := by decide +kernel
theorem dX10_byteAt_18 : decode mX10_byteAt.2.2.1 18 = .ok (.goto 4, 3) := by decide +kernel
theorem dX10_byteAt_21 : decode mX10_byteAt.2.2.1 21 = .ok (.iconst (-1), 1) := by decide +kernel
theorem dX10_byteAt_22 : decode mX10_byteAt.2.2.1 22 = .ok (.ireturn, 1) := by decide +kernel
theorem dX10_isDigit_0 : decode mX10_isDigit.2.2.1 0 = .ok (.iload_n 0, 1) := by decide +kernel
theorem dX10_isDigit_1 : decode mX10_isDigit.2.2.1 1 = .ok (.bipush 48, 2) := by decide +kernel
theorem dX10_isDigit_3 : decode mX10_isDigit.2.2.1 3 = .ok (.if_icmp .lt 13, 3) := by decide +kernel
theorem dX10_isDigit_6 : decode mX10_isDigit.2.2.1 6 = .ok (.iload_n 0, 1) := by decide +kernel
theorem dX10_isDigit_7 : decode mX10_isDigit.2.2.1 7 = .ok (.bipush 57, 2) := by decide +kernel
theorem dX10_isDigit_9 : decode mX10_isDigit.2.2.1 9 = .ok (.if_icmp .gt 7, 3) := by decide +kernel
theorem dX10_isDigit_12 : decode mX10_isDigit.2.2.1 12 = .ok (.iconst 1, 1) := by decide +kernel
theorem dX10_isDigit_13 : decode mX10_isDigit.2.2.1 13 = .ok (.goto 4, 3) := by decide +kernel
theorem dX10_isDigit_16 : decode mX10_isDigit.2.2.1 16 = .ok (.iconst 0, 1) := by decide +kernel
theorem dX10_isDigit_17 : decode mX10_isDigit.2.2.1 17 = .ok (.ireturn, 1) := by decide +kernel
theorem dX10_digits_0 : decode mX10_digits.2.2.1 0 = .ok (.iload_n 1, 1) := by decide +kernel
theorem dX10_digits_1 : decode mX10_digits.2.2.1 1 = .ok (.istore 4, 2) := by decide +kernel
theorem dX10_digits_3 : decode mX10_digits.2.2.1 3 = .ok (.aload_n 0, 1) := by decide +kernel
theorem dX10_digits_4 : decode mX10_digits.2.2.1 4 = .ok (.iload 4, 2) := by decide +kernel
theorem dX10_digits_6 : decode mX10_digits.2.2.1 6 = .ok (.invokevirtual 172, 3) := by decide +kernel
theorem dX10_digits_9 : decode mX10_digits.2.2.1 9 = .ok (.invokestatic 176, 3) := by decide +kernel
theorem dX10_digits_12 : decode mX10_digits.2.2.1 12 = .ok (.ifCond .ne 11, 3) := by decide +kernel
theorem dX10_digits_15 : decode mX10_digits.2.2.1 15 = .ok (.aload_n 0, 1) := by decide +kernel
theorem dX10_digits_16 : decode mX10_digits.2.2.1 16 = .ok (.iload 4, 2) := by decide +kernel
theorem dX10_digits_18 : decode mX10_digits.2.2.1 18 = .ok (.putfield 180, 3) := by decide +kernel
theorem dX10_digits_21 : decode mX10_digits.2.2.1 21 = .ok (.iconst (-1), 1) := by decide +kernel
theorem dX10_digits_22 : decode mX10_digits.2.2.1 22 = .ok (.ireturn, 1) := by decide +kernel
theorem dX10_digits_23 : decode mX10_digits.2.2.1 23 = .ok (.aload_n 0, 1) := by decide +kernel
theorem dX10_digits_24 : decode mX10_digits.2.2.1 24 = .ok (.iload 4, 2) := by decide +kernel
theorem dX10_digits_26 : decode mX10_digits.2.2.1 26 = .ok (.invokevirtual 172, 3) := by decide +kernel
theorem dX10_digits_29 : decode mX10_digits.2.2.1 29 = .ok (.bipush 48, 2) := by decide +kernel
theorem dX10_digits_31 : decode mX10_digits.2.2.1 31 = .ok (.if_icmp .ne 9, 3) := by decide +kernel
theorem dX10_digits_34 : decode mX10_digits.2.2.1 34 = .ok (.iinc 4 1, 3) := by decide +kernel
theorem dX10_digits_37 : decode mX10_digits.2.2.1 37 = .ok (.goto 29, 3) := by decide +kernel
theorem dX10_digits_40 : decode mX10_digits.2.2.1 40 = .ok (.aload_n 0, 1) := by decide +kernel
theorem dX10_digits_41 : decode mX10_digits.2.2.1 41 = .ok (.iload 4, 2) := by decide +kernel
theorem dX10_digits_43 : decode mX10_digits.2.2.1 43 = .ok (.invokevirtual 172, 3) := by decide +kernel
theorem dX10_digits_46 : decode mX10_digits.2.2.1 46 = .ok (.invokestatic 176, 3) := by decide +kernel
theorem dX10_digits_49 : decode mX10_digits.2.2.1 49 = .ok (.ifCond .eq 17, 3) := by decide +kernel
theorem dX10_digits_52 : decode mX10_digits.2.2.1 52 = .ok (.iload 4, 2) := by decide +kernel
theorem dX10_digits_54 : decode mX10_digits.2.2.1 54 = .ok (.iload_n 1, 1) := by decide +kernel
theorem dX10_digits_55 : decode mX10_digits.2.2.1 55 = .ok (.isub, 1) := by decide +kernel
theorem dX10_digits_56 : decode mX10_digits.2.2.1 56 = .ok (.iload_n 2, 1) := by decide +kernel
theorem dX10_digits_57 : decode mX10_digits.2.2.1 57 = .ok (.if_icmp .ge 9, 3) := by decide +kernel
theorem dX10_digits_60 : decode mX10_digits.2.2.1 60 = .ok (.iinc 4 1, 3) := by decide +kernel
theorem dX10_digits_63 : decode mX10_digits.2.2.1 63 = .ok (.goto (-23), 3) := by decide +kernel
theorem dX10_digits_66 : decode mX10_digits.2.2.1 66 = .ok (.aload_n 0, 1) := by decide +kernel
theorem dX10_digits_67 : decode mX10_digits.2.2.1 67 = .ok (.iload 4, 2) := by decide +kernel
theorem dX10_digits_69 : decode mX10_digits.2.2.1 69 = .ok (.invokevirtual 172, 3) := by decide +kernel
theorem dX10_digits_72 : decode mX10_digits.2.2.1 72 = .ok (.iload_n 3, 1) := by decide +kernel
theorem dX10_digits_73 : decode mX10_digits.2.2.1 73 = .ok (.if_icmp .eq 11, 3) := by decide +kernel
theorem dX10_digits_76 : decode mX10_digits.2.2.1 76 = .ok (.aload_n 0, 1) := by decide +kernel
theorem dX10_digits_77 : decode mX10_digits.2.2.1 77 = .ok (.iload 4, 2) := by decide +kernel
theorem dX10_digits_79 : decode mX10_digits.2.2.1 79 = .ok (.putfield 180, 3) := by decide +kernel
theorem dX10_digits_82 : decode mX10_digits.2.2.1 82 = .ok (.iconst (-1), 1) := by decide +kernel
theorem dX10_digits_83 : decode mX10_digits.2.2.1 83 = .ok (.ireturn, 1) := by decide +kernel
theorem dX10_digits_84 : decode mX10_digits.2.2.1 84 = .ok (.iload 4, 2) := by decide +kernel
theorem dX10_digits_86 : decode mX10_digits.2.2.1 86 = .ok (.ireturn, 1) := by decide +kernel
theorem dX10_valueOf_0 : decode mX10_valueOf.2.2.1 0 = .ok (.iconst 0, 1) := by decide +kernel
theorem dX10_valueOf_1 : decode mX10_valueOf.2.2.1 1 = .ok (.istore_n 3, 1) := by decide +kernel
theorem dX10_valueOf_2 : decode mX10_valueOf.2.2.1 2 = .ok (.iload_n 1, 1) := by decide +kernel
theorem dX10_valueOf_3 : decode mX10_valueOf.2.2.1 3 = .ok (.istore 4, 2) := by decide +kernel
theorem dX10_valueOf_5 : decode mX10_valueOf.2.2.1 5 = .ok (.iload 4, 2) := by decide +kernel
theorem dX10_valueOf_7 : decode mX10_valueOf.2.2.1 7 = .ok (.iload_n 2, 1) := by decide +kernel
theorem dX10_valueOf_8 : decode mX10_valueOf.2.2.1 8 = .ok (.if_icmp .ge 25, 3) := by decide +kernel
theorem dX10_valueOf_11 : decode mX10_valueOf.2.2.1 11 = .ok (.bipush 10, 2) := by decide +kernel
theorem dX10_valueOf_13 : decode mX10_valueOf.2.2.1 13 = .ok (.iload_n 3, 1) := by decide +kernel
theorem dX10_valueOf_14 : decode mX10_valueOf.2.2.1 14 = .ok (.imul, 1) := by decide +kernel
theorem dX10_valueOf_15 : decode mX10_valueOf.2.2.1 15 = .ok (.aload_n 0, 1) := by decide +kernel
theorem dX10_valueOf_16 : decode mX10_valueOf.2.2.1 16 = .ok (.getfield 7, 3) := by decide +kernel
theorem dX10_valueOf_19 : decode mX10_valueOf.2.2.1 19 = .ok (.iload 4, 2) := by decide +kernel
theorem dX10_valueOf_21 : decode mX10_valueOf.2.2.1 21 = .ok (.baload, 1) := by decide +kernel
theorem dX10_valueOf_22 : decode mX10_valueOf.2.2.1 22 = .ok (.iadd, 1) := by decide +kernel
theorem dX10_valueOf_23 : decode mX10_valueOf.2.2.1 23 = .ok (.bipush 48, 2) := by decide +kernel
theorem dX10_valueOf_25 : decode mX10_valueOf.2.2.1 25 = .ok (.isub, 1) := by decide +kernel
theorem dX10_valueOf_26 : decode mX10_valueOf.2.2.1 26 = .ok (.istore_n 3, 1) := by decide +kernel
theorem dX10_valueOf_27 : decode mX10_valueOf.2.2.1 27 = .ok (.iinc 4 1, 3) := by decide +kernel
theorem dX10_valueOf_30 : decode mX10_valueOf.2.2.1 30 = .ok (.goto (-25), 3) := by decide +kernel
theorem dX10_valueOf_33 : decode mX10_valueOf.2.2.1 33 = .ok (.iload_n 3, 1) := by decide +kernel
theorem dX10_valueOf_34 : decode mX10_valueOf.2.2.1 34 = .ok (.ireturn, 1) := by decide +kernel
theorem dX10_number_0 : decode mX10_number.2.2.1 0 = .ok (.iload_n 1, 1) := by decide +kernel
theorem dX10_number_1 : decode mX10_number.2.2.1 1 = .ok (.iconst 1, 1) := by decide +kernel
theorem dX10_number_2 : decode mX10_number.2.2.1 2 = .ok (.iadd, 1) := by decide +kernel
theorem dX10_number_3 : decode mX10_number.2.2.1 3 = .ok (.istore_n 2, 1) := by decide +kernel
theorem dX10_number_4 : decode mX10_number.2.2.1 4 = .ok (.aload_n 0, 1) := by decide +kernel
theorem dX10_number_5 : decode mX10_number.2.2.1 5 = .ok (.iload_n 2, 1) := by decide +kernel
theorem dX10_number_6 : decode mX10_number.2.2.1 6 = .ok (.invokevirtual 172, 3) := by decide +kernel
theorem dX10_number_9 : decode mX10_number.2.2.1 9 = .ok (.bipush 45, 2) := by decide +kernel
theorem dX10_number_11 : decode mX10_number.2.2.1 11 = .ok (.if_icmp .ne 23, 3) := by decide +kernel
theorem dX10_number_14 : decode mX10_number.2.2.1 14 = .ok (.iinc 2 1, 3) := by decide +kernel
theorem dX10_number_17 : decode mX10_number.2.2.1 17 = .ok (.aload_n 0, 1) := by decide +kernel
theorem dX10_number_18 : decode mX10_number.2.2.1 18 = .ok (.iload_n 2, 1) := by decide +kernel
theorem dX10_number_19 : decode mX10_number.2.2.1 19 = .ok (.invokevirtual 172, 3) := by decide +kernel
theorem dX10_number_22 : decode mX10_number.2.2.1 22 = .ok (.bipush 48, 2) := by decide +kernel
theorem dX10_number_24 : decode mX10_number.2.2.1 24 = .ok (.if_icmp .ne 10, 3) := by decide +kernel
theorem dX10_number_27 : decode mX10_number.2.2.1 27 = .ok (.aload_n 0, 1) := by decide +kernel
theorem dX10_number_28 : decode mX10_number.2.2.1 28 = .ok (.iload_n 2, 1) := by decide +kernel
theorem dX10_number_29 : decode mX10_number.2.2.1 29 = .ok (.putfield 180, 3) := by decide +kernel
theorem dX10_number_32 : decode mX10_number.2.2.1 32 = .ok (.iconst (-1), 1) := by decide +kernel
theorem dX10_number_33 : decode mX10_number.2.2.1 33 = .ok (.ireturn, 1) := by decide +kernel
theorem dX10_number_34 : decode mX10_number.2.2.1 34 = .ok (.aload_n 0, 1) := by decide +kernel
theorem dX10_number_35 : decode mX10_number.2.2.1 35 = .ok (.iload_n 2, 1) := by decide +kernel
theorem dX10_number_36 : decode mX10_number.2.2.1 36 = .ok (.bipush 9, 2) := by decide +kernel
theorem dX10_number_38 : decode mX10_number.2.2.1 38 = .ok (.bipush 101, 2) := by decide +kernel
theorem dX10_number_40 : decode mX10_number.2.2.1 40 = .ok (.invokevirtual 183, 3) := by decide +kernel
theorem dX10_number_43 : decode mX10_number.2.2.1 43 = .ok (.istore_n 3, 1) := by decide +kernel
theorem dX10_number_44 : decode mX10_number.2.2.1 44 = .ok (.iload_n 3, 1) := by decide +kernel
theorem dX10_number_45 : decode mX10_number.2.2.1 45 = .ok (.ifCond .ge 7, 3) := by decide +kernel
theorem dX10_number_48 : decode mX10_number.2.2.1 48 = .ok (.iconst (-1), 1) := by decide +kernel
theorem dX10_number_49 : decode mX10_number.2.2.1 49 = .ok (.goto 6, 3) := by decide +kernel
theorem dX10_number_52 : decode mX10_number.2.2.1 52 = .ok (.iload_n 3, 1) := by decide +kernel
theorem dX10_number_53 : decode mX10_number.2.2.1 53 = .ok (.iconst 1, 1) := by decide +kernel
theorem dX10_number_54 : decode mX10_number.2.2.1 54 = .ok (.iadd, 1) := by decide +kernel
theorem dX10_number_55 : decode mX10_number.2.2.1 55 = .ok (.ireturn, 1) := by decide +kernel
theorem dX10_string_0 : decode mX10_string.2.2.1 0 = .ok (.aload_n 0, 1) := by decide +kernel
theorem dX10_string_1 : decode mX10_string.2.2.1 1 = .ok (.iload_n 1, 1) := by decide +kernel
theorem dX10_string_2 : decode mX10_string.2.2.1 2 = .ok (.iconst 4, 1) := by decide +kernel
theorem dX10_string_3 : decode mX10_string.2.2.1 3 = .ok (.bipush 58, 2) := by decide +kernel
theorem dX10_string_5 : decode mX10_string.2.2.1 5 = .ok (.invokevirtual 183, 3) := by decide +kernel
theorem dX10_string_8 : decode mX10_string.2.2.1 8 = .ok (.istore_n 2, 1) := by decide +kernel
theorem dX10_string_9 : decode mX10_string.2.2.1 9 = .ok (.iload_n 2, 1) := by decide +kernel
theorem dX10_string_10 : decode mX10_string.2.2.1 10 = .ok (.ifCond .ge 5, 3) := by decide +kernel
theorem dX10_string_13 : decode mX10_string.2.2.1 13 = .ok (.iconst (-1), 1) := by decide +kernel
theorem dX10_string_14 : decode mX10_string.2.2.1 14 = .ok (.ireturn, 1) := by decide +kernel
theorem dX10_string_15 : decode mX10_string.2.2.1 15 = .ok (.aload_n 0, 1) := by decide +kernel
theorem dX10_string_16 : decode mX10_string.2.2.1 16 = .ok (.iload_n 1, 1) := by decide +kernel
theorem dX10_string_17 : decode mX10_string.2.2.1 17 = .ok (.iload_n 2, 1) := by decide +kernel
theorem dX10_string_18 : decode mX10_string.2.2.1 18 = .ok (.invokevirtual 187, 3) := by decide +kernel
theorem dX10_string_21 : decode mX10_string.2.2.1 21 = .ok (.istore_n 3, 1) := by decide +kernel
theorem dX10_string_22 : decode mX10_string.2.2.1 22 = .ok (.iload_n 2, 1) := by decide +kernel
theorem dX10_string_23 : decode mX10_string.2.2.1 23 = .ok (.iconst 1, 1) := by decide +kernel
theorem dX10_string_24 : decode mX10_string.2.2.1 24 = .ok (.iadd, 1) := by decide +kernel
theorem dX10_string_25 : decode mX10_string.2.2.1 25 = .ok (.iload_n 3, 1) := by decide +kernel
theorem dX10_string_26 : decode mX10_string.2.2.1 26 = .ok (.iadd, 1) := by decide +kernel
theorem dX10_string_27 : decode mX10_string.2.2.1 27 = .ok (.aload_n 0, 1) := by decide +kernel
theorem dX10_string_28 : decode mX10_string.2.2.1 28 = .ok (.getfield 169, 3) := by decide +kernel
theorem dX10_string_31 : decode mX10_string.2.2.1 31 = .ok (.if_icmp .le 10, 3) := by decide +kernel
theorem dX10_string_34 : decode mX10_string.2.2.1 34 = .ok (.aload_n 0, 1) := by decide +kernel
theorem dX10_string_35 : decode mX10_string.2.2.1 35 = .ok (.iload_n 1, 1) := by decide +kernel
theorem dX10_string_36 : decode mX10_string.2.2.1 36 = .ok (.putfield 180, 3) := by decide +kernel
theorem dX10_string_39 : decode mX10_string.2.2.1 39 = .ok (.iconst (-1), 1) := by decide +kernel
theorem dX10_string_40 : decode mX10_string.2.2.1 40 = .ok (.ireturn, 1) := by decide +kernel
theorem dX10_string_41 : decode mX10_string.2.2.1 41 = .ok (.iload_n 2, 1) := by decide +kernel
theorem dX10_string_42 : decode mX10_string.2.2.1 42 = .ok (.iconst 1, 1) := by decide +kernel
theorem dX10_string_43 : decode mX10_string.2.2.1 43 = .ok (.iadd, 1) := by decide +kernel
theorem dX10_string_44 : decode mX10_string.2.2.1 44 = .ok (.iload_n 3, 1) := by decide +kernel
theorem dX10_string_45 : decode mX10_string.2.2.1 45 = .ok (.iadd, 1) := by decide +kernel
theorem dX10_string_46 : decode mX10_string.2.2.1 46 = .ok (.ireturn, 1) := by decide +kernel
theorem dX10_textAt_0 : decode mX10_textAt.2.2.1 0 = .ok (.iload_n 1, 1) := by decide +kernel
theorem dX10_textAt_1 : decode mX10_textAt.2.2.1 1 = .ok (.istore_n 2, 1) := by decide +kernel
theorem dX10_textAt_2 : decode mX10_textAt.2.2.1 2 = .ok (.aload_n 0, 1) := by decide +kernel
theorem dX10_textAt_3 : decode mX10_textAt.2.2.1 3 = .ok (.getfield 7, 3) := by decide +kernel
theorem dX10_textAt_6 : decode mX10_textAt.2.2.1 6 = .ok (.iload_n 2, 1) := by decide +kernel
theorem dX10_textAt_7 : decode mX10_textAt.2.2.1 7 = .ok (.baload, 1) := by decide +kernel
theorem dX10_textAt_8 : decode mX10_textAt.2.2.1 8 = .ok (.bipush 58, 2) := by decide +kernel
theorem dX10_textAt_10 : decode mX10_textAt.2.2.1 10 = .ok (.if_icmp .eq 9, 3) := by decide +kernel
theorem dX10_textAt_13 : decode mX10_textAt.2.2.1 13 = .ok (.iinc 2 1, 3) := by decide +kernel
theorem dX10_textAt_16 : decode mX10_textAt.2.2.1 16 = .ok (.goto (-14), 3) := by decide +kernel
theorem dX10_textAt_19 : decode mX10_textAt.2.2.1 19 = .ok (.iload_n 2, 1) := by decide +kernel
theorem dX10_textAt_20 : decode mX10_textAt.2.2.1 20 = .ok (.iconst 1, 1) := by decide +kernel
theorem dX10_textAt_21 : decode mX10_textAt.2.2.1 21 = .ok (.iadd, 1) := by decide +kernel
theorem dX10_textAt_22 : decode mX10_textAt.2.2.1 22 = .ok (.ireturn, 1) := by decide +kernel
theorem dX10_textSize_0 : decode mX10_textSize.2.2.1 0 = .ok (.aload_n 0, 1) := by decide +kernel
theorem dX10_textSize_1 : decode mX10_textSize.2.2.1 1 = .ok (.iload_n 1, 1) := by decide +kernel
theorem dX10_textSize_2 : decode mX10_textSize.2.2.1 2 = .ok (.aload_n 0, 1) := by decide +kernel
theorem dX10_textSize_3 : decode mX10_textSize.2.2.1 3 = .ok (.iload_n 1, 1) := by decide +kernel
theorem dX10_textSize_4 : decode mX10_textSize.2.2.1 4 = .ok (.invokevirtual 190, 3) := by decide +kernel
theorem dX10_textSize_7 : decode mX10_textSize.2.2.1 7 = .ok (.iconst 1, 1) := by decide +kernel
theorem dX10_textSize_8 : decode mX10_textSize.2.2.1 8 = .ok (.isub, 1) := by decide +kernel
theorem dX10_textSize_9 : decode mX10_textSize.2.2.1 9 = .ok (.invokevirtual 187, 3) := by decide +kernel
theorem dX10_textSize_12 : decode mX10_textSize.2.2.1 12 = .ok (.ireturn, 1) := by decide +kernel
theorem dX10_rises_0 : decode mX10_rises.2.2.1 0 = .ok (.aload_n 0, 1) := by decide +kernel
theorem dX10_rises_1 : decode mX10_rises.2.2.1 1 = .ok (.iload_n 1, 1) := by decide +kernel
theorem dX10_rises_2 : decode mX10_rises.2.2.1 2 = .ok (.invokevirtual 190, 3) := by decide +kernel
theorem dX10_rises_5 : decode mX10_rises.2.2.1 5 = .ok (.istore_n 3, 1) := by decide +kernel
theorem dX10_rises_6 : decode mX10_rises.2.2.1 6 = .ok (.aload_n 0, 1) := by decide +kernel
theorem dX10_rises_7 : decode mX10_rises.2.2.1 7 = .ok (.iload_n 2, 1) := by decide +kernel
theorem dX10_rises_8 : decode mX10_rises.2.2.1 8 = .ok (.invokevirtual 190, 3) := by decide +kernel
theorem dX10_rises_11 : decode mX10_rises.2.2.1 11 = .ok (.istore 4, 2) := by decide +kernel
theorem dX10_rises_13 : decode mX10_rises.2.2.1 13 = .ok (.aload_n 0, 1) := by decide +kernel
theorem dX10_rises_14 : decode mX10_rises.2.2.1 14 = .ok (.iload_n 1, 1) := by decide +kernel
theorem dX10_rises_15 : decode mX10_rises.2.2.1 15 = .ok (.invokevirtual 193, 3) := by decide +kernel
theorem dX10_rises_18 : decode mX10_rises.2.2.1 18 = .ok (.istore 5, 2) := by decide +kernel
theorem dX10_rises_20 : decode mX10_rises.2.2.1 20 = .ok (.aload_n 0, 1) := by decide +kernel
theorem dX10_rises_21 : decode mX10_rises.2.2.1 21 = .ok (.iload_n 2, 1) := by decide +kernel
theorem dX10_rises_22 : decode mX10_rises.2.2.1 22 = .ok (.invokevirtual 193, 3) := by decide +kernel
theorem dX10_rises_25 : decode mX10_rises.2.2.1 25 = .ok (.istore 6, 2) := by decide +kernel
theorem dX10_rises_27 : decode mX10_rises.2.2.1 27 = .ok (.iconst 0, 1) := by decide +kernel
theorem dX10_rises_28 : decode mX10_rises.2.2.1 28 = .ok (.istore 7, 2) := by decide +kernel
theorem dX10_rises_30 : decode mX10_rises.2.2.1 30 = .ok (.iload 7, 2) := by decide +kernel
theorem dX10_rises_32 : decode mX10_rises.2.2.1 32 = .ok (.iload 5, 2) := by decide +kernel
theorem dX10_rises_34 : decode mX10_rises.2.2.1 34 = .ok (.if_icmp .ge 38, 3) := by decide +kernel
theorem dX10_rises_37 : decode mX10_rises.2.2.1 37 = .ok (.iload 7, 2) := by decide +kernel
theorem dX10_rises_39 : decode mX10_rises.2.2.1 39 = .ok (.iload 6, 2) := by decide +kernel
theorem dX10_rises_41 : decode mX10_rises.2.2.1 41 = .ok (.if_icmp .ge 31, 3) := by decide +kernel
theorem dX10_rises_44 : decode mX10_rises.2.2.1 44 = .ok (.aload_n 0, 1) := by decide +kernel
theorem dX10_rises_45 : decode mX10_rises.2.2.1 45 = .ok (.getfield 7, 3) := by decide +kernel
theorem dX10_rises_48 : decode mX10_rises.2.2.1 48 = .ok (.iload_n 3, 1) := by decide +kernel
theorem dX10_rises_49 : decode mX10_rises.2.2.1 49 = .ok (.iload 7, 2) := by decide +kernel
theorem dX10_rises_51 : decode mX10_rises.2.2.1 51 = .ok (.iadd, 1) := by decide +kernel
theorem dX10_rises_52 : decode mX10_rises.2.2.1 52 = .ok (.baload, 1) := by decide +kernel
theorem dX10_rises_53 : decode mX10_rises.2.2.1 53 = .ok (.aload_n 0, 1) := by decide +kernel
theorem dX10_rises_54 : decode mX10_rises.2.2.1 54 = .ok (.getfield 7, 3) := by decide +kernel
theorem dX10_rises_57 : decode mX10_rises.2.2.1 57 = .ok (.iload 4, 2) := by decide +kernel
theorem dX10_rises_59 : decode mX10_rises.2.2.1 59 = .ok (.iload 7, 2) := by decide +kernel
theorem dX10_rises_61 : decode mX10_rises.2.2.1 61 = .ok (.iadd, 1) := by decide +kernel
theorem dX10_rises_62 : decode mX10_rises.2.2.1 62 = .ok (.baload, 1) := by decide +kernel
theorem dX10_rises_63 : decode mX10_rises.2.2.1 63 = .ok (.if_icmp .ne 9, 3) := by decide +kernel
theorem dX10_rises_66 : decode mX10_rises.2.2.1 66 = .ok (.iinc 7 1, 3) := by decide +kernel
theorem dX10_rises_69 : decode mX10_rises.2.2.1 69 = .ok (.goto (-39), 3) := by decide +kernel
theorem dX10_rises_72 : decode mX10_rises.2.2.1 72 = .ok (.iload 7, 2) := by decide +kernel
theorem dX10_rises_74 : decode mX10_rises.2.2.1 74 = .ok (.iload 5, 2) := by decide +kernel
theorem dX10_rises_76 : decode mX10_rises.2.2.1 76 = .ok (.if_icmp .ge 48, 3) := by decide +kernel
theorem dX10_rises_79 : decode mX10_rises.2.2.1 79 = .ok (.iload 7, 2) := by decide +kernel
theorem dX10_rises_81 : decode mX10_rises.2.2.1 81 = .ok (.iload 6, 2) := by decide +kernel
theorem dX10_rises_83 : decode mX10_rises.2.2.1 83 = .ok (.if_icmp .ge 41, 3) := by decide +kernel
theorem dX10_rises_86 : decode mX10_rises.2.2.1 86 = .ok (.aload_n 0, 1) := by decide +kernel
theorem dX10_rises_87 : decode mX10_rises.2.2.1 87 = .ok (.getfield 7, 3) := by decide +kernel
theorem dX10_rises_90 : decode mX10_rises.2.2.1 90 = .ok (.iload_n 3, 1) := by decide +kernel
theorem dX10_rises_91 : decode mX10_rises.2.2.1 91 = .ok (.iload 7, 2) := by decide +kernel
theorem dX10_rises_93 : decode mX10_rises.2.2.1 93 = .ok (.iadd, 1) := by decide +kernel
theorem dX10_rises_94 : decode mX10_rises.2.2.1 94 = .ok (.baload, 1) := by decide +kernel
theorem dX10_rises_95 : decode mX10_rises.2.2.1 95 = .ok (.sipush 255, 3) := by decide +kernel
theorem dX10_rises_98 : decode mX10_rises.2.2.1 98 = .ok (.iand, 1) := by decide +kernel
theorem dX10_rises_99 : decode mX10_rises.2.2.1 99 = .ok (.aload_n 0, 1) := by decide +kernel
theorem dX10_rises_100 : decode mX10_rises.2.2.1 100 = .ok (.getfield 7, 3) := by decide +kernel
theorem dX10_rises_103 : decode mX10_rises.2.2.1 103 = .ok (.iload 4, 2) := by decide +kernel
theorem dX10_rises_105 : decode mX10_rises.2.2.1 105 = .ok (.iload 7, 2) := by decide +kernel
theorem dX10_rises_107 : decode mX10_rises.2.2.1 107 = .ok (.iadd, 1) := by decide +kernel
theorem dX10_rises_108 : decode mX10_rises.2.2.1 108 = .ok (.baload, 1) := by decide +kernel
theorem dX10_rises_109 : decode mX10_rises.2.2.1 109 = .ok (.sipush 255, 3) := by decide +kernel
theorem dX10_rises_112 : decode mX10_rises.2.2.1 112 = .ok (.iand, 1) := by decide +kernel
theorem dX10_rises_113 : decode mX10_rises.2.2.1 113 = .ok (.if_icmp .ge 7, 3) := by decide +kernel
theorem dX10_rises_116 : decode mX10_rises.2.2.1 116 = .ok (.iconst 1, 1) := by decide +kernel
theorem dX10_rises_117 : decode mX10_rises.2.2.1 117 = .ok (.goto 19, 3) := by decide +kernel
theorem dX10_rises_120 : decode mX10_rises.2.2.1 120 = .ok (.iconst 0, 1) := by decide +kernel
theorem dX10_rises_121 : decode mX10_rises.2.2.1 121 = .ok (.goto 15, 3) := by decide +kernel
theorem dX10_rises_124 : decode mX10_rises.2.2.1 124 = .ok (.iload 5, 2) := by decide +kernel
theorem dX10_rises_126 : decode mX10_rises.2.2.1 126 = .ok (.iload 6, 2) := by decide +kernel
theorem dX10_rises_128 : decode mX10_rises.2.2.1 128 = .ok (.if_icmp .ge 7, 3) := by decide +kernel
theorem dX10_rises_131 : decode mX10_rises.2.2.1 131 = .ok (.iconst 1, 1) := by decide +kernel
theorem dX10_rises_132 : decode mX10_rises.2.2.1 132 = .ok (.goto 4, 3) := by decide +kernel
theorem dX10_rises_135 : decode mX10_rises.2.2.1 135 = .ok (.iconst 0, 1) := by decide +kernel
theorem dX10_rises_136 : decode mX10_rises.2.2.1 136 = .ok (.ireturn, 1) := by decide +kernel
theorem dX10_isValue_0 : decode mX10_isValue.2.2.1 0 = .ok (.aload_n 0, 1) := by decide +kernel
theorem dX10_isValue_1 : decode mX10_isValue.2.2.1 1 = .ok (.iconst 0, 1) := by decide +kernel
theorem dX10_isValue_2 : decode mX10_isValue.2.2.1 2 = .ok (.putfield 196, 3) := by decide +kernel
theorem dX10_isValue_5 : decode mX10_isValue.2.2.1 5 = .ok (.iconst 0, 1) := by decide +kernel
theorem dX10_isValue_6 : decode mX10_isValue.2.2.1 6 = .ok (.istore_n 1, 1) := by decide +kernel
theorem dX10_isValue_7 : decode mX10_isValue.2.2.1 7 = .ok (.iconst 1, 1) := by decide +kernel
theorem dX10_isValue_8 : decode mX10_isValue.2.2.1 8 = .ok (.istore_n 2, 1) := by decide +kernel
theorem dX10_isValue_9 : decode mX10_isValue.2.2.1 9 = .ok (.iload_n 2, 1) := by decide +kernel
theorem dX10_isValue_10 : decode mX10_isValue.2.2.1 10 = .ok (.ifCond .eq 341, 3) := by decide +kernel
theorem dX10_isValue_13 : decode mX10_isValue.2.2.1 13 = .ok (.aload_n 0, 1) := by decide +kernel
theorem dX10_isValue_14 : decode mX10_isValue.2.2.1 14 = .ok (.iload_n 1, 1) := by decide +kernel
theorem dX10_isValue_15 : decode mX10_isValue.2.2.1 15 = .ok (.invokevirtual 172, 3) := by decide +kernel
theorem dX10_isValue_18 : decode mX10_isValue.2.2.1 18 = .ok (.istore_n 3, 1) := by decide +kernel
theorem dX10_isValue_19 : decode mX10_isValue.2.2.1 19 = .ok (.aload_n 0, 1) := by decide +kernel
theorem dX10_isValue_20 : decode mX10_isValue.2.2.1 20 = .ok (.getfield 196, 3) := by decide +kernel
theorem dX10_isValue_23 : decode mX10_isValue.2.2.1 23 = .ok (.ifCond .ne 7, 3) := by decide +kernel
theorem dX10_isValue_26 : decode mX10_isValue.2.2.1 26 = .ok (.iconst (-1), 1) := by decide +kernel
theorem dX10_isValue_27 : decode mX10_isValue.2.2.1 27 = .ok (.goto 14, 3) := by decide +kernel
theorem dX10_isValue_30 : decode mX10_isValue.2.2.1 30 = .ok (.aload_n 0, 1) := by decide +kernel
theorem dX10_isValue_31 : decode mX10_isValue.2.2.1 31 = .ok (.getfield 29, 3) := by decide +kernel
theorem dX10_isValue_34 : decode mX10_isValue.2.2.1 34 = .ok (.aload_n 0, 1) := by decide +kernel
theorem dX10_isValue_35 : decode mX10_isValue.2.2.1 35 = .ok (.getfield 196, 3) := by decide +kernel
theorem dX10_isValue_38 : decode mX10_isValue.2.2.1 38 = .ok (.iconst 1, 1) := by decide +kernel
theorem dX10_isValue_39 : decode mX10_isValue.2.2.1 39 = .ok (.isub, 1) := by decide +kernel
theorem dX10_isValue_40 : decode mX10_isValue.2.2.1 40 = .ok (.iaload, 1) := by decide +kernel
theorem dX10_isValue_41 : decode mX10_isValue.2.2.1 41 = .ok (.istore 4, 2) := by decide +kernel
theorem dX10_isValue_43 : decode mX10_isValue.2.2.1 43 = .ok (.iconst 1, 1) := by decide +kernel
theorem dX10_isValue_44 : decode mX10_isValue.2.2.1 44 = .ok (.istore 5, 2) := by decide +kernel
theorem dX10_isValue_46 : decode mX10_isValue.2.2.1 46 = .ok (.iload 4, 2) := by decide +kernel
theorem dX10_isValue_48 : decode mX10_isValue.2.2.1 48 = .ok (.ifCond .lt 33, 3) := by decide +kernel
theorem dX10_isValue_51 : decode mX10_isValue.2.2.1 51 = .ok (.iload 4, 2) := by decide +kernel
theorem dX10_isValue_53 : decode mX10_isValue.2.2.1 53 = .ok (.iconst 2, 1) := by decide +kernel
theorem dX10_isValue_54 : decode mX10_isValue.2.2.1 54 = .ok (.if_icmp .ge 27, 3) := by decide +kernel
theorem dX10_isValue_57 : decode mX10_isValue.2.2.1 57 = .ok (.iload_n 3, 1) := by decide +kernel
theorem dX10_isValue_58 : decode mX10_isValue.2.2.1 58 = .ok (.bipush 101, 2) := by decide +kernel
theorem dX10_isValue_60 : decode mX10_isValue.2.2.1 60 = .ok (.if_icmp .ne 21, 3) := by decide +kernel
theorem dX10_isValue_63 : decode mX10_isValue.2.2.1 63 = .ok (.aload_n 0, 1) := by decide +kernel
theorem dX10_isValue_64 : decode mX10_isValue.2.2.1 64 = .ok (.dup, 1) := by decide +kernel
theorem dX10_isValue_65 : decode mX10_isValue.2.2.1 65 = .ok (.getfield 196, 3) := by decide +kernel
theorem dX10_isValue_68 : decode mX10_isValue.2.2.1 68 = .ok (.iconst 1, 1) := by decide +kernel
theorem dX10_isValue_69 : decode mX10_isValue.2.2.1 69 = .ok (.isub, 1) := by decide +kernel
theorem dX10_isValue_70 : decode mX10_isValue.2.2.1 70 = .ok (.putfield 196, 3) := by decide +kernel
theorem dX10_isValue_73 : decode mX10_isValue.2.2.1 73 = .ok (.iload_n 1, 1) := by decide +kernel
theorem dX10_isValue_74 : decode mX10_isValue.2.2.1 74 = .ok (.iconst 1, 1) := by decide +kernel
theorem dX10_isValue_75 : decode mX10_isValue.2.2.1 75 = .ok (.iadd, 1) := by decide +kernel
theorem dX10_isValue_76 : decode mX10_isValue.2.2.1 76 = .ok (.istore 6, 2) := by decide +kernel
theorem dX10_isValue_78 : decode mX10_isValue.2.2.1 78 = .ok (.goto 203, 3) := by decide +kernel
theorem dX10_isValue_81 : decode mX10_isValue.2.2.1 81 = .ok (.iload 4, 2) := by decide +kernel
theorem dX10_isValue_83 : decode mX10_isValue.2.2.1 83 = .ok (.iconst 1, 1) := by decide +kernel
theorem dX10_isValue_84 : decode mX10_isValue.2.2.1 84 = .ok (.if_icmp .ne 85, 3) := by decide +kernel
theorem dX10_isValue_87 : decode mX10_isValue.2.2.1 87 = .ok (.aload_n 0, 1) := by decide +kernel
theorem dX10_isValue_88 : decode mX10_isValue.2.2.1 88 = .ok (.iload_n 1, 1) := by decide +kernel
theorem dX10_isValue_89 : decode mX10_isValue.2.2.1 89 = .ok (.invokevirtual 199, 3) := by decide +kernel
theorem dX10_isValue_92 : decode mX10_isValue.2.2.1 92 = .ok (.istore 6, 2) := by decide +kernel
theorem dX10_isValue_94 : decode mX10_isValue.2.2.1 94 = .ok (.iload 6, 2) := by decide +kernel
theorem dX10_isValue_96 : decode mX10_isValue.2.2.1 96 = .ok (.ifCond .lt 43, 3) := by decide +kernel
theorem dX10_isValue_99 : decode mX10_isValue.2.2.1 99 = .ok (.aload_n 0, 1) := by decide +kernel
theorem dX10_isValue_100 : decode mX10_isValue.2.2.1 100 = .ok (.getfield 32, 3) := by decide +kernel
theorem dX10_isValue_103 : decode mX10_isValue.2.2.1 103 = .ok (.aload_n 0, 1) := by decide +kernel
theorem dX10_isValue_104 : decode mX10_isValue.2.2.1 104 = .ok (.getfield 196, 3) := by decide +kernel
theorem dX10_isValue_107 : decode mX10_isValue.2.2.1 107 = .ok (.iconst 1, 1) := by decide +kernel
theorem dX10_isValue_108 : decode mX10_isValue.2.2.1 108 = .ok (.isub, 1) := by decide +kernel
theorem dX10_isValue_109 : decode mX10_isValue.2.2.1 109 = .ok (.iaload, 1) := by decide +kernel
theorem dX10_isValue_110 : decode mX10_isValue.2.2.1 110 = .ok (.ifCond .lt 29, 3) := by decide +kernel
theorem dX10_isValue_113 : decode mX10_isValue.2.2.1 113 = .ok (.aload_n 0, 1) := by decide +kernel
theorem dX10_isValue_114 : decode mX10_isValue.2.2.1 114 = .ok (.aload_n 0, 1) := by decide +kernel
theorem dX10_isValue_115 : decode mX10_isValue.2.2.1 115 = .ok (.getfield 32, 3) := by decide +kernel
theorem dX10_isValue_118 : decode mX10_isValue.2.2.1 118 = .ok (.aload_n 0, 1) := by decide +kernel
theorem dX10_isValue_119 : decode mX10_isValue.2.2.1 119 = .ok (.getfield 196, 3) := by decide +kernel
theorem dX10_isValue_122 : decode mX10_isValue.2.2.1 122 = .ok (.iconst 1, 1) := by decide +kernel
theorem dX10_isValue_123 : decode mX10_isValue.2.2.1 123 = .ok (.isub, 1) := by decide +kernel
theorem dX10_isValue_124 : decode mX10_isValue.2.2.1 124 = .ok (.iaload, 1) := by decide +kernel
theorem dX10_isValue_125 : decode mX10_isValue.2.2.1 125 = .ok (.iload_n 1, 1) := by decide +kernel
theorem dX10_isValue_126 : decode mX10_isValue.2.2.1 126 = .ok (.invokevirtual 202, 3) := by decide +kernel
theorem dX10_isValue_129 : decode mX10_isValue.2.2.1 129 = .ok (.ifCond .ne 10, 3) := by decide +kernel
theorem dX10_isValue_132 : decode mX10_isValue.2.2.1 132 = .ok (.aload_n 0, 1) := by decide +kernel
theorem dX10_isValue_133 : decode mX10_isValue.2.2.1 133 = .ok (.iload_n 1, 1) := by decide +kernel
theorem dX10_isValue_134 : decode mX10_isValue.2.2.1 134 = .ok (.putfield 180, 3) := by decide +kernel
theorem dX10_isValue_137 : decode mX10_isValue.2.2.1 137 = .ok (.iconst 0, 1) := by decide +kernel
theorem dX10_isValue_138 : decode mX10_isValue.2.2.1 138 = .ok (.ireturn, 1) := by decide +kernel
theorem dX10_isValue_139 : decode mX10_isValue.2.2.1 139 = .ok (.aload_n 0, 1) := by decide +kernel
theorem dX10_isValue_140 : decode mX10_isValue.2.2.1 140 = .ok (.getfield 32, 3) := by decide +kernel
theorem dX10_isValue_143 : decode mX10_isValue.2.2.1 143 = .ok (.aload_n 0, 1) := by decide +kernel
theorem dX10_isValue_144 : decode mX10_isValue.2.2.1 144 = .ok (.getfield 196, 3) := by decide +kernel
theorem dX10_isValue_147 : decode mX10_isValue.2.2.1 147 = .ok (.iconst 1, 1) := by decide +kernel
theorem dX10_isValue_148 : decode mX10_isValue.2.2.1 148 = .ok (.isub, 1) := by decide +kernel
theorem dX10_isValue_149 : decode mX10_isValue.2.2.1 149 = .ok (.iload_n 1, 1) := by decide +kernel
theorem dX10_isValue_150 : decode mX10_isValue.2.2.1 150 = .ok (.iastore, 1) := by decide +kernel
theorem dX10_isValue_151 : decode mX10_isValue.2.2.1 151 = .ok (.aload_n 0, 1) := by decide +kernel
theorem dX10_isValue_152 : decode mX10_isValue.2.2.1 152 = .ok (.getfield 29, 3) := by decide +kernel
theorem dX10_isValue_155 : decode mX10_isValue.2.2.1 155 = .ok (.aload_n 0, 1) := by decide +kernel
theorem dX10_isValue_156 : decode mX10_isValue.2.2.1 156 = .ok (.getfield 196, 3) := by decide +kernel
theorem dX10_isValue_159 : decode mX10_isValue.2.2.1 159 = .ok (.iconst 1, 1) := by decide +kernel
theorem dX10_isValue_160 : decode mX10_isValue.2.2.1 160 = .ok (.isub, 1) := by decide +kernel
theorem dX10_isValue_161 : decode mX10_isValue.2.2.1 161 = .ok (.iconst 2, 1) := by decide +kernel
theorem dX10_isValue_162 : decode mX10_isValue.2.2.1 162 = .ok (.iastore, 1) := by decide +kernel
theorem dX10_isValue_163 : decode mX10_isValue.2.2.1 163 = .ok (.iconst 0, 1) := by decide +kernel
theorem dX10_isValue_164 : decode mX10_isValue.2.2.1 164 = .ok (.istore 5, 2) := by decide +kernel
theorem dX10_isValue_166 : decode mX10_isValue.2.2.1 166 = .ok (.goto 115, 3) := by decide +kernel
theorem dX10_isValue_169 : decode mX10_isValue.2.2.1 169 = .ok (.iload_n 3, 1) := by decide +kernel
theorem dX10_isValue_170 : decode mX10_isValue.2.2.1 170 = .ok (.bipush 105, 2) := by decide +kernel
theorem dX10_isValue_172 : decode mX10_isValue.2.2.1 172 = .ok (.if_icmp .ne 13, 3) := by decide +kernel
theorem dX10_isValue_175 : decode mX10_isValue.2.2.1 175 = .ok (.aload_n 0, 1) := by decide +kernel
theorem dX10_isValue_176 : decode mX10_isValue.2.2.1 176 = .ok (.iload_n 1, 1) := by decide +kernel
theorem dX10_isValue_177 : decode mX10_isValue.2.2.1 177 = .ok (.invokevirtual 206, 3) := by decide +kernel
theorem dX10_isValue_180 : decode mX10_isValue.2.2.1 180 = .ok (.istore 6, 2) := by decide +kernel
theorem dX10_isValue_182 : decode mX10_isValue.2.2.1 182 = .ok (.goto 99, 3) := by decide +kernel
theorem dX10_isValue_185 : decode mX10_isValue.2.2.1 185 = .ok (.iload_n 3, 1) := by decide +kernel
theorem dX10_isValue_186 : decode mX10_isValue.2.2.1 186 = .ok (.invokestatic 176, 3) := by decide +kernel
theorem dX10_isValue_189 : decode mX10_isValue.2.2.1 189 = .ok (.ifCond .eq 13, 3) := by decide +kernel
theorem dX10_isValue_192 : decode mX10_isValue.2.2.1 192 = .ok (.aload_n 0, 1) := by decide +kernel
theorem dX10_isValue_193 : decode mX10_isValue.2.2.1 193 = .ok (.iload_n 1, 1) := by decide +kernel
theorem dX10_isValue_194 : decode mX10_isValue.2.2.1 194 = .ok (.invokevirtual 199, 3) := by decide +kernel
theorem dX10_isValue_197 : decode mX10_isValue.2.2.1 197 = .ok (.istore 6, 2) := by decide +kernel
theorem dX10_isValue_199 : decode mX10_isValue.2.2.1 199 = .ok (.goto 82, 3) := by decide +kernel
theorem dX10_isValue_202 : decode mX10_isValue.2.2.1 202 = .ok (.iload_n 3, 1) := by decide +kernel
theorem dX10_isValue_203 : decode mX10_isValue.2.2.1 203 = .ok (.bipush 108, 2) := by decide +kernel
theorem dX10_isValue_205 : decode mX10_isValue.2.2.1 205 = .ok (.if_icmp .eq 9, 3) := by decide +kernel
theorem dX10_isValue_208 : decode mX10_isValue.2.2.1 208 = .ok (.iload_n 3, 1) := by decide +kernel
theorem dX10_isValue_209 : decode mX10_isValue.2.2.1 209 = .ok (.bipush 100, 2) := by decide +kernel
theorem dX10_isValue_211 : decode mX10_isValue.2.2.1 211 = .ok (.if_icmp .ne 63, 3) := by decide +kernel
theorem dX10_isValue_214 : decode mX10_isValue.2.2.1 214 = .ok (.aload_n 0, 1) := by decide +kernel
theorem dX10_isValue_215 : decode mX10_isValue.2.2.1 215 = .ok (.getfield 196, 3) := by decide +kernel
theorem dX10_isValue_218 : decode mX10_isValue.2.2.1 218 = .ok (.bipush 8, 2) := by decide +kernel
theorem dX10_isValue_220 : decode mX10_isValue.2.2.1 220 = .ok (.if_icmp .ge 54, 3) := by decide +kernel
theorem dX10_isValue_223 : decode mX10_isValue.2.2.1 223 = .ok (.aload_n 0, 1) := by decide +kernel
theorem dX10_isValue_224 : decode mX10_isValue.2.2.1 224 = .ok (.getfield 29, 3) := by decide +kernel
theorem dX10_isValue_227 : decode mX10_isValue.2.2.1 227 = .ok (.aload_n 0, 1) := by decide +kernel
theorem dX10_isValue_228 : decode mX10_isValue.2.2.1 228 = .ok (.getfield 196, 3) := by decide +kernel
theorem dX10_isValue_231 : decode mX10_isValue.2.2.1 231 = .ok (.iload_n 3, 1) := by decide +kernel
theorem dX10_isValue_232 : decode mX10_isValue.2.2.1 232 = .ok (.bipush 108, 2) := by decide +kernel
theorem dX10_isValue_234 : decode mX10_isValue.2.2.1 234 = .ok (.if_icmp .ne 7, 3) := by decide +kernel
theorem dX10_isValue_237 : decode mX10_isValue.2.2.1 237 = .ok (.iconst 0, 1) := by decide +kernel
theorem dX10_isValue_238 : decode mX10_isValue.2.2.1 238 = .ok (.goto 4, 3) := by decide +kernel
theorem dX10_isValue_241 : decode mX10_isValue.2.2.1 241 = .ok (.iconst 1, 1) := by decide +kernel
theorem dX10_isValue_242 : decode mX10_isValue.2.2.1 242 = .ok (.iastore, 1) := by decide +kernel
theorem dX10_isValue_243 : decode mX10_isValue.2.2.1 243 = .ok (.aload_n 0, 1) := by decide +kernel
theorem dX10_isValue_244 : decode mX10_isValue.2.2.1 244 = .ok (.getfield 32, 3) := by decide +kernel
theorem dX10_isValue_247 : decode mX10_isValue.2.2.1 247 = .ok (.aload_n 0, 1) := by decide +kernel
theorem dX10_isValue_248 : decode mX10_isValue.2.2.1 248 = .ok (.getfield 196, 3) := by decide +kernel
theorem dX10_isValue_251 : decode mX10_isValue.2.2.1 251 = .ok (.iconst (-1), 1) := by decide +kernel
theorem dX10_isValue_252 : decode mX10_isValue.2.2.1 252 = .ok (.iastore, 1) := by decide +kernel
theorem dX10_isValue_253 : decode mX10_isValue.2.2.1 253 = .ok (.aload_n 0, 1) := by decide +kernel
theorem dX10_isValue_254 : decode mX10_isValue.2.2.1 254 = .ok (.dup, 1) := by decide +kernel
theorem dX10_isValue_255 : decode mX10_isValue.2.2.1 255 = .ok (.getfield 196, 3) := by decide +kernel
theorem dX10_isValue_258 : decode mX10_isValue.2.2.1 258 = .ok (.iconst 1, 1) := by decide +kernel
theorem dX10_isValue_259 : decode mX10_isValue.2.2.1 259 = .ok (.iadd, 1) := by decide +kernel
theorem dX10_isValue_260 : decode mX10_isValue.2.2.1 260 = .ok (.putfield 196, 3) := by decide +kernel
theorem dX10_isValue_263 : decode mX10_isValue.2.2.1 263 = .ok (.iload_n 1, 1) := by decide +kernel
theorem dX10_isValue_264 : decode mX10_isValue.2.2.1 264 = .ok (.iconst 1, 1) := by decide +kernel
theorem dX10_isValue_265 : decode mX10_isValue.2.2.1 265 = .ok (.iadd, 1) := by decide +kernel
theorem dX10_isValue_266 : decode mX10_isValue.2.2.1 266 = .ok (.istore 6, 2) := by decide +kernel
theorem dX10_isValue_268 : decode mX10_isValue.2.2.1 268 = .ok (.iconst 0, 1) := by decide +kernel
theorem dX10_isValue_269 : decode mX10_isValue.2.2.1 269 = .ok (.istore 5, 2) := by decide +kernel
theorem dX10_isValue_271 : decode mX10_isValue.2.2.1 271 = .ok (.goto 10, 3) := by decide +kernel
theorem dX10_isValue_274 : decode mX10_isValue.2.2.1 274 = .ok (.aload_n 0, 1) := by decide +kernel
theorem dX10_isValue_275 : decode mX10_isValue.2.2.1 275 = .ok (.iload_n 1, 1) := by decide +kernel
theorem dX10_isValue_276 : decode mX10_isValue.2.2.1 276 = .ok (.putfield 180, 3) := by decide +kernel
theorem dX10_isValue_279 : decode mX10_isValue.2.2.1 279 = .ok (.iconst 0, 1) := by decide +kernel
theorem dX10_isValue_280 : decode mX10_isValue.2.2.1 280 = .ok (.ireturn, 1) := by decide +kernel
theorem dX10_isValue_281 : decode mX10_isValue.2.2.1 281 = .ok (.iload 6, 2) := by decide +kernel
theorem dX10_isValue_283 : decode mX10_isValue.2.2.1 283 = .ok (.ifCond .ge 5, 3) := by decide +kernel
theorem dX10_isValue_286 : decode mX10_isValue.2.2.1 286 = .ok (.iconst 0, 1) := by decide +kernel
theorem dX10_isValue_287 : decode mX10_isValue.2.2.1 287 = .ok (.ireturn, 1) := by decide +kernel
theorem dX10_isValue_288 : decode mX10_isValue.2.2.1 288 = .ok (.iload 6, 2) := by decide +kernel
theorem dX10_isValue_290 : decode mX10_isValue.2.2.1 290 = .ok (.istore_n 1, 1) := by decide +kernel
theorem dX10_isValue_291 : decode mX10_isValue.2.2.1 291 = .ok (.iload 5, 2) := by decide +kernel
theorem dX10_isValue_293 : decode mX10_isValue.2.2.1 293 = .ok (.ifCond .eq 37, 3) := by decide +kernel
theorem dX10_isValue_296 : decode mX10_isValue.2.2.1 296 = .ok (.aload_n 0, 1) := by decide +kernel
theorem dX10_isValue_297 : decode mX10_isValue.2.2.1 297 = .ok (.getfield 196, 3) := by decide +kernel
theorem dX10_isValue_300 : decode mX10_isValue.2.2.1 300 = .ok (.ifCond .le 30, 3) := by decide +kernel
theorem dX10_isValue_303 : decode mX10_isValue.2.2.1 303 = .ok (.aload_n 0, 1) := by decide +kernel
theorem dX10_isValue_304 : decode mX10_isValue.2.2.1 304 = .ok (.getfield 29, 3) := by decide +kernel
theorem dX10_isValue_307 : decode mX10_isValue.2.2.1 307 = .ok (.aload_n 0, 1) := by decide +kernel
theorem dX10_isValue_308 : decode mX10_isValue.2.2.1 308 = .ok (.getfield 196, 3) := by decide +kernel
theorem dX10_isValue_311 : decode mX10_isValue.2.2.1 311 = .ok (.iconst 1, 1) := by decide +kernel
theorem dX10_isValue_312 : decode mX10_isValue.2.2.1 312 = .ok (.isub, 1) := by decide +kernel
theorem dX10_isValue_313 : decode mX10_isValue.2.2.1 313 = .ok (.iaload, 1) := by decide +kernel
theorem dX10_isValue_314 : decode mX10_isValue.2.2.1 314 = .ok (.iconst 2, 1) := by decide +kernel
theorem dX10_isValue_315 : decode mX10_isValue.2.2.1 315 = .ok (.if_icmp .ne 15, 3) := by decide +kernel
theorem dX10_isValue_318 : decode mX10_isValue.2.2.1 318 = .ok (.aload_n 0, 1) := by decide +kernel
theorem dX10_isValue_319 : decode mX10_isValue.2.2.1 319 = .ok (.getfield 29, 3) := by decide +kernel
theorem dX10_isValue_322 : decode mX10_isValue.2.2.1 322 = .ok (.aload_n 0, 1) := by decide +kernel
theorem dX10_isValue_323 : decode mX10_isValue.2.2.1 323 = .ok (.getfield 196, 3) := by decide +kernel
theorem dX10_isValue_326 : decode mX10_isValue.2.2.1 326 = .ok (.iconst 1, 1) := by decide +kernel
theorem dX10_isValue_327 : decode mX10_isValue.2.2.1 327 = .ok (.isub, 1) := by decide +kernel
theorem dX10_isValue_328 : decode mX10_isValue.2.2.1 328 = .ok (.iconst 1, 1) := by decide +kernel
theorem dX10_isValue_329 : decode mX10_isValue.2.2.1 329 = .ok (.iastore, 1) := by decide +kernel
theorem dX10_isValue_330 : decode mX10_isValue.2.2.1 330 = .ok (.iload 5, 2) := by decide +kernel
theorem dX10_isValue_332 : decode mX10_isValue.2.2.1 332 = .ok (.ifCond .eq 10, 3) := by decide +kernel
theorem dX10_isValue_335 : decode mX10_isValue.2.2.1 335 = .ok (.aload_n 0, 1) := by decide +kernel
theorem dX10_isValue_336 : decode mX10_isValue.2.2.1 336 = .ok (.getfield 196, 3) := by decide +kernel
theorem dX10_isValue_339 : decode mX10_isValue.2.2.1 339 = .ok (.ifCond .le 7, 3) := by decide +kernel
theorem dX10_isValue_342 : decode mX10_isValue.2.2.1 342 = .ok (.iconst 1, 1) := by decide +kernel
theorem dX10_isValue_343 : decode mX10_isValue.2.2.1 343 = .ok (.goto 4, 3) := by decide +kernel
theorem dX10_isValue_346 : decode mX10_isValue.2.2.1 346 = .ok (.iconst 0, 1) := by decide +kernel
theorem dX10_isValue_347 : decode mX10_isValue.2.2.1 347 = .ok (.istore_n 2, 1) := by decide +kernel
theorem dX10_isValue_348 : decode mX10_isValue.2.2.1 348 = .ok (.goto (-339), 3) := by decide +kernel
theorem dX10_isValue_351 : decode mX10_isValue.2.2.1 351 = .ok (.aload_n 0, 1) := by decide +kernel
theorem dX10_isValue_352 : decode mX10_isValue.2.2.1 352 = .ok (.iload_n 1, 1) := by decide +kernel
theorem dX10_isValue_353 : decode mX10_isValue.2.2.1 353 = .ok (.putfield 180, 3) := by decide +kernel
theorem dX10_isValue_356 : decode mX10_isValue.2.2.1 356 = .ok (.iload_n 1, 1) := by decide +kernel
theorem dX10_isValue_357 : decode mX10_isValue.2.2.1 357 = .ok (.aload_n 0, 1) := by decide +kernel
theorem dX10_isValue_358 : decode mX10_isValue.2.2.1 358 = .ok (.getfield 169, 3) := by decide +kernel
theorem dX10_isValue_361 : decode mX10_isValue.2.2.1 361 = .ok (.if_icmp .ne 7, 3) := by decide +kernel
theorem dX10_isValue_364 : decode mX10_isValue.2.2.1 364 = .ok (.iconst 1, 1) := by decide +kernel
theorem dX10_isValue_365 : decode mX10_isValue.2.2.1 365 = .ok (.goto 4, 3) := by decide +kernel
theorem dX10_isValue_368 : decode mX10_isValue.2.2.1 368 = .ok (.iconst 0, 1) := by decide +kernel
theorem dX10_isValue_369 : decode mX10_isValue.2.2.1 369 = .ok (.ireturn, 1) := by decide +kernel
theorem dX10_behind_0 : decode mX10_behind.2.2.1 0 = .ok (.iload_n 1, 1) := by decide +kernel
theorem dX10_behind_1 : decode mX10_behind.2.2.1 1 = .ok (.istore_n 2, 1) := by decide +kernel
theorem dX10_behind_2 : decode mX10_behind.2.2.1 2 = .ok (.iconst 0, 1) := by decide +kernel
theorem dX10_behind_3 : decode mX10_behind.2.2.1 3 = .ok (.istore_n 3, 1) := by decide +kernel
theorem dX10_behind_4 : decode mX10_behind.2.2.1 4 = .ok (.iconst 1, 1) := by decide +kernel
theorem dX10_behind_5 : decode mX10_behind.2.2.1 5 = .ok (.istore 4, 2) := by decide +kernel
theorem dX10_behind_7 : decode mX10_behind.2.2.1 7 = .ok (.iload 4, 2) := by decide +kernel
theorem dX10_behind_9 : decode mX10_behind.2.2.1 9 = .ok (.ifCond .eq 96, 3) := by decide +kernel
theorem dX10_behind_12 : decode mX10_behind.2.2.1 12 = .ok (.aload_n 0, 1) := by decide +kernel
theorem dX10_behind_13 : decode mX10_behind.2.2.1 13 = .ok (.getfield 7, 3) := by decide +kernel
theorem dX10_behind_16 : decode mX10_behind.2.2.1 16 = .ok (.iload_n 2, 1) := by decide +kernel
theorem dX10_behind_17 : decode mX10_behind.2.2.1 17 = .ok (.baload, 1) := by decide +kernel
theorem dX10_behind_18 : decode mX10_behind.2.2.1 18 = .ok (.istore 5, 2) := by decide +kernel
theorem dX10_behind_20 : decode mX10_behind.2.2.1 20 = .ok (.iload 5, 2) := by decide +kernel
theorem dX10_behind_22 : decode mX10_behind.2.2.1 22 = .ok (.bipush 105, 2) := by decide +kernel
theorem dX10_behind_24 : decode mX10_behind.2.2.1 24 = .ok (.if_icmp .ne 26, 3) := by decide +kernel
theorem dX10_behind_27 : decode mX10_behind.2.2.1 27 = .ok (.aload_n 0, 1) := by decide +kernel
theorem dX10_behind_28 : decode mX10_behind.2.2.1 28 = .ok (.getfield 7, 3) := by decide +kernel
theorem dX10_behind_31 : decode mX10_behind.2.2.1 31 = .ok (.iload_n 2, 1) := by decide +kernel
theorem dX10_behind_32 : decode mX10_behind.2.2.1 32 = .ok (.baload, 1) := by decide +kernel
theorem dX10_behind_33 : decode mX10_behind.2.2.1 33 = .ok (.bipush 101, 2) := by decide +kernel
theorem dX10_behind_35 : decode mX10_behind.2.2.1 35 = .ok (.if_icmp .eq 9, 3) := by decide +kernel
theorem dX10_behind_38 : decode mX10_behind.2.2.1 38 = .ok (.iinc 2 1, 3) := by decide +kernel
theorem dX10_behind_41 : decode mX10_behind.2.2.1 41 = .ok (.goto (-14), 3) := by decide +kernel
theorem dX10_behind_44 : decode mX10_behind.2.2.1 44 = .ok (.iinc 2 1, 3) := by decide +kernel
theorem dX10_behind_47 : decode mX10_behind.2.2.1 47 = .ok (.goto 44, 3) := by decide +kernel
theorem dX10_behind_50 : decode mX10_behind.2.2.1 50 = .ok (.iload 5, 2) := by decide +kernel
theorem dX10_behind_52 : decode mX10_behind.2.2.1 52 = .ok (.invokestatic 176, 3) := by decide +kernel
theorem dX10_behind_55 : decode mX10_behind.2.2.1 55 = .ok (.ifCond .eq 18, 3) := by decide +kernel
theorem dX10_behind_58 : decode mX10_behind.2.2.1 58 = .ok (.aload_n 0, 1) := by decide +kernel
theorem dX10_behind_59 : decode mX10_behind.2.2.1 59 = .ok (.iload_n 2, 1) := by decide +kernel
theorem dX10_behind_60 : decode mX10_behind.2.2.1 60 = .ok (.invokevirtual 190, 3) := by decide +kernel
theorem dX10_behind_63 : decode mX10_behind.2.2.1 63 = .ok (.aload_n 0, 1) := by decide +kernel
theorem dX10_behind_64 : decode mX10_behind.2.2.1 64 = .ok (.iload_n 2, 1) := by decide +kernel
theorem dX10_behind_65 : decode mX10_behind.2.2.1 65 = .ok (.invokevirtual 193, 3) := by decide +kernel
theorem dX10_behind_68 : decode mX10_behind.2.2.1 68 = .ok (.iadd, 1) := by decide +kernel
theorem dX10_behind_69 : decode mX10_behind.2.2.1 69 = .ok (.istore_n 2, 1) := by decide +kernel
theorem dX10_behind_70 : decode mX10_behind.2.2.1 70 = .ok (.goto 21, 3) := by decide +kernel
theorem dX10_behind_73 : decode mX10_behind.2.2.1 73 = .ok (.iload_n 3, 1) := by decide +kernel
theorem dX10_behind_74 : decode mX10_behind.2.2.1 74 = .ok (.iload 5, 2) := by decide +kernel
theorem dX10_behind_76 : decode mX10_behind.2.2.1 76 = .ok (.bipush 101, 2) := by decide +kernel
theorem dX10_behind_78 : decode mX10_behind.2.2.1 78 = .ok (.if_icmp .ne 7, 3) := by decide +kernel
theorem dX10_behind_81 : decode mX10_behind.2.2.1 81 = .ok (.iconst (-1), 1) := by decide +kernel
theorem dX10_behind_82 : decode mX10_behind.2.2.1 82 = .ok (.goto 4, 3) := by decide +kernel
theorem dX10_behind_85 : decode mX10_behind.2.2.1 85 = .ok (.iconst 1, 1) := by decide +kernel
theorem dX10_behind_86 : decode mX10_behind.2.2.1 86 = .ok (.iadd, 1) := by decide +kernel
theorem dX10_behind_87 : decode mX10_behind.2.2.1 87 = .ok (.istore_n 3, 1) := by decide +kernel
theorem dX10_behind_88 : decode mX10_behind.2.2.1 88 = .ok (.iinc 2 1, 3) := by decide +kernel
theorem dX10_behind_91 : decode mX10_behind.2.2.1 91 = .ok (.iload_n 3, 1) := by decide +kernel
theorem dX10_behind_92 : decode mX10_behind.2.2.1 92 = .ok (.ifCond .le 7, 3) := by decide +kernel
theorem dX10_behind_95 : decode mX10_behind.2.2.1 95 = .ok (.iconst 1, 1) := by decide +kernel
theorem dX10_behind_96 : decode mX10_behind.2.2.1 96 = .ok (.goto 4, 3) := by decide +kernel
theorem dX10_behind_99 : decode mX10_behind.2.2.1 99 = .ok (.iconst 0, 1) := by decide +kernel
theorem dX10_behind_100 : decode mX10_behind.2.2.1 100 = .ok (.istore 4, 2) := by decide +kernel
theorem dX10_behind_102 : decode mX10_behind.2.2.1 102 = .ok (.goto (-95), 3) := by decide +kernel
theorem dX10_behind_105 : decode mX10_behind.2.2.1 105 = .ok (.iload_n 2, 1) := by decide +kernel
theorem dX10_behind_106 : decode mX10_behind.2.2.1 106 = .ok (.ireturn, 1) := by decide +kernel
theorem dX10_isKey_0 : decode mX10_isKey.2.2.1 0 = .ok (.aload_n 0, 1) := by decide +kernel
theorem dX10_isKey_1 : decode mX10_isKey.2.2.1 1 = .ok (.getfield 38, 3) := by decide +kernel
theorem dX10_isKey_4 : decode mX10_isKey.2.2.1 4 = .ok (.iload_n 2, 1) := by decide +kernel
theorem dX10_isKey_5 : decode mX10_isKey.2.2.1 5 = .ok (.iconst 1, 1) := by decide +kernel
theorem dX10_isKey_6 : decode mX10_isKey.2.2.1 6 = .ok (.iadd, 1) := by decide +kernel
theorem dX10_isKey_7 : decode mX10_isKey.2.2.1 7 = .ok (.iaload, 1) := by decide +kernel
theorem dX10_isKey_8 : decode mX10_isKey.2.2.1 8 = .ok (.aload_n 0, 1) := by decide +kernel
theorem dX10_isKey_9 : decode mX10_isKey.2.2.1 9 = .ok (.getfield 38, 3) := by decide +kernel
theorem dX10_isKey_12 : decode mX10_isKey.2.2.1 12 = .ok (.iload_n 2, 1) := by decide +kernel
theorem dX10_isKey_13 : decode mX10_isKey.2.2.1 13 = .ok (.iaload, 1) := by decide +kernel
theorem dX10_isKey_14 : decode mX10_isKey.2.2.1 14 = .ok (.isub, 1) := by decide +kernel
theorem dX10_isKey_15 : decode mX10_isKey.2.2.1 15 = .ok (.istore_n 3, 1) := by decide +kernel
theorem dX10_isKey_16 : decode mX10_isKey.2.2.1 16 = .ok (.aload_n 0, 1) := by decide +kernel
theorem dX10_isKey_17 : decode mX10_isKey.2.2.1 17 = .ok (.iload_n 1, 1) := by decide +kernel
theorem dX10_isKey_18 : decode mX10_isKey.2.2.1 18 = .ok (.invokevirtual 193, 3) := by decide +kernel
theorem dX10_isKey_21 : decode mX10_isKey.2.2.1 21 = .ok (.iload_n 3, 1) := by decide +kernel
theorem dX10_isKey_22 : decode mX10_isKey.2.2.1 22 = .ok (.if_icmp .eq 5, 3) := by decide +kernel
theorem dX10_isKey_25 : decode mX10_isKey.2.2.1 25 = .ok (.iconst 0, 1) := by decide +kernel
theorem dX10_isKey_26 : decode mX10_isKey.2.2.1 26 = .ok (.ireturn, 1) := by decide +kernel
theorem dX10_isKey_27 : decode mX10_isKey.2.2.1 27 = .ok (.aload_n 0, 1) := by decide +kernel
theorem dX10_isKey_28 : decode mX10_isKey.2.2.1 28 = .ok (.iload_n 1, 1) := by decide +kernel
theorem dX10_isKey_29 : decode mX10_isKey.2.2.1 29 = .ok (.invokevirtual 190, 3) := by decide +kernel
theorem dX10_isKey_32 : decode mX10_isKey.2.2.1 32 = .ok (.istore 4, 2) := by decide +kernel
theorem dX10_isKey_34 : decode mX10_isKey.2.2.1 34 = .ok (.iconst 0, 1) := by decide +kernel
theorem dX10_isKey_35 : decode mX10_isKey.2.2.1 35 = .ok (.istore 5, 2) := by decide +kernel
theorem dX10_isKey_37 : decode mX10_isKey.2.2.1 37 = .ok (.iload 5, 2) := by decide +kernel
theorem dX10_isKey_39 : decode mX10_isKey.2.2.1 39 = .ok (.iload_n 3, 1) := by decide +kernel
theorem dX10_isKey_40 : decode mX10_isKey.2.2.1 40 = .ok (.if_icmp .ge 38, 3) := by decide +kernel
theorem dX10_isKey_43 : decode mX10_isKey.2.2.1 43 = .ok (.aload_n 0, 1) := by decide +kernel
theorem dX10_isKey_44 : decode mX10_isKey.2.2.1 44 = .ok (.getfield 7, 3) := by decide +kernel
theorem dX10_isKey_47 : decode mX10_isKey.2.2.1 47 = .ok (.iload 4, 2) := by decide +kernel
theorem dX10_isKey_49 : decode mX10_isKey.2.2.1 49 = .ok (.iload 5, 2) := by decide +kernel
theorem dX10_isKey_51 : decode mX10_isKey.2.2.1 51 = .ok (.iadd, 1) := by decide +kernel
theorem dX10_isKey_52 : decode mX10_isKey.2.2.1 52 = .ok (.baload, 1) := by decide +kernel
theorem dX10_isKey_53 : decode mX10_isKey.2.2.1 53 = .ok (.aload_n 0, 1) := by decide +kernel
theorem dX10_isKey_54 : decode mX10_isKey.2.2.1 54 = .ok (.getfield 35, 3) := by decide +kernel
theorem dX10_isKey_57 : decode mX10_isKey.2.2.1 57 = .ok (.aload_n 0, 1) := by decide +kernel
theorem dX10_isKey_58 : decode mX10_isKey.2.2.1 58 = .ok (.getfield 38, 3) := by decide +kernel
theorem dX10_isKey_61 : decode mX10_isKey.2.2.1 61 = .ok (.iload_n 2, 1) := by decide +kernel
theorem dX10_isKey_62 : decode mX10_isKey.2.2.1 62 = .ok (.iaload, 1) := by decide +kernel
theorem dX10_isKey_63 : decode mX10_isKey.2.2.1 63 = .ok (.iload 5, 2) := by decide +kernel
theorem dX10_isKey_65 : decode mX10_isKey.2.2.1 65 = .ok (.iadd, 1) := by decide +kernel
theorem dX10_isKey_66 : decode mX10_isKey.2.2.1 66 = .ok (.baload, 1) := by decide +kernel
theorem dX10_isKey_67 : decode mX10_isKey.2.2.1 67 = .ok (.if_icmp .eq 5, 3) := by decide +kernel
theorem dX10_isKey_70 : decode mX10_isKey.2.2.1 70 = .ok (.iconst 0, 1) := by decide +kernel
theorem dX10_isKey_71 : decode mX10_isKey.2.2.1 71 = .ok (.ireturn, 1) := by decide +kernel
theorem dX10_isKey_72 : decode mX10_isKey.2.2.1 72 = .ok (.iinc 5 1, 3) := by decide +kernel
theorem dX10_isKey_75 : decode mX10_isKey.2.2.1 75 = .ok (.goto (-38), 3) := by decide +kernel
theorem dX10_isKey_78 : decode mX10_isKey.2.2.1 78 = .ok (.iconst 1, 1) := by decide +kernel
theorem dX10_isKey_79 : decode mX10_isKey.2.2.1 79 = .ok (.ireturn, 1) := by decide +kernel
theorem dX10_in_0 : decode mX10_in.2.2.1 0 = .ok (.iload_n 1, 1) := by decide +kernel
theorem dX10_in_1 : decode mX10_in.2.2.1 1 = .ok (.iconst 1, 1) := by decide +kernel
theorem dX10_in_2 : decode mX10_in.2.2.1 2 = .ok (.iadd, 1) := by decide +kernel
theorem dX10_in_3 : decode mX10_in.2.2.1 3 = .ok (.istore_n 3, 1) := by decide +kernel
theorem dX10_in_4 : decode mX10_in.2.2.1 4 = .ok (.aload_n 0, 1) := by decide +kernel
theorem dX10_in_5 : decode mX10_in.2.2.1 5 = .ok (.getfield 7, 3) := by decide +kernel
theorem dX10_in_8 : decode mX10_in.2.2.1 8 = .ok (.iload_n 3, 1) := by decide +kernel
theorem dX10_in_9 : decode mX10_in.2.2.1 9 = .ok (.baload, 1) := by decide +kernel
theorem dX10_in_10 : decode mX10_in.2.2.1 10 = .ok (.bipush 101, 2) := by decide +kernel
theorem dX10_in_12 : decode mX10_in.2.2.1 12 = .ok (.if_icmp .eq 32, 3) := by decide +kernel
theorem dX10_in_15 : decode mX10_in.2.2.1 15 = .ok (.aload_n 0, 1) := by decide +kernel
theorem dX10_in_16 : decode mX10_in.2.2.1 16 = .ok (.iload_n 3, 1) := by decide +kernel
theorem dX10_in_17 : decode mX10_in.2.2.1 17 = .ok (.invokevirtual 209, 3) := by decide +kernel
theorem dX10_in_20 : decode mX10_in.2.2.1 20 = .ok (.istore 4, 2) := by decide +kernel
theorem dX10_in_22 : decode mX10_in.2.2.1 22 = .ok (.aload_n 0, 1) := by decide +kernel
theorem dX10_in_23 : decode mX10_in.2.2.1 23 = .ok (.iload_n 3, 1) := by decide +kernel
theorem dX10_in_24 : decode mX10_in.2.2.1 24 = .ok (.iload_n 2, 1) := by decide +kernel
theorem dX10_in_25 : decode mX10_in.2.2.1 25 = .ok (.invokevirtual 212, 3) := by decide +kernel
theorem dX10_in_28 : decode mX10_in.2.2.1 28 = .ok (.ifCond .eq 6, 3) := by decide +kernel
theorem dX10_in_31 : decode mX10_in.2.2.1 31 = .ok (.iload 4, 2) := by decide +kernel
theorem dX10_in_33 : decode mX10_in.2.2.1 33 = .ok (.ireturn, 1) := by decide +kernel
theorem dX10_in_34 : decode mX10_in.2.2.1 34 = .ok (.aload_n 0, 1) := by decide +kernel
theorem dX10_in_35 : decode mX10_in.2.2.1 35 = .ok (.iload 4, 2) := by decide +kernel
theorem dX10_in_37 : decode mX10_in.2.2.1 37 = .ok (.invokevirtual 209, 3) := by decide +kernel
theorem dX10_in_40 : decode mX10_in.2.2.1 40 = .ok (.istore_n 3, 1) := by decide +kernel
theorem dX10_in_41 : decode mX10_in.2.2.1 41 = .ok (.goto (-37), 3) := by decide +kernel
theorem dX10_in_44 : decode mX10_in.2.2.1 44 = .ok (.iconst (-1), 1) := by decide +kernel
theorem dX10_in_45 : decode mX10_in.2.2.1 45 = .ok (.ireturn, 1) := by decide +kernel
theorem dX10_natural_0 : decode mX10_natural.2.2.1 0 = .ok (.iload_n 1, 1) := by decide +kernel
theorem dX10_natural_1 : decode mX10_natural.2.2.1 1 = .ok (.ifCond .lt 27, 3) := by decide +kernel
theorem dX10_natural_4 : decode mX10_natural.2.2.1 4 = .ok (.aload_n 0, 1) := by decide +kernel
theorem dX10_natural_5 : decode mX10_natural.2.2.1 5 = .ok (.getfield 7, 3) := by decide +kernel
theorem dX10_natural_8 : decode mX10_natural.2.2.1 8 = .ok (.iload_n 1, 1) := by decide +kernel
theorem dX10_natural_9 : decode mX10_natural.2.2.1 9 = .ok (.baload, 1) := by decide +kernel
theorem dX10_natural_10 : decode mX10_natural.2.2.1 10 = .ok (.bipush 105, 2) := by decide +kernel
theorem dX10_natural_12 : decode mX10_natural.2.2.1 12 = .ok (.if_icmp .ne 16, 3) := by decide +kernel
theorem dX10_natural_15 : decode mX10_natural.2.2.1 15 = .ok (.aload_n 0, 1) := by decide +kernel
theorem dX10_natural_16 : decode mX10_natural.2.2.1 16 = .ok (.getfield 7, 3) := by decide +kernel
theorem dX10_natural_19 : decode mX10_natural.2.2.1 19 = .ok (.iload_n 1, 1) := by decide +kernel
theorem dX10_natural_20 : decode mX10_natural.2.2.1 20 = .ok (.iconst 1, 1) := by decide +kernel
theorem dX10_natural_21 : decode mX10_natural.2.2.1 21 = .ok (.iadd, 1) := by decide +kernel
theorem dX10_natural_22 : decode mX10_natural.2.2.1 22 = .ok (.baload, 1) := by decide +kernel
theorem dX10_natural_23 : decode mX10_natural.2.2.1 23 = .ok (.bipush 45, 2) := by decide +kernel
theorem dX10_natural_25 : decode mX10_natural.2.2.1 25 = .ok (.if_icmp .ne 7, 3) := by decide +kernel
theorem dX10_natural_28 : decode mX10_natural.2.2.1 28 = .ok (.iconst (-1), 1) := by decide +kernel
theorem dX10_natural_29 : decode mX10_natural.2.2.1 29 = .ok (.goto 17, 3) := by decide +kernel
theorem dX10_natural_32 : decode mX10_natural.2.2.1 32 = .ok (.aload_n 0, 1) := by decide +kernel
theorem dX10_natural_33 : decode mX10_natural.2.2.1 33 = .ok (.iload_n 1, 1) := by decide +kernel
theorem dX10_natural_34 : decode mX10_natural.2.2.1 34 = .ok (.iconst 1, 1) := by decide +kernel
theorem dX10_natural_35 : decode mX10_natural.2.2.1 35 = .ok (.iadd, 1) := by decide +kernel
theorem dX10_natural_36 : decode mX10_natural.2.2.1 36 = .ok (.aload_n 0, 1) := by decide +kernel
theorem dX10_natural_37 : decode mX10_natural.2.2.1 37 = .ok (.iload_n 1, 1) := by decide +kernel
theorem dX10_natural_38 : decode mX10_natural.2.2.1 38 = .ok (.invokevirtual 209, 3) := by decide +kernel
theorem dX10_natural_41 : decode mX10_natural.2.2.1 41 = .ok (.iconst 1, 1) := by decide +kernel
theorem dX10_natural_42 : decode mX10_natural.2.2.1 42 = .ok (.isub, 1) := by decide +kernel
theorem dX10_natural_43 : decode mX10_natural.2.2.1 43 = .ok (.invokevirtual 187, 3) := by decide +kernel
theorem dX10_natural_46 : decode mX10_natural.2.2.1 46 = .ok (.ireturn, 1) := by decide +kernel
theorem dX10_isName_0 : decode mX10_isName.2.2.1 0 = .ok (.iload_n 1, 1) := by decide +kernel
theorem dX10_isName_1 : decode mX10_isName.2.2.1 1 = .ok (.ifCond .lt 38, 3) := by decide +kernel
theorem dX10_isName_4 : decode mX10_isName.2.2.1 4 = .ok (.aload_n 0, 1) := by decide +kernel
theorem dX10_isName_5 : decode mX10_isName.2.2.1 5 = .ok (.getfield 7, 3) := by decide +kernel
theorem dX10_isName_8 : decode mX10_isName.2.2.1 8 = .ok (.iload_n 1, 1) := by decide +kernel
theorem dX10_isName_9 : decode mX10_isName.2.2.1 9 = .ok (.baload, 1) := by decide +kernel
theorem dX10_isName_10 : decode mX10_isName.2.2.1 10 = .ok (.invokestatic 176, 3) := by decide +kernel
theorem dX10_isName_13 : decode mX10_isName.2.2.1 13 = .ok (.ifCond .eq 26, 3) := by decide +kernel
theorem dX10_isName_16 : decode mX10_isName.2.2.1 16 = .ok (.aload_n 0, 1) := by decide +kernel
theorem dX10_isName_17 : decode mX10_isName.2.2.1 17 = .ok (.iload_n 1, 1) := by decide +kernel
theorem dX10_isName_18 : decode mX10_isName.2.2.1 18 = .ok (.invokevirtual 193, 3) := by decide +kernel
theorem dX10_isName_21 : decode mX10_isName.2.2.1 21 = .ok (.iconst 1, 1) := by decide +kernel
theorem dX10_isName_22 : decode mX10_isName.2.2.1 22 = .ok (.if_icmp .lt 17, 3) := by decide +kernel
theorem dX10_isName_25 : decode mX10_isName.2.2.1 25 = .ok (.aload_n 0, 1) := by decide +kernel
theorem dX10_isName_26 : decode mX10_isName.2.2.1 26 = .ok (.iload_n 1, 1) := by decide +kernel
theorem dX10_isName_27 : decode mX10_isName.2.2.1 27 = .ok (.invokevirtual 193, 3) := by decide +kernel
theorem dX10_isName_30 : decode mX10_isName.2.2.1 30 = .ok (.bipush 60, 2) := by decide +kernel
theorem dX10_isName_32 : decode mX10_isName.2.2.1 32 = .ok (.if_icmp .gt 7, 3) := by decide +kernel
theorem dX10_isName_35 : decode mX10_isName.2.2.1 35 = .ok (.iconst 1, 1) := by decide +kernel
theorem dX10_isName_36 : decode mX10_isName.2.2.1 36 = .ok (.goto 4, 3) := by decide +kernel
theorem dX10_isName_39 : decode mX10_isName.2.2.1 39 = .ok (.iconst 0, 1) := by decide +kernel
theorem dX10_isName_40 : decode mX10_isName.2.2.1 40 = .ok (.ireturn, 1) := by decide +kernel
theorem dX10_isFile_0 : decode mX10_isFile.2.2.1 0 = .ok (.aload_n 0, 1) := by decide +kernel
theorem dX10_isFile_1 : decode mX10_isFile.2.2.1 1 = .ok (.getfield 7, 3) := by decide +kernel
theorem dX10_isFile_4 : decode mX10_isFile.2.2.1 4 = .ok (.iload_n 1, 1) := by decide +kernel
theorem dX10_isFile_5 : decode mX10_isFile.2.2.1 5 = .ok (.baload, 1) := by decide +kernel
theorem dX10_isFile_6 : decode mX10_isFile.2.2.1 6 = .ok (.bipush 100, 2) := by decide +kernel
theorem dX10_isFile_8 : decode mX10_isFile.2.2.1 8 = .ok (.if_icmp .eq 5, 3) := by decide +kernel
theorem dX10_isFile_11 : decode mX10_isFile.2.2.1 11 = .ok (.iconst 0, 1) := by decide +kernel
theorem dX10_isFile_12 : decode mX10_isFile.2.2.1 12 = .ok (.ireturn, 1) := by decide +kernel
theorem dX10_isFile_13 : decode mX10_isFile.2.2.1 13 = .ok (.aload_n 0, 1) := by decide +kernel
theorem dX10_isFile_14 : decode mX10_isFile.2.2.1 14 = .ok (.aload_n 0, 1) := by decide +kernel
theorem dX10_isFile_15 : decode mX10_isFile.2.2.1 15 = .ok (.iload_n 1, 1) := by decide +kernel
theorem dX10_isFile_16 : decode mX10_isFile.2.2.1 16 = .ok (.iconst 3, 1) := by decide +kernel
theorem dX10_isFile_17 : decode mX10_isFile.2.2.1 17 = .ok (.invokevirtual 215, 3) := by decide +kernel
theorem dX10_isFile_20 : decode mX10_isFile.2.2.1 20 = .ok (.invokevirtual 218, 3) := by decide +kernel
theorem dX10_isFile_23 : decode mX10_isFile.2.2.1 23 = .ok (.istore_n 2, 1) := by decide +kernel
theorem dX10_isFile_24 : decode mX10_isFile.2.2.1 24 = .ok (.aload_n 0, 1) := by decide +kernel
theorem dX10_isFile_25 : decode mX10_isFile.2.2.1 25 = .ok (.iload_n 1, 1) := by decide +kernel
theorem dX10_isFile_26 : decode mX10_isFile.2.2.1 26 = .ok (.iconst 5, 1) := by decide +kernel
theorem dX10_isFile_27 : decode mX10_isFile.2.2.1 27 = .ok (.invokevirtual 215, 3) := by decide +kernel
theorem dX10_isFile_30 : decode mX10_isFile.2.2.1 30 = .ok (.istore_n 3, 1) := by decide +kernel
theorem dX10_isFile_31 : decode mX10_isFile.2.2.1 31 = .ok (.iload_n 2, 1) := by decide +kernel
theorem dX10_isFile_32 : decode mX10_isFile.2.2.1 32 = .ok (.ifCond .lt 25, 3) := by decide +kernel
theorem dX10_isFile_35 : decode mX10_isFile.2.2.1 35 = .ok (.iload_n 2, 1) := by decide +kernel
theorem dX10_isFile_36 : decode mX10_isFile.2.2.1 36 = .ok (.sipush 4096, 3) := by decide +kernel
theorem dX10_isFile_39 : decode mX10_isFile.2.2.1 39 = .ok (.if_icmp .gt 18, 3) := by decide +kernel
theorem dX10_isFile_42 : decode mX10_isFile.2.2.1 42 = .ok (.iload_n 3, 1) := by decide +kernel
theorem dX10_isFile_43 : decode mX10_isFile.2.2.1 43 = .ok (.ifCond .lt 14, 3) := by decide +kernel
theorem dX10_isFile_46 : decode mX10_isFile.2.2.1 46 = .ok (.aload_n 0, 1) := by decide +kernel
theorem dX10_isFile_47 : decode mX10_isFile.2.2.1 47 = .ok (.getfield 7, 3) := by decide +kernel
theorem dX10_isFile_50 : decode mX10_isFile.2.2.1 50 = .ok (.iload_n 3, 1) := by decide +kernel
theorem dX10_isFile_51 : decode mX10_isFile.2.2.1 51 = .ok (.baload, 1) := by decide +kernel
theorem dX10_isFile_52 : decode mX10_isFile.2.2.1 52 = .ok (.bipush 108, 2) := by decide +kernel
theorem dX10_isFile_54 : decode mX10_isFile.2.2.1 54 = .ok (.if_icmp .eq 5, 3) := by decide +kernel
theorem dX10_isFile_57 : decode mX10_isFile.2.2.1 57 = .ok (.iconst 0, 1) := by decide +kernel
theorem dX10_isFile_58 : decode mX10_isFile.2.2.1 58 = .ok (.ireturn, 1) := by decide +kernel
theorem dX10_isFile_59 : decode mX10_isFile.2.2.1 59 = .ok (.iconst 0, 1) := by decide +kernel
theorem dX10_isFile_60 : decode mX10_isFile.2.2.1 60 = .ok (.istore 4, 2) := by decide +kernel
theorem dX10_isFile_62 : decode mX10_isFile.2.2.1 62 = .ok (.iload_n 3, 1) := by decide +kernel
theorem dX10_isFile_63 : decode mX10_isFile.2.2.1 63 = .ok (.iconst 1, 1) := by decide +kernel
theorem dX10_isFile_64 : decode mX10_isFile.2.2.1 64 = .ok (.iadd, 1) := by decide +kernel
theorem dX10_isFile_65 : decode mX10_isFile.2.2.1 65 = .ok (.istore 5, 2) := by decide +kernel
theorem dX10_isFile_67 : decode mX10_isFile.2.2.1 67 = .ok (.aload_n 0, 1) := by decide +kernel
theorem dX10_isFile_68 : decode mX10_isFile.2.2.1 68 = .ok (.getfield 7, 3) := by decide +kernel
theorem dX10_isFile_71 : decode mX10_isFile.2.2.1 71 = .ok (.iload 5, 2) := by decide +kernel
theorem dX10_isFile_73 : decode mX10_isFile.2.2.1 73 = .ok (.baload, 1) := by decide +kernel
theorem dX10_isFile_74 : decode mX10_isFile.2.2.1 74 = .ok (.bipush 101, 2) := by decide +kernel
theorem dX10_isFile_76 : decode mX10_isFile.2.2.1 76 = .ok (.if_icmp .eq 28, 3) := by decide +kernel
theorem dX10_isFile_79 : decode mX10_isFile.2.2.1 79 = .ok (.aload_n 0, 1) := by decide +kernel
theorem dX10_isFile_80 : decode mX10_isFile.2.2.1 80 = .ok (.iload 5, 2) := by decide +kernel
theorem dX10_isFile_82 : decode mX10_isFile.2.2.1 82 = .ok (.invokevirtual 221, 3) := by decide +kernel
theorem dX10_isFile_85 : decode mX10_isFile.2.2.1 85 = .ok (.ifCond .ne 5, 3) := by decide +kernel
theorem dX10_isFile_88 : decode mX10_isFile.2.2.1 88 = .ok (.iconst 0, 1) := by decide +kernel
theorem dX10_isFile_89 : decode mX10_isFile.2.2.1 89 = .ok (.ireturn, 1) := by decide +kernel
theorem dX10_isFile_90 : decode mX10_isFile.2.2.1 90 = .ok (.iinc 4 1, 3) := by decide +kernel
theorem dX10_isFile_93 : decode mX10_isFile.2.2.1 93 = .ok (.aload_n 0, 1) := by decide +kernel
theorem dX10_isFile_94 : decode mX10_isFile.2.2.1 94 = .ok (.iload 5, 2) := by decide +kernel
theorem dX10_isFile_96 : decode mX10_isFile.2.2.1 96 = .ok (.invokevirtual 209, 3) := by decide +kernel
theorem dX10_isFile_99 : decode mX10_isFile.2.2.1 99 = .ok (.istore 5, 2) := by decide +kernel
theorem dX10_isFile_101 : decode mX10_isFile.2.2.1 101 = .ok (.goto (-34), 3) := by decide +kernel
theorem dX10_isFile_104 : decode mX10_isFile.2.2.1 104 = .ok (.iload 4, 2) := by decide +kernel
theorem dX10_isFile_106 : decode mX10_isFile.2.2.1 106 = .ok (.iconst 1, 1) := by decide +kernel
theorem dX10_isFile_107 : decode mX10_isFile.2.2.1 107 = .ok (.if_icmp .lt 10, 3) := by decide +kernel
theorem dX10_isFile_110 : decode mX10_isFile.2.2.1 110 = .ok (.iload 4, 2) := by decide +kernel
theorem dX10_isFile_112 : decode mX10_isFile.2.2.1 112 = .ok (.bipush 8, 2) := by decide +kernel
theorem dX10_isFile_114 : decode mX10_isFile.2.2.1 114 = .ok (.if_icmp .le 5, 3) := by decide +kernel
theorem dX10_isFile_117 : decode mX10_isFile.2.2.1 117 = .ok (.iconst 0, 1) := by decide +kernel
theorem dX10_isFile_118 : decode mX10_isFile.2.2.1 118 = .ok (.ireturn, 1) := by decide +kernel
theorem dX10_isFile_119 : decode mX10_isFile.2.2.1 119 = .ok (.aload_n 0, 1) := by decide +kernel
theorem dX10_isFile_120 : decode mX10_isFile.2.2.1 120 = .ok (.getfield 60, 3) := by decide +kernel
theorem dX10_isFile_123 : decode mX10_isFile.2.2.1 123 = .ok (.aload_n 0, 1) := by decide +kernel
theorem dX10_isFile_124 : decode mX10_isFile.2.2.1 124 = .ok (.getfield 224, 3) := by decide +kernel
theorem dX10_isFile_127 : decode mX10_isFile.2.2.1 127 = .ok (.iload_n 2, 1) := by decide +kernel
theorem dX10_isFile_128 : decode mX10_isFile.2.2.1 128 = .ok (.iastore, 1) := by decide +kernel
theorem dX10_isFile_129 : decode mX10_isFile.2.2.1 129 = .ok (.aload_n 0, 1) := by decide +kernel
theorem dX10_isFile_130 : decode mX10_isFile.2.2.1 130 = .ok (.getfield 63, 3) := by decide +kernel
theorem dX10_isFile_133 : decode mX10_isFile.2.2.1 133 = .ok (.aload_n 0, 1) := by decide +kernel
theorem dX10_isFile_134 : decode mX10_isFile.2.2.1 134 = .ok (.getfield 224, 3) := by decide +kernel
theorem dX10_isFile_137 : decode mX10_isFile.2.2.1 137 = .ok (.iload 4, 2) := by decide +kernel
theorem dX10_isFile_139 : decode mX10_isFile.2.2.1 139 = .ok (.iastore, 1) := by decide +kernel
theorem dX10_isFile_140 : decode mX10_isFile.2.2.1 140 = .ok (.aload_n 0, 1) := by decide +kernel
theorem dX10_isFile_141 : decode mX10_isFile.2.2.1 141 = .ok (.dup, 1) := by decide +kernel
theorem dX10_isFile_142 : decode mX10_isFile.2.2.1 142 = .ok (.getfield 227, 3) := by decide +kernel
theorem dX10_isFile_145 : decode mX10_isFile.2.2.1 145 = .ok (.iload_n 2, 1) := by decide +kernel
theorem dX10_isFile_146 : decode mX10_isFile.2.2.1 146 = .ok (.iadd, 1) := by decide +kernel
theorem dX10_isFile_147 : decode mX10_isFile.2.2.1 147 = .ok (.putfield 227, 3) := by decide +kernel
theorem dX10_isFile_150 : decode mX10_isFile.2.2.1 150 = .ok (.aload_n 0, 1) := by decide +kernel
theorem dX10_isFile_151 : decode mX10_isFile.2.2.1 151 = .ok (.dup, 1) := by decide +kernel
theorem dX10_isFile_152 : decode mX10_isFile.2.2.1 152 = .ok (.getfield 224, 3) := by decide +kernel
theorem dX10_isFile_155 : decode mX10_isFile.2.2.1 155 = .ok (.iconst 1, 1) := by decide +kernel
theorem dX10_isFile_156 : decode mX10_isFile.2.2.1 156 = .ok (.iadd, 1) := by decide +kernel
theorem dX10_isFile_157 : decode mX10_isFile.2.2.1 157 = .ok (.putfield 224, 3) := by decide +kernel
theorem dX10_isFile_160 : decode mX10_isFile.2.2.1 160 = .ok (.iconst 1, 1) := by decide +kernel
theorem dX10_isFile_161 : decode mX10_isFile.2.2.1 161 = .ok (.ireturn, 1) := by decide +kernel
theorem dX10_hasLengths_0 : decode mX10_hasLengths.2.2.1 0 = .ok (.aload_n 0, 1) := by decide +kernel
theorem dX10_hasLengths_1 : decode mX10_hasLengths.2.2.1 1 = .ok (.iload_n 1, 1) := by decide +kernel
theorem dX10_hasLengths_2 : decode mX10_hasLengths.2.2.1 2 = .ok (.iconst 3, 1) := by decide +kernel
theorem dX10_hasLengths_3 : decode mX10_hasLengths.2.2.1 3 = .ok (.invokevirtual 215, 3) := by decide +kernel
theorem dX10_hasLengths_6 : decode mX10_hasLengths.2.2.1 6 = .ok (.istore_n 2, 1) := by decide +kernel
theorem dX10_hasLengths_7 : decode mX10_hasLengths.2.2.1 7 = .ok (.aload_n 0, 1) := by decide +kernel
theorem dX10_hasLengths_8 : decode mX10_hasLengths.2.2.1 8 = .ok (.iload_n 1, 1) := by decide +kernel
theorem dX10_hasLengths_9 : decode mX10_hasLengths.2.2.1 9 = .ok (.iconst 4, 1) := by decide +kernel
theorem dX10_hasLengths_10 : decode mX10_hasLengths.2.2.1 10 = .ok (.invokevirtual 215, 3) := by decide +kernel
theorem dX10_hasLengths_13 : decode mX10_hasLengths.2.2.1 13 = .ok (.istore_n 3, 1) := by decide +kernel
theorem dX10_hasLengths_14 : decode mX10_hasLengths.2.2.1 14 = .ok (.aload_n 0, 1) := by decide +kernel
theorem dX10_hasLengths_15 : decode mX10_hasLengths.2.2.1 15 = .ok (.iconst 0, 1) := by decide +kernel
theorem dX10_hasLengths_16 : decode mX10_hasLengths.2.2.1 16 = .ok (.putfield 224, 3) := by decide +kernel
theorem dX10_hasLengths_19 : decode mX10_hasLengths.2.2.1 19 = .ok (.aload_n 0, 1) := by decide +kernel
theorem dX10_hasLengths_20 : decode mX10_hasLengths.2.2.1 20 = .ok (.iconst 0, 1) := by decide +kernel
theorem dX10_hasLengths_21 : decode mX10_hasLengths.2.2.1 21 = .ok (.putfield 227, 3) := by decide +kernel
theorem dX10_hasLengths_24 : decode mX10_hasLengths.2.2.1 24 = .ok (.iload_n 2, 1) := by decide +kernel
theorem dX10_hasLengths_25 : decode mX10_hasLengths.2.2.1 25 = .ok (.ifCond .lt 7, 3) := by decide +kernel
theorem dX10_hasLengths_28 : decode mX10_hasLengths.2.2.1 28 = .ok (.iconst 1, 1) := by decide +kernel
theorem dX10_hasLengths_29 : decode mX10_hasLengths.2.2.1 29 = .ok (.goto 4, 3) := by decide +kernel
theorem dX10_hasLengths_32 : decode mX10_hasLengths.2.2.1 32 = .ok (.iconst 0, 1) := by decide +kernel
theorem dX10_hasLengths_33 : decode mX10_hasLengths.2.2.1 33 = .ok (.iload_n 3, 1) := by decide +kernel
theorem dX10_hasLengths_34 : decode mX10_hasLengths.2.2.1 34 = .ok (.ifCond .lt 7, 3) := by decide +kernel
theorem dX10_hasLengths_37 : decode mX10_hasLengths.2.2.1 37 = .ok (.iconst 1, 1) := by decide +kernel
theorem dX10_hasLengths_38 : decode mX10_hasLengths.2.2.1 38 = .ok (.goto 4, 3) := by decide +kernel
theorem dX10_hasLengths_41 : decode mX10_hasLengths.2.2.1 41 = .ok (.iconst 0, 1) := by decide +kernel
theorem dX10_hasLengths_42 : decode mX10_hasLengths.2.2.1 42 = .ok (.if_icmp .ne 5, 3) := by decide +kernel
theorem dX10_hasLengths_45 : decode mX10_hasLengths.2.2.1 45 = .ok (.iconst 0, 1) := by decide +kernel
theorem dX10_hasLengths_46 : decode mX10_hasLengths.2.2.1 46 = .ok (.ireturn, 1) := by decide +kernel
theorem dX10_hasLengths_47 : decode mX10_hasLengths.2.2.1 47 = .ok (.iload_n 2, 1) := by decide +kernel
theorem dX10_hasLengths_48 : decode mX10_hasLengths.2.2.1 48 = .ok (.ifCond .lt 36, 3) := by decide +kernel
theorem dX10_hasLengths_51 : decode mX10_hasLengths.2.2.1 51 = .ok (.aload_n 0, 1) := by decide +kernel
theorem dX10_hasLengths_52 : decode mX10_hasLengths.2.2.1 52 = .ok (.aload_n 0, 1) := by decide +kernel
theorem dX10_hasLengths_53 : decode mX10_hasLengths.2.2.1 53 = .ok (.iload_n 2, 1) := by decide +kernel
theorem dX10_hasLengths_54 : decode mX10_hasLengths.2.2.1 54 = .ok (.invokevirtual 218, 3) := by decide +kernel
theorem dX10_hasLengths_57 : decode mX10_hasLengths.2.2.1 57 = .ok (.putfield 227, 3) := by decide +kernel
theorem dX10_hasLengths_60 : decode mX10_hasLengths.2.2.1 60 = .ok (.aload_n 0, 1) := by decide +kernel
theorem dX10_hasLengths_61 : decode mX10_hasLengths.2.2.1 61 = .ok (.getfield 227, 3) := by decide +kernel
theorem dX10_hasLengths_64 : decode mX10_hasLengths.2.2.1 64 = .ok (.iconst 1, 1) := by decide +kernel
theorem dX10_hasLengths_65 : decode mX10_hasLengths.2.2.1 65 = .ok (.if_icmp .lt 17, 3) := by decide +kernel
theorem dX10_hasLengths_68 : decode mX10_hasLengths.2.2.1 68 = .ok (.aload_n 0, 1) := by decide +kernel
theorem dX10_hasLengths_69 : decode mX10_hasLengths.2.2.1 69 = .ok (.getfield 227, 3) := by decide +kernel
theorem dX10_hasLengths_72 : decode mX10_hasLengths.2.2.1 72 = .ok (.sipush 4096, 3) := by decide +kernel
theorem dX10_hasLengths_75 : decode mX10_hasLengths.2.2.1 75 = .ok (.if_icmp .gt 7, 3) := by decide +kernel
theorem dX10_hasLengths_78 : decode mX10_hasLengths.2.2.1 78 = .ok (.iconst 1, 1) := by decide +kernel
theorem dX10_hasLengths_79 : decode mX10_hasLengths.2.2.1 79 = .ok (.goto 4, 3) := by decide +kernel
theorem dX10_hasLengths_82 : decode mX10_hasLengths.2.2.1 82 = .ok (.iconst 0, 1) := by decide +kernel
theorem dX10_hasLengths_83 : decode mX10_hasLengths.2.2.1 83 = .ok (.ireturn, 1) := by decide +kernel
theorem dX10_hasLengths_84 : decode mX10_hasLengths.2.2.1 84 = .ok (.aload_n 0, 1) := by decide +kernel
theorem dX10_hasLengths_85 : decode mX10_hasLengths.2.2.1 85 = .ok (.getfield 7, 3) := by decide +kernel
theorem dX10_hasLengths_88 : decode mX10_hasLengths.2.2.1 88 = .ok (.iload_n 3, 1) := by decide +kernel
theorem dX10_hasLengths_89 : decode mX10_hasLengths.2.2.1 89 = .ok (.baload, 1) := by decide +kernel
theorem dX10_hasLengths_90 : decode mX10_hasLengths.2.2.1 90 = .ok (.bipush 108, 2) := by decide +kernel
theorem dX10_hasLengths_92 : decode mX10_hasLengths.2.2.1 92 = .ok (.if_icmp .eq 5, 3) := by decide +kernel
theorem dX10_hasLengths_95 : decode mX10_hasLengths.2.2.1 95 = .ok (.iconst 0, 1) := by decide +kernel
theorem dX10_hasLengths_96 : decode mX10_hasLengths.2.2.1 96 = .ok (.ireturn, 1) := by decide +kernel
theorem dX10_hasLengths_97 : decode mX10_hasLengths.2.2.1 97 = .ok (.iload_n 3, 1) := by decide +kernel
theorem dX10_hasLengths_98 : decode mX10_hasLengths.2.2.1 98 = .ok (.iconst 1, 1) := by decide +kernel
theorem dX10_hasLengths_99 : decode mX10_hasLengths.2.2.1 99 = .ok (.iadd, 1) := by decide +kernel
theorem dX10_hasLengths_100 : decode mX10_hasLengths.2.2.1 100 = .ok (.istore 4, 2) := by decide +kernel
theorem dX10_hasLengths_102 : decode mX10_hasLengths.2.2.1 102 = .ok (.aload_n 0, 1) := by decide +kernel
theorem dX10_hasLengths_103 : decode mX10_hasLengths.2.2.1 103 = .ok (.getfield 7, 3) := by decide +kernel
theorem dX10_hasLengths_106 : decode mX10_hasLengths.2.2.1 106 = .ok (.iload 4, 2) := by decide +kernel
theorem dX10_hasLengths_108 : decode mX10_hasLengths.2.2.1 108 = .ok (.baload, 1) := by decide +kernel
theorem dX10_hasLengths_109 : decode mX10_hasLengths.2.2.1 109 = .ok (.bipush 101, 2) := by decide +kernel
theorem dX10_hasLengths_111 : decode mX10_hasLengths.2.2.1 111 = .ok (.if_icmp .eq 34, 3) := by decide +kernel
theorem dX10_hasLengths_114 : decode mX10_hasLengths.2.2.1 114 = .ok (.aload_n 0, 1) := by decide +kernel
theorem dX10_hasLengths_115 : decode mX10_hasLengths.2.2.1 115 = .ok (.getfield 224, 3) := by decide +kernel
theorem dX10_hasLengths_118 : decode mX10_hasLengths.2.2.1 118 = .ok (.bipush 16, 2) := by decide +kernel
theorem dX10_hasLengths_120 : decode mX10_hasLengths.2.2.1 120 = .ok (.if_icmp .eq 12, 3) := by decide +kernel
theorem dX10_hasLengths_123 : decode mX10_hasLengths.2.2.1 123 = .ok (.aload_n 0, 1) := by decide +kernel
theorem dX10_hasLengths_124 : decode mX10_hasLengths.2.2.1 124 = .ok (.iload 4, 2) := by decide +kernel
theorem dX10_hasLengths_126 : decode mX10_hasLengths.2.2.1 126 = .ok (.invokevirtual 230, 3) := by decide +kernel
theorem dX10_hasLengths_129 : decode mX10_hasLengths.2.2.1 129 = .ok (.ifCond .ne 5, 3) := by decide +kernel
theorem dX10_hasLengths_132 : decode mX10_hasLengths.2.2.1 132 = .ok (.iconst 0, 1) := by decide +kernel
theorem dX10_hasLengths_133 : decode mX10_hasLengths.2.2.1 133 = .ok (.ireturn, 1) := by decide +kernel
theorem dX10_hasLengths_134 : decode mX10_hasLengths.2.2.1 134 = .ok (.aload_n 0, 1) := by decide +kernel
theorem dX10_hasLengths_135 : decode mX10_hasLengths.2.2.1 135 = .ok (.iload 4, 2) := by decide +kernel
theorem dX10_hasLengths_137 : decode mX10_hasLengths.2.2.1 137 = .ok (.invokevirtual 209, 3) := by decide +kernel
theorem dX10_hasLengths_140 : decode mX10_hasLengths.2.2.1 140 = .ok (.istore 4, 2) := by decide +kernel
theorem dX10_hasLengths_142 : decode mX10_hasLengths.2.2.1 142 = .ok (.goto (-40), 3) := by decide +kernel
theorem dX10_hasLengths_145 : decode mX10_hasLengths.2.2.1 145 = .ok (.aload_n 0, 1) := by decide +kernel
theorem dX10_hasLengths_146 : decode mX10_hasLengths.2.2.1 146 = .ok (.getfield 224, 3) := by decide +kernel
theorem dX10_hasLengths_149 : decode mX10_hasLengths.2.2.1 149 = .ok (.ifCond .le 25, 3) := by decide +kernel
theorem dX10_hasLengths_152 : decode mX10_hasLengths.2.2.1 152 = .ok (.aload_n 0, 1) := by decide +kernel
theorem dX10_hasLengths_153 : decode mX10_hasLengths.2.2.1 153 = .ok (.getfield 227, 3) := by decide +kernel
theorem dX10_hasLengths_156 : decode mX10_hasLengths.2.2.1 156 = .ok (.iconst 1, 1) := by decide +kernel
theorem dX10_hasLengths_157 : decode mX10_hasLengths.2.2.1 157 = .ok (.if_icmp .lt 17, 3) := by decide +kernel
theorem dX10_hasLengths_160 : decode mX10_hasLengths.2.2.1 160 = .ok (.aload_n 0, 1) := by decide +kernel
theorem dX10_hasLengths_161 : decode mX10_hasLengths.2.2.1 161 = .ok (.getfield 227, 3) := by decide +kernel
theorem dX10_hasLengths_164 : decode mX10_hasLengths.2.2.1 164 = .ok (.sipush 4096, 3) := by decide +kernel
theorem dX10_hasLengths_167 : decode mX10_hasLengths.2.2.1 167 = .ok (.if_icmp .gt 7, 3) := by decide +kernel
theorem dX10_hasLengths_170 : decode mX10_hasLengths.2.2.1 170 = .ok (.iconst 1, 1) := by decide +kernel
theorem dX10_hasLengths_171 : decode mX10_hasLengths.2.2.1 171 = .ok (.goto 4, 3) := by decide +kernel
theorem dX10_hasLengths_174 : decode mX10_hasLengths.2.2.1 174 = .ok (.iconst 0, 1) := by decide +kernel
theorem dX10_hasLengths_175 : decode mX10_hasLengths.2.2.1 175 = .ok (.ireturn, 1) := by decide +kernel
theorem dX10_meta_0 : decode mX10_meta.2.2.1 0 = .ok (.aload_n 0, 1) := by decide +kernel
theorem dX10_meta_1 : decode mX10_meta.2.2.1 1 = .ok (.getfield 7, 3) := by decide +kernel
theorem dX10_meta_4 : decode mX10_meta.2.2.1 4 = .ok (.iconst 0, 1) := by decide +kernel
theorem dX10_meta_5 : decode mX10_meta.2.2.1 5 = .ok (.baload, 1) := by decide +kernel
theorem dX10_meta_6 : decode mX10_meta.2.2.1 6 = .ok (.bipush 100, 2) := by decide +kernel
theorem dX10_meta_8 : decode mX10_meta.2.2.1 8 = .ok (.if_icmp .ne 12, 3) := by decide +kernel
theorem dX10_meta_11 : decode mX10_meta.2.2.1 11 = .ok (.aload_n 0, 1) := by decide +kernel
theorem dX10_meta_12 : decode mX10_meta.2.2.1 12 = .ok (.iconst 0, 1) := by decide +kernel
theorem dX10_meta_13 : decode mX10_meta.2.2.1 13 = .ok (.iconst 0, 1) := by decide +kernel
theorem dX10_meta_14 : decode mX10_meta.2.2.1 14 = .ok (.invokevirtual 215, 3) := by decide +kernel
theorem dX10_meta_17 : decode mX10_meta.2.2.1 17 = .ok (.goto 4, 3) := by decide +kernel
theorem dX10_meta_20 : decode mX10_meta.2.2.1 20 = .ok (.iconst (-1), 1) := by decide +kernel
theorem dX10_meta_21 : decode mX10_meta.2.2.1 21 = .ok (.istore_n 1, 1) := by decide +kernel
theorem dX10_meta_22 : decode mX10_meta.2.2.1 22 = .ok (.iload_n 1, 1) := by decide +kernel
theorem dX10_meta_23 : decode mX10_meta.2.2.1 23 = .ok (.ifCond .lt 14, 3) := by decide +kernel
theorem dX10_meta_26 : decode mX10_meta.2.2.1 26 = .ok (.aload_n 0, 1) := by decide +kernel
theorem dX10_meta_27 : decode mX10_meta.2.2.1 27 = .ok (.getfield 7, 3) := by decide +kernel
theorem dX10_meta_30 : decode mX10_meta.2.2.1 30 = .ok (.iload_n 1, 1) := by decide +kernel
theorem dX10_meta_31 : decode mX10_meta.2.2.1 31 = .ok (.baload, 1) := by decide +kernel
theorem dX10_meta_32 : decode mX10_meta.2.2.1 32 = .ok (.bipush 100, 2) := by decide +kernel
theorem dX10_meta_34 : decode mX10_meta.2.2.1 34 = .ok (.if_icmp .eq 5, 3) := by decide +kernel
theorem dX10_meta_37 : decode mX10_meta.2.2.1 37 = .ok (.iconst 2, 1) := by decide +kernel
theorem dX10_meta_38 : decode mX10_meta.2.2.1 38 = .ok (.ireturn, 1) := by decide +kernel
theorem dX10_meta_39 : decode mX10_meta.2.2.1 39 = .ok (.aload_n 0, 1) := by decide +kernel
theorem dX10_meta_40 : decode mX10_meta.2.2.1 40 = .ok (.aload_n 0, 1) := by decide +kernel
theorem dX10_meta_41 : decode mX10_meta.2.2.1 41 = .ok (.iload_n 1, 1) := by decide +kernel
theorem dX10_meta_42 : decode mX10_meta.2.2.1 42 = .ok (.iconst 1, 1) := by decide +kernel
theorem dX10_meta_43 : decode mX10_meta.2.2.1 43 = .ok (.invokevirtual 215, 3) := by decide +kernel
theorem dX10_meta_46 : decode mX10_meta.2.2.1 46 = .ok (.invokevirtual 221, 3) := by decide +kernel
theorem dX10_meta_49 : decode mX10_meta.2.2.1 49 = .ok (.ifCond .ne 5, 3) := by decide +kernel
theorem dX10_meta_52 : decode mX10_meta.2.2.1 52 = .ok (.iconst 3, 1) := by decide +kernel
theorem dX10_meta_53 : decode mX10_meta.2.2.1 53 = .ok (.ireturn, 1) := by decide +kernel
theorem dX10_meta_54 : decode mX10_meta.2.2.1 54 = .ok (.aload_n 0, 1) := by decide +kernel
theorem dX10_meta_55 : decode mX10_meta.2.2.1 55 = .ok (.aload_n 0, 1) := by decide +kernel
theorem dX10_meta_56 : decode mX10_meta.2.2.1 56 = .ok (.iload_n 1, 1) := by decide +kernel
theorem dX10_meta_57 : decode mX10_meta.2.2.1 57 = .ok (.iconst 2, 1) := by decide +kernel
theorem dX10_meta_58 : decode mX10_meta.2.2.1 58 = .ok (.invokevirtual 215, 3) := by decide +kernel
theorem dX10_meta_61 : decode mX10_meta.2.2.1 61 = .ok (.invokevirtual 218, 3) := by decide +kernel
theorem dX10_meta_64 : decode mX10_meta.2.2.1 64 = .ok (.istore_n 2, 1) := by decide +kernel
theorem dX10_meta_65 : decode mX10_meta.2.2.1 65 = .ok (.iload_n 2, 1) := by decide +kernel
theorem dX10_meta_66 : decode mX10_meta.2.2.1 66 = .ok (.bipush 32, 2) := by decide +kernel
theorem dX10_meta_68 : decode mX10_meta.2.2.1 68 = .ok (.if_icmp .lt 10, 3) := by decide +kernel
theorem dX10_meta_71 : decode mX10_meta.2.2.1 71 = .ok (.iload_n 2, 1) := by decide +kernel
theorem dX10_meta_72 : decode mX10_meta.2.2.1 72 = .ok (.sipush 1024, 3) := by decide +kernel
theorem dX10_meta_75 : decode mX10_meta.2.2.1 75 = .ok (.if_icmp .le 5, 3) := by decide +kernel
theorem dX10_meta_78 : decode mX10_meta.2.2.1 78 = .ok (.iconst 4, 1) := by decide +kernel
theorem dX10_meta_79 : decode mX10_meta.2.2.1 79 = .ok (.ireturn, 1) := by decide +kernel
theorem dX10_meta_80 : decode mX10_meta.2.2.1 80 = .ok (.aload_n 0, 1) := by decide +kernel
theorem dX10_meta_81 : decode mX10_meta.2.2.1 81 = .ok (.iload_n 1, 1) := by decide +kernel
theorem dX10_meta_82 : decode mX10_meta.2.2.1 82 = .ok (.invokevirtual 233, 3) := by decide +kernel
theorem dX10_meta_85 : decode mX10_meta.2.2.1 85 = .ok (.ifCond .ne 5, 3) := by decide +kernel
theorem dX10_meta_88 : decode mX10_meta.2.2.1 88 = .ok (.iconst 5, 1) := by decide +kernel
theorem dX10_meta_89 : decode mX10_meta.2.2.1 89 = .ok (.ireturn, 1) := by decide +kernel
theorem dX10_meta_90 : decode mX10_meta.2.2.1 90 = .ok (.aload_n 0, 1) := by decide +kernel
theorem dX10_meta_91 : decode mX10_meta.2.2.1 91 = .ok (.getfield 227, 3) := by decide +kernel
theorem dX10_meta_94 : decode mX10_meta.2.2.1 94 = .ok (.iload_n 2, 1) := by decide +kernel
theorem dX10_meta_95 : decode mX10_meta.2.2.1 95 = .ok (.iadd, 1) := by decide +kernel
theorem dX10_meta_96 : decode mX10_meta.2.2.1 96 = .ok (.iconst 1, 1) := by decide +kernel
theorem dX10_meta_97 : decode mX10_meta.2.2.1 97 = .ok (.isub, 1) := by decide +kernel
theorem dX10_meta_98 : decode mX10_meta.2.2.1 98 = .ok (.iload_n 2, 1) := by decide +kernel
theorem dX10_meta_99 : decode mX10_meta.2.2.1 99 = .ok (.idiv, 1) := by decide +kernel
theorem dX10_meta_100 : decode mX10_meta.2.2.1 100 = .ok (.istore_n 3, 1) := by decide +kernel
theorem dX10_meta_101 : decode mX10_meta.2.2.1 101 = .ok (.aload_n 0, 1) := by decide +kernel
theorem dX10_meta_102 : decode mX10_meta.2.2.1 102 = .ok (.iload_n 1, 1) := by decide +kernel
theorem dX10_meta_103 : decode mX10_meta.2.2.1 103 = .ok (.bipush 6, 2) := by decide +kernel
theorem dX10_meta_105 : decode mX10_meta.2.2.1 105 = .ok (.invokevirtual 215, 3) := by decide +kernel
theorem dX10_meta_108 : decode mX10_meta.2.2.1 108 = .ok (.istore 4, 2) := by decide +kernel
theorem dX10_meta_110 : decode mX10_meta.2.2.1 110 = .ok (.iload_n 3, 1) := by decide +kernel
theorem dX10_meta_111 : decode mX10_meta.2.2.1 111 = .ok (.bipush 64, 2) := by decide +kernel
theorem dX10_meta_113 : decode mX10_meta.2.2.1 113 = .ok (.if_icmp .gt 34, 3) := by decide +kernel
theorem dX10_meta_116 : decode mX10_meta.2.2.1 116 = .ok (.iload 4, 2) := by decide +kernel
theorem dX10_meta_118 : decode mX10_meta.2.2.1 118 = .ok (.ifCond .lt 29, 3) := by decide +kernel
theorem dX10_meta_121 : decode mX10_meta.2.2.1 121 = .ok (.aload_n 0, 1) := by decide +kernel
theorem dX10_meta_122 : decode mX10_meta.2.2.1 122 = .ok (.getfield 7, 3) := by decide +kernel
theorem dX10_meta_125 : decode mX10_meta.2.2.1 125 = .ok (.iload 4, 2) := by decide +kernel
theorem dX10_meta_127 : decode mX10_meta.2.2.1 127 = .ok (.baload, 1) := by decide +kernel
theorem dX10_meta_128 : decode mX10_meta.2.2.1 128 = .ok (.invokestatic 176, 3) := by decide +kernel
theorem dX10_meta_131 : decode mX10_meta.2.2.1 131 = .ok (.ifCond .eq 16, 3) := by decide +kernel
theorem dX10_meta_134 : decode mX10_meta.2.2.1 134 = .ok (.aload_n 0, 1) := by decide +kernel
theorem dX10_meta_135 : decode mX10_meta.2.2.1 135 = .ok (.iload 4, 2) := by decide +kernel
theorem dX10_meta_137 : decode mX10_meta.2.2.1 137 = .ok (.invokevirtual 193, 3) := by decide +kernel
theorem dX10_meta_140 : decode mX10_meta.2.2.1 140 = .ok (.bipush 20, 2) := by decide +kernel
theorem dX10_meta_142 : decode mX10_meta.2.2.1 142 = .ok (.iload_n 3, 1) := by decide +kernel
theorem dX10_meta_143 : decode mX10_meta.2.2.1 143 = .ok (.imul, 1) := by decide +kernel
theorem dX10_meta_144 : decode mX10_meta.2.2.1 144 = .ok (.if_icmp .eq 6, 3) := by decide +kernel
theorem dX10_meta_147 : decode mX10_meta.2.2.1 147 = .ok (.bipush 6, 2) := by decide +kernel
theorem dX10_meta_149 : decode mX10_meta.2.2.1 149 = .ok (.ireturn, 1) := by decide +kernel
theorem dX10_meta_150 : decode mX10_meta.2.2.1 150 = .ok (.aload_n 0, 1) := by decide +kernel
theorem dX10_meta_151 : decode mX10_meta.2.2.1 151 = .ok (.aload_n 0, 1) := by decide +kernel
theorem dX10_meta_152 : decode mX10_meta.2.2.1 152 = .ok (.getfield 227, 3) := by decide +kernel
theorem dX10_meta_155 : decode mX10_meta.2.2.1 155 = .ok (.putfield 236, 3) := by decide +kernel
theorem dX10_meta_158 : decode mX10_meta.2.2.1 158 = .ok (.aload_n 0, 1) := by decide +kernel
theorem dX10_meta_159 : decode mX10_meta.2.2.1 159 = .ok (.iload_n 2, 1) := by decide +kernel
theorem dX10_meta_160 : decode mX10_meta.2.2.1 160 = .ok (.putfield 239, 3) := by decide +kernel
theorem dX10_meta_163 : decode mX10_meta.2.2.1 163 = .ok (.aload_n 0, 1) := by decide +kernel
theorem dX10_meta_164 : decode mX10_meta.2.2.1 164 = .ok (.iload_n 3, 1) := by decide +kernel
theorem dX10_meta_165 : decode mX10_meta.2.2.1 165 = .ok (.putfield 242, 3) := by decide +kernel
theorem dX10_meta_168 : decode mX10_meta.2.2.1 168 = .ok (.aload_n 0, 1) := by decide +kernel
theorem dX10_meta_169 : decode mX10_meta.2.2.1 169 = .ok (.aload_n 0, 1) := by decide +kernel
theorem dX10_meta_170 : decode mX10_meta.2.2.1 170 = .ok (.getfield 224, 3) := by decide +kernel
theorem dX10_meta_173 : decode mX10_meta.2.2.1 173 = .ok (.putfield 245, 3) := by decide +kernel
theorem dX10_meta_176 : decode mX10_meta.2.2.1 176 = .ok (.iconst 0, 1) := by decide +kernel
theorem dX10_meta_177 : decode mX10_meta.2.2.1 177 = .ok (.istore 5, 2) := by decide +kernel
theorem dX10_meta_179 : decode mX10_meta.2.2.1 179 = .ok (.iload 5, 2) := by decide +kernel
theorem dX10_meta_181 : decode mX10_meta.2.2.1 181 = .ok (.aload_n 0, 1) := by decide +kernel
theorem dX10_meta_182 : decode mX10_meta.2.2.1 182 = .ok (.getfield 245, 3) := by decide +kernel
theorem dX10_meta_185 : decode mX10_meta.2.2.1 185 = .ok (.if_icmp .ge 37, 3) := by decide +kernel
theorem dX10_meta_188 : decode mX10_meta.2.2.1 188 = .ok (.aload_n 0, 1) := by decide +kernel
theorem dX10_meta_189 : decode mX10_meta.2.2.1 189 = .ok (.getfield 41, 3) := by decide +kernel
theorem dX10_meta_192 : decode mX10_meta.2.2.1 192 = .ok (.iload 5, 2) := by decide +kernel
theorem dX10_meta_194 : decode mX10_meta.2.2.1 194 = .ok (.aload_n 0, 1) := by decide +kernel
theorem dX10_meta_195 : decode mX10_meta.2.2.1 195 = .ok (.getfield 60, 3) := by decide +kernel
theorem dX10_meta_198 : decode mX10_meta.2.2.1 198 = .ok (.iload 5, 2) := by decide +kernel
theorem dX10_meta_200 : decode mX10_meta.2.2.1 200 = .ok (.iaload, 1) := by decide +kernel
theorem dX10_meta_201 : decode mX10_meta.2.2.1 201 = .ok (.iastore, 1) := by decide +kernel
theorem dX10_meta_202 : decode mX10_meta.2.2.1 202 = .ok (.aload_n 0, 1) := by decide +kernel
theorem dX10_meta_203 : decode mX10_meta.2.2.1 203 = .ok (.getfield 44, 3) := by decide +kernel
theorem dX10_meta_206 : decode mX10_meta.2.2.1 206 = .ok (.iload 5, 2) := by decide +kernel
theorem dX10_meta_208 : decode mX10_meta.2.2.1 208 = .ok (.aload_n 0, 1) := by decide +kernel
theorem dX10_meta_209 : decode mX10_meta.2.2.1 209 = .ok (.getfield 63, 3) := by decide +kernel
theorem dX10_meta_212 : decode mX10_meta.2.2.1 212 = .ok (.iload 5, 2) := by decide +kernel
theorem dX10_meta_214 : decode mX10_meta.2.2.1 214 = .ok (.iaload, 1) := by decide +kernel
theorem dX10_meta_215 : decode mX10_meta.2.2.1 215 = .ok (.iastore, 1) := by decide +kernel
theorem dX10_meta_216 : decode mX10_meta.2.2.1 216 = .ok (.iinc 5 1, 3) := by decide +kernel
theorem dX10_meta_219 : decode mX10_meta.2.2.1 219 = .ok (.goto (-40), 3) := by decide +kernel
theorem dX10_meta_222 : decode mX10_meta.2.2.1 222 = .ok (.iconst 0, 1) := by decide +kernel
theorem dX10_meta_223 : decode mX10_meta.2.2.1 223 = .ok (.istore 5, 2) := by decide +kernel
theorem dX10_meta_225 : decode mX10_meta.2.2.1 225 = .ok (.iload 5, 2) := by decide +kernel
theorem dX10_meta_227 : decode mX10_meta.2.2.1 227 = .ok (.bipush 20, 2) := by decide +kernel
theorem dX10_meta_229 : decode mX10_meta.2.2.1 229 = .ok (.iload_n 3, 1) := by decide +kernel
theorem dX10_meta_230 : decode mX10_meta.2.2.1 230 = .ok (.imul, 1) := by decide +kernel
theorem dX10_meta_231 : decode mX10_meta.2.2.1 231 = .ok (.if_icmp .ge 30, 3) := by decide +kernel
theorem dX10_meta_234 : decode mX10_meta.2.2.1 234 = .ok (.aload_n 0, 1) := by decide +kernel
theorem dX10_meta_235 : decode mX10_meta.2.2.1 235 = .ok (.getfield 47, 3) := by decide +kernel
theorem dX10_meta_238 : decode mX10_meta.2.2.1 238 = .ok (.iload 5, 2) := by decide +kernel
theorem dX10_meta_240 : decode mX10_meta.2.2.1 240 = .ok (.aload_n 0, 1) := by decide +kernel
theorem dX10_meta_241 : decode mX10_meta.2.2.1 241 = .ok (.getfield 7, 3) := by decide +kernel
theorem dX10_meta_244 : decode mX10_meta.2.2.1 244 = .ok (.aload_n 0, 1) := by decide +kernel
theorem dX10_meta_245 : decode mX10_meta.2.2.1 245 = .ok (.iload 4, 2) := by decide +kernel
theorem dX10_meta_247 : decode mX10_meta.2.2.1 247 = .ok (.invokevirtual 190, 3) := by decide +kernel
theorem dX10_meta_250 : decode mX10_meta.2.2.1 250 = .ok (.iload 5, 2) := by decide +kernel
theorem dX10_meta_252 : decode mX10_meta.2.2.1 252 = .ok (.iadd, 1) := by decide +kernel
theorem dX10_meta_253 : decode mX10_meta.2.2.1 253 = .ok (.baload, 1) := by decide +kernel
theorem dX10_meta_254 : decode mX10_meta.2.2.1 254 = .ok (.bastore, 1) := by decide +kernel
theorem dX10_meta_255 : decode mX10_meta.2.2.1 255 = .ok (.iinc 5 1, 3) := by decide +kernel
theorem dX10_meta_258 : decode mX10_meta.2.2.1 258 = .ok (.goto (-33), 3) := by decide +kernel
theorem dX10_meta_261 : decode mX10_meta.2.2.1 261 = .ok (.aload_n 0, 1) := by decide +kernel
theorem dX10_meta_262 : decode mX10_meta.2.2.1 262 = .ok (.iload_n 1, 1) := by decide +kernel
theorem dX10_meta_263 : decode mX10_meta.2.2.1 263 = .ok (.aload_n 0, 1) := by decide +kernel
theorem dX10_meta_264 : decode mX10_meta.2.2.1 264 = .ok (.iload_n 1, 1) := by decide +kernel
theorem dX10_meta_265 : decode mX10_meta.2.2.1 265 = .ok (.invokevirtual 209, 3) := by decide +kernel
theorem dX10_meta_268 : decode mX10_meta.2.2.1 268 = .ok (.invokevirtual 248, 3) := by decide +kernel
theorem dX10_meta_271 : decode mX10_meta.2.2.1 271 = .ok (.iconst 0, 1) := by decide +kernel
theorem dX10_meta_272 : decode mX10_meta.2.2.1 272 = .ok (.ireturn, 1) := by decide +kernel
theorem dX10_names_0 : decode mX10_names.2.2.1 0 = .ok (.iload_n 1, 1) := by decide +kernel
theorem dX10_names_1 : decode mX10_names.2.2.1 1 = .ok (.istore_n 3, 1) := by decide +kernel
theorem dX10_names_2 : decode mX10_names.2.2.1 2 = .ok (.iload_n 3, 1) := by decide +kernel
theorem dX10_names_3 : decode mX10_names.2.2.1 3 = .ok (.iload_n 2, 1) := by decide +kernel
theorem dX10_names_4 : decode mX10_names.2.2.1 4 = .ok (.if_icmp .ge 23, 3) := by decide +kernel
theorem dX10_names_7 : decode mX10_names.2.2.1 7 = .ok (.aload_n 0, 1) := by decide +kernel
theorem dX10_names_8 : decode mX10_names.2.2.1 8 = .ok (.getfield 16, 3) := by decide +kernel
theorem dX10_names_11 : decode mX10_names.2.2.1 11 = .ok (.iload_n 3, 1) := by decide +kernel
theorem dX10_names_12 : decode mX10_names.2.2.1 12 = .ok (.iload_n 1, 1) := by decide +kernel
theorem dX10_names_13 : decode mX10_names.2.2.1 13 = .ok (.isub, 1) := by decide +kernel
theorem dX10_names_14 : decode mX10_names.2.2.1 14 = .ok (.aload_n 0, 1) := by decide +kernel
theorem dX10_names_15 : decode mX10_names.2.2.1 15 = .ok (.getfield 7, 3) := by decide +kernel
theorem dX10_names_18 : decode mX10_names.2.2.1 18 = .ok (.iload_n 3, 1) := by decide +kernel
theorem dX10_names_19 : decode mX10_names.2.2.1 19 = .ok (.baload, 1) := by decide +kernel
theorem dX10_names_20 : decode mX10_names.2.2.1 20 = .ok (.bastore, 1) := by decide +kernel
theorem dX10_names_21 : decode mX10_names.2.2.1 21 = .ok (.iinc 3 1, 3) := by decide +kernel
theorem dX10_names_24 : decode mX10_names.2.2.1 24 = .ok (.goto (-22), 3) := by decide +kernel
theorem dX10_names_27 : decode mX10_names.2.2.1 27 = .ok (.aload_n 0, 1) := by decide +kernel
theorem dX10_names_28 : decode mX10_names.2.2.1 28 = .ok (.iload_n 2, 1) := by decide +kernel
theorem dX10_names_29 : decode mX10_names.2.2.1 29 = .ok (.iload_n 1, 1) := by decide +kernel
theorem dX10_names_30 : decode mX10_names.2.2.1 30 = .ok (.isub, 1) := by decide +kernel
theorem dX10_names_31 : decode mX10_names.2.2.1 31 = .ok (.invokevirtual 163, 3) := by decide +kernel
theorem dX10_names_34 : decode mX10_names.2.2.1 34 = .ok (.aload_n 0, 1) := by decide +kernel
theorem dX10_names_35 : decode mX10_names.2.2.1 35 = .ok (.invokevirtual 166, 3) := by decide +kernel
theorem dX10_names_38 : decode mX10_names.2.2.1 38 = .ok (.iconst 0, 1) := by decide +kernel
theorem dX10_names_39 : decode mX10_names.2.2.1 39 = .ok (.istore_n 3, 1) := by decide +kernel
theorem dX10_names_40 : decode mX10_names.2.2.1 40 = .ok (.iload_n 3, 1) := by decide +kernel
theorem dX10_names_41 : decode mX10_names.2.2.1 41 = .ok (.bipush 20, 2) := by decide +kernel
theorem dX10_names_43 : decode mX10_names.2.2.1 43 = .ok (.if_icmp .ge 21, 3) := by decide +kernel
theorem dX10_names_46 : decode mX10_names.2.2.1 46 = .ok (.aload_n 0, 1) := by decide +kernel
theorem dX10_names_47 : decode mX10_names.2.2.1 47 = .ok (.getfield 50, 3) := by decide +kernel
theorem dX10_names_50 : decode mX10_names.2.2.1 50 = .ok (.iload_n 3, 1) := by decide +kernel
theorem dX10_names_51 : decode mX10_names.2.2.1 51 = .ok (.aload_n 0, 1) := by decide +kernel
theorem dX10_names_52 : decode mX10_names.2.2.1 52 = .ok (.getfield 26, 3) := by decide +kernel
theorem dX10_names_55 : decode mX10_names.2.2.1 55 = .ok (.iload_n 3, 1) := by decide +kernel
theorem dX10_names_56 : decode mX10_names.2.2.1 56 = .ok (.baload, 1) := by decide +kernel
theorem dX10_names_57 : decode mX10_names.2.2.1 57 = .ok (.bastore, 1) := by decide +kernel
theorem dX10_names_58 : decode mX10_names.2.2.1 58 = .ok (.iinc 3 1, 3) := by decide +kernel
theorem dX10_names_61 : decode mX10_names.2.2.1 61 = .ok (.goto (-21), 3) := by decide +kernel
theorem dX10_names_64 : decode mX10_names.2.2.1 64 = .ok (.return_, 1) := by decide +kernel
theorem dX10_anew_0 : decode mX10_anew.2.2.1 0 = .ok (.aload_n 0, 1) := by decide +kernel
theorem dX10_anew_1 : decode mX10_anew.2.2.1 1 = .ok (.iconst 1, 1) := by decide +kernel
theorem dX10_anew_2 : decode mX10_anew.2.2.1 2 = .ok (.putfield 252, 3) := by decide +kernel
theorem dX10_anew_5 : decode mX10_anew.2.2.1 5 = .ok (.iconst 0, 1) := by decide +kernel
theorem dX10_anew_6 : decode mX10_anew.2.2.1 6 = .ok (.istore_n 1, 1) := by decide +kernel
theorem dX10_anew_7 : decode mX10_anew.2.2.1 7 = .ok (.iload_n 1, 1) := by decide +kernel
theorem dX10_anew_8 : decode mX10_anew.2.2.1 8 = .ok (.iconst 4, 1) := by decide +kernel
theorem dX10_anew_9 : decode mX10_anew.2.2.1 9 = .ok (.if_icmp .ge 57, 3) := by decide +kernel
theorem dX10_anew_12 : decode mX10_anew.2.2.1 12 = .ok (.aload_n 0, 1) := by decide +kernel
theorem dX10_anew_13 : decode mX10_anew.2.2.1 13 = .ok (.getfield 66, 3) := by decide +kernel
theorem dX10_anew_16 : decode mX10_anew.2.2.1 16 = .ok (.iload_n 1, 1) := by decide +kernel
theorem dX10_anew_17 : decode mX10_anew.2.2.1 17 = .ok (.iconst 0, 1) := by decide +kernel
theorem dX10_anew_18 : decode mX10_anew.2.2.1 18 = .ok (.bastore, 1) := by decide +kernel
theorem dX10_anew_19 : decode mX10_anew.2.2.1 19 = .ok (.iconst 0, 1) := by decide +kernel
theorem dX10_anew_20 : decode mX10_anew.2.2.1 20 = .ok (.istore_n 2, 1) := by decide +kernel
theorem dX10_anew_21 : decode mX10_anew.2.2.1 21 = .ok (.iload_n 2, 1) := by decide +kernel
theorem dX10_anew_22 : decode mX10_anew.2.2.1 22 = .ok (.iconst 5, 1) := by decide +kernel
theorem dX10_anew_23 : decode mX10_anew.2.2.1 23 = .ok (.if_icmp .ge 37, 3) := by decide +kernel
theorem dX10_anew_26 : decode mX10_anew.2.2.1 26 = .ok (.aload_n 0, 1) := by decide +kernel
theorem dX10_anew_27 : decode mX10_anew.2.2.1 27 = .ok (.iload_n 1, 1) := by decide +kernel
theorem dX10_anew_28 : decode mX10_anew.2.2.1 28 = .ok (.iload_n 2, 1) := by decide +kernel
theorem dX10_anew_29 : decode mX10_anew.2.2.1 29 = .ok (.invokevirtual 256, 3) := by decide +kernel
theorem dX10_anew_32 : decode mX10_anew.2.2.1 32 = .ok (.aload_n 0, 1) := by decide +kernel
theorem dX10_anew_33 : decode mX10_anew.2.2.1 33 = .ok (.getfield 106, 3) := by decide +kernel
theorem dX10_anew_36 : decode mX10_anew.2.2.1 36 = .ok (.iconst 5, 1) := by decide +kernel
theorem dX10_anew_37 : decode mX10_anew.2.2.1 37 = .ok (.iload_n 1, 1) := by decide +kernel
theorem dX10_anew_38 : decode mX10_anew.2.2.1 38 = .ok (.imul, 1) := by decide +kernel
theorem dX10_anew_39 : decode mX10_anew.2.2.1 39 = .ok (.iload_n 2, 1) := by decide +kernel
theorem dX10_anew_40 : decode mX10_anew.2.2.1 40 = .ok (.iadd, 1) := by decide +kernel
theorem dX10_anew_41 : decode mX10_anew.2.2.1 41 = .ok (.iconst 0, 1) := by decide +kernel
theorem dX10_anew_42 : decode mX10_anew.2.2.1 42 = .ok (.iastore, 1) := by decide +kernel
theorem dX10_anew_43 : decode mX10_anew.2.2.1 43 = .ok (.aload_n 0, 1) := by decide +kernel
theorem dX10_anew_44 : decode mX10_anew.2.2.1 44 = .ok (.getfield 106, 3) := by decide +kernel
theorem dX10_anew_47 : decode mX10_anew.2.2.1 47 = .ok (.iconst 5, 1) := by decide +kernel
theorem dX10_anew_48 : decode mX10_anew.2.2.1 48 = .ok (.iload_n 2, 1) := by decide +kernel
theorem dX10_anew_49 : decode mX10_anew.2.2.1 49 = .ok (.imul, 1) := by decide +kernel
theorem dX10_anew_50 : decode mX10_anew.2.2.1 50 = .ok (.iload_n 1, 1) := by decide +kernel
theorem dX10_anew_51 : decode mX10_anew.2.2.1 51 = .ok (.iadd, 1) := by decide +kernel
theorem dX10_anew_52 : decode mX10_anew.2.2.1 52 = .ok (.iconst 0, 1) := by decide +kernel
theorem dX10_anew_53 : decode mX10_anew.2.2.1 53 = .ok (.iastore, 1) := by decide +kernel
theorem dX10_anew_54 : decode mX10_anew.2.2.1 54 = .ok (.iinc 2 1, 3) := by decide +kernel
theorem dX10_anew_57 : decode mX10_anew.2.2.1 57 = .ok (.goto (-36), 3) := by decide +kernel
theorem dX10_anew_60 : decode mX10_anew.2.2.1 60 = .ok (.iinc 1 1, 3) := by decide +kernel
theorem dX10_anew_63 : decode mX10_anew.2.2.1 63 = .ok (.goto (-56), 3) := by decide +kernel
theorem dX10_anew_66 : decode mX10_anew.2.2.1 66 = .ok (.return_, 1) := by decide +kernel
theorem dX10_load_0 : decode mX10_load.2.2.1 0 = .ok (.aload_n 0, 1) := by decide +kernel
theorem dX10_load_1 : decode mX10_load.2.2.1 1 = .ok (.aload_n 0, 1) := by decide +kernel
theorem dX10_load_2 : decode mX10_load.2.2.1 2 = .ok (.invokevirtual 159, 3) := by decide +kernel
theorem dX10_load_5 : decode mX10_load.2.2.1 5 = .ok (.putfield 169, 3) := by decide +kernel
theorem dX10_load_8 : decode mX10_load.2.2.1 8 = .ok (.aload_n 0, 1) := by decide +kernel
theorem dX10_load_9 : decode mX10_load.2.2.1 9 = .ok (.iconst (-1), 1) := by decide +kernel
theorem dX10_load_10 : decode mX10_load.2.2.1 10 = .ok (.putfield 56, 3) := by decide +kernel
theorem dX10_load_13 : decode mX10_load.2.2.1 13 = .ok (.aload_n 0, 1) := by decide +kernel
theorem dX10_load_14 : decode mX10_load.2.2.1 14 = .ok (.invokevirtual 259, 3) := by decide +kernel
theorem dX10_load_17 : decode mX10_load.2.2.1 17 = .ok (.ifCond .ne 13, 3) := by decide +kernel
theorem dX10_load_20 : decode mX10_load.2.2.1 20 = .ok (.aload_n 0, 1) := by decide +kernel
theorem dX10_load_21 : decode mX10_load.2.2.1 21 = .ok (.aload_n 0, 1) := by decide +kernel
theorem dX10_load_22 : decode mX10_load.2.2.1 22 = .ok (.getfield 180, 3) := by decide +kernel
theorem dX10_load_25 : decode mX10_load.2.2.1 25 = .ok (.putfield 56, 3) := by decide +kernel
theorem dX10_load_28 : decode mX10_load.2.2.1 28 = .ok (.iconst 1, 1) := by decide +kernel
theorem dX10_load_29 : decode mX10_load.2.2.1 29 = .ok (.ireturn, 1) := by decide +kernel
theorem dX10_load_30 : decode mX10_load.2.2.1 30 = .ok (.aload_n 0, 1) := by decide +kernel
theorem dX10_load_31 : decode mX10_load.2.2.1 31 = .ok (.invokevirtual 263, 3) := by decide +kernel
theorem dX10_load_34 : decode mX10_load.2.2.1 34 = .ok (.istore_n 1, 1) := by decide +kernel
theorem dX10_load_35 : decode mX10_load.2.2.1 35 = .ok (.iload_n 1, 1) := by decide +kernel
theorem dX10_load_36 : decode mX10_load.2.2.1 36 = .ok (.ifCond .le 5, 3) := by decide +kernel
theorem dX10_load_39 : decode mX10_load.2.2.1 39 = .ok (.iload_n 1, 1) := by decide +kernel
theorem dX10_load_40 : decode mX10_load.2.2.1 40 = .ok (.ireturn, 1) := by decide +kernel
theorem dX10_load_41 : decode mX10_load.2.2.1 41 = .ok (.aload_n 0, 1) := by decide +kernel
theorem dX10_load_42 : decode mX10_load.2.2.1 42 = .ok (.iconst 0, 1) := by decide +kernel
theorem dX10_load_43 : decode mX10_load.2.2.1 43 = .ok (.putfield 266, 3) := by decide +kernel
theorem dX10_load_46 : decode mX10_load.2.2.1 46 = .ok (.aload_n 0, 1) := by decide +kernel
theorem dX10_load_47 : decode mX10_load.2.2.1 47 = .ok (.invokevirtual 269, 3) := by decide +kernel
theorem dX10_load_50 : decode mX10_load.2.2.1 50 = .ok (.iconst 0, 1) := by decide +kernel
theorem dX10_load_51 : decode mX10_load.2.2.1 51 = .ok (.ireturn, 1) := by decide +kernel
theorem dX10_place_0 : decode mX10_place.2.2.1 0 = .ok (.aload_n 0, 1) := by decide +kernel
theorem dX10_place_1 : decode mX10_place.2.2.1 1 = .ok (.getfield 56, 3) := by decide +kernel
theorem dX10_place_4 : decode mX10_place.2.2.1 4 = .ok (.ireturn, 1) := by decide +kernel
theorem dX10_ink_0 : decode mX10_ink.2.2.1 0 = .ok (.aload_n 0, 1) := by decide +kernel
theorem dX10_ink_1 : decode mX10_ink.2.2.1 1 = .ok (.getfield 13, 3) := by decide +kernel
theorem dX10_ink_4 : decode mX10_ink.2.2.1 4 = .ok (.aload_n 0, 1) := by decide +kernel
theorem dX10_ink_5 : decode mX10_ink.2.2.1 5 = .ok (.getfield 134, 3) := by decide +kernel
theorem dX10_ink_8 : decode mX10_ink.2.2.1 8 = .ok (.iload_n 1, 1) := by decide +kernel
theorem dX10_ink_9 : decode mX10_ink.2.2.1 9 = .ok (.i2b, 1) := by decide +kernel
theorem dX10_ink_10 : decode mX10_ink.2.2.1 10 = .ok (.bastore, 1) := by decide +kernel
theorem dX10_ink_11 : decode mX10_ink.2.2.1 11 = .ok (.aload_n 0, 1) := by decide +kernel
theorem dX10_ink_12 : decode mX10_ink.2.2.1 12 = .ok (.dup, 1) := by decide +kernel
theorem dX10_ink_13 : decode mX10_ink.2.2.1 13 = .ok (.getfield 134, 3) := by decide +kernel
theorem dX10_ink_16 : decode mX10_ink.2.2.1 16 = .ok (.iconst 1, 1) := by decide +kernel
theorem dX10_ink_17 : decode mX10_ink.2.2.1 17 = .ok (.iadd, 1) := by decide +kernel
theorem dX10_ink_18 : decode mX10_ink.2.2.1 18 = .ok (.putfield 134, 3) := by decide +kernel
theorem dX10_ink_21 : decode mX10_ink.2.2.1 21 = .ok (.return_, 1) := by decide +kernel
theorem dX10_inkNumber_0 : decode mX10_inkNumber.2.2.1 0 = .ok (.iconst 1, 1) := by decide +kernel
theorem dX10_inkNumber_1 : decode mX10_inkNumber.2.2.1 1 = .ok (.istore_n 2, 1) := by decide +kernel
theorem dX10_inkNumber_2 : decode mX10_inkNumber.2.2.1 2 = .ok (.iload_n 1, 1) := by decide +kernel
theorem dX10_inkNumber_3 : decode mX10_inkNumber.2.2.1 3 = .ok (.iload_n 2, 1) := by decide +kernel
theorem dX10_inkNumber_4 : decode mX10_inkNumber.2.2.1 4 = .ok (.idiv, 1) := by decide +kernel
theorem dX10_inkNumber_5 : decode mX10_inkNumber.2.2.1 5 = .ok (.bipush 9, 2) := by decide +kernel
theorem dX10_inkNumber_7 : decode mX10_inkNumber.2.2.1 7 = .ok (.if_icmp .le 11, 3) := by decide +kernel
theorem dX10_inkNumber_10 : decode mX10_inkNumber.2.2.1 10 = .ok (.iload_n 2, 1) := by decide +kernel
theorem dX10_inkNumber_11 : decode mX10_inkNumber.2.2.1 11 = .ok (.bipush 10, 2) := by decide +kernel
theorem dX10_inkNumber_13 : decode mX10_inkNumber.2.2.1 13 = .ok (.imul, 1) := by decide +kernel
theorem dX10_inkNumber_14 : decode mX10_inkNumber.2.2.1 14 = .ok (.istore_n 2, 1) := by decide +kernel
theorem dX10_inkNumber_15 : decode mX10_inkNumber.2.2.1 15 = .ok (.goto (-13), 3) := by decide +kernel
theorem dX10_inkNumber_18 : decode mX10_inkNumber.2.2.1 18 = .ok (.iload_n 2, 1) := by decide +kernel
theorem dX10_inkNumber_19 : decode mX10_inkNumber.2.2.1 19 = .ok (.ifCond .le 24, 3) := by decide +kernel
theorem dX10_inkNumber_22 : decode mX10_inkNumber.2.2.1 22 = .ok (.aload_n 0, 1) := by decide +kernel
theorem dX10_inkNumber_23 : decode mX10_inkNumber.2.2.1 23 = .ok (.bipush 48, 2) := by decide +kernel
theorem dX10_inkNumber_25 : decode mX10_inkNumber.2.2.1 25 = .ok (.iload_n 1, 1) := by decide +kernel
theorem dX10_inkNumber_26 : decode mX10_inkNumber.2.2.1 26 = .ok (.iload_n 2, 1) := by decide +kernel
theorem dX10_inkNumber_27 : decode mX10_inkNumber.2.2.1 27 = .ok (.idiv, 1) := by decide +kernel
theorem dX10_inkNumber_28 : decode mX10_inkNumber.2.2.1 28 = .ok (.bipush 10, 2) := by decide +kernel
theorem dX10_inkNumber_30 : decode mX10_inkNumber.2.2.1 30 = .ok (.irem, 1) := by decide +kernel
theorem dX10_inkNumber_31 : decode mX10_inkNumber.2.2.1 31 = .ok (.iadd, 1) := by decide +kernel
theorem dX10_inkNumber_32 : decode mX10_inkNumber.2.2.1 32 = .ok (.invokevirtual 272, 3) := by decide +kernel
theorem dX10_inkNumber_35 : decode mX10_inkNumber.2.2.1 35 = .ok (.iload_n 2, 1) := by decide +kernel
theorem dX10_inkNumber_36 : decode mX10_inkNumber.2.2.1 36 = .ok (.bipush 10, 2) := by decide +kernel
theorem dX10_inkNumber_38 : decode mX10_inkNumber.2.2.1 38 = .ok (.idiv, 1) := by decide +kernel
theorem dX10_inkNumber_39 : decode mX10_inkNumber.2.2.1 39 = .ok (.istore_n 2, 1) := by decide +kernel
theorem dX10_inkNumber_40 : decode mX10_inkNumber.2.2.1 40 = .ok (.goto (-22), 3) := by decide +kernel
theorem dX10_inkNumber_43 : decode mX10_inkNumber.2.2.1 43 = .ok (.return_, 1) := by decide +kernel
theorem dX10_inkKey_0 : decode mX10_inkKey.2.2.1 0 = .ok (.aload_n 0, 1) := by decide +kernel
theorem dX10_inkKey_1 : decode mX10_inkKey.2.2.1 1 = .ok (.aload_n 0, 1) := by decide +kernel
theorem dX10_inkKey_2 : decode mX10_inkKey.2.2.1 2 = .ok (.getfield 38, 3) := by decide +kernel
theorem dX10_inkKey_5 : decode mX10_inkKey.2.2.1 5 = .ok (.iload_n 1, 1) := by decide +kernel
theorem dX10_inkKey_6 : decode mX10_inkKey.2.2.1 6 = .ok (.iconst 1, 1) := by decide +kernel
theorem dX10_inkKey_7 : decode mX10_inkKey.2.2.1 7 = .ok (.iadd, 1) := by decide +kernel
theorem dX10_inkKey_8 : decode mX10_inkKey.2.2.1 8 = .ok (.iaload, 1) := by decide +kernel
theorem dX10_inkKey_9 : decode mX10_inkKey.2.2.1 9 = .ok (.aload_n 0, 1) := by decide +kernel
theorem dX10_inkKey_10 : decode mX10_inkKey.2.2.1 10 = .ok (.getfield 38, 3) := by decide +kernel
theorem dX10_inkKey_13 : decode mX10_inkKey.2.2.1 13 = .ok (.iload_n 1, 1) := by decide +kernel
theorem dX10_inkKey_14 : decode mX10_inkKey.2.2.1 14 = .ok (.iaload, 1) := by decide +kernel
theorem dX10_inkKey_15 : decode mX10_inkKey.2.2.1 15 = .ok (.isub, 1) := by decide +kernel
theorem dX10_inkKey_16 : decode mX10_inkKey.2.2.1 16 = .ok (.invokevirtual 275, 3) := by decide +kernel
theorem dX10_inkKey_19 : decode mX10_inkKey.2.2.1 19 = .ok (.aload_n 0, 1) := by decide +kernel
theorem dX10_inkKey_20 : decode mX10_inkKey.2.2.1 20 = .ok (.bipush 58, 2) := by decide +kernel
theorem dX10_inkKey_22 : decode mX10_inkKey.2.2.1 22 = .ok (.invokevirtual 272, 3) := by decide +kernel
theorem dX10_inkKey_25 : decode mX10_inkKey.2.2.1 25 = .ok (.aload_n 0, 1) := by decide +kernel
theorem dX10_inkKey_26 : decode mX10_inkKey.2.2.1 26 = .ok (.getfield 38, 3) := by decide +kernel
theorem dX10_inkKey_29 : decode mX10_inkKey.2.2.1 29 = .ok (.iload_n 1, 1) := by decide +kernel
theorem dX10_inkKey_30 : decode mX10_inkKey.2.2.1 30 = .ok (.iaload, 1) := by decide +kernel
theorem dX10_inkKey_31 : decode mX10_inkKey.2.2.1 31 = .ok (.istore_n 2, 1) := by decide +kernel
theorem dX10_inkKey_32 : decode mX10_inkKey.2.2.1 32 = .ok (.iload_n 2, 1) := by decide +kernel
theorem dX10_inkKey_33 : decode mX10_inkKey.2.2.1 33 = .ok (.aload_n 0, 1) := by decide +kernel
theorem dX10_inkKey_34 : decode mX10_inkKey.2.2.1 34 = .ok (.getfield 38, 3) := by decide +kernel
theorem dX10_inkKey_37 : decode mX10_inkKey.2.2.1 37 = .ok (.iload_n 1, 1) := by decide +kernel
theorem dX10_inkKey_38 : decode mX10_inkKey.2.2.1 38 = .ok (.iconst 1, 1) := by decide +kernel
theorem dX10_inkKey_39 : decode mX10_inkKey.2.2.1 39 = .ok (.iadd, 1) := by decide +kernel
theorem dX10_inkKey_40 : decode mX10_inkKey.2.2.1 40 = .ok (.iaload, 1) := by decide +kernel
theorem dX10_inkKey_41 : decode mX10_inkKey.2.2.1 41 = .ok (.if_icmp .ge 19, 3) := by decide +kernel
theorem dX10_inkKey_44 : decode mX10_inkKey.2.2.1 44 = .ok (.aload_n 0, 1) := by decide +kernel
theorem dX10_inkKey_45 : decode mX10_inkKey.2.2.1 45 = .ok (.aload_n 0, 1) := by decide +kernel
theorem dX10_inkKey_46 : decode mX10_inkKey.2.2.1 46 = .ok (.getfield 35, 3) := by decide +kernel
theorem dX10_inkKey_49 : decode mX10_inkKey.2.2.1 49 = .ok (.iload_n 2, 1) := by decide +kernel
theorem dX10_inkKey_50 : decode mX10_inkKey.2.2.1 50 = .ok (.baload, 1) := by decide +kernel
theorem dX10_inkKey_51 : decode mX10_inkKey.2.2.1 51 = .ok (.invokevirtual 272, 3) := by decide +kernel
theorem dX10_inkKey_54 : decode mX10_inkKey.2.2.1 54 = .ok (.iinc 2 1, 3) := by decide +kernel
theorem dX10_inkKey_57 : decode mX10_inkKey.2.2.1 57 = .ok (.goto (-25), 3) := by decide +kernel
theorem dX10_inkKey_60 : decode mX10_inkKey.2.2.1 60 = .ok (.return_, 1) := by decide +kernel
theorem dX10_digestPiece_0 : decode mX10_digestPiece.2.2.1 0 = .ok (.aload_n 0, 1) := by decide +kernel
theorem dX10_digestPiece_1 : decode mX10_digestPiece.2.2.1 1 = .ok (.iload_n 1, 1) := by decide +kernel
theorem dX10_digestPiece_2 : decode mX10_digestPiece.2.2.1 2 = .ok (.invokevirtual 278, 3) := by decide +kernel
theorem dX10_digestPiece_5 : decode mX10_digestPiece.2.2.1 5 = .ok (.istore_n 3, 1) := by decide +kernel
theorem dX10_digestPiece_6 : decode mX10_digestPiece.2.2.1 6 = .ok (.iconst 0, 1) := by decide +kernel
theorem dX10_digestPiece_7 : decode mX10_digestPiece.2.2.1 7 = .ok (.istore 4, 2) := by decide +kernel
theorem dX10_digestPiece_9 : decode mX10_digestPiece.2.2.1 9 = .ok (.iload 4, 2) := by decide +kernel
theorem dX10_digestPiece_11 : decode mX10_digestPiece.2.2.1 11 = .ok (.iload_n 3, 1) := by decide +kernel
theorem dX10_digestPiece_12 : decode mX10_digestPiece.2.2.1 12 = .ok (.if_icmp .ge 32, 3) := by decide +kernel
theorem dX10_digestPiece_15 : decode mX10_digestPiece.2.2.1 15 = .ok (.aload_n 0, 1) := by decide +kernel
theorem dX10_digestPiece_16 : decode mX10_digestPiece.2.2.1 16 = .ok (.getfield 16, 3) := by decide +kernel
theorem dX10_digestPiece_19 : decode mX10_digestPiece.2.2.1 19 = .ok (.iload 4, 2) := by decide +kernel
theorem dX10_digestPiece_21 : decode mX10_digestPiece.2.2.1 21 = .ok (.aload_n 0, 1) := by decide +kernel
theorem dX10_digestPiece_22 : decode mX10_digestPiece.2.2.1 22 = .ok (.getfield 70, 3) := by decide +kernel
theorem dX10_digestPiece_25 : decode mX10_digestPiece.2.2.1 25 = .ok (.iload_n 2, 1) := by decide +kernel
theorem dX10_digestPiece_26 : decode mX10_digestPiece.2.2.1 26 = .ok (.iload_n 1, 1) := by decide +kernel
theorem dX10_digestPiece_27 : decode mX10_digestPiece.2.2.1 27 = .ok (.aload_n 0, 1) := by decide +kernel
theorem dX10_digestPiece_28 : decode mX10_digestPiece.2.2.1 28 = .ok (.getfield 239, 3) := by decide +kernel
theorem dX10_digestPiece_31 : decode mX10_digestPiece.2.2.1 31 = .ok (.imul, 1) := by decide +kernel
theorem dX10_digestPiece_32 : decode mX10_digestPiece.2.2.1 32 = .ok (.iadd, 1) := by decide +kernel
theorem dX10_digestPiece_33 : decode mX10_digestPiece.2.2.1 33 = .ok (.iload 4, 2) := by decide +kernel
theorem dX10_digestPiece_35 : decode mX10_digestPiece.2.2.1 35 = .ok (.iadd, 1) := by decide +kernel
theorem dX10_digestPiece_36 : decode mX10_digestPiece.2.2.1 36 = .ok (.baload, 1) := by decide +kernel
theorem dX10_digestPiece_37 : decode mX10_digestPiece.2.2.1 37 = .ok (.bastore, 1) := by decide +kernel
theorem dX10_digestPiece_38 : decode mX10_digestPiece.2.2.1 38 = .ok (.iinc 4 1, 3) := by decide +kernel
theorem dX10_digestPiece_41 : decode mX10_digestPiece.2.2.1 41 = .ok (.goto (-32), 3) := by decide +kernel
theorem dX10_digestPiece_44 : decode mX10_digestPiece.2.2.1 44 = .ok (.aload_n 0, 1) := by decide +kernel
theorem dX10_digestPiece_45 : decode mX10_digestPiece.2.2.1 45 = .ok (.iload_n 3, 1) := by decide +kernel
theorem dX10_digestPiece_46 : decode mX10_digestPiece.2.2.1 46 = .ok (.invokevirtual 163, 3) := by decide +kernel
theorem dX10_digestPiece_49 : decode mX10_digestPiece.2.2.1 49 = .ok (.aload_n 0, 1) := by decide +kernel
theorem dX10_digestPiece_50 : decode mX10_digestPiece.2.2.1 50 = .ok (.invokevirtual 166, 3) := by decide +kernel
theorem dX10_digestPiece_53 : decode mX10_digestPiece.2.2.1 53 = .ok (.return_, 1) := by decide +kernel
theorem dX10_make_0 : decode mX10_make.2.2.1 0 = .ok (.aload_n 0, 1) := by decide +kernel
theorem dX10_make_1 : decode mX10_make.2.2.1 1 = .ok (.invokevirtual 159, 3) := by decide +kernel
theorem dX10_make_4 : decode mX10_make.2.2.1 4 = .ok (.istore_n 2, 1) := by decide +kernel
theorem dX10_make_5 : decode mX10_make.2.2.1 5 = .ok (.iload_n 2, 1) := by decide +kernel
theorem dX10_make_6 : decode mX10_make.2.2.1 6 = .ok (.iconst 1, 1) := by decide +kernel
theorem dX10_make_7 : decode mX10_make.2.2.1 7 = .ok (.if_icmp .lt 35, 3) := by decide +kernel
theorem dX10_make_10 : decode mX10_make.2.2.1 10 = .ok (.iload_n 2, 1) := by decide +kernel
theorem dX10_make_11 : decode mX10_make.2.2.1 11 = .ok (.sipush 4096, 3) := by decide +kernel
theorem dX10_make_14 : decode mX10_make.2.2.1 14 = .ok (.if_icmp .gt 28, 3) := by decide +kernel
theorem dX10_make_17 : decode mX10_make.2.2.1 17 = .ok (.iload_n 1, 1) := by decide +kernel
theorem dX10_make_18 : decode mX10_make.2.2.1 18 = .ok (.bipush 32, 2) := by decide +kernel
theorem dX10_make_20 : decode mX10_make.2.2.1 20 = .ok (.if_icmp .lt 22, 3) := by decide +kernel
theorem dX10_make_23 : decode mX10_make.2.2.1 23 = .ok (.iload_n 1, 1) := by decide +kernel
theorem dX10_make_24 : decode mX10_make.2.2.1 24 = .ok (.sipush 1024, 3) := by decide +kernel
theorem dX10_make_27 : decode mX10_make.2.2.1 27 = .ok (.if_icmp .gt 15, 3) := by decide +kernel
theorem dX10_make_30 : decode mX10_make.2.2.1 30 = .ok (.iload_n 2, 1) := by decide +kernel
theorem dX10_make_31 : decode mX10_make.2.2.1 31 = .ok (.iload_n 1, 1) := by decide +kernel
theorem dX10_make_32 : decode mX10_make.2.2.1 32 = .ok (.iadd, 1) := by decide +kernel
theorem dX10_make_33 : decode mX10_make.2.2.1 33 = .ok (.iconst 1, 1) := by decide +kernel
theorem dX10_make_34 : decode mX10_make.2.2.1 34 = .ok (.isub, 1) := by decide +kernel
theorem dX10_make_35 : decode mX10_make.2.2.1 35 = .ok (.iload_n 1, 1) := by decide +kernel
theorem dX10_make_36 : decode mX10_make.2.2.1 36 = .ok (.idiv, 1) := by decide +kernel
theorem dX10_make_37 : decode mX10_make.2.2.1 37 = .ok (.bipush 64, 2) := by decide +kernel
theorem dX10_make_39 : decode mX10_make.2.2.1 39 = .ok (.if_icmp .le 5, 3) := by decide +kernel
theorem dX10_make_42 : decode mX10_make.2.2.1 42 = .ok (.iconst (-1), 1) := by decide +kernel
theorem dX10_make_43 : decode mX10_make.2.2.1 43 = .ok (.ireturn, 1) := by decide +kernel
theorem dX10_make_44 : decode mX10_make.2.2.1 44 = .ok (.aload_n 0, 1) := by decide +kernel
theorem dX10_make_45 : decode mX10_make.2.2.1 45 = .ok (.iload_n 2, 1) := by decide +kernel
theorem dX10_make_46 : decode mX10_make.2.2.1 46 = .ok (.putfield 236, 3) := by decide +kernel
theorem dX10_make_49 : decode mX10_make.2.2.1 49 = .ok (.aload_n 0, 1) := by decide +kernel
theorem dX10_make_50 : decode mX10_make.2.2.1 50 = .ok (.iload_n 1, 1) := by decide +kernel
theorem dX10_make_51 : decode mX10_make.2.2.1 51 = .ok (.putfield 239, 3) := by decide +kernel
theorem dX10_make_54 : decode mX10_make.2.2.1 54 = .ok (.aload_n 0, 1) := by decide +kernel
theorem dX10_make_55 : decode mX10_make.2.2.1 55 = .ok (.iload_n 2, 1) := by decide +kernel
theorem dX10_make_56 : decode mX10_make.2.2.1 56 = .ok (.aload_n 0, 1) := by decide +kernel
theorem dX10_make_57 : decode mX10_make.2.2.1 57 = .ok (.getfield 239, 3) := by decide +kernel
theorem dX10_make_60 : decode mX10_make.2.2.1 60 = .ok (.iadd, 1) := by decide +kernel
theorem dX10_make_61 : decode mX10_make.2.2.1 61 = .ok (.iconst 1, 1) := by decide +kernel
theorem dX10_make_62 : decode mX10_make.2.2.1 62 = .ok (.isub, 1) := by decide +kernel
theorem dX10_make_63 : decode mX10_make.2.2.1 63 = .ok (.aload_n 0, 1) := by decide +kernel
theorem dX10_make_64 : decode mX10_make.2.2.1 64 = .ok (.getfield 239, 3) := by decide +kernel
theorem dX10_make_67 : decode mX10_make.2.2.1 67 = .ok (.idiv, 1) := by decide +kernel
theorem dX10_make_68 : decode mX10_make.2.2.1 68 = .ok (.putfield 242, 3) := by decide +kernel
theorem dX10_make_71 : decode mX10_make.2.2.1 71 = .ok (.aload_n 0, 1) := by decide +kernel
theorem dX10_make_72 : decode mX10_make.2.2.1 72 = .ok (.iconst 0, 1) := by decide +kernel
theorem dX10_make_73 : decode mX10_make.2.2.1 73 = .ok (.putfield 245, 3) := by decide +kernel
theorem dX10_make_76 : decode mX10_make.2.2.1 76 = .ok (.iconst 0, 1) := by decide +kernel
theorem dX10_make_77 : decode mX10_make.2.2.1 77 = .ok (.istore_n 3, 1) := by decide +kernel
theorem dX10_make_78 : decode mX10_make.2.2.1 78 = .ok (.iload_n 3, 1) := by decide +kernel
theorem dX10_make_79 : decode mX10_make.2.2.1 79 = .ok (.iload_n 2, 1) := by decide +kernel
theorem dX10_make_80 : decode mX10_make.2.2.1 80 = .ok (.if_icmp .ge 21, 3) := by decide +kernel
theorem dX10_make_83 : decode mX10_make.2.2.1 83 = .ok (.aload_n 0, 1) := by decide +kernel
theorem dX10_make_84 : decode mX10_make.2.2.1 84 = .ok (.getfield 53, 3) := by decide +kernel
theorem dX10_make_87 : decode mX10_make.2.2.1 87 = .ok (.iload_n 3, 1) := by decide +kernel
theorem dX10_make_88 : decode mX10_make.2.2.1 88 = .ok (.aload_n 0, 1) := by decide +kernel
theorem dX10_make_89 : decode mX10_make.2.2.1 89 = .ok (.getfield 7, 3) := by decide +kernel
theorem dX10_make_92 : decode mX10_make.2.2.1 92 = .ok (.iload_n 3, 1) := by decide +kernel
theorem dX10_make_93 : decode mX10_make.2.2.1 93 = .ok (.baload, 1) := by decide +kernel
theorem dX10_make_94 : decode mX10_make.2.2.1 94 = .ok (.bastore, 1) := by decide +kernel
theorem dX10_make_95 : decode mX10_make.2.2.1 95 = .ok (.iinc 3 1, 3) := by decide +kernel
theorem dX10_make_98 : decode mX10_make.2.2.1 98 = .ok (.goto (-20), 3) := by decide +kernel
theorem dX10_make_101 : decode mX10_make.2.2.1 101 = .ok (.aload_n 0, 1) := by decide +kernel
theorem dX10_make_102 : decode mX10_make.2.2.1 102 = .ok (.iconst 1, 1) := by decide +kernel
theorem dX10_make_103 : decode mX10_make.2.2.1 103 = .ok (.putfield 266, 3) := by decide +kernel
theorem dX10_make_106 : decode mX10_make.2.2.1 106 = .ok (.iconst 0, 1) := by decide +kernel
theorem dX10_make_107 : decode mX10_make.2.2.1 107 = .ok (.istore_n 3, 1) := by decide +kernel
theorem dX10_make_108 : decode mX10_make.2.2.1 108 = .ok (.iload_n 3, 1) := by decide +kernel
theorem dX10_make_109 : decode mX10_make.2.2.1 109 = .ok (.aload_n 0, 1) := by decide +kernel
theorem dX10_make_110 : decode mX10_make.2.2.1 110 = .ok (.getfield 242, 3) := by decide +kernel
theorem dX10_make_113 : decode mX10_make.2.2.1 113 = .ok (.if_icmp .ge 98, 3) := by decide +kernel
theorem dX10_make_116 : decode mX10_make.2.2.1 116 = .ok (.aload_n 0, 1) := by decide +kernel
theorem dX10_make_117 : decode mX10_make.2.2.1 117 = .ok (.iload_n 3, 1) := by decide +kernel
theorem dX10_make_118 : decode mX10_make.2.2.1 118 = .ok (.invokevirtual 278, 3) := by decide +kernel
theorem dX10_make_121 : decode mX10_make.2.2.1 121 = .ok (.istore 4, 2) := by decide +kernel
theorem dX10_make_123 : decode mX10_make.2.2.1 123 = .ok (.iconst 0, 1) := by decide +kernel
theorem dX10_make_124 : decode mX10_make.2.2.1 124 = .ok (.istore 5, 2) := by decide +kernel
theorem dX10_make_126 : decode mX10_make.2.2.1 126 = .ok (.iload 5, 2) := by decide +kernel
theorem dX10_make_128 : decode mX10_make.2.2.1 128 = .ok (.iload 4, 2) := by decide +kernel
theorem dX10_make_130 : decode mX10_make.2.2.1 130 = .ok (.if_icmp .ge 30, 3) := by decide +kernel
theorem dX10_make_133 : decode mX10_make.2.2.1 133 = .ok (.aload_n 0, 1) := by decide +kernel
theorem dX10_make_134 : decode mX10_make.2.2.1 134 = .ok (.getfield 16, 3) := by decide +kernel
theorem dX10_make_137 : decode mX10_make.2.2.1 137 = .ok (.iload 5, 2) := by decide +kernel
theorem dX10_make_139 : decode mX10_make.2.2.1 139 = .ok (.aload_n 0, 1) := by decide +kernel
theorem dX10_make_140 : decode mX10_make.2.2.1 140 = .ok (.getfield 53, 3) := by decide +kernel
theorem dX10_make_143 : decode mX10_make.2.2.1 143 = .ok (.iload_n 3, 1) := by decide +kernel
theorem dX10_make_144 : decode mX10_make.2.2.1 144 = .ok (.aload_n 0, 1) := by decide +kernel
theorem dX10_make_145 : decode mX10_make.2.2.1 145 = .ok (.getfield 239, 3) := by decide +kernel
theorem dX10_make_148 : decode mX10_make.2.2.1 148 = .ok (.imul, 1) := by decide +kernel
theorem dX10_make_149 : decode mX10_make.2.2.1 149 = .ok (.iload 5, 2) := by decide +kernel
theorem dX10_make_151 : decode mX10_make.2.2.1 151 = .ok (.iadd, 1) := by decide +kernel
theorem dX10_make_152 : decode mX10_make.2.2.1 152 = .ok (.baload, 1) := by decide +kernel
theorem dX10_make_153 : decode mX10_make.2.2.1 153 = .ok (.bastore, 1) := by decide +kernel
theorem dX10_make_154 : decode mX10_make.2.2.1 154 = .ok (.iinc 5 1, 3) := by decide +kernel
theorem dX10_make_157 : decode mX10_make.2.2.1 157 = .ok (.goto (-31), 3) := by decide +kernel
theorem dX10_make_160 : decode mX10_make.2.2.1 160 = .ok (.aload_n 0, 1) := by decide +kernel
theorem dX10_make_161 : decode mX10_make.2.2.1 161 = .ok (.iload 4, 2) := by decide +kernel
theorem dX10_make_163 : decode mX10_make.2.2.1 163 = .ok (.invokevirtual 163, 3) := by decide +kernel
theorem dX10_make_166 : decode mX10_make.2.2.1 166 = .ok (.aload_n 0, 1) := by decide +kernel
theorem dX10_make_167 : decode mX10_make.2.2.1 167 = .ok (.invokevirtual 166, 3) := by decide +kernel
theorem dX10_make_170 : decode mX10_make.2.2.1 170 = .ok (.iconst 0, 1) := by decide +kernel
theorem dX10_make_171 : decode mX10_make.2.2.1 171 = .ok (.istore 5, 2) := by decide +kernel
theorem dX10_make_173 : decode mX10_make.2.2.1 173 = .ok (.iload 5, 2) := by decide +kernel
theorem dX10_make_175 : decode mX10_make.2.2.1 175 = .ok (.bipush 20, 2) := by decide +kernel
theorem dX10_make_177 : decode mX10_make.2.2.1 177 = .ok (.if_icmp .ge 28, 3) := by decide +kernel
theorem dX10_make_180 : decode mX10_make.2.2.1 180 = .ok (.aload_n 0, 1) := by decide +kernel
theorem dX10_make_181 : decode mX10_make.2.2.1 181 = .ok (.getfield 47, 3) := by decide +kernel
theorem dX10_make_184 : decode mX10_make.2.2.1 184 = .ok (.bipush 20, 2) := by decide +kernel
theorem dX10_make_186 : decode mX10_make.2.2.1 186 = .ok (.iload_n 3, 1) := by decide +kernel
theorem dX10_make_187 : decode mX10_make.2.2.1 187 = .ok (.imul, 1) := by decide +kernel
theorem dX10_make_188 : decode mX10_make.2.2.1 188 = .ok (.iload 5, 2) := by decide +kernel
theorem dX10_make_190 : decode mX10_make.2.2.1 190 = .ok (.iadd, 1) := by decide +kernel
theorem dX10_make_191 : decode mX10_make.2.2.1 191 = .ok (.aload_n 0, 1) := by decide +kernel
theorem dX10_make_192 : decode mX10_make.2.2.1 192 = .ok (.getfield 26, 3) := by decide +kernel
theorem dX10_make_195 : decode mX10_make.2.2.1 195 = .ok (.iload 5, 2) := by decide +kernel
theorem dX10_make_197 : decode mX10_make.2.2.1 197 = .ok (.baload, 1) := by decide +kernel
theorem dX10_make_198 : decode mX10_make.2.2.1 198 = .ok (.bastore, 1) := by decide +kernel
theorem dX10_make_199 : decode mX10_make.2.2.1 199 = .ok (.iinc 5 1, 3) := by decide +kernel
theorem dX10_make_202 : decode mX10_make.2.2.1 202 = .ok (.goto (-29), 3) := by decide +kernel
theorem dX10_make_205 : decode mX10_make.2.2.1 205 = .ok (.iinc 3 1, 3) := by decide +kernel
theorem dX10_make_208 : decode mX10_make.2.2.1 208 = .ok (.goto (-100), 3) := by decide +kernel
theorem dX10_make_211 : decode mX10_make.2.2.1 211 = .ok (.aload_n 0, 1) := by decide +kernel
theorem dX10_make_212 : decode mX10_make.2.2.1 212 = .ok (.iconst 0, 1) := by decide +kernel
theorem dX10_make_213 : decode mX10_make.2.2.1 213 = .ok (.putfield 134, 3) := by decide +kernel
theorem dX10_make_216 : decode mX10_make.2.2.1 216 = .ok (.aload_n 0, 1) := by decide +kernel
theorem dX10_make_217 : decode mX10_make.2.2.1 217 = .ok (.bipush 100, 2) := by decide +kernel
theorem dX10_make_219 : decode mX10_make.2.2.1 219 = .ok (.invokevirtual 272, 3) := by decide +kernel
theorem dX10_make_222 : decode mX10_make.2.2.1 222 = .ok (.aload_n 0, 1) := by decide +kernel
theorem dX10_make_223 : decode mX10_make.2.2.1 223 = .ok (.iconst 0, 1) := by decide +kernel
theorem dX10_make_224 : decode mX10_make.2.2.1 224 = .ok (.invokevirtual 281, 3) := by decide +kernel
theorem dX10_make_227 : decode mX10_make.2.2.1 227 = .ok (.aload_n 0, 1) := by decide +kernel
theorem dX10_make_228 : decode mX10_make.2.2.1 228 = .ok (.getfield 134, 3) := by decide +kernel
theorem dX10_make_231 : decode mX10_make.2.2.1 231 = .ok (.istore_n 3, 1) := by decide +kernel
theorem dX10_make_232 : decode mX10_make.2.2.1 232 = .ok (.aload_n 0, 1) := by decide +kernel
theorem dX10_make_233 : decode mX10_make.2.2.1 233 = .ok (.bipush 100, 2) := by decide +kernel
theorem dX10_make_235 : decode mX10_make.2.2.1 235 = .ok (.invokevirtual 272, 3) := by decide +kernel
theorem dX10_make_238 : decode mX10_make.2.2.1 238 = .ok (.aload_n 0, 1) := by decide +kernel
theorem dX10_make_239 : decode mX10_make.2.2.1 239 = .ok (.iconst 3, 1) := by decide +kernel
theorem dX10_make_240 : decode mX10_make.2.2.1 240 = .ok (.invokevirtual 281, 3) := by decide +kernel
theorem dX10_make_243 : decode mX10_make.2.2.1 243 = .ok (.aload_n 0, 1) := by decide +kernel
theorem dX10_make_244 : decode mX10_make.2.2.1 244 = .ok (.bipush 105, 2) := by decide +kernel
theorem dX10_make_246 : decode mX10_make.2.2.1 246 = .ok (.invokevirtual 272, 3) := by decide +kernel
theorem dX10_make_249 : decode mX10_make.2.2.1 249 = .ok (.aload_n 0, 1) := by decide +kernel
theorem dX10_make_250 : decode mX10_make.2.2.1 250 = .ok (.aload_n 0, 1) := by decide +kernel
theorem dX10_make_251 : decode mX10_make.2.2.1 251 = .ok (.getfield 236, 3) := by decide +kernel
theorem dX10_make_254 : decode mX10_make.2.2.1 254 = .ok (.invokevirtual 275, 3) := by decide +kernel
theorem dX10_make_257 : decode mX10_make.2.2.1 257 = .ok (.aload_n 0, 1) := by decide +kernel
theorem dX10_make_258 : decode mX10_make.2.2.1 258 = .ok (.bipush 101, 2) := by decide +kernel
theorem dX10_make_260 : decode mX10_make.2.2.1 260 = .ok (.invokevirtual 272, 3) := by decide +kernel
theorem dX10_make_263 : decode mX10_make.2.2.1 263 = .ok (.aload_n 0, 1) := by decide +kernel
theorem dX10_make_264 : decode mX10_make.2.2.1 264 = .ok (.iconst 1, 1) := by decide +kernel
theorem dX10_make_265 : decode mX10_make.2.2.1 265 = .ok (.invokevirtual 281, 3) := by decide +kernel
theorem dX10_make_268 : decode mX10_make.2.2.1 268 = .ok (.aload_n 0, 1) := by decide +kernel
theorem dX10_make_269 : decode mX10_make.2.2.1 269 = .ok (.bipush 49, 2) := by decide +kernel
theorem dX10_make_271 : decode mX10_make.2.2.1 271 = .ok (.invokevirtual 272, 3) := by decide +kernel
theorem dX10_make_274 : decode mX10_make.2.2.1 274 = .ok (.aload_n 0, 1) := by decide +kernel
theorem dX10_make_275 : decode mX10_make.2.2.1 275 = .ok (.bipush 58, 2) := by decide +kernel
theorem dX10_make_277 : decode mX10_make.2.2.1 277 = .ok (.invokevirtual 272, 3) := by decide +kernel
theorem dX10_make_280 : decode mX10_make.2.2.1 280 = .ok (.aload_n 0, 1) := by decide +kernel
theorem dX10_make_281 : decode mX10_make.2.2.1 281 = .ok (.bipush 97, 2) := by decide +kernel
theorem dX10_make_283 : decode mX10_make.2.2.1 283 = .ok (.invokevirtual 272, 3) := by decide +kernel
theorem dX10_make_286 : decode mX10_make.2.2.1 286 = .ok (.aload_n 0, 1) := by decide +kernel
theorem dX10_make_287 : decode mX10_make.2.2.1 287 = .ok (.iconst 2, 1) := by decide +kernel
theorem dX10_make_288 : decode mX10_make.2.2.1 288 = .ok (.invokevirtual 281, 3) := by decide +kernel
theorem dX10_make_291 : decode mX10_make.2.2.1 291 = .ok (.aload_n 0, 1) := by decide +kernel
theorem dX10_make_292 : decode mX10_make.2.2.1 292 = .ok (.bipush 105, 2) := by decide +kernel
theorem dX10_make_294 : decode mX10_make.2.2.1 294 = .ok (.invokevirtual 272, 3) := by decide +kernel
theorem dX10_make_297 : decode mX10_make.2.2.1 297 = .ok (.aload_n 0, 1) := by decide +kernel
theorem dX10_make_298 : decode mX10_make.2.2.1 298 = .ok (.aload_n 0, 1) := by decide +kernel
theorem dX10_make_299 : decode mX10_make.2.2.1 299 = .ok (.getfield 239, 3) := by decide +kernel
theorem dX10_make_302 : decode mX10_make.2.2.1 302 = .ok (.invokevirtual 275, 3) := by decide +kernel
theorem dX10_make_305 : decode mX10_make.2.2.1 305 = .ok (.aload_n 0, 1) := by decide +kernel
theorem dX10_make_306 : decode mX10_make.2.2.1 306 = .ok (.bipush 101, 2) := by decide +kernel
theorem dX10_make_308 : decode mX10_make.2.2.1 308 = .ok (.invokevirtual 272, 3) := by decide +kernel
theorem dX10_make_311 : decode mX10_make.2.2.1 311 = .ok (.aload_n 0, 1) := by decide +kernel
theorem dX10_make_312 : decode mX10_make.2.2.1 312 = .ok (.bipush 6, 2) := by decide +kernel
theorem dX10_make_314 : decode mX10_make.2.2.1 314 = .ok (.invokevirtual 281, 3) := by decide +kernel
theorem dX10_make_317 : decode mX10_make.2.2.1 317 = .ok (.aload_n 0, 1) := by decide +kernel
theorem dX10_make_318 : decode mX10_make.2.2.1 318 = .ok (.bipush 20, 2) := by decide +kernel
theorem dX10_make_320 : decode mX10_make.2.2.1 320 = .ok (.aload_n 0, 1) := by decide +kernel
theorem dX10_make_321 : decode mX10_make.2.2.1 321 = .ok (.getfield 242, 3) := by decide +kernel
theorem dX10_make_324 : decode mX10_make.2.2.1 324 = .ok (.imul, 1) := by decide +kernel
theorem dX10_make_325 : decode mX10_make.2.2.1 325 = .ok (.invokevirtual 275, 3) := by decide +kernel
theorem dX10_make_328 : decode mX10_make.2.2.1 328 = .ok (.aload_n 0, 1) := by decide +kernel
theorem dX10_make_329 : decode mX10_make.2.2.1 329 = .ok (.bipush 58, 2) := by decide +kernel
theorem dX10_make_331 : decode mX10_make.2.2.1 331 = .ok (.invokevirtual 272, 3) := by decide +kernel
theorem dX10_make_334 : decode mX10_make.2.2.1 334 = .ok (.iconst 0, 1) := by decide +kernel
theorem dX10_make_335 : decode mX10_make.2.2.1 335 = .ok (.istore 4, 2) := by decide +kernel
theorem dX10_make_337 : decode mX10_make.2.2.1 337 = .ok (.iload 4, 2) := by decide +kernel
theorem dX10_make_339 : decode mX10_make.2.2.1 339 = .ok (.bipush 20, 2) := by decide +kernel
theorem dX10_make_341 : decode mX10_make.2.2.1 341 = .ok (.aload_n 0, 1) := by decide +kernel
theorem dX10_make_342 : decode mX10_make.2.2.1 342 = .ok (.getfield 242, 3) := by decide +kernel
theorem dX10_make_345 : decode mX10_make.2.2.1 345 = .ok (.imul, 1) := by decide +kernel
theorem dX10_make_346 : decode mX10_make.2.2.1 346 = .ok (.if_icmp .ge 20, 3) := by decide +kernel
theorem dX10_make_349 : decode mX10_make.2.2.1 349 = .ok (.aload_n 0, 1) := by decide +kernel
theorem dX10_make_350 : decode mX10_make.2.2.1 350 = .ok (.aload_n 0, 1) := by decide +kernel
theorem dX10_make_351 : decode mX10_make.2.2.1 351 = .ok (.getfield 47, 3) := by decide +kernel
theorem dX10_make_354 : decode mX10_make.2.2.1 354 = .ok (.iload 4, 2) := by decide +kernel
theorem dX10_make_356 : decode mX10_make.2.2.1 356 = .ok (.baload, 1) := by decide +kernel
theorem dX10_make_357 : decode mX10_make.2.2.1 357 = .ok (.invokevirtual 272, 3) := by decide +kernel
theorem dX10_make_360 : decode mX10_make.2.2.1 360 = .ok (.iinc 4 1, 3) := by decide +kernel
theorem dX10_make_363 : decode mX10_make.2.2.1 363 = .ok (.goto (-26), 3) := by decide +kernel
theorem dX10_make_366 : decode mX10_make.2.2.1 366 = .ok (.aload_n 0, 1) := by decide +kernel
theorem dX10_make_367 : decode mX10_make.2.2.1 367 = .ok (.bipush 101, 2) := by decide +kernel
theorem dX10_make_369 : decode mX10_make.2.2.1 369 = .ok (.invokevirtual 272, 3) := by decide +kernel
theorem dX10_make_372 : decode mX10_make.2.2.1 372 = .ok (.iload_n 3, 1) := by decide +kernel
theorem dX10_make_373 : decode mX10_make.2.2.1 373 = .ok (.istore 4, 2) := by decide +kernel
theorem dX10_make_375 : decode mX10_make.2.2.1 375 = .ok (.iload 4, 2) := by decide +kernel
theorem dX10_make_377 : decode mX10_make.2.2.1 377 = .ok (.aload_n 0, 1) := by decide +kernel
theorem dX10_make_378 : decode mX10_make.2.2.1 378 = .ok (.getfield 134, 3) := by decide +kernel
theorem dX10_make_381 : decode mX10_make.2.2.1 381 = .ok (.if_icmp .ge 25, 3) := by decide +kernel
theorem dX10_make_384 : decode mX10_make.2.2.1 384 = .ok (.aload_n 0, 1) := by decide +kernel
theorem dX10_make_385 : decode mX10_make.2.2.1 385 = .ok (.getfield 16, 3) := by decide +kernel
theorem dX10_make_388 : decode mX10_make.2.2.1 388 = .ok (.iload 4, 2) := by decide +kernel
theorem dX10_make_390 : decode mX10_make.2.2.1 390 = .ok (.iload_n 3, 1) := by decide +kernel
theorem dX10_make_391 : decode mX10_make.2.2.1 391 = .ok (.isub, 1) := by decide +kernel
theorem dX10_make_392 : decode mX10_make.2.2.1 392 = .ok (.aload_n 0, 1) := by decide +kernel
theorem dX10_make_393 : decode mX10_make.2.2.1 393 = .ok (.getfield 13, 3) := by decide +kernel
theorem dX10_make_396 : decode mX10_make.2.2.1 396 = .ok (.iload 4, 2) := by decide +kernel
theorem dX10_make_398 : decode mX10_make.2.2.1 398 = .ok (.baload, 1) := by decide +kernel
theorem dX10_make_399 : decode mX10_make.2.2.1 399 = .ok (.bastore, 1) := by decide +kernel
theorem dX10_make_400 : decode mX10_make.2.2.1 400 = .ok (.iinc 4 1, 3) := by decide +kernel
theorem dX10_make_403 : decode mX10_make.2.2.1 403 = .ok (.goto (-28), 3) := by decide +kernel
theorem dX10_make_406 : decode mX10_make.2.2.1 406 = .ok (.aload_n 0, 1) := by decide +kernel
theorem dX10_make_407 : decode mX10_make.2.2.1 407 = .ok (.aload_n 0, 1) := by decide +kernel
theorem dX10_make_408 : decode mX10_make.2.2.1 408 = .ok (.getfield 134, 3) := by decide +kernel
theorem dX10_make_411 : decode mX10_make.2.2.1 411 = .ok (.iload_n 3, 1) := by decide +kernel
theorem dX10_make_412 : decode mX10_make.2.2.1 412 = .ok (.isub, 1) := by decide +kernel
theorem dX10_make_413 : decode mX10_make.2.2.1 413 = .ok (.invokevirtual 163, 3) := by decide +kernel
theorem dX10_make_416 : decode mX10_make.2.2.1 416 = .ok (.aload_n 0, 1) := by decide +kernel
theorem dX10_make_417 : decode mX10_make.2.2.1 417 = .ok (.invokevirtual 166, 3) := by decide +kernel
theorem dX10_make_420 : decode mX10_make.2.2.1 420 = .ok (.iconst 0, 1) := by decide +kernel
theorem dX10_make_421 : decode mX10_make.2.2.1 421 = .ok (.istore 4, 2) := by decide +kernel
theorem dX10_make_423 : decode mX10_make.2.2.1 423 = .ok (.iload 4, 2) := by decide +kernel
theorem dX10_make_425 : decode mX10_make.2.2.1 425 = .ok (.bipush 20, 2) := by decide +kernel
theorem dX10_make_427 : decode mX10_make.2.2.1 427 = .ok (.if_icmp .ge 23, 3) := by decide +kernel
theorem dX10_make_430 : decode mX10_make.2.2.1 430 = .ok (.aload_n 0, 1) := by decide +kernel
theorem dX10_make_431 : decode mX10_make.2.2.1 431 = .ok (.getfield 50, 3) := by decide +kernel
theorem dX10_make_434 : decode mX10_make.2.2.1 434 = .ok (.iload 4, 2) := by decide +kernel
theorem dX10_make_436 : decode mX10_make.2.2.1 436 = .ok (.aload_n 0, 1) := by decide +kernel
theorem dX10_make_437 : decode mX10_make.2.2.1 437 = .ok (.getfield 26, 3) := by decide +kernel
theorem dX10_make_440 : decode mX10_make.2.2.1 440 = .ok (.iload 4, 2) := by decide +kernel
theorem dX10_make_442 : decode mX10_make.2.2.1 442 = .ok (.baload, 1) := by decide +kernel
theorem dX10_make_443 : decode mX10_make.2.2.1 443 = .ok (.bastore, 1) := by decide +kernel
theorem dX10_make_444 : decode mX10_make.2.2.1 444 = .ok (.iinc 4 1, 3) := by decide +kernel
theorem dX10_make_447 : decode mX10_make.2.2.1 447 = .ok (.goto (-24), 3) := by decide +kernel
theorem dX10_make_450 : decode mX10_make.2.2.1 450 = .ok (.aload_n 0, 1) := by decide +kernel
theorem dX10_make_451 : decode mX10_make.2.2.1 451 = .ok (.bipush 101, 2) := by decide +kernel
theorem dX10_make_453 : decode mX10_make.2.2.1 453 = .ok (.invokevirtual 272, 3) := by decide +kernel
theorem dX10_make_456 : decode mX10_make.2.2.1 456 = .ok (.aload_n 0, 1) := by decide +kernel
theorem dX10_make_457 : decode mX10_make.2.2.1 457 = .ok (.invokevirtual 269, 3) := by decide +kernel
theorem dX10_make_460 : decode mX10_make.2.2.1 460 = .ok (.aload_n 0, 1) := by decide +kernel
theorem dX10_make_461 : decode mX10_make.2.2.1 461 = .ok (.getfield 134, 3) := by decide +kernel
theorem dX10_make_464 : decode mX10_make.2.2.1 464 = .ok (.ireturn, 1) := by decide +kernel
theorem dX10_torrent_0 : decode mX10_torrent.2.2.1 0 = .ok (.aload_n 0, 1) := by decide +kernel
theorem dX10_torrent_1 : decode mX10_torrent.2.2.1 1 = .ok (.getfield 252, 3) := by decide +kernel
theorem dX10_torrent_4 : decode mX10_torrent.2.2.1 4 = .ok (.ifCond .ne 5, 3) := by decide +kernel
theorem dX10_torrent_7 : decode mX10_torrent.2.2.1 7 = .ok (.iconst (-1), 1) := by decide +kernel
theorem dX10_torrent_8 : decode mX10_torrent.2.2.1 8 = .ok (.ireturn, 1) := by decide +kernel
theorem dX10_torrent_9 : decode mX10_torrent.2.2.1 9 = .ok (.iload_n 1, 1) := by decide +kernel
theorem dX10_torrent_10 : decode mX10_torrent.2.2.1 10 = .ok (.ifCond .ne 10, 3) := by decide +kernel
theorem dX10_torrent_13 : decode mX10_torrent.2.2.1 13 = .ok (.aload_n 0, 1) := by decide +kernel
theorem dX10_torrent_14 : decode mX10_torrent.2.2.1 14 = .ok (.getfield 236, 3) := by decide +kernel
theorem dX10_torrent_17 : decode mX10_torrent.2.2.1 17 = .ok (.goto 40, 3) := by decide +kernel
theorem dX10_torrent_20 : decode mX10_torrent.2.2.1 20 = .ok (.iload_n 1, 1) := by decide +kernel
theorem dX10_torrent_21 : decode mX10_torrent.2.2.1 21 = .ok (.iconst 1, 1) := by decide +kernel
theorem dX10_torrent_22 : decode mX10_torrent.2.2.1 22 = .ok (.if_icmp .ne 10, 3) := by decide +kernel
theorem dX10_torrent_25 : decode mX10_torrent.2.2.1 25 = .ok (.aload_n 0, 1) := by decide +kernel
theorem dX10_torrent_26 : decode mX10_torrent.2.2.1 26 = .ok (.getfield 239, 3) := by decide +kernel
theorem dX10_torrent_29 : decode mX10_torrent.2.2.1 29 = .ok (.goto 28, 3) := by decide +kernel
theorem dX10_torrent_32 : decode mX10_torrent.2.2.1 32 = .ok (.iload_n 1, 1) := by decide +kernel
theorem dX10_torrent_33 : decode mX10_torrent.2.2.1 33 = .ok (.iconst 2, 1) := by decide +kernel
theorem dX10_torrent_34 : decode mX10_torrent.2.2.1 34 = .ok (.if_icmp .ne 10, 3) := by decide +kernel
theorem dX10_torrent_37 : decode mX10_torrent.2.2.1 37 = .ok (.aload_n 0, 1) := by decide +kernel
theorem dX10_torrent_38 : decode mX10_torrent.2.2.1 38 = .ok (.getfield 242, 3) := by decide +kernel
theorem dX10_torrent_41 : decode mX10_torrent.2.2.1 41 = .ok (.goto 16, 3) := by decide +kernel
theorem dX10_torrent_44 : decode mX10_torrent.2.2.1 44 = .ok (.iload_n 1, 1) := by decide +kernel
theorem dX10_torrent_45 : decode mX10_torrent.2.2.1 45 = .ok (.iconst 3, 1) := by decide +kernel
theorem dX10_torrent_46 : decode mX10_torrent.2.2.1 46 = .ok (.if_icmp .ne 10, 3) := by decide +kernel
theorem dX10_torrent_49 : decode mX10_torrent.2.2.1 49 = .ok (.aload_n 0, 1) := by decide +kernel
theorem dX10_torrent_50 : decode mX10_torrent.2.2.1 50 = .ok (.getfield 245, 3) := by decide +kernel
theorem dX10_torrent_53 : decode mX10_torrent.2.2.1 53 = .ok (.goto 4, 3) := by decide +kernel
theorem dX10_torrent_56 : decode mX10_torrent.2.2.1 56 = .ok (.iconst (-1), 1) := by decide +kernel
theorem dX10_torrent_57 : decode mX10_torrent.2.2.1 57 = .ok (.ireturn, 1) := by decide +kernel
theorem dX10_file_0 : decode mX10_file.2.2.1 0 = .ok (.aload_n 0, 1) := by decide +kernel
theorem dX10_file_1 : decode mX10_file.2.2.1 1 = .ok (.getfield 252, 3) := by decide +kernel
theorem dX10_file_4 : decode mX10_file.2.2.1 4 = .ok (.ifCond .eq 15, 3) := by decide +kernel
theorem dX10_file_7 : decode mX10_file.2.2.1 7 = .ok (.iload_n 1, 1) := by decide +kernel
theorem dX10_file_8 : decode mX10_file.2.2.1 8 = .ok (.ifCond .lt 11, 3) := by decide +kernel
theorem dX10_file_11 : decode mX10_file.2.2.1 11 = .ok (.iload_n 1, 1) := by decide +kernel
theorem dX10_file_12 : decode mX10_file.2.2.1 12 = .ok (.aload_n 0, 1) := by decide +kernel
theorem dX10_file_13 : decode mX10_file.2.2.1 13 = .ok (.getfield 245, 3) := by decide +kernel
theorem dX10_file_16 : decode mX10_file.2.2.1 16 = .ok (.if_icmp .lt 5, 3) := by decide +kernel
theorem dX10_file_19 : decode mX10_file.2.2.1 19 = .ok (.iconst (-1), 1) := by decide +kernel
theorem dX10_file_20 : decode mX10_file.2.2.1 20 = .ok (.ireturn, 1) := by decide +kernel
theorem dX10_file_21 : decode mX10_file.2.2.1 21 = .ok (.iconst 0, 1) := by decide +kernel
theorem dX10_file_22 : decode mX10_file.2.2.1 22 = .ok (.istore_n 3, 1) := by decide +kernel
theorem dX10_file_23 : decode mX10_file.2.2.1 23 = .ok (.iconst 0, 1) := by decide +kernel
theorem dX10_file_24 : decode mX10_file.2.2.1 24 = .ok (.istore 4, 2) := by decide +kernel
theorem dX10_file_26 : decode mX10_file.2.2.1 26 = .ok (.iload 4, 2) := by decide +kernel
theorem dX10_file_28 : decode mX10_file.2.2.1 28 = .ok (.iload_n 1, 1) := by decide +kernel
theorem dX10_file_29 : decode mX10_file.2.2.1 29 = .ok (.if_icmp .ge 19, 3) := by decide +kernel
theorem dX10_file_32 : decode mX10_file.2.2.1 32 = .ok (.iload_n 3, 1) := by decide +kernel
theorem dX10_file_33 : decode mX10_file.2.2.1 33 = .ok (.aload_n 0, 1) := by decide +kernel
theorem dX10_file_34 : decode mX10_file.2.2.1 34 = .ok (.getfield 41, 3) := by decide +kernel
theorem dX10_file_37 : decode mX10_file.2.2.1 37 = .ok (.iload 4, 2) := by decide +kernel
theorem dX10_file_39 : decode mX10_file.2.2.1 39 = .ok (.iaload, 1) := by decide +kernel
theorem dX10_file_40 : decode mX10_file.2.2.1 40 = .ok (.iadd, 1) := by decide +kernel
theorem dX10_file_41 : decode mX10_file.2.2.1 41 = .ok (.istore_n 3, 1) := by decide +kernel
theorem dX10_file_42 : decode mX10_file.2.2.1 42 = .ok (.iinc 4 1, 3) := by decide +kernel
theorem dX10_file_45 : decode mX10_file.2.2.1 45 = .ok (.goto (-19), 3) := by decide +kernel
theorem dX10_file_48 : decode mX10_file.2.2.1 48 = .ok (.iload_n 2, 1) := by decide +kernel
theorem dX10_file_49 : decode mX10_file.2.2.1 49 = .ok (.ifCond .ne 12, 3) := by decide +kernel
theorem dX10_file_52 : decode mX10_file.2.2.1 52 = .ok (.aload_n 0, 1) := by decide +kernel
theorem dX10_file_53 : decode mX10_file.2.2.1 53 = .ok (.getfield 41, 3) := by decide +kernel
theorem dX10_file_56 : decode mX10_file.2.2.1 56 = .ok (.iload_n 1, 1) := by decide +kernel
theorem dX10_file_57 : decode mX10_file.2.2.1 57 = .ok (.iaload, 1) := by decide +kernel
theorem dX10_file_58 : decode mX10_file.2.2.1 58 = .ok (.goto 27, 3) := by decide +kernel
theorem dX10_file_61 : decode mX10_file.2.2.1 61 = .ok (.iload_n 2, 1) := by decide +kernel
theorem dX10_file_62 : decode mX10_file.2.2.1 62 = .ok (.iconst 1, 1) := by decide +kernel
theorem dX10_file_63 : decode mX10_file.2.2.1 63 = .ok (.if_icmp .ne 7, 3) := by decide +kernel
theorem dX10_file_66 : decode mX10_file.2.2.1 66 = .ok (.iload_n 3, 1) := by decide +kernel
theorem dX10_file_67 : decode mX10_file.2.2.1 67 = .ok (.goto 18, 3) := by decide +kernel
theorem dX10_file_70 : decode mX10_file.2.2.1 70 = .ok (.iload_n 2, 1) := by decide +kernel
theorem dX10_file_71 : decode mX10_file.2.2.1 71 = .ok (.iconst 2, 1) := by decide +kernel
theorem dX10_file_72 : decode mX10_file.2.2.1 72 = .ok (.if_icmp .ne 12, 3) := by decide +kernel
theorem dX10_file_75 : decode mX10_file.2.2.1 75 = .ok (.aload_n 0, 1) := by decide +kernel
theorem dX10_file_76 : decode mX10_file.2.2.1 76 = .ok (.getfield 44, 3) := by decide +kernel
theorem dX10_file_79 : decode mX10_file.2.2.1 79 = .ok (.iload_n 1, 1) := by decide +kernel
theorem dX10_file_80 : decode mX10_file.2.2.1 80 = .ok (.iaload, 1) := by decide +kernel
theorem dX10_file_81 : decode mX10_file.2.2.1 81 = .ok (.goto 4, 3) := by decide +kernel
theorem dX10_file_84 : decode mX10_file.2.2.1 84 = .ok (.iconst (-1), 1) := by decide +kernel
theorem dX10_file_85 : decode mX10_file.2.2.1 85 = .ok (.ireturn, 1) := by decide +kernel
theorem dX10_hash_0 : decode mX10_hash.2.2.1 0 = .ok (.aload_n 0, 1) := by decide +kernel
theorem dX10_hash_1 : decode mX10_hash.2.2.1 1 = .ok (.getfield 252, 3) := by decide +kernel
theorem dX10_hash_4 : decode mX10_hash.2.2.1 4 = .ok (.ifCond .ne 5, 3) := by decide +kernel
theorem dX10_hash_7 : decode mX10_hash.2.2.1 7 = .ok (.iconst (-1), 1) := by decide +kernel
theorem dX10_hash_8 : decode mX10_hash.2.2.1 8 = .ok (.ireturn, 1) := by decide +kernel
theorem dX10_hash_9 : decode mX10_hash.2.2.1 9 = .ok (.iconst 0, 1) := by decide +kernel
theorem dX10_hash_10 : decode mX10_hash.2.2.1 10 = .ok (.istore_n 1, 1) := by decide +kernel
theorem dX10_hash_11 : decode mX10_hash.2.2.1 11 = .ok (.iload_n 1, 1) := by decide +kernel
theorem dX10_hash_12 : decode mX10_hash.2.2.1 12 = .ok (.bipush 20, 2) := by decide +kernel
theorem dX10_hash_14 : decode mX10_hash.2.2.1 14 = .ok (.if_icmp .ge 21, 3) := by decide +kernel
theorem dX10_hash_17 : decode mX10_hash.2.2.1 17 = .ok (.aload_n 0, 1) := by decide +kernel
theorem dX10_hash_18 : decode mX10_hash.2.2.1 18 = .ok (.getfield 13, 3) := by decide +kernel
theorem dX10_hash_21 : decode mX10_hash.2.2.1 21 = .ok (.iload_n 1, 1) := by decide +kernel
theorem dX10_hash_22 : decode mX10_hash.2.2.1 22 = .ok (.aload_n 0, 1) := by decide +kernel
theorem dX10_hash_23 : decode mX10_hash.2.2.1 23 = .ok (.getfield 50, 3) := by decide +kernel
theorem dX10_hash_26 : decode mX10_hash.2.2.1 26 = .ok (.iload_n 1, 1) := by decide +kernel
theorem dX10_hash_27 : decode mX10_hash.2.2.1 27 = .ok (.baload, 1) := by decide +kernel
theorem dX10_hash_28 : decode mX10_hash.2.2.1 28 = .ok (.bastore, 1) := by decide +kernel
theorem dX10_hash_29 : decode mX10_hash.2.2.1 29 = .ok (.iinc 1 1, 3) := by decide +kernel
theorem dX10_hash_32 : decode mX10_hash.2.2.1 32 = .ok (.goto (-21), 3) := by decide +kernel
theorem dX10_hash_35 : decode mX10_hash.2.2.1 35 = .ok (.aload_n 0, 1) := by decide +kernel
theorem dX10_hash_36 : decode mX10_hash.2.2.1 36 = .ok (.bipush 20, 2) := by decide +kernel
theorem dX10_hash_38 : decode mX10_hash.2.2.1 38 = .ok (.putfield 134, 3) := by decide +kernel
theorem dX10_hash_41 : decode mX10_hash.2.2.1 41 = .ok (.bipush 20, 2) := by decide +kernel
theorem dX10_hash_43 : decode mX10_hash.2.2.1 43 = .ok (.ireturn, 1) := by decide +kernel
theorem dX10_pieceSize_0 : decode mX10_pieceSize.2.2.1 0 = .ok (.iload_n 1, 1) := by decide +kernel
theorem dX10_pieceSize_1 : decode mX10_pieceSize.2.2.1 1 = .ok (.iconst 1, 1) := by decide +kernel
theorem dX10_pieceSize_2 : decode mX10_pieceSize.2.2.1 2 = .ok (.iadd, 1) := by decide +kernel
theorem dX10_pieceSize_3 : decode mX10_pieceSize.2.2.1 3 = .ok (.aload_n 0, 1) := by decide +kernel
theorem dX10_pieceSize_4 : decode mX10_pieceSize.2.2.1 4 = .ok (.getfield 242, 3) := by decide +kernel
theorem dX10_pieceSize_7 : decode mX10_pieceSize.2.2.1 7 = .ok (.if_icmp .ge 10, 3) := by decide +kernel
theorem dX10_pieceSize_10 : decode mX10_pieceSize.2.2.1 10 = .ok (.aload_n 0, 1) := by decide +kernel
theorem dX10_pieceSize_11 : decode mX10_pieceSize.2.2.1 11 = .ok (.getfield 239, 3) := by decide +kernel
theorem dX10_pieceSize_14 : decode mX10_pieceSize.2.2.1 14 = .ok (.goto 14, 3) := by decide +kernel
theorem dX10_pieceSize_17 : decode mX10_pieceSize.2.2.1 17 = .ok (.aload_n 0, 1) := by decide +kernel
theorem dX10_pieceSize_18 : decode mX10_pieceSize.2.2.1 18 = .ok (.getfield 236, 3) := by decide +kernel
theorem dX10_pieceSize_21 : decode mX10_pieceSize.2.2.1 21 = .ok (.iload_n 1, 1) := by decide +kernel
theorem dX10_pieceSize_22 : decode mX10_pieceSize.2.2.1 22 = .ok (.aload_n 0, 1) := by decide +kernel
theorem dX10_pieceSize_23 : decode mX10_pieceSize.2.2.1 23 = .ok (.getfield 239, 3) := by decide +kernel
theorem dX10_pieceSize_26 : decode mX10_pieceSize.2.2.1 26 = .ok (.imul, 1) := by decide +kernel
theorem dX10_pieceSize_27 : decode mX10_pieceSize.2.2.1 27 = .ok (.isub, 1) := by decide +kernel
theorem dX10_pieceSize_28 : decode mX10_pieceSize.2.2.1 28 = .ok (.ireturn, 1) := by decide +kernel
theorem dX10_blocks_0 : decode mX10_blocks.2.2.1 0 = .ok (.aload_n 0, 1) := by decide +kernel
theorem dX10_blocks_1 : decode mX10_blocks.2.2.1 1 = .ok (.iload_n 1, 1) := by decide +kernel
theorem dX10_blocks_2 : decode mX10_blocks.2.2.1 2 = .ok (.invokevirtual 278, 3) := by decide +kernel
theorem dX10_blocks_5 : decode mX10_blocks.2.2.1 5 = .ok (.bipush 64, 2) := by decide +kernel
theorem dX10_blocks_7 : decode mX10_blocks.2.2.1 7 = .ok (.iadd, 1) := by decide +kernel
theorem dX10_blocks_8 : decode mX10_blocks.2.2.1 8 = .ok (.iconst 1, 1) := by decide +kernel
theorem dX10_blocks_9 : decode mX10_blocks.2.2.1 9 = .ok (.isub, 1) := by decide +kernel
theorem dX10_blocks_10 : decode mX10_blocks.2.2.1 10 = .ok (.bipush 64, 2) := by decide +kernel
theorem dX10_blocks_12 : decode mX10_blocks.2.2.1 12 = .ok (.idiv, 1) := by decide +kernel
theorem dX10_blocks_13 : decode mX10_blocks.2.2.1 13 = .ok (.ireturn, 1) := by decide +kernel
theorem dX10_blockSize_0 : decode mX10_blockSize.2.2.1 0 = .ok (.aload_n 0, 1) := by decide +kernel
theorem dX10_blockSize_1 : decode mX10_blockSize.2.2.1 1 = .ok (.iload_n 1, 1) := by decide +kernel
theorem dX10_blockSize_2 : decode mX10_blockSize.2.2.1 2 = .ok (.invokevirtual 278, 3) := by decide +kernel
theorem dX10_blockSize_5 : decode mX10_blockSize.2.2.1 5 = .ok (.bipush 64, 2) := by decide +kernel
theorem dX10_blockSize_7 : decode mX10_blockSize.2.2.1 7 = .ok (.iload_n 2, 1) := by decide +kernel
theorem dX10_blockSize_8 : decode mX10_blockSize.2.2.1 8 = .ok (.imul, 1) := by decide +kernel
theorem dX10_blockSize_9 : decode mX10_blockSize.2.2.1 9 = .ok (.isub, 1) := by decide +kernel
theorem dX10_blockSize_10 : decode mX10_blockSize.2.2.1 10 = .ok (.istore_n 3, 1) := by decide +kernel
theorem dX10_blockSize_11 : decode mX10_blockSize.2.2.1 11 = .ok (.iload_n 3, 1) := by decide +kernel
theorem dX10_blockSize_12 : decode mX10_blockSize.2.2.1 12 = .ok (.bipush 64, 2) := by decide +kernel
theorem dX10_blockSize_14 : decode mX10_blockSize.2.2.1 14 = .ok (.if_icmp .ge 7, 3) := by decide +kernel
theorem dX10_blockSize_17 : decode mX10_blockSize.2.2.1 17 = .ok (.iload_n 3, 1) := by decide +kernel
theorem dX10_blockSize_18 : decode mX10_blockSize.2.2.1 18 = .ok (.goto 5, 3) := by decide +kernel
theorem dX10_blockSize_21 : decode mX10_blockSize.2.2.1 21 = .ok (.bipush 64, 2) := by decide +kernel
theorem dX10_blockSize_23 : decode mX10_blockSize.2.2.1 23 = .ok (.ireturn, 1) := by decide +kernel
theorem dX10_isIn_0 : decode mX10_isIn.2.2.1 0 = .ok (.iload_n 0, 1) := by decide +kernel
theorem dX10_isIn_1 : decode mX10_isIn.2.2.1 1 = .ok (.ifCond .lt 12, 3) := by decide +kernel
theorem dX10_isIn_4 : decode mX10_isIn.2.2.1 4 = .ok (.iload_n 0, 1) := by decide +kernel
theorem dX10_isIn_5 : decode mX10_isIn.2.2.1 5 = .ok (.iload_n 1, 1) := by decide +kernel
theorem dX10_isIn_6 : decode mX10_isIn.2.2.1 6 = .ok (.if_icmp .ge 7, 3) := by decide +kernel
theorem dX10_isIn_9 : decode mX10_isIn.2.2.1 9 = .ok (.iconst 1, 1) := by decide +kernel
theorem dX10_isIn_10 : decode mX10_isIn.2.2.1 10 = .ok (.goto 4, 3) := by decide +kernel
theorem dX10_isIn_13 : decode mX10_isIn.2.2.1 13 = .ok (.iconst 0, 1) := by decide +kernel
theorem dX10_isIn_14 : decode mX10_isIn.2.2.1 14 = .ok (.ireturn, 1) := by decide +kernel
theorem dX10_forgets_0 : decode mX10_forgets.2.2.1 0 = .ok (.iconst 5, 1) := by decide +kernel
theorem dX10_forgets_1 : decode mX10_forgets.2.2.1 1 = .ok (.iload_n 1, 1) := by decide +kernel
theorem dX10_forgets_2 : decode mX10_forgets.2.2.1 2 = .ok (.imul, 1) := by decide +kernel
theorem dX10_forgets_3 : decode mX10_forgets.2.2.1 3 = .ok (.iload_n 2, 1) := by decide +kernel
theorem dX10_forgets_4 : decode mX10_forgets.2.2.1 4 = .ok (.iadd, 1) := by decide +kernel
theorem dX10_forgets_5 : decode mX10_forgets.2.2.1 5 = .ok (.istore_n 3, 1) := by decide +kernel
theorem dX10_forgets_6 : decode mX10_forgets.2.2.1 6 = .ok (.aload_n 0, 1) := by decide +kernel
theorem dX10_forgets_7 : decode mX10_forgets.2.2.1 7 = .ok (.getfield 82, 3) := by decide +kernel
theorem dX10_forgets_10 : decode mX10_forgets.2.2.1 10 = .ok (.iload_n 3, 1) := by decide +kernel
theorem dX10_forgets_11 : decode mX10_forgets.2.2.1 11 = .ok (.iconst 0, 1) := by decide +kernel
theorem dX10_forgets_12 : decode mX10_forgets.2.2.1 12 = .ok (.bastore, 1) := by decide +kernel
theorem dX10_forgets_13 : decode mX10_forgets.2.2.1 13 = .ok (.aload_n 0, 1) := by decide +kernel
theorem dX10_forgets_14 : decode mX10_forgets.2.2.1 14 = .ok (.getfield 85, 3) := by decide +kernel
theorem dX10_forgets_17 : decode mX10_forgets.2.2.1 17 = .ok (.iload_n 3, 1) := by decide +kernel
theorem dX10_forgets_18 : decode mX10_forgets.2.2.1 18 = .ok (.iconst 0, 1) := by decide +kernel
theorem dX10_forgets_19 : decode mX10_forgets.2.2.1 19 = .ok (.bastore, 1) := by decide +kernel
theorem dX10_forgets_20 : decode mX10_forgets.2.2.1 20 = .ok (.aload_n 0, 1) := by decide +kernel
theorem dX10_forgets_21 : decode mX10_forgets.2.2.1 21 = .ok (.getfield 88, 3) := by decide +kernel
theorem dX10_forgets_24 : decode mX10_forgets.2.2.1 24 = .ok (.iload_n 3, 1) := by decide +kernel
theorem dX10_forgets_25 : decode mX10_forgets.2.2.1 25 = .ok (.iconst 0, 1) := by decide +kernel
theorem dX10_forgets_26 : decode mX10_forgets.2.2.1 26 = .ok (.bastore, 1) := by decide +kernel
theorem dX10_forgets_27 : decode mX10_forgets.2.2.1 27 = .ok (.aload_n 0, 1) := by decide +kernel
theorem dX10_forgets_28 : decode mX10_forgets.2.2.1 28 = .ok (.getfield 91, 3) := by decide +kernel
theorem dX10_forgets_31 : decode mX10_forgets.2.2.1 31 = .ok (.iload_n 3, 1) := by decide +kernel
theorem dX10_forgets_32 : decode mX10_forgets.2.2.1 32 = .ok (.iconst 1, 1) := by decide +kernel
theorem dX10_forgets_33 : decode mX10_forgets.2.2.1 33 = .ok (.bastore, 1) := by decide +kernel
theorem dX10_forgets_34 : decode mX10_forgets.2.2.1 34 = .ok (.aload_n 0, 1) := by decide +kernel
theorem dX10_forgets_35 : decode mX10_forgets.2.2.1 35 = .ok (.getfield 94, 3) := by decide +kernel
theorem dX10_forgets_38 : decode mX10_forgets.2.2.1 38 = .ok (.iload_n 3, 1) := by decide +kernel
theorem dX10_forgets_39 : decode mX10_forgets.2.2.1 39 = .ok (.iconst 1, 1) := by decide +kernel
theorem dX10_forgets_40 : decode mX10_forgets.2.2.1 40 = .ok (.bastore, 1) := by decide +kernel
theorem dX10_forgets_41 : decode mX10_forgets.2.2.1 41 = .ok (.aload_n 0, 1) := by decide +kernel
theorem dX10_forgets_42 : decode mX10_forgets.2.2.1 42 = .ok (.getfield 97, 3) := by decide +kernel
theorem dX10_forgets_45 : decode mX10_forgets.2.2.1 45 = .ok (.iload_n 3, 1) := by decide +kernel
theorem dX10_forgets_46 : decode mX10_forgets.2.2.1 46 = .ok (.iconst 0, 1) := by decide +kernel
theorem dX10_forgets_47 : decode mX10_forgets.2.2.1 47 = .ok (.bastore, 1) := by decide +kernel
theorem dX10_forgets_48 : decode mX10_forgets.2.2.1 48 = .ok (.aload_n 0, 1) := by decide +kernel
theorem dX10_forgets_49 : decode mX10_forgets.2.2.1 49 = .ok (.getfield 100, 3) := by decide +kernel
theorem dX10_forgets_52 : decode mX10_forgets.2.2.1 52 = .ok (.iload_n 3, 1) := by decide +kernel
theorem dX10_forgets_53 : decode mX10_forgets.2.2.1 53 = .ok (.iconst 0, 1) := by decide +kernel
theorem dX10_forgets_54 : decode mX10_forgets.2.2.1 54 = .ok (.bastore, 1) := by decide +kernel
theorem dX10_forgets_55 : decode mX10_forgets.2.2.1 55 = .ok (.iconst 0, 1) := by decide +kernel
theorem dX10_forgets_56 : decode mX10_forgets.2.2.1 56 = .ok (.istore 4, 2) := by decide +kernel
theorem dX10_forgets_58 : decode mX10_forgets.2.2.1 58 = .ok (.iload 4, 2) := by decide +kernel
theorem dX10_forgets_60 : decode mX10_forgets.2.2.1 60 = .ok (.bipush 64, 2) := by decide +kernel
theorem dX10_forgets_62 : decode mX10_forgets.2.2.1 62 = .ok (.if_icmp .ge 22, 3) := by decide +kernel
theorem dX10_forgets_65 : decode mX10_forgets.2.2.1 65 = .ok (.aload_n 0, 1) := by decide +kernel
theorem dX10_forgets_66 : decode mX10_forgets.2.2.1 66 = .ok (.getfield 103, 3) := by decide +kernel
theorem dX10_forgets_69 : decode mX10_forgets.2.2.1 69 = .ok (.bipush 64, 2) := by decide +kernel
theorem dX10_forgets_71 : decode mX10_forgets.2.2.1 71 = .ok (.iload_n 3, 1) := by decide +kernel
theorem dX10_forgets_72 : decode mX10_forgets.2.2.1 72 = .ok (.imul, 1) := by decide +kernel
theorem dX10_forgets_73 : decode mX10_forgets.2.2.1 73 = .ok (.iload 4, 2) := by decide +kernel
theorem dX10_forgets_75 : decode mX10_forgets.2.2.1 75 = .ok (.iadd, 1) := by decide +kernel
theorem dX10_forgets_76 : decode mX10_forgets.2.2.1 76 = .ok (.iconst 0, 1) := by decide +kernel
theorem dX10_forgets_77 : decode mX10_forgets.2.2.1 77 = .ok (.bastore, 1) := by decide +kernel
theorem dX10_forgets_78 : decode mX10_forgets.2.2.1 78 = .ok (.iinc 4 1, 3) := by decide +kernel
theorem dX10_forgets_81 : decode mX10_forgets.2.2.1 81 = .ok (.goto (-23), 3) := by decide +kernel
theorem dX10_forgets_84 : decode mX10_forgets.2.2.1 84 = .ok (.iconst 0, 1) := by decide +kernel
theorem dX10_forgets_85 : decode mX10_forgets.2.2.1 85 = .ok (.istore 4, 2) := by decide +kernel
theorem dX10_forgets_87 : decode mX10_forgets.2.2.1 87 = .ok (.iload 4, 2) := by decide +kernel
theorem dX10_forgets_89 : decode mX10_forgets.2.2.1 89 = .ok (.iconst 4, 1) := by decide +kernel
theorem dX10_forgets_90 : decode mX10_forgets.2.2.1 90 = .ok (.if_icmp .ge 21, 3) := by decide +kernel
theorem dX10_forgets_93 : decode mX10_forgets.2.2.1 93 = .ok (.aload_n 0, 1) := by decide +kernel
theorem dX10_forgets_94 : decode mX10_forgets.2.2.1 94 = .ok (.getfield 109, 3) := by decide +kernel
theorem dX10_forgets_97 : decode mX10_forgets.2.2.1 97 = .ok (.iconst 4, 1) := by decide +kernel
theorem dX10_forgets_98 : decode mX10_forgets.2.2.1 98 = .ok (.iload_n 3, 1) := by decide +kernel
theorem dX10_forgets_99 : decode mX10_forgets.2.2.1 99 = .ok (.imul, 1) := by decide +kernel
theorem dX10_forgets_100 : decode mX10_forgets.2.2.1 100 = .ok (.iload 4, 2) := by decide +kernel
theorem dX10_forgets_102 : decode mX10_forgets.2.2.1 102 = .ok (.iadd, 1) := by decide +kernel
theorem dX10_forgets_103 : decode mX10_forgets.2.2.1 103 = .ok (.iconst (-1), 1) := by decide +kernel
theorem dX10_forgets_104 : decode mX10_forgets.2.2.1 104 = .ok (.iastore, 1) := by decide +kernel
theorem dX10_forgets_105 : decode mX10_forgets.2.2.1 105 = .ok (.iinc 4 1, 3) := by decide +kernel
theorem dX10_forgets_108 : decode mX10_forgets.2.2.1 108 = .ok (.goto (-21), 3) := by decide +kernel
theorem dX10_forgets_111 : decode mX10_forgets.2.2.1 111 = .ok (.aload_n 0, 1) := by decide +kernel
theorem dX10_forgets_112 : decode mX10_forgets.2.2.1 112 = .ok (.getfield 116, 3) := by decide +kernel
theorem dX10_forgets_115 : decode mX10_forgets.2.2.1 115 = .ok (.iload_n 3, 1) := by decide +kernel
theorem dX10_forgets_116 : decode mX10_forgets.2.2.1 116 = .ok (.iconst 0, 1) := by decide +kernel
theorem dX10_forgets_117 : decode mX10_forgets.2.2.1 117 = .ok (.iastore, 1) := by decide +kernel
theorem dX10_forgets_118 : decode mX10_forgets.2.2.1 118 = .ok (.return_, 1) := by decide +kernel
theorem dX10_parts_0 : decode mX10_parts.2.2.1 0 = .ok (.aload_n 0, 1) := by decide +kernel
theorem dX10_parts_1 : decode mX10_parts.2.2.1 1 = .ok (.iload_n 1, 1) := by decide +kernel
theorem dX10_parts_2 : decode mX10_parts.2.2.1 2 = .ok (.iload_n 2, 1) := by decide +kernel
theorem dX10_parts_3 : decode mX10_parts.2.2.1 3 = .ok (.invokevirtual 284, 3) := by decide +kernel
theorem dX10_parts_6 : decode mX10_parts.2.2.1 6 = .ok (.aload_n 0, 1) := by decide +kernel
theorem dX10_parts_7 : decode mX10_parts.2.2.1 7 = .ok (.iload_n 2, 1) := by decide +kernel
theorem dX10_parts_8 : decode mX10_parts.2.2.1 8 = .ok (.iload_n 1, 1) := by decide +kernel
theorem dX10_parts_9 : decode mX10_parts.2.2.1 9 = .ok (.invokevirtual 284, 3) := by decide +kernel
theorem dX10_parts_12 : decode mX10_parts.2.2.1 12 = .ok (.return_, 1) := by decide +kernel
theorem dX10_closed_0 : decode mX10_closed.2.2.1 0 = .ok (.aload_n 0, 1) := by decide +kernel
theorem dX10_closed_1 : decode mX10_closed.2.2.1 1 = .ok (.iload_n 1, 1) := by decide +kernel
theorem dX10_closed_2 : decode mX10_closed.2.2.1 2 = .ok (.iload_n 2, 1) := by decide +kernel
theorem dX10_closed_3 : decode mX10_closed.2.2.1 3 = .ok (.invokevirtual 256, 3) := by decide +kernel
theorem dX10_closed_6 : decode mX10_closed.2.2.1 6 = .ok (.aload_n 0, 1) := by decide +kernel
theorem dX10_closed_7 : decode mX10_closed.2.2.1 7 = .ok (.getfield 106, 3) := by decide +kernel
theorem dX10_closed_10 : decode mX10_closed.2.2.1 10 = .ok (.iconst 5, 1) := by decide +kernel
theorem dX10_closed_11 : decode mX10_closed.2.2.1 11 = .ok (.iload_n 1, 1) := by decide +kernel
theorem dX10_closed_12 : decode mX10_closed.2.2.1 12 = .ok (.imul, 1) := by decide +kernel
theorem dX10_closed_13 : decode mX10_closed.2.2.1 13 = .ok (.iload_n 2, 1) := by decide +kernel
theorem dX10_closed_14 : decode mX10_closed.2.2.1 14 = .ok (.iadd, 1) := by decide +kernel
theorem dX10_closed_15 : decode mX10_closed.2.2.1 15 = .ok (.iload_n 3, 1) := by decide +kernel
theorem dX10_closed_16 : decode mX10_closed.2.2.1 16 = .ok (.iastore, 1) := by decide +kernel
theorem dX10_closed_17 : decode mX10_closed.2.2.1 17 = .ok (.aload_n 0, 1) := by decide +kernel
theorem dX10_closed_18 : decode mX10_closed.2.2.1 18 = .ok (.getfield 106, 3) := by decide +kernel
theorem dX10_closed_21 : decode mX10_closed.2.2.1 21 = .ok (.iconst 5, 1) := by decide +kernel
theorem dX10_closed_22 : decode mX10_closed.2.2.1 22 = .ok (.iload_n 2, 1) := by decide +kernel
theorem dX10_closed_23 : decode mX10_closed.2.2.1 23 = .ok (.imul, 1) := by decide +kernel
theorem dX10_closed_24 : decode mX10_closed.2.2.1 24 = .ok (.iload_n 1, 1) := by decide +kernel
theorem dX10_closed_25 : decode mX10_closed.2.2.1 25 = .ok (.iadd, 1) := by decide +kernel
theorem dX10_closed_26 : decode mX10_closed.2.2.1 26 = .ok (.iload_n 3, 1) := by decide +kernel
theorem dX10_closed_27 : decode mX10_closed.2.2.1 27 = .ok (.iastore, 1) := by decide +kernel
theorem dX10_closed_28 : decode mX10_closed.2.2.1 28 = .ok (.return_, 1) := by decide +kernel
theorem dX10_client_0 : decode mX10_client.2.2.1 0 = .ok (.iload_n 1, 1) := by decide +kernel
theorem dX10_client_1 : decode mX10_client.2.2.1 1 = .ok (.iconst 4, 1) := by decide +kernel
theorem dX10_client_2 : decode mX10_client.2.2.1 2 = .ok (.invokestatic 287, 3) := by decide +kernel
theorem dX10_client_5 : decode mX10_client.2.2.1 5 = .ok (.ifCond .eq 21, 3) := by decide +kernel
theorem dX10_client_8 : decode mX10_client.2.2.1 8 = .ok (.aload_n 0, 1) := by decide +kernel
theorem dX10_client_9 : decode mX10_client.2.2.1 9 = .ok (.getfield 252, 3) := by decide +kernel
theorem dX10_client_12 : decode mX10_client.2.2.1 12 = .ok (.ifCond .eq 14, 3) := by decide +kernel
theorem dX10_client_15 : decode mX10_client.2.2.1 15 = .ok (.iload_n 2, 1) := by decide +kernel
theorem dX10_client_16 : decode mX10_client.2.2.1 16 = .ok (.ifCond .eq 12, 3) := by decide +kernel
theorem dX10_client_19 : decode mX10_client.2.2.1 19 = .ok (.aload_n 0, 1) := by decide +kernel
theorem dX10_client_20 : decode mX10_client.2.2.1 20 = .ok (.getfield 266, 3) := by decide +kernel
theorem dX10_client_23 : decode mX10_client.2.2.1 23 = .ok (.ifCond .ne 5, 3) := by decide +kernel
theorem dX10_client_26 : decode mX10_client.2.2.1 26 = .ok (.iconst 0, 1) := by decide +kernel
theorem dX10_client_27 : decode mX10_client.2.2.1 27 = .ok (.ireturn, 1) := by decide +kernel
theorem dX10_client_28 : decode mX10_client.2.2.1 28 = .ok (.aload_n 0, 1) := by decide +kernel
theorem dX10_client_29 : decode mX10_client.2.2.1 29 = .ok (.getfield 66, 3) := by decide +kernel
theorem dX10_client_32 : decode mX10_client.2.2.1 32 = .ok (.iload_n 1, 1) := by decide +kernel
theorem dX10_client_33 : decode mX10_client.2.2.1 33 = .ok (.iconst 1, 1) := by decide +kernel
theorem dX10_client_34 : decode mX10_client.2.2.1 34 = .ok (.bastore, 1) := by decide +kernel
theorem dX10_client_35 : decode mX10_client.2.2.1 35 = .ok (.iconst 0, 1) := by decide +kernel
theorem dX10_client_36 : decode mX10_client.2.2.1 36 = .ok (.istore_n 3, 1) := by decide +kernel
theorem dX10_client_37 : decode mX10_client.2.2.1 37 = .ok (.iload_n 3, 1) := by decide +kernel
theorem dX10_client_38 : decode mX10_client.2.2.1 38 = .ok (.iconst 5, 1) := by decide +kernel
theorem dX10_client_39 : decode mX10_client.2.2.1 39 = .ok (.if_icmp .ge 37, 3) := by decide +kernel
theorem dX10_client_42 : decode mX10_client.2.2.1 42 = .ok (.aload_n 0, 1) := by decide +kernel
theorem dX10_client_43 : decode mX10_client.2.2.1 43 = .ok (.iload_n 1, 1) := by decide +kernel
theorem dX10_client_44 : decode mX10_client.2.2.1 44 = .ok (.iload_n 3, 1) := by decide +kernel
theorem dX10_client_45 : decode mX10_client.2.2.1 45 = .ok (.invokevirtual 256, 3) := by decide +kernel
theorem dX10_client_48 : decode mX10_client.2.2.1 48 = .ok (.aload_n 0, 1) := by decide +kernel
theorem dX10_client_49 : decode mX10_client.2.2.1 49 = .ok (.getfield 106, 3) := by decide +kernel
theorem dX10_client_52 : decode mX10_client.2.2.1 52 = .ok (.iconst 5, 1) := by decide +kernel
theorem dX10_client_53 : decode mX10_client.2.2.1 53 = .ok (.iload_n 1, 1) := by decide +kernel
theorem dX10_client_54 : decode mX10_client.2.2.1 54 = .ok (.imul, 1) := by decide +kernel
theorem dX10_client_55 : decode mX10_client.2.2.1 55 = .ok (.iload_n 3, 1) := by decide +kernel
theorem dX10_client_56 : decode mX10_client.2.2.1 56 = .ok (.iadd, 1) := by decide +kernel
theorem dX10_client_57 : decode mX10_client.2.2.1 57 = .ok (.iconst 0, 1) := by decide +kernel
theorem dX10_client_58 : decode mX10_client.2.2.1 58 = .ok (.iastore, 1) := by decide +kernel
theorem dX10_client_59 : decode mX10_client.2.2.1 59 = .ok (.aload_n 0, 1) := by decide +kernel
theorem dX10_client_60 : decode mX10_client.2.2.1 60 = .ok (.getfield 106, 3) := by decide +kernel
theorem dX10_client_63 : decode mX10_client.2.2.1 63 = .ok (.iconst 5, 1) := by decide +kernel
theorem dX10_client_64 : decode mX10_client.2.2.1 64 = .ok (.iload_n 3, 1) := by decide +kernel
theorem dX10_client_65 : decode mX10_client.2.2.1 65 = .ok (.imul, 1) := by decide +kernel
theorem dX10_client_66 : decode mX10_client.2.2.1 66 = .ok (.iload_n 1, 1) := by decide +kernel
theorem dX10_client_67 : decode mX10_client.2.2.1 67 = .ok (.iadd, 1) := by decide +kernel
theorem dX10_client_68 : decode mX10_client.2.2.1 68 = .ok (.iconst 0, 1) := by decide +kernel
theorem dX10_client_69 : decode mX10_client.2.2.1 69 = .ok (.iastore, 1) := by decide +kernel
theorem dX10_client_70 : decode mX10_client.2.2.1 70 = .ok (.iinc 3 1, 3) := by decide +kernel
theorem dX10_client_73 : decode mX10_client.2.2.1 73 = .ok (.goto (-36), 3) := by decide +kernel
theorem dX10_client_76 : decode mX10_client.2.2.1 76 = .ok (.iconst 0, 1) := by decide +kernel
theorem dX10_client_77 : decode mX10_client.2.2.1 77 = .ok (.istore_n 3, 1) := by decide +kernel
theorem dX10_client_78 : decode mX10_client.2.2.1 78 = .ok (.iload_n 3, 1) := by decide +kernel
theorem dX10_client_79 : decode mX10_client.2.2.1 79 = .ok (.sipush 4096, 3) := by decide +kernel
theorem dX10_client_82 : decode mX10_client.2.2.1 82 = .ok (.if_icmp .ge 35, 3) := by decide +kernel
theorem dX10_client_85 : decode mX10_client.2.2.1 85 = .ok (.aload_n 0, 1) := by decide +kernel
theorem dX10_client_86 : decode mX10_client.2.2.1 86 = .ok (.getfield 70, 3) := by decide +kernel
theorem dX10_client_89 : decode mX10_client.2.2.1 89 = .ok (.sipush 4096, 3) := by decide +kernel
theorem dX10_client_92 : decode mX10_client.2.2.1 92 = .ok (.iload_n 1, 1) := by decide +kernel
theorem dX10_client_93 : decode mX10_client.2.2.1 93 = .ok (.imul, 1) := by decide +kernel
theorem dX10_client_94 : decode mX10_client.2.2.1 94 = .ok (.iload_n 3, 1) := by decide +kernel
theorem dX10_client_95 : decode mX10_client.2.2.1 95 = .ok (.iadd, 1) := by decide +kernel
theorem dX10_client_96 : decode mX10_client.2.2.1 96 = .ok (.iload_n 2, 1) := by decide +kernel
theorem dX10_client_97 : decode mX10_client.2.2.1 97 = .ok (.ifCond .eq 12, 3) := by decide +kernel
theorem dX10_client_100 : decode mX10_client.2.2.1 100 = .ok (.aload_n 0, 1) := by decide +kernel
theorem dX10_client_101 : decode mX10_client.2.2.1 101 = .ok (.getfield 53, 3) := by decide +kernel
theorem dX10_client_104 : decode mX10_client.2.2.1 104 = .ok (.iload_n 3, 1) := by decide +kernel
theorem dX10_client_105 : decode mX10_client.2.2.1 105 = .ok (.baload, 1) := by decide +kernel
theorem dX10_client_106 : decode mX10_client.2.2.1 106 = .ok (.goto 4, 3) := by decide +kernel
theorem dX10_client_109 : decode mX10_client.2.2.1 109 = .ok (.iconst 0, 1) := by decide +kernel
theorem dX10_client_110 : decode mX10_client.2.2.1 110 = .ok (.bastore, 1) := by decide +kernel
theorem dX10_client_111 : decode mX10_client.2.2.1 111 = .ok (.iinc 3 1, 3) := by decide +kernel
theorem dX10_client_114 : decode mX10_client.2.2.1 114 = .ok (.goto (-36), 3) := by decide +kernel
theorem dX10_client_117 : decode mX10_client.2.2.1 117 = .ok (.iconst 0, 1) := by decide +kernel
theorem dX10_client_118 : decode mX10_client.2.2.1 118 = .ok (.istore_n 3, 1) := by decide +kernel
theorem dX10_client_119 : decode mX10_client.2.2.1 119 = .ok (.iload_n 3, 1) := by decide +kernel
theorem dX10_client_120 : decode mX10_client.2.2.1 120 = .ok (.bipush 64, 2) := by decide +kernel
theorem dX10_client_122 : decode mX10_client.2.2.1 122 = .ok (.if_icmp .ge 37, 3) := by decide +kernel
theorem dX10_client_125 : decode mX10_client.2.2.1 125 = .ok (.aload_n 0, 1) := by decide +kernel
theorem dX10_client_126 : decode mX10_client.2.2.1 126 = .ok (.getfield 73, 3) := by decide +kernel
theorem dX10_client_129 : decode mX10_client.2.2.1 129 = .ok (.bipush 64, 2) := by decide +kernel
theorem dX10_client_131 : decode mX10_client.2.2.1 131 = .ok (.iload_n 1, 1) := by decide +kernel
theorem dX10_client_132 : decode mX10_client.2.2.1 132 = .ok (.imul, 1) := by decide +kernel
theorem dX10_client_133 : decode mX10_client.2.2.1 133 = .ok (.iload_n 3, 1) := by decide +kernel
theorem dX10_client_134 : decode mX10_client.2.2.1 134 = .ok (.iadd, 1) := by decide +kernel
theorem dX10_client_135 : decode mX10_client.2.2.1 135 = .ok (.iload_n 2, 1) := by decide +kernel
theorem dX10_client_136 : decode mX10_client.2.2.1 136 = .ok (.ifCond .eq 15, 3) := by decide +kernel
theorem dX10_client_139 : decode mX10_client.2.2.1 139 = .ok (.iload_n 3, 1) := by decide +kernel
theorem dX10_client_140 : decode mX10_client.2.2.1 140 = .ok (.aload_n 0, 1) := by decide +kernel
theorem dX10_client_141 : decode mX10_client.2.2.1 141 = .ok (.getfield 242, 3) := by decide +kernel
theorem dX10_client_144 : decode mX10_client.2.2.1 144 = .ok (.if_icmp .ge 7, 3) := by decide +kernel
theorem dX10_client_147 : decode mX10_client.2.2.1 147 = .ok (.iconst 1, 1) := by decide +kernel
theorem dX10_client_148 : decode mX10_client.2.2.1 148 = .ok (.goto 4, 3) := by decide +kernel
theorem dX10_client_151 : decode mX10_client.2.2.1 151 = .ok (.iconst 0, 1) := by decide +kernel
theorem dX10_client_152 : decode mX10_client.2.2.1 152 = .ok (.bastore, 1) := by decide +kernel
theorem dX10_client_153 : decode mX10_client.2.2.1 153 = .ok (.iinc 3 1, 3) := by decide +kernel
theorem dX10_client_156 : decode mX10_client.2.2.1 156 = .ok (.goto (-37), 3) := by decide +kernel
theorem dX10_client_159 : decode mX10_client.2.2.1 159 = .ok (.iconst 0, 1) := by decide +kernel
theorem dX10_client_160 : decode mX10_client.2.2.1 160 = .ok (.istore_n 3, 1) := by decide +kernel
theorem dX10_client_161 : decode mX10_client.2.2.1 161 = .ok (.iload_n 3, 1) := by decide +kernel
theorem dX10_client_162 : decode mX10_client.2.2.1 162 = .ok (.sipush 1024, 3) := by decide +kernel
theorem dX10_client_165 : decode mX10_client.2.2.1 165 = .ok (.if_icmp .ge 22, 3) := by decide +kernel
theorem dX10_client_168 : decode mX10_client.2.2.1 168 = .ok (.aload_n 0, 1) := by decide +kernel
theorem dX10_client_169 : decode mX10_client.2.2.1 169 = .ok (.getfield 76, 3) := by decide +kernel
theorem dX10_client_172 : decode mX10_client.2.2.1 172 = .ok (.sipush 1024, 3) := by decide +kernel
theorem dX10_client_175 : decode mX10_client.2.2.1 175 = .ok (.iload_n 1, 1) := by decide +kernel
theorem dX10_client_176 : decode mX10_client.2.2.1 176 = .ok (.imul, 1) := by decide +kernel
theorem dX10_client_177 : decode mX10_client.2.2.1 177 = .ok (.iload_n 3, 1) := by decide +kernel
theorem dX10_client_178 : decode mX10_client.2.2.1 178 = .ok (.iadd, 1) := by decide +kernel
theorem dX10_client_179 : decode mX10_client.2.2.1 179 = .ok (.iconst 0, 1) := by decide +kernel
theorem dX10_client_180 : decode mX10_client.2.2.1 180 = .ok (.bastore, 1) := by decide +kernel
theorem dX10_client_181 : decode mX10_client.2.2.1 181 = .ok (.iinc 3 1, 3) := by decide +kernel
theorem dX10_client_184 : decode mX10_client.2.2.1 184 = .ok (.goto (-23), 3) := by decide +kernel
theorem dX10_client_187 : decode mX10_client.2.2.1 187 = .ok (.iconst 0, 1) := by decide +kernel
theorem dX10_client_188 : decode mX10_client.2.2.1 188 = .ok (.istore_n 3, 1) := by decide +kernel
theorem dX10_client_189 : decode mX10_client.2.2.1 189 = .ok (.iload_n 3, 1) := by decide +kernel
theorem dX10_client_190 : decode mX10_client.2.2.1 190 = .ok (.iconst 5, 1) := by decide +kernel
theorem dX10_client_191 : decode mX10_client.2.2.1 191 = .ok (.if_icmp .ge 20, 3) := by decide +kernel
theorem dX10_client_194 : decode mX10_client.2.2.1 194 = .ok (.aload_n 0, 1) := by decide +kernel
theorem dX10_client_195 : decode mX10_client.2.2.1 195 = .ok (.getfield 79, 3) := by decide +kernel
theorem dX10_client_198 : decode mX10_client.2.2.1 198 = .ok (.iconst 5, 1) := by decide +kernel
theorem dX10_client_199 : decode mX10_client.2.2.1 199 = .ok (.iload_n 1, 1) := by decide +kernel
theorem dX10_client_200 : decode mX10_client.2.2.1 200 = .ok (.imul, 1) := by decide +kernel
theorem dX10_client_201 : decode mX10_client.2.2.1 201 = .ok (.iload_n 3, 1) := by decide +kernel
theorem dX10_client_202 : decode mX10_client.2.2.1 202 = .ok (.iadd, 1) := by decide +kernel
theorem dX10_client_203 : decode mX10_client.2.2.1 203 = .ok (.iconst 0, 1) := by decide +kernel
theorem dX10_client_204 : decode mX10_client.2.2.1 204 = .ok (.iastore, 1) := by decide +kernel
theorem dX10_client_205 : decode mX10_client.2.2.1 205 = .ok (.iinc 3 1, 3) := by decide +kernel
theorem dX10_client_208 : decode mX10_client.2.2.1 208 = .ok (.goto (-19), 3) := by decide +kernel
theorem dX10_client_211 : decode mX10_client.2.2.1 211 = .ok (.iconst 1, 1) := by decide +kernel
theorem dX10_client_212 : decode mX10_client.2.2.1 212 = .ok (.ireturn, 1) := by decide +kernel
theorem dX10_isThere_0 : decode mX10_isThere.2.2.1 0 = .ok (.iload_n 1, 1) := by decide +kernel
theorem dX10_isThere_1 : decode mX10_isThere.2.2.1 1 = .ok (.iconst 4, 1) := by decide +kernel
theorem dX10_isThere_2 : decode mX10_isThere.2.2.1 2 = .ok (.if_icmp .eq 20, 3) := by decide +kernel
theorem dX10_isThere_5 : decode mX10_isThere.2.2.1 5 = .ok (.iload_n 1, 1) := by decide +kernel
theorem dX10_isThere_6 : decode mX10_isThere.2.2.1 6 = .ok (.iconst 4, 1) := by decide +kernel
theorem dX10_isThere_7 : decode mX10_isThere.2.2.1 7 = .ok (.invokestatic 287, 3) := by decide +kernel
theorem dX10_isThere_10 : decode mX10_isThere.2.2.1 10 = .ok (.ifCond .eq 16, 3) := by decide +kernel
theorem dX10_isThere_13 : decode mX10_isThere.2.2.1 13 = .ok (.aload_n 0, 1) := by decide +kernel
theorem dX10_isThere_14 : decode mX10_isThere.2.2.1 14 = .ok (.getfield 66, 3) := by decide +kernel
theorem dX10_isThere_17 : decode mX10_isThere.2.2.1 17 = .ok (.iload_n 1, 1) := by decide +kernel
theorem dX10_isThere_18 : decode mX10_isThere.2.2.1 18 = .ok (.baload, 1) := by decide +kernel
theorem dX10_isThere_19 : decode mX10_isThere.2.2.1 19 = .ok (.ifCond .eq 7, 3) := by decide +kernel
theorem dX10_isThere_22 : decode mX10_isThere.2.2.1 22 = .ok (.iconst 1, 1) := by decide +kernel
theorem dX10_isThere_23 : decode mX10_isThere.2.2.1 23 = .ok (.goto 4, 3) := by decide +kernel
theorem dX10_isThere_26 : decode mX10_isThere.2.2.1 26 = .ok (.iconst 0, 1) := by decide +kernel
theorem dX10_isThere_27 : decode mX10_isThere.2.2.1 27 = .ok (.ireturn, 1) := by decide +kernel
theorem dX10_areJoined_0 : decode mX10_areJoined.2.2.1 0 = .ok (.iload_n 1, 1) := by decide +kernel
theorem dX10_areJoined_1 : decode mX10_areJoined.2.2.1 1 = .ok (.iconst 5, 1) := by decide +kernel
theorem dX10_areJoined_2 : decode mX10_areJoined.2.2.1 2 = .ok (.invokestatic 287, 3) := by decide +kernel
theorem dX10_areJoined_5 : decode mX10_areJoined.2.2.1 5 = .ok (.ifCond .eq 28, 3) := by decide +kernel
theorem dX10_areJoined_8 : decode mX10_areJoined.2.2.1 8 = .ok (.iload_n 2, 1) := by decide +kernel
theorem dX10_areJoined_9 : decode mX10_areJoined.2.2.1 9 = .ok (.iconst 5, 1) := by decide +kernel
theorem dX10_areJoined_10 : decode mX10_areJoined.2.2.1 10 = .ok (.invokestatic 287, 3) := by decide +kernel
theorem dX10_areJoined_13 : decode mX10_areJoined.2.2.1 13 = .ok (.ifCond .eq 20, 3) := by decide +kernel
theorem dX10_areJoined_16 : decode mX10_areJoined.2.2.1 16 = .ok (.aload_n 0, 1) := by decide +kernel
theorem dX10_areJoined_17 : decode mX10_areJoined.2.2.1 17 = .ok (.getfield 82, 3) := by decide +kernel
theorem dX10_areJoined_20 : decode mX10_areJoined.2.2.1 20 = .ok (.iconst 5, 1) := by decide +kernel
theorem dX10_areJoined_21 : decode mX10_areJoined.2.2.1 21 = .ok (.iload_n 1, 1) := by decide +kernel
theorem dX10_areJoined_22 : decode mX10_areJoined.2.2.1 22 = .ok (.imul, 1) := by decide +kernel
theorem dX10_areJoined_23 : decode mX10_areJoined.2.2.1 23 = .ok (.iload_n 2, 1) := by decide +kernel
theorem dX10_areJoined_24 : decode mX10_areJoined.2.2.1 24 = .ok (.iadd, 1) := by decide +kernel
theorem dX10_areJoined_25 : decode mX10_areJoined.2.2.1 25 = .ok (.baload, 1) := by decide +kernel
theorem dX10_areJoined_26 : decode mX10_areJoined.2.2.1 26 = .ok (.ifCond .eq 7, 3) := by decide +kernel
theorem dX10_areJoined_29 : decode mX10_areJoined.2.2.1 29 = .ok (.iconst 1, 1) := by decide +kernel
theorem dX10_areJoined_30 : decode mX10_areJoined.2.2.1 30 = .ok (.goto 4, 3) := by decide +kernel
theorem dX10_areJoined_33 : decode mX10_areJoined.2.2.1 33 = .ok (.iconst 0, 1) := by decide +kernel
theorem dX10_areJoined_34 : decode mX10_areJoined.2.2.1 34 = .ok (.ireturn, 1) := by decide +kernel
theorem dX10_connect_0 : decode mX10_connect.2.2.1 0 = .ok (.aload_n 0, 1) := by decide +kernel
theorem dX10_connect_1 : decode mX10_connect.2.2.1 1 = .ok (.iload_n 1, 1) := by decide +kernel
theorem dX10_connect_2 : decode mX10_connect.2.2.1 2 = .ok (.invokevirtual 290, 3) := by decide +kernel
theorem dX10_connect_5 : decode mX10_connect.2.2.1 5 = .ok (.ifCond .eq 25, 3) := by decide +kernel
theorem dX10_connect_8 : decode mX10_connect.2.2.1 8 = .ok (.aload_n 0, 1) := by decide +kernel
theorem dX10_connect_9 : decode mX10_connect.2.2.1 9 = .ok (.iload_n 2, 1) := by decide +kernel
theorem dX10_connect_10 : decode mX10_connect.2.2.1 10 = .ok (.invokevirtual 290, 3) := by decide +kernel
theorem dX10_connect_13 : decode mX10_connect.2.2.1 13 = .ok (.ifCond .eq 17, 3) := by decide +kernel
theorem dX10_connect_16 : decode mX10_connect.2.2.1 16 = .ok (.iload_n 1, 1) := by decide +kernel
theorem dX10_connect_17 : decode mX10_connect.2.2.1 17 = .ok (.iload_n 2, 1) := by decide +kernel
theorem dX10_connect_18 : decode mX10_connect.2.2.1 18 = .ok (.if_icmp .eq 12, 3) := by decide +kernel
theorem dX10_connect_21 : decode mX10_connect.2.2.1 21 = .ok (.aload_n 0, 1) := by decide +kernel
theorem dX10_connect_22 : decode mX10_connect.2.2.1 22 = .ok (.iload_n 1, 1) := by decide +kernel
theorem dX10_connect_23 : decode mX10_connect.2.2.1 23 = .ok (.iload_n 2, 1) := by decide +kernel
theorem dX10_connect_24 : decode mX10_connect.2.2.1 24 = .ok (.invokevirtual 293, 3) := by decide +kernel
theorem dX10_connect_27 : decode mX10_connect.2.2.1 27 = .ok (.ifCond .eq 5, 3) := by decide +kernel
theorem dX10_connect_30 : decode mX10_connect.2.2.1 30 = .ok (.iconst 0, 1) := by decide +kernel
theorem dX10_connect_31 : decode mX10_connect.2.2.1 31 = .ok (.ireturn, 1) := by decide +kernel
theorem dX10_connect_32 : decode mX10_connect.2.2.1 32 = .ok (.aload_n 0, 1) := by decide +kernel
theorem dX10_connect_33 : decode mX10_connect.2.2.1 33 = .ok (.iload_n 1, 1) := by decide +kernel
theorem dX10_connect_34 : decode mX10_connect.2.2.1 34 = .ok (.iload_n 2, 1) := by decide +kernel
theorem dX10_connect_35 : decode mX10_connect.2.2.1 35 = .ok (.invokevirtual 256, 3) := by decide +kernel
theorem dX10_connect_38 : decode mX10_connect.2.2.1 38 = .ok (.aload_n 0, 1) := by decide +kernel
theorem dX10_connect_39 : decode mX10_connect.2.2.1 39 = .ok (.getfield 82, 3) := by decide +kernel
theorem dX10_connect_42 : decode mX10_connect.2.2.1 42 = .ok (.iconst 5, 1) := by decide +kernel
theorem dX10_connect_43 : decode mX10_connect.2.2.1 43 = .ok (.iload_n 1, 1) := by decide +kernel
theorem dX10_connect_44 : decode mX10_connect.2.2.1 44 = .ok (.imul, 1) := by decide +kernel
theorem dX10_connect_45 : decode mX10_connect.2.2.1 45 = .ok (.iload_n 2, 1) := by decide +kernel
theorem dX10_connect_46 : decode mX10_connect.2.2.1 46 = .ok (.iadd, 1) := by decide +kernel
theorem dX10_connect_47 : decode mX10_connect.2.2.1 47 = .ok (.iconst 1, 1) := by decide +kernel
theorem dX10_connect_48 : decode mX10_connect.2.2.1 48 = .ok (.bastore, 1) := by decide +kernel
theorem dX10_connect_49 : decode mX10_connect.2.2.1 49 = .ok (.aload_n 0, 1) := by decide +kernel
theorem dX10_connect_50 : decode mX10_connect.2.2.1 50 = .ok (.getfield 82, 3) := by decide +kernel
theorem dX10_connect_53 : decode mX10_connect.2.2.1 53 = .ok (.iconst 5, 1) := by decide +kernel
theorem dX10_connect_54 : decode mX10_connect.2.2.1 54 = .ok (.iload_n 2, 1) := by decide +kernel
theorem dX10_connect_55 : decode mX10_connect.2.2.1 55 = .ok (.imul, 1) := by decide +kernel
theorem dX10_connect_56 : decode mX10_connect.2.2.1 56 = .ok (.iload_n 1, 1) := by decide +kernel
theorem dX10_connect_57 : decode mX10_connect.2.2.1 57 = .ok (.iadd, 1) := by decide +kernel
theorem dX10_connect_58 : decode mX10_connect.2.2.1 58 = .ok (.iconst 1, 1) := by decide +kernel
theorem dX10_connect_59 : decode mX10_connect.2.2.1 59 = .ok (.bastore, 1) := by decide +kernel
theorem dX10_connect_60 : decode mX10_connect.2.2.1 60 = .ok (.aload_n 0, 1) := by decide +kernel
theorem dX10_connect_61 : decode mX10_connect.2.2.1 61 = .ok (.iload_n 1, 1) := by decide +kernel
theorem dX10_connect_62 : decode mX10_connect.2.2.1 62 = .ok (.iload_n 2, 1) := by decide +kernel
theorem dX10_connect_63 : decode mX10_connect.2.2.1 63 = .ok (.invokevirtual 296, 3) := by decide +kernel
theorem dX10_connect_66 : decode mX10_connect.2.2.1 66 = .ok (.aload_n 0, 1) := by decide +kernel
theorem dX10_connect_67 : decode mX10_connect.2.2.1 67 = .ok (.iload_n 2, 1) := by decide +kernel
theorem dX10_connect_68 : decode mX10_connect.2.2.1 68 = .ok (.iload_n 1, 1) := by decide +kernel
theorem dX10_connect_69 : decode mX10_connect.2.2.1 69 = .ok (.invokevirtual 296, 3) := by decide +kernel
theorem dX10_connect_72 : decode mX10_connect.2.2.1 72 = .ok (.iconst 1, 1) := by decide +kernel
theorem dX10_connect_73 : decode mX10_connect.2.2.1 73 = .ok (.ireturn, 1) := by decide +kernel
theorem dX10_close_0 : decode mX10_close.2.2.1 0 = .ok (.aload_n 0, 1) := by decide +kernel
theorem dX10_close_1 : decode mX10_close.2.2.1 1 = .ok (.iload_n 1, 1) := by decide +kernel
theorem dX10_close_2 : decode mX10_close.2.2.1 2 = .ok (.iload_n 2, 1) := by decide +kernel
theorem dX10_close_3 : decode mX10_close.2.2.1 3 = .ok (.invokevirtual 293, 3) := by decide +kernel
theorem dX10_close_6 : decode mX10_close.2.2.1 6 = .ok (.ifCond .ne 5, 3) := by decide +kernel
theorem dX10_close_9 : decode mX10_close.2.2.1 9 = .ok (.iconst 0, 1) := by decide +kernel
theorem dX10_close_10 : decode mX10_close.2.2.1 10 = .ok (.ireturn, 1) := by decide +kernel
theorem dX10_close_11 : decode mX10_close.2.2.1 11 = .ok (.aload_n 0, 1) := by decide +kernel
theorem dX10_close_12 : decode mX10_close.2.2.1 12 = .ok (.iload_n 1, 1) := by decide +kernel
theorem dX10_close_13 : decode mX10_close.2.2.1 13 = .ok (.iload_n 2, 1) := by decide +kernel
theorem dX10_close_14 : decode mX10_close.2.2.1 14 = .ok (.iconst 0, 1) := by decide +kernel
theorem dX10_close_15 : decode mX10_close.2.2.1 15 = .ok (.invokevirtual 299, 3) := by decide +kernel
theorem dX10_close_18 : decode mX10_close.2.2.1 18 = .ok (.iconst 1, 1) := by decide +kernel
theorem dX10_close_19 : decode mX10_close.2.2.1 19 = .ok (.ireturn, 1) := by decide +kernel
theorem dX10_one_0 : decode mX10_one.2.2.1 0 = .ok (.aload_n 0, 1) := by decide +kernel
theorem dX10_one_1 : decode mX10_one.2.2.1 1 = .ok (.getfield 119, 3) := by decide +kernel
theorem dX10_one_4 : decode mX10_one.2.2.1 4 = .ok (.aload_n 0, 1) := by decide +kernel
theorem dX10_one_5 : decode mX10_one.2.2.1 5 = .ok (.getfield 303, 3) := by decide +kernel
theorem dX10_one_8 : decode mX10_one.2.2.1 8 = .ok (.iload_n 1, 1) := by decide +kernel
theorem dX10_one_9 : decode mX10_one.2.2.1 9 = .ok (.i2b, 1) := by decide +kernel
theorem dX10_one_10 : decode mX10_one.2.2.1 10 = .ok (.bastore, 1) := by decide +kernel
theorem dX10_one_11 : decode mX10_one.2.2.1 11 = .ok (.aload_n 0, 1) := by decide +kernel
theorem dX10_one_12 : decode mX10_one.2.2.1 12 = .ok (.dup, 1) := by decide +kernel
theorem dX10_one_13 : decode mX10_one.2.2.1 13 = .ok (.getfield 303, 3) := by decide +kernel
theorem dX10_one_16 : decode mX10_one.2.2.1 16 = .ok (.iconst 1, 1) := by decide +kernel
theorem dX10_one_17 : decode mX10_one.2.2.1 17 = .ok (.iadd, 1) := by decide +kernel
theorem dX10_one_18 : decode mX10_one.2.2.1 18 = .ok (.putfield 303, 3) := by decide +kernel
theorem dX10_one_21 : decode mX10_one.2.2.1 21 = .ok (.return_, 1) := by decide +kernel
theorem dX10_four_0 : decode mX10_four.2.2.1 0 = .ok (.bipush 24, 2) := by decide +kernel
theorem dX10_four_2 : decode mX10_four.2.2.1 2 = .ok (.istore_n 2, 1) := by decide +kernel
theorem dX10_four_3 : decode mX10_four.2.2.1 3 = .ok (.iload_n 2, 1) := by decide +kernel
theorem dX10_four_4 : decode mX10_four.2.2.1 4 = .ok (.ifCond .lt 16, 3) := by decide +kernel
theorem dX10_four_7 : decode mX10_four.2.2.1 7 = .ok (.aload_n 0, 1) := by decide +kernel
theorem dX10_four_8 : decode mX10_four.2.2.1 8 = .ok (.iload_n 1, 1) := by decide +kernel
theorem dX10_four_9 : decode mX10_four.2.2.1 9 = .ok (.iload_n 2, 1) := by decide +kernel
theorem dX10_four_10 : decode mX10_four.2.2.1 10 = .ok (.ishr, 1) := by decide +kernel
theorem dX10_four_11 : decode mX10_four.2.2.1 11 = .ok (.invokevirtual 306, 3) := by decide +kernel
theorem dX10_four_14 : decode mX10_four.2.2.1 14 = .ok (.iinc 2 (-8), 3) := by decide +kernel
theorem dX10_four_17 : decode mX10_four.2.2.1 17 = .ok (.goto (-14), 3) := by decide +kernel
theorem dX10_four_20 : decode mX10_four.2.2.1 20 = .ok (.return_, 1) := by decide +kernel
theorem dX10_sends_0 : decode mX10_sends.2.2.1 0 = .ok (.iconst 5, 1) := by decide +kernel
theorem dX10_sends_1 : decode mX10_sends.2.2.1 1 = .ok (.iload_n 1, 1) := by decide +kernel
theorem dX10_sends_2 : decode mX10_sends.2.2.1 2 = .ok (.imul, 1) := by decide +kernel
theorem dX10_sends_3 : decode mX10_sends.2.2.1 3 = .ok (.iload_n 2, 1) := by decide +kernel
theorem dX10_sends_4 : decode mX10_sends.2.2.1 4 = .ok (.iadd, 1) := by decide +kernel
theorem dX10_sends_5 : decode mX10_sends.2.2.1 5 = .ok (.istore_n 3, 1) := by decide +kernel
theorem dX10_sends_6 : decode mX10_sends.2.2.1 6 = .ok (.iconst 0, 1) := by decide +kernel
theorem dX10_sends_7 : decode mX10_sends.2.2.1 7 = .ok (.istore 4, 2) := by decide +kernel
theorem dX10_sends_9 : decode mX10_sends.2.2.1 9 = .ok (.iload 4, 2) := by decide +kernel
theorem dX10_sends_11 : decode mX10_sends.2.2.1 11 = .ok (.aload_n 0, 1) := by decide +kernel
theorem dX10_sends_12 : decode mX10_sends.2.2.1 12 = .ok (.getfield 303, 3) := by decide +kernel
theorem dX10_sends_15 : decode mX10_sends.2.2.1 15 = .ok (.if_icmp .ge 36, 3) := by decide +kernel
theorem dX10_sends_18 : decode mX10_sends.2.2.1 18 = .ok (.aload_n 0, 1) := by decide +kernel
theorem dX10_sends_19 : decode mX10_sends.2.2.1 19 = .ok (.getfield 113, 3) := by decide +kernel
theorem dX10_sends_22 : decode mX10_sends.2.2.1 22 = .ok (.sipush 4200, 3) := by decide +kernel
theorem dX10_sends_25 : decode mX10_sends.2.2.1 25 = .ok (.iload_n 3, 1) := by decide +kernel
theorem dX10_sends_26 : decode mX10_sends.2.2.1 26 = .ok (.imul, 1) := by decide +kernel
theorem dX10_sends_27 : decode mX10_sends.2.2.1 27 = .ok (.aload_n 0, 1) := by decide +kernel
theorem dX10_sends_28 : decode mX10_sends.2.2.1 28 = .ok (.getfield 116, 3) := by decide +kernel
theorem dX10_sends_31 : decode mX10_sends.2.2.1 31 = .ok (.iload_n 3, 1) := by decide +kernel
theorem dX10_sends_32 : decode mX10_sends.2.2.1 32 = .ok (.iaload, 1) := by decide +kernel
theorem dX10_sends_33 : decode mX10_sends.2.2.1 33 = .ok (.iadd, 1) := by decide +kernel
theorem dX10_sends_34 : decode mX10_sends.2.2.1 34 = .ok (.iload 4, 2) := by decide +kernel
theorem dX10_sends_36 : decode mX10_sends.2.2.1 36 = .ok (.iadd, 1) := by decide +kernel
theorem dX10_sends_37 : decode mX10_sends.2.2.1 37 = .ok (.aload_n 0, 1) := by decide +kernel
theorem dX10_sends_38 : decode mX10_sends.2.2.1 38 = .ok (.getfield 119, 3) := by decide +kernel
theorem dX10_sends_41 : decode mX10_sends.2.2.1 41 = .ok (.iload 4, 2) := by decide +kernel
theorem dX10_sends_43 : decode mX10_sends.2.2.1 43 = .ok (.baload, 1) := by decide +kernel
theorem dX10_sends_44 : decode mX10_sends.2.2.1 44 = .ok (.bastore, 1) := by decide +kernel
theorem dX10_sends_45 : decode mX10_sends.2.2.1 45 = .ok (.iinc 4 1, 3) := by decide +kernel
theorem dX10_sends_48 : decode mX10_sends.2.2.1 48 = .ok (.goto (-39), 3) := by decide +kernel
theorem dX10_sends_51 : decode mX10_sends.2.2.1 51 = .ok (.aload_n 0, 1) := by decide +kernel
theorem dX10_sends_52 : decode mX10_sends.2.2.1 52 = .ok (.getfield 116, 3) := by decide +kernel
theorem dX10_sends_55 : decode mX10_sends.2.2.1 55 = .ok (.iload_n 3, 1) := by decide +kernel
theorem dX10_sends_56 : decode mX10_sends.2.2.1 56 = .ok (.dup2, 1) := by decide +kernel
theorem dX10_sends_57 : decode mX10_sends.2.2.1 57 = .ok (.iaload, 1) := by decide +kernel
theorem dX10_sends_58 : decode mX10_sends.2.2.1 58 = .ok (.aload_n 0, 1) := by decide +kernel
theorem dX10_sends_59 : decode mX10_sends.2.2.1 59 = .ok (.getfield 303, 3) := by decide +kernel
theorem dX10_sends_62 : decode mX10_sends.2.2.1 62 = .ok (.iadd, 1) := by decide +kernel
theorem dX10_sends_63 : decode mX10_sends.2.2.1 63 = .ok (.iastore, 1) := by decide +kernel
theorem dX10_sends_64 : decode mX10_sends.2.2.1 64 = .ok (.aload_n 0, 1) := by decide +kernel
theorem dX10_sends_65 : decode mX10_sends.2.2.1 65 = .ok (.iconst 0, 1) := by decide +kernel
theorem dX10_sends_66 : decode mX10_sends.2.2.1 66 = .ok (.putfield 303, 3) := by decide +kernel
theorem dX10_sends_69 : decode mX10_sends.2.2.1 69 = .ok (.aload_n 0, 1) := by decide +kernel
theorem dX10_sends_70 : decode mX10_sends.2.2.1 70 = .ok (.getfield 116, 3) := by decide +kernel
theorem dX10_sends_73 : decode mX10_sends.2.2.1 73 = .ok (.iload_n 3, 1) := by decide +kernel
theorem dX10_sends_74 : decode mX10_sends.2.2.1 74 = .ok (.iaload, 1) := by decide +kernel
theorem dX10_sends_75 : decode mX10_sends.2.2.1 75 = .ok (.sipush 4000, 3) := by decide +kernel
theorem dX10_sends_78 : decode mX10_sends.2.2.1 78 = .ok (.if_icmp .le 11, 3) := by decide +kernel
theorem dX10_sends_81 : decode mX10_sends.2.2.1 81 = .ok (.aload_n 0, 1) := by decide +kernel
theorem dX10_sends_82 : decode mX10_sends.2.2.1 82 = .ok (.iload_n 1, 1) := by decide +kernel
theorem dX10_sends_83 : decode mX10_sends.2.2.1 83 = .ok (.iload_n 2, 1) := by decide +kernel
theorem dX10_sends_84 : decode mX10_sends.2.2.1 84 = .ok (.bipush 8, 2) := by decide +kernel
theorem dX10_sends_86 : decode mX10_sends.2.2.1 86 = .ok (.invokevirtual 299, 3) := by decide +kernel
theorem dX10_sends_89 : decode mX10_sends.2.2.1 89 = .ok (.return_, 1) := by decide +kernel
theorem dX10_greets_0 : decode mX10_greets.2.2.1 0 = .ok (.iload_n 1, 1) := by decide +kernel
theorem dX10_greets_1 : decode mX10_greets.2.2.1 1 = .ok (.iconst 4, 1) := by decide +kernel
theorem dX10_greets_2 : decode mX10_greets.2.2.1 2 = .ok (.if_icmp .ne 4, 3) := by decide +kernel
theorem dX10_greets_5 : decode mX10_greets.2.2.1 5 = .ok (.return_, 1) := by decide +kernel
theorem dX10_greets_6 : decode mX10_greets.2.2.1 6 = .ok (.aload_n 0, 1) := by decide +kernel
theorem dX10_greets_7 : decode mX10_greets.2.2.1 7 = .ok (.iconst 0, 1) := by decide +kernel
theorem dX10_greets_8 : decode mX10_greets.2.2.1 8 = .ok (.putfield 303, 3) := by decide +kernel
theorem dX10_greets_11 : decode mX10_greets.2.2.1 11 = .ok (.iconst 0, 1) := by decide +kernel
theorem dX10_greets_12 : decode mX10_greets.2.2.1 12 = .ok (.istore_n 3, 1) := by decide +kernel
theorem dX10_greets_13 : decode mX10_greets.2.2.1 13 = .ok (.iload_n 3, 1) := by decide +kernel
theorem dX10_greets_14 : decode mX10_greets.2.2.1 14 = .ok (.bipush 20, 2) := by decide +kernel
theorem dX10_greets_16 : decode mX10_greets.2.2.1 16 = .ok (.if_icmp .ge 19, 3) := by decide +kernel
theorem dX10_greets_19 : decode mX10_greets.2.2.1 19 = .ok (.aload_n 0, 1) := by decide +kernel
theorem dX10_greets_20 : decode mX10_greets.2.2.1 20 = .ok (.aload_n 0, 1) := by decide +kernel
theorem dX10_greets_21 : decode mX10_greets.2.2.1 21 = .ok (.getfield 122, 3) := by decide +kernel
theorem dX10_greets_24 : decode mX10_greets.2.2.1 24 = .ok (.iload_n 3, 1) := by decide +kernel
theorem dX10_greets_25 : decode mX10_greets.2.2.1 25 = .ok (.baload, 1) := by decide +kernel
theorem dX10_greets_26 : decode mX10_greets.2.2.1 26 = .ok (.invokevirtual 306, 3) := by decide +kernel
theorem dX10_greets_29 : decode mX10_greets.2.2.1 29 = .ok (.iinc 3 1, 3) := by decide +kernel
theorem dX10_greets_32 : decode mX10_greets.2.2.1 32 = .ok (.goto (-19), 3) := by decide +kernel
theorem dX10_greets_35 : decode mX10_greets.2.2.1 35 = .ok (.iconst 0, 1) := by decide +kernel
theorem dX10_greets_36 : decode mX10_greets.2.2.1 36 = .ok (.istore_n 3, 1) := by decide +kernel
theorem dX10_greets_37 : decode mX10_greets.2.2.1 37 = .ok (.iload_n 3, 1) := by decide +kernel
theorem dX10_greets_38 : decode mX10_greets.2.2.1 38 = .ok (.bipush 8, 2) := by decide +kernel
theorem dX10_greets_40 : decode mX10_greets.2.2.1 40 = .ok (.if_icmp .ge 14, 3) := by decide +kernel
theorem dX10_greets_43 : decode mX10_greets.2.2.1 43 = .ok (.aload_n 0, 1) := by decide +kernel
theorem dX10_greets_44 : decode mX10_greets.2.2.1 44 = .ok (.iconst 0, 1) := by decide +kernel
theorem dX10_greets_45 : decode mX10_greets.2.2.1 45 = .ok (.invokevirtual 306, 3) := by decide +kernel
theorem dX10_greets_48 : decode mX10_greets.2.2.1 48 = .ok (.iinc 3 1, 3) := by decide +kernel
theorem dX10_greets_51 : decode mX10_greets.2.2.1 51 = .ok (.goto (-14), 3) := by decide +kernel
theorem dX10_greets_54 : decode mX10_greets.2.2.1 54 = .ok (.iconst 0, 1) := by decide +kernel
theorem dX10_greets_55 : decode mX10_greets.2.2.1 55 = .ok (.istore_n 3, 1) := by decide +kernel
theorem dX10_greets_56 : decode mX10_greets.2.2.1 56 = .ok (.iload_n 3, 1) := by decide +kernel
theorem dX10_greets_57 : decode mX10_greets.2.2.1 57 = .ok (.bipush 20, 2) := by decide +kernel
theorem dX10_greets_59 : decode mX10_greets.2.2.1 59 = .ok (.if_icmp .ge 19, 3) := by decide +kernel
theorem dX10_greets_62 : decode mX10_greets.2.2.1 62 = .ok (.aload_n 0, 1) := by decide +kernel
theorem dX10_greets_63 : decode mX10_greets.2.2.1 63 = .ok (.aload_n 0, 1) := by decide +kernel
theorem dX10_greets_64 : decode mX10_greets.2.2.1 64 = .ok (.getfield 50, 3) := by decide +kernel
theorem dX10_greets_67 : decode mX10_greets.2.2.1 67 = .ok (.iload_n 3, 1) := by decide +kernel
theorem dX10_greets_68 : decode mX10_greets.2.2.1 68 = .ok (.baload, 1) := by decide +kernel
theorem dX10_greets_69 : decode mX10_greets.2.2.1 69 = .ok (.invokevirtual 306, 3) := by decide +kernel
theorem dX10_greets_72 : decode mX10_greets.2.2.1 72 = .ok (.iinc 3 1, 3) := by decide +kernel
theorem dX10_greets_75 : decode mX10_greets.2.2.1 75 = .ok (.goto (-19), 3) := by decide +kernel
theorem dX10_greets_78 : decode mX10_greets.2.2.1 78 = .ok (.iconst 0, 1) := by decide +kernel
theorem dX10_greets_79 : decode mX10_greets.2.2.1 79 = .ok (.istore_n 3, 1) := by decide +kernel
theorem dX10_greets_80 : decode mX10_greets.2.2.1 80 = .ok (.iload_n 3, 1) := by decide +kernel
theorem dX10_greets_81 : decode mX10_greets.2.2.1 81 = .ok (.bipush 8, 2) := by decide +kernel
theorem dX10_greets_83 : decode mX10_greets.2.2.1 83 = .ok (.if_icmp .ge 19, 3) := by decide +kernel
theorem dX10_greets_86 : decode mX10_greets.2.2.1 86 = .ok (.aload_n 0, 1) := by decide +kernel
theorem dX10_greets_87 : decode mX10_greets.2.2.1 87 = .ok (.aload_n 0, 1) := by decide +kernel
theorem dX10_greets_88 : decode mX10_greets.2.2.1 88 = .ok (.getfield 125, 3) := by decide +kernel
theorem dX10_greets_91 : decode mX10_greets.2.2.1 91 = .ok (.iload_n 3, 1) := by decide +kernel
theorem dX10_greets_92 : decode mX10_greets.2.2.1 92 = .ok (.baload, 1) := by decide +kernel
theorem dX10_greets_93 : decode mX10_greets.2.2.1 93 = .ok (.invokevirtual 306, 3) := by decide +kernel
theorem dX10_greets_96 : decode mX10_greets.2.2.1 96 = .ok (.iinc 3 1, 3) := by decide +kernel
theorem dX10_greets_99 : decode mX10_greets.2.2.1 99 = .ok (.goto (-19), 3) := by decide +kernel
theorem dX10_greets_102 : decode mX10_greets.2.2.1 102 = .ok (.iconst 0, 1) := by decide +kernel
theorem dX10_greets_103 : decode mX10_greets.2.2.1 103 = .ok (.istore_n 3, 1) := by decide +kernel
theorem dX10_greets_104 : decode mX10_greets.2.2.1 104 = .ok (.iload_n 3, 1) := by decide +kernel
theorem dX10_greets_105 : decode mX10_greets.2.2.1 105 = .ok (.bipush 11, 2) := by decide +kernel
theorem dX10_greets_107 : decode mX10_greets.2.2.1 107 = .ok (.if_icmp .ge 15, 3) := by decide +kernel
theorem dX10_greets_110 : decode mX10_greets.2.2.1 110 = .ok (.aload_n 0, 1) := by decide +kernel
theorem dX10_greets_111 : decode mX10_greets.2.2.1 111 = .ok (.bipush 48, 2) := by decide +kernel
theorem dX10_greets_113 : decode mX10_greets.2.2.1 113 = .ok (.invokevirtual 306, 3) := by decide +kernel
theorem dX10_greets_116 : decode mX10_greets.2.2.1 116 = .ok (.iinc 3 1, 3) := by decide +kernel
theorem dX10_greets_119 : decode mX10_greets.2.2.1 119 = .ok (.goto (-15), 3) := by decide +kernel
theorem dX10_greets_122 : decode mX10_greets.2.2.1 122 = .ok (.aload_n 0, 1) := by decide +kernel
theorem dX10_greets_123 : decode mX10_greets.2.2.1 123 = .ok (.bipush 48, 2) := by decide +kernel
theorem dX10_greets_125 : decode mX10_greets.2.2.1 125 = .ok (.iload_n 1, 1) := by decide +kernel
theorem dX10_greets_126 : decode mX10_greets.2.2.1 126 = .ok (.iadd, 1) := by decide +kernel
theorem dX10_greets_127 : decode mX10_greets.2.2.1 127 = .ok (.invokevirtual 306, 3) := by decide +kernel
theorem dX10_greets_130 : decode mX10_greets.2.2.1 130 = .ok (.aload_n 0, 1) := by decide +kernel
theorem dX10_greets_131 : decode mX10_greets.2.2.1 131 = .ok (.iload_n 1, 1) := by decide +kernel
theorem dX10_greets_132 : decode mX10_greets.2.2.1 132 = .ok (.iload_n 2, 1) := by decide +kernel
theorem dX10_greets_133 : decode mX10_greets.2.2.1 133 = .ok (.invokevirtual 309, 3) := by decide +kernel
theorem dX10_greets_136 : decode mX10_greets.2.2.1 136 = .ok (.return_, 1) := by decide +kernel
theorem dX10_tells_0 : decode mX10_tells.2.2.1 0 = .ok (.aload_n 0, 1) := by decide +kernel
theorem dX10_tells_1 : decode mX10_tells.2.2.1 1 = .ok (.iconst 1, 1) := by decide +kernel
theorem dX10_tells_2 : decode mX10_tells.2.2.1 2 = .ok (.invokevirtual 312, 3) := by decide +kernel
theorem dX10_tells_5 : decode mX10_tells.2.2.1 5 = .ok (.aload_n 0, 1) := by decide +kernel
theorem dX10_tells_6 : decode mX10_tells.2.2.1 6 = .ok (.iload_n 3, 1) := by decide +kernel
theorem dX10_tells_7 : decode mX10_tells.2.2.1 7 = .ok (.invokevirtual 306, 3) := by decide +kernel
theorem dX10_tells_10 : decode mX10_tells.2.2.1 10 = .ok (.aload_n 0, 1) := by decide +kernel
theorem dX10_tells_11 : decode mX10_tells.2.2.1 11 = .ok (.iload_n 1, 1) := by decide +kernel
theorem dX10_tells_12 : decode mX10_tells.2.2.1 12 = .ok (.iload_n 2, 1) := by decide +kernel
theorem dX10_tells_13 : decode mX10_tells.2.2.1 13 = .ok (.invokevirtual 309, 3) := by decide +kernel
theorem dX10_tells_16 : decode mX10_tells.2.2.1 16 = .ok (.return_, 1) := by decide +kernel
theorem dX10_wireByte_0 : decode mX10_wireByte.2.2.1 0 = .ok (.aload_n 0, 1) := by decide +kernel
theorem dX10_wireByte_1 : decode mX10_wireByte.2.2.1 1 = .ok (.getfield 113, 3) := by decide +kernel
theorem dX10_wireByte_4 : decode mX10_wireByte.2.2.1 4 = .ok (.sipush 4200, 3) := by decide +kernel
theorem dX10_wireByte_7 : decode mX10_wireByte.2.2.1 7 = .ok (.iload_n 1, 1) := by decide +kernel
theorem dX10_wireByte_8 : decode mX10_wireByte.2.2.1 8 = .ok (.imul, 1) := by decide +kernel
theorem dX10_wireByte_9 : decode mX10_wireByte.2.2.1 9 = .ok (.iload_n 2, 1) := by decide +kernel
theorem dX10_wireByte_10 : decode mX10_wireByte.2.2.1 10 = .ok (.iadd, 1) := by decide +kernel
theorem dX10_wireByte_11 : decode mX10_wireByte.2.2.1 11 = .ok (.baload, 1) := by decide +kernel
theorem dX10_wireByte_12 : decode mX10_wireByte.2.2.1 12 = .ok (.sipush 255, 3) := by decide +kernel
theorem dX10_wireByte_15 : decode mX10_wireByte.2.2.1 15 = .ok (.iand, 1) := by decide +kernel
theorem dX10_wireByte_16 : decode mX10_wireByte.2.2.1 16 = .ok (.ireturn, 1) := by decide +kernel
theorem dX10_wireFour_0 : decode mX10_wireFour.2.2.1 0 = .ok (.aload_n 0, 1) := by decide +kernel
theorem dX10_wireFour_1 : decode mX10_wireFour.2.2.1 1 = .ok (.iload_n 1, 1) := by decide +kernel
theorem dX10_wireFour_2 : decode mX10_wireFour.2.2.1 2 = .ok (.iload_n 2, 1) := by decide +kernel
theorem dX10_wireFour_3 : decode mX10_wireFour.2.2.1 3 = .ok (.invokevirtual 315, 3) := by decide +kernel
theorem dX10_wireFour_6 : decode mX10_wireFour.2.2.1 6 = .ok (.i2l, 1) := by decide +kernel
theorem dX10_wireFour_7 : decode mX10_wireFour.2.2.1 7 = .ok (.bipush 24, 2) := by decide +kernel
theorem dX10_wireFour_9 : decode mX10_wireFour.2.2.1 9 = .ok (.lshl, 1) := by decide +kernel
theorem dX10_wireFour_10 : decode mX10_wireFour.2.2.1 10 = .ok (.aload_n 0, 1) := by decide +kernel
theorem dX10_wireFour_11 : decode mX10_wireFour.2.2.1 11 = .ok (.iload_n 1, 1) := by decide +kernel
theorem dX10_wireFour_12 : decode mX10_wireFour.2.2.1 12 = .ok (.iload_n 2, 1) := by decide +kernel
theorem dX10_wireFour_13 : decode mX10_wireFour.2.2.1 13 = .ok (.iconst 1, 1) := by decide +kernel
theorem dX10_wireFour_14 : decode mX10_wireFour.2.2.1 14 = .ok (.iadd, 1) := by decide +kernel
theorem dX10_wireFour_15 : decode mX10_wireFour.2.2.1 15 = .ok (.invokevirtual 315, 3) := by decide +kernel
theorem dX10_wireFour_18 : decode mX10_wireFour.2.2.1 18 = .ok (.bipush 16, 2) := by decide +kernel
theorem dX10_wireFour_20 : decode mX10_wireFour.2.2.1 20 = .ok (.ishl, 1) := by decide +kernel
theorem dX10_wireFour_21 : decode mX10_wireFour.2.2.1 21 = .ok (.i2l, 1) := by decide +kernel
theorem dX10_wireFour_22 : decode mX10_wireFour.2.2.1 22 = .ok (.lor, 1) := by decide +kernel
theorem dX10_wireFour_23 : decode mX10_wireFour.2.2.1 23 = .ok (.aload_n 0, 1) := by decide +kernel
theorem dX10_wireFour_24 : decode mX10_wireFour.2.2.1 24 = .ok (.iload_n 1, 1) := by decide +kernel
theorem dX10_wireFour_25 : decode mX10_wireFour.2.2.1 25 = .ok (.iload_n 2, 1) := by decide +kernel
theorem dX10_wireFour_26 : decode mX10_wireFour.2.2.1 26 = .ok (.iconst 2, 1) := by decide +kernel
theorem dX10_wireFour_27 : decode mX10_wireFour.2.2.1 27 = .ok (.iadd, 1) := by decide +kernel
theorem dX10_wireFour_28 : decode mX10_wireFour.2.2.1 28 = .ok (.invokevirtual 315, 3) := by decide +kernel
theorem dX10_wireFour_31 : decode mX10_wireFour.2.2.1 31 = .ok (.bipush 8, 2) := by decide +kernel
theorem dX10_wireFour_33 : decode mX10_wireFour.2.2.1 33 = .ok (.ishl, 1) := by decide +kernel
theorem dX10_wireFour_34 : decode mX10_wireFour.2.2.1 34 = .ok (.i2l, 1) := by decide +kernel
theorem dX10_wireFour_35 : decode mX10_wireFour.2.2.1 35 = .ok (.lor, 1) := by decide +kernel
theorem dX10_wireFour_36 : decode mX10_wireFour.2.2.1 36 = .ok (.aload_n 0, 1) := by decide +kernel
theorem dX10_wireFour_37 : decode mX10_wireFour.2.2.1 37 = .ok (.iload_n 1, 1) := by decide +kernel
theorem dX10_wireFour_38 : decode mX10_wireFour.2.2.1 38 = .ok (.iload_n 2, 1) := by decide +kernel
theorem dX10_wireFour_39 : decode mX10_wireFour.2.2.1 39 = .ok (.iconst 3, 1) := by decide +kernel
theorem dX10_wireFour_40 : decode mX10_wireFour.2.2.1 40 = .ok (.iadd, 1) := by decide +kernel
theorem dX10_wireFour_41 : decode mX10_wireFour.2.2.1 41 = .ok (.invokevirtual 315, 3) := by decide +kernel
theorem dX10_wireFour_44 : decode mX10_wireFour.2.2.1 44 = .ok (.i2l, 1) := by decide +kernel
theorem dX10_wireFour_45 : decode mX10_wireFour.2.2.1 45 = .ok (.lor, 1) := by decide +kernel
theorem dX10_wireFour_46 : decode mX10_wireFour.2.2.1 46 = .ok (.lreturn, 1) := by decide +kernel
theorem dX10_drops_0 : decode mX10_drops.2.2.1 0 = .ok (.iload_n 2, 1) := by decide +kernel
theorem dX10_drops_1 : decode mX10_drops.2.2.1 1 = .ok (.istore_n 3, 1) := by decide +kernel
theorem dX10_drops_2 : decode mX10_drops.2.2.1 2 = .ok (.iload_n 3, 1) := by decide +kernel
theorem dX10_drops_3 : decode mX10_drops.2.2.1 3 = .ok (.aload_n 0, 1) := by decide +kernel
theorem dX10_drops_4 : decode mX10_drops.2.2.1 4 = .ok (.getfield 116, 3) := by decide +kernel
theorem dX10_drops_7 : decode mX10_drops.2.2.1 7 = .ok (.iload_n 1, 1) := by decide +kernel
theorem dX10_drops_8 : decode mX10_drops.2.2.1 8 = .ok (.iaload, 1) := by decide +kernel
theorem dX10_drops_9 : decode mX10_drops.2.2.1 9 = .ok (.if_icmp .ge 35, 3) := by decide +kernel
theorem dX10_drops_12 : decode mX10_drops.2.2.1 12 = .ok (.aload_n 0, 1) := by decide +kernel
theorem dX10_drops_13 : decode mX10_drops.2.2.1 13 = .ok (.getfield 113, 3) := by decide +kernel
theorem dX10_drops_16 : decode mX10_drops.2.2.1 16 = .ok (.sipush 4200, 3) := by decide +kernel
theorem dX10_drops_19 : decode mX10_drops.2.2.1 19 = .ok (.iload_n 1, 1) := by decide +kernel
theorem dX10_drops_20 : decode mX10_drops.2.2.1 20 = .ok (.imul, 1) := by decide +kernel
theorem dX10_drops_21 : decode mX10_drops.2.2.1 21 = .ok (.iload_n 3, 1) := by decide +kernel
theorem dX10_drops_22 : decode mX10_drops.2.2.1 22 = .ok (.iadd, 1) := by decide +kernel
theorem dX10_drops_23 : decode mX10_drops.2.2.1 23 = .ok (.iload_n 2, 1) := by decide +kernel
theorem dX10_drops_24 : decode mX10_drops.2.2.1 24 = .ok (.isub, 1) := by decide +kernel
theorem dX10_drops_25 : decode mX10_drops.2.2.1 25 = .ok (.aload_n 0, 1) := by decide +kernel
theorem dX10_drops_26 : decode mX10_drops.2.2.1 26 = .ok (.getfield 113, 3) := by decide +kernel
theorem dX10_drops_29 : decode mX10_drops.2.2.1 29 = .ok (.sipush 4200, 3) := by decide +kernel
theorem dX10_drops_32 : decode mX10_drops.2.2.1 32 = .ok (.iload_n 1, 1) := by decide +kernel
theorem dX10_drops_33 : decode mX10_drops.2.2.1 33 = .ok (.imul, 1) := by decide +kernel
theorem dX10_drops_34 : decode mX10_drops.2.2.1 34 = .ok (.iload_n 3, 1) := by decide +kernel
theorem dX10_drops_35 : decode mX10_drops.2.2.1 35 = .ok (.iadd, 1) := by decide +kernel
theorem dX10_drops_36 : decode mX10_drops.2.2.1 36 = .ok (.baload, 1) := by decide +kernel
theorem dX10_drops_37 : decode mX10_drops.2.2.1 37 = .ok (.bastore, 1) := by decide +kernel
theorem dX10_drops_38 : decode mX10_drops.2.2.1 38 = .ok (.iinc 3 1, 3) := by decide +kernel
theorem dX10_drops_41 : decode mX10_drops.2.2.1 41 = .ok (.goto (-39), 3) := by decide +kernel
theorem dX10_drops_44 : decode mX10_drops.2.2.1 44 = .ok (.aload_n 0, 1) := by decide +kernel
theorem dX10_drops_45 : decode mX10_drops.2.2.1 45 = .ok (.getfield 116, 3) := by decide +kernel
theorem dX10_drops_48 : decode mX10_drops.2.2.1 48 = .ok (.iload_n 1, 1) := by decide +kernel
theorem dX10_drops_49 : decode mX10_drops.2.2.1 49 = .ok (.dup2, 1) := by decide +kernel
theorem dX10_drops_50 : decode mX10_drops.2.2.1 50 = .ok (.iaload, 1) := by decide +kernel
theorem dX10_drops_51 : decode mX10_drops.2.2.1 51 = .ok (.iload_n 2, 1) := by decide +kernel
theorem dX10_drops_52 : decode mX10_drops.2.2.1 52 = .ok (.isub, 1) := by decide +kernel
theorem dX10_drops_53 : decode mX10_drops.2.2.1 53 = .ok (.iastore, 1) := by decide +kernel
theorem dX10_drops_54 : decode mX10_drops.2.2.1 54 = .ok (.return_, 1) := by decide +kernel
theorem dX10_isWhole_0 : decode mX10_isWhole.2.2.1 0 = .ok (.iload_n 1, 1) := by decide +kernel
theorem dX10_isWhole_1 : decode mX10_isWhole.2.2.1 1 = .ok (.iconst 4, 1) := by decide +kernel
theorem dX10_isWhole_2 : decode mX10_isWhole.2.2.1 2 = .ok (.if_icmp .eq 12, 3) := by decide +kernel
theorem dX10_isWhole_5 : decode mX10_isWhole.2.2.1 5 = .ok (.aload_n 0, 1) := by decide +kernel
theorem dX10_isWhole_6 : decode mX10_isWhole.2.2.1 6 = .ok (.iload_n 1, 1) := by decide +kernel
theorem dX10_isWhole_7 : decode mX10_isWhole.2.2.1 7 = .ok (.iload_n 2, 1) := by decide +kernel
theorem dX10_isWhole_8 : decode mX10_isWhole.2.2.1 8 = .ok (.invokevirtual 293, 3) := by decide +kernel
theorem dX10_isWhole_11 : decode mX10_isWhole.2.2.1 11 = .ok (.ifCond .ne 5, 3) := by decide +kernel
theorem dX10_isWhole_14 : decode mX10_isWhole.2.2.1 14 = .ok (.iconst 0, 1) := by decide +kernel
theorem dX10_isWhole_15 : decode mX10_isWhole.2.2.1 15 = .ok (.ireturn, 1) := by decide +kernel
theorem dX10_isWhole_16 : decode mX10_isWhole.2.2.1 16 = .ok (.iconst 5, 1) := by decide +kernel
theorem dX10_isWhole_17 : decode mX10_isWhole.2.2.1 17 = .ok (.iload_n 2, 1) := by decide +kernel
theorem dX10_isWhole_18 : decode mX10_isWhole.2.2.1 18 = .ok (.imul, 1) := by decide +kernel
theorem dX10_isWhole_19 : decode mX10_isWhole.2.2.1 19 = .ok (.iload_n 1, 1) := by decide +kernel
theorem dX10_isWhole_20 : decode mX10_isWhole.2.2.1 20 = .ok (.iadd, 1) := by decide +kernel
theorem dX10_isWhole_21 : decode mX10_isWhole.2.2.1 21 = .ok (.istore_n 3, 1) := by decide +kernel
theorem dX10_isWhole_22 : decode mX10_isWhole.2.2.1 22 = .ok (.aload_n 0, 1) := by decide +kernel
theorem dX10_isWhole_23 : decode mX10_isWhole.2.2.1 23 = .ok (.getfield 85, 3) := by decide +kernel
theorem dX10_isWhole_26 : decode mX10_isWhole.2.2.1 26 = .ok (.iconst 5, 1) := by decide +kernel
theorem dX10_isWhole_27 : decode mX10_isWhole.2.2.1 27 = .ok (.iload_n 1, 1) := by decide +kernel
theorem dX10_isWhole_28 : decode mX10_isWhole.2.2.1 28 = .ok (.imul, 1) := by decide +kernel
theorem dX10_isWhole_29 : decode mX10_isWhole.2.2.1 29 = .ok (.iload_n 2, 1) := by decide +kernel
theorem dX10_isWhole_30 : decode mX10_isWhole.2.2.1 30 = .ok (.iadd, 1) := by decide +kernel
theorem dX10_isWhole_31 : decode mX10_isWhole.2.2.1 31 = .ok (.baload, 1) := by decide +kernel
theorem dX10_isWhole_32 : decode mX10_isWhole.2.2.1 32 = .ok (.ifCond .ne 20, 3) := by decide +kernel
theorem dX10_isWhole_35 : decode mX10_isWhole.2.2.1 35 = .ok (.aload_n 0, 1) := by decide +kernel
theorem dX10_isWhole_36 : decode mX10_isWhole.2.2.1 36 = .ok (.getfield 116, 3) := by decide +kernel
theorem dX10_isWhole_39 : decode mX10_isWhole.2.2.1 39 = .ok (.iload_n 3, 1) := by decide +kernel
theorem dX10_isWhole_40 : decode mX10_isWhole.2.2.1 40 = .ok (.iaload, 1) := by decide +kernel
theorem dX10_isWhole_41 : decode mX10_isWhole.2.2.1 41 = .ok (.bipush 68, 2) := by decide +kernel
theorem dX10_isWhole_43 : decode mX10_isWhole.2.2.1 43 = .ok (.if_icmp .lt 7, 3) := by decide +kernel
theorem dX10_isWhole_46 : decode mX10_isWhole.2.2.1 46 = .ok (.iconst 1, 1) := by decide +kernel
theorem dX10_isWhole_47 : decode mX10_isWhole.2.2.1 47 = .ok (.goto 4, 3) := by decide +kernel
theorem dX10_isWhole_50 : decode mX10_isWhole.2.2.1 50 = .ok (.iconst 0, 1) := by decide +kernel
theorem dX10_isWhole_51 : decode mX10_isWhole.2.2.1 51 = .ok (.ireturn, 1) := by decide +kernel
theorem dX10_isWhole_52 : decode mX10_isWhole.2.2.1 52 = .ok (.aload_n 0, 1) := by decide +kernel
theorem dX10_isWhole_53 : decode mX10_isWhole.2.2.1 53 = .ok (.getfield 116, 3) := by decide +kernel
theorem dX10_isWhole_56 : decode mX10_isWhole.2.2.1 56 = .ok (.iload_n 3, 1) := by decide +kernel
theorem dX10_isWhole_57 : decode mX10_isWhole.2.2.1 57 = .ok (.iaload, 1) := by decide +kernel
theorem dX10_isWhole_58 : decode mX10_isWhole.2.2.1 58 = .ok (.iconst 4, 1) := by decide +kernel
theorem dX10_isWhole_59 : decode mX10_isWhole.2.2.1 59 = .ok (.if_icmp .ge 5, 3) := by decide +kernel
theorem dX10_isWhole_62 : decode mX10_isWhole.2.2.1 62 = .ok (.iconst 0, 1) := by decide +kernel
theorem dX10_isWhole_63 : decode mX10_isWhole.2.2.1 63 = .ok (.ireturn, 1) := by decide +kernel
theorem dX10_isWhole_64 : decode mX10_isWhole.2.2.1 64 = .ok (.aload_n 0, 1) := by decide +kernel
theorem dX10_isWhole_65 : decode mX10_isWhole.2.2.1 65 = .ok (.iload_n 3, 1) := by decide +kernel
theorem dX10_isWhole_66 : decode mX10_isWhole.2.2.1 66 = .ok (.iconst 0, 1) := by decide +kernel
theorem dX10_isWhole_67 : decode mX10_isWhole.2.2.1 67 = .ok (.invokevirtual 318, 3) := by decide +kernel
theorem dX10_isWhole_70 : decode mX10_isWhole.2.2.1 70 = .ok (.lstore 4, 2) := by decide +kernel
theorem dX10_isWhole_72 : decode mX10_isWhole.2.2.1 72 = .ok (.lload 4, 2) := by decide +kernel
theorem dX10_isWhole_74 : decode mX10_isWhole.2.2.1 74 = .ok (.ldc2_w 322, 3) := by decide +kernel
theorem dX10_isWhole_77 : decode mX10_isWhole.2.2.1 77 = .ok (.lcmp, 1) := by decide +kernel
theorem dX10_isWhole_78 : decode mX10_isWhole.2.2.1 78 = .ok (.ifCond .gt 20, 3) := by decide +kernel
theorem dX10_isWhole_81 : decode mX10_isWhole.2.2.1 81 = .ok (.aload_n 0, 1) := by decide +kernel
theorem dX10_isWhole_82 : decode mX10_isWhole.2.2.1 82 = .ok (.getfield 116, 3) := by decide +kernel
theorem dX10_isWhole_85 : decode mX10_isWhole.2.2.1 85 = .ok (.iload_n 3, 1) := by decide +kernel
theorem dX10_isWhole_86 : decode mX10_isWhole.2.2.1 86 = .ok (.iaload, 1) := by decide +kernel
theorem dX10_isWhole_87 : decode mX10_isWhole.2.2.1 87 = .ok (.i2l, 1) := by decide +kernel
theorem dX10_isWhole_88 : decode mX10_isWhole.2.2.1 88 = .ok (.ldc2_w 324, 3) := by decide +kernel
theorem dX10_isWhole_91 : decode mX10_isWhole.2.2.1 91 = .ok (.lload 4, 2) := by decide +kernel
theorem dX10_isWhole_93 : decode mX10_isWhole.2.2.1 93 = .ok (.ladd, 1) := by decide +kernel
theorem dX10_isWhole_94 : decode mX10_isWhole.2.2.1 94 = .ok (.lcmp, 1) := by decide +kernel
theorem dX10_isWhole_95 : decode mX10_isWhole.2.2.1 95 = .ok (.ifCond .lt 7, 3) := by decide +kernel
theorem dX10_isWhole_98 : decode mX10_isWhole.2.2.1 98 = .ok (.iconst 1, 1) := by decide +kernel
theorem dX10_isWhole_99 : decode mX10_isWhole.2.2.1 99 = .ok (.goto 4, 3) := by decide +kernel
theorem dX10_isWhole_102 : decode mX10_isWhole.2.2.1 102 = .ok (.iconst 0, 1) := by decide +kernel
theorem dX10_isWhole_103 : decode mX10_isWhole.2.2.1 103 = .ok (.ireturn, 1) := by decide +kernel
theorem dX10_say_0 : decode mX10_say.2.2.1 0 = .ok (.aload_n 0, 1) := by decide +kernel
theorem dX10_say_1 : decode mX10_say.2.2.1 1 = .ok (.invokevirtual 159, 3) := by decide +kernel
theorem dX10_say_4 : decode mX10_say.2.2.1 4 = .ok (.istore_n 2, 1) := by decide +kernel
theorem dX10_say_5 : decode mX10_say.2.2.1 5 = .ok (.aload_n 0, 1) := by decide +kernel
theorem dX10_say_6 : decode mX10_say.2.2.1 6 = .ok (.iload_n 1, 1) := by decide +kernel
theorem dX10_say_7 : decode mX10_say.2.2.1 7 = .ok (.iconst 4, 1) := by decide +kernel
theorem dX10_say_8 : decode mX10_say.2.2.1 8 = .ok (.invokevirtual 293, 3) := by decide +kernel
theorem dX10_say_11 : decode mX10_say.2.2.1 11 = .ok (.ifCond .eq 20, 3) := by decide +kernel
theorem dX10_say_14 : decode mX10_say.2.2.1 14 = .ok (.aload_n 0, 1) := by decide +kernel
theorem dX10_say_15 : decode mX10_say.2.2.1 15 = .ok (.getfield 116, 3) := by decide +kernel
theorem dX10_say_18 : decode mX10_say.2.2.1 18 = .ok (.bipush 20, 2) := by decide +kernel
theorem dX10_say_20 : decode mX10_say.2.2.1 20 = .ok (.iload_n 1, 1) := by decide +kernel
theorem dX10_say_21 : decode mX10_say.2.2.1 21 = .ok (.iadd, 1) := by decide +kernel
theorem dX10_say_22 : decode mX10_say.2.2.1 22 = .ok (.iaload, 1) := by decide +kernel
theorem dX10_say_23 : decode mX10_say.2.2.1 23 = .ok (.iload_n 2, 1) := by decide +kernel
theorem dX10_say_24 : decode mX10_say.2.2.1 24 = .ok (.iadd, 1) := by decide +kernel
theorem dX10_say_25 : decode mX10_say.2.2.1 25 = .ok (.sipush 4000, 3) := by decide +kernel
theorem dX10_say_28 : decode mX10_say.2.2.1 28 = .ok (.if_icmp .le 5, 3) := by decide +kernel
theorem dX10_say_31 : decode mX10_say.2.2.1 31 = .ok (.iconst (-1), 1) := by decide +kernel
theorem dX10_say_32 : decode mX10_say.2.2.1 32 = .ok (.ireturn, 1) := by decide +kernel
theorem dX10_say_33 : decode mX10_say.2.2.1 33 = .ok (.bipush 20, 2) := by decide +kernel
theorem dX10_say_35 : decode mX10_say.2.2.1 35 = .ok (.iload_n 1, 1) := by decide +kernel
theorem dX10_say_36 : decode mX10_say.2.2.1 36 = .ok (.iadd, 1) := by decide +kernel
theorem dX10_say_37 : decode mX10_say.2.2.1 37 = .ok (.istore_n 3, 1) := by decide +kernel
theorem dX10_say_38 : decode mX10_say.2.2.1 38 = .ok (.iconst 0, 1) := by decide +kernel
theorem dX10_say_39 : decode mX10_say.2.2.1 39 = .ok (.istore 4, 2) := by decide +kernel
theorem dX10_say_41 : decode mX10_say.2.2.1 41 = .ok (.iload 4, 2) := by decide +kernel
theorem dX10_say_43 : decode mX10_say.2.2.1 43 = .ok (.iload_n 2, 1) := by decide +kernel
theorem dX10_say_44 : decode mX10_say.2.2.1 44 = .ok (.if_icmp .ge 36, 3) := by decide +kernel
theorem dX10_say_47 : decode mX10_say.2.2.1 47 = .ok (.aload_n 0, 1) := by decide +kernel
theorem dX10_say_48 : decode mX10_say.2.2.1 48 = .ok (.getfield 113, 3) := by decide +kernel
theorem dX10_say_51 : decode mX10_say.2.2.1 51 = .ok (.sipush 4200, 3) := by decide +kernel
theorem dX10_say_54 : decode mX10_say.2.2.1 54 = .ok (.iload_n 3, 1) := by decide +kernel
theorem dX10_say_55 : decode mX10_say.2.2.1 55 = .ok (.imul, 1) := by decide +kernel
theorem dX10_say_56 : decode mX10_say.2.2.1 56 = .ok (.aload_n 0, 1) := by decide +kernel
theorem dX10_say_57 : decode mX10_say.2.2.1 57 = .ok (.getfield 116, 3) := by decide +kernel
theorem dX10_say_60 : decode mX10_say.2.2.1 60 = .ok (.iload_n 3, 1) := by decide +kernel
theorem dX10_say_61 : decode mX10_say.2.2.1 61 = .ok (.iaload, 1) := by decide +kernel
theorem dX10_say_62 : decode mX10_say.2.2.1 62 = .ok (.iadd, 1) := by decide +kernel
theorem dX10_say_63 : decode mX10_say.2.2.1 63 = .ok (.iload 4, 2) := by decide +kernel
theorem dX10_say_65 : decode mX10_say.2.2.1 65 = .ok (.iadd, 1) := by decide +kernel
theorem dX10_say_66 : decode mX10_say.2.2.1 66 = .ok (.aload_n 0, 1) := by decide +kernel
theorem dX10_say_67 : decode mX10_say.2.2.1 67 = .ok (.getfield 7, 3) := by decide +kernel
theorem dX10_say_70 : decode mX10_say.2.2.1 70 = .ok (.iload 4, 2) := by decide +kernel
theorem dX10_say_72 : decode mX10_say.2.2.1 72 = .ok (.baload, 1) := by decide +kernel
theorem dX10_say_73 : decode mX10_say.2.2.1 73 = .ok (.bastore, 1) := by decide +kernel
theorem dX10_say_74 : decode mX10_say.2.2.1 74 = .ok (.iinc 4 1, 3) := by decide +kernel
theorem dX10_say_77 : decode mX10_say.2.2.1 77 = .ok (.goto (-36), 3) := by decide +kernel
theorem dX10_say_80 : decode mX10_say.2.2.1 80 = .ok (.aload_n 0, 1) := by decide +kernel
theorem dX10_say_81 : decode mX10_say.2.2.1 81 = .ok (.getfield 116, 3) := by decide +kernel
theorem dX10_say_84 : decode mX10_say.2.2.1 84 = .ok (.iload_n 3, 1) := by decide +kernel
theorem dX10_say_85 : decode mX10_say.2.2.1 85 = .ok (.dup2, 1) := by decide +kernel
theorem dX10_say_86 : decode mX10_say.2.2.1 86 = .ok (.iaload, 1) := by decide +kernel
theorem dX10_say_87 : decode mX10_say.2.2.1 87 = .ok (.iload_n 2, 1) := by decide +kernel
theorem dX10_say_88 : decode mX10_say.2.2.1 88 = .ok (.iadd, 1) := by decide +kernel
theorem dX10_say_89 : decode mX10_say.2.2.1 89 = .ok (.iastore, 1) := by decide +kernel
theorem dX10_say_90 : decode mX10_say.2.2.1 90 = .ok (.aload_n 0, 1) := by decide +kernel
theorem dX10_say_91 : decode mX10_say.2.2.1 91 = .ok (.getfield 116, 3) := by decide +kernel
theorem dX10_say_94 : decode mX10_say.2.2.1 94 = .ok (.iload_n 3, 1) := by decide +kernel
theorem dX10_say_95 : decode mX10_say.2.2.1 95 = .ok (.iaload, 1) := by decide +kernel
theorem dX10_say_96 : decode mX10_say.2.2.1 96 = .ok (.ireturn, 1) := by decide +kernel
theorem dX10_hear_0 : decode mX10_hear.2.2.1 0 = .ok (.aload_n 0, 1) := by decide +kernel
theorem dX10_hear_1 : decode mX10_hear.2.2.1 1 = .ok (.iload_n 1, 1) := by decide +kernel
theorem dX10_hear_2 : decode mX10_hear.2.2.1 2 = .ok (.iconst 4, 1) := by decide +kernel
theorem dX10_hear_3 : decode mX10_hear.2.2.1 3 = .ok (.invokevirtual 293, 3) := by decide +kernel
theorem dX10_hear_6 : decode mX10_hear.2.2.1 6 = .ok (.ifCond .ne 5, 3) := by decide +kernel
theorem dX10_hear_9 : decode mX10_hear.2.2.1 9 = .ok (.iconst (-1), 1) := by decide +kernel
theorem dX10_hear_10 : decode mX10_hear.2.2.1 10 = .ok (.ireturn, 1) := by decide +kernel
theorem dX10_hear_11 : decode mX10_hear.2.2.1 11 = .ok (.iconst 5, 1) := by decide +kernel
theorem dX10_hear_12 : decode mX10_hear.2.2.1 12 = .ok (.iload_n 1, 1) := by decide +kernel
theorem dX10_hear_13 : decode mX10_hear.2.2.1 13 = .ok (.imul, 1) := by decide +kernel
theorem dX10_hear_14 : decode mX10_hear.2.2.1 14 = .ok (.iconst 4, 1) := by decide +kernel
theorem dX10_hear_15 : decode mX10_hear.2.2.1 15 = .ok (.iadd, 1) := by decide +kernel
theorem dX10_hear_16 : decode mX10_hear.2.2.1 16 = .ok (.istore_n 2, 1) := by decide +kernel
theorem dX10_hear_17 : decode mX10_hear.2.2.1 17 = .ok (.aload_n 0, 1) := by decide +kernel
theorem dX10_hear_18 : decode mX10_hear.2.2.1 18 = .ok (.aload_n 0, 1) := by decide +kernel
theorem dX10_hear_19 : decode mX10_hear.2.2.1 19 = .ok (.getfield 116, 3) := by decide +kernel
theorem dX10_hear_22 : decode mX10_hear.2.2.1 22 = .ok (.iload_n 2, 1) := by decide +kernel
theorem dX10_hear_23 : decode mX10_hear.2.2.1 23 = .ok (.iaload, 1) := by decide +kernel
theorem dX10_hear_24 : decode mX10_hear.2.2.1 24 = .ok (.putfield 134, 3) := by decide +kernel
theorem dX10_hear_27 : decode mX10_hear.2.2.1 27 = .ok (.iconst 0, 1) := by decide +kernel
theorem dX10_hear_28 : decode mX10_hear.2.2.1 28 = .ok (.istore_n 3, 1) := by decide +kernel
theorem dX10_hear_29 : decode mX10_hear.2.2.1 29 = .ok (.iload_n 3, 1) := by decide +kernel
theorem dX10_hear_30 : decode mX10_hear.2.2.1 30 = .ok (.aload_n 0, 1) := by decide +kernel
theorem dX10_hear_31 : decode mX10_hear.2.2.1 31 = .ok (.getfield 134, 3) := by decide +kernel
theorem dX10_hear_34 : decode mX10_hear.2.2.1 34 = .ok (.if_icmp .ge 27, 3) := by decide +kernel
theorem dX10_hear_37 : decode mX10_hear.2.2.1 37 = .ok (.aload_n 0, 1) := by decide +kernel
theorem dX10_hear_38 : decode mX10_hear.2.2.1 38 = .ok (.getfield 13, 3) := by decide +kernel
theorem dX10_hear_41 : decode mX10_hear.2.2.1 41 = .ok (.iload_n 3, 1) := by decide +kernel
theorem dX10_hear_42 : decode mX10_hear.2.2.1 42 = .ok (.aload_n 0, 1) := by decide +kernel
theorem dX10_hear_43 : decode mX10_hear.2.2.1 43 = .ok (.getfield 113, 3) := by decide +kernel
theorem dX10_hear_46 : decode mX10_hear.2.2.1 46 = .ok (.sipush 4200, 3) := by decide +kernel
theorem dX10_hear_49 : decode mX10_hear.2.2.1 49 = .ok (.iload_n 2, 1) := by decide +kernel
theorem dX10_hear_50 : decode mX10_hear.2.2.1 50 = .ok (.imul, 1) := by decide +kernel
theorem dX10_hear_51 : decode mX10_hear.2.2.1 51 = .ok (.iload_n 3, 1) := by decide +kernel
theorem dX10_hear_52 : decode mX10_hear.2.2.1 52 = .ok (.iadd, 1) := by decide +kernel
theorem dX10_hear_53 : decode mX10_hear.2.2.1 53 = .ok (.baload, 1) := by decide +kernel
theorem dX10_hear_54 : decode mX10_hear.2.2.1 54 = .ok (.bastore, 1) := by decide +kernel
theorem dX10_hear_55 : decode mX10_hear.2.2.1 55 = .ok (.iinc 3 1, 3) := by decide +kernel
theorem dX10_hear_58 : decode mX10_hear.2.2.1 58 = .ok (.goto (-29), 3) := by decide +kernel
theorem dX10_hear_61 : decode mX10_hear.2.2.1 61 = .ok (.aload_n 0, 1) := by decide +kernel
theorem dX10_hear_62 : decode mX10_hear.2.2.1 62 = .ok (.getfield 116, 3) := by decide +kernel
theorem dX10_hear_65 : decode mX10_hear.2.2.1 65 = .ok (.iload_n 2, 1) := by decide +kernel
theorem dX10_hear_66 : decode mX10_hear.2.2.1 66 = .ok (.iconst 0, 1) := by decide +kernel
theorem dX10_hear_67 : decode mX10_hear.2.2.1 67 = .ok (.iastore, 1) := by decide +kernel
theorem dX10_hear_68 : decode mX10_hear.2.2.1 68 = .ok (.aload_n 0, 1) := by decide +kernel
theorem dX10_hear_69 : decode mX10_hear.2.2.1 69 = .ok (.getfield 134, 3) := by decide +kernel
theorem dX10_hear_72 : decode mX10_hear.2.2.1 72 = .ok (.ireturn, 1) := by decide +kernel
theorem dX10_meddle_0 : decode mX10_meddle.2.2.1 0 = .ok (.aload_n 0, 1) := by decide +kernel
theorem dX10_meddle_1 : decode mX10_meddle.2.2.1 1 = .ok (.iload_n 1, 1) := by decide +kernel
theorem dX10_meddle_2 : decode mX10_meddle.2.2.1 2 = .ok (.iload_n 2, 1) := by decide +kernel
theorem dX10_meddle_3 : decode mX10_meddle.2.2.1 3 = .ok (.invokevirtual 293, 3) := by decide +kernel
theorem dX10_meddle_6 : decode mX10_meddle.2.2.1 6 = .ok (.ifCond .eq 21, 3) := by decide +kernel
theorem dX10_meddle_9 : decode mX10_meddle.2.2.1 9 = .ok (.iload_n 3, 1) := by decide +kernel
theorem dX10_meddle_10 : decode mX10_meddle.2.2.1 10 = .ok (.ifCond .lt 17, 3) := by decide +kernel
theorem dX10_meddle_13 : decode mX10_meddle.2.2.1 13 = .ok (.iload_n 3, 1) := by decide +kernel
theorem dX10_meddle_14 : decode mX10_meddle.2.2.1 14 = .ok (.aload_n 0, 1) := by decide +kernel
theorem dX10_meddle_15 : decode mX10_meddle.2.2.1 15 = .ok (.getfield 116, 3) := by decide +kernel
theorem dX10_meddle_18 : decode mX10_meddle.2.2.1 18 = .ok (.iconst 5, 1) := by decide +kernel
theorem dX10_meddle_19 : decode mX10_meddle.2.2.1 19 = .ok (.iload_n 1, 1) := by decide +kernel
theorem dX10_meddle_20 : decode mX10_meddle.2.2.1 20 = .ok (.imul, 1) := by decide +kernel
theorem dX10_meddle_21 : decode mX10_meddle.2.2.1 21 = .ok (.iload_n 2, 1) := by decide +kernel
theorem dX10_meddle_22 : decode mX10_meddle.2.2.1 22 = .ok (.iadd, 1) := by decide +kernel
theorem dX10_meddle_23 : decode mX10_meddle.2.2.1 23 = .ok (.iaload, 1) := by decide +kernel
theorem dX10_meddle_24 : decode mX10_meddle.2.2.1 24 = .ok (.if_icmp .lt 5, 3) := by decide +kernel
theorem dX10_meddle_27 : decode mX10_meddle.2.2.1 27 = .ok (.iconst 0, 1) := by decide +kernel
theorem dX10_meddle_28 : decode mX10_meddle.2.2.1 28 = .ok (.ireturn, 1) := by decide +kernel
theorem dX10_meddle_29 : decode mX10_meddle.2.2.1 29 = .ok (.aload_n 0, 1) := by decide +kernel
theorem dX10_meddle_30 : decode mX10_meddle.2.2.1 30 = .ok (.getfield 113, 3) := by decide +kernel
theorem dX10_meddle_33 : decode mX10_meddle.2.2.1 33 = .ok (.sipush 4200, 3) := by decide +kernel
theorem dX10_meddle_36 : decode mX10_meddle.2.2.1 36 = .ok (.iconst 5, 1) := by decide +kernel
theorem dX10_meddle_37 : decode mX10_meddle.2.2.1 37 = .ok (.iload_n 1, 1) := by decide +kernel
theorem dX10_meddle_38 : decode mX10_meddle.2.2.1 38 = .ok (.imul, 1) := by decide +kernel
theorem dX10_meddle_39 : decode mX10_meddle.2.2.1 39 = .ok (.iload_n 2, 1) := by decide +kernel
theorem dX10_meddle_40 : decode mX10_meddle.2.2.1 40 = .ok (.iadd, 1) := by decide +kernel
theorem dX10_meddle_41 : decode mX10_meddle.2.2.1 41 = .ok (.imul, 1) := by decide +kernel
theorem dX10_meddle_42 : decode mX10_meddle.2.2.1 42 = .ok (.iload_n 3, 1) := by decide +kernel
theorem dX10_meddle_43 : decode mX10_meddle.2.2.1 43 = .ok (.iadd, 1) := by decide +kernel
theorem dX10_meddle_44 : decode mX10_meddle.2.2.1 44 = .ok (.iload 4, 2) := by decide +kernel
theorem dX10_meddle_46 : decode mX10_meddle.2.2.1 46 = .ok (.i2b, 1) := by decide +kernel
theorem dX10_meddle_47 : decode mX10_meddle.2.2.1 47 = .ok (.bastore, 1) := by decide +kernel
theorem dX10_meddle_48 : decode mX10_meddle.2.2.1 48 = .ok (.iconst 1, 1) := by decide +kernel
theorem dX10_meddle_49 : decode mX10_meddle.2.2.1 49 = .ok (.ireturn, 1) := by decide +kernel
theorem dX10_field_0 : decode mX10_field.2.2.1 0 = .ok (.aload_n 0, 1) := by decide +kernel
theorem dX10_field_1 : decode mX10_field.2.2.1 1 = .ok (.getfield 128, 3) := by decide +kernel
theorem dX10_field_4 : decode mX10_field.2.2.1 4 = .ok (.iload_n 1, 1) := by decide +kernel
theorem dX10_field_5 : decode mX10_field.2.2.1 5 = .ok (.baload, 1) := by decide +kernel
theorem dX10_field_6 : decode mX10_field.2.2.1 6 = .ok (.sipush 255, 3) := by decide +kernel
theorem dX10_field_9 : decode mX10_field.2.2.1 9 = .ok (.iand, 1) := by decide +kernel
theorem dX10_field_10 : decode mX10_field.2.2.1 10 = .ok (.i2l, 1) := by decide +kernel
theorem dX10_field_11 : decode mX10_field.2.2.1 11 = .ok (.bipush 24, 2) := by decide +kernel
theorem dX10_field_13 : decode mX10_field.2.2.1 13 = .ok (.lshl, 1) := by decide +kernel
theorem dX10_field_14 : decode mX10_field.2.2.1 14 = .ok (.aload_n 0, 1) := by decide +kernel
theorem dX10_field_15 : decode mX10_field.2.2.1 15 = .ok (.getfield 128, 3) := by decide +kernel
theorem dX10_field_18 : decode mX10_field.2.2.1 18 = .ok (.iload_n 1, 1) := by decide +kernel
theorem dX10_field_19 : decode mX10_field.2.2.1 19 = .ok (.iconst 1, 1) := by decide +kernel
theorem dX10_field_20 : decode mX10_field.2.2.1 20 = .ok (.iadd, 1) := by decide +kernel
theorem dX10_field_21 : decode mX10_field.2.2.1 21 = .ok (.baload, 1) := by decide +kernel
theorem dX10_field_22 : decode mX10_field.2.2.1 22 = .ok (.sipush 255, 3) := by decide +kernel
theorem dX10_field_25 : decode mX10_field.2.2.1 25 = .ok (.iand, 1) := by decide +kernel
theorem dX10_field_26 : decode mX10_field.2.2.1 26 = .ok (.bipush 16, 2) := by decide +kernel
theorem dX10_field_28 : decode mX10_field.2.2.1 28 = .ok (.ishl, 1) := by decide +kernel
theorem dX10_field_29 : decode mX10_field.2.2.1 29 = .ok (.i2l, 1) := by decide +kernel
theorem dX10_field_30 : decode mX10_field.2.2.1 30 = .ok (.lor, 1) := by decide +kernel
theorem dX10_field_31 : decode mX10_field.2.2.1 31 = .ok (.aload_n 0, 1) := by decide +kernel
theorem dX10_field_32 : decode mX10_field.2.2.1 32 = .ok (.getfield 128, 3) := by decide +kernel
theorem dX10_field_35 : decode mX10_field.2.2.1 35 = .ok (.iload_n 1, 1) := by decide +kernel
theorem dX10_field_36 : decode mX10_field.2.2.1 36 = .ok (.iconst 2, 1) := by decide +kernel
theorem dX10_field_37 : decode mX10_field.2.2.1 37 = .ok (.iadd, 1) := by decide +kernel
theorem dX10_field_38 : decode mX10_field.2.2.1 38 = .ok (.baload, 1) := by decide +kernel
theorem dX10_field_39 : decode mX10_field.2.2.1 39 = .ok (.sipush 255, 3) := by decide +kernel
theorem dX10_field_42 : decode mX10_field.2.2.1 42 = .ok (.iand, 1) := by decide +kernel
theorem dX10_field_43 : decode mX10_field.2.2.1 43 = .ok (.bipush 8, 2) := by decide +kernel
theorem dX10_field_45 : decode mX10_field.2.2.1 45 = .ok (.ishl, 1) := by decide +kernel
theorem dX10_field_46 : decode mX10_field.2.2.1 46 = .ok (.i2l, 1) := by decide +kernel
theorem dX10_field_47 : decode mX10_field.2.2.1 47 = .ok (.lor, 1) := by decide +kernel
theorem dX10_field_48 : decode mX10_field.2.2.1 48 = .ok (.aload_n 0, 1) := by decide +kernel
theorem dX10_field_49 : decode mX10_field.2.2.1 49 = .ok (.getfield 128, 3) := by decide +kernel
theorem dX10_field_52 : decode mX10_field.2.2.1 52 = .ok (.iload_n 1, 1) := by decide +kernel
theorem dX10_field_53 : decode mX10_field.2.2.1 53 = .ok (.iconst 3, 1) := by decide +kernel
theorem dX10_field_54 : decode mX10_field.2.2.1 54 = .ok (.iadd, 1) := by decide +kernel
theorem dX10_field_55 : decode mX10_field.2.2.1 55 = .ok (.baload, 1) := by decide +kernel
theorem dX10_field_56 : decode mX10_field.2.2.1 56 = .ok (.sipush 255, 3) := by decide +kernel
theorem dX10_field_59 : decode mX10_field.2.2.1 59 = .ok (.iand, 1) := by decide +kernel
theorem dX10_field_60 : decode mX10_field.2.2.1 60 = .ok (.i2l, 1) := by decide +kernel
theorem dX10_field_61 : decode mX10_field.2.2.1 61 = .ok (.lor, 1) := by decide +kernel
theorem dX10_field_62 : decode mX10_field.2.2.1 62 = .ok (.lreturn, 1) := by decide +kernel
theorem dX10_greeted_0 : decode mX10_greeted.2.2.1 0 = .ok (.iconst 5, 1) := by decide +kernel
theorem dX10_greeted_1 : decode mX10_greeted.2.2.1 1 = .ok (.iload_n 2, 1) := by decide +kernel
theorem dX10_greeted_2 : decode mX10_greeted.2.2.1 2 = .ok (.imul, 1) := by decide +kernel
theorem dX10_greeted_3 : decode mX10_greeted.2.2.1 3 = .ok (.iload_n 1, 1) := by decide +kernel
theorem dX10_greeted_4 : decode mX10_greeted.2.2.1 4 = .ok (.iadd, 1) := by decide +kernel
theorem dX10_greeted_5 : decode mX10_greeted.2.2.1 5 = .ok (.istore_n 3, 1) := by decide +kernel
theorem dX10_greeted_6 : decode mX10_greeted.2.2.1 6 = .ok (.iconst 1, 1) := by decide +kernel
theorem dX10_greeted_7 : decode mX10_greeted.2.2.1 7 = .ok (.istore 4, 2) := by decide +kernel
theorem dX10_greeted_9 : decode mX10_greeted.2.2.1 9 = .ok (.iconst 0, 1) := by decide +kernel
theorem dX10_greeted_10 : decode mX10_greeted.2.2.1 10 = .ok (.istore 5, 2) := by decide +kernel
theorem dX10_greeted_12 : decode mX10_greeted.2.2.1 12 = .ok (.iload 5, 2) := by decide +kernel
theorem dX10_greeted_14 : decode mX10_greeted.2.2.1 14 = .ok (.bipush 20, 2) := by decide +kernel
theorem dX10_greeted_16 : decode mX10_greeted.2.2.1 16 = .ok (.if_icmp .ge 70, 3) := by decide +kernel
theorem dX10_greeted_19 : decode mX10_greeted.2.2.1 19 = .ok (.iload 4, 2) := by decide +kernel
theorem dX10_greeted_21 : decode mX10_greeted.2.2.1 21 = .ok (.ifCond .eq 56, 3) := by decide +kernel
theorem dX10_greeted_24 : decode mX10_greeted.2.2.1 24 = .ok (.aload_n 0, 1) := by decide +kernel
theorem dX10_greeted_25 : decode mX10_greeted.2.2.1 25 = .ok (.getfield 113, 3) := by decide +kernel
theorem dX10_greeted_28 : decode mX10_greeted.2.2.1 28 = .ok (.sipush 4200, 3) := by decide +kernel
theorem dX10_greeted_31 : decode mX10_greeted.2.2.1 31 = .ok (.iload_n 3, 1) := by decide +kernel
theorem dX10_greeted_32 : decode mX10_greeted.2.2.1 32 = .ok (.imul, 1) := by decide +kernel
theorem dX10_greeted_33 : decode mX10_greeted.2.2.1 33 = .ok (.iload 5, 2) := by decide +kernel
theorem dX10_greeted_35 : decode mX10_greeted.2.2.1 35 = .ok (.iadd, 1) := by decide +kernel
theorem dX10_greeted_36 : decode mX10_greeted.2.2.1 36 = .ok (.baload, 1) := by decide +kernel
theorem dX10_greeted_37 : decode mX10_greeted.2.2.1 37 = .ok (.aload_n 0, 1) := by decide +kernel
theorem dX10_greeted_38 : decode mX10_greeted.2.2.1 38 = .ok (.getfield 122, 3) := by decide +kernel
theorem dX10_greeted_41 : decode mX10_greeted.2.2.1 41 = .ok (.iload 5, 2) := by decide +kernel
theorem dX10_greeted_43 : decode mX10_greeted.2.2.1 43 = .ok (.baload, 1) := by decide +kernel
theorem dX10_greeted_44 : decode mX10_greeted.2.2.1 44 = .ok (.if_icmp .ne 33, 3) := by decide +kernel
theorem dX10_greeted_47 : decode mX10_greeted.2.2.1 47 = .ok (.aload_n 0, 1) := by decide +kernel
theorem dX10_greeted_48 : decode mX10_greeted.2.2.1 48 = .ok (.getfield 113, 3) := by decide +kernel
theorem dX10_greeted_51 : decode mX10_greeted.2.2.1 51 = .ok (.sipush 4200, 3) := by decide +kernel
theorem dX10_greeted_54 : decode mX10_greeted.2.2.1 54 = .ok (.iload_n 3, 1) := by decide +kernel
theorem dX10_greeted_55 : decode mX10_greeted.2.2.1 55 = .ok (.imul, 1) := by decide +kernel
theorem dX10_greeted_56 : decode mX10_greeted.2.2.1 56 = .ok (.bipush 28, 2) := by decide +kernel
theorem dX10_greeted_58 : decode mX10_greeted.2.2.1 58 = .ok (.iadd, 1) := by decide +kernel
theorem dX10_greeted_59 : decode mX10_greeted.2.2.1 59 = .ok (.iload 5, 2) := by decide +kernel
theorem dX10_greeted_61 : decode mX10_greeted.2.2.1 61 = .ok (.iadd, 1) := by decide +kernel
theorem dX10_greeted_62 : decode mX10_greeted.2.2.1 62 = .ok (.baload, 1) := by decide +kernel
theorem dX10_greeted_63 : decode mX10_greeted.2.2.1 63 = .ok (.aload_n 0, 1) := by decide +kernel
theorem dX10_greeted_64 : decode mX10_greeted.2.2.1 64 = .ok (.getfield 50, 3) := by decide +kernel
theorem dX10_greeted_67 : decode mX10_greeted.2.2.1 67 = .ok (.iload 5, 2) := by decide +kernel
theorem dX10_greeted_69 : decode mX10_greeted.2.2.1 69 = .ok (.baload, 1) := by decide +kernel
theorem dX10_greeted_70 : decode mX10_greeted.2.2.1 70 = .ok (.if_icmp .ne 7, 3) := by decide +kernel
theorem dX10_greeted_73 : decode mX10_greeted.2.2.1 73 = .ok (.iconst 1, 1) := by decide +kernel
theorem dX10_greeted_74 : decode mX10_greeted.2.2.1 74 = .ok (.goto 4, 3) := by decide +kernel
theorem dX10_greeted_77 : decode mX10_greeted.2.2.1 77 = .ok (.iconst 0, 1) := by decide +kernel
theorem dX10_greeted_78 : decode mX10_greeted.2.2.1 78 = .ok (.istore 4, 2) := by decide +kernel
theorem dX10_greeted_80 : decode mX10_greeted.2.2.1 80 = .ok (.iinc 5 1, 3) := by decide +kernel
theorem dX10_greeted_83 : decode mX10_greeted.2.2.1 83 = .ok (.goto (-71), 3) := by decide +kernel
theorem dX10_greeted_86 : decode mX10_greeted.2.2.1 86 = .ok (.aload_n 0, 1) := by decide +kernel
theorem dX10_greeted_87 : decode mX10_greeted.2.2.1 87 = .ok (.iload_n 3, 1) := by decide +kernel
theorem dX10_greeted_88 : decode mX10_greeted.2.2.1 88 = .ok (.bipush 68, 2) := by decide +kernel
theorem dX10_greeted_90 : decode mX10_greeted.2.2.1 90 = .ok (.invokevirtual 326, 3) := by decide +kernel
theorem dX10_greeted_93 : decode mX10_greeted.2.2.1 93 = .ok (.iload 4, 2) := by decide +kernel
theorem dX10_greeted_95 : decode mX10_greeted.2.2.1 95 = .ok (.ifCond .ne 13, 3) := by decide +kernel
theorem dX10_greeted_98 : decode mX10_greeted.2.2.1 98 = .ok (.aload_n 0, 1) := by decide +kernel
theorem dX10_greeted_99 : decode mX10_greeted.2.2.1 99 = .ok (.iload_n 1, 1) := by decide +kernel
theorem dX10_greeted_100 : decode mX10_greeted.2.2.1 100 = .ok (.iload_n 2, 1) := by decide +kernel
theorem dX10_greeted_101 : decode mX10_greeted.2.2.1 101 = .ok (.iconst 1, 1) := by decide +kernel
theorem dX10_greeted_102 : decode mX10_greeted.2.2.1 102 = .ok (.invokevirtual 299, 3) := by decide +kernel
theorem dX10_greeted_105 : decode mX10_greeted.2.2.1 105 = .ok (.bipush 21, 2) := by decide +kernel
theorem dX10_greeted_107 : decode mX10_greeted.2.2.1 107 = .ok (.ireturn, 1) := by decide +kernel
theorem dX10_greeted_108 : decode mX10_greeted.2.2.1 108 = .ok (.aload_n 0, 1) := by decide +kernel
theorem dX10_greeted_109 : decode mX10_greeted.2.2.1 109 = .ok (.getfield 85, 3) := by decide +kernel
theorem dX10_greeted_112 : decode mX10_greeted.2.2.1 112 = .ok (.iconst 5, 1) := by decide +kernel
theorem dX10_greeted_113 : decode mX10_greeted.2.2.1 113 = .ok (.iload_n 1, 1) := by decide +kernel
theorem dX10_greeted_114 : decode mX10_greeted.2.2.1 114 = .ok (.imul, 1) := by decide +kernel
theorem dX10_greeted_115 : decode mX10_greeted.2.2.1 115 = .ok (.iload_n 2, 1) := by decide +kernel
theorem dX10_greeted_116 : decode mX10_greeted.2.2.1 116 = .ok (.iadd, 1) := by decide +kernel
theorem dX10_greeted_117 : decode mX10_greeted.2.2.1 117 = .ok (.iconst 1, 1) := by decide +kernel
theorem dX10_greeted_118 : decode mX10_greeted.2.2.1 118 = .ok (.bastore, 1) := by decide +kernel
theorem dX10_greeted_119 : decode mX10_greeted.2.2.1 119 = .ok (.iconst 0, 1) := by decide +kernel
theorem dX10_greeted_120 : decode mX10_greeted.2.2.1 120 = .ok (.istore 5, 2) := by decide +kernel
theorem dX10_greeted_122 : decode mX10_greeted.2.2.1 122 = .ok (.iconst 0, 1) := by decide +kernel
theorem dX10_greeted_123 : decode mX10_greeted.2.2.1 123 = .ok (.istore 6, 2) := by decide +kernel
theorem dX10_greeted_125 : decode mX10_greeted.2.2.1 125 = .ok (.iload 6, 2) := by decide +kernel
theorem dX10_greeted_127 : decode mX10_greeted.2.2.1 127 = .ok (.aload_n 0, 1) := by decide +kernel
theorem dX10_greeted_128 : decode mX10_greeted.2.2.1 128 = .ok (.getfield 242, 3) := by decide +kernel
theorem dX10_greeted_131 : decode mX10_greeted.2.2.1 131 = .ok (.if_icmp .ge 36, 3) := by decide +kernel
theorem dX10_greeted_134 : decode mX10_greeted.2.2.1 134 = .ok (.iload 5, 2) := by decide +kernel
theorem dX10_greeted_136 : decode mX10_greeted.2.2.1 136 = .ok (.ifCond .ne 18, 3) := by decide +kernel
theorem dX10_greeted_139 : decode mX10_greeted.2.2.1 139 = .ok (.aload_n 0, 1) := by decide +kernel
theorem dX10_greeted_140 : decode mX10_greeted.2.2.1 140 = .ok (.getfield 73, 3) := by decide +kernel
theorem dX10_greeted_143 : decode mX10_greeted.2.2.1 143 = .ok (.bipush 64, 2) := by decide +kernel
theorem dX10_greeted_145 : decode mX10_greeted.2.2.1 145 = .ok (.iload_n 1, 1) := by decide +kernel
theorem dX10_greeted_146 : decode mX10_greeted.2.2.1 146 = .ok (.imul, 1) := by decide +kernel
theorem dX10_greeted_147 : decode mX10_greeted.2.2.1 147 = .ok (.iload 6, 2) := by decide +kernel
theorem dX10_greeted_149 : decode mX10_greeted.2.2.1 149 = .ok (.iadd, 1) := by decide +kernel
theorem dX10_greeted_150 : decode mX10_greeted.2.2.1 150 = .ok (.baload, 1) := by decide +kernel
theorem dX10_greeted_151 : decode mX10_greeted.2.2.1 151 = .ok (.ifCond .eq 7, 3) := by decide +kernel
theorem dX10_greeted_154 : decode mX10_greeted.2.2.1 154 = .ok (.iconst 1, 1) := by decide +kernel
theorem dX10_greeted_155 : decode mX10_greeted.2.2.1 155 = .ok (.goto 4, 3) := by decide +kernel
theorem dX10_greeted_158 : decode mX10_greeted.2.2.1 158 = .ok (.iconst 0, 1) := by decide +kernel
theorem dX10_greeted_159 : decode mX10_greeted.2.2.1 159 = .ok (.istore 5, 2) := by decide +kernel
theorem dX10_greeted_161 : decode mX10_greeted.2.2.1 161 = .ok (.iinc 6 1, 3) := by decide +kernel
theorem dX10_greeted_164 : decode mX10_greeted.2.2.1 164 = .ok (.goto (-39), 3) := by decide +kernel
theorem dX10_greeted_167 : decode mX10_greeted.2.2.1 167 = .ok (.iload 5, 2) := by decide +kernel
theorem dX10_greeted_169 : decode mX10_greeted.2.2.1 169 = .ok (.ifCond .ne 6, 3) := by decide +kernel
theorem dX10_greeted_172 : decode mX10_greeted.2.2.1 172 = .ok (.bipush 10, 2) := by decide +kernel
theorem dX10_greeted_174 : decode mX10_greeted.2.2.1 174 = .ok (.ireturn, 1) := by decide +kernel
theorem dX10_greeted_175 : decode mX10_greeted.2.2.1 175 = .ok (.aload_n 0, 1) := by decide +kernel
theorem dX10_greeted_176 : decode mX10_greeted.2.2.1 176 = .ok (.getfield 242, 3) := by decide +kernel
theorem dX10_greeted_179 : decode mX10_greeted.2.2.1 179 = .ok (.bipush 7, 2) := by decide +kernel
theorem dX10_greeted_181 : decode mX10_greeted.2.2.1 181 = .ok (.iadd, 1) := by decide +kernel
theorem dX10_greeted_182 : decode mX10_greeted.2.2.1 182 = .ok (.bipush 8, 2) := by decide +kernel
theorem dX10_greeted_184 : decode mX10_greeted.2.2.1 184 = .ok (.idiv, 1) := by decide +kernel
theorem dX10_greeted_185 : decode mX10_greeted.2.2.1 185 = .ok (.istore 6, 2) := by decide +kernel
theorem dX10_greeted_187 : decode mX10_greeted.2.2.1 187 = .ok (.aload_n 0, 1) := by decide +kernel
theorem dX10_greeted_188 : decode mX10_greeted.2.2.1 188 = .ok (.iconst 1, 1) := by decide +kernel
theorem dX10_greeted_189 : decode mX10_greeted.2.2.1 189 = .ok (.iload 6, 2) := by decide +kernel
theorem dX10_greeted_191 : decode mX10_greeted.2.2.1 191 = .ok (.iadd, 1) := by decide +kernel
theorem dX10_greeted_192 : decode mX10_greeted.2.2.1 192 = .ok (.invokevirtual 312, 3) := by decide +kernel
theorem dX10_greeted_195 : decode mX10_greeted.2.2.1 195 = .ok (.aload_n 0, 1) := by decide +kernel
theorem dX10_greeted_196 : decode mX10_greeted.2.2.1 196 = .ok (.iconst 5, 1) := by decide +kernel
theorem dX10_greeted_197 : decode mX10_greeted.2.2.1 197 = .ok (.invokevirtual 306, 3) := by decide +kernel
theorem dX10_greeted_200 : decode mX10_greeted.2.2.1 200 = .ok (.iconst 0, 1) := by decide +kernel
theorem dX10_greeted_201 : decode mX10_greeted.2.2.1 201 = .ok (.istore 7, 2) := by decide +kernel
theorem dX10_greeted_203 : decode mX10_greeted.2.2.1 203 = .ok (.iload 7, 2) := by decide +kernel
theorem dX10_greeted_205 : decode mX10_greeted.2.2.1 205 = .ok (.iload 6, 2) := by decide +kernel
theorem dX10_greeted_207 : decode mX10_greeted.2.2.1 207 = .ok (.if_icmp .ge 85, 3) := by decide +kernel
theorem dX10_greeted_210 : decode mX10_greeted.2.2.1 210 = .ok (.iconst 0, 1) := by decide +kernel
theorem dX10_greeted_211 : decode mX10_greeted.2.2.1 211 = .ok (.istore 8, 2) := by decide +kernel
theorem dX10_greeted_213 : decode mX10_greeted.2.2.1 213 = .ok (.iconst 0, 1) := by decide +kernel
theorem dX10_greeted_214 : decode mX10_greeted.2.2.1 214 = .ok (.istore 9, 2) := by decide +kernel
theorem dX10_greeted_216 : decode mX10_greeted.2.2.1 216 = .ok (.iload 9, 2) := by decide +kernel
theorem dX10_greeted_218 : decode mX10_greeted.2.2.1 218 = .ok (.bipush 8, 2) := by decide +kernel
theorem dX10_greeted_220 : decode mX10_greeted.2.2.1 220 = .ok (.if_icmp .ge 60, 3) := by decide +kernel
theorem dX10_greeted_223 : decode mX10_greeted.2.2.1 223 = .ok (.iload 8, 2) := by decide +kernel
theorem dX10_greeted_225 : decode mX10_greeted.2.2.1 225 = .ok (.bipush 8, 2) := by decide +kernel
theorem dX10_greeted_227 : decode mX10_greeted.2.2.1 227 = .ok (.iload 7, 2) := by decide +kernel
theorem dX10_greeted_229 : decode mX10_greeted.2.2.1 229 = .ok (.imul, 1) := by decide +kernel
theorem dX10_greeted_230 : decode mX10_greeted.2.2.1 230 = .ok (.iload 9, 2) := by decide +kernel
theorem dX10_greeted_232 : decode mX10_greeted.2.2.1 232 = .ok (.iadd, 1) := by decide +kernel
theorem dX10_greeted_233 : decode mX10_greeted.2.2.1 233 = .ok (.aload_n 0, 1) := by decide +kernel
theorem dX10_greeted_234 : decode mX10_greeted.2.2.1 234 = .ok (.getfield 242, 3) := by decide +kernel
theorem dX10_greeted_237 : decode mX10_greeted.2.2.1 237 = .ok (.if_icmp .ge 33, 3) := by decide +kernel
theorem dX10_greeted_240 : decode mX10_greeted.2.2.1 240 = .ok (.aload_n 0, 1) := by decide +kernel
theorem dX10_greeted_241 : decode mX10_greeted.2.2.1 241 = .ok (.getfield 73, 3) := by decide +kernel
theorem dX10_greeted_244 : decode mX10_greeted.2.2.1 244 = .ok (.bipush 64, 2) := by decide +kernel
theorem dX10_greeted_246 : decode mX10_greeted.2.2.1 246 = .ok (.iload_n 1, 1) := by decide +kernel
theorem dX10_greeted_247 : decode mX10_greeted.2.2.1 247 = .ok (.imul, 1) := by decide +kernel
theorem dX10_greeted_248 : decode mX10_greeted.2.2.1 248 = .ok (.bipush 8, 2) := by decide +kernel
theorem dX10_greeted_250 : decode mX10_greeted.2.2.1 250 = .ok (.iload 7, 2) := by decide +kernel
theorem dX10_greeted_252 : decode mX10_greeted.2.2.1 252 = .ok (.imul, 1) := by decide +kernel
theorem dX10_greeted_253 : decode mX10_greeted.2.2.1 253 = .ok (.iadd, 1) := by decide +kernel
theorem dX10_greeted_254 : decode mX10_greeted.2.2.1 254 = .ok (.iload 9, 2) := by decide +kernel
theorem dX10_greeted_256 : decode mX10_greeted.2.2.1 256 = .ok (.iadd, 1) := by decide +kernel
theorem dX10_greeted_257 : decode mX10_greeted.2.2.1 257 = .ok (.baload, 1) := by decide +kernel
theorem dX10_greeted_258 : decode mX10_greeted.2.2.1 258 = .ok (.ifCond .eq 12, 3) := by decide +kernel
theorem dX10_greeted_261 : decode mX10_greeted.2.2.1 261 = .ok (.sipush 128, 3) := by decide +kernel
theorem dX10_greeted_264 : decode mX10_greeted.2.2.1 264 = .ok (.iload 9, 2) := by decide +kernel
theorem dX10_greeted_266 : decode mX10_greeted.2.2.1 266 = .ok (.ishr, 1) := by decide +kernel
theorem dX10_greeted_267 : decode mX10_greeted.2.2.1 267 = .ok (.goto 4, 3) := by decide +kernel
theorem dX10_greeted_270 : decode mX10_greeted.2.2.1 270 = .ok (.iconst 0, 1) := by decide +kernel
theorem dX10_greeted_271 : decode mX10_greeted.2.2.1 271 = .ok (.ior, 1) := by decide +kernel
theorem dX10_greeted_272 : decode mX10_greeted.2.2.1 272 = .ok (.istore 8, 2) := by decide +kernel
theorem dX10_greeted_274 : decode mX10_greeted.2.2.1 274 = .ok (.iinc 9 1, 3) := by decide +kernel
theorem dX10_greeted_277 : decode mX10_greeted.2.2.1 277 = .ok (.goto (-61), 3) := by decide +kernel
theorem dX10_greeted_280 : decode mX10_greeted.2.2.1 280 = .ok (.aload_n 0, 1) := by decide +kernel
theorem dX10_greeted_281 : decode mX10_greeted.2.2.1 281 = .ok (.iload 8, 2) := by decide +kernel
theorem dX10_greeted_283 : decode mX10_greeted.2.2.1 283 = .ok (.invokevirtual 306, 3) := by decide +kernel
theorem dX10_greeted_286 : decode mX10_greeted.2.2.1 286 = .ok (.iinc 7 1, 3) := by decide +kernel
theorem dX10_greeted_289 : decode mX10_greeted.2.2.1 289 = .ok (.goto (-86), 3) := by decide +kernel
theorem dX10_greeted_292 : decode mX10_greeted.2.2.1 292 = .ok (.aload_n 0, 1) := by decide +kernel
theorem dX10_greeted_293 : decode mX10_greeted.2.2.1 293 = .ok (.iload_n 1, 1) := by decide +kernel
theorem dX10_greeted_294 : decode mX10_greeted.2.2.1 294 = .ok (.iload_n 2, 1) := by decide +kernel
theorem dX10_greeted_295 : decode mX10_greeted.2.2.1 295 = .ok (.invokevirtual 309, 3) := by decide +kernel
theorem dX10_greeted_298 : decode mX10_greeted.2.2.1 298 = .ok (.bipush 10, 2) := by decide +kernel
theorem dX10_greeted_300 : decode mX10_greeted.2.2.1 300 = .ok (.ireturn, 1) := by decide +kernel
theorem dX10_isSized_0 : decode mX10_isSized.2.2.1 0 = .ok (.iload_n 1, 1) := by decide +kernel
theorem dX10_isSized_1 : decode mX10_isSized.2.2.1 1 = .ok (.tableswitch 113 4 8 #[35, 49, 74, 89, 74], 35) := by decide +kernel
theorem dX10_isSized_36 : decode mX10_isSized.2.2.1 36 = .ok (.aload_n 0, 1) := by decide +kernel
theorem dX10_isSized_37 : decode mX10_isSized.2.2.1 37 = .ok (.getfield 329, 3) := by decide +kernel
theorem dX10_isSized_40 : decode mX10_isSized.2.2.1 40 = .ok (.iconst 5, 1) := by decide +kernel
theorem dX10_isSized_41 : decode mX10_isSized.2.2.1 41 = .ok (.if_icmp .ne 7, 3) := by decide +kernel
theorem dX10_isSized_44 : decode mX10_isSized.2.2.1 44 = .ok (.iconst 1, 1) := by decide +kernel
theorem dX10_isSized_45 : decode mX10_isSized.2.2.1 45 = .ok (.goto 4, 3) := by decide +kernel
theorem dX10_isSized_48 : decode mX10_isSized.2.2.1 48 = .ok (.iconst 0, 1) := by decide +kernel
theorem dX10_isSized_49 : decode mX10_isSized.2.2.1 49 = .ok (.ireturn, 1) := by decide +kernel
theorem dX10_isSized_50 : decode mX10_isSized.2.2.1 50 = .ok (.aload_n 0, 1) := by decide +kernel
theorem dX10_isSized_51 : decode mX10_isSized.2.2.1 51 = .ok (.getfield 329, 3) := by decide +kernel
theorem dX10_isSized_54 : decode mX10_isSized.2.2.1 54 = .ok (.iconst 1, 1) := by decide +kernel
theorem dX10_isSized_55 : decode mX10_isSized.2.2.1 55 = .ok (.aload_n 0, 1) := by decide +kernel
theorem dX10_isSized_56 : decode mX10_isSized.2.2.1 56 = .ok (.getfield 242, 3) := by decide +kernel
theorem dX10_isSized_59 : decode mX10_isSized.2.2.1 59 = .ok (.bipush 7, 2) := by decide +kernel
theorem dX10_isSized_61 : decode mX10_isSized.2.2.1 61 = .ok (.iadd, 1) := by decide +kernel
theorem dX10_isSized_62 : decode mX10_isSized.2.2.1 62 = .ok (.bipush 8, 2) := by decide +kernel
theorem dX10_isSized_64 : decode mX10_isSized.2.2.1 64 = .ok (.idiv, 1) := by decide +kernel
theorem dX10_isSized_65 : decode mX10_isSized.2.2.1 65 = .ok (.iadd, 1) := by decide +kernel
theorem dX10_isSized_66 : decode mX10_isSized.2.2.1 66 = .ok (.if_icmp .ne 7, 3) := by decide +kernel
theorem dX10_isSized_69 : decode mX10_isSized.2.2.1 69 = .ok (.iconst 1, 1) := by decide +kernel
theorem dX10_isSized_70 : decode mX10_isSized.2.2.1 70 = .ok (.goto 4, 3) := by decide +kernel
theorem dX10_isSized_73 : decode mX10_isSized.2.2.1 73 = .ok (.iconst 0, 1) := by decide +kernel
theorem dX10_isSized_74 : decode mX10_isSized.2.2.1 74 = .ok (.ireturn, 1) := by decide +kernel
theorem dX10_isSized_75 : decode mX10_isSized.2.2.1 75 = .ok (.aload_n 0, 1) := by decide +kernel
theorem dX10_isSized_76 : decode mX10_isSized.2.2.1 76 = .ok (.getfield 329, 3) := by decide +kernel
theorem dX10_isSized_79 : decode mX10_isSized.2.2.1 79 = .ok (.bipush 13, 2) := by decide +kernel
theorem dX10_isSized_81 : decode mX10_isSized.2.2.1 81 = .ok (.if_icmp .ne 7, 3) := by decide +kernel
theorem dX10_isSized_84 : decode mX10_isSized.2.2.1 84 = .ok (.iconst 1, 1) := by decide +kernel
theorem dX10_isSized_85 : decode mX10_isSized.2.2.1 85 = .ok (.goto 4, 3) := by decide +kernel
theorem dX10_isSized_88 : decode mX10_isSized.2.2.1 88 = .ok (.iconst 0, 1) := by decide +kernel
theorem dX10_isSized_89 : decode mX10_isSized.2.2.1 89 = .ok (.ireturn, 1) := by decide +kernel
theorem dX10_isSized_90 : decode mX10_isSized.2.2.1 90 = .ok (.aload_n 0, 1) := by decide +kernel
theorem dX10_isSized_91 : decode mX10_isSized.2.2.1 91 = .ok (.getfield 329, 3) := by decide +kernel
theorem dX10_isSized_94 : decode mX10_isSized.2.2.1 94 = .ok (.bipush 10, 2) := by decide +kernel
theorem dX10_isSized_96 : decode mX10_isSized.2.2.1 96 = .ok (.if_icmp .lt 16, 3) := by decide +kernel
theorem dX10_isSized_99 : decode mX10_isSized.2.2.1 99 = .ok (.aload_n 0, 1) := by decide +kernel
theorem dX10_isSized_100 : decode mX10_isSized.2.2.1 100 = .ok (.getfield 329, 3) := by decide +kernel
theorem dX10_isSized_103 : decode mX10_isSized.2.2.1 103 = .ok (.bipush 73, 2) := by decide +kernel
theorem dX10_isSized_105 : decode mX10_isSized.2.2.1 105 = .ok (.if_icmp .gt 7, 3) := by decide +kernel
theorem dX10_isSized_108 : decode mX10_isSized.2.2.1 108 = .ok (.iconst 1, 1) := by decide +kernel
theorem dX10_isSized_109 : decode mX10_isSized.2.2.1 109 = .ok (.goto 4, 3) := by decide +kernel
theorem dX10_isSized_112 : decode mX10_isSized.2.2.1 112 = .ok (.iconst 0, 1) := by decide +kernel
theorem dX10_isSized_113 : decode mX10_isSized.2.2.1 113 = .ok (.ireturn, 1) := by decide +kernel
theorem dX10_isSized_114 : decode mX10_isSized.2.2.1 114 = .ok (.aload_n 0, 1) := by decide +kernel
theorem dX10_isSized_115 : decode mX10_isSized.2.2.1 115 = .ok (.getfield 329, 3) := by decide +kernel
theorem dX10_isSized_118 : decode mX10_isSized.2.2.1 118 = .ok (.iconst 1, 1) := by decide +kernel
theorem dX10_isSized_119 : decode mX10_isSized.2.2.1 119 = .ok (.if_icmp .ne 7, 3) := by decide +kernel
theorem dX10_isSized_122 : decode mX10_isSized.2.2.1 122 = .ok (.iconst 1, 1) := by decide +kernel
theorem dX10_isSized_123 : decode mX10_isSized.2.2.1 123 = .ok (.goto 4, 3) := by decide +kernel
theorem dX10_isSized_126 : decode mX10_isSized.2.2.1 126 = .ok (.iconst 0, 1) := by decide +kernel
theorem dX10_isSized_127 : decode mX10_isSized.2.2.1 127 = .ok (.ireturn, 1) := by decide +kernel
theorem dX10_shuts_0 : decode mX10_shuts.2.2.1 0 = .ok (.aload_n 0, 1) := by decide +kernel
theorem dX10_shuts_1 : decode mX10_shuts.2.2.1 1 = .ok (.iload_n 1, 1) := by decide +kernel
theorem dX10_shuts_2 : decode mX10_shuts.2.2.1 2 = .ok (.iload_n 2, 1) := by decide +kernel
theorem dX10_shuts_3 : decode mX10_shuts.2.2.1 3 = .ok (.iload_n 3, 1) := by decide +kernel
theorem dX10_shuts_4 : decode mX10_shuts.2.2.1 4 = .ok (.invokevirtual 299, 3) := by decide +kernel
theorem dX10_shuts_7 : decode mX10_shuts.2.2.1 7 = .ok (.bipush 20, 2) := by decide +kernel
theorem dX10_shuts_9 : decode mX10_shuts.2.2.1 9 = .ok (.iload_n 3, 1) := by decide +kernel
theorem dX10_shuts_10 : decode mX10_shuts.2.2.1 10 = .ok (.iadd, 1) := by decide +kernel
theorem dX10_shuts_11 : decode mX10_shuts.2.2.1 11 = .ok (.ireturn, 1) := by decide +kernel
theorem dX10_takes_0 : decode mX10_takes.2.2.1 0 = .ok (.iconst 5, 1) := by decide +kernel
theorem dX10_takes_1 : decode mX10_takes.2.2.1 1 = .ok (.iload_n 2, 1) := by decide +kernel
theorem dX10_takes_2 : decode mX10_takes.2.2.1 2 = .ok (.imul, 1) := by decide +kernel
theorem dX10_takes_3 : decode mX10_takes.2.2.1 3 = .ok (.iload_n 1, 1) := by decide +kernel
theorem dX10_takes_4 : decode mX10_takes.2.2.1 4 = .ok (.iadd, 1) := by decide +kernel
theorem dX10_takes_5 : decode mX10_takes.2.2.1 5 = .ok (.istore_n 3, 1) := by decide +kernel
theorem dX10_takes_6 : decode mX10_takes.2.2.1 6 = .ok (.iconst 5, 1) := by decide +kernel
theorem dX10_takes_7 : decode mX10_takes.2.2.1 7 = .ok (.iload_n 1, 1) := by decide +kernel
theorem dX10_takes_8 : decode mX10_takes.2.2.1 8 = .ok (.imul, 1) := by decide +kernel
theorem dX10_takes_9 : decode mX10_takes.2.2.1 9 = .ok (.iload_n 2, 1) := by decide +kernel
theorem dX10_takes_10 : decode mX10_takes.2.2.1 10 = .ok (.iadd, 1) := by decide +kernel
theorem dX10_takes_11 : decode mX10_takes.2.2.1 11 = .ok (.istore 4, 2) := by decide +kernel
theorem dX10_takes_13 : decode mX10_takes.2.2.1 13 = .ok (.aload_n 0, 1) := by decide +kernel
theorem dX10_takes_14 : decode mX10_takes.2.2.1 14 = .ok (.iload_n 3, 1) := by decide +kernel
theorem dX10_takes_15 : decode mX10_takes.2.2.1 15 = .ok (.iconst 0, 1) := by decide +kernel
theorem dX10_takes_16 : decode mX10_takes.2.2.1 16 = .ok (.invokevirtual 318, 3) := by decide +kernel
theorem dX10_takes_19 : decode mX10_takes.2.2.1 19 = .ok (.lstore 5, 2) := by decide +kernel
theorem dX10_takes_21 : decode mX10_takes.2.2.1 21 = .ok (.lload 5, 2) := by decide +kernel
theorem dX10_takes_23 : decode mX10_takes.2.2.1 23 = .ok (.ldc2_w 322, 3) := by decide +kernel
theorem dX10_takes_26 : decode mX10_takes.2.2.1 26 = .ok (.lcmp, 1) := by decide +kernel
theorem dX10_takes_27 : decode mX10_takes.2.2.1 27 = .ok (.ifCond .le 11, 3) := by decide +kernel
theorem dX10_takes_30 : decode mX10_takes.2.2.1 30 = .ok (.aload_n 0, 1) := by decide +kernel
theorem dX10_takes_31 : decode mX10_takes.2.2.1 31 = .ok (.iload_n 1, 1) := by decide +kernel
theorem dX10_takes_32 : decode mX10_takes.2.2.1 32 = .ok (.iload_n 2, 1) := by decide +kernel
theorem dX10_takes_33 : decode mX10_takes.2.2.1 33 = .ok (.iconst 2, 1) := by decide +kernel
theorem dX10_takes_34 : decode mX10_takes.2.2.1 34 = .ok (.invokevirtual 332, 3) := by decide +kernel
theorem dX10_takes_37 : decode mX10_takes.2.2.1 37 = .ok (.ireturn, 1) := by decide +kernel
theorem dX10_takes_38 : decode mX10_takes.2.2.1 38 = .ok (.aload_n 0, 1) := by decide +kernel
theorem dX10_takes_39 : decode mX10_takes.2.2.1 39 = .ok (.lload 5, 2) := by decide +kernel
theorem dX10_takes_41 : decode mX10_takes.2.2.1 41 = .ok (.l2i, 1) := by decide +kernel
theorem dX10_takes_42 : decode mX10_takes.2.2.1 42 = .ok (.putfield 329, 3) := by decide +kernel
theorem dX10_takes_45 : decode mX10_takes.2.2.1 45 = .ok (.iconst 0, 1) := by decide +kernel
theorem dX10_takes_46 : decode mX10_takes.2.2.1 46 = .ok (.istore 7, 2) := by decide +kernel
theorem dX10_takes_48 : decode mX10_takes.2.2.1 48 = .ok (.iload 7, 2) := by decide +kernel
theorem dX10_takes_50 : decode mX10_takes.2.2.1 50 = .ok (.aload_n 0, 1) := by decide +kernel
theorem dX10_takes_51 : decode mX10_takes.2.2.1 51 = .ok (.getfield 329, 3) := by decide +kernel
theorem dX10_takes_54 : decode mX10_takes.2.2.1 54 = .ok (.if_icmp .ge 31, 3) := by decide +kernel
theorem dX10_takes_57 : decode mX10_takes.2.2.1 57 = .ok (.aload_n 0, 1) := by decide +kernel
theorem dX10_takes_58 : decode mX10_takes.2.2.1 58 = .ok (.getfield 128, 3) := by decide +kernel
theorem dX10_takes_61 : decode mX10_takes.2.2.1 61 = .ok (.iload 7, 2) := by decide +kernel
theorem dX10_takes_63 : decode mX10_takes.2.2.1 63 = .ok (.aload_n 0, 1) := by decide +kernel
theorem dX10_takes_64 : decode mX10_takes.2.2.1 64 = .ok (.getfield 113, 3) := by decide +kernel
theorem dX10_takes_67 : decode mX10_takes.2.2.1 67 = .ok (.sipush 4200, 3) := by decide +kernel
theorem dX10_takes_70 : decode mX10_takes.2.2.1 70 = .ok (.iload_n 3, 1) := by decide +kernel
theorem dX10_takes_71 : decode mX10_takes.2.2.1 71 = .ok (.imul, 1) := by decide +kernel
theorem dX10_takes_72 : decode mX10_takes.2.2.1 72 = .ok (.iconst 4, 1) := by decide +kernel
theorem dX10_takes_73 : decode mX10_takes.2.2.1 73 = .ok (.iadd, 1) := by decide +kernel
theorem dX10_takes_74 : decode mX10_takes.2.2.1 74 = .ok (.iload 7, 2) := by decide +kernel
theorem dX10_takes_76 : decode mX10_takes.2.2.1 76 = .ok (.iadd, 1) := by decide +kernel
theorem dX10_takes_77 : decode mX10_takes.2.2.1 77 = .ok (.baload, 1) := by decide +kernel
theorem dX10_takes_78 : decode mX10_takes.2.2.1 78 = .ok (.bastore, 1) := by decide +kernel
theorem dX10_takes_79 : decode mX10_takes.2.2.1 79 = .ok (.iinc 7 1, 3) := by decide +kernel
theorem dX10_takes_82 : decode mX10_takes.2.2.1 82 = .ok (.goto (-34), 3) := by decide +kernel
theorem dX10_takes_85 : decode mX10_takes.2.2.1 85 = .ok (.aload_n 0, 1) := by decide +kernel
theorem dX10_takes_86 : decode mX10_takes.2.2.1 86 = .ok (.iload_n 3, 1) := by decide +kernel
theorem dX10_takes_87 : decode mX10_takes.2.2.1 87 = .ok (.iconst 4, 1) := by decide +kernel
theorem dX10_takes_88 : decode mX10_takes.2.2.1 88 = .ok (.aload_n 0, 1) := by decide +kernel
theorem dX10_takes_89 : decode mX10_takes.2.2.1 89 = .ok (.getfield 329, 3) := by decide +kernel
theorem dX10_takes_92 : decode mX10_takes.2.2.1 92 = .ok (.iadd, 1) := by decide +kernel
theorem dX10_takes_93 : decode mX10_takes.2.2.1 93 = .ok (.invokevirtual 326, 3) := by decide +kernel
theorem dX10_takes_96 : decode mX10_takes.2.2.1 96 = .ok (.aload_n 0, 1) := by decide +kernel
theorem dX10_takes_97 : decode mX10_takes.2.2.1 97 = .ok (.getfield 329, 3) := by decide +kernel
theorem dX10_takes_100 : decode mX10_takes.2.2.1 100 = .ok (.ifCond .ne 6, 3) := by decide +kernel
theorem dX10_takes_103 : decode mX10_takes.2.2.1 103 = .ok (.bipush 9, 2) := by decide +kernel
theorem dX10_takes_105 : decode mX10_takes.2.2.1 105 = .ok (.ireturn, 1) := by decide +kernel
theorem dX10_takes_106 : decode mX10_takes.2.2.1 106 = .ok (.aload_n 0, 1) := by decide +kernel
theorem dX10_takes_107 : decode mX10_takes.2.2.1 107 = .ok (.getfield 128, 3) := by decide +kernel
theorem dX10_takes_110 : decode mX10_takes.2.2.1 110 = .ok (.iconst 0, 1) := by decide +kernel
theorem dX10_takes_111 : decode mX10_takes.2.2.1 111 = .ok (.baload, 1) := by decide +kernel
theorem dX10_takes_112 : decode mX10_takes.2.2.1 112 = .ok (.sipush 255, 3) := by decide +kernel
theorem dX10_takes_115 : decode mX10_takes.2.2.1 115 = .ok (.iand, 1) := by decide +kernel
theorem dX10_takes_116 : decode mX10_takes.2.2.1 116 = .ok (.istore 7, 2) := by decide +kernel
theorem dX10_takes_118 : decode mX10_takes.2.2.1 118 = .ok (.aload_n 0, 1) := by decide +kernel
theorem dX10_takes_119 : decode mX10_takes.2.2.1 119 = .ok (.getfield 88, 3) := by decide +kernel
theorem dX10_takes_122 : decode mX10_takes.2.2.1 122 = .ok (.iload 4, 2) := by decide +kernel
theorem dX10_takes_124 : decode mX10_takes.2.2.1 124 = .ok (.baload, 1) := by decide +kernel
theorem dX10_takes_125 : decode mX10_takes.2.2.1 125 = .ok (.ifCond .ne 7, 3) := by decide +kernel
theorem dX10_takes_128 : decode mX10_takes.2.2.1 128 = .ok (.iconst 1, 1) := by decide +kernel
theorem dX10_takes_129 : decode mX10_takes.2.2.1 129 = .ok (.goto 4, 3) := by decide +kernel
theorem dX10_takes_132 : decode mX10_takes.2.2.1 132 = .ok (.iconst 0, 1) := by decide +kernel
theorem dX10_takes_133 : decode mX10_takes.2.2.1 133 = .ok (.istore 8, 2) := by decide +kernel
theorem dX10_takes_135 : decode mX10_takes.2.2.1 135 = .ok (.aload_n 0, 1) := by decide +kernel
theorem dX10_takes_136 : decode mX10_takes.2.2.1 136 = .ok (.getfield 88, 3) := by decide +kernel
theorem dX10_takes_139 : decode mX10_takes.2.2.1 139 = .ok (.iload 4, 2) := by decide +kernel
theorem dX10_takes_141 : decode mX10_takes.2.2.1 141 = .ok (.iconst 1, 1) := by decide +kernel
theorem dX10_takes_142 : decode mX10_takes.2.2.1 142 = .ok (.bastore, 1) := by decide +kernel
theorem dX10_takes_143 : decode mX10_takes.2.2.1 143 = .ok (.iload 7, 2) := by decide +kernel
theorem dX10_takes_145 : decode mX10_takes.2.2.1 145 = .ok (.bipush 8, 2) := by decide +kernel
theorem dX10_takes_147 : decode mX10_takes.2.2.1 147 = .ok (.if_icmp .le 6, 3) := by decide +kernel
theorem dX10_takes_150 : decode mX10_takes.2.2.1 150 = .ok (.bipush 11, 2) := by decide +kernel
theorem dX10_takes_152 : decode mX10_takes.2.2.1 152 = .ok (.ireturn, 1) := by decide +kernel
theorem dX10_takes_153 : decode mX10_takes.2.2.1 153 = .ok (.aload_n 0, 1) := by decide +kernel
theorem dX10_takes_154 : decode mX10_takes.2.2.1 154 = .ok (.iload 7, 2) := by decide +kernel
theorem dX10_takes_156 : decode mX10_takes.2.2.1 156 = .ok (.invokevirtual 335, 3) := by decide +kernel
theorem dX10_takes_159 : decode mX10_takes.2.2.1 159 = .ok (.ifCond .ne 11, 3) := by decide +kernel
theorem dX10_takes_162 : decode mX10_takes.2.2.1 162 = .ok (.aload_n 0, 1) := by decide +kernel
theorem dX10_takes_163 : decode mX10_takes.2.2.1 163 = .ok (.iload_n 1, 1) := by decide +kernel
theorem dX10_takes_164 : decode mX10_takes.2.2.1 164 = .ok (.iload_n 2, 1) := by decide +kernel
theorem dX10_takes_165 : decode mX10_takes.2.2.1 165 = .ok (.iconst 3, 1) := by decide +kernel
theorem dX10_takes_166 : decode mX10_takes.2.2.1 166 = .ok (.invokevirtual 332, 3) := by decide +kernel
theorem dX10_takes_169 : decode mX10_takes.2.2.1 169 = .ok (.ireturn, 1) := by decide +kernel
theorem dX10_takes_170 : decode mX10_takes.2.2.1 170 = .ok (.iload 7, 2) := by decide +kernel
theorem dX10_takes_172 : decode mX10_takes.2.2.1 172 = .ok (.tableswitch 182 0 7 #[48, 86, 96, 96, 117, 159, 168, 175], 48) := by decide +kernel
theorem dX10_takes_220 : decode mX10_takes.2.2.1 220 = .ok (.aload_n 0, 1) := by decide +kernel
theorem dX10_takes_221 : decode mX10_takes.2.2.1 221 = .ok (.getfield 94, 3) := by decide +kernel
theorem dX10_takes_224 : decode mX10_takes.2.2.1 224 = .ok (.iload 4, 2) := by decide +kernel
theorem dX10_takes_226 : decode mX10_takes.2.2.1 226 = .ok (.iconst 1, 1) := by decide +kernel
theorem dX10_takes_227 : decode mX10_takes.2.2.1 227 = .ok (.bastore, 1) := by decide +kernel
theorem dX10_takes_228 : decode mX10_takes.2.2.1 228 = .ok (.iconst 0, 1) := by decide +kernel
theorem dX10_takes_229 : decode mX10_takes.2.2.1 229 = .ok (.istore 9, 2) := by decide +kernel
theorem dX10_takes_231 : decode mX10_takes.2.2.1 231 = .ok (.iload 9, 2) := by decide +kernel
theorem dX10_takes_233 : decode mX10_takes.2.2.1 233 = .ok (.iconst 4, 1) := by decide +kernel
theorem dX10_takes_234 : decode mX10_takes.2.2.1 234 = .ok (.if_icmp .ge 22, 3) := by decide +kernel
theorem dX10_takes_237 : decode mX10_takes.2.2.1 237 = .ok (.aload_n 0, 1) := by decide +kernel
theorem dX10_takes_238 : decode mX10_takes.2.2.1 238 = .ok (.getfield 109, 3) := by decide +kernel
theorem dX10_takes_241 : decode mX10_takes.2.2.1 241 = .ok (.iconst 4, 1) := by decide +kernel
theorem dX10_takes_242 : decode mX10_takes.2.2.1 242 = .ok (.iload 4, 2) := by decide +kernel
theorem dX10_takes_244 : decode mX10_takes.2.2.1 244 = .ok (.imul, 1) := by decide +kernel
theorem dX10_takes_245 : decode mX10_takes.2.2.1 245 = .ok (.iload 9, 2) := by decide +kernel
theorem dX10_takes_247 : decode mX10_takes.2.2.1 247 = .ok (.iadd, 1) := by decide +kernel
theorem dX10_takes_248 : decode mX10_takes.2.2.1 248 = .ok (.iconst (-1), 1) := by decide +kernel
theorem dX10_takes_249 : decode mX10_takes.2.2.1 249 = .ok (.iastore, 1) := by decide +kernel
theorem dX10_takes_250 : decode mX10_takes.2.2.1 250 = .ok (.iinc 9 1, 3) := by decide +kernel
theorem dX10_takes_253 : decode mX10_takes.2.2.1 253 = .ok (.goto (-22), 3) := by decide +kernel
theorem dX10_takes_256 : decode mX10_takes.2.2.1 256 = .ok (.iconst 0, 1) := by decide +kernel
theorem dX10_takes_257 : decode mX10_takes.2.2.1 257 = .ok (.ireturn, 1) := by decide +kernel
theorem dX10_takes_258 : decode mX10_takes.2.2.1 258 = .ok (.aload_n 0, 1) := by decide +kernel
theorem dX10_takes_259 : decode mX10_takes.2.2.1 259 = .ok (.getfield 94, 3) := by decide +kernel
theorem dX10_takes_262 : decode mX10_takes.2.2.1 262 = .ok (.iload 4, 2) := by decide +kernel
theorem dX10_takes_264 : decode mX10_takes.2.2.1 264 = .ok (.iconst 0, 1) := by decide +kernel
theorem dX10_takes_265 : decode mX10_takes.2.2.1 265 = .ok (.bastore, 1) := by decide +kernel
theorem dX10_takes_266 : decode mX10_takes.2.2.1 266 = .ok (.iconst 1, 1) := by decide +kernel
theorem dX10_takes_267 : decode mX10_takes.2.2.1 267 = .ok (.ireturn, 1) := by decide +kernel
theorem dX10_takes_268 : decode mX10_takes.2.2.1 268 = .ok (.aload_n 0, 1) := by decide +kernel
theorem dX10_takes_269 : decode mX10_takes.2.2.1 269 = .ok (.getfield 100, 3) := by decide +kernel
theorem dX10_takes_272 : decode mX10_takes.2.2.1 272 = .ok (.iload 4, 2) := by decide +kernel
theorem dX10_takes_274 : decode mX10_takes.2.2.1 274 = .ok (.iload 7, 2) := by decide +kernel
theorem dX10_takes_276 : decode mX10_takes.2.2.1 276 = .ok (.iconst 2, 1) := by decide +kernel
theorem dX10_takes_277 : decode mX10_takes.2.2.1 277 = .ok (.if_icmp .ne 7, 3) := by decide +kernel
theorem dX10_takes_280 : decode mX10_takes.2.2.1 280 = .ok (.iconst 1, 1) := by decide +kernel
theorem dX10_takes_281 : decode mX10_takes.2.2.1 281 = .ok (.goto 4, 3) := by decide +kernel
theorem dX10_takes_284 : decode mX10_takes.2.2.1 284 = .ok (.iconst 0, 1) := by decide +kernel
theorem dX10_takes_285 : decode mX10_takes.2.2.1 285 = .ok (.bastore, 1) := by decide +kernel
theorem dX10_takes_286 : decode mX10_takes.2.2.1 286 = .ok (.iload 7, 2) := by decide +kernel
theorem dX10_takes_288 : decode mX10_takes.2.2.1 288 = .ok (.ireturn, 1) := by decide +kernel
theorem dX10_takes_289 : decode mX10_takes.2.2.1 289 = .ok (.aload_n 0, 1) := by decide +kernel
theorem dX10_takes_290 : decode mX10_takes.2.2.1 290 = .ok (.iconst 1, 1) := by decide +kernel
theorem dX10_takes_291 : decode mX10_takes.2.2.1 291 = .ok (.invokevirtual 338, 3) := by decide +kernel
theorem dX10_takes_294 : decode mX10_takes.2.2.1 294 = .ok (.aload_n 0, 1) := by decide +kernel
theorem dX10_takes_295 : decode mX10_takes.2.2.1 295 = .ok (.getfield 242, 3) := by decide +kernel
theorem dX10_takes_298 : decode mX10_takes.2.2.1 298 = .ok (.i2l, 1) := by decide +kernel
theorem dX10_takes_299 : decode mX10_takes.2.2.1 299 = .ok (.lcmp, 1) := by decide +kernel
theorem dX10_takes_300 : decode mX10_takes.2.2.1 300 = .ok (.ifCond .lt 11, 3) := by decide +kernel
theorem dX10_takes_303 : decode mX10_takes.2.2.1 303 = .ok (.aload_n 0, 1) := by decide +kernel
theorem dX10_takes_304 : decode mX10_takes.2.2.1 304 = .ok (.iload_n 1, 1) := by decide +kernel
theorem dX10_takes_305 : decode mX10_takes.2.2.1 305 = .ok (.iload_n 2, 1) := by decide +kernel
theorem dX10_takes_306 : decode mX10_takes.2.2.1 306 = .ok (.iconst 4, 1) := by decide +kernel
theorem dX10_takes_307 : decode mX10_takes.2.2.1 307 = .ok (.invokevirtual 332, 3) := by decide +kernel
theorem dX10_takes_310 : decode mX10_takes.2.2.1 310 = .ok (.ireturn, 1) := by decide +kernel
theorem dX10_takes_311 : decode mX10_takes.2.2.1 311 = .ok (.aload_n 0, 1) := by decide +kernel
theorem dX10_takes_312 : decode mX10_takes.2.2.1 312 = .ok (.getfield 103, 3) := by decide +kernel
theorem dX10_takes_315 : decode mX10_takes.2.2.1 315 = .ok (.bipush 64, 2) := by decide +kernel
theorem dX10_takes_317 : decode mX10_takes.2.2.1 317 = .ok (.iload 4, 2) := by decide +kernel
theorem dX10_takes_319 : decode mX10_takes.2.2.1 319 = .ok (.imul, 1) := by decide +kernel
theorem dX10_takes_320 : decode mX10_takes.2.2.1 320 = .ok (.aload_n 0, 1) := by decide +kernel
theorem dX10_takes_321 : decode mX10_takes.2.2.1 321 = .ok (.iconst 1, 1) := by decide +kernel
theorem dX10_takes_322 : decode mX10_takes.2.2.1 322 = .ok (.invokevirtual 338, 3) := by decide +kernel
theorem dX10_takes_325 : decode mX10_takes.2.2.1 325 = .ok (.l2i, 1) := by decide +kernel
theorem dX10_takes_326 : decode mX10_takes.2.2.1 326 = .ok (.iadd, 1) := by decide +kernel
theorem dX10_takes_327 : decode mX10_takes.2.2.1 327 = .ok (.iconst 1, 1) := by decide +kernel
theorem dX10_takes_328 : decode mX10_takes.2.2.1 328 = .ok (.bastore, 1) := by decide +kernel
theorem dX10_takes_329 : decode mX10_takes.2.2.1 329 = .ok (.iconst 4, 1) := by decide +kernel
theorem dX10_takes_330 : decode mX10_takes.2.2.1 330 = .ok (.ireturn, 1) := by decide +kernel
theorem dX10_takes_331 : decode mX10_takes.2.2.1 331 = .ok (.aload_n 0, 1) := by decide +kernel
theorem dX10_takes_332 : decode mX10_takes.2.2.1 332 = .ok (.iload_n 1, 1) := by decide +kernel
theorem dX10_takes_333 : decode mX10_takes.2.2.1 333 = .ok (.iload_n 2, 1) := by decide +kernel
theorem dX10_takes_334 : decode mX10_takes.2.2.1 334 = .ok (.iload 8, 2) := by decide +kernel
theorem dX10_takes_336 : decode mX10_takes.2.2.1 336 = .ok (.invokevirtual 342, 3) := by decide +kernel
theorem dX10_takes_339 : decode mX10_takes.2.2.1 339 = .ok (.ireturn, 1) := by decide +kernel
theorem dX10_takes_340 : decode mX10_takes.2.2.1 340 = .ok (.aload_n 0, 1) := by decide +kernel
theorem dX10_takes_341 : decode mX10_takes.2.2.1 341 = .ok (.iload_n 1, 1) := by decide +kernel
theorem dX10_takes_342 : decode mX10_takes.2.2.1 342 = .ok (.iload_n 2, 1) := by decide +kernel
theorem dX10_takes_343 : decode mX10_takes.2.2.1 343 = .ok (.invokevirtual 346, 3) := by decide +kernel
theorem dX10_takes_346 : decode mX10_takes.2.2.1 346 = .ok (.ireturn, 1) := by decide +kernel
theorem dX10_takes_347 : decode mX10_takes.2.2.1 347 = .ok (.aload_n 0, 1) := by decide +kernel
theorem dX10_takes_348 : decode mX10_takes.2.2.1 348 = .ok (.iload_n 1, 1) := by decide +kernel
theorem dX10_takes_349 : decode mX10_takes.2.2.1 349 = .ok (.iload_n 2, 1) := by decide +kernel
theorem dX10_takes_350 : decode mX10_takes.2.2.1 350 = .ok (.invokevirtual 349, 3) := by decide +kernel
theorem dX10_takes_353 : decode mX10_takes.2.2.1 353 = .ok (.ireturn, 1) := by decide +kernel
theorem dX10_takes_354 : decode mX10_takes.2.2.1 354 = .ok (.bipush 8, 2) := by decide +kernel
theorem dX10_takes_356 : decode mX10_takes.2.2.1 356 = .ok (.ireturn, 1) := by decide +kernel
theorem dX10_bits_0 : decode mX10_bits.2.2.1 0 = .ok (.iload_n 3, 1) := by decide +kernel
theorem dX10_bits_1 : decode mX10_bits.2.2.1 1 = .ok (.istore 4, 2) := by decide +kernel
theorem dX10_bits_3 : decode mX10_bits.2.2.1 3 = .ok (.bipush 8, 2) := by decide +kernel
theorem dX10_bits_5 : decode mX10_bits.2.2.1 5 = .ok (.istore 5, 2) := by decide +kernel
theorem dX10_bits_7 : decode mX10_bits.2.2.1 7 = .ok (.iload 5, 2) := by decide +kernel
theorem dX10_bits_9 : decode mX10_bits.2.2.1 9 = .ok (.bipush 8, 2) := by decide +kernel
theorem dX10_bits_11 : decode mX10_bits.2.2.1 11 = .ok (.aload_n 0, 1) := by decide +kernel
theorem dX10_bits_12 : decode mX10_bits.2.2.1 12 = .ok (.getfield 329, 3) := by decide +kernel
theorem dX10_bits_15 : decode mX10_bits.2.2.1 15 = .ok (.imul, 1) := by decide +kernel
theorem dX10_bits_16 : decode mX10_bits.2.2.1 16 = .ok (.if_icmp .ge 57, 3) := by decide +kernel
theorem dX10_bits_19 : decode mX10_bits.2.2.1 19 = .ok (.iload 4, 2) := by decide +kernel
theorem dX10_bits_21 : decode mX10_bits.2.2.1 21 = .ok (.ifCond .eq 43, 3) := by decide +kernel
theorem dX10_bits_24 : decode mX10_bits.2.2.1 24 = .ok (.iload 5, 2) := by decide +kernel
theorem dX10_bits_26 : decode mX10_bits.2.2.1 26 = .ok (.bipush 8, 2) := by decide +kernel
theorem dX10_bits_28 : decode mX10_bits.2.2.1 28 = .ok (.isub, 1) := by decide +kernel
theorem dX10_bits_29 : decode mX10_bits.2.2.1 29 = .ok (.aload_n 0, 1) := by decide +kernel
theorem dX10_bits_30 : decode mX10_bits.2.2.1 30 = .ok (.getfield 242, 3) := by decide +kernel
theorem dX10_bits_33 : decode mX10_bits.2.2.1 33 = .ok (.if_icmp .lt 27, 3) := by decide +kernel
theorem dX10_bits_36 : decode mX10_bits.2.2.1 36 = .ok (.aload_n 0, 1) := by decide +kernel
theorem dX10_bits_37 : decode mX10_bits.2.2.1 37 = .ok (.getfield 128, 3) := by decide +kernel
theorem dX10_bits_40 : decode mX10_bits.2.2.1 40 = .ok (.iload 5, 2) := by decide +kernel
theorem dX10_bits_42 : decode mX10_bits.2.2.1 42 = .ok (.bipush 8, 2) := by decide +kernel
theorem dX10_bits_44 : decode mX10_bits.2.2.1 44 = .ok (.idiv, 1) := by decide +kernel
theorem dX10_bits_45 : decode mX10_bits.2.2.1 45 = .ok (.baload, 1) := by decide +kernel
theorem dX10_bits_46 : decode mX10_bits.2.2.1 46 = .ok (.bipush 7, 2) := by decide +kernel
theorem dX10_bits_48 : decode mX10_bits.2.2.1 48 = .ok (.iload 5, 2) := by decide +kernel
theorem dX10_bits_50 : decode mX10_bits.2.2.1 50 = .ok (.bipush 8, 2) := by decide +kernel
theorem dX10_bits_52 : decode mX10_bits.2.2.1 52 = .ok (.irem, 1) := by decide +kernel
theorem dX10_bits_53 : decode mX10_bits.2.2.1 53 = .ok (.isub, 1) := by decide +kernel
theorem dX10_bits_54 : decode mX10_bits.2.2.1 54 = .ok (.ishr, 1) := by decide +kernel
theorem dX10_bits_55 : decode mX10_bits.2.2.1 55 = .ok (.iconst 1, 1) := by decide +kernel
theorem dX10_bits_56 : decode mX10_bits.2.2.1 56 = .ok (.iand, 1) := by decide +kernel
theorem dX10_bits_57 : decode mX10_bits.2.2.1 57 = .ok (.ifCond .ne 7, 3) := by decide +kernel
theorem dX10_bits_60 : decode mX10_bits.2.2.1 60 = .ok (.iconst 1, 1) := by decide +kernel
theorem dX10_bits_61 : decode mX10_bits.2.2.1 61 = .ok (.goto 4, 3) := by decide +kernel
theorem dX10_bits_64 : decode mX10_bits.2.2.1 64 = .ok (.iconst 0, 1) := by decide +kernel
theorem dX10_bits_65 : decode mX10_bits.2.2.1 65 = .ok (.istore 4, 2) := by decide +kernel
theorem dX10_bits_67 : decode mX10_bits.2.2.1 67 = .ok (.iinc 5 1, 3) := by decide +kernel
theorem dX10_bits_70 : decode mX10_bits.2.2.1 70 = .ok (.goto (-63), 3) := by decide +kernel
theorem dX10_bits_73 : decode mX10_bits.2.2.1 73 = .ok (.iload 4, 2) := by decide +kernel
theorem dX10_bits_75 : decode mX10_bits.2.2.1 75 = .ok (.ifCond .ne 11, 3) := by decide +kernel
theorem dX10_bits_78 : decode mX10_bits.2.2.1 78 = .ok (.aload_n 0, 1) := by decide +kernel
theorem dX10_bits_79 : decode mX10_bits.2.2.1 79 = .ok (.iload_n 1, 1) := by decide +kernel
theorem dX10_bits_80 : decode mX10_bits.2.2.1 80 = .ok (.iload_n 2, 1) := by decide +kernel
theorem dX10_bits_81 : decode mX10_bits.2.2.1 81 = .ok (.iconst 5, 1) := by decide +kernel
theorem dX10_bits_82 : decode mX10_bits.2.2.1 82 = .ok (.invokevirtual 332, 3) := by decide +kernel
theorem dX10_bits_85 : decode mX10_bits.2.2.1 85 = .ok (.ireturn, 1) := by decide +kernel
theorem dX10_bits_86 : decode mX10_bits.2.2.1 86 = .ok (.iconst 0, 1) := by decide +kernel
theorem dX10_bits_87 : decode mX10_bits.2.2.1 87 = .ok (.istore 5, 2) := by decide +kernel
theorem dX10_bits_89 : decode mX10_bits.2.2.1 89 = .ok (.iload 5, 2) := by decide +kernel
theorem dX10_bits_91 : decode mX10_bits.2.2.1 91 = .ok (.aload_n 0, 1) := by decide +kernel
theorem dX10_bits_92 : decode mX10_bits.2.2.1 92 = .ok (.getfield 242, 3) := by decide +kernel
theorem dX10_bits_95 : decode mX10_bits.2.2.1 95 = .ok (.if_icmp .ge 57, 3) := by decide +kernel
theorem dX10_bits_98 : decode mX10_bits.2.2.1 98 = .ok (.aload_n 0, 1) := by decide +kernel
theorem dX10_bits_99 : decode mX10_bits.2.2.1 99 = .ok (.getfield 103, 3) := by decide +kernel
theorem dX10_bits_102 : decode mX10_bits.2.2.1 102 = .ok (.bipush 64, 2) := by decide +kernel
theorem dX10_bits_104 : decode mX10_bits.2.2.1 104 = .ok (.iconst 5, 1) := by decide +kernel
theorem dX10_bits_105 : decode mX10_bits.2.2.1 105 = .ok (.iload_n 1, 1) := by decide +kernel
theorem dX10_bits_106 : decode mX10_bits.2.2.1 106 = .ok (.imul, 1) := by decide +kernel
theorem dX10_bits_107 : decode mX10_bits.2.2.1 107 = .ok (.iload_n 2, 1) := by decide +kernel
theorem dX10_bits_108 : decode mX10_bits.2.2.1 108 = .ok (.iadd, 1) := by decide +kernel
theorem dX10_bits_109 : decode mX10_bits.2.2.1 109 = .ok (.imul, 1) := by decide +kernel
theorem dX10_bits_110 : decode mX10_bits.2.2.1 110 = .ok (.iload 5, 2) := by decide +kernel
theorem dX10_bits_112 : decode mX10_bits.2.2.1 112 = .ok (.iadd, 1) := by decide +kernel
theorem dX10_bits_113 : decode mX10_bits.2.2.1 113 = .ok (.aload_n 0, 1) := by decide +kernel
theorem dX10_bits_114 : decode mX10_bits.2.2.1 114 = .ok (.getfield 128, 3) := by decide +kernel
theorem dX10_bits_117 : decode mX10_bits.2.2.1 117 = .ok (.iconst 1, 1) := by decide +kernel
theorem dX10_bits_118 : decode mX10_bits.2.2.1 118 = .ok (.iload 5, 2) := by decide +kernel
theorem dX10_bits_120 : decode mX10_bits.2.2.1 120 = .ok (.bipush 8, 2) := by decide +kernel
theorem dX10_bits_122 : decode mX10_bits.2.2.1 122 = .ok (.idiv, 1) := by decide +kernel
theorem dX10_bits_123 : decode mX10_bits.2.2.1 123 = .ok (.iadd, 1) := by decide +kernel
theorem dX10_bits_124 : decode mX10_bits.2.2.1 124 = .ok (.baload, 1) := by decide +kernel
theorem dX10_bits_125 : decode mX10_bits.2.2.1 125 = .ok (.bipush 7, 2) := by decide +kernel
theorem dX10_bits_127 : decode mX10_bits.2.2.1 127 = .ok (.iload 5, 2) := by decide +kernel
theorem dX10_bits_129 : decode mX10_bits.2.2.1 129 = .ok (.bipush 8, 2) := by decide +kernel
theorem dX10_bits_131 : decode mX10_bits.2.2.1 131 = .ok (.irem, 1) := by decide +kernel
theorem dX10_bits_132 : decode mX10_bits.2.2.1 132 = .ok (.isub, 1) := by decide +kernel
theorem dX10_bits_133 : decode mX10_bits.2.2.1 133 = .ok (.ishr, 1) := by decide +kernel
theorem dX10_bits_134 : decode mX10_bits.2.2.1 134 = .ok (.iconst 1, 1) := by decide +kernel
theorem dX10_bits_135 : decode mX10_bits.2.2.1 135 = .ok (.iand, 1) := by decide +kernel
theorem dX10_bits_136 : decode mX10_bits.2.2.1 136 = .ok (.iconst 1, 1) := by decide +kernel
theorem dX10_bits_137 : decode mX10_bits.2.2.1 137 = .ok (.if_icmp .ne 7, 3) := by decide +kernel
theorem dX10_bits_140 : decode mX10_bits.2.2.1 140 = .ok (.iconst 1, 1) := by decide +kernel
theorem dX10_bits_141 : decode mX10_bits.2.2.1 141 = .ok (.goto 4, 3) := by decide +kernel
theorem dX10_bits_144 : decode mX10_bits.2.2.1 144 = .ok (.iconst 0, 1) := by decide +kernel
theorem dX10_bits_145 : decode mX10_bits.2.2.1 145 = .ok (.bastore, 1) := by decide +kernel
theorem dX10_bits_146 : decode mX10_bits.2.2.1 146 = .ok (.iinc 5 1, 3) := by decide +kernel
theorem dX10_bits_149 : decode mX10_bits.2.2.1 149 = .ok (.goto (-60), 3) := by decide +kernel
theorem dX10_bits_152 : decode mX10_bits.2.2.1 152 = .ok (.iconst 5, 1) := by decide +kernel
theorem dX10_bits_153 : decode mX10_bits.2.2.1 153 = .ok (.ireturn, 1) := by decide +kernel
theorem dX10_requested_0 : decode mX10_requested.2.2.1 0 = .ok (.aload_n 0, 1) := by decide +kernel
theorem dX10_requested_1 : decode mX10_requested.2.2.1 1 = .ok (.iconst 1, 1) := by decide +kernel
theorem dX10_requested_2 : decode mX10_requested.2.2.1 2 = .ok (.invokevirtual 338, 3) := by decide +kernel
theorem dX10_requested_5 : decode mX10_requested.2.2.1 5 = .ok (.lstore_n 3, 1) := by decide +kernel
theorem dX10_requested_6 : decode mX10_requested.2.2.1 6 = .ok (.aload_n 0, 1) := by decide +kernel
theorem dX10_requested_7 : decode mX10_requested.2.2.1 7 = .ok (.iconst 5, 1) := by decide +kernel
theorem dX10_requested_8 : decode mX10_requested.2.2.1 8 = .ok (.invokevirtual 338, 3) := by decide +kernel
theorem dX10_requested_11 : decode mX10_requested.2.2.1 11 = .ok (.lstore 5, 2) := by decide +kernel
theorem dX10_requested_13 : decode mX10_requested.2.2.1 13 = .ok (.aload_n 0, 1) := by decide +kernel
theorem dX10_requested_14 : decode mX10_requested.2.2.1 14 = .ok (.bipush 9, 2) := by decide +kernel
theorem dX10_requested_16 : decode mX10_requested.2.2.1 16 = .ok (.invokevirtual 338, 3) := by decide +kernel
theorem dX10_requested_19 : decode mX10_requested.2.2.1 19 = .ok (.lstore 7, 2) := by decide +kernel
theorem dX10_requested_21 : decode mX10_requested.2.2.1 21 = .ok (.lload_n 3, 1) := by decide +kernel
theorem dX10_requested_22 : decode mX10_requested.2.2.1 22 = .ok (.aload_n 0, 1) := by decide +kernel
theorem dX10_requested_23 : decode mX10_requested.2.2.1 23 = .ok (.getfield 242, 3) := by decide +kernel
theorem dX10_requested_26 : decode mX10_requested.2.2.1 26 = .ok (.i2l, 1) := by decide +kernel
theorem dX10_requested_27 : decode mX10_requested.2.2.1 27 = .ok (.lcmp, 1) := by decide +kernel
theorem dX10_requested_28 : decode mX10_requested.2.2.1 28 = .ok (.ifCond .ge 35, 3) := by decide +kernel
theorem dX10_requested_31 : decode mX10_requested.2.2.1 31 = .ok (.lload 7, 2) := by decide +kernel
theorem dX10_requested_33 : decode mX10_requested.2.2.1 33 = .ok (.lconst 1, 1) := by decide +kernel
theorem dX10_requested_34 : decode mX10_requested.2.2.1 34 = .ok (.lcmp, 1) := by decide +kernel
theorem dX10_requested_35 : decode mX10_requested.2.2.1 35 = .ok (.ifCond .lt 28, 3) := by decide +kernel
theorem dX10_requested_38 : decode mX10_requested.2.2.1 38 = .ok (.lload 7, 2) := by decide +kernel
theorem dX10_requested_40 : decode mX10_requested.2.2.1 40 = .ok (.ldc2_w 352, 3) := by decide +kernel
theorem dX10_requested_43 : decode mX10_requested.2.2.1 43 = .ok (.lcmp, 1) := by decide +kernel
theorem dX10_requested_44 : decode mX10_requested.2.2.1 44 = .ok (.ifCond .gt 19, 3) := by decide +kernel
theorem dX10_requested_47 : decode mX10_requested.2.2.1 47 = .ok (.lload 5, 2) := by decide +kernel
theorem dX10_requested_49 : decode mX10_requested.2.2.1 49 = .ok (.lload 7, 2) := by decide +kernel
theorem dX10_requested_51 : decode mX10_requested.2.2.1 51 = .ok (.ladd, 1) := by decide +kernel
theorem dX10_requested_52 : decode mX10_requested.2.2.1 52 = .ok (.aload_n 0, 1) := by decide +kernel
theorem dX10_requested_53 : decode mX10_requested.2.2.1 53 = .ok (.lload_n 3, 1) := by decide +kernel
theorem dX10_requested_54 : decode mX10_requested.2.2.1 54 = .ok (.l2i, 1) := by decide +kernel
theorem dX10_requested_55 : decode mX10_requested.2.2.1 55 = .ok (.invokevirtual 278, 3) := by decide +kernel
theorem dX10_requested_58 : decode mX10_requested.2.2.1 58 = .ok (.i2l, 1) := by decide +kernel
theorem dX10_requested_59 : decode mX10_requested.2.2.1 59 = .ok (.lcmp, 1) := by decide +kernel
theorem dX10_requested_60 : decode mX10_requested.2.2.1 60 = .ok (.ifCond .le 12, 3) := by decide +kernel
theorem dX10_requested_63 : decode mX10_requested.2.2.1 63 = .ok (.aload_n 0, 1) := by decide +kernel
theorem dX10_requested_64 : decode mX10_requested.2.2.1 64 = .ok (.iload_n 1, 1) := by decide +kernel
theorem dX10_requested_65 : decode mX10_requested.2.2.1 65 = .ok (.iload_n 2, 1) := by decide +kernel
theorem dX10_requested_66 : decode mX10_requested.2.2.1 66 = .ok (.bipush 6, 2) := by decide +kernel
theorem dX10_requested_68 : decode mX10_requested.2.2.1 68 = .ok (.invokevirtual 332, 3) := by decide +kernel
theorem dX10_requested_71 : decode mX10_requested.2.2.1 71 = .ok (.ireturn, 1) := by decide +kernel
theorem dX10_requested_72 : decode mX10_requested.2.2.1 72 = .ok (.aload_n 0, 1) := by decide +kernel
theorem dX10_requested_73 : decode mX10_requested.2.2.1 73 = .ok (.getfield 91, 3) := by decide +kernel
theorem dX10_requested_76 : decode mX10_requested.2.2.1 76 = .ok (.iconst 5, 1) := by decide +kernel
theorem dX10_requested_77 : decode mX10_requested.2.2.1 77 = .ok (.iload_n 1, 1) := by decide +kernel
theorem dX10_requested_78 : decode mX10_requested.2.2.1 78 = .ok (.imul, 1) := by decide +kernel
theorem dX10_requested_79 : decode mX10_requested.2.2.1 79 = .ok (.iload_n 2, 1) := by decide +kernel
theorem dX10_requested_80 : decode mX10_requested.2.2.1 80 = .ok (.iadd, 1) := by decide +kernel
theorem dX10_requested_81 : decode mX10_requested.2.2.1 81 = .ok (.baload, 1) := by decide +kernel
theorem dX10_requested_82 : decode mX10_requested.2.2.1 82 = .ok (.ifCond .ne 18, 3) := by decide +kernel
theorem dX10_requested_85 : decode mX10_requested.2.2.1 85 = .ok (.aload_n 0, 1) := by decide +kernel
theorem dX10_requested_86 : decode mX10_requested.2.2.1 86 = .ok (.getfield 73, 3) := by decide +kernel
theorem dX10_requested_89 : decode mX10_requested.2.2.1 89 = .ok (.bipush 64, 2) := by decide +kernel
theorem dX10_requested_91 : decode mX10_requested.2.2.1 91 = .ok (.iload_n 1, 1) := by decide +kernel
theorem dX10_requested_92 : decode mX10_requested.2.2.1 92 = .ok (.imul, 1) := by decide +kernel
theorem dX10_requested_93 : decode mX10_requested.2.2.1 93 = .ok (.lload_n 3, 1) := by decide +kernel
theorem dX10_requested_94 : decode mX10_requested.2.2.1 94 = .ok (.l2i, 1) := by decide +kernel
theorem dX10_requested_95 : decode mX10_requested.2.2.1 95 = .ok (.iadd, 1) := by decide +kernel
theorem dX10_requested_96 : decode mX10_requested.2.2.1 96 = .ok (.baload, 1) := by decide +kernel
theorem dX10_requested_97 : decode mX10_requested.2.2.1 97 = .ok (.ifCond .ne 6, 3) := by decide +kernel
theorem dX10_requested_100 : decode mX10_requested.2.2.1 100 = .ok (.bipush 6, 2) := by decide +kernel
theorem dX10_requested_102 : decode mX10_requested.2.2.1 102 = .ok (.ireturn, 1) := by decide +kernel
theorem dX10_requested_103 : decode mX10_requested.2.2.1 103 = .ok (.aload_n 0, 1) := by decide +kernel
theorem dX10_requested_104 : decode mX10_requested.2.2.1 104 = .ok (.bipush 9, 2) := by decide +kernel
theorem dX10_requested_106 : decode mX10_requested.2.2.1 106 = .ok (.lload 7, 2) := by decide +kernel
theorem dX10_requested_108 : decode mX10_requested.2.2.1 108 = .ok (.l2i, 1) := by decide +kernel
theorem dX10_requested_109 : decode mX10_requested.2.2.1 109 = .ok (.iadd, 1) := by decide +kernel
theorem dX10_requested_110 : decode mX10_requested.2.2.1 110 = .ok (.invokevirtual 312, 3) := by decide +kernel
theorem dX10_requested_113 : decode mX10_requested.2.2.1 113 = .ok (.aload_n 0, 1) := by decide +kernel
theorem dX10_requested_114 : decode mX10_requested.2.2.1 114 = .ok (.bipush 7, 2) := by decide +kernel
theorem dX10_requested_116 : decode mX10_requested.2.2.1 116 = .ok (.invokevirtual 306, 3) := by decide +kernel
theorem dX10_requested_119 : decode mX10_requested.2.2.1 119 = .ok (.aload_n 0, 1) := by decide +kernel
theorem dX10_requested_120 : decode mX10_requested.2.2.1 120 = .ok (.lload_n 3, 1) := by decide +kernel
theorem dX10_requested_121 : decode mX10_requested.2.2.1 121 = .ok (.l2i, 1) := by decide +kernel
theorem dX10_requested_122 : decode mX10_requested.2.2.1 122 = .ok (.invokevirtual 312, 3) := by decide +kernel
theorem dX10_requested_125 : decode mX10_requested.2.2.1 125 = .ok (.aload_n 0, 1) := by decide +kernel
theorem dX10_requested_126 : decode mX10_requested.2.2.1 126 = .ok (.lload 5, 2) := by decide +kernel
theorem dX10_requested_128 : decode mX10_requested.2.2.1 128 = .ok (.l2i, 1) := by decide +kernel
theorem dX10_requested_129 : decode mX10_requested.2.2.1 129 = .ok (.invokevirtual 312, 3) := by decide +kernel
theorem dX10_requested_132 : decode mX10_requested.2.2.1 132 = .ok (.iconst 0, 1) := by decide +kernel
theorem dX10_requested_133 : decode mX10_requested.2.2.1 133 = .ok (.istore 9, 2) := by decide +kernel
theorem dX10_requested_135 : decode mX10_requested.2.2.1 135 = .ok (.iload 9, 2) := by decide +kernel
theorem dX10_requested_137 : decode mX10_requested.2.2.1 137 = .ok (.i2l, 1) := by decide +kernel
theorem dX10_requested_138 : decode mX10_requested.2.2.1 138 = .ok (.lload 7, 2) := by decide +kernel
theorem dX10_requested_140 : decode mX10_requested.2.2.1 140 = .ok (.lcmp, 1) := by decide +kernel
theorem dX10_requested_141 : decode mX10_requested.2.2.1 141 = .ok (.ifCond .ge 38, 3) := by decide +kernel
theorem dX10_requested_144 : decode mX10_requested.2.2.1 144 = .ok (.aload_n 0, 1) := by decide +kernel
theorem dX10_requested_145 : decode mX10_requested.2.2.1 145 = .ok (.aload_n 0, 1) := by decide +kernel
theorem dX10_requested_146 : decode mX10_requested.2.2.1 146 = .ok (.getfield 70, 3) := by decide +kernel
theorem dX10_requested_149 : decode mX10_requested.2.2.1 149 = .ok (.sipush 4096, 3) := by decide +kernel
theorem dX10_requested_152 : decode mX10_requested.2.2.1 152 = .ok (.iload_n 1, 1) := by decide +kernel
theorem dX10_requested_153 : decode mX10_requested.2.2.1 153 = .ok (.imul, 1) := by decide +kernel
theorem dX10_requested_154 : decode mX10_requested.2.2.1 154 = .ok (.lload_n 3, 1) := by decide +kernel
theorem dX10_requested_155 : decode mX10_requested.2.2.1 155 = .ok (.l2i, 1) := by decide +kernel
theorem dX10_requested_156 : decode mX10_requested.2.2.1 156 = .ok (.aload_n 0, 1) := by decide +kernel
theorem dX10_requested_157 : decode mX10_requested.2.2.1 157 = .ok (.getfield 239, 3) := by decide +kernel
theorem dX10_requested_160 : decode mX10_requested.2.2.1 160 = .ok (.imul, 1) := by decide +kernel
theorem dX10_requested_161 : decode mX10_requested.2.2.1 161 = .ok (.iadd, 1) := by decide +kernel
theorem dX10_requested_162 : decode mX10_requested.2.2.1 162 = .ok (.lload 5, 2) := by decide +kernel
theorem dX10_requested_164 : decode mX10_requested.2.2.1 164 = .ok (.l2i, 1) := by decide +kernel
theorem dX10_requested_165 : decode mX10_requested.2.2.1 165 = .ok (.iadd, 1) := by decide +kernel
theorem dX10_requested_166 : decode mX10_requested.2.2.1 166 = .ok (.iload 9, 2) := by decide +kernel
theorem dX10_requested_168 : decode mX10_requested.2.2.1 168 = .ok (.iadd, 1) := by decide +kernel
theorem dX10_requested_169 : decode mX10_requested.2.2.1 169 = .ok (.baload, 1) := by decide +kernel
theorem dX10_requested_170 : decode mX10_requested.2.2.1 170 = .ok (.invokevirtual 306, 3) := by decide +kernel
theorem dX10_requested_173 : decode mX10_requested.2.2.1 173 = .ok (.iinc 9 1, 3) := by decide +kernel
theorem dX10_requested_176 : decode mX10_requested.2.2.1 176 = .ok (.goto (-41), 3) := by decide +kernel
theorem dX10_requested_179 : decode mX10_requested.2.2.1 179 = .ok (.aload_n 0, 1) := by decide +kernel
theorem dX10_requested_180 : decode mX10_requested.2.2.1 180 = .ok (.getfield 79, 3) := by decide +kernel
theorem dX10_requested_183 : decode mX10_requested.2.2.1 183 = .ok (.iconst 5, 1) := by decide +kernel
theorem dX10_requested_184 : decode mX10_requested.2.2.1 184 = .ok (.iload_n 1, 1) := by decide +kernel
theorem dX10_requested_185 : decode mX10_requested.2.2.1 185 = .ok (.imul, 1) := by decide +kernel
theorem dX10_requested_186 : decode mX10_requested.2.2.1 186 = .ok (.iconst 2, 1) := by decide +kernel
theorem dX10_requested_187 : decode mX10_requested.2.2.1 187 = .ok (.iadd, 1) := by decide +kernel
theorem dX10_requested_188 : decode mX10_requested.2.2.1 188 = .ok (.dup2, 1) := by decide +kernel
theorem dX10_requested_189 : decode mX10_requested.2.2.1 189 = .ok (.iaload, 1) := by decide +kernel
theorem dX10_requested_190 : decode mX10_requested.2.2.1 190 = .ok (.iconst 1, 1) := by decide +kernel
theorem dX10_requested_191 : decode mX10_requested.2.2.1 191 = .ok (.iadd, 1) := by decide +kernel
theorem dX10_requested_192 : decode mX10_requested.2.2.1 192 = .ok (.iastore, 1) := by decide +kernel
theorem dX10_requested_193 : decode mX10_requested.2.2.1 193 = .ok (.aload_n 0, 1) := by decide +kernel
theorem dX10_requested_194 : decode mX10_requested.2.2.1 194 = .ok (.iload_n 1, 1) := by decide +kernel
theorem dX10_requested_195 : decode mX10_requested.2.2.1 195 = .ok (.iload_n 2, 1) := by decide +kernel
theorem dX10_requested_196 : decode mX10_requested.2.2.1 196 = .ok (.invokevirtual 309, 3) := by decide +kernel
theorem dX10_requested_199 : decode mX10_requested.2.2.1 199 = .ok (.bipush 6, 2) := by decide +kernel
theorem dX10_requested_201 : decode mX10_requested.2.2.1 201 = .ok (.ireturn, 1) := by decide +kernel
theorem dX10_given_0 : decode mX10_given.2.2.1 0 = .ok (.iconst 5, 1) := by decide +kernel
theorem dX10_given_1 : decode mX10_given.2.2.1 1 = .ok (.iload_n 1, 1) := by decide +kernel
theorem dX10_given_2 : decode mX10_given.2.2.1 2 = .ok (.imul, 1) := by decide +kernel
theorem dX10_given_3 : decode mX10_given.2.2.1 3 = .ok (.iload_n 2, 1) := by decide +kernel
theorem dX10_given_4 : decode mX10_given.2.2.1 4 = .ok (.iadd, 1) := by decide +kernel
theorem dX10_given_5 : decode mX10_given.2.2.1 5 = .ok (.istore_n 3, 1) := by decide +kernel
theorem dX10_given_6 : decode mX10_given.2.2.1 6 = .ok (.aload_n 0, 1) := by decide +kernel
theorem dX10_given_7 : decode mX10_given.2.2.1 7 = .ok (.getfield 329, 3) := by decide +kernel
theorem dX10_given_10 : decode mX10_given.2.2.1 10 = .ok (.bipush 9, 2) := by decide +kernel
theorem dX10_given_12 : decode mX10_given.2.2.1 12 = .ok (.isub, 1) := by decide +kernel
theorem dX10_given_13 : decode mX10_given.2.2.1 13 = .ok (.istore 4, 2) := by decide +kernel
theorem dX10_given_15 : decode mX10_given.2.2.1 15 = .ok (.iconst (-1), 1) := by decide +kernel
theorem dX10_given_16 : decode mX10_given.2.2.1 16 = .ok (.istore 5, 2) := by decide +kernel
theorem dX10_given_18 : decode mX10_given.2.2.1 18 = .ok (.iconst 0, 1) := by decide +kernel
theorem dX10_given_19 : decode mX10_given.2.2.1 19 = .ok (.istore 6, 2) := by decide +kernel
theorem dX10_given_21 : decode mX10_given.2.2.1 21 = .ok (.iload 6, 2) := by decide +kernel
theorem dX10_given_23 : decode mX10_given.2.2.1 23 = .ok (.iconst 4, 1) := by decide +kernel
theorem dX10_given_24 : decode mX10_given.2.2.1 24 = .ok (.if_icmp .ge 84, 3) := by decide +kernel
theorem dX10_given_27 : decode mX10_given.2.2.1 27 = .ok (.aload_n 0, 1) := by decide +kernel
theorem dX10_given_28 : decode mX10_given.2.2.1 28 = .ok (.getfield 109, 3) := by decide +kernel
theorem dX10_given_31 : decode mX10_given.2.2.1 31 = .ok (.iconst 4, 1) := by decide +kernel
theorem dX10_given_32 : decode mX10_given.2.2.1 32 = .ok (.iload_n 3, 1) := by decide +kernel
theorem dX10_given_33 : decode mX10_given.2.2.1 33 = .ok (.imul, 1) := by decide +kernel
theorem dX10_given_34 : decode mX10_given.2.2.1 34 = .ok (.iload 6, 2) := by decide +kernel
theorem dX10_given_36 : decode mX10_given.2.2.1 36 = .ok (.iadd, 1) := by decide +kernel
theorem dX10_given_37 : decode mX10_given.2.2.1 37 = .ok (.iaload, 1) := by decide +kernel
theorem dX10_given_38 : decode mX10_given.2.2.1 38 = .ok (.istore 7, 2) := by decide +kernel
theorem dX10_given_40 : decode mX10_given.2.2.1 40 = .ok (.iload 7, 2) := by decide +kernel
theorem dX10_given_42 : decode mX10_given.2.2.1 42 = .ok (.ifCond .lt 60, 3) := by decide +kernel
theorem dX10_given_45 : decode mX10_given.2.2.1 45 = .ok (.iload 7, 2) := by decide +kernel
theorem dX10_given_47 : decode mX10_given.2.2.1 47 = .ok (.bipush 16, 2) := by decide +kernel
theorem dX10_given_49 : decode mX10_given.2.2.1 49 = .ok (.idiv, 1) := by decide +kernel
theorem dX10_given_50 : decode mX10_given.2.2.1 50 = .ok (.i2l, 1) := by decide +kernel
theorem dX10_given_51 : decode mX10_given.2.2.1 51 = .ok (.aload_n 0, 1) := by decide +kernel
theorem dX10_given_52 : decode mX10_given.2.2.1 52 = .ok (.iconst 1, 1) := by decide +kernel
theorem dX10_given_53 : decode mX10_given.2.2.1 53 = .ok (.invokevirtual 338, 3) := by decide +kernel
theorem dX10_given_56 : decode mX10_given.2.2.1 56 = .ok (.lcmp, 1) := by decide +kernel
theorem dX10_given_57 : decode mX10_given.2.2.1 57 = .ok (.ifCond .ne 45, 3) := by decide +kernel
theorem dX10_given_60 : decode mX10_given.2.2.1 60 = .ok (.ldc2_w 352, 3) := by decide +kernel
theorem dX10_given_63 : decode mX10_given.2.2.1 63 = .ok (.iload 7, 2) := by decide +kernel
theorem dX10_given_65 : decode mX10_given.2.2.1 65 = .ok (.bipush 16, 2) := by decide +kernel
theorem dX10_given_67 : decode mX10_given.2.2.1 67 = .ok (.irem, 1) := by decide +kernel
theorem dX10_given_68 : decode mX10_given.2.2.1 68 = .ok (.i2l, 1) := by decide +kernel
theorem dX10_given_69 : decode mX10_given.2.2.1 69 = .ok (.lmul, 1) := by decide +kernel
theorem dX10_given_70 : decode mX10_given.2.2.1 70 = .ok (.aload_n 0, 1) := by decide +kernel
theorem dX10_given_71 : decode mX10_given.2.2.1 71 = .ok (.iconst 5, 1) := by decide +kernel
theorem dX10_given_72 : decode mX10_given.2.2.1 72 = .ok (.invokevirtual 338, 3) := by decide +kernel
theorem dX10_given_75 : decode mX10_given.2.2.1 75 = .ok (.lcmp, 1) := by decide +kernel
theorem dX10_given_76 : decode mX10_given.2.2.1 76 = .ok (.ifCond .ne 26, 3) := by decide +kernel
theorem dX10_given_79 : decode mX10_given.2.2.1 79 = .ok (.aload_n 0, 1) := by decide +kernel
theorem dX10_given_80 : decode mX10_given.2.2.1 80 = .ok (.iload 7, 2) := by decide +kernel
theorem dX10_given_82 : decode mX10_given.2.2.1 82 = .ok (.bipush 16, 2) := by decide +kernel
theorem dX10_given_84 : decode mX10_given.2.2.1 84 = .ok (.idiv, 1) := by decide +kernel
theorem dX10_given_85 : decode mX10_given.2.2.1 85 = .ok (.iload 7, 2) := by decide +kernel
theorem dX10_given_87 : decode mX10_given.2.2.1 87 = .ok (.bipush 16, 2) := by decide +kernel
theorem dX10_given_89 : decode mX10_given.2.2.1 89 = .ok (.irem, 1) := by decide +kernel
theorem dX10_given_90 : decode mX10_given.2.2.1 90 = .ok (.invokevirtual 354, 3) := by decide +kernel
theorem dX10_given_93 : decode mX10_given.2.2.1 93 = .ok (.iload 4, 2) := by decide +kernel
theorem dX10_given_95 : decode mX10_given.2.2.1 95 = .ok (.if_icmp .ne 7, 3) := by decide +kernel
theorem dX10_given_98 : decode mX10_given.2.2.1 98 = .ok (.iload 6, 2) := by decide +kernel
theorem dX10_given_100 : decode mX10_given.2.2.1 100 = .ok (.istore 5, 2) := by decide +kernel
theorem dX10_given_102 : decode mX10_given.2.2.1 102 = .ok (.iinc 6 1, 3) := by decide +kernel
theorem dX10_given_105 : decode mX10_given.2.2.1 105 = .ok (.goto (-84), 3) := by decide +kernel
theorem dX10_given_108 : decode mX10_given.2.2.1 108 = .ok (.iload 5, 2) := by decide +kernel
theorem dX10_given_110 : decode mX10_given.2.2.1 110 = .ok (.ifCond .ge 20, 3) := by decide +kernel
theorem dX10_given_113 : decode mX10_given.2.2.1 113 = .ok (.aload_n 0, 1) := by decide +kernel
theorem dX10_given_114 : decode mX10_given.2.2.1 114 = .ok (.getfield 79, 3) := by decide +kernel
theorem dX10_given_117 : decode mX10_given.2.2.1 117 = .ok (.iconst 5, 1) := by decide +kernel
theorem dX10_given_118 : decode mX10_given.2.2.1 118 = .ok (.iload_n 1, 1) := by decide +kernel
theorem dX10_given_119 : decode mX10_given.2.2.1 119 = .ok (.imul, 1) := by decide +kernel
theorem dX10_given_120 : decode mX10_given.2.2.1 120 = .ok (.iconst 4, 1) := by decide +kernel
theorem dX10_given_121 : decode mX10_given.2.2.1 121 = .ok (.iadd, 1) := by decide +kernel
theorem dX10_given_122 : decode mX10_given.2.2.1 122 = .ok (.dup2, 1) := by decide +kernel
theorem dX10_given_123 : decode mX10_given.2.2.1 123 = .ok (.iaload, 1) := by decide +kernel
theorem dX10_given_124 : decode mX10_given.2.2.1 124 = .ok (.iconst 1, 1) := by decide +kernel
theorem dX10_given_125 : decode mX10_given.2.2.1 125 = .ok (.iadd, 1) := by decide +kernel
theorem dX10_given_126 : decode mX10_given.2.2.1 126 = .ok (.iastore, 1) := by decide +kernel
theorem dX10_given_127 : decode mX10_given.2.2.1 127 = .ok (.bipush 7, 2) := by decide +kernel
theorem dX10_given_129 : decode mX10_given.2.2.1 129 = .ok (.ireturn, 1) := by decide +kernel
theorem dX10_given_130 : decode mX10_given.2.2.1 130 = .ok (.aload_n 0, 1) := by decide +kernel
theorem dX10_given_131 : decode mX10_given.2.2.1 131 = .ok (.getfield 109, 3) := by decide +kernel
theorem dX10_given_134 : decode mX10_given.2.2.1 134 = .ok (.iconst 4, 1) := by decide +kernel
theorem dX10_given_135 : decode mX10_given.2.2.1 135 = .ok (.iload_n 3, 1) := by decide +kernel
theorem dX10_given_136 : decode mX10_given.2.2.1 136 = .ok (.imul, 1) := by decide +kernel
theorem dX10_given_137 : decode mX10_given.2.2.1 137 = .ok (.iload 5, 2) := by decide +kernel
theorem dX10_given_139 : decode mX10_given.2.2.1 139 = .ok (.iadd, 1) := by decide +kernel
theorem dX10_given_140 : decode mX10_given.2.2.1 140 = .ok (.iaload, 1) := by decide +kernel
theorem dX10_given_141 : decode mX10_given.2.2.1 141 = .ok (.istore 6, 2) := by decide +kernel
theorem dX10_given_143 : decode mX10_given.2.2.1 143 = .ok (.iload 6, 2) := by decide +kernel
theorem dX10_given_145 : decode mX10_given.2.2.1 145 = .ok (.bipush 16, 2) := by decide +kernel
theorem dX10_given_147 : decode mX10_given.2.2.1 147 = .ok (.idiv, 1) := by decide +kernel
theorem dX10_given_148 : decode mX10_given.2.2.1 148 = .ok (.istore 7, 2) := by decide +kernel
theorem dX10_given_150 : decode mX10_given.2.2.1 150 = .ok (.aload_n 0, 1) := by decide +kernel
theorem dX10_given_151 : decode mX10_given.2.2.1 151 = .ok (.getfield 109, 3) := by decide +kernel
theorem dX10_given_154 : decode mX10_given.2.2.1 154 = .ok (.iconst 4, 1) := by decide +kernel
theorem dX10_given_155 : decode mX10_given.2.2.1 155 = .ok (.iload_n 3, 1) := by decide +kernel
theorem dX10_given_156 : decode mX10_given.2.2.1 156 = .ok (.imul, 1) := by decide +kernel
theorem dX10_given_157 : decode mX10_given.2.2.1 157 = .ok (.iload 5, 2) := by decide +kernel
theorem dX10_given_159 : decode mX10_given.2.2.1 159 = .ok (.iadd, 1) := by decide +kernel
theorem dX10_given_160 : decode mX10_given.2.2.1 160 = .ok (.iconst (-1), 1) := by decide +kernel
theorem dX10_given_161 : decode mX10_given.2.2.1 161 = .ok (.iastore, 1) := by decide +kernel
theorem dX10_given_162 : decode mX10_given.2.2.1 162 = .ok (.iconst 0, 1) := by decide +kernel
theorem dX10_given_163 : decode mX10_given.2.2.1 163 = .ok (.istore 8, 2) := by decide +kernel
theorem dX10_given_165 : decode mX10_given.2.2.1 165 = .ok (.iload 8, 2) := by decide +kernel
theorem dX10_given_167 : decode mX10_given.2.2.1 167 = .ok (.iload 4, 2) := by decide +kernel
theorem dX10_given_169 : decode mX10_given.2.2.1 169 = .ok (.if_icmp .ge 49, 3) := by decide +kernel
theorem dX10_given_172 : decode mX10_given.2.2.1 172 = .ok (.aload_n 0, 1) := by decide +kernel
theorem dX10_given_173 : decode mX10_given.2.2.1 173 = .ok (.getfield 70, 3) := by decide +kernel
theorem dX10_given_176 : decode mX10_given.2.2.1 176 = .ok (.sipush 4096, 3) := by decide +kernel
theorem dX10_given_179 : decode mX10_given.2.2.1 179 = .ok (.iload_n 1, 1) := by decide +kernel
theorem dX10_given_180 : decode mX10_given.2.2.1 180 = .ok (.imul, 1) := by decide +kernel
theorem dX10_given_181 : decode mX10_given.2.2.1 181 = .ok (.iload 7, 2) := by decide +kernel
theorem dX10_given_183 : decode mX10_given.2.2.1 183 = .ok (.aload_n 0, 1) := by decide +kernel
theorem dX10_given_184 : decode mX10_given.2.2.1 184 = .ok (.getfield 239, 3) := by decide +kernel
theorem dX10_given_187 : decode mX10_given.2.2.1 187 = .ok (.imul, 1) := by decide +kernel
theorem dX10_given_188 : decode mX10_given.2.2.1 188 = .ok (.iadd, 1) := by decide +kernel
theorem dX10_given_189 : decode mX10_given.2.2.1 189 = .ok (.bipush 64, 2) := by decide +kernel
theorem dX10_given_191 : decode mX10_given.2.2.1 191 = .ok (.iload 6, 2) := by decide +kernel
theorem dX10_given_193 : decode mX10_given.2.2.1 193 = .ok (.bipush 16, 2) := by decide +kernel
theorem dX10_given_195 : decode mX10_given.2.2.1 195 = .ok (.irem, 1) := by decide +kernel
theorem dX10_given_196 : decode mX10_given.2.2.1 196 = .ok (.imul, 1) := by decide +kernel
theorem dX10_given_197 : decode mX10_given.2.2.1 197 = .ok (.iadd, 1) := by decide +kernel
theorem dX10_given_198 : decode mX10_given.2.2.1 198 = .ok (.iload 8, 2) := by decide +kernel
theorem dX10_given_200 : decode mX10_given.2.2.1 200 = .ok (.iadd, 1) := by decide +kernel
theorem dX10_given_201 : decode mX10_given.2.2.1 201 = .ok (.aload_n 0, 1) := by decide +kernel
theorem dX10_given_202 : decode mX10_given.2.2.1 202 = .ok (.getfield 128, 3) := by decide +kernel
theorem dX10_given_205 : decode mX10_given.2.2.1 205 = .ok (.bipush 9, 2) := by decide +kernel
theorem dX10_given_207 : decode mX10_given.2.2.1 207 = .ok (.iload 8, 2) := by decide +kernel
theorem dX10_given_209 : decode mX10_given.2.2.1 209 = .ok (.iadd, 1) := by decide +kernel
theorem dX10_given_210 : decode mX10_given.2.2.1 210 = .ok (.baload, 1) := by decide +kernel
theorem dX10_given_211 : decode mX10_given.2.2.1 211 = .ok (.bastore, 1) := by decide +kernel
theorem dX10_given_212 : decode mX10_given.2.2.1 212 = .ok (.iinc 8 1, 3) := by decide +kernel
theorem dX10_given_215 : decode mX10_given.2.2.1 215 = .ok (.goto (-50), 3) := by decide +kernel
theorem dX10_given_218 : decode mX10_given.2.2.1 218 = .ok (.aload_n 0, 1) := by decide +kernel
theorem dX10_given_219 : decode mX10_given.2.2.1 219 = .ok (.getfield 76, 3) := by decide +kernel
theorem dX10_given_222 : decode mX10_given.2.2.1 222 = .ok (.sipush 1024, 3) := by decide +kernel
theorem dX10_given_225 : decode mX10_given.2.2.1 225 = .ok (.iload_n 1, 1) := by decide +kernel
theorem dX10_given_226 : decode mX10_given.2.2.1 226 = .ok (.imul, 1) := by decide +kernel
theorem dX10_given_227 : decode mX10_given.2.2.1 227 = .ok (.iload 6, 2) := by decide +kernel
theorem dX10_given_229 : decode mX10_given.2.2.1 229 = .ok (.iadd, 1) := by decide +kernel
theorem dX10_given_230 : decode mX10_given.2.2.1 230 = .ok (.iconst 1, 1) := by decide +kernel
theorem dX10_given_231 : decode mX10_given.2.2.1 231 = .ok (.bastore, 1) := by decide +kernel
theorem dX10_given_232 : decode mX10_given.2.2.1 232 = .ok (.aload_n 0, 1) := by decide +kernel
theorem dX10_given_233 : decode mX10_given.2.2.1 233 = .ok (.getfield 79, 3) := by decide +kernel
theorem dX10_given_236 : decode mX10_given.2.2.1 236 = .ok (.iconst 5, 1) := by decide +kernel
theorem dX10_given_237 : decode mX10_given.2.2.1 237 = .ok (.iload_n 1, 1) := by decide +kernel
theorem dX10_given_238 : decode mX10_given.2.2.1 238 = .ok (.imul, 1) := by decide +kernel
theorem dX10_given_239 : decode mX10_given.2.2.1 239 = .ok (.iconst 1, 1) := by decide +kernel
theorem dX10_given_240 : decode mX10_given.2.2.1 240 = .ok (.iadd, 1) := by decide +kernel
theorem dX10_given_241 : decode mX10_given.2.2.1 241 = .ok (.dup2, 1) := by decide +kernel
theorem dX10_given_242 : decode mX10_given.2.2.1 242 = .ok (.iaload, 1) := by decide +kernel
theorem dX10_given_243 : decode mX10_given.2.2.1 243 = .ok (.iconst 1, 1) := by decide +kernel
theorem dX10_given_244 : decode mX10_given.2.2.1 244 = .ok (.iadd, 1) := by decide +kernel
theorem dX10_given_245 : decode mX10_given.2.2.1 245 = .ok (.iastore, 1) := by decide +kernel
theorem dX10_given_246 : decode mX10_given.2.2.1 246 = .ok (.iconst 1, 1) := by decide +kernel
theorem dX10_given_247 : decode mX10_given.2.2.1 247 = .ok (.istore 8, 2) := by decide +kernel
theorem dX10_given_249 : decode mX10_given.2.2.1 249 = .ok (.iconst 0, 1) := by decide +kernel
theorem dX10_given_250 : decode mX10_given.2.2.1 250 = .ok (.istore 9, 2) := by decide +kernel
theorem dX10_given_252 : decode mX10_given.2.2.1 252 = .ok (.iload 9, 2) := by decide +kernel
theorem dX10_given_254 : decode mX10_given.2.2.1 254 = .ok (.aload_n 0, 1) := by decide +kernel
theorem dX10_given_255 : decode mX10_given.2.2.1 255 = .ok (.iload 7, 2) := by decide +kernel
theorem dX10_given_257 : decode mX10_given.2.2.1 257 = .ok (.invokevirtual 357, 3) := by decide +kernel
theorem dX10_given_260 : decode mX10_given.2.2.1 260 = .ok (.if_icmp .ge 43, 3) := by decide +kernel
theorem dX10_given_263 : decode mX10_given.2.2.1 263 = .ok (.iload 8, 2) := by decide +kernel
theorem dX10_given_265 : decode mX10_given.2.2.1 265 = .ok (.ifCond .eq 29, 3) := by decide +kernel
theorem dX10_given_268 : decode mX10_given.2.2.1 268 = .ok (.aload_n 0, 1) := by decide +kernel
theorem dX10_given_269 : decode mX10_given.2.2.1 269 = .ok (.getfield 76, 3) := by decide +kernel
theorem dX10_given_272 : decode mX10_given.2.2.1 272 = .ok (.sipush 1024, 3) := by decide +kernel
theorem dX10_given_275 : decode mX10_given.2.2.1 275 = .ok (.iload_n 1, 1) := by decide +kernel
theorem dX10_given_276 : decode mX10_given.2.2.1 276 = .ok (.imul, 1) := by decide +kernel
theorem dX10_given_277 : decode mX10_given.2.2.1 277 = .ok (.bipush 16, 2) := by decide +kernel
theorem dX10_given_279 : decode mX10_given.2.2.1 279 = .ok (.iload 7, 2) := by decide +kernel
theorem dX10_given_281 : decode mX10_given.2.2.1 281 = .ok (.imul, 1) := by decide +kernel
theorem dX10_given_282 : decode mX10_given.2.2.1 282 = .ok (.iadd, 1) := by decide +kernel
theorem dX10_given_283 : decode mX10_given.2.2.1 283 = .ok (.iload 9, 2) := by decide +kernel
theorem dX10_given_285 : decode mX10_given.2.2.1 285 = .ok (.iadd, 1) := by decide +kernel
theorem dX10_given_286 : decode mX10_given.2.2.1 286 = .ok (.baload, 1) := by decide +kernel
theorem dX10_given_287 : decode mX10_given.2.2.1 287 = .ok (.ifCond .eq 7, 3) := by decide +kernel
theorem dX10_given_290 : decode mX10_given.2.2.1 290 = .ok (.iconst 1, 1) := by decide +kernel
theorem dX10_given_291 : decode mX10_given.2.2.1 291 = .ok (.goto 4, 3) := by decide +kernel
theorem dX10_given_294 : decode mX10_given.2.2.1 294 = .ok (.iconst 0, 1) := by decide +kernel
theorem dX10_given_295 : decode mX10_given.2.2.1 295 = .ok (.istore 8, 2) := by decide +kernel
theorem dX10_given_297 : decode mX10_given.2.2.1 297 = .ok (.iinc 9 1, 3) := by decide +kernel
theorem dX10_given_300 : decode mX10_given.2.2.1 300 = .ok (.goto (-48), 3) := by decide +kernel
theorem dX10_given_303 : decode mX10_given.2.2.1 303 = .ok (.iload 8, 2) := by decide +kernel
theorem dX10_given_305 : decode mX10_given.2.2.1 305 = .ok (.ifCond .ne 6, 3) := by decide +kernel
theorem dX10_given_308 : decode mX10_given.2.2.1 308 = .ok (.bipush 7, 2) := by decide +kernel
theorem dX10_given_310 : decode mX10_given.2.2.1 310 = .ok (.ireturn, 1) := by decide +kernel
theorem dX10_given_311 : decode mX10_given.2.2.1 311 = .ok (.aload_n 0, 1) := by decide +kernel
theorem dX10_given_312 : decode mX10_given.2.2.1 312 = .ok (.iload 7, 2) := by decide +kernel
theorem dX10_given_314 : decode mX10_given.2.2.1 314 = .ok (.sipush 4096, 3) := by decide +kernel
theorem dX10_given_317 : decode mX10_given.2.2.1 317 = .ok (.iload_n 1, 1) := by decide +kernel
theorem dX10_given_318 : decode mX10_given.2.2.1 318 = .ok (.imul, 1) := by decide +kernel
theorem dX10_given_319 : decode mX10_given.2.2.1 319 = .ok (.invokevirtual 360, 3) := by decide +kernel
theorem dX10_given_322 : decode mX10_given.2.2.1 322 = .ok (.iconst 1, 1) := by decide +kernel
theorem dX10_given_323 : decode mX10_given.2.2.1 323 = .ok (.istore 9, 2) := by decide +kernel
theorem dX10_given_325 : decode mX10_given.2.2.1 325 = .ok (.iconst 0, 1) := by decide +kernel
theorem dX10_given_326 : decode mX10_given.2.2.1 326 = .ok (.istore 10, 2) := by decide +kernel
theorem dX10_given_328 : decode mX10_given.2.2.1 328 = .ok (.iload 10, 2) := by decide +kernel
theorem dX10_given_330 : decode mX10_given.2.2.1 330 = .ok (.bipush 20, 2) := by decide +kernel
theorem dX10_given_332 : decode mX10_given.2.2.1 332 = .ok (.if_icmp .ge 44, 3) := by decide +kernel
theorem dX10_given_335 : decode mX10_given.2.2.1 335 = .ok (.iload 9, 2) := by decide +kernel
theorem dX10_given_337 : decode mX10_given.2.2.1 337 = .ok (.ifCond .eq 30, 3) := by decide +kernel
theorem dX10_given_340 : decode mX10_given.2.2.1 340 = .ok (.aload_n 0, 1) := by decide +kernel
theorem dX10_given_341 : decode mX10_given.2.2.1 341 = .ok (.getfield 26, 3) := by decide +kernel
theorem dX10_given_344 : decode mX10_given.2.2.1 344 = .ok (.iload 10, 2) := by decide +kernel
theorem dX10_given_346 : decode mX10_given.2.2.1 346 = .ok (.baload, 1) := by decide +kernel
theorem dX10_given_347 : decode mX10_given.2.2.1 347 = .ok (.aload_n 0, 1) := by decide +kernel
theorem dX10_given_348 : decode mX10_given.2.2.1 348 = .ok (.getfield 47, 3) := by decide +kernel
theorem dX10_given_351 : decode mX10_given.2.2.1 351 = .ok (.bipush 20, 2) := by decide +kernel
theorem dX10_given_353 : decode mX10_given.2.2.1 353 = .ok (.iload 7, 2) := by decide +kernel
theorem dX10_given_355 : decode mX10_given.2.2.1 355 = .ok (.imul, 1) := by decide +kernel
theorem dX10_given_356 : decode mX10_given.2.2.1 356 = .ok (.iload 10, 2) := by decide +kernel
theorem dX10_given_358 : decode mX10_given.2.2.1 358 = .ok (.iadd, 1) := by decide +kernel
theorem dX10_given_359 : decode mX10_given.2.2.1 359 = .ok (.baload, 1) := by decide +kernel
theorem dX10_given_360 : decode mX10_given.2.2.1 360 = .ok (.if_icmp .ne 7, 3) := by decide +kernel
theorem dX10_given_363 : decode mX10_given.2.2.1 363 = .ok (.iconst 1, 1) := by decide +kernel
theorem dX10_given_364 : decode mX10_given.2.2.1 364 = .ok (.goto 4, 3) := by decide +kernel
theorem dX10_given_367 : decode mX10_given.2.2.1 367 = .ok (.iconst 0, 1) := by decide +kernel
theorem dX10_given_368 : decode mX10_given.2.2.1 368 = .ok (.istore 9, 2) := by decide +kernel
theorem dX10_given_370 : decode mX10_given.2.2.1 370 = .ok (.iinc 10 1, 3) := by decide +kernel
theorem dX10_given_373 : decode mX10_given.2.2.1 373 = .ok (.goto (-45), 3) := by decide +kernel
theorem dX10_given_376 : decode mX10_given.2.2.1 376 = .ok (.iload 9, 2) := by decide +kernel
theorem dX10_given_378 : decode mX10_given.2.2.1 378 = .ok (.ifCond .ne 62, 3) := by decide +kernel
theorem dX10_given_381 : decode mX10_given.2.2.1 381 = .ok (.iconst 0, 1) := by decide +kernel
theorem dX10_given_382 : decode mX10_given.2.2.1 382 = .ok (.istore 10, 2) := by decide +kernel
theorem dX10_given_384 : decode mX10_given.2.2.1 384 = .ok (.iload 10, 2) := by decide +kernel
theorem dX10_given_386 : decode mX10_given.2.2.1 386 = .ok (.bipush 16, 2) := by decide +kernel
theorem dX10_given_388 : decode mX10_given.2.2.1 388 = .ok (.if_icmp .ge 29, 3) := by decide +kernel
theorem dX10_given_391 : decode mX10_given.2.2.1 391 = .ok (.aload_n 0, 1) := by decide +kernel
theorem dX10_given_392 : decode mX10_given.2.2.1 392 = .ok (.getfield 76, 3) := by decide +kernel
theorem dX10_given_395 : decode mX10_given.2.2.1 395 = .ok (.sipush 1024, 3) := by decide +kernel
theorem dX10_given_398 : decode mX10_given.2.2.1 398 = .ok (.iload_n 1, 1) := by decide +kernel
theorem dX10_given_399 : decode mX10_given.2.2.1 399 = .ok (.imul, 1) := by decide +kernel
theorem dX10_given_400 : decode mX10_given.2.2.1 400 = .ok (.bipush 16, 2) := by decide +kernel
theorem dX10_given_402 : decode mX10_given.2.2.1 402 = .ok (.iload 7, 2) := by decide +kernel
theorem dX10_given_404 : decode mX10_given.2.2.1 404 = .ok (.imul, 1) := by decide +kernel
theorem dX10_given_405 : decode mX10_given.2.2.1 405 = .ok (.iadd, 1) := by decide +kernel
theorem dX10_given_406 : decode mX10_given.2.2.1 406 = .ok (.iload 10, 2) := by decide +kernel
theorem dX10_given_408 : decode mX10_given.2.2.1 408 = .ok (.iadd, 1) := by decide +kernel
theorem dX10_given_409 : decode mX10_given.2.2.1 409 = .ok (.iconst 0, 1) := by decide +kernel
theorem dX10_given_410 : decode mX10_given.2.2.1 410 = .ok (.bastore, 1) := by decide +kernel
theorem dX10_given_411 : decode mX10_given.2.2.1 411 = .ok (.iinc 10 1, 3) := by decide +kernel
theorem dX10_given_414 : decode mX10_given.2.2.1 414 = .ok (.goto (-30), 3) := by decide +kernel
theorem dX10_given_417 : decode mX10_given.2.2.1 417 = .ok (.aload_n 0, 1) := by decide +kernel
theorem dX10_given_418 : decode mX10_given.2.2.1 418 = .ok (.getfield 79, 3) := by decide +kernel
theorem dX10_given_421 : decode mX10_given.2.2.1 421 = .ok (.iconst 5, 1) := by decide +kernel
theorem dX10_given_422 : decode mX10_given.2.2.1 422 = .ok (.iload_n 1, 1) := by decide +kernel
theorem dX10_given_423 : decode mX10_given.2.2.1 423 = .ok (.imul, 1) := by decide +kernel
theorem dX10_given_424 : decode mX10_given.2.2.1 424 = .ok (.iconst 3, 1) := by decide +kernel
theorem dX10_given_425 : decode mX10_given.2.2.1 425 = .ok (.iadd, 1) := by decide +kernel
theorem dX10_given_426 : decode mX10_given.2.2.1 426 = .ok (.dup2, 1) := by decide +kernel
theorem dX10_given_427 : decode mX10_given.2.2.1 427 = .ok (.iaload, 1) := by decide +kernel
theorem dX10_given_428 : decode mX10_given.2.2.1 428 = .ok (.iconst 1, 1) := by decide +kernel
theorem dX10_given_429 : decode mX10_given.2.2.1 429 = .ok (.iadd, 1) := by decide +kernel
theorem dX10_given_430 : decode mX10_given.2.2.1 430 = .ok (.iastore, 1) := by decide +kernel
theorem dX10_given_431 : decode mX10_given.2.2.1 431 = .ok (.aload_n 0, 1) := by decide +kernel
theorem dX10_given_432 : decode mX10_given.2.2.1 432 = .ok (.iload_n 1, 1) := by decide +kernel
theorem dX10_given_433 : decode mX10_given.2.2.1 433 = .ok (.iload_n 2, 1) := by decide +kernel
theorem dX10_given_434 : decode mX10_given.2.2.1 434 = .ok (.bipush 7, 2) := by decide +kernel
theorem dX10_given_436 : decode mX10_given.2.2.1 436 = .ok (.invokevirtual 332, 3) := by decide +kernel
theorem dX10_given_439 : decode mX10_given.2.2.1 439 = .ok (.ireturn, 1) := by decide +kernel
theorem dX10_given_440 : decode mX10_given.2.2.1 440 = .ok (.aload_n 0, 1) := by decide +kernel
theorem dX10_given_441 : decode mX10_given.2.2.1 441 = .ok (.getfield 73, 3) := by decide +kernel
theorem dX10_given_444 : decode mX10_given.2.2.1 444 = .ok (.bipush 64, 2) := by decide +kernel
theorem dX10_given_446 : decode mX10_given.2.2.1 446 = .ok (.iload_n 1, 1) := by decide +kernel
theorem dX10_given_447 : decode mX10_given.2.2.1 447 = .ok (.imul, 1) := by decide +kernel
theorem dX10_given_448 : decode mX10_given.2.2.1 448 = .ok (.iload 7, 2) := by decide +kernel
theorem dX10_given_450 : decode mX10_given.2.2.1 450 = .ok (.iadd, 1) := by decide +kernel
theorem dX10_given_451 : decode mX10_given.2.2.1 451 = .ok (.iconst 1, 1) := by decide +kernel
theorem dX10_given_452 : decode mX10_given.2.2.1 452 = .ok (.bastore, 1) := by decide +kernel
theorem dX10_given_453 : decode mX10_given.2.2.1 453 = .ok (.iconst 0, 1) := by decide +kernel
theorem dX10_given_454 : decode mX10_given.2.2.1 454 = .ok (.istore 10, 2) := by decide +kernel
theorem dX10_given_456 : decode mX10_given.2.2.1 456 = .ok (.iload 10, 2) := by decide +kernel
theorem dX10_given_458 : decode mX10_given.2.2.1 458 = .ok (.iconst 5, 1) := by decide +kernel
theorem dX10_given_459 : decode mX10_given.2.2.1 459 = .ok (.if_icmp .ge 49, 3) := by decide +kernel
theorem dX10_given_462 : decode mX10_given.2.2.1 462 = .ok (.aload_n 0, 1) := by decide +kernel
theorem dX10_given_463 : decode mX10_given.2.2.1 463 = .ok (.getfield 85, 3) := by decide +kernel
theorem dX10_given_466 : decode mX10_given.2.2.1 466 = .ok (.iconst 5, 1) := by decide +kernel
theorem dX10_given_467 : decode mX10_given.2.2.1 467 = .ok (.iload_n 1, 1) := by decide +kernel
theorem dX10_given_468 : decode mX10_given.2.2.1 468 = .ok (.imul, 1) := by decide +kernel
theorem dX10_given_469 : decode mX10_given.2.2.1 469 = .ok (.iload 10, 2) := by decide +kernel
theorem dX10_given_471 : decode mX10_given.2.2.1 471 = .ok (.iadd, 1) := by decide +kernel
theorem dX10_given_472 : decode mX10_given.2.2.1 472 = .ok (.baload, 1) := by decide +kernel
theorem dX10_given_473 : decode mX10_given.2.2.1 473 = .ok (.ifCond .ne 6, 3) := by decide +kernel
theorem dX10_given_476 : decode mX10_given.2.2.1 476 = .ok (.goto 26, 3) := by decide +kernel
theorem dX10_given_479 : decode mX10_given.2.2.1 479 = .ok (.aload_n 0, 1) := by decide +kernel
theorem dX10_given_480 : decode mX10_given.2.2.1 480 = .ok (.iconst 5, 1) := by decide +kernel
theorem dX10_given_481 : decode mX10_given.2.2.1 481 = .ok (.invokevirtual 312, 3) := by decide +kernel
theorem dX10_given_484 : decode mX10_given.2.2.1 484 = .ok (.aload_n 0, 1) := by decide +kernel
theorem dX10_given_485 : decode mX10_given.2.2.1 485 = .ok (.iconst 4, 1) := by decide +kernel
theorem dX10_given_486 : decode mX10_given.2.2.1 486 = .ok (.invokevirtual 306, 3) := by decide +kernel
theorem dX10_given_489 : decode mX10_given.2.2.1 489 = .ok (.aload_n 0, 1) := by decide +kernel
theorem dX10_given_490 : decode mX10_given.2.2.1 490 = .ok (.iload 7, 2) := by decide +kernel
theorem dX10_given_492 : decode mX10_given.2.2.1 492 = .ok (.invokevirtual 312, 3) := by decide +kernel
theorem dX10_given_495 : decode mX10_given.2.2.1 495 = .ok (.aload_n 0, 1) := by decide +kernel
theorem dX10_given_496 : decode mX10_given.2.2.1 496 = .ok (.iload_n 1, 1) := by decide +kernel
theorem dX10_given_497 : decode mX10_given.2.2.1 497 = .ok (.iload 10, 2) := by decide +kernel
theorem dX10_given_499 : decode mX10_given.2.2.1 499 = .ok (.invokevirtual 309, 3) := by decide +kernel
theorem dX10_given_502 : decode mX10_given.2.2.1 502 = .ok (.iinc 10 1, 3) := by decide +kernel
theorem dX10_given_505 : decode mX10_given.2.2.1 505 = .ok (.goto (-49), 3) := by decide +kernel
theorem dX10_given_508 : decode mX10_given.2.2.1 508 = .ok (.bipush 7, 2) := by decide +kernel
theorem dX10_given_510 : decode mX10_given.2.2.1 510 = .ok (.ireturn, 1) := by decide +kernel
theorem dX10_interest_0 : decode mX10_interest.2.2.1 0 = .ok (.iconst 5, 1) := by decide +kernel
theorem dX10_interest_1 : decode mX10_interest.2.2.1 1 = .ok (.iload_n 1, 1) := by decide +kernel
theorem dX10_interest_2 : decode mX10_interest.2.2.1 2 = .ok (.imul, 1) := by decide +kernel
theorem dX10_interest_3 : decode mX10_interest.2.2.1 3 = .ok (.iload_n 2, 1) := by decide +kernel
theorem dX10_interest_4 : decode mX10_interest.2.2.1 4 = .ok (.iadd, 1) := by decide +kernel
theorem dX10_interest_5 : decode mX10_interest.2.2.1 5 = .ok (.istore_n 3, 1) := by decide +kernel
theorem dX10_interest_6 : decode mX10_interest.2.2.1 6 = .ok (.iconst 0, 1) := by decide +kernel
theorem dX10_interest_7 : decode mX10_interest.2.2.1 7 = .ok (.istore 4, 2) := by decide +kernel
theorem dX10_interest_9 : decode mX10_interest.2.2.1 9 = .ok (.iconst 0, 1) := by decide +kernel
theorem dX10_interest_10 : decode mX10_interest.2.2.1 10 = .ok (.istore 5, 2) := by decide +kernel
theorem dX10_interest_12 : decode mX10_interest.2.2.1 12 = .ok (.iload 5, 2) := by decide +kernel
theorem dX10_interest_14 : decode mX10_interest.2.2.1 14 = .ok (.aload_n 0, 1) := by decide +kernel
theorem dX10_interest_15 : decode mX10_interest.2.2.1 15 = .ok (.getfield 242, 3) := by decide +kernel
theorem dX10_interest_18 : decode mX10_interest.2.2.1 18 = .ok (.if_icmp .ge 51, 3) := by decide +kernel
theorem dX10_interest_21 : decode mX10_interest.2.2.1 21 = .ok (.iload 4, 2) := by decide +kernel
theorem dX10_interest_23 : decode mX10_interest.2.2.1 23 = .ok (.ifCond .ne 33, 3) := by decide +kernel
theorem dX10_interest_26 : decode mX10_interest.2.2.1 26 = .ok (.aload_n 0, 1) := by decide +kernel
theorem dX10_interest_27 : decode mX10_interest.2.2.1 27 = .ok (.getfield 103, 3) := by decide +kernel
theorem dX10_interest_30 : decode mX10_interest.2.2.1 30 = .ok (.bipush 64, 2) := by decide +kernel
theorem dX10_interest_32 : decode mX10_interest.2.2.1 32 = .ok (.iload_n 3, 1) := by decide +kernel
theorem dX10_interest_33 : decode mX10_interest.2.2.1 33 = .ok (.imul, 1) := by decide +kernel
theorem dX10_interest_34 : decode mX10_interest.2.2.1 34 = .ok (.iload 5, 2) := by decide +kernel
theorem dX10_interest_36 : decode mX10_interest.2.2.1 36 = .ok (.iadd, 1) := by decide +kernel
theorem dX10_interest_37 : decode mX10_interest.2.2.1 37 = .ok (.baload, 1) := by decide +kernel
theorem dX10_interest_38 : decode mX10_interest.2.2.1 38 = .ok (.ifCond .eq 22, 3) := by decide +kernel
theorem dX10_interest_41 : decode mX10_interest.2.2.1 41 = .ok (.aload_n 0, 1) := by decide +kernel
theorem dX10_interest_42 : decode mX10_interest.2.2.1 42 = .ok (.getfield 73, 3) := by decide +kernel
theorem dX10_interest_45 : decode mX10_interest.2.2.1 45 = .ok (.bipush 64, 2) := by decide +kernel
theorem dX10_interest_47 : decode mX10_interest.2.2.1 47 = .ok (.iload_n 1, 1) := by decide +kernel
theorem dX10_interest_48 : decode mX10_interest.2.2.1 48 = .ok (.imul, 1) := by decide +kernel
theorem dX10_interest_49 : decode mX10_interest.2.2.1 49 = .ok (.iload 5, 2) := by decide +kernel
theorem dX10_interest_51 : decode mX10_interest.2.2.1 51 = .ok (.iadd, 1) := by decide +kernel
theorem dX10_interest_52 : decode mX10_interest.2.2.1 52 = .ok (.baload, 1) := by decide +kernel
theorem dX10_interest_53 : decode mX10_interest.2.2.1 53 = .ok (.ifCond .ne 7, 3) := by decide +kernel
theorem dX10_interest_56 : decode mX10_interest.2.2.1 56 = .ok (.iconst 1, 1) := by decide +kernel
theorem dX10_interest_57 : decode mX10_interest.2.2.1 57 = .ok (.goto 4, 3) := by decide +kernel
theorem dX10_interest_60 : decode mX10_interest.2.2.1 60 = .ok (.iconst 0, 1) := by decide +kernel
theorem dX10_interest_61 : decode mX10_interest.2.2.1 61 = .ok (.istore 4, 2) := by decide +kernel
theorem dX10_interest_63 : decode mX10_interest.2.2.1 63 = .ok (.iinc 5 1, 3) := by decide +kernel
theorem dX10_interest_66 : decode mX10_interest.2.2.1 66 = .ok (.goto (-54), 3) := by decide +kernel
theorem dX10_interest_69 : decode mX10_interest.2.2.1 69 = .ok (.iload 4, 2) := by decide +kernel
theorem dX10_interest_71 : decode mX10_interest.2.2.1 71 = .ok (.aload_n 0, 1) := by decide +kernel
theorem dX10_interest_72 : decode mX10_interest.2.2.1 72 = .ok (.getfield 97, 3) := by decide +kernel
theorem dX10_interest_75 : decode mX10_interest.2.2.1 75 = .ok (.iload_n 3, 1) := by decide +kernel
theorem dX10_interest_76 : decode mX10_interest.2.2.1 76 = .ok (.baload, 1) := by decide +kernel
theorem dX10_interest_77 : decode mX10_interest.2.2.1 77 = .ok (.if_icmp .ne 4, 3) := by decide +kernel
theorem dX10_interest_80 : decode mX10_interest.2.2.1 80 = .ok (.return_, 1) := by decide +kernel
theorem dX10_interest_81 : decode mX10_interest.2.2.1 81 = .ok (.aload_n 0, 1) := by decide +kernel
theorem dX10_interest_82 : decode mX10_interest.2.2.1 82 = .ok (.getfield 97, 3) := by decide +kernel
theorem dX10_interest_85 : decode mX10_interest.2.2.1 85 = .ok (.iload_n 3, 1) := by decide +kernel
theorem dX10_interest_86 : decode mX10_interest.2.2.1 86 = .ok (.iload 4, 2) := by decide +kernel
theorem dX10_interest_88 : decode mX10_interest.2.2.1 88 = .ok (.bastore, 1) := by decide +kernel
theorem dX10_interest_89 : decode mX10_interest.2.2.1 89 = .ok (.aload_n 0, 1) := by decide +kernel
theorem dX10_interest_90 : decode mX10_interest.2.2.1 90 = .ok (.iload_n 1, 1) := by decide +kernel
theorem dX10_interest_91 : decode mX10_interest.2.2.1 91 = .ok (.iload_n 2, 1) := by decide +kernel
theorem dX10_interest_92 : decode mX10_interest.2.2.1 92 = .ok (.iload 4, 2) := by decide +kernel
theorem dX10_interest_94 : decode mX10_interest.2.2.1 94 = .ok (.ifCond .eq 7, 3) := by decide +kernel
theorem dX10_interest_97 : decode mX10_interest.2.2.1 97 = .ok (.iconst 2, 1) := by decide +kernel
theorem dX10_interest_98 : decode mX10_interest.2.2.1 98 = .ok (.goto 4, 3) := by decide +kernel
theorem dX10_interest_101 : decode mX10_interest.2.2.1 101 = .ok (.iconst 3, 1) := by decide +kernel
theorem dX10_interest_102 : decode mX10_interest.2.2.1 102 = .ok (.invokevirtual 363, 3) := by decide +kernel
theorem dX10_interest_105 : decode mX10_interest.2.2.1 105 = .ok (.return_, 1) := by decide +kernel
theorem dX10_choking_0 : decode mX10_choking.2.2.1 0 = .ok (.iconst 5, 1) := by decide +kernel
theorem dX10_choking_1 : decode mX10_choking.2.2.1 1 = .ok (.iload_n 1, 1) := by decide +kernel
theorem dX10_choking_2 : decode mX10_choking.2.2.1 2 = .ok (.imul, 1) := by decide +kernel
theorem dX10_choking_3 : decode mX10_choking.2.2.1 3 = .ok (.iload_n 2, 1) := by decide +kernel
theorem dX10_choking_4 : decode mX10_choking.2.2.1 4 = .ok (.iadd, 1) := by decide +kernel
theorem dX10_choking_5 : decode mX10_choking.2.2.1 5 = .ok (.istore_n 3, 1) := by decide +kernel
theorem dX10_choking_6 : decode mX10_choking.2.2.1 6 = .ok (.iconst 0, 1) := by decide +kernel
theorem dX10_choking_7 : decode mX10_choking.2.2.1 7 = .ok (.istore 4, 2) := by decide +kernel
theorem dX10_choking_9 : decode mX10_choking.2.2.1 9 = .ok (.iconst 0, 1) := by decide +kernel
theorem dX10_choking_10 : decode mX10_choking.2.2.1 10 = .ok (.istore 5, 2) := by decide +kernel
theorem dX10_choking_12 : decode mX10_choking.2.2.1 12 = .ok (.iload 5, 2) := by decide +kernel
theorem dX10_choking_14 : decode mX10_choking.2.2.1 14 = .ok (.iconst 5, 1) := by decide +kernel
theorem dX10_choking_15 : decode mX10_choking.2.2.1 15 = .ok (.if_icmp .ge 47, 3) := by decide +kernel
theorem dX10_choking_18 : decode mX10_choking.2.2.1 18 = .ok (.iload 4, 2) := by decide +kernel
theorem dX10_choking_20 : decode mX10_choking.2.2.1 20 = .ok (.aload_n 0, 1) := by decide +kernel
theorem dX10_choking_21 : decode mX10_choking.2.2.1 21 = .ok (.getfield 82, 3) := by decide +kernel
theorem dX10_choking_24 : decode mX10_choking.2.2.1 24 = .ok (.iconst 5, 1) := by decide +kernel
theorem dX10_choking_25 : decode mX10_choking.2.2.1 25 = .ok (.iload_n 1, 1) := by decide +kernel
theorem dX10_choking_26 : decode mX10_choking.2.2.1 26 = .ok (.imul, 1) := by decide +kernel
theorem dX10_choking_27 : decode mX10_choking.2.2.1 27 = .ok (.iload 5, 2) := by decide +kernel
theorem dX10_choking_29 : decode mX10_choking.2.2.1 29 = .ok (.iadd, 1) := by decide +kernel
theorem dX10_choking_30 : decode mX10_choking.2.2.1 30 = .ok (.baload, 1) := by decide +kernel
theorem dX10_choking_31 : decode mX10_choking.2.2.1 31 = .ok (.ifCond .eq 21, 3) := by decide +kernel
theorem dX10_choking_34 : decode mX10_choking.2.2.1 34 = .ok (.aload_n 0, 1) := by decide +kernel
theorem dX10_choking_35 : decode mX10_choking.2.2.1 35 = .ok (.getfield 91, 3) := by decide +kernel
theorem dX10_choking_38 : decode mX10_choking.2.2.1 38 = .ok (.iconst 5, 1) := by decide +kernel
theorem dX10_choking_39 : decode mX10_choking.2.2.1 39 = .ok (.iload_n 1, 1) := by decide +kernel
theorem dX10_choking_40 : decode mX10_choking.2.2.1 40 = .ok (.imul, 1) := by decide +kernel
theorem dX10_choking_41 : decode mX10_choking.2.2.1 41 = .ok (.iload 5, 2) := by decide +kernel
theorem dX10_choking_43 : decode mX10_choking.2.2.1 43 = .ok (.iadd, 1) := by decide +kernel
theorem dX10_choking_44 : decode mX10_choking.2.2.1 44 = .ok (.baload, 1) := by decide +kernel
theorem dX10_choking_45 : decode mX10_choking.2.2.1 45 = .ok (.ifCond .ne 7, 3) := by decide +kernel
theorem dX10_choking_48 : decode mX10_choking.2.2.1 48 = .ok (.iconst 1, 1) := by decide +kernel
theorem dX10_choking_49 : decode mX10_choking.2.2.1 49 = .ok (.goto 4, 3) := by decide +kernel
theorem dX10_choking_52 : decode mX10_choking.2.2.1 52 = .ok (.iconst 0, 1) := by decide +kernel
theorem dX10_choking_53 : decode mX10_choking.2.2.1 53 = .ok (.iadd, 1) := by decide +kernel
theorem dX10_choking_54 : decode mX10_choking.2.2.1 54 = .ok (.istore 4, 2) := by decide +kernel
theorem dX10_choking_56 : decode mX10_choking.2.2.1 56 = .ok (.iinc 5 1, 3) := by decide +kernel
theorem dX10_choking_59 : decode mX10_choking.2.2.1 59 = .ok (.goto (-47), 3) := by decide +kernel
theorem dX10_choking_62 : decode mX10_choking.2.2.1 62 = .ok (.aload_n 0, 1) := by decide +kernel
theorem dX10_choking_63 : decode mX10_choking.2.2.1 63 = .ok (.getfield 100, 3) := by decide +kernel
theorem dX10_choking_66 : decode mX10_choking.2.2.1 66 = .ok (.iload_n 3, 1) := by decide +kernel
theorem dX10_choking_67 : decode mX10_choking.2.2.1 67 = .ok (.baload, 1) := by decide +kernel
theorem dX10_choking_68 : decode mX10_choking.2.2.1 68 = .ok (.ifCond .eq 35, 3) := by decide +kernel
theorem dX10_choking_71 : decode mX10_choking.2.2.1 71 = .ok (.aload_n 0, 1) := by decide +kernel
theorem dX10_choking_72 : decode mX10_choking.2.2.1 72 = .ok (.getfield 91, 3) := by decide +kernel
theorem dX10_choking_75 : decode mX10_choking.2.2.1 75 = .ok (.iload_n 3, 1) := by decide +kernel
theorem dX10_choking_76 : decode mX10_choking.2.2.1 76 = .ok (.baload, 1) := by decide +kernel
theorem dX10_choking_77 : decode mX10_choking.2.2.1 77 = .ok (.ifCond .eq 26, 3) := by decide +kernel
theorem dX10_choking_80 : decode mX10_choking.2.2.1 80 = .ok (.iload 4, 2) := by decide +kernel
theorem dX10_choking_82 : decode mX10_choking.2.2.1 82 = .ok (.iconst 3, 1) := by decide +kernel
theorem dX10_choking_83 : decode mX10_choking.2.2.1 83 = .ok (.if_icmp .ge 20, 3) := by decide +kernel
theorem dX10_choking_86 : decode mX10_choking.2.2.1 86 = .ok (.aload_n 0, 1) := by decide +kernel
theorem dX10_choking_87 : decode mX10_choking.2.2.1 87 = .ok (.getfield 91, 3) := by decide +kernel
theorem dX10_choking_90 : decode mX10_choking.2.2.1 90 = .ok (.iload_n 3, 1) := by decide +kernel
theorem dX10_choking_91 : decode mX10_choking.2.2.1 91 = .ok (.iconst 0, 1) := by decide +kernel
theorem dX10_choking_92 : decode mX10_choking.2.2.1 92 = .ok (.bastore, 1) := by decide +kernel
theorem dX10_choking_93 : decode mX10_choking.2.2.1 93 = .ok (.aload_n 0, 1) := by decide +kernel
theorem dX10_choking_94 : decode mX10_choking.2.2.1 94 = .ok (.iload_n 1, 1) := by decide +kernel
theorem dX10_choking_95 : decode mX10_choking.2.2.1 95 = .ok (.iload_n 2, 1) := by decide +kernel
theorem dX10_choking_96 : decode mX10_choking.2.2.1 96 = .ok (.iconst 1, 1) := by decide +kernel
theorem dX10_choking_97 : decode mX10_choking.2.2.1 97 = .ok (.invokevirtual 363, 3) := by decide +kernel
theorem dX10_choking_100 : decode mX10_choking.2.2.1 100 = .ok (.goto 35, 3) := by decide +kernel
theorem dX10_choking_103 : decode mX10_choking.2.2.1 103 = .ok (.aload_n 0, 1) := by decide +kernel
theorem dX10_choking_104 : decode mX10_choking.2.2.1 104 = .ok (.getfield 100, 3) := by decide +kernel
theorem dX10_choking_107 : decode mX10_choking.2.2.1 107 = .ok (.iload_n 3, 1) := by decide +kernel
theorem dX10_choking_108 : decode mX10_choking.2.2.1 108 = .ok (.baload, 1) := by decide +kernel
theorem dX10_choking_109 : decode mX10_choking.2.2.1 109 = .ok (.ifCond .ne 26, 3) := by decide +kernel
theorem dX10_choking_112 : decode mX10_choking.2.2.1 112 = .ok (.aload_n 0, 1) := by decide +kernel
theorem dX10_choking_113 : decode mX10_choking.2.2.1 113 = .ok (.getfield 91, 3) := by decide +kernel
theorem dX10_choking_116 : decode mX10_choking.2.2.1 116 = .ok (.iload_n 3, 1) := by decide +kernel
theorem dX10_choking_117 : decode mX10_choking.2.2.1 117 = .ok (.baload, 1) := by decide +kernel
theorem dX10_choking_118 : decode mX10_choking.2.2.1 118 = .ok (.ifCond .ne 17, 3) := by decide +kernel
theorem dX10_choking_121 : decode mX10_choking.2.2.1 121 = .ok (.aload_n 0, 1) := by decide +kernel
theorem dX10_choking_122 : decode mX10_choking.2.2.1 122 = .ok (.getfield 91, 3) := by decide +kernel
theorem dX10_choking_125 : decode mX10_choking.2.2.1 125 = .ok (.iload_n 3, 1) := by decide +kernel
theorem dX10_choking_126 : decode mX10_choking.2.2.1 126 = .ok (.iconst 1, 1) := by decide +kernel
theorem dX10_choking_127 : decode mX10_choking.2.2.1 127 = .ok (.bastore, 1) := by decide +kernel
theorem dX10_choking_128 : decode mX10_choking.2.2.1 128 = .ok (.aload_n 0, 1) := by decide +kernel
theorem dX10_choking_129 : decode mX10_choking.2.2.1 129 = .ok (.iload_n 1, 1) := by decide +kernel
theorem dX10_choking_130 : decode mX10_choking.2.2.1 130 = .ok (.iload_n 2, 1) := by decide +kernel
theorem dX10_choking_131 : decode mX10_choking.2.2.1 131 = .ok (.iconst 0, 1) := by decide +kernel
theorem dX10_choking_132 : decode mX10_choking.2.2.1 132 = .ok (.invokevirtual 363, 3) := by decide +kernel
theorem dX10_choking_135 : decode mX10_choking.2.2.1 135 = .ok (.return_, 1) := by decide +kernel
theorem dX10_askedOf_0 : decode mX10_askedOf.2.2.1 0 = .ok (.iconst 0, 1) := by decide +kernel
theorem dX10_askedOf_1 : decode mX10_askedOf.2.2.1 1 = .ok (.istore_n 2, 1) := by decide +kernel
theorem dX10_askedOf_2 : decode mX10_askedOf.2.2.1 2 = .ok (.iconst 0, 1) := by decide +kernel
theorem dX10_askedOf_3 : decode mX10_askedOf.2.2.1 3 = .ok (.istore_n 3, 1) := by decide +kernel
theorem dX10_askedOf_4 : decode mX10_askedOf.2.2.1 4 = .ok (.iload_n 3, 1) := by decide +kernel
theorem dX10_askedOf_5 : decode mX10_askedOf.2.2.1 5 = .ok (.iconst 4, 1) := by decide +kernel
theorem dX10_askedOf_6 : decode mX10_askedOf.2.2.1 6 = .ok (.if_icmp .ge 30, 3) := by decide +kernel
theorem dX10_askedOf_9 : decode mX10_askedOf.2.2.1 9 = .ok (.iload_n 2, 1) := by decide +kernel
theorem dX10_askedOf_10 : decode mX10_askedOf.2.2.1 10 = .ok (.aload_n 0, 1) := by decide +kernel
theorem dX10_askedOf_11 : decode mX10_askedOf.2.2.1 11 = .ok (.getfield 109, 3) := by decide +kernel
theorem dX10_askedOf_14 : decode mX10_askedOf.2.2.1 14 = .ok (.iconst 4, 1) := by decide +kernel
theorem dX10_askedOf_15 : decode mX10_askedOf.2.2.1 15 = .ok (.iload_n 1, 1) := by decide +kernel
theorem dX10_askedOf_16 : decode mX10_askedOf.2.2.1 16 = .ok (.imul, 1) := by decide +kernel
theorem dX10_askedOf_17 : decode mX10_askedOf.2.2.1 17 = .ok (.iload_n 3, 1) := by decide +kernel
theorem dX10_askedOf_18 : decode mX10_askedOf.2.2.1 18 = .ok (.iadd, 1) := by decide +kernel
theorem dX10_askedOf_19 : decode mX10_askedOf.2.2.1 19 = .ok (.iaload, 1) := by decide +kernel
theorem dX10_askedOf_20 : decode mX10_askedOf.2.2.1 20 = .ok (.ifCond .lt 7, 3) := by decide +kernel
theorem dX10_askedOf_23 : decode mX10_askedOf.2.2.1 23 = .ok (.iconst 1, 1) := by decide +kernel
theorem dX10_askedOf_24 : decode mX10_askedOf.2.2.1 24 = .ok (.goto 4, 3) := by decide +kernel
theorem dX10_askedOf_27 : decode mX10_askedOf.2.2.1 27 = .ok (.iconst 0, 1) := by decide +kernel
theorem dX10_askedOf_28 : decode mX10_askedOf.2.2.1 28 = .ok (.iadd, 1) := by decide +kernel
theorem dX10_askedOf_29 : decode mX10_askedOf.2.2.1 29 = .ok (.istore_n 2, 1) := by decide +kernel
theorem dX10_askedOf_30 : decode mX10_askedOf.2.2.1 30 = .ok (.iinc 3 1, 3) := by decide +kernel
theorem dX10_askedOf_33 : decode mX10_askedOf.2.2.1 33 = .ok (.goto (-29), 3) := by decide +kernel
theorem dX10_askedOf_36 : decode mX10_askedOf.2.2.1 36 = .ok (.iload_n 2, 1) := by decide +kernel
theorem dX10_askedOf_37 : decode mX10_askedOf.2.2.1 37 = .ok (.ireturn, 1) := by decide +kernel
theorem dX10_wantedBlock_0 : decode mX10_wantedBlock.2.2.1 0 = .ok (.iconst 0, 1) := by decide +kernel
theorem dX10_wantedBlock_1 : decode mX10_wantedBlock.2.2.1 1 = .ok (.istore_n 3, 1) := by decide +kernel
theorem dX10_wantedBlock_2 : decode mX10_wantedBlock.2.2.1 2 = .ok (.iload_n 3, 1) := by decide +kernel
theorem dX10_wantedBlock_3 : decode mX10_wantedBlock.2.2.1 3 = .ok (.aload_n 0, 1) := by decide +kernel
theorem dX10_wantedBlock_4 : decode mX10_wantedBlock.2.2.1 4 = .ok (.iload_n 2, 1) := by decide +kernel
theorem dX10_wantedBlock_5 : decode mX10_wantedBlock.2.2.1 5 = .ok (.invokevirtual 357, 3) := by decide +kernel
theorem dX10_wantedBlock_8 : decode mX10_wantedBlock.2.2.1 8 = .ok (.if_icmp .ge 88, 3) := by decide +kernel
theorem dX10_wantedBlock_11 : decode mX10_wantedBlock.2.2.1 11 = .ok (.bipush 16, 2) := by decide +kernel
theorem dX10_wantedBlock_13 : decode mX10_wantedBlock.2.2.1 13 = .ok (.iload_n 2, 1) := by decide +kernel
theorem dX10_wantedBlock_14 : decode mX10_wantedBlock.2.2.1 14 = .ok (.imul, 1) := by decide +kernel
theorem dX10_wantedBlock_15 : decode mX10_wantedBlock.2.2.1 15 = .ok (.iload_n 3, 1) := by decide +kernel
theorem dX10_wantedBlock_16 : decode mX10_wantedBlock.2.2.1 16 = .ok (.iadd, 1) := by decide +kernel
theorem dX10_wantedBlock_17 : decode mX10_wantedBlock.2.2.1 17 = .ok (.istore 4, 2) := by decide +kernel
theorem dX10_wantedBlock_19 : decode mX10_wantedBlock.2.2.1 19 = .ok (.aload_n 0, 1) := by decide +kernel
theorem dX10_wantedBlock_20 : decode mX10_wantedBlock.2.2.1 20 = .ok (.getfield 76, 3) := by decide +kernel
theorem dX10_wantedBlock_23 : decode mX10_wantedBlock.2.2.1 23 = .ok (.sipush 1024, 3) := by decide +kernel
theorem dX10_wantedBlock_26 : decode mX10_wantedBlock.2.2.1 26 = .ok (.iload_n 1, 1) := by decide +kernel
theorem dX10_wantedBlock_27 : decode mX10_wantedBlock.2.2.1 27 = .ok (.imul, 1) := by decide +kernel
theorem dX10_wantedBlock_28 : decode mX10_wantedBlock.2.2.1 28 = .ok (.iload 4, 2) := by decide +kernel
theorem dX10_wantedBlock_30 : decode mX10_wantedBlock.2.2.1 30 = .ok (.iadd, 1) := by decide +kernel
theorem dX10_wantedBlock_31 : decode mX10_wantedBlock.2.2.1 31 = .ok (.baload, 1) := by decide +kernel
theorem dX10_wantedBlock_32 : decode mX10_wantedBlock.2.2.1 32 = .ok (.istore 5, 2) := by decide +kernel
theorem dX10_wantedBlock_34 : decode mX10_wantedBlock.2.2.1 34 = .ok (.bipush 20, 2) := by decide +kernel
theorem dX10_wantedBlock_36 : decode mX10_wantedBlock.2.2.1 36 = .ok (.iload_n 1, 1) := by decide +kernel
theorem dX10_wantedBlock_37 : decode mX10_wantedBlock.2.2.1 37 = .ok (.imul, 1) := by decide +kernel
theorem dX10_wantedBlock_38 : decode mX10_wantedBlock.2.2.1 38 = .ok (.istore 6, 2) := by decide +kernel
theorem dX10_wantedBlock_40 : decode mX10_wantedBlock.2.2.1 40 = .ok (.iload 6, 2) := by decide +kernel
theorem dX10_wantedBlock_42 : decode mX10_wantedBlock.2.2.1 42 = .ok (.bipush 20, 2) := by decide +kernel
theorem dX10_wantedBlock_44 : decode mX10_wantedBlock.2.2.1 44 = .ok (.iload_n 1, 1) := by decide +kernel
theorem dX10_wantedBlock_45 : decode mX10_wantedBlock.2.2.1 45 = .ok (.imul, 1) := by decide +kernel
theorem dX10_wantedBlock_46 : decode mX10_wantedBlock.2.2.1 46 = .ok (.bipush 20, 2) := by decide +kernel
theorem dX10_wantedBlock_48 : decode mX10_wantedBlock.2.2.1 48 = .ok (.iadd, 1) := by decide +kernel
theorem dX10_wantedBlock_49 : decode mX10_wantedBlock.2.2.1 49 = .ok (.if_icmp .ge 33, 3) := by decide +kernel
theorem dX10_wantedBlock_52 : decode mX10_wantedBlock.2.2.1 52 = .ok (.iload 5, 2) := by decide +kernel
theorem dX10_wantedBlock_54 : decode mX10_wantedBlock.2.2.1 54 = .ok (.ifCond .ne 15, 3) := by decide +kernel
theorem dX10_wantedBlock_57 : decode mX10_wantedBlock.2.2.1 57 = .ok (.aload_n 0, 1) := by decide +kernel
theorem dX10_wantedBlock_58 : decode mX10_wantedBlock.2.2.1 58 = .ok (.getfield 109, 3) := by decide +kernel
theorem dX10_wantedBlock_61 : decode mX10_wantedBlock.2.2.1 61 = .ok (.iload 6, 2) := by decide +kernel
theorem dX10_wantedBlock_63 : decode mX10_wantedBlock.2.2.1 63 = .ok (.iaload, 1) := by decide +kernel
theorem dX10_wantedBlock_64 : decode mX10_wantedBlock.2.2.1 64 = .ok (.iload 4, 2) := by decide +kernel
theorem dX10_wantedBlock_66 : decode mX10_wantedBlock.2.2.1 66 = .ok (.if_icmp .ne 7, 3) := by decide +kernel
theorem dX10_wantedBlock_69 : decode mX10_wantedBlock.2.2.1 69 = .ok (.iconst 1, 1) := by decide +kernel
theorem dX10_wantedBlock_70 : decode mX10_wantedBlock.2.2.1 70 = .ok (.goto 4, 3) := by decide +kernel
theorem dX10_wantedBlock_73 : decode mX10_wantedBlock.2.2.1 73 = .ok (.iconst 0, 1) := by decide +kernel
theorem dX10_wantedBlock_74 : decode mX10_wantedBlock.2.2.1 74 = .ok (.istore 5, 2) := by decide +kernel
theorem dX10_wantedBlock_76 : decode mX10_wantedBlock.2.2.1 76 = .ok (.iinc 6 1, 3) := by decide +kernel
theorem dX10_wantedBlock_79 : decode mX10_wantedBlock.2.2.1 79 = .ok (.goto (-39), 3) := by decide +kernel
theorem dX10_wantedBlock_82 : decode mX10_wantedBlock.2.2.1 82 = .ok (.iload 5, 2) := by decide +kernel
theorem dX10_wantedBlock_84 : decode mX10_wantedBlock.2.2.1 84 = .ok (.ifCond .ne 6, 3) := by decide +kernel
theorem dX10_wantedBlock_87 : decode mX10_wantedBlock.2.2.1 87 = .ok (.iload 4, 2) := by decide +kernel
theorem dX10_wantedBlock_89 : decode mX10_wantedBlock.2.2.1 89 = .ok (.ireturn, 1) := by decide +kernel
theorem dX10_wantedBlock_90 : decode mX10_wantedBlock.2.2.1 90 = .ok (.iinc 3 1, 3) := by decide +kernel
theorem dX10_wantedBlock_93 : decode mX10_wantedBlock.2.2.1 93 = .ok (.goto (-91), 3) := by decide +kernel
theorem dX10_wantedBlock_96 : decode mX10_wantedBlock.2.2.1 96 = .ok (.iconst (-1), 1) := by decide +kernel
theorem dX10_wantedBlock_97 : decode mX10_wantedBlock.2.2.1 97 = .ok (.ireturn, 1) := by decide +kernel
theorem dX10_next_0 : decode mX10_next.2.2.1 0 = .ok (.iconst (-1), 1) := by decide +kernel
theorem dX10_next_1 : decode mX10_next.2.2.1 1 = .ok (.istore_n 3, 1) := by decide +kernel
theorem dX10_next_2 : decode mX10_next.2.2.1 2 = .ok (.bipush 6, 2) := by decide +kernel
theorem dX10_next_4 : decode mX10_next.2.2.1 4 = .ok (.istore 4, 2) := by decide +kernel
theorem dX10_next_6 : decode mX10_next.2.2.1 6 = .ok (.iconst 0, 1) := by decide +kernel
theorem dX10_next_7 : decode mX10_next.2.2.1 7 = .ok (.istore 5, 2) := by decide +kernel
theorem dX10_next_9 : decode mX10_next.2.2.1 9 = .ok (.iload 5, 2) := by decide +kernel
theorem dX10_next_11 : decode mX10_next.2.2.1 11 = .ok (.aload_n 0, 1) := by decide +kernel
theorem dX10_next_12 : decode mX10_next.2.2.1 12 = .ok (.getfield 242, 3) := by decide +kernel
theorem dX10_next_15 : decode mX10_next.2.2.1 15 = .ok (.if_icmp .ge 137, 3) := by decide +kernel
theorem dX10_next_18 : decode mX10_next.2.2.1 18 = .ok (.aload_n 0, 1) := by decide +kernel
theorem dX10_next_19 : decode mX10_next.2.2.1 19 = .ok (.getfield 103, 3) := by decide +kernel
theorem dX10_next_22 : decode mX10_next.2.2.1 22 = .ok (.bipush 64, 2) := by decide +kernel
theorem dX10_next_24 : decode mX10_next.2.2.1 24 = .ok (.iconst 5, 1) := by decide +kernel
theorem dX10_next_25 : decode mX10_next.2.2.1 25 = .ok (.iload_n 1, 1) := by decide +kernel
theorem dX10_next_26 : decode mX10_next.2.2.1 26 = .ok (.imul, 1) := by decide +kernel
theorem dX10_next_27 : decode mX10_next.2.2.1 27 = .ok (.iload_n 2, 1) := by decide +kernel
theorem dX10_next_28 : decode mX10_next.2.2.1 28 = .ok (.iadd, 1) := by decide +kernel
theorem dX10_next_29 : decode mX10_next.2.2.1 29 = .ok (.imul, 1) := by decide +kernel
theorem dX10_next_30 : decode mX10_next.2.2.1 30 = .ok (.iload 5, 2) := by decide +kernel
theorem dX10_next_32 : decode mX10_next.2.2.1 32 = .ok (.iadd, 1) := by decide +kernel
theorem dX10_next_33 : decode mX10_next.2.2.1 33 = .ok (.baload, 1) := by decide +kernel
theorem dX10_next_34 : decode mX10_next.2.2.1 34 = .ok (.ifCond .eq 112, 3) := by decide +kernel
theorem dX10_next_37 : decode mX10_next.2.2.1 37 = .ok (.aload_n 0, 1) := by decide +kernel
theorem dX10_next_38 : decode mX10_next.2.2.1 38 = .ok (.getfield 73, 3) := by decide +kernel
theorem dX10_next_41 : decode mX10_next.2.2.1 41 = .ok (.bipush 64, 2) := by decide +kernel
theorem dX10_next_43 : decode mX10_next.2.2.1 43 = .ok (.iload_n 1, 1) := by decide +kernel
theorem dX10_next_44 : decode mX10_next.2.2.1 44 = .ok (.imul, 1) := by decide +kernel
theorem dX10_next_45 : decode mX10_next.2.2.1 45 = .ok (.iload 5, 2) := by decide +kernel
theorem dX10_next_47 : decode mX10_next.2.2.1 47 = .ok (.iadd, 1) := by decide +kernel
theorem dX10_next_48 : decode mX10_next.2.2.1 48 = .ok (.baload, 1) := by decide +kernel
theorem dX10_next_49 : decode mX10_next.2.2.1 49 = .ok (.ifCond .ne 97, 3) := by decide +kernel
theorem dX10_next_52 : decode mX10_next.2.2.1 52 = .ok (.aload_n 0, 1) := by decide +kernel
theorem dX10_next_53 : decode mX10_next.2.2.1 53 = .ok (.iload_n 1, 1) := by decide +kernel
theorem dX10_next_54 : decode mX10_next.2.2.1 54 = .ok (.iload 5, 2) := by decide +kernel
theorem dX10_next_56 : decode mX10_next.2.2.1 56 = .ok (.invokevirtual 366, 3) := by decide +kernel
theorem dX10_next_59 : decode mX10_next.2.2.1 59 = .ok (.ifCond .ge 6, 3) := by decide +kernel
theorem dX10_next_62 : decode mX10_next.2.2.1 62 = .ok (.goto 84, 3) := by decide +kernel
theorem dX10_next_65 : decode mX10_next.2.2.1 65 = .ok (.iconst 0, 1) := by decide +kernel
theorem dX10_next_66 : decode mX10_next.2.2.1 66 = .ok (.istore 6, 2) := by decide +kernel
theorem dX10_next_68 : decode mX10_next.2.2.1 68 = .ok (.iconst 0, 1) := by decide +kernel
theorem dX10_next_69 : decode mX10_next.2.2.1 69 = .ok (.istore 7, 2) := by decide +kernel
theorem dX10_next_71 : decode mX10_next.2.2.1 71 = .ok (.iload 7, 2) := by decide +kernel
theorem dX10_next_73 : decode mX10_next.2.2.1 73 = .ok (.iconst 5, 1) := by decide +kernel
theorem dX10_next_74 : decode mX10_next.2.2.1 74 = .ok (.if_icmp .ge 53, 3) := by decide +kernel
theorem dX10_next_77 : decode mX10_next.2.2.1 77 = .ok (.iload 6, 2) := by decide +kernel
theorem dX10_next_79 : decode mX10_next.2.2.1 79 = .ok (.aload_n 0, 1) := by decide +kernel
theorem dX10_next_80 : decode mX10_next.2.2.1 80 = .ok (.getfield 85, 3) := by decide +kernel
theorem dX10_next_83 : decode mX10_next.2.2.1 83 = .ok (.iconst 5, 1) := by decide +kernel
theorem dX10_next_84 : decode mX10_next.2.2.1 84 = .ok (.iload_n 1, 1) := by decide +kernel
theorem dX10_next_85 : decode mX10_next.2.2.1 85 = .ok (.imul, 1) := by decide +kernel
theorem dX10_next_86 : decode mX10_next.2.2.1 86 = .ok (.iload 7, 2) := by decide +kernel
theorem dX10_next_88 : decode mX10_next.2.2.1 88 = .ok (.iadd, 1) := by decide +kernel
theorem dX10_next_89 : decode mX10_next.2.2.1 89 = .ok (.baload, 1) := by decide +kernel
theorem dX10_next_90 : decode mX10_next.2.2.1 90 = .ok (.ifCond .eq 27, 3) := by decide +kernel
theorem dX10_next_93 : decode mX10_next.2.2.1 93 = .ok (.aload_n 0, 1) := by decide +kernel
theorem dX10_next_94 : decode mX10_next.2.2.1 94 = .ok (.getfield 103, 3) := by decide +kernel
theorem dX10_next_97 : decode mX10_next.2.2.1 97 = .ok (.bipush 64, 2) := by decide +kernel
theorem dX10_next_99 : decode mX10_next.2.2.1 99 = .ok (.iconst 5, 1) := by decide +kernel
theorem dX10_next_100 : decode mX10_next.2.2.1 100 = .ok (.iload_n 1, 1) := by decide +kernel
theorem dX10_next_101 : decode mX10_next.2.2.1 101 = .ok (.imul, 1) := by decide +kernel
theorem dX10_next_102 : decode mX10_next.2.2.1 102 = .ok (.iload 7, 2) := by decide +kernel
theorem dX10_next_104 : decode mX10_next.2.2.1 104 = .ok (.iadd, 1) := by decide +kernel
theorem dX10_next_105 : decode mX10_next.2.2.1 105 = .ok (.imul, 1) := by decide +kernel
theorem dX10_next_106 : decode mX10_next.2.2.1 106 = .ok (.iload 5, 2) := by decide +kernel
theorem dX10_next_108 : decode mX10_next.2.2.1 108 = .ok (.iadd, 1) := by decide +kernel
theorem dX10_next_109 : decode mX10_next.2.2.1 109 = .ok (.baload, 1) := by decide +kernel
theorem dX10_next_110 : decode mX10_next.2.2.1 110 = .ok (.ifCond .eq 7, 3) := by decide +kernel
theorem dX10_next_113 : decode mX10_next.2.2.1 113 = .ok (.iconst 1, 1) := by decide +kernel
theorem dX10_next_114 : decode mX10_next.2.2.1 114 = .ok (.goto 4, 3) := by decide +kernel
theorem dX10_next_117 : decode mX10_next.2.2.1 117 = .ok (.iconst 0, 1) := by decide +kernel
theorem dX10_next_118 : decode mX10_next.2.2.1 118 = .ok (.iadd, 1) := by decide +kernel
theorem dX10_next_119 : decode mX10_next.2.2.1 119 = .ok (.istore 6, 2) := by decide +kernel
theorem dX10_next_121 : decode mX10_next.2.2.1 121 = .ok (.iinc 7 1, 3) := by decide +kernel
theorem dX10_next_124 : decode mX10_next.2.2.1 124 = .ok (.goto (-53), 3) := by decide +kernel
theorem dX10_next_127 : decode mX10_next.2.2.1 127 = .ok (.iload 6, 2) := by decide +kernel
theorem dX10_next_129 : decode mX10_next.2.2.1 129 = .ok (.iload 4, 2) := by decide +kernel
theorem dX10_next_131 : decode mX10_next.2.2.1 131 = .ok (.if_icmp .ge 15, 3) := by decide +kernel
theorem dX10_next_134 : decode mX10_next.2.2.1 134 = .ok (.iload 6, 2) := by decide +kernel
theorem dX10_next_136 : decode mX10_next.2.2.1 136 = .ok (.istore 4, 2) := by decide +kernel
theorem dX10_next_138 : decode mX10_next.2.2.1 138 = .ok (.aload_n 0, 1) := by decide +kernel
theorem dX10_next_139 : decode mX10_next.2.2.1 139 = .ok (.iload_n 1, 1) := by decide +kernel
theorem dX10_next_140 : decode mX10_next.2.2.1 140 = .ok (.iload 5, 2) := by decide +kernel
theorem dX10_next_142 : decode mX10_next.2.2.1 142 = .ok (.invokevirtual 366, 3) := by decide +kernel
theorem dX10_next_145 : decode mX10_next.2.2.1 145 = .ok (.istore_n 3, 1) := by decide +kernel
theorem dX10_next_146 : decode mX10_next.2.2.1 146 = .ok (.iinc 5 1, 3) := by decide +kernel
theorem dX10_next_149 : decode mX10_next.2.2.1 149 = .ok (.goto (-140), 3) := by decide +kernel
theorem dX10_next_152 : decode mX10_next.2.2.1 152 = .ok (.iload_n 3, 1) := by decide +kernel
theorem dX10_next_153 : decode mX10_next.2.2.1 153 = .ok (.ireturn, 1) := by decide +kernel
theorem dX10_asking_0 : decode mX10_asking.2.2.1 0 = .ok (.iconst 5, 1) := by decide +kernel
theorem dX10_asking_1 : decode mX10_asking.2.2.1 1 = .ok (.iload_n 1, 1) := by decide +kernel
theorem dX10_asking_2 : decode mX10_asking.2.2.1 2 = .ok (.imul, 1) := by decide +kernel
theorem dX10_asking_3 : decode mX10_asking.2.2.1 3 = .ok (.iload_n 2, 1) := by decide +kernel
theorem dX10_asking_4 : decode mX10_asking.2.2.1 4 = .ok (.iadd, 1) := by decide +kernel
theorem dX10_asking_5 : decode mX10_asking.2.2.1 5 = .ok (.istore_n 3, 1) := by decide +kernel
theorem dX10_asking_6 : decode mX10_asking.2.2.1 6 = .ok (.iconst 1, 1) := by decide +kernel
theorem dX10_asking_7 : decode mX10_asking.2.2.1 7 = .ok (.istore 4, 2) := by decide +kernel
theorem dX10_asking_9 : decode mX10_asking.2.2.1 9 = .ok (.iconst 0, 1) := by decide +kernel
theorem dX10_asking_10 : decode mX10_asking.2.2.1 10 = .ok (.istore 5, 2) := by decide +kernel
theorem dX10_asking_12 : decode mX10_asking.2.2.1 12 = .ok (.iload 5, 2) := by decide +kernel
theorem dX10_asking_14 : decode mX10_asking.2.2.1 14 = .ok (.iconst 4, 1) := by decide +kernel
theorem dX10_asking_15 : decode mX10_asking.2.2.1 15 = .ok (.if_icmp .ge 166, 3) := by decide +kernel
theorem dX10_asking_18 : decode mX10_asking.2.2.1 18 = .ok (.iload 4, 2) := by decide +kernel
theorem dX10_asking_20 : decode mX10_asking.2.2.1 20 = .ok (.ifCond .eq 161, 3) := by decide +kernel
theorem dX10_asking_23 : decode mX10_asking.2.2.1 23 = .ok (.aload_n 0, 1) := by decide +kernel
theorem dX10_asking_24 : decode mX10_asking.2.2.1 24 = .ok (.getfield 97, 3) := by decide +kernel
theorem dX10_asking_27 : decode mX10_asking.2.2.1 27 = .ok (.iload_n 3, 1) := by decide +kernel
theorem dX10_asking_28 : decode mX10_asking.2.2.1 28 = .ok (.baload, 1) := by decide +kernel
theorem dX10_asking_29 : decode mX10_asking.2.2.1 29 = .ok (.ifCond .eq 30, 3) := by decide +kernel
theorem dX10_asking_32 : decode mX10_asking.2.2.1 32 = .ok (.aload_n 0, 1) := by decide +kernel
theorem dX10_asking_33 : decode mX10_asking.2.2.1 33 = .ok (.getfield 94, 3) := by decide +kernel
theorem dX10_asking_36 : decode mX10_asking.2.2.1 36 = .ok (.iload_n 3, 1) := by decide +kernel
theorem dX10_asking_37 : decode mX10_asking.2.2.1 37 = .ok (.baload, 1) := by decide +kernel
theorem dX10_asking_38 : decode mX10_asking.2.2.1 38 = .ok (.ifCond .ne 21, 3) := by decide +kernel
theorem dX10_asking_41 : decode mX10_asking.2.2.1 41 = .ok (.aload_n 0, 1) := by decide +kernel
theorem dX10_asking_42 : decode mX10_asking.2.2.1 42 = .ok (.iload_n 3, 1) := by decide +kernel
theorem dX10_asking_43 : decode mX10_asking.2.2.1 43 = .ok (.invokevirtual 369, 3) := by decide +kernel
theorem dX10_asking_46 : decode mX10_asking.2.2.1 46 = .ok (.iconst 4, 1) := by decide +kernel
theorem dX10_asking_47 : decode mX10_asking.2.2.1 47 = .ok (.if_icmp .ge 12, 3) := by decide +kernel
theorem dX10_asking_50 : decode mX10_asking.2.2.1 50 = .ok (.aload_n 0, 1) := by decide +kernel
theorem dX10_asking_51 : decode mX10_asking.2.2.1 51 = .ok (.iload_n 1, 1) := by decide +kernel
theorem dX10_asking_52 : decode mX10_asking.2.2.1 52 = .ok (.iload_n 2, 1) := by decide +kernel
theorem dX10_asking_53 : decode mX10_asking.2.2.1 53 = .ok (.invokevirtual 372, 3) := by decide +kernel
theorem dX10_asking_56 : decode mX10_asking.2.2.1 56 = .ok (.goto 4, 3) := by decide +kernel
theorem dX10_asking_59 : decode mX10_asking.2.2.1 59 = .ok (.iconst (-1), 1) := by decide +kernel
theorem dX10_asking_60 : decode mX10_asking.2.2.1 60 = .ok (.istore 6, 2) := by decide +kernel
theorem dX10_asking_62 : decode mX10_asking.2.2.1 62 = .ok (.iload 6, 2) := by decide +kernel
theorem dX10_asking_64 : decode mX10_asking.2.2.1 64 = .ok (.ifCond .lt 7, 3) := by decide +kernel
theorem dX10_asking_67 : decode mX10_asking.2.2.1 67 = .ok (.iconst 1, 1) := by decide +kernel
theorem dX10_asking_68 : decode mX10_asking.2.2.1 68 = .ok (.goto 4, 3) := by decide +kernel
theorem dX10_asking_71 : decode mX10_asking.2.2.1 71 = .ok (.iconst 0, 1) := by decide +kernel
theorem dX10_asking_72 : decode mX10_asking.2.2.1 72 = .ok (.istore 4, 2) := by decide +kernel
theorem dX10_asking_74 : decode mX10_asking.2.2.1 74 = .ok (.iload 4, 2) := by decide +kernel
theorem dX10_asking_76 : decode mX10_asking.2.2.1 76 = .ok (.ifCond .ne 6, 3) := by decide +kernel
theorem dX10_asking_79 : decode mX10_asking.2.2.1 79 = .ok (.goto 96, 3) := by decide +kernel
theorem dX10_asking_82 : decode mX10_asking.2.2.1 82 = .ok (.iconst 0, 1) := by decide +kernel
theorem dX10_asking_83 : decode mX10_asking.2.2.1 83 = .ok (.istore 7, 2) := by decide +kernel
theorem dX10_asking_85 : decode mX10_asking.2.2.1 85 = .ok (.aload_n 0, 1) := by decide +kernel
theorem dX10_asking_86 : decode mX10_asking.2.2.1 86 = .ok (.getfield 109, 3) := by decide +kernel
theorem dX10_asking_89 : decode mX10_asking.2.2.1 89 = .ok (.iconst 4, 1) := by decide +kernel
theorem dX10_asking_90 : decode mX10_asking.2.2.1 90 = .ok (.iload_n 3, 1) := by decide +kernel
theorem dX10_asking_91 : decode mX10_asking.2.2.1 91 = .ok (.imul, 1) := by decide +kernel
theorem dX10_asking_92 : decode mX10_asking.2.2.1 92 = .ok (.iload 7, 2) := by decide +kernel
theorem dX10_asking_94 : decode mX10_asking.2.2.1 94 = .ok (.iadd, 1) := by decide +kernel
theorem dX10_asking_95 : decode mX10_asking.2.2.1 95 = .ok (.iaload, 1) := by decide +kernel
theorem dX10_asking_96 : decode mX10_asking.2.2.1 96 = .ok (.ifCond .lt 9, 3) := by decide +kernel
theorem dX10_asking_99 : decode mX10_asking.2.2.1 99 = .ok (.iinc 7 1, 3) := by decide +kernel
theorem dX10_asking_102 : decode mX10_asking.2.2.1 102 = .ok (.goto (-17), 3) := by decide +kernel
theorem dX10_asking_105 : decode mX10_asking.2.2.1 105 = .ok (.aload_n 0, 1) := by decide +kernel
theorem dX10_asking_106 : decode mX10_asking.2.2.1 106 = .ok (.getfield 109, 3) := by decide +kernel
theorem dX10_asking_109 : decode mX10_asking.2.2.1 109 = .ok (.iconst 4, 1) := by decide +kernel
theorem dX10_asking_110 : decode mX10_asking.2.2.1 110 = .ok (.iload_n 3, 1) := by decide +kernel
theorem dX10_asking_111 : decode mX10_asking.2.2.1 111 = .ok (.imul, 1) := by decide +kernel
theorem dX10_asking_112 : decode mX10_asking.2.2.1 112 = .ok (.iload 7, 2) := by decide +kernel
theorem dX10_asking_114 : decode mX10_asking.2.2.1 114 = .ok (.iadd, 1) := by decide +kernel
theorem dX10_asking_115 : decode mX10_asking.2.2.1 115 = .ok (.iload 6, 2) := by decide +kernel
theorem dX10_asking_117 : decode mX10_asking.2.2.1 117 = .ok (.iastore, 1) := by decide +kernel
theorem dX10_asking_118 : decode mX10_asking.2.2.1 118 = .ok (.aload_n 0, 1) := by decide +kernel
theorem dX10_asking_119 : decode mX10_asking.2.2.1 119 = .ok (.bipush 13, 2) := by decide +kernel
theorem dX10_asking_121 : decode mX10_asking.2.2.1 121 = .ok (.invokevirtual 312, 3) := by decide +kernel
theorem dX10_asking_124 : decode mX10_asking.2.2.1 124 = .ok (.aload_n 0, 1) := by decide +kernel
theorem dX10_asking_125 : decode mX10_asking.2.2.1 125 = .ok (.bipush 6, 2) := by decide +kernel
theorem dX10_asking_127 : decode mX10_asking.2.2.1 127 = .ok (.invokevirtual 306, 3) := by decide +kernel
theorem dX10_asking_130 : decode mX10_asking.2.2.1 130 = .ok (.aload_n 0, 1) := by decide +kernel
theorem dX10_asking_131 : decode mX10_asking.2.2.1 131 = .ok (.iload 6, 2) := by decide +kernel
theorem dX10_asking_133 : decode mX10_asking.2.2.1 133 = .ok (.bipush 16, 2) := by decide +kernel
theorem dX10_asking_135 : decode mX10_asking.2.2.1 135 = .ok (.idiv, 1) := by decide +kernel
theorem dX10_asking_136 : decode mX10_asking.2.2.1 136 = .ok (.invokevirtual 312, 3) := by decide +kernel
theorem dX10_asking_139 : decode mX10_asking.2.2.1 139 = .ok (.aload_n 0, 1) := by decide +kernel
theorem dX10_asking_140 : decode mX10_asking.2.2.1 140 = .ok (.bipush 64, 2) := by decide +kernel
theorem dX10_asking_142 : decode mX10_asking.2.2.1 142 = .ok (.iload 6, 2) := by decide +kernel
theorem dX10_asking_144 : decode mX10_asking.2.2.1 144 = .ok (.bipush 16, 2) := by decide +kernel
theorem dX10_asking_146 : decode mX10_asking.2.2.1 146 = .ok (.irem, 1) := by decide +kernel
theorem dX10_asking_147 : decode mX10_asking.2.2.1 147 = .ok (.imul, 1) := by decide +kernel
theorem dX10_asking_148 : decode mX10_asking.2.2.1 148 = .ok (.invokevirtual 312, 3) := by decide +kernel
theorem dX10_asking_151 : decode mX10_asking.2.2.1 151 = .ok (.aload_n 0, 1) := by decide +kernel
theorem dX10_asking_152 : decode mX10_asking.2.2.1 152 = .ok (.aload_n 0, 1) := by decide +kernel
theorem dX10_asking_153 : decode mX10_asking.2.2.1 153 = .ok (.iload 6, 2) := by decide +kernel
theorem dX10_asking_155 : decode mX10_asking.2.2.1 155 = .ok (.bipush 16, 2) := by decide +kernel
theorem dX10_asking_157 : decode mX10_asking.2.2.1 157 = .ok (.idiv, 1) := by decide +kernel
theorem dX10_asking_158 : decode mX10_asking.2.2.1 158 = .ok (.iload 6, 2) := by decide +kernel
theorem dX10_asking_160 : decode mX10_asking.2.2.1 160 = .ok (.bipush 16, 2) := by decide +kernel
theorem dX10_asking_162 : decode mX10_asking.2.2.1 162 = .ok (.irem, 1) := by decide +kernel
theorem dX10_asking_163 : decode mX10_asking.2.2.1 163 = .ok (.invokevirtual 354, 3) := by decide +kernel
theorem dX10_asking_166 : decode mX10_asking.2.2.1 166 = .ok (.invokevirtual 312, 3) := by decide +kernel
theorem dX10_asking_169 : decode mX10_asking.2.2.1 169 = .ok (.aload_n 0, 1) := by decide +kernel
theorem dX10_asking_170 : decode mX10_asking.2.2.1 170 = .ok (.iload_n 1, 1) := by decide +kernel
theorem dX10_asking_171 : decode mX10_asking.2.2.1 171 = .ok (.iload_n 2, 1) := by decide +kernel
theorem dX10_asking_172 : decode mX10_asking.2.2.1 172 = .ok (.invokevirtual 309, 3) := by decide +kernel
theorem dX10_asking_175 : decode mX10_asking.2.2.1 175 = .ok (.iinc 5 1, 3) := by decide +kernel
theorem dX10_asking_178 : decode mX10_asking.2.2.1 178 = .ok (.goto (-166), 3) := by decide +kernel
theorem dX10_asking_181 : decode mX10_asking.2.2.1 181 = .ok (.return_, 1) := by decide +kernel
theorem dX10_goesOver_0 : decode mX10_goesOver.2.2.1 0 = .ok (.iconst 0, 1) := by decide +kernel
theorem dX10_goesOver_1 : decode mX10_goesOver.2.2.1 1 = .ok (.istore_n 2, 1) := by decide +kernel
theorem dX10_goesOver_2 : decode mX10_goesOver.2.2.1 2 = .ok (.iload_n 2, 1) := by decide +kernel
theorem dX10_goesOver_3 : decode mX10_goesOver.2.2.1 3 = .ok (.iconst 5, 1) := by decide +kernel
theorem dX10_goesOver_4 : decode mX10_goesOver.2.2.1 4 = .ok (.if_icmp .ge 60, 3) := by decide +kernel
theorem dX10_goesOver_7 : decode mX10_goesOver.2.2.1 7 = .ok (.iconst 5, 1) := by decide +kernel
theorem dX10_goesOver_8 : decode mX10_goesOver.2.2.1 8 = .ok (.iload_n 1, 1) := by decide +kernel
theorem dX10_goesOver_9 : decode mX10_goesOver.2.2.1 9 = .ok (.imul, 1) := by decide +kernel
theorem dX10_goesOver_10 : decode mX10_goesOver.2.2.1 10 = .ok (.iload_n 2, 1) := by decide +kernel
theorem dX10_goesOver_11 : decode mX10_goesOver.2.2.1 11 = .ok (.iadd, 1) := by decide +kernel
theorem dX10_goesOver_12 : decode mX10_goesOver.2.2.1 12 = .ok (.istore_n 3, 1) := by decide +kernel
theorem dX10_goesOver_13 : decode mX10_goesOver.2.2.1 13 = .ok (.aload_n 0, 1) := by decide +kernel
theorem dX10_goesOver_14 : decode mX10_goesOver.2.2.1 14 = .ok (.getfield 85, 3) := by decide +kernel
theorem dX10_goesOver_17 : decode mX10_goesOver.2.2.1 17 = .ok (.iload_n 3, 1) := by decide +kernel
theorem dX10_goesOver_18 : decode mX10_goesOver.2.2.1 18 = .ok (.baload, 1) := by decide +kernel
theorem dX10_goesOver_19 : decode mX10_goesOver.2.2.1 19 = .ok (.ifCond .eq 9, 3) := by decide +kernel
theorem dX10_goesOver_22 : decode mX10_goesOver.2.2.1 22 = .ok (.aload_n 0, 1) := by decide +kernel
theorem dX10_goesOver_23 : decode mX10_goesOver.2.2.1 23 = .ok (.iload_n 1, 1) := by decide +kernel
theorem dX10_goesOver_24 : decode mX10_goesOver.2.2.1 24 = .ok (.iload_n 2, 1) := by decide +kernel
theorem dX10_goesOver_25 : decode mX10_goesOver.2.2.1 25 = .ok (.invokevirtual 375, 3) := by decide +kernel
theorem dX10_goesOver_28 : decode mX10_goesOver.2.2.1 28 = .ok (.aload_n 0, 1) := by decide +kernel
theorem dX10_goesOver_29 : decode mX10_goesOver.2.2.1 29 = .ok (.getfield 85, 3) := by decide +kernel
theorem dX10_goesOver_32 : decode mX10_goesOver.2.2.1 32 = .ok (.iload_n 3, 1) := by decide +kernel
theorem dX10_goesOver_33 : decode mX10_goesOver.2.2.1 33 = .ok (.baload, 1) := by decide +kernel
theorem dX10_goesOver_34 : decode mX10_goesOver.2.2.1 34 = .ok (.ifCond .eq 9, 3) := by decide +kernel
theorem dX10_goesOver_37 : decode mX10_goesOver.2.2.1 37 = .ok (.aload_n 0, 1) := by decide +kernel
theorem dX10_goesOver_38 : decode mX10_goesOver.2.2.1 38 = .ok (.iload_n 1, 1) := by decide +kernel
theorem dX10_goesOver_39 : decode mX10_goesOver.2.2.1 39 = .ok (.iload_n 2, 1) := by decide +kernel
theorem dX10_goesOver_40 : decode mX10_goesOver.2.2.1 40 = .ok (.invokevirtual 378, 3) := by decide +kernel
theorem dX10_goesOver_43 : decode mX10_goesOver.2.2.1 43 = .ok (.aload_n 0, 1) := by decide +kernel
theorem dX10_goesOver_44 : decode mX10_goesOver.2.2.1 44 = .ok (.getfield 85, 3) := by decide +kernel
theorem dX10_goesOver_47 : decode mX10_goesOver.2.2.1 47 = .ok (.iload_n 3, 1) := by decide +kernel
theorem dX10_goesOver_48 : decode mX10_goesOver.2.2.1 48 = .ok (.baload, 1) := by decide +kernel
theorem dX10_goesOver_49 : decode mX10_goesOver.2.2.1 49 = .ok (.ifCond .eq 9, 3) := by decide +kernel
theorem dX10_goesOver_52 : decode mX10_goesOver.2.2.1 52 = .ok (.aload_n 0, 1) := by decide +kernel
theorem dX10_goesOver_53 : decode mX10_goesOver.2.2.1 53 = .ok (.iload_n 1, 1) := by decide +kernel
theorem dX10_goesOver_54 : decode mX10_goesOver.2.2.1 54 = .ok (.iload_n 2, 1) := by decide +kernel
theorem dX10_goesOver_55 : decode mX10_goesOver.2.2.1 55 = .ok (.invokevirtual 381, 3) := by decide +kernel
theorem dX10_goesOver_58 : decode mX10_goesOver.2.2.1 58 = .ok (.iinc 2 1, 3) := by decide +kernel
theorem dX10_goesOver_61 : decode mX10_goesOver.2.2.1 61 = .ok (.goto (-59), 3) := by decide +kernel
theorem dX10_goesOver_64 : decode mX10_goesOver.2.2.1 64 = .ok (.return_, 1) := by decide +kernel
theorem dX10_acts_0 : decode mX10_acts.2.2.1 0 = .ok (.aload_n 0, 1) := by decide +kernel
theorem dX10_acts_1 : decode mX10_acts.2.2.1 1 = .ok (.getfield 85, 3) := by decide +kernel
theorem dX10_acts_4 : decode mX10_acts.2.2.1 4 = .ok (.iconst 5, 1) := by decide +kernel
theorem dX10_acts_5 : decode mX10_acts.2.2.1 5 = .ok (.iload_n 1, 1) := by decide +kernel
theorem dX10_acts_6 : decode mX10_acts.2.2.1 6 = .ok (.imul, 1) := by decide +kernel
theorem dX10_acts_7 : decode mX10_acts.2.2.1 7 = .ok (.iload_n 2, 1) := by decide +kernel
theorem dX10_acts_8 : decode mX10_acts.2.2.1 8 = .ok (.iadd, 1) := by decide +kernel
theorem dX10_acts_9 : decode mX10_acts.2.2.1 9 = .ok (.baload, 1) := by decide +kernel
theorem dX10_acts_10 : decode mX10_acts.2.2.1 10 = .ok (.ifCond .eq 12, 3) := by decide +kernel
theorem dX10_acts_13 : decode mX10_acts.2.2.1 13 = .ok (.aload_n 0, 1) := by decide +kernel
theorem dX10_acts_14 : decode mX10_acts.2.2.1 14 = .ok (.iload_n 1, 1) := by decide +kernel
theorem dX10_acts_15 : decode mX10_acts.2.2.1 15 = .ok (.iload_n 2, 1) := by decide +kernel
theorem dX10_acts_16 : decode mX10_acts.2.2.1 16 = .ok (.invokevirtual 384, 3) := by decide +kernel
theorem dX10_acts_19 : decode mX10_acts.2.2.1 19 = .ok (.goto 9, 3) := by decide +kernel
theorem dX10_acts_22 : decode mX10_acts.2.2.1 22 = .ok (.aload_n 0, 1) := by decide +kernel
theorem dX10_acts_23 : decode mX10_acts.2.2.1 23 = .ok (.iload_n 1, 1) := by decide +kernel
theorem dX10_acts_24 : decode mX10_acts.2.2.1 24 = .ok (.iload_n 2, 1) := by decide +kernel
theorem dX10_acts_25 : decode mX10_acts.2.2.1 25 = .ok (.invokevirtual 387, 3) := by decide +kernel
theorem dX10_acts_28 : decode mX10_acts.2.2.1 28 = .ok (.istore_n 3, 1) := by decide +kernel
theorem dX10_acts_29 : decode mX10_acts.2.2.1 29 = .ok (.aload_n 0, 1) := by decide +kernel
theorem dX10_acts_30 : decode mX10_acts.2.2.1 30 = .ok (.iload_n 1, 1) := by decide +kernel
theorem dX10_acts_31 : decode mX10_acts.2.2.1 31 = .ok (.invokevirtual 390, 3) := by decide +kernel
theorem dX10_acts_34 : decode mX10_acts.2.2.1 34 = .ok (.iload_n 3, 1) := by decide +kernel
theorem dX10_acts_35 : decode mX10_acts.2.2.1 35 = .ok (.ireturn, 1) := by decide +kernel
theorem dX10_act_0 : decode mX10_act.2.2.1 0 = .ok (.iload_n 1, 1) := by decide +kernel
theorem dX10_act_1 : decode mX10_act.2.2.1 1 = .ok (.iconst 4, 1) := by decide +kernel
theorem dX10_act_2 : decode mX10_act.2.2.1 2 = .ok (.invokestatic 287, 3) := by decide +kernel
theorem dX10_act_5 : decode mX10_act.2.2.1 5 = .ok (.ifCond .eq 21, 3) := by decide +kernel
theorem dX10_act_8 : decode mX10_act.2.2.1 8 = .ok (.aload_n 0, 1) := by decide +kernel
theorem dX10_act_9 : decode mX10_act.2.2.1 9 = .ok (.iload_n 1, 1) := by decide +kernel
theorem dX10_act_10 : decode mX10_act.2.2.1 10 = .ok (.iload_n 2, 1) := by decide +kernel
theorem dX10_act_11 : decode mX10_act.2.2.1 11 = .ok (.invokevirtual 393, 3) := by decide +kernel
theorem dX10_act_14 : decode mX10_act.2.2.1 14 = .ok (.ifCond .eq 12, 3) := by decide +kernel
theorem dX10_act_17 : decode mX10_act.2.2.1 17 = .ok (.aload_n 0, 1) := by decide +kernel
theorem dX10_act_18 : decode mX10_act.2.2.1 18 = .ok (.iload_n 1, 1) := by decide +kernel
theorem dX10_act_19 : decode mX10_act.2.2.1 19 = .ok (.iload_n 2, 1) := by decide +kernel
theorem dX10_act_20 : decode mX10_act.2.2.1 20 = .ok (.invokevirtual 396, 3) := by decide +kernel
theorem dX10_act_23 : decode mX10_act.2.2.1 23 = .ok (.goto 4, 3) := by decide +kernel
theorem dX10_act_26 : decode mX10_act.2.2.1 26 = .ok (.iconst (-1), 1) := by decide +kernel
theorem dX10_act_27 : decode mX10_act.2.2.1 27 = .ok (.ireturn, 1) := by decide +kernel
theorem dX10_pump_0 : decode mX10_pump.2.2.1 0 = .ok (.iload_n 1, 1) := by decide +kernel
theorem dX10_pump_1 : decode mX10_pump.2.2.1 1 = .ok (.iconst 1, 1) := by decide +kernel
theorem dX10_pump_2 : decode mX10_pump.2.2.1 2 = .ok (.if_icmp .lt 10, 3) := by decide +kernel
theorem dX10_pump_5 : decode mX10_pump.2.2.1 5 = .ok (.iload_n 1, 1) := by decide +kernel
theorem dX10_pump_6 : decode mX10_pump.2.2.1 6 = .ok (.sipush 2000, 3) := by decide +kernel
theorem dX10_pump_9 : decode mX10_pump.2.2.1 9 = .ok (.if_icmp .le 5, 3) := by decide +kernel
theorem dX10_pump_12 : decode mX10_pump.2.2.1 12 = .ok (.iconst (-1), 1) := by decide +kernel
theorem dX10_pump_13 : decode mX10_pump.2.2.1 13 = .ok (.ireturn, 1) := by decide +kernel
theorem dX10_pump_14 : decode mX10_pump.2.2.1 14 = .ok (.iconst 0, 1) := by decide +kernel
theorem dX10_pump_15 : decode mX10_pump.2.2.1 15 = .ok (.istore_n 2, 1) := by decide +kernel
theorem dX10_pump_16 : decode mX10_pump.2.2.1 16 = .ok (.iconst 1, 1) := by decide +kernel
theorem dX10_pump_17 : decode mX10_pump.2.2.1 17 = .ok (.istore_n 3, 1) := by decide +kernel
theorem dX10_pump_18 : decode mX10_pump.2.2.1 18 = .ok (.iload_n 3, 1) := by decide +kernel
theorem dX10_pump_19 : decode mX10_pump.2.2.1 19 = .ok (.ifCond .eq 88, 3) := by decide +kernel
theorem dX10_pump_22 : decode mX10_pump.2.2.1 22 = .ok (.iload_n 2, 1) := by decide +kernel
theorem dX10_pump_23 : decode mX10_pump.2.2.1 23 = .ok (.istore 4, 2) := by decide +kernel
theorem dX10_pump_25 : decode mX10_pump.2.2.1 25 = .ok (.iconst 0, 1) := by decide +kernel
theorem dX10_pump_26 : decode mX10_pump.2.2.1 26 = .ok (.istore 5, 2) := by decide +kernel
theorem dX10_pump_28 : decode mX10_pump.2.2.1 28 = .ok (.iload 5, 2) := by decide +kernel
theorem dX10_pump_30 : decode mX10_pump.2.2.1 30 = .ok (.iconst 4, 1) := by decide +kernel
theorem dX10_pump_31 : decode mX10_pump.2.2.1 31 = .ok (.if_icmp .ge 56, 3) := by decide +kernel
theorem dX10_pump_34 : decode mX10_pump.2.2.1 34 = .ok (.iconst 0, 1) := by decide +kernel
theorem dX10_pump_35 : decode mX10_pump.2.2.1 35 = .ok (.istore 6, 2) := by decide +kernel
theorem dX10_pump_37 : decode mX10_pump.2.2.1 37 = .ok (.iload 6, 2) := by decide +kernel
theorem dX10_pump_39 : decode mX10_pump.2.2.1 39 = .ok (.iconst 5, 1) := by decide +kernel
theorem dX10_pump_40 : decode mX10_pump.2.2.1 40 = .ok (.if_icmp .ge 41, 3) := by decide +kernel
theorem dX10_pump_43 : decode mX10_pump.2.2.1 43 = .ok (.iload_n 2, 1) := by decide +kernel
theorem dX10_pump_44 : decode mX10_pump.2.2.1 44 = .ok (.iload_n 1, 1) := by decide +kernel
theorem dX10_pump_45 : decode mX10_pump.2.2.1 45 = .ok (.if_icmp .eq 30, 3) := by decide +kernel
theorem dX10_pump_48 : decode mX10_pump.2.2.1 48 = .ok (.aload_n 0, 1) := by decide +kernel
theorem dX10_pump_49 : decode mX10_pump.2.2.1 49 = .ok (.iload 5, 2) := by decide +kernel
theorem dX10_pump_51 : decode mX10_pump.2.2.1 51 = .ok (.iload 6, 2) := by decide +kernel
theorem dX10_pump_53 : decode mX10_pump.2.2.1 53 = .ok (.invokevirtual 393, 3) := by decide +kernel
theorem dX10_pump_56 : decode mX10_pump.2.2.1 56 = .ok (.ifCond .ne 6, 3) := by decide +kernel
theorem dX10_pump_59 : decode mX10_pump.2.2.1 59 = .ok (.goto 16, 3) := by decide +kernel
theorem dX10_pump_62 : decode mX10_pump.2.2.1 62 = .ok (.aload_n 0, 1) := by decide +kernel
theorem dX10_pump_63 : decode mX10_pump.2.2.1 63 = .ok (.iload 5, 2) := by decide +kernel
theorem dX10_pump_65 : decode mX10_pump.2.2.1 65 = .ok (.iload 6, 2) := by decide +kernel
theorem dX10_pump_67 : decode mX10_pump.2.2.1 67 = .ok (.invokevirtual 396, 3) := by decide +kernel
theorem dX10_pump_70 : decode mX10_pump.2.2.1 70 = .ok (.istore 7, 2) := by decide +kernel
theorem dX10_pump_72 : decode mX10_pump.2.2.1 72 = .ok (.iinc 2 1, 3) := by decide +kernel
theorem dX10_pump_75 : decode mX10_pump.2.2.1 75 = .ok (.iinc 6 1, 3) := by decide +kernel
theorem dX10_pump_78 : decode mX10_pump.2.2.1 78 = .ok (.goto (-41), 3) := by decide +kernel
theorem dX10_pump_81 : decode mX10_pump.2.2.1 81 = .ok (.iinc 5 1, 3) := by decide +kernel
theorem dX10_pump_84 : decode mX10_pump.2.2.1 84 = .ok (.goto (-56), 3) := by decide +kernel
theorem dX10_pump_87 : decode mX10_pump.2.2.1 87 = .ok (.iload_n 2, 1) := by decide +kernel
theorem dX10_pump_88 : decode mX10_pump.2.2.1 88 = .ok (.iload 4, 2) := by decide +kernel
theorem dX10_pump_90 : decode mX10_pump.2.2.1 90 = .ok (.if_icmp .le 12, 3) := by decide +kernel
theorem dX10_pump_93 : decode mX10_pump.2.2.1 93 = .ok (.iload_n 2, 1) := by decide +kernel
theorem dX10_pump_94 : decode mX10_pump.2.2.1 94 = .ok (.iload_n 1, 1) := by decide +kernel
theorem dX10_pump_95 : decode mX10_pump.2.2.1 95 = .ok (.if_icmp .ge 7, 3) := by decide +kernel
theorem dX10_pump_98 : decode mX10_pump.2.2.1 98 = .ok (.iconst 1, 1) := by decide +kernel
theorem dX10_pump_99 : decode mX10_pump.2.2.1 99 = .ok (.goto 4, 3) := by decide +kernel
theorem dX10_pump_102 : decode mX10_pump.2.2.1 102 = .ok (.iconst 0, 1) := by decide +kernel
theorem dX10_pump_103 : decode mX10_pump.2.2.1 103 = .ok (.istore_n 3, 1) := by decide +kernel
theorem dX10_pump_104 : decode mX10_pump.2.2.1 104 = .ok (.goto (-86), 3) := by decide +kernel
theorem dX10_pump_107 : decode mX10_pump.2.2.1 107 = .ok (.iload_n 2, 1) := by decide +kernel
theorem dX10_pump_108 : decode mX10_pump.2.2.1 108 = .ok (.ireturn, 1) := by decide +kernel
theorem dX10_known_0 : decode mX10_known.2.2.1 0 = .ok (.iload_n 1, 1) := by decide +kernel
theorem dX10_known_1 : decode mX10_known.2.2.1 1 = .ok (.iconst 4, 1) := by decide +kernel
theorem dX10_known_2 : decode mX10_known.2.2.1 2 = .ok (.invokestatic 287, 3) := by decide +kernel
theorem dX10_known_5 : decode mX10_known.2.2.1 5 = .ok (.ifCond .eq 35, 3) := by decide +kernel
theorem dX10_known_8 : decode mX10_known.2.2.1 8 = .ok (.aload_n 0, 1) := by decide +kernel
theorem dX10_known_9 : decode mX10_known.2.2.1 9 = .ok (.getfield 66, 3) := by decide +kernel
theorem dX10_known_12 : decode mX10_known.2.2.1 12 = .ok (.iload_n 1, 1) := by decide +kernel
theorem dX10_known_13 : decode mX10_known.2.2.1 13 = .ok (.baload, 1) := by decide +kernel
theorem dX10_known_14 : decode mX10_known.2.2.1 14 = .ok (.ifCond .eq 26, 3) := by decide +kernel
theorem dX10_known_17 : decode mX10_known.2.2.1 17 = .ok (.iload_n 2, 1) := by decide +kernel
theorem dX10_known_18 : decode mX10_known.2.2.1 18 = .ok (.iconst 5, 1) := by decide +kernel
theorem dX10_known_19 : decode mX10_known.2.2.1 19 = .ok (.invokestatic 287, 3) := by decide +kernel
theorem dX10_known_22 : decode mX10_known.2.2.1 22 = .ok (.ifCond .eq 18, 3) := by decide +kernel
theorem dX10_known_25 : decode mX10_known.2.2.1 25 = .ok (.iload_n 1, 1) := by decide +kernel
theorem dX10_known_26 : decode mX10_known.2.2.1 26 = .ok (.iload_n 2, 1) := by decide +kernel
theorem dX10_known_27 : decode mX10_known.2.2.1 27 = .ok (.if_icmp .eq 13, 3) := by decide +kernel
theorem dX10_known_30 : decode mX10_known.2.2.1 30 = .ok (.iload_n 3, 1) := by decide +kernel
theorem dX10_known_31 : decode mX10_known.2.2.1 31 = .ok (.ifCond .lt 9, 3) := by decide +kernel
theorem dX10_known_34 : decode mX10_known.2.2.1 34 = .ok (.iload_n 3, 1) := by decide +kernel
theorem dX10_known_35 : decode mX10_known.2.2.1 35 = .ok (.bipush 9, 2) := by decide +kernel
theorem dX10_known_37 : decode mX10_known.2.2.1 37 = .ok (.if_icmp .le 5, 3) := by decide +kernel
theorem dX10_known_40 : decode mX10_known.2.2.1 40 = .ok (.iconst (-1), 1) := by decide +kernel
theorem dX10_known_41 : decode mX10_known.2.2.1 41 = .ok (.ireturn, 1) := by decide +kernel
theorem dX10_known_42 : decode mX10_known.2.2.1 42 = .ok (.iconst 5, 1) := by decide +kernel
theorem dX10_known_43 : decode mX10_known.2.2.1 43 = .ok (.iload_n 1, 1) := by decide +kernel
theorem dX10_known_44 : decode mX10_known.2.2.1 44 = .ok (.imul, 1) := by decide +kernel
theorem dX10_known_45 : decode mX10_known.2.2.1 45 = .ok (.iload_n 2, 1) := by decide +kernel
theorem dX10_known_46 : decode mX10_known.2.2.1 46 = .ok (.iadd, 1) := by decide +kernel
theorem dX10_known_47 : decode mX10_known.2.2.1 47 = .ok (.istore 4, 2) := by decide +kernel
theorem dX10_known_49 : decode mX10_known.2.2.1 49 = .ok (.iload_n 3, 1) := by decide +kernel
theorem dX10_known_50 : decode mX10_known.2.2.1 50 = .ok (.bipush 9, 2) := by decide +kernel
theorem dX10_known_52 : decode mX10_known.2.2.1 52 = .ok (.if_icmp .ne 11, 3) := by decide +kernel
theorem dX10_known_55 : decode mX10_known.2.2.1 55 = .ok (.aload_n 0, 1) := by decide +kernel
theorem dX10_known_56 : decode mX10_known.2.2.1 56 = .ok (.getfield 106, 3) := by decide +kernel
theorem dX10_known_59 : decode mX10_known.2.2.1 59 = .ok (.iload 4, 2) := by decide +kernel
theorem dX10_known_61 : decode mX10_known.2.2.1 61 = .ok (.iaload, 1) := by decide +kernel
theorem dX10_known_62 : decode mX10_known.2.2.1 62 = .ok (.ireturn, 1) := by decide +kernel
theorem dX10_known_63 : decode mX10_known.2.2.1 63 = .ok (.aload_n 0, 1) := by decide +kernel
theorem dX10_known_64 : decode mX10_known.2.2.1 64 = .ok (.getfield 82, 3) := by decide +kernel
theorem dX10_known_67 : decode mX10_known.2.2.1 67 = .ok (.iload 4, 2) := by decide +kernel
theorem dX10_known_69 : decode mX10_known.2.2.1 69 = .ok (.baload, 1) := by decide +kernel
theorem dX10_known_70 : decode mX10_known.2.2.1 70 = .ok (.ifCond .ne 5, 3) := by decide +kernel
theorem dX10_known_73 : decode mX10_known.2.2.1 73 = .ok (.iconst 0, 1) := by decide +kernel
theorem dX10_known_74 : decode mX10_known.2.2.1 74 = .ok (.ireturn, 1) := by decide +kernel
theorem dX10_known_75 : decode mX10_known.2.2.1 75 = .ok (.iconst 0, 1) := by decide +kernel
theorem dX10_known_76 : decode mX10_known.2.2.1 76 = .ok (.istore 5, 2) := by decide +kernel
theorem dX10_known_78 : decode mX10_known.2.2.1 78 = .ok (.iconst 0, 1) := by decide +kernel
theorem dX10_known_79 : decode mX10_known.2.2.1 79 = .ok (.istore 6, 2) := by decide +kernel
theorem dX10_known_81 : decode mX10_known.2.2.1 81 = .ok (.iload 6, 2) := by decide +kernel
theorem dX10_known_83 : decode mX10_known.2.2.1 83 = .ok (.aload_n 0, 1) := by decide +kernel
theorem dX10_known_84 : decode mX10_known.2.2.1 84 = .ok (.getfield 242, 3) := by decide +kernel
theorem dX10_known_87 : decode mX10_known.2.2.1 87 = .ok (.if_icmp .ge 35, 3) := by decide +kernel
theorem dX10_known_90 : decode mX10_known.2.2.1 90 = .ok (.iload 5, 2) := by decide +kernel
theorem dX10_known_92 : decode mX10_known.2.2.1 92 = .ok (.aload_n 0, 1) := by decide +kernel
theorem dX10_known_93 : decode mX10_known.2.2.1 93 = .ok (.getfield 103, 3) := by decide +kernel
theorem dX10_known_96 : decode mX10_known.2.2.1 96 = .ok (.bipush 64, 2) := by decide +kernel
theorem dX10_known_98 : decode mX10_known.2.2.1 98 = .ok (.iload 4, 2) := by decide +kernel
theorem dX10_known_100 : decode mX10_known.2.2.1 100 = .ok (.imul, 1) := by decide +kernel
theorem dX10_known_101 : decode mX10_known.2.2.1 101 = .ok (.iload 6, 2) := by decide +kernel
theorem dX10_known_103 : decode mX10_known.2.2.1 103 = .ok (.iadd, 1) := by decide +kernel
theorem dX10_known_104 : decode mX10_known.2.2.1 104 = .ok (.baload, 1) := by decide +kernel
theorem dX10_known_105 : decode mX10_known.2.2.1 105 = .ok (.ifCond .eq 7, 3) := by decide +kernel
theorem dX10_known_108 : decode mX10_known.2.2.1 108 = .ok (.iconst 1, 1) := by decide +kernel
theorem dX10_known_109 : decode mX10_known.2.2.1 109 = .ok (.goto 4, 3) := by decide +kernel
theorem dX10_known_112 : decode mX10_known.2.2.1 112 = .ok (.iconst 0, 1) := by decide +kernel
theorem dX10_known_113 : decode mX10_known.2.2.1 113 = .ok (.iadd, 1) := by decide +kernel
theorem dX10_known_114 : decode mX10_known.2.2.1 114 = .ok (.istore 5, 2) := by decide +kernel
theorem dX10_known_116 : decode mX10_known.2.2.1 116 = .ok (.iinc 6 1, 3) := by decide +kernel
theorem dX10_known_119 : decode mX10_known.2.2.1 119 = .ok (.goto (-38), 3) := by decide +kernel
theorem dX10_known_122 : decode mX10_known.2.2.1 122 = .ok (.iload_n 3, 1) := by decide +kernel
theorem dX10_known_123 : decode mX10_known.2.2.1 123 = .ok (.tableswitch 137 0 7 #[45, 47, 63, 79, 95, 111, 127, 130], 45) := by decide +kernel
theorem dX10_known_168 : decode mX10_known.2.2.1 168 = .ok (.iconst 1, 1) := by decide +kernel
theorem dX10_known_169 : decode mX10_known.2.2.1 169 = .ok (.ireturn, 1) := by decide +kernel
theorem dX10_known_170 : decode mX10_known.2.2.1 170 = .ok (.aload_n 0, 1) := by decide +kernel
theorem dX10_known_171 : decode mX10_known.2.2.1 171 = .ok (.getfield 85, 3) := by decide +kernel
theorem dX10_known_174 : decode mX10_known.2.2.1 174 = .ok (.iload 4, 2) := by decide +kernel
theorem dX10_known_176 : decode mX10_known.2.2.1 176 = .ok (.baload, 1) := by decide +kernel
theorem dX10_known_177 : decode mX10_known.2.2.1 177 = .ok (.ifCond .eq 7, 3) := by decide +kernel
theorem dX10_known_180 : decode mX10_known.2.2.1 180 = .ok (.iconst 1, 1) := by decide +kernel
theorem dX10_known_181 : decode mX10_known.2.2.1 181 = .ok (.goto 4, 3) := by decide +kernel
theorem dX10_known_184 : decode mX10_known.2.2.1 184 = .ok (.iconst 0, 1) := by decide +kernel
theorem dX10_known_185 : decode mX10_known.2.2.1 185 = .ok (.ireturn, 1) := by decide +kernel
theorem dX10_known_186 : decode mX10_known.2.2.1 186 = .ok (.aload_n 0, 1) := by decide +kernel
theorem dX10_known_187 : decode mX10_known.2.2.1 187 = .ok (.getfield 91, 3) := by decide +kernel
theorem dX10_known_190 : decode mX10_known.2.2.1 190 = .ok (.iload 4, 2) := by decide +kernel
theorem dX10_known_192 : decode mX10_known.2.2.1 192 = .ok (.baload, 1) := by decide +kernel
theorem dX10_known_193 : decode mX10_known.2.2.1 193 = .ok (.ifCond .eq 7, 3) := by decide +kernel
theorem dX10_known_196 : decode mX10_known.2.2.1 196 = .ok (.iconst 1, 1) := by decide +kernel
theorem dX10_known_197 : decode mX10_known.2.2.1 197 = .ok (.goto 4, 3) := by decide +kernel
theorem dX10_known_200 : decode mX10_known.2.2.1 200 = .ok (.iconst 0, 1) := by decide +kernel
theorem dX10_known_201 : decode mX10_known.2.2.1 201 = .ok (.ireturn, 1) := by decide +kernel
theorem dX10_known_202 : decode mX10_known.2.2.1 202 = .ok (.aload_n 0, 1) := by decide +kernel
theorem dX10_known_203 : decode mX10_known.2.2.1 203 = .ok (.getfield 97, 3) := by decide +kernel
theorem dX10_known_206 : decode mX10_known.2.2.1 206 = .ok (.iload 4, 2) := by decide +kernel
theorem dX10_known_208 : decode mX10_known.2.2.1 208 = .ok (.baload, 1) := by decide +kernel
theorem dX10_known_209 : decode mX10_known.2.2.1 209 = .ok (.ifCond .eq 7, 3) := by decide +kernel
theorem dX10_known_212 : decode mX10_known.2.2.1 212 = .ok (.iconst 1, 1) := by decide +kernel
theorem dX10_known_213 : decode mX10_known.2.2.1 213 = .ok (.goto 4, 3) := by decide +kernel
theorem dX10_known_216 : decode mX10_known.2.2.1 216 = .ok (.iconst 0, 1) := by decide +kernel
theorem dX10_known_217 : decode mX10_known.2.2.1 217 = .ok (.ireturn, 1) := by decide +kernel
theorem dX10_known_218 : decode mX10_known.2.2.1 218 = .ok (.aload_n 0, 1) := by decide +kernel
theorem dX10_known_219 : decode mX10_known.2.2.1 219 = .ok (.getfield 94, 3) := by decide +kernel
theorem dX10_known_222 : decode mX10_known.2.2.1 222 = .ok (.iload 4, 2) := by decide +kernel
theorem dX10_known_224 : decode mX10_known.2.2.1 224 = .ok (.baload, 1) := by decide +kernel
theorem dX10_known_225 : decode mX10_known.2.2.1 225 = .ok (.ifCond .eq 7, 3) := by decide +kernel
theorem dX10_known_228 : decode mX10_known.2.2.1 228 = .ok (.iconst 1, 1) := by decide +kernel
theorem dX10_known_229 : decode mX10_known.2.2.1 229 = .ok (.goto 4, 3) := by decide +kernel
theorem dX10_known_232 : decode mX10_known.2.2.1 232 = .ok (.iconst 0, 1) := by decide +kernel
theorem dX10_known_233 : decode mX10_known.2.2.1 233 = .ok (.ireturn, 1) := by decide +kernel
theorem dX10_known_234 : decode mX10_known.2.2.1 234 = .ok (.aload_n 0, 1) := by decide +kernel
theorem dX10_known_235 : decode mX10_known.2.2.1 235 = .ok (.getfield 100, 3) := by decide +kernel
theorem dX10_known_238 : decode mX10_known.2.2.1 238 = .ok (.iload 4, 2) := by decide +kernel
theorem dX10_known_240 : decode mX10_known.2.2.1 240 = .ok (.baload, 1) := by decide +kernel
theorem dX10_known_241 : decode mX10_known.2.2.1 241 = .ok (.ifCond .eq 7, 3) := by decide +kernel
theorem dX10_known_244 : decode mX10_known.2.2.1 244 = .ok (.iconst 1, 1) := by decide +kernel
theorem dX10_known_245 : decode mX10_known.2.2.1 245 = .ok (.goto 4, 3) := by decide +kernel
theorem dX10_known_248 : decode mX10_known.2.2.1 248 = .ok (.iconst 0, 1) := by decide +kernel
theorem dX10_known_249 : decode mX10_known.2.2.1 249 = .ok (.ireturn, 1) := by decide +kernel
theorem dX10_known_250 : decode mX10_known.2.2.1 250 = .ok (.iload 5, 2) := by decide +kernel
theorem dX10_known_252 : decode mX10_known.2.2.1 252 = .ok (.ireturn, 1) := by decide +kernel
theorem dX10_known_253 : decode mX10_known.2.2.1 253 = .ok (.aload_n 0, 1) := by decide +kernel
theorem dX10_known_254 : decode mX10_known.2.2.1 254 = .ok (.iload 4, 2) := by decide +kernel
theorem dX10_known_256 : decode mX10_known.2.2.1 256 = .ok (.invokevirtual 369, 3) := by decide +kernel
theorem dX10_known_259 : decode mX10_known.2.2.1 259 = .ok (.ireturn, 1) := by decide +kernel
theorem dX10_known_260 : decode mX10_known.2.2.1 260 = .ok (.aload_n 0, 1) := by decide +kernel
theorem dX10_known_261 : decode mX10_known.2.2.1 261 = .ok (.getfield 116, 3) := by decide +kernel
theorem dX10_known_264 : decode mX10_known.2.2.1 264 = .ok (.iconst 5, 1) := by decide +kernel
theorem dX10_known_265 : decode mX10_known.2.2.1 265 = .ok (.iload_n 2, 1) := by decide +kernel
theorem dX10_known_266 : decode mX10_known.2.2.1 266 = .ok (.imul, 1) := by decide +kernel
theorem dX10_known_267 : decode mX10_known.2.2.1 267 = .ok (.iload_n 1, 1) := by decide +kernel
theorem dX10_known_268 : decode mX10_known.2.2.1 268 = .ok (.iadd, 1) := by decide +kernel
theorem dX10_known_269 : decode mX10_known.2.2.1 269 = .ok (.iaload, 1) := by decide +kernel
theorem dX10_known_270 : decode mX10_known.2.2.1 270 = .ok (.ireturn, 1) := by decide +kernel
theorem dX10_piece_0 : decode mX10_piece.2.2.1 0 = .ok (.iload_n 1, 1) := by decide +kernel
theorem dX10_piece_1 : decode mX10_piece.2.2.1 1 = .ok (.iconst 4, 1) := by decide +kernel
theorem dX10_piece_2 : decode mX10_piece.2.2.1 2 = .ok (.invokestatic 287, 3) := by decide +kernel
theorem dX10_piece_5 : decode mX10_piece.2.2.1 5 = .ok (.ifCond .eq 23, 3) := by decide +kernel
theorem dX10_piece_8 : decode mX10_piece.2.2.1 8 = .ok (.aload_n 0, 1) := by decide +kernel
theorem dX10_piece_9 : decode mX10_piece.2.2.1 9 = .ok (.getfield 66, 3) := by decide +kernel
theorem dX10_piece_12 : decode mX10_piece.2.2.1 12 = .ok (.iload_n 1, 1) := by decide +kernel
theorem dX10_piece_13 : decode mX10_piece.2.2.1 13 = .ok (.baload, 1) := by decide +kernel
theorem dX10_piece_14 : decode mX10_piece.2.2.1 14 = .ok (.ifCond .eq 14, 3) := by decide +kernel
theorem dX10_piece_17 : decode mX10_piece.2.2.1 17 = .ok (.iload_n 2, 1) := by decide +kernel
theorem dX10_piece_18 : decode mX10_piece.2.2.1 18 = .ok (.aload_n 0, 1) := by decide +kernel
theorem dX10_piece_19 : decode mX10_piece.2.2.1 19 = .ok (.getfield 242, 3) := by decide +kernel
theorem dX10_piece_22 : decode mX10_piece.2.2.1 22 = .ok (.invokestatic 287, 3) := by decide +kernel
theorem dX10_piece_25 : decode mX10_piece.2.2.1 25 = .ok (.ifCond .ne 5, 3) := by decide +kernel
theorem dX10_piece_28 : decode mX10_piece.2.2.1 28 = .ok (.iconst (-1), 1) := by decide +kernel
theorem dX10_piece_29 : decode mX10_piece.2.2.1 29 = .ok (.ireturn, 1) := by decide +kernel
theorem dX10_piece_30 : decode mX10_piece.2.2.1 30 = .ok (.aload_n 0, 1) := by decide +kernel
theorem dX10_piece_31 : decode mX10_piece.2.2.1 31 = .ok (.getfield 73, 3) := by decide +kernel
theorem dX10_piece_34 : decode mX10_piece.2.2.1 34 = .ok (.bipush 64, 2) := by decide +kernel
theorem dX10_piece_36 : decode mX10_piece.2.2.1 36 = .ok (.iload_n 1, 1) := by decide +kernel
theorem dX10_piece_37 : decode mX10_piece.2.2.1 37 = .ok (.imul, 1) := by decide +kernel
theorem dX10_piece_38 : decode mX10_piece.2.2.1 38 = .ok (.iload_n 2, 1) := by decide +kernel
theorem dX10_piece_39 : decode mX10_piece.2.2.1 39 = .ok (.iadd, 1) := by decide +kernel
theorem dX10_piece_40 : decode mX10_piece.2.2.1 40 = .ok (.baload, 1) := by decide +kernel
theorem dX10_piece_41 : decode mX10_piece.2.2.1 41 = .ok (.ifCond .eq 5, 3) := by decide +kernel
theorem dX10_piece_44 : decode mX10_piece.2.2.1 44 = .ok (.iconst 2, 1) := by decide +kernel
theorem dX10_piece_45 : decode mX10_piece.2.2.1 45 = .ok (.ireturn, 1) := by decide +kernel
theorem dX10_piece_46 : decode mX10_piece.2.2.1 46 = .ok (.iconst 0, 1) := by decide +kernel
theorem dX10_piece_47 : decode mX10_piece.2.2.1 47 = .ok (.istore_n 3, 1) := by decide +kernel
theorem dX10_piece_48 : decode mX10_piece.2.2.1 48 = .ok (.iconst 0, 1) := by decide +kernel
theorem dX10_piece_49 : decode mX10_piece.2.2.1 49 = .ok (.istore 4, 2) := by decide +kernel
theorem dX10_piece_51 : decode mX10_piece.2.2.1 51 = .ok (.iload 4, 2) := by decide +kernel
theorem dX10_piece_53 : decode mX10_piece.2.2.1 53 = .ok (.aload_n 0, 1) := by decide +kernel
theorem dX10_piece_54 : decode mX10_piece.2.2.1 54 = .ok (.iload_n 2, 1) := by decide +kernel
theorem dX10_piece_55 : decode mX10_piece.2.2.1 55 = .ok (.invokevirtual 357, 3) := by decide +kernel
theorem dX10_piece_58 : decode mX10_piece.2.2.1 58 = .ok (.if_icmp .ge 40, 3) := by decide +kernel
theorem dX10_piece_61 : decode mX10_piece.2.2.1 61 = .ok (.iload_n 3, 1) := by decide +kernel
theorem dX10_piece_62 : decode mX10_piece.2.2.1 62 = .ok (.ifCond .ne 24, 3) := by decide +kernel
theorem dX10_piece_65 : decode mX10_piece.2.2.1 65 = .ok (.aload_n 0, 1) := by decide +kernel
theorem dX10_piece_66 : decode mX10_piece.2.2.1 66 = .ok (.getfield 76, 3) := by decide +kernel
theorem dX10_piece_69 : decode mX10_piece.2.2.1 69 = .ok (.sipush 1024, 3) := by decide +kernel
theorem dX10_piece_72 : decode mX10_piece.2.2.1 72 = .ok (.iload_n 1, 1) := by decide +kernel
theorem dX10_piece_73 : decode mX10_piece.2.2.1 73 = .ok (.imul, 1) := by decide +kernel
theorem dX10_piece_74 : decode mX10_piece.2.2.1 74 = .ok (.bipush 16, 2) := by decide +kernel
theorem dX10_piece_76 : decode mX10_piece.2.2.1 76 = .ok (.iload_n 2, 1) := by decide +kernel
theorem dX10_piece_77 : decode mX10_piece.2.2.1 77 = .ok (.imul, 1) := by decide +kernel
theorem dX10_piece_78 : decode mX10_piece.2.2.1 78 = .ok (.iadd, 1) := by decide +kernel
theorem dX10_piece_79 : decode mX10_piece.2.2.1 79 = .ok (.iload 4, 2) := by decide +kernel
theorem dX10_piece_81 : decode mX10_piece.2.2.1 81 = .ok (.iadd, 1) := by decide +kernel
theorem dX10_piece_82 : decode mX10_piece.2.2.1 82 = .ok (.baload, 1) := by decide +kernel
theorem dX10_piece_83 : decode mX10_piece.2.2.1 83 = .ok (.ifCond .eq 7, 3) := by decide +kernel
theorem dX10_piece_86 : decode mX10_piece.2.2.1 86 = .ok (.iconst 1, 1) := by decide +kernel
theorem dX10_piece_87 : decode mX10_piece.2.2.1 87 = .ok (.goto 4, 3) := by decide +kernel
theorem dX10_piece_90 : decode mX10_piece.2.2.1 90 = .ok (.iconst 0, 1) := by decide +kernel
theorem dX10_piece_91 : decode mX10_piece.2.2.1 91 = .ok (.istore_n 3, 1) := by decide +kernel
theorem dX10_piece_92 : decode mX10_piece.2.2.1 92 = .ok (.iinc 4 1, 3) := by decide +kernel
theorem dX10_piece_95 : decode mX10_piece.2.2.1 95 = .ok (.goto (-44), 3) := by decide +kernel
theorem dX10_piece_98 : decode mX10_piece.2.2.1 98 = .ok (.iload_n 3, 1) := by decide +kernel
theorem dX10_piece_99 : decode mX10_piece.2.2.1 99 = .ok (.ifCond .eq 7, 3) := by decide +kernel
theorem dX10_piece_102 : decode mX10_piece.2.2.1 102 = .ok (.iconst 1, 1) := by decide +kernel
theorem dX10_piece_103 : decode mX10_piece.2.2.1 103 = .ok (.goto 4, 3) := by decide +kernel
theorem dX10_piece_106 : decode mX10_piece.2.2.1 106 = .ok (.iconst 0, 1) := by decide +kernel
theorem dX10_piece_107 : decode mX10_piece.2.2.1 107 = .ok (.ireturn, 1) := by decide +kernel
theorem dX10_told_0 : decode mX10_told.2.2.1 0 = .ok (.iload_n 1, 1) := by decide +kernel
theorem dX10_told_1 : decode mX10_told.2.2.1 1 = .ok (.iconst 4, 1) := by decide +kernel
theorem dX10_told_2 : decode mX10_told.2.2.1 2 = .ok (.invokestatic 287, 3) := by decide +kernel
theorem dX10_told_5 : decode mX10_told.2.2.1 5 = .ok (.ifCond .eq 32, 3) := by decide +kernel
theorem dX10_told_8 : decode mX10_told.2.2.1 8 = .ok (.aload_n 0, 1) := by decide +kernel
theorem dX10_told_9 : decode mX10_told.2.2.1 9 = .ok (.getfield 66, 3) := by decide +kernel
theorem dX10_told_12 : decode mX10_told.2.2.1 12 = .ok (.iload_n 1, 1) := by decide +kernel
theorem dX10_told_13 : decode mX10_told.2.2.1 13 = .ok (.baload, 1) := by decide +kernel
theorem dX10_told_14 : decode mX10_told.2.2.1 14 = .ok (.ifCond .eq 23, 3) := by decide +kernel
theorem dX10_told_17 : decode mX10_told.2.2.1 17 = .ok (.aload_n 0, 1) := by decide +kernel
theorem dX10_told_18 : decode mX10_told.2.2.1 18 = .ok (.iload_n 1, 1) := by decide +kernel
theorem dX10_told_19 : decode mX10_told.2.2.1 19 = .ok (.iload_n 2, 1) := by decide +kernel
theorem dX10_told_20 : decode mX10_told.2.2.1 20 = .ok (.invokevirtual 293, 3) := by decide +kernel
theorem dX10_told_23 : decode mX10_told.2.2.1 23 = .ok (.ifCond .eq 14, 3) := by decide +kernel
theorem dX10_told_26 : decode mX10_told.2.2.1 26 = .ok (.iload_n 3, 1) := by decide +kernel
theorem dX10_told_27 : decode mX10_told.2.2.1 27 = .ok (.aload_n 0, 1) := by decide +kernel
theorem dX10_told_28 : decode mX10_told.2.2.1 28 = .ok (.getfield 242, 3) := by decide +kernel
theorem dX10_told_31 : decode mX10_told.2.2.1 31 = .ok (.invokestatic 287, 3) := by decide +kernel
theorem dX10_told_34 : decode mX10_told.2.2.1 34 = .ok (.ifCond .ne 5, 3) := by decide +kernel
theorem dX10_told_37 : decode mX10_told.2.2.1 37 = .ok (.iconst (-1), 1) := by decide +kernel
theorem dX10_told_38 : decode mX10_told.2.2.1 38 = .ok (.ireturn, 1) := by decide +kernel
theorem dX10_told_39 : decode mX10_told.2.2.1 39 = .ok (.aload_n 0, 1) := by decide +kernel
theorem dX10_told_40 : decode mX10_told.2.2.1 40 = .ok (.getfield 103, 3) := by decide +kernel
theorem dX10_told_43 : decode mX10_told.2.2.1 43 = .ok (.bipush 64, 2) := by decide +kernel
theorem dX10_told_45 : decode mX10_told.2.2.1 45 = .ok (.iconst 5, 1) := by decide +kernel
theorem dX10_told_46 : decode mX10_told.2.2.1 46 = .ok (.iload_n 1, 1) := by decide +kernel
theorem dX10_told_47 : decode mX10_told.2.2.1 47 = .ok (.imul, 1) := by decide +kernel
theorem dX10_told_48 : decode mX10_told.2.2.1 48 = .ok (.iload_n 2, 1) := by decide +kernel
theorem dX10_told_49 : decode mX10_told.2.2.1 49 = .ok (.iadd, 1) := by decide +kernel
theorem dX10_told_50 : decode mX10_told.2.2.1 50 = .ok (.imul, 1) := by decide +kernel
theorem dX10_told_51 : decode mX10_told.2.2.1 51 = .ok (.iload_n 3, 1) := by decide +kernel
theorem dX10_told_52 : decode mX10_told.2.2.1 52 = .ok (.iadd, 1) := by decide +kernel
theorem dX10_told_53 : decode mX10_told.2.2.1 53 = .ok (.baload, 1) := by decide +kernel
theorem dX10_told_54 : decode mX10_told.2.2.1 54 = .ok (.ifCond .eq 7, 3) := by decide +kernel
theorem dX10_told_57 : decode mX10_told.2.2.1 57 = .ok (.iconst 1, 1) := by decide +kernel
theorem dX10_told_58 : decode mX10_told.2.2.1 58 = .ok (.goto 4, 3) := by decide +kernel
theorem dX10_told_61 : decode mX10_told.2.2.1 61 = .ok (.iconst 0, 1) := by decide +kernel
theorem dX10_told_62 : decode mX10_told.2.2.1 62 = .ok (.ireturn, 1) := by decide +kernel
theorem dX10_disk_0 : decode mX10_disk.2.2.1 0 = .ok (.iload_n 1, 1) := by decide +kernel
theorem dX10_disk_1 : decode mX10_disk.2.2.1 1 = .ok (.iconst 4, 1) := by decide +kernel
theorem dX10_disk_2 : decode mX10_disk.2.2.1 2 = .ok (.invokestatic 287, 3) := by decide +kernel
theorem dX10_disk_5 : decode mX10_disk.2.2.1 5 = .ok (.ifCond .eq 23, 3) := by decide +kernel
theorem dX10_disk_8 : decode mX10_disk.2.2.1 8 = .ok (.aload_n 0, 1) := by decide +kernel
theorem dX10_disk_9 : decode mX10_disk.2.2.1 9 = .ok (.getfield 66, 3) := by decide +kernel
theorem dX10_disk_12 : decode mX10_disk.2.2.1 12 = .ok (.iload_n 1, 1) := by decide +kernel
theorem dX10_disk_13 : decode mX10_disk.2.2.1 13 = .ok (.baload, 1) := by decide +kernel
theorem dX10_disk_14 : decode mX10_disk.2.2.1 14 = .ok (.ifCond .eq 14, 3) := by decide +kernel
theorem dX10_disk_17 : decode mX10_disk.2.2.1 17 = .ok (.iload_n 2, 1) := by decide +kernel
theorem dX10_disk_18 : decode mX10_disk.2.2.1 18 = .ok (.aload_n 0, 1) := by decide +kernel
theorem dX10_disk_19 : decode mX10_disk.2.2.1 19 = .ok (.getfield 236, 3) := by decide +kernel
theorem dX10_disk_22 : decode mX10_disk.2.2.1 22 = .ok (.invokestatic 287, 3) := by decide +kernel
theorem dX10_disk_25 : decode mX10_disk.2.2.1 25 = .ok (.ifCond .ne 7, 3) := by decide +kernel
theorem dX10_disk_28 : decode mX10_disk.2.2.1 28 = .ok (.iconst (-1), 1) := by decide +kernel
theorem dX10_disk_29 : decode mX10_disk.2.2.1 29 = .ok (.goto 19, 3) := by decide +kernel
theorem dX10_disk_32 : decode mX10_disk.2.2.1 32 = .ok (.aload_n 0, 1) := by decide +kernel
theorem dX10_disk_33 : decode mX10_disk.2.2.1 33 = .ok (.getfield 70, 3) := by decide +kernel
theorem dX10_disk_36 : decode mX10_disk.2.2.1 36 = .ok (.sipush 4096, 3) := by decide +kernel
theorem dX10_disk_39 : decode mX10_disk.2.2.1 39 = .ok (.iload_n 1, 1) := by decide +kernel
theorem dX10_disk_40 : decode mX10_disk.2.2.1 40 = .ok (.imul, 1) := by decide +kernel
theorem dX10_disk_41 : decode mX10_disk.2.2.1 41 = .ok (.iload_n 2, 1) := by decide +kernel
theorem dX10_disk_42 : decode mX10_disk.2.2.1 42 = .ok (.iadd, 1) := by decide +kernel
theorem dX10_disk_43 : decode mX10_disk.2.2.1 43 = .ok (.baload, 1) := by decide +kernel
theorem dX10_disk_44 : decode mX10_disk.2.2.1 44 = .ok (.sipush 255, 3) := by decide +kernel
theorem dX10_disk_47 : decode mX10_disk.2.2.1 47 = .ok (.iand, 1) := by decide +kernel
theorem dX10_disk_48 : decode mX10_disk.2.2.1 48 = .ok (.ireturn, 1) := by decide +kernel
theorem dX10_count_0 : decode mX10_count.2.2.1 0 = .ok (.iload_n 1, 1) := by decide +kernel
theorem dX10_count_1 : decode mX10_count.2.2.1 1 = .ok (.iconst 4, 1) := by decide +kernel
theorem dX10_count_2 : decode mX10_count.2.2.1 2 = .ok (.invokestatic 287, 3) := by decide +kernel
theorem dX10_count_5 : decode mX10_count.2.2.1 5 = .ok (.ifCond .eq 20, 3) := by decide +kernel
theorem dX10_count_8 : decode mX10_count.2.2.1 8 = .ok (.aload_n 0, 1) := by decide +kernel
theorem dX10_count_9 : decode mX10_count.2.2.1 9 = .ok (.getfield 66, 3) := by decide +kernel
theorem dX10_count_12 : decode mX10_count.2.2.1 12 = .ok (.iload_n 1, 1) := by decide +kernel
theorem dX10_count_13 : decode mX10_count.2.2.1 13 = .ok (.baload, 1) := by decide +kernel
theorem dX10_count_14 : decode mX10_count.2.2.1 14 = .ok (.ifCond .eq 11, 3) := by decide +kernel
theorem dX10_count_17 : decode mX10_count.2.2.1 17 = .ok (.iload_n 2, 1) := by decide +kernel
theorem dX10_count_18 : decode mX10_count.2.2.1 18 = .ok (.iconst 5, 1) := by decide +kernel
theorem dX10_count_19 : decode mX10_count.2.2.1 19 = .ok (.invokestatic 287, 3) := by decide +kernel
theorem dX10_count_22 : decode mX10_count.2.2.1 22 = .ok (.ifCond .ne 5, 3) := by decide +kernel
theorem dX10_count_25 : decode mX10_count.2.2.1 25 = .ok (.iconst (-1), 1) := by decide +kernel
theorem dX10_count_26 : decode mX10_count.2.2.1 26 = .ok (.ireturn, 1) := by decide +kernel
theorem dX10_count_27 : decode mX10_count.2.2.1 27 = .ok (.iload_n 2, 1) := by decide +kernel
theorem dX10_count_28 : decode mX10_count.2.2.1 28 = .ok (.ifCond .le 14, 3) := by decide +kernel
theorem dX10_count_31 : decode mX10_count.2.2.1 31 = .ok (.aload_n 0, 1) := by decide +kernel
theorem dX10_count_32 : decode mX10_count.2.2.1 32 = .ok (.getfield 79, 3) := by decide +kernel
theorem dX10_count_35 : decode mX10_count.2.2.1 35 = .ok (.iconst 5, 1) := by decide +kernel
theorem dX10_count_36 : decode mX10_count.2.2.1 36 = .ok (.iload_n 1, 1) := by decide +kernel
theorem dX10_count_37 : decode mX10_count.2.2.1 37 = .ok (.imul, 1) := by decide +kernel
theorem dX10_count_38 : decode mX10_count.2.2.1 38 = .ok (.iload_n 2, 1) := by decide +kernel
theorem dX10_count_39 : decode mX10_count.2.2.1 39 = .ok (.iadd, 1) := by decide +kernel
theorem dX10_count_40 : decode mX10_count.2.2.1 40 = .ok (.iaload, 1) := by decide +kernel
theorem dX10_count_41 : decode mX10_count.2.2.1 41 = .ok (.ireturn, 1) := by decide +kernel
theorem dX10_count_42 : decode mX10_count.2.2.1 42 = .ok (.iconst 0, 1) := by decide +kernel
theorem dX10_count_43 : decode mX10_count.2.2.1 43 = .ok (.istore_n 3, 1) := by decide +kernel
theorem dX10_count_44 : decode mX10_count.2.2.1 44 = .ok (.iconst 0, 1) := by decide +kernel
theorem dX10_count_45 : decode mX10_count.2.2.1 45 = .ok (.istore 4, 2) := by decide +kernel
theorem dX10_count_47 : decode mX10_count.2.2.1 47 = .ok (.iload 4, 2) := by decide +kernel
theorem dX10_count_49 : decode mX10_count.2.2.1 49 = .ok (.aload_n 0, 1) := by decide +kernel
theorem dX10_count_50 : decode mX10_count.2.2.1 50 = .ok (.getfield 242, 3) := by decide +kernel
theorem dX10_count_53 : decode mX10_count.2.2.1 53 = .ok (.if_icmp .ge 32, 3) := by decide +kernel
theorem dX10_count_56 : decode mX10_count.2.2.1 56 = .ok (.iload_n 3, 1) := by decide +kernel
theorem dX10_count_57 : decode mX10_count.2.2.1 57 = .ok (.aload_n 0, 1) := by decide +kernel
theorem dX10_count_58 : decode mX10_count.2.2.1 58 = .ok (.getfield 73, 3) := by decide +kernel
theorem dX10_count_61 : decode mX10_count.2.2.1 61 = .ok (.bipush 64, 2) := by decide +kernel
theorem dX10_count_63 : decode mX10_count.2.2.1 63 = .ok (.iload_n 1, 1) := by decide +kernel
theorem dX10_count_64 : decode mX10_count.2.2.1 64 = .ok (.imul, 1) := by decide +kernel
theorem dX10_count_65 : decode mX10_count.2.2.1 65 = .ok (.iload 4, 2) := by decide +kernel
theorem dX10_count_67 : decode mX10_count.2.2.1 67 = .ok (.iadd, 1) := by decide +kernel
theorem dX10_count_68 : decode mX10_count.2.2.1 68 = .ok (.baload, 1) := by decide +kernel
theorem dX10_count_69 : decode mX10_count.2.2.1 69 = .ok (.ifCond .eq 7, 3) := by decide +kernel
theorem dX10_count_72 : decode mX10_count.2.2.1 72 = .ok (.iconst 1, 1) := by decide +kernel
theorem dX10_count_73 : decode mX10_count.2.2.1 73 = .ok (.goto 4, 3) := by decide +kernel
theorem dX10_count_76 : decode mX10_count.2.2.1 76 = .ok (.iconst 0, 1) := by decide +kernel
theorem dX10_count_77 : decode mX10_count.2.2.1 77 = .ok (.iadd, 1) := by decide +kernel
theorem dX10_count_78 : decode mX10_count.2.2.1 78 = .ok (.istore_n 3, 1) := by decide +kernel
theorem dX10_count_79 : decode mX10_count.2.2.1 79 = .ok (.iinc 4 1, 3) := by decide +kernel
theorem dX10_count_82 : decode mX10_count.2.2.1 82 = .ok (.goto (-35), 3) := by decide +kernel
theorem dX10_count_85 : decode mX10_count.2.2.1 85 = .ok (.iload_n 3, 1) := by decide +kernel
theorem dX10_count_86 : decode mX10_count.2.2.1 86 = .ok (.ireturn, 1) := by decide +kernel
