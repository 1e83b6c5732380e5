theorem dL_law_0 : decode mL_law.2.2.1 0 = .ok (.new 7, 3) := by decide +kernel
theorem dL_law_3 : decode mL_law.2.2.1 3 = .ok (.dup, 1) := by decide +kernel
theorem dL_law_4 : decode mL_law.2.2.1 4 = .ok (.invokespecial 9, 3) := by decide +kernel
theorem dL_law_7 : decode mL_law.2.2.1 7 = .ok (.astore_n 1, 1) := by decide +kernel
theorem dL_law_8 : decode mL_law.2.2.1 8 = .ok (.new 10, 3) := by decide +kernel
theorem dL_law_11 : decode mL_law.2.2.1 11 = .ok (.dup, 1) := by decide +kernel
theorem dL_law_12 : decode mL_law.2.2.1 12 = .ok (.invokespecial 12, 3) := by decide +kernel
theorem dL_law_15 : decode mL_law.2.2.1 15 = .ok (.astore_n 2, 1) := by decide +kernel
theorem dL_law_16 : decode mL_law.2.2.1 16 = .ok (.iconst 0, 1) := by decide +kernel
theorem dL_law_17 : decode mL_law.2.2.1 17 = .ok (.istore_n 3, 1) := by decide +kernel
theorem dL_law_18 : decode mL_law.2.2.1 18 = .ok (.iload_n 3, 1) := by decide +kernel
theorem dL_law_19 : decode mL_law.2.2.1 19 = .ok (.aload_n 0, 1) := by decide +kernel
theorem dL_law_20 : decode mL_law.2.2.1 20 = .ok (.arraylength, 1) := by decide +kernel
theorem dL_law_21 : decode mL_law.2.2.1 21 = .ok (.bipush 6, 2) := by decide +kernel
theorem dL_law_23 : decode mL_law.2.2.1 23 = .ok (.isub, 1) := by decide +kernel
theorem dL_law_24 : decode mL_law.2.2.1 24 = .ok (.if_icmp .gt 871, 3) := by decide +kernel
theorem dL_law_27 : decode mL_law.2.2.1 27 = .ok (.aload_n 0, 1) := by decide +kernel
theorem dL_law_28 : decode mL_law.2.2.1 28 = .ok (.iload_n 3, 1) := by decide +kernel
theorem dL_law_29 : decode mL_law.2.2.1 29 = .ok (.iaload, 1) := by decide +kernel
theorem dL_law_30 : decode mL_law.2.2.1 30 = .ok (.bipush 31, 2) := by decide +kernel
theorem dL_law_32 : decode mL_law.2.2.1 32 = .ok (.iand, 1) := by decide +kernel
theorem dL_law_33 : decode mL_law.2.2.1 33 = .ok (.tableswitch 856 0 24 #[115, 178, 201, 214, 247, 270, 283, 306, 319, 332, 355, 388, 401, 450, 483, 516, 539, 562, 615, 648, 671, 714, 747, 790, 823], 115) := by decide +kernel
theorem dL_law_148 : decode mL_law.2.2.1 148 = .ok (.aload_n 1, 1) := by decide +kernel
theorem dL_law_149 : decode mL_law.2.2.1 149 = .ok (.aload_n 0, 1) := by decide +kernel
theorem dL_law_150 : decode mL_law.2.2.1 150 = .ok (.iload_n 3, 1) := by decide +kernel
theorem dL_law_151 : decode mL_law.2.2.1 151 = .ok (.iconst 1, 1) := by decide +kernel
theorem dL_law_152 : decode mL_law.2.2.1 152 = .ok (.iadd, 1) := by decide +kernel
theorem dL_law_153 : decode mL_law.2.2.1 153 = .ok (.iaload, 1) := by decide +kernel
theorem dL_law_154 : decode mL_law.2.2.1 154 = .ok (.aload_n 0, 1) := by decide +kernel
theorem dL_law_155 : decode mL_law.2.2.1 155 = .ok (.iload_n 3, 1) := by decide +kernel
theorem dL_law_156 : decode mL_law.2.2.1 156 = .ok (.iconst 2, 1) := by decide +kernel
theorem dL_law_157 : decode mL_law.2.2.1 157 = .ok (.iadd, 1) := by decide +kernel
theorem dL_law_158 : decode mL_law.2.2.1 158 = .ok (.iaload, 1) := by decide +kernel
theorem dL_law_159 : decode mL_law.2.2.1 159 = .ok (.aload_n 0, 1) := by decide +kernel
theorem dL_law_160 : decode mL_law.2.2.1 160 = .ok (.iload_n 3, 1) := by decide +kernel
theorem dL_law_161 : decode mL_law.2.2.1 161 = .ok (.iconst 3, 1) := by decide +kernel
theorem dL_law_162 : decode mL_law.2.2.1 162 = .ok (.iadd, 1) := by decide +kernel
theorem dL_law_163 : decode mL_law.2.2.1 163 = .ok (.iaload, 1) := by decide +kernel
theorem dL_law_164 : decode mL_law.2.2.1 164 = .ok (.aload_n 0, 1) := by decide +kernel
theorem dL_law_165 : decode mL_law.2.2.1 165 = .ok (.iload_n 3, 1) := by decide +kernel
theorem dL_law_166 : decode mL_law.2.2.1 166 = .ok (.iconst 4, 1) := by decide +kernel
theorem dL_law_167 : decode mL_law.2.2.1 167 = .ok (.iadd, 1) := by decide +kernel
theorem dL_law_168 : decode mL_law.2.2.1 168 = .ok (.iaload, 1) := by decide +kernel
theorem dL_law_169 : decode mL_law.2.2.1 169 = .ok (.aload_n 0, 1) := by decide +kernel
theorem dL_law_170 : decode mL_law.2.2.1 170 = .ok (.iload_n 3, 1) := by decide +kernel
theorem dL_law_171 : decode mL_law.2.2.1 171 = .ok (.iconst 5, 1) := by decide +kernel
theorem dL_law_172 : decode mL_law.2.2.1 172 = .ok (.iadd, 1) := by decide +kernel
theorem dL_law_173 : decode mL_law.2.2.1 173 = .ok (.iaload, 1) := by decide +kernel
theorem dL_law_174 : decode mL_law.2.2.1 174 = .ok (.invokevirtual 13, 3) := by decide +kernel
theorem dL_law_177 : decode mL_law.2.2.1 177 = .ok (.aload_n 2, 1) := by decide +kernel
theorem dL_law_178 : decode mL_law.2.2.1 178 = .ok (.aload_n 0, 1) := by decide +kernel
theorem dL_law_179 : decode mL_law.2.2.1 179 = .ok (.iload_n 3, 1) := by decide +kernel
theorem dL_law_180 : decode mL_law.2.2.1 180 = .ok (.iconst 1, 1) := by decide +kernel
theorem dL_law_181 : decode mL_law.2.2.1 181 = .ok (.iadd, 1) := by decide +kernel
theorem dL_law_182 : decode mL_law.2.2.1 182 = .ok (.iaload, 1) := by decide +kernel
theorem dL_law_183 : decode mL_law.2.2.1 183 = .ok (.aload_n 0, 1) := by decide +kernel
theorem dL_law_184 : decode mL_law.2.2.1 184 = .ok (.iload_n 3, 1) := by decide +kernel
theorem dL_law_185 : decode mL_law.2.2.1 185 = .ok (.iconst 2, 1) := by decide +kernel
theorem dL_law_186 : decode mL_law.2.2.1 186 = .ok (.iadd, 1) := by decide +kernel
theorem dL_law_187 : decode mL_law.2.2.1 187 = .ok (.iaload, 1) := by decide +kernel
theorem dL_law_188 : decode mL_law.2.2.1 188 = .ok (.aload_n 0, 1) := by decide +kernel
theorem dL_law_189 : decode mL_law.2.2.1 189 = .ok (.iload_n 3, 1) := by decide +kernel
theorem dL_law_190 : decode mL_law.2.2.1 190 = .ok (.iconst 3, 1) := by decide +kernel
theorem dL_law_191 : decode mL_law.2.2.1 191 = .ok (.iadd, 1) := by decide +kernel
theorem dL_law_192 : decode mL_law.2.2.1 192 = .ok (.iaload, 1) := by decide +kernel
theorem dL_law_193 : decode mL_law.2.2.1 193 = .ok (.aload_n 0, 1) := by decide +kernel
theorem dL_law_194 : decode mL_law.2.2.1 194 = .ok (.iload_n 3, 1) := by decide +kernel
theorem dL_law_195 : decode mL_law.2.2.1 195 = .ok (.iconst 4, 1) := by decide +kernel
theorem dL_law_196 : decode mL_law.2.2.1 196 = .ok (.iadd, 1) := by decide +kernel
theorem dL_law_197 : decode mL_law.2.2.1 197 = .ok (.iaload, 1) := by decide +kernel
theorem dL_law_198 : decode mL_law.2.2.1 198 = .ok (.aload_n 0, 1) := by decide +kernel
theorem dL_law_199 : decode mL_law.2.2.1 199 = .ok (.iload_n 3, 1) := by decide +kernel
theorem dL_law_200 : decode mL_law.2.2.1 200 = .ok (.iconst 5, 1) := by decide +kernel
theorem dL_law_201 : decode mL_law.2.2.1 201 = .ok (.iadd, 1) := by decide +kernel
theorem dL_law_202 : decode mL_law.2.2.1 202 = .ok (.iaload, 1) := by decide +kernel
theorem dL_law_203 : decode mL_law.2.2.1 203 = .ok (.invokevirtual 17, 3) := by decide +kernel
theorem dL_law_206 : decode mL_law.2.2.1 206 = .ok (.if_icmp .eq 683, 3) := by decide +kernel
theorem dL_law_209 : decode mL_law.2.2.1 209 = .ok (.iconst 0, 1) := by decide +kernel
theorem dL_law_210 : decode mL_law.2.2.1 210 = .ok (.ireturn, 1) := by decide +kernel
theorem dL_law_211 : decode mL_law.2.2.1 211 = .ok (.aload_n 1, 1) := by decide +kernel
theorem dL_law_212 : decode mL_law.2.2.1 212 = .ok (.aload_n 0, 1) := by decide +kernel
theorem dL_law_213 : decode mL_law.2.2.1 213 = .ok (.iload_n 3, 1) := by decide +kernel
theorem dL_law_214 : decode mL_law.2.2.1 214 = .ok (.iconst 1, 1) := by decide +kernel
theorem dL_law_215 : decode mL_law.2.2.1 215 = .ok (.iadd, 1) := by decide +kernel
theorem dL_law_216 : decode mL_law.2.2.1 216 = .ok (.iaload, 1) := by decide +kernel
theorem dL_law_217 : decode mL_law.2.2.1 217 = .ok (.invokevirtual 18, 3) := by decide +kernel
theorem dL_law_220 : decode mL_law.2.2.1 220 = .ok (.aload_n 2, 1) := by decide +kernel
theorem dL_law_221 : decode mL_law.2.2.1 221 = .ok (.aload_n 0, 1) := by decide +kernel
theorem dL_law_222 : decode mL_law.2.2.1 222 = .ok (.iload_n 3, 1) := by decide +kernel
theorem dL_law_223 : decode mL_law.2.2.1 223 = .ok (.iconst 1, 1) := by decide +kernel
theorem dL_law_224 : decode mL_law.2.2.1 224 = .ok (.iadd, 1) := by decide +kernel
theorem dL_law_225 : decode mL_law.2.2.1 225 = .ok (.iaload, 1) := by decide +kernel
theorem dL_law_226 : decode mL_law.2.2.1 226 = .ok (.invokevirtual 22, 3) := by decide +kernel
theorem dL_law_229 : decode mL_law.2.2.1 229 = .ok (.if_icmp .eq 660, 3) := by decide +kernel
theorem dL_law_232 : decode mL_law.2.2.1 232 = .ok (.iconst 0, 1) := by decide +kernel
theorem dL_law_233 : decode mL_law.2.2.1 233 = .ok (.ireturn, 1) := by decide +kernel
theorem dL_law_234 : decode mL_law.2.2.1 234 = .ok (.aload_n 1, 1) := by decide +kernel
theorem dL_law_235 : decode mL_law.2.2.1 235 = .ok (.invokevirtual 23, 3) := by decide +kernel
theorem dL_law_238 : decode mL_law.2.2.1 238 = .ok (.aload_n 2, 1) := by decide +kernel
theorem dL_law_239 : decode mL_law.2.2.1 239 = .ok (.invokevirtual 27, 3) := by decide +kernel
theorem dL_law_242 : decode mL_law.2.2.1 242 = .ok (.if_icmp .eq 647, 3) := by decide +kernel
theorem dL_law_245 : decode mL_law.2.2.1 245 = .ok (.iconst 0, 1) := by decide +kernel
theorem dL_law_246 : decode mL_law.2.2.1 246 = .ok (.ireturn, 1) := by decide +kernel
theorem dL_law_247 : decode mL_law.2.2.1 247 = .ok (.aload_n 1, 1) := by decide +kernel
theorem dL_law_248 : decode mL_law.2.2.1 248 = .ok (.aload_n 0, 1) := by decide +kernel
theorem dL_law_249 : decode mL_law.2.2.1 249 = .ok (.iload_n 3, 1) := by decide +kernel
theorem dL_law_250 : decode mL_law.2.2.1 250 = .ok (.iconst 1, 1) := by decide +kernel
theorem dL_law_251 : decode mL_law.2.2.1 251 = .ok (.iadd, 1) := by decide +kernel
theorem dL_law_252 : decode mL_law.2.2.1 252 = .ok (.iaload, 1) := by decide +kernel
theorem dL_law_253 : decode mL_law.2.2.1 253 = .ok (.aload_n 0, 1) := by decide +kernel
theorem dL_law_254 : decode mL_law.2.2.1 254 = .ok (.iload_n 3, 1) := by decide +kernel
theorem dL_law_255 : decode mL_law.2.2.1 255 = .ok (.iconst 2, 1) := by decide +kernel
theorem dL_law_256 : decode mL_law.2.2.1 256 = .ok (.iadd, 1) := by decide +kernel
theorem dL_law_257 : decode mL_law.2.2.1 257 = .ok (.iaload, 1) := by decide +kernel
theorem dL_law_258 : decode mL_law.2.2.1 258 = .ok (.invokevirtual 28, 3) := by decide +kernel
theorem dL_law_261 : decode mL_law.2.2.1 261 = .ok (.aload_n 2, 1) := by decide +kernel
theorem dL_law_262 : decode mL_law.2.2.1 262 = .ok (.aload_n 0, 1) := by decide +kernel
theorem dL_law_263 : decode mL_law.2.2.1 263 = .ok (.iload_n 3, 1) := by decide +kernel
theorem dL_law_264 : decode mL_law.2.2.1 264 = .ok (.iconst 1, 1) := by decide +kernel
theorem dL_law_265 : decode mL_law.2.2.1 265 = .ok (.iadd, 1) := by decide +kernel
theorem dL_law_266 : decode mL_law.2.2.1 266 = .ok (.iaload, 1) := by decide +kernel
theorem dL_law_267 : decode mL_law.2.2.1 267 = .ok (.aload_n 0, 1) := by decide +kernel
theorem dL_law_268 : decode mL_law.2.2.1 268 = .ok (.iload_n 3, 1) := by decide +kernel
theorem dL_law_269 : decode mL_law.2.2.1 269 = .ok (.iconst 2, 1) := by decide +kernel
theorem dL_law_270 : decode mL_law.2.2.1 270 = .ok (.iadd, 1) := by decide +kernel
theorem dL_law_271 : decode mL_law.2.2.1 271 = .ok (.iaload, 1) := by decide +kernel
theorem dL_law_272 : decode mL_law.2.2.1 272 = .ok (.invokevirtual 32, 3) := by decide +kernel
theorem dL_law_275 : decode mL_law.2.2.1 275 = .ok (.if_icmp .eq 614, 3) := by decide +kernel
theorem dL_law_278 : decode mL_law.2.2.1 278 = .ok (.iconst 0, 1) := by decide +kernel
theorem dL_law_279 : decode mL_law.2.2.1 279 = .ok (.ireturn, 1) := by decide +kernel
theorem dL_law_280 : decode mL_law.2.2.1 280 = .ok (.aload_n 1, 1) := by decide +kernel
theorem dL_law_281 : decode mL_law.2.2.1 281 = .ok (.aload_n 0, 1) := by decide +kernel
theorem dL_law_282 : decode mL_law.2.2.1 282 = .ok (.iload_n 3, 1) := by decide +kernel
theorem dL_law_283 : decode mL_law.2.2.1 283 = .ok (.iconst 1, 1) := by decide +kernel
theorem dL_law_284 : decode mL_law.2.2.1 284 = .ok (.iadd, 1) := by decide +kernel
theorem dL_law_285 : decode mL_law.2.2.1 285 = .ok (.iaload, 1) := by decide +kernel
theorem dL_law_286 : decode mL_law.2.2.1 286 = .ok (.invokevirtual 33, 3) := by decide +kernel
theorem dL_law_289 : decode mL_law.2.2.1 289 = .ok (.aload_n 2, 1) := by decide +kernel
theorem dL_law_290 : decode mL_law.2.2.1 290 = .ok (.aload_n 0, 1) := by decide +kernel
theorem dL_law_291 : decode mL_law.2.2.1 291 = .ok (.iload_n 3, 1) := by decide +kernel
theorem dL_law_292 : decode mL_law.2.2.1 292 = .ok (.iconst 1, 1) := by decide +kernel
theorem dL_law_293 : decode mL_law.2.2.1 293 = .ok (.iadd, 1) := by decide +kernel
theorem dL_law_294 : decode mL_law.2.2.1 294 = .ok (.iaload, 1) := by decide +kernel
theorem dL_law_295 : decode mL_law.2.2.1 295 = .ok (.invokevirtual 36, 3) := by decide +kernel
theorem dL_law_298 : decode mL_law.2.2.1 298 = .ok (.if_icmp .eq 591, 3) := by decide +kernel
theorem dL_law_301 : decode mL_law.2.2.1 301 = .ok (.iconst 0, 1) := by decide +kernel
theorem dL_law_302 : decode mL_law.2.2.1 302 = .ok (.ireturn, 1) := by decide +kernel
theorem dL_law_303 : decode mL_law.2.2.1 303 = .ok (.aload_n 1, 1) := by decide +kernel
theorem dL_law_304 : decode mL_law.2.2.1 304 = .ok (.invokevirtual 37, 3) := by decide +kernel
theorem dL_law_307 : decode mL_law.2.2.1 307 = .ok (.aload_n 2, 1) := by decide +kernel
theorem dL_law_308 : decode mL_law.2.2.1 308 = .ok (.invokevirtual 40, 3) := by decide +kernel
theorem dL_law_311 : decode mL_law.2.2.1 311 = .ok (.if_icmp .eq 578, 3) := by decide +kernel
theorem dL_law_314 : decode mL_law.2.2.1 314 = .ok (.iconst 0, 1) := by decide +kernel
theorem dL_law_315 : decode mL_law.2.2.1 315 = .ok (.ireturn, 1) := by decide +kernel
theorem dL_law_316 : decode mL_law.2.2.1 316 = .ok (.aload_n 1, 1) := by decide +kernel
theorem dL_law_317 : decode mL_law.2.2.1 317 = .ok (.aload_n 0, 1) := by decide +kernel
theorem dL_law_318 : decode mL_law.2.2.1 318 = .ok (.iload_n 3, 1) := by decide +kernel
theorem dL_law_319 : decode mL_law.2.2.1 319 = .ok (.iconst 1, 1) := by decide +kernel
theorem dL_law_320 : decode mL_law.2.2.1 320 = .ok (.iadd, 1) := by decide +kernel
theorem dL_law_321 : decode mL_law.2.2.1 321 = .ok (.iaload, 1) := by decide +kernel
theorem dL_law_322 : decode mL_law.2.2.1 322 = .ok (.invokevirtual 41, 3) := by decide +kernel
theorem dL_law_325 : decode mL_law.2.2.1 325 = .ok (.aload_n 2, 1) := by decide +kernel
theorem dL_law_326 : decode mL_law.2.2.1 326 = .ok (.aload_n 0, 1) := by decide +kernel
theorem dL_law_327 : decode mL_law.2.2.1 327 = .ok (.iload_n 3, 1) := by decide +kernel
theorem dL_law_328 : decode mL_law.2.2.1 328 = .ok (.iconst 1, 1) := by decide +kernel
theorem dL_law_329 : decode mL_law.2.2.1 329 = .ok (.iadd, 1) := by decide +kernel
theorem dL_law_330 : decode mL_law.2.2.1 330 = .ok (.iaload, 1) := by decide +kernel
theorem dL_law_331 : decode mL_law.2.2.1 331 = .ok (.invokevirtual 44, 3) := by decide +kernel
theorem dL_law_334 : decode mL_law.2.2.1 334 = .ok (.if_icmp .eq 555, 3) := by decide +kernel
theorem dL_law_337 : decode mL_law.2.2.1 337 = .ok (.iconst 0, 1) := by decide +kernel
theorem dL_law_338 : decode mL_law.2.2.1 338 = .ok (.ireturn, 1) := by decide +kernel
theorem dL_law_339 : decode mL_law.2.2.1 339 = .ok (.aload_n 1, 1) := by decide +kernel
theorem dL_law_340 : decode mL_law.2.2.1 340 = .ok (.invokevirtual 45, 3) := by decide +kernel
theorem dL_law_343 : decode mL_law.2.2.1 343 = .ok (.aload_n 2, 1) := by decide +kernel
theorem dL_law_344 : decode mL_law.2.2.1 344 = .ok (.invokevirtual 48, 3) := by decide +kernel
theorem dL_law_347 : decode mL_law.2.2.1 347 = .ok (.if_icmp .eq 542, 3) := by decide +kernel
theorem dL_law_350 : decode mL_law.2.2.1 350 = .ok (.iconst 0, 1) := by decide +kernel
theorem dL_law_351 : decode mL_law.2.2.1 351 = .ok (.ireturn, 1) := by decide +kernel
theorem dL_law_352 : decode mL_law.2.2.1 352 = .ok (.aload_n 1, 1) := by decide +kernel
theorem dL_law_353 : decode mL_law.2.2.1 353 = .ok (.invokevirtual 49, 3) := by decide +kernel
theorem dL_law_356 : decode mL_law.2.2.1 356 = .ok (.aload_n 2, 1) := by decide +kernel
theorem dL_law_357 : decode mL_law.2.2.1 357 = .ok (.invokevirtual 52, 3) := by decide +kernel
theorem dL_law_360 : decode mL_law.2.2.1 360 = .ok (.if_icmp .eq 529, 3) := by decide +kernel
theorem dL_law_363 : decode mL_law.2.2.1 363 = .ok (.iconst 0, 1) := by decide +kernel
theorem dL_law_364 : decode mL_law.2.2.1 364 = .ok (.ireturn, 1) := by decide +kernel
theorem dL_law_365 : decode mL_law.2.2.1 365 = .ok (.aload_n 1, 1) := by decide +kernel
theorem dL_law_366 : decode mL_law.2.2.1 366 = .ok (.aload_n 0, 1) := by decide +kernel
theorem dL_law_367 : decode mL_law.2.2.1 367 = .ok (.iload_n 3, 1) := by decide +kernel
theorem dL_law_368 : decode mL_law.2.2.1 368 = .ok (.iconst 1, 1) := by decide +kernel
theorem dL_law_369 : decode mL_law.2.2.1 369 = .ok (.iadd, 1) := by decide +kernel
theorem dL_law_370 : decode mL_law.2.2.1 370 = .ok (.iaload, 1) := by decide +kernel
theorem dL_law_371 : decode mL_law.2.2.1 371 = .ok (.invokevirtual 53, 3) := by decide +kernel
theorem dL_law_374 : decode mL_law.2.2.1 374 = .ok (.aload_n 2, 1) := by decide +kernel
theorem dL_law_375 : decode mL_law.2.2.1 375 = .ok (.aload_n 0, 1) := by decide +kernel
theorem dL_law_376 : decode mL_law.2.2.1 376 = .ok (.iload_n 3, 1) := by decide +kernel
theorem dL_law_377 : decode mL_law.2.2.1 377 = .ok (.iconst 1, 1) := by decide +kernel
theorem dL_law_378 : decode mL_law.2.2.1 378 = .ok (.iadd, 1) := by decide +kernel
theorem dL_law_379 : decode mL_law.2.2.1 379 = .ok (.iaload, 1) := by decide +kernel
theorem dL_law_380 : decode mL_law.2.2.1 380 = .ok (.invokevirtual 56, 3) := by decide +kernel
theorem dL_law_383 : decode mL_law.2.2.1 383 = .ok (.if_icmp .eq 506, 3) := by decide +kernel
theorem dL_law_386 : decode mL_law.2.2.1 386 = .ok (.iconst 0, 1) := by decide +kernel
theorem dL_law_387 : decode mL_law.2.2.1 387 = .ok (.ireturn, 1) := by decide +kernel
theorem dL_law_388 : decode mL_law.2.2.1 388 = .ok (.aload_n 1, 1) := by decide +kernel
theorem dL_law_389 : decode mL_law.2.2.1 389 = .ok (.aload_n 0, 1) := by decide +kernel
theorem dL_law_390 : decode mL_law.2.2.1 390 = .ok (.iload_n 3, 1) := by decide +kernel
theorem dL_law_391 : decode mL_law.2.2.1 391 = .ok (.iconst 1, 1) := by decide +kernel
theorem dL_law_392 : decode mL_law.2.2.1 392 = .ok (.iadd, 1) := by decide +kernel
theorem dL_law_393 : decode mL_law.2.2.1 393 = .ok (.iaload, 1) := by decide +kernel
theorem dL_law_394 : decode mL_law.2.2.1 394 = .ok (.aload_n 0, 1) := by decide +kernel
theorem dL_law_395 : decode mL_law.2.2.1 395 = .ok (.iload_n 3, 1) := by decide +kernel
theorem dL_law_396 : decode mL_law.2.2.1 396 = .ok (.iconst 2, 1) := by decide +kernel
theorem dL_law_397 : decode mL_law.2.2.1 397 = .ok (.iadd, 1) := by decide +kernel
theorem dL_law_398 : decode mL_law.2.2.1 398 = .ok (.iaload, 1) := by decide +kernel
theorem dL_law_399 : decode mL_law.2.2.1 399 = .ok (.invokevirtual 57, 3) := by decide +kernel
theorem dL_law_402 : decode mL_law.2.2.1 402 = .ok (.aload_n 2, 1) := by decide +kernel
theorem dL_law_403 : decode mL_law.2.2.1 403 = .ok (.aload_n 0, 1) := by decide +kernel
theorem dL_law_404 : decode mL_law.2.2.1 404 = .ok (.iload_n 3, 1) := by decide +kernel
theorem dL_law_405 : decode mL_law.2.2.1 405 = .ok (.iconst 1, 1) := by decide +kernel
theorem dL_law_406 : decode mL_law.2.2.1 406 = .ok (.iadd, 1) := by decide +kernel
theorem dL_law_407 : decode mL_law.2.2.1 407 = .ok (.iaload, 1) := by decide +kernel
theorem dL_law_408 : decode mL_law.2.2.1 408 = .ok (.aload_n 0, 1) := by decide +kernel
theorem dL_law_409 : decode mL_law.2.2.1 409 = .ok (.iload_n 3, 1) := by decide +kernel
theorem dL_law_410 : decode mL_law.2.2.1 410 = .ok (.iconst 2, 1) := by decide +kernel
theorem dL_law_411 : decode mL_law.2.2.1 411 = .ok (.iadd, 1) := by decide +kernel
theorem dL_law_412 : decode mL_law.2.2.1 412 = .ok (.iaload, 1) := by decide +kernel
theorem dL_law_413 : decode mL_law.2.2.1 413 = .ok (.invokevirtual 61, 3) := by decide +kernel
theorem dL_law_416 : decode mL_law.2.2.1 416 = .ok (.if_icmp .eq 473, 3) := by decide +kernel
theorem dL_law_419 : decode mL_law.2.2.1 419 = .ok (.iconst 0, 1) := by decide +kernel
theorem dL_law_420 : decode mL_law.2.2.1 420 = .ok (.ireturn, 1) := by decide +kernel
theorem dL_law_421 : decode mL_law.2.2.1 421 = .ok (.aload_n 1, 1) := by decide +kernel
theorem dL_law_422 : decode mL_law.2.2.1 422 = .ok (.invokevirtual 62, 3) := by decide +kernel
theorem dL_law_425 : decode mL_law.2.2.1 425 = .ok (.aload_n 2, 1) := by decide +kernel
theorem dL_law_426 : decode mL_law.2.2.1 426 = .ok (.invokevirtual 65, 3) := by decide +kernel
theorem dL_law_429 : decode mL_law.2.2.1 429 = .ok (.if_icmp .eq 460, 3) := by decide +kernel
theorem dL_law_432 : decode mL_law.2.2.1 432 = .ok (.iconst 0, 1) := by decide +kernel
theorem dL_law_433 : decode mL_law.2.2.1 433 = .ok (.ireturn, 1) := by decide +kernel
theorem dL_law_434 : decode mL_law.2.2.1 434 = .ok (.aload_n 1, 1) := by decide +kernel
theorem dL_law_435 : decode mL_law.2.2.1 435 = .ok (.aload_n 0, 1) := by decide +kernel
theorem dL_law_436 : decode mL_law.2.2.1 436 = .ok (.iload_n 3, 1) := by decide +kernel
theorem dL_law_437 : decode mL_law.2.2.1 437 = .ok (.iconst 1, 1) := by decide +kernel
theorem dL_law_438 : decode mL_law.2.2.1 438 = .ok (.iadd, 1) := by decide +kernel
theorem dL_law_439 : decode mL_law.2.2.1 439 = .ok (.iaload, 1) := by decide +kernel
theorem dL_law_440 : decode mL_law.2.2.1 440 = .ok (.aload_n 0, 1) := by decide +kernel
theorem dL_law_441 : decode mL_law.2.2.1 441 = .ok (.iload_n 3, 1) := by decide +kernel
theorem dL_law_442 : decode mL_law.2.2.1 442 = .ok (.iconst 2, 1) := by decide +kernel
theorem dL_law_443 : decode mL_law.2.2.1 443 = .ok (.iadd, 1) := by decide +kernel
theorem dL_law_444 : decode mL_law.2.2.1 444 = .ok (.iaload, 1) := by decide +kernel
theorem dL_law_445 : decode mL_law.2.2.1 445 = .ok (.ifCond .eq 7, 3) := by decide +kernel
theorem dL_law_448 : decode mL_law.2.2.1 448 = .ok (.iconst 1, 1) := by decide +kernel
theorem dL_law_449 : decode mL_law.2.2.1 449 = .ok (.goto 4, 3) := by decide +kernel
theorem dL_law_452 : decode mL_law.2.2.1 452 = .ok (.iconst 0, 1) := by decide +kernel
theorem dL_law_453 : decode mL_law.2.2.1 453 = .ok (.invokevirtual 66, 3) := by decide +kernel
theorem dL_law_456 : decode mL_law.2.2.1 456 = .ok (.aload_n 2, 1) := by decide +kernel
theorem dL_law_457 : decode mL_law.2.2.1 457 = .ok (.aload_n 0, 1) := by decide +kernel
theorem dL_law_458 : decode mL_law.2.2.1 458 = .ok (.iload_n 3, 1) := by decide +kernel
theorem dL_law_459 : decode mL_law.2.2.1 459 = .ok (.iconst 1, 1) := by decide +kernel
theorem dL_law_460 : decode mL_law.2.2.1 460 = .ok (.iadd, 1) := by decide +kernel
theorem dL_law_461 : decode mL_law.2.2.1 461 = .ok (.iaload, 1) := by decide +kernel
theorem dL_law_462 : decode mL_law.2.2.1 462 = .ok (.aload_n 0, 1) := by decide +kernel
theorem dL_law_463 : decode mL_law.2.2.1 463 = .ok (.iload_n 3, 1) := by decide +kernel
theorem dL_law_464 : decode mL_law.2.2.1 464 = .ok (.iconst 2, 1) := by decide +kernel
theorem dL_law_465 : decode mL_law.2.2.1 465 = .ok (.iadd, 1) := by decide +kernel
theorem dL_law_466 : decode mL_law.2.2.1 466 = .ok (.iaload, 1) := by decide +kernel
theorem dL_law_467 : decode mL_law.2.2.1 467 = .ok (.ifCond .eq 7, 3) := by decide +kernel
theorem dL_law_470 : decode mL_law.2.2.1 470 = .ok (.iconst 1, 1) := by decide +kernel
theorem dL_law_471 : decode mL_law.2.2.1 471 = .ok (.goto 4, 3) := by decide +kernel
theorem dL_law_474 : decode mL_law.2.2.1 474 = .ok (.iconst 0, 1) := by decide +kernel
theorem dL_law_475 : decode mL_law.2.2.1 475 = .ok (.invokevirtual 70, 3) := by decide +kernel
theorem dL_law_478 : decode mL_law.2.2.1 478 = .ok (.if_icmp .eq 411, 3) := by decide +kernel
theorem dL_law_481 : decode mL_law.2.2.1 481 = .ok (.iconst 0, 1) := by decide +kernel
theorem dL_law_482 : decode mL_law.2.2.1 482 = .ok (.ireturn, 1) := by decide +kernel
theorem dL_law_483 : decode mL_law.2.2.1 483 = .ok (.aload_n 1, 1) := by decide +kernel
theorem dL_law_484 : decode mL_law.2.2.1 484 = .ok (.aload_n 0, 1) := by decide +kernel
theorem dL_law_485 : decode mL_law.2.2.1 485 = .ok (.iload_n 3, 1) := by decide +kernel
theorem dL_law_486 : decode mL_law.2.2.1 486 = .ok (.iconst 1, 1) := by decide +kernel
theorem dL_law_487 : decode mL_law.2.2.1 487 = .ok (.iadd, 1) := by decide +kernel
theorem dL_law_488 : decode mL_law.2.2.1 488 = .ok (.iaload, 1) := by decide +kernel
theorem dL_law_489 : decode mL_law.2.2.1 489 = .ok (.aload_n 0, 1) := by decide +kernel
theorem dL_law_490 : decode mL_law.2.2.1 490 = .ok (.iload_n 3, 1) := by decide +kernel
theorem dL_law_491 : decode mL_law.2.2.1 491 = .ok (.iconst 2, 1) := by decide +kernel
theorem dL_law_492 : decode mL_law.2.2.1 492 = .ok (.iadd, 1) := by decide +kernel
theorem dL_law_493 : decode mL_law.2.2.1 493 = .ok (.iaload, 1) := by decide +kernel
theorem dL_law_494 : decode mL_law.2.2.1 494 = .ok (.invokevirtual 71, 3) := by decide +kernel
theorem dL_law_497 : decode mL_law.2.2.1 497 = .ok (.aload_n 2, 1) := by decide +kernel
theorem dL_law_498 : decode mL_law.2.2.1 498 = .ok (.aload_n 0, 1) := by decide +kernel
theorem dL_law_499 : decode mL_law.2.2.1 499 = .ok (.iload_n 3, 1) := by decide +kernel
theorem dL_law_500 : decode mL_law.2.2.1 500 = .ok (.iconst 1, 1) := by decide +kernel
theorem dL_law_501 : decode mL_law.2.2.1 501 = .ok (.iadd, 1) := by decide +kernel
theorem dL_law_502 : decode mL_law.2.2.1 502 = .ok (.iaload, 1) := by decide +kernel
theorem dL_law_503 : decode mL_law.2.2.1 503 = .ok (.aload_n 0, 1) := by decide +kernel
theorem dL_law_504 : decode mL_law.2.2.1 504 = .ok (.iload_n 3, 1) := by decide +kernel
theorem dL_law_505 : decode mL_law.2.2.1 505 = .ok (.iconst 2, 1) := by decide +kernel
theorem dL_law_506 : decode mL_law.2.2.1 506 = .ok (.iadd, 1) := by decide +kernel
theorem dL_law_507 : decode mL_law.2.2.1 507 = .ok (.iaload, 1) := by decide +kernel
theorem dL_law_508 : decode mL_law.2.2.1 508 = .ok (.invokevirtual 74, 3) := by decide +kernel
theorem dL_law_511 : decode mL_law.2.2.1 511 = .ok (.if_icmp .eq 378, 3) := by decide +kernel
theorem dL_law_514 : decode mL_law.2.2.1 514 = .ok (.iconst 0, 1) := by decide +kernel
theorem dL_law_515 : decode mL_law.2.2.1 515 = .ok (.ireturn, 1) := by decide +kernel
theorem dL_law_516 : decode mL_law.2.2.1 516 = .ok (.aload_n 1, 1) := by decide +kernel
theorem dL_law_517 : decode mL_law.2.2.1 517 = .ok (.aload_n 0, 1) := by decide +kernel
theorem dL_law_518 : decode mL_law.2.2.1 518 = .ok (.iload_n 3, 1) := by decide +kernel
theorem dL_law_519 : decode mL_law.2.2.1 519 = .ok (.iconst 1, 1) := by decide +kernel
theorem dL_law_520 : decode mL_law.2.2.1 520 = .ok (.iadd, 1) := by decide +kernel
theorem dL_law_521 : decode mL_law.2.2.1 521 = .ok (.iaload, 1) := by decide +kernel
theorem dL_law_522 : decode mL_law.2.2.1 522 = .ok (.aload_n 0, 1) := by decide +kernel
theorem dL_law_523 : decode mL_law.2.2.1 523 = .ok (.iload_n 3, 1) := by decide +kernel
theorem dL_law_524 : decode mL_law.2.2.1 524 = .ok (.iconst 2, 1) := by decide +kernel
theorem dL_law_525 : decode mL_law.2.2.1 525 = .ok (.iadd, 1) := by decide +kernel
theorem dL_law_526 : decode mL_law.2.2.1 526 = .ok (.iaload, 1) := by decide +kernel
theorem dL_law_527 : decode mL_law.2.2.1 527 = .ok (.invokevirtual 75, 3) := by decide +kernel
theorem dL_law_530 : decode mL_law.2.2.1 530 = .ok (.aload_n 2, 1) := by decide +kernel
theorem dL_law_531 : decode mL_law.2.2.1 531 = .ok (.aload_n 0, 1) := by decide +kernel
theorem dL_law_532 : decode mL_law.2.2.1 532 = .ok (.iload_n 3, 1) := by decide +kernel
theorem dL_law_533 : decode mL_law.2.2.1 533 = .ok (.iconst 1, 1) := by decide +kernel
theorem dL_law_534 : decode mL_law.2.2.1 534 = .ok (.iadd, 1) := by decide +kernel
theorem dL_law_535 : decode mL_law.2.2.1 535 = .ok (.iaload, 1) := by decide +kernel
theorem dL_law_536 : decode mL_law.2.2.1 536 = .ok (.aload_n 0, 1) := by decide +kernel
theorem dL_law_537 : decode mL_law.2.2.1 537 = .ok (.iload_n 3, 1) := by decide +kernel
theorem dL_law_538 : decode mL_law.2.2.1 538 = .ok (.iconst 2, 1) := by decide +kernel
theorem dL_law_539 : decode mL_law.2.2.1 539 = .ok (.iadd, 1) := by decide +kernel
theorem dL_law_540 : decode mL_law.2.2.1 540 = .ok (.iaload, 1) := by decide +kernel
theorem dL_law_541 : decode mL_law.2.2.1 541 = .ok (.invokevirtual 78, 3) := by decide +kernel
theorem dL_law_544 : decode mL_law.2.2.1 544 = .ok (.if_icmp .eq 345, 3) := by decide +kernel
theorem dL_law_547 : decode mL_law.2.2.1 547 = .ok (.iconst 0, 1) := by decide +kernel
theorem dL_law_548 : decode mL_law.2.2.1 548 = .ok (.ireturn, 1) := by decide +kernel
theorem dL_law_549 : decode mL_law.2.2.1 549 = .ok (.aload_n 1, 1) := by decide +kernel
theorem dL_law_550 : decode mL_law.2.2.1 550 = .ok (.aload_n 0, 1) := by decide +kernel
theorem dL_law_551 : decode mL_law.2.2.1 551 = .ok (.iload_n 3, 1) := by decide +kernel
theorem dL_law_552 : decode mL_law.2.2.1 552 = .ok (.iconst 1, 1) := by decide +kernel
theorem dL_law_553 : decode mL_law.2.2.1 553 = .ok (.iadd, 1) := by decide +kernel
theorem dL_law_554 : decode mL_law.2.2.1 554 = .ok (.iaload, 1) := by decide +kernel
theorem dL_law_555 : decode mL_law.2.2.1 555 = .ok (.invokevirtual 79, 3) := by decide +kernel
theorem dL_law_558 : decode mL_law.2.2.1 558 = .ok (.aload_n 2, 1) := by decide +kernel
theorem dL_law_559 : decode mL_law.2.2.1 559 = .ok (.aload_n 0, 1) := by decide +kernel
theorem dL_law_560 : decode mL_law.2.2.1 560 = .ok (.iload_n 3, 1) := by decide +kernel
theorem dL_law_561 : decode mL_law.2.2.1 561 = .ok (.iconst 1, 1) := by decide +kernel
theorem dL_law_562 : decode mL_law.2.2.1 562 = .ok (.iadd, 1) := by decide +kernel
theorem dL_law_563 : decode mL_law.2.2.1 563 = .ok (.iaload, 1) := by decide +kernel
theorem dL_law_564 : decode mL_law.2.2.1 564 = .ok (.invokevirtual 82, 3) := by decide +kernel
theorem dL_law_567 : decode mL_law.2.2.1 567 = .ok (.if_icmp .eq 322, 3) := by decide +kernel
theorem dL_law_570 : decode mL_law.2.2.1 570 = .ok (.iconst 0, 1) := by decide +kernel
theorem dL_law_571 : decode mL_law.2.2.1 571 = .ok (.ireturn, 1) := by decide +kernel
theorem dL_law_572 : decode mL_law.2.2.1 572 = .ok (.aload_n 1, 1) := by decide +kernel
theorem dL_law_573 : decode mL_law.2.2.1 573 = .ok (.aload_n 0, 1) := by decide +kernel
theorem dL_law_574 : decode mL_law.2.2.1 574 = .ok (.iload_n 3, 1) := by decide +kernel
theorem dL_law_575 : decode mL_law.2.2.1 575 = .ok (.iconst 1, 1) := by decide +kernel
theorem dL_law_576 : decode mL_law.2.2.1 576 = .ok (.iadd, 1) := by decide +kernel
theorem dL_law_577 : decode mL_law.2.2.1 577 = .ok (.iaload, 1) := by decide +kernel
theorem dL_law_578 : decode mL_law.2.2.1 578 = .ok (.invokevirtual 83, 3) := by decide +kernel
theorem dL_law_581 : decode mL_law.2.2.1 581 = .ok (.aload_n 2, 1) := by decide +kernel
theorem dL_law_582 : decode mL_law.2.2.1 582 = .ok (.aload_n 0, 1) := by decide +kernel
theorem dL_law_583 : decode mL_law.2.2.1 583 = .ok (.iload_n 3, 1) := by decide +kernel
theorem dL_law_584 : decode mL_law.2.2.1 584 = .ok (.iconst 1, 1) := by decide +kernel
theorem dL_law_585 : decode mL_law.2.2.1 585 = .ok (.iadd, 1) := by decide +kernel
theorem dL_law_586 : decode mL_law.2.2.1 586 = .ok (.iaload, 1) := by decide +kernel
theorem dL_law_587 : decode mL_law.2.2.1 587 = .ok (.invokevirtual 86, 3) := by decide +kernel
theorem dL_law_590 : decode mL_law.2.2.1 590 = .ok (.if_icmp .eq 299, 3) := by decide +kernel
theorem dL_law_593 : decode mL_law.2.2.1 593 = .ok (.iconst 0, 1) := by decide +kernel
theorem dL_law_594 : decode mL_law.2.2.1 594 = .ok (.ireturn, 1) := by decide +kernel
theorem dL_law_595 : decode mL_law.2.2.1 595 = .ok (.aload_n 1, 1) := by decide +kernel
theorem dL_law_596 : decode mL_law.2.2.1 596 = .ok (.aload_n 0, 1) := by decide +kernel
theorem dL_law_597 : decode mL_law.2.2.1 597 = .ok (.iload_n 3, 1) := by decide +kernel
theorem dL_law_598 : decode mL_law.2.2.1 598 = .ok (.iconst 1, 1) := by decide +kernel
theorem dL_law_599 : decode mL_law.2.2.1 599 = .ok (.iadd, 1) := by decide +kernel
theorem dL_law_600 : decode mL_law.2.2.1 600 = .ok (.iaload, 1) := by decide +kernel
theorem dL_law_601 : decode mL_law.2.2.1 601 = .ok (.aload_n 0, 1) := by decide +kernel
theorem dL_law_602 : decode mL_law.2.2.1 602 = .ok (.iload_n 3, 1) := by decide +kernel
theorem dL_law_603 : decode mL_law.2.2.1 603 = .ok (.iconst 2, 1) := by decide +kernel
theorem dL_law_604 : decode mL_law.2.2.1 604 = .ok (.iadd, 1) := by decide +kernel
theorem dL_law_605 : decode mL_law.2.2.1 605 = .ok (.iaload, 1) := by decide +kernel
theorem dL_law_606 : decode mL_law.2.2.1 606 = .ok (.aload_n 0, 1) := by decide +kernel
theorem dL_law_607 : decode mL_law.2.2.1 607 = .ok (.iload_n 3, 1) := by decide +kernel
theorem dL_law_608 : decode mL_law.2.2.1 608 = .ok (.iconst 3, 1) := by decide +kernel
theorem dL_law_609 : decode mL_law.2.2.1 609 = .ok (.iadd, 1) := by decide +kernel
theorem dL_law_610 : decode mL_law.2.2.1 610 = .ok (.iaload, 1) := by decide +kernel
theorem dL_law_611 : decode mL_law.2.2.1 611 = .ok (.aload_n 0, 1) := by decide +kernel
theorem dL_law_612 : decode mL_law.2.2.1 612 = .ok (.iload_n 3, 1) := by decide +kernel
theorem dL_law_613 : decode mL_law.2.2.1 613 = .ok (.iconst 4, 1) := by decide +kernel
theorem dL_law_614 : decode mL_law.2.2.1 614 = .ok (.iadd, 1) := by decide +kernel
theorem dL_law_615 : decode mL_law.2.2.1 615 = .ok (.iaload, 1) := by decide +kernel
theorem dL_law_616 : decode mL_law.2.2.1 616 = .ok (.invokevirtual 87, 3) := by decide +kernel
theorem dL_law_619 : decode mL_law.2.2.1 619 = .ok (.aload_n 2, 1) := by decide +kernel
theorem dL_law_620 : decode mL_law.2.2.1 620 = .ok (.aload_n 0, 1) := by decide +kernel
theorem dL_law_621 : decode mL_law.2.2.1 621 = .ok (.iload_n 3, 1) := by decide +kernel
theorem dL_law_622 : decode mL_law.2.2.1 622 = .ok (.iconst 1, 1) := by decide +kernel
theorem dL_law_623 : decode mL_law.2.2.1 623 = .ok (.iadd, 1) := by decide +kernel
theorem dL_law_624 : decode mL_law.2.2.1 624 = .ok (.iaload, 1) := by decide +kernel
theorem dL_law_625 : decode mL_law.2.2.1 625 = .ok (.aload_n 0, 1) := by decide +kernel
theorem dL_law_626 : decode mL_law.2.2.1 626 = .ok (.iload_n 3, 1) := by decide +kernel
theorem dL_law_627 : decode mL_law.2.2.1 627 = .ok (.iconst 2, 1) := by decide +kernel
theorem dL_law_628 : decode mL_law.2.2.1 628 = .ok (.iadd, 1) := by decide +kernel
theorem dL_law_629 : decode mL_law.2.2.1 629 = .ok (.iaload, 1) := by decide +kernel
theorem dL_law_630 : decode mL_law.2.2.1 630 = .ok (.aload_n 0, 1) := by decide +kernel
theorem dL_law_631 : decode mL_law.2.2.1 631 = .ok (.iload_n 3, 1) := by decide +kernel
theorem dL_law_632 : decode mL_law.2.2.1 632 = .ok (.iconst 3, 1) := by decide +kernel
theorem dL_law_633 : decode mL_law.2.2.1 633 = .ok (.iadd, 1) := by decide +kernel
theorem dL_law_634 : decode mL_law.2.2.1 634 = .ok (.iaload, 1) := by decide +kernel
theorem dL_law_635 : decode mL_law.2.2.1 635 = .ok (.aload_n 0, 1) := by decide +kernel
theorem dL_law_636 : decode mL_law.2.2.1 636 = .ok (.iload_n 3, 1) := by decide +kernel
theorem dL_law_637 : decode mL_law.2.2.1 637 = .ok (.iconst 4, 1) := by decide +kernel
theorem dL_law_638 : decode mL_law.2.2.1 638 = .ok (.iadd, 1) := by decide +kernel
theorem dL_law_639 : decode mL_law.2.2.1 639 = .ok (.iaload, 1) := by decide +kernel
theorem dL_law_640 : decode mL_law.2.2.1 640 = .ok (.invokevirtual 91, 3) := by decide +kernel
theorem dL_law_643 : decode mL_law.2.2.1 643 = .ok (.if_icmp .eq 246, 3) := by decide +kernel
theorem dL_law_646 : decode mL_law.2.2.1 646 = .ok (.iconst 0, 1) := by decide +kernel
theorem dL_law_647 : decode mL_law.2.2.1 647 = .ok (.ireturn, 1) := by decide +kernel
theorem dL_law_648 : decode mL_law.2.2.1 648 = .ok (.aload_n 1, 1) := by decide +kernel
theorem dL_law_649 : decode mL_law.2.2.1 649 = .ok (.aload_n 0, 1) := by decide +kernel
theorem dL_law_650 : decode mL_law.2.2.1 650 = .ok (.iload_n 3, 1) := by decide +kernel
theorem dL_law_651 : decode mL_law.2.2.1 651 = .ok (.iconst 1, 1) := by decide +kernel
theorem dL_law_652 : decode mL_law.2.2.1 652 = .ok (.iadd, 1) := by decide +kernel
theorem dL_law_653 : decode mL_law.2.2.1 653 = .ok (.iaload, 1) := by decide +kernel
theorem dL_law_654 : decode mL_law.2.2.1 654 = .ok (.aload_n 0, 1) := by decide +kernel
theorem dL_law_655 : decode mL_law.2.2.1 655 = .ok (.iload_n 3, 1) := by decide +kernel
theorem dL_law_656 : decode mL_law.2.2.1 656 = .ok (.iconst 2, 1) := by decide +kernel
theorem dL_law_657 : decode mL_law.2.2.1 657 = .ok (.iadd, 1) := by decide +kernel
theorem dL_law_658 : decode mL_law.2.2.1 658 = .ok (.iaload, 1) := by decide +kernel
theorem dL_law_659 : decode mL_law.2.2.1 659 = .ok (.invokevirtual 92, 3) := by decide +kernel
theorem dL_law_662 : decode mL_law.2.2.1 662 = .ok (.aload_n 2, 1) := by decide +kernel
theorem dL_law_663 : decode mL_law.2.2.1 663 = .ok (.aload_n 0, 1) := by decide +kernel
theorem dL_law_664 : decode mL_law.2.2.1 664 = .ok (.iload_n 3, 1) := by decide +kernel
theorem dL_law_665 : decode mL_law.2.2.1 665 = .ok (.iconst 1, 1) := by decide +kernel
theorem dL_law_666 : decode mL_law.2.2.1 666 = .ok (.iadd, 1) := by decide +kernel
theorem dL_law_667 : decode mL_law.2.2.1 667 = .ok (.iaload, 1) := by decide +kernel
theorem dL_law_668 : decode mL_law.2.2.1 668 = .ok (.aload_n 0, 1) := by decide +kernel
theorem dL_law_669 : decode mL_law.2.2.1 669 = .ok (.iload_n 3, 1) := by decide +kernel
theorem dL_law_670 : decode mL_law.2.2.1 670 = .ok (.iconst 2, 1) := by decide +kernel
theorem dL_law_671 : decode mL_law.2.2.1 671 = .ok (.iadd, 1) := by decide +kernel
theorem dL_law_672 : decode mL_law.2.2.1 672 = .ok (.iaload, 1) := by decide +kernel
theorem dL_law_673 : decode mL_law.2.2.1 673 = .ok (.invokevirtual 95, 3) := by decide +kernel
theorem dL_law_676 : decode mL_law.2.2.1 676 = .ok (.if_icmp .eq 213, 3) := by decide +kernel
theorem dL_law_679 : decode mL_law.2.2.1 679 = .ok (.iconst 0, 1) := by decide +kernel
theorem dL_law_680 : decode mL_law.2.2.1 680 = .ok (.ireturn, 1) := by decide +kernel
theorem dL_law_681 : decode mL_law.2.2.1 681 = .ok (.aload_n 1, 1) := by decide +kernel
theorem dL_law_682 : decode mL_law.2.2.1 682 = .ok (.aload_n 0, 1) := by decide +kernel
theorem dL_law_683 : decode mL_law.2.2.1 683 = .ok (.iload_n 3, 1) := by decide +kernel
theorem dL_law_684 : decode mL_law.2.2.1 684 = .ok (.iconst 1, 1) := by decide +kernel
theorem dL_law_685 : decode mL_law.2.2.1 685 = .ok (.iadd, 1) := by decide +kernel
theorem dL_law_686 : decode mL_law.2.2.1 686 = .ok (.iaload, 1) := by decide +kernel
theorem dL_law_687 : decode mL_law.2.2.1 687 = .ok (.invokevirtual 96, 3) := by decide +kernel
theorem dL_law_690 : decode mL_law.2.2.1 690 = .ok (.aload_n 2, 1) := by decide +kernel
theorem dL_law_691 : decode mL_law.2.2.1 691 = .ok (.aload_n 0, 1) := by decide +kernel
theorem dL_law_692 : decode mL_law.2.2.1 692 = .ok (.iload_n 3, 1) := by decide +kernel
theorem dL_law_693 : decode mL_law.2.2.1 693 = .ok (.iconst 1, 1) := by decide +kernel
theorem dL_law_694 : decode mL_law.2.2.1 694 = .ok (.iadd, 1) := by decide +kernel
theorem dL_law_695 : decode mL_law.2.2.1 695 = .ok (.iaload, 1) := by decide +kernel
theorem dL_law_696 : decode mL_law.2.2.1 696 = .ok (.invokevirtual 99, 3) := by decide +kernel
theorem dL_law_699 : decode mL_law.2.2.1 699 = .ok (.if_icmp .eq 190, 3) := by decide +kernel
theorem dL_law_702 : decode mL_law.2.2.1 702 = .ok (.iconst 0, 1) := by decide +kernel
theorem dL_law_703 : decode mL_law.2.2.1 703 = .ok (.ireturn, 1) := by decide +kernel
theorem dL_law_704 : decode mL_law.2.2.1 704 = .ok (.aload_n 1, 1) := by decide +kernel
theorem dL_law_705 : decode mL_law.2.2.1 705 = .ok (.aload_n 0, 1) := by decide +kernel
theorem dL_law_706 : decode mL_law.2.2.1 706 = .ok (.iload_n 3, 1) := by decide +kernel
theorem dL_law_707 : decode mL_law.2.2.1 707 = .ok (.iconst 1, 1) := by decide +kernel
theorem dL_law_708 : decode mL_law.2.2.1 708 = .ok (.iadd, 1) := by decide +kernel
theorem dL_law_709 : decode mL_law.2.2.1 709 = .ok (.iaload, 1) := by decide +kernel
theorem dL_law_710 : decode mL_law.2.2.1 710 = .ok (.aload_n 0, 1) := by decide +kernel
theorem dL_law_711 : decode mL_law.2.2.1 711 = .ok (.iload_n 3, 1) := by decide +kernel
theorem dL_law_712 : decode mL_law.2.2.1 712 = .ok (.iconst 2, 1) := by decide +kernel
theorem dL_law_713 : decode mL_law.2.2.1 713 = .ok (.iadd, 1) := by decide +kernel
theorem dL_law_714 : decode mL_law.2.2.1 714 = .ok (.iaload, 1) := by decide +kernel
theorem dL_law_715 : decode mL_law.2.2.1 715 = .ok (.aload_n 0, 1) := by decide +kernel
theorem dL_law_716 : decode mL_law.2.2.1 716 = .ok (.iload_n 3, 1) := by decide +kernel
theorem dL_law_717 : decode mL_law.2.2.1 717 = .ok (.iconst 3, 1) := by decide +kernel
theorem dL_law_718 : decode mL_law.2.2.1 718 = .ok (.iadd, 1) := by decide +kernel
theorem dL_law_719 : decode mL_law.2.2.1 719 = .ok (.iaload, 1) := by decide +kernel
theorem dL_law_720 : decode mL_law.2.2.1 720 = .ok (.invokevirtual 100, 3) := by decide +kernel
theorem dL_law_723 : decode mL_law.2.2.1 723 = .ok (.aload_n 2, 1) := by decide +kernel
theorem dL_law_724 : decode mL_law.2.2.1 724 = .ok (.aload_n 0, 1) := by decide +kernel
theorem dL_law_725 : decode mL_law.2.2.1 725 = .ok (.iload_n 3, 1) := by decide +kernel
theorem dL_law_726 : decode mL_law.2.2.1 726 = .ok (.iconst 1, 1) := by decide +kernel
theorem dL_law_727 : decode mL_law.2.2.1 727 = .ok (.iadd, 1) := by decide +kernel
theorem dL_law_728 : decode mL_law.2.2.1 728 = .ok (.iaload, 1) := by decide +kernel
theorem dL_law_729 : decode mL_law.2.2.1 729 = .ok (.aload_n 0, 1) := by decide +kernel
theorem dL_law_730 : decode mL_law.2.2.1 730 = .ok (.iload_n 3, 1) := by decide +kernel
theorem dL_law_731 : decode mL_law.2.2.1 731 = .ok (.iconst 2, 1) := by decide +kernel
theorem dL_law_732 : decode mL_law.2.2.1 732 = .ok (.iadd, 1) := by decide +kernel
theorem dL_law_733 : decode mL_law.2.2.1 733 = .ok (.iaload, 1) := by decide +kernel
theorem dL_law_734 : decode mL_law.2.2.1 734 = .ok (.aload_n 0, 1) := by decide +kernel
theorem dL_law_735 : decode mL_law.2.2.1 735 = .ok (.iload_n 3, 1) := by decide +kernel
theorem dL_law_736 : decode mL_law.2.2.1 736 = .ok (.iconst 3, 1) := by decide +kernel
theorem dL_law_737 : decode mL_law.2.2.1 737 = .ok (.iadd, 1) := by decide +kernel
theorem dL_law_738 : decode mL_law.2.2.1 738 = .ok (.iaload, 1) := by decide +kernel
theorem dL_law_739 : decode mL_law.2.2.1 739 = .ok (.invokevirtual 104, 3) := by decide +kernel
theorem dL_law_742 : decode mL_law.2.2.1 742 = .ok (.if_icmp .eq 147, 3) := by decide +kernel
theorem dL_law_745 : decode mL_law.2.2.1 745 = .ok (.iconst 0, 1) := by decide +kernel
theorem dL_law_746 : decode mL_law.2.2.1 746 = .ok (.ireturn, 1) := by decide +kernel
theorem dL_law_747 : decode mL_law.2.2.1 747 = .ok (.aload_n 1, 1) := by decide +kernel
theorem dL_law_748 : decode mL_law.2.2.1 748 = .ok (.aload_n 0, 1) := by decide +kernel
theorem dL_law_749 : decode mL_law.2.2.1 749 = .ok (.iload_n 3, 1) := by decide +kernel
theorem dL_law_750 : decode mL_law.2.2.1 750 = .ok (.iconst 1, 1) := by decide +kernel
theorem dL_law_751 : decode mL_law.2.2.1 751 = .ok (.iadd, 1) := by decide +kernel
theorem dL_law_752 : decode mL_law.2.2.1 752 = .ok (.iaload, 1) := by decide +kernel
theorem dL_law_753 : decode mL_law.2.2.1 753 = .ok (.aload_n 0, 1) := by decide +kernel
theorem dL_law_754 : decode mL_law.2.2.1 754 = .ok (.iload_n 3, 1) := by decide +kernel
theorem dL_law_755 : decode mL_law.2.2.1 755 = .ok (.iconst 2, 1) := by decide +kernel
theorem dL_law_756 : decode mL_law.2.2.1 756 = .ok (.iadd, 1) := by decide +kernel
theorem dL_law_757 : decode mL_law.2.2.1 757 = .ok (.iaload, 1) := by decide +kernel
theorem dL_law_758 : decode mL_law.2.2.1 758 = .ok (.invokevirtual 105, 3) := by decide +kernel
theorem dL_law_761 : decode mL_law.2.2.1 761 = .ok (.aload_n 2, 1) := by decide +kernel
theorem dL_law_762 : decode mL_law.2.2.1 762 = .ok (.aload_n 0, 1) := by decide +kernel
theorem dL_law_763 : decode mL_law.2.2.1 763 = .ok (.iload_n 3, 1) := by decide +kernel
theorem dL_law_764 : decode mL_law.2.2.1 764 = .ok (.iconst 1, 1) := by decide +kernel
theorem dL_law_765 : decode mL_law.2.2.1 765 = .ok (.iadd, 1) := by decide +kernel
theorem dL_law_766 : decode mL_law.2.2.1 766 = .ok (.iaload, 1) := by decide +kernel
theorem dL_law_767 : decode mL_law.2.2.1 767 = .ok (.aload_n 0, 1) := by decide +kernel
theorem dL_law_768 : decode mL_law.2.2.1 768 = .ok (.iload_n 3, 1) := by decide +kernel
theorem dL_law_769 : decode mL_law.2.2.1 769 = .ok (.iconst 2, 1) := by decide +kernel
theorem dL_law_770 : decode mL_law.2.2.1 770 = .ok (.iadd, 1) := by decide +kernel
theorem dL_law_771 : decode mL_law.2.2.1 771 = .ok (.iaload, 1) := by decide +kernel
theorem dL_law_772 : decode mL_law.2.2.1 772 = .ok (.invokevirtual 108, 3) := by decide +kernel
theorem dL_law_775 : decode mL_law.2.2.1 775 = .ok (.if_icmp .eq 114, 3) := by decide +kernel
theorem dL_law_778 : decode mL_law.2.2.1 778 = .ok (.iconst 0, 1) := by decide +kernel
theorem dL_law_779 : decode mL_law.2.2.1 779 = .ok (.ireturn, 1) := by decide +kernel
theorem dL_law_780 : decode mL_law.2.2.1 780 = .ok (.aload_n 1, 1) := by decide +kernel
theorem dL_law_781 : decode mL_law.2.2.1 781 = .ok (.aload_n 0, 1) := by decide +kernel
theorem dL_law_782 : decode mL_law.2.2.1 782 = .ok (.iload_n 3, 1) := by decide +kernel
theorem dL_law_783 : decode mL_law.2.2.1 783 = .ok (.iconst 1, 1) := by decide +kernel
theorem dL_law_784 : decode mL_law.2.2.1 784 = .ok (.iadd, 1) := by decide +kernel
theorem dL_law_785 : decode mL_law.2.2.1 785 = .ok (.iaload, 1) := by decide +kernel
theorem dL_law_786 : decode mL_law.2.2.1 786 = .ok (.aload_n 0, 1) := by decide +kernel
theorem dL_law_787 : decode mL_law.2.2.1 787 = .ok (.iload_n 3, 1) := by decide +kernel
theorem dL_law_788 : decode mL_law.2.2.1 788 = .ok (.iconst 2, 1) := by decide +kernel
theorem dL_law_789 : decode mL_law.2.2.1 789 = .ok (.iadd, 1) := by decide +kernel
theorem dL_law_790 : decode mL_law.2.2.1 790 = .ok (.iaload, 1) := by decide +kernel
theorem dL_law_791 : decode mL_law.2.2.1 791 = .ok (.aload_n 0, 1) := by decide +kernel
theorem dL_law_792 : decode mL_law.2.2.1 792 = .ok (.iload_n 3, 1) := by decide +kernel
theorem dL_law_793 : decode mL_law.2.2.1 793 = .ok (.iconst 3, 1) := by decide +kernel
theorem dL_law_794 : decode mL_law.2.2.1 794 = .ok (.iadd, 1) := by decide +kernel
theorem dL_law_795 : decode mL_law.2.2.1 795 = .ok (.iaload, 1) := by decide +kernel
theorem dL_law_796 : decode mL_law.2.2.1 796 = .ok (.invokevirtual 109, 3) := by decide +kernel
theorem dL_law_799 : decode mL_law.2.2.1 799 = .ok (.aload_n 2, 1) := by decide +kernel
theorem dL_law_800 : decode mL_law.2.2.1 800 = .ok (.aload_n 0, 1) := by decide +kernel
theorem dL_law_801 : decode mL_law.2.2.1 801 = .ok (.iload_n 3, 1) := by decide +kernel
theorem dL_law_802 : decode mL_law.2.2.1 802 = .ok (.iconst 1, 1) := by decide +kernel
theorem dL_law_803 : decode mL_law.2.2.1 803 = .ok (.iadd, 1) := by decide +kernel
theorem dL_law_804 : decode mL_law.2.2.1 804 = .ok (.iaload, 1) := by decide +kernel
theorem dL_law_805 : decode mL_law.2.2.1 805 = .ok (.aload_n 0, 1) := by decide +kernel
theorem dL_law_806 : decode mL_law.2.2.1 806 = .ok (.iload_n 3, 1) := by decide +kernel
theorem dL_law_807 : decode mL_law.2.2.1 807 = .ok (.iconst 2, 1) := by decide +kernel
theorem dL_law_808 : decode mL_law.2.2.1 808 = .ok (.iadd, 1) := by decide +kernel
theorem dL_law_809 : decode mL_law.2.2.1 809 = .ok (.iaload, 1) := by decide +kernel
theorem dL_law_810 : decode mL_law.2.2.1 810 = .ok (.aload_n 0, 1) := by decide +kernel
theorem dL_law_811 : decode mL_law.2.2.1 811 = .ok (.iload_n 3, 1) := by decide +kernel
theorem dL_law_812 : decode mL_law.2.2.1 812 = .ok (.iconst 3, 1) := by decide +kernel
theorem dL_law_813 : decode mL_law.2.2.1 813 = .ok (.iadd, 1) := by decide +kernel
theorem dL_law_814 : decode mL_law.2.2.1 814 = .ok (.iaload, 1) := by decide +kernel
theorem dL_law_815 : decode mL_law.2.2.1 815 = .ok (.invokevirtual 112, 3) := by decide +kernel
theorem dL_law_818 : decode mL_law.2.2.1 818 = .ok (.if_icmp .eq 71, 3) := by decide +kernel
theorem dL_law_821 : decode mL_law.2.2.1 821 = .ok (.iconst 0, 1) := by decide +kernel
theorem dL_law_822 : decode mL_law.2.2.1 822 = .ok (.ireturn, 1) := by decide +kernel
theorem dL_law_823 : decode mL_law.2.2.1 823 = .ok (.aload_n 1, 1) := by decide +kernel
theorem dL_law_824 : decode mL_law.2.2.1 824 = .ok (.aload_n 0, 1) := by decide +kernel
theorem dL_law_825 : decode mL_law.2.2.1 825 = .ok (.iload_n 3, 1) := by decide +kernel
theorem dL_law_826 : decode mL_law.2.2.1 826 = .ok (.iconst 1, 1) := by decide +kernel
theorem dL_law_827 : decode mL_law.2.2.1 827 = .ok (.iadd, 1) := by decide +kernel
theorem dL_law_828 : decode mL_law.2.2.1 828 = .ok (.iaload, 1) := by decide +kernel
theorem dL_law_829 : decode mL_law.2.2.1 829 = .ok (.aload_n 0, 1) := by decide +kernel
theorem dL_law_830 : decode mL_law.2.2.1 830 = .ok (.iload_n 3, 1) := by decide +kernel
theorem dL_law_831 : decode mL_law.2.2.1 831 = .ok (.iconst 2, 1) := by decide +kernel
theorem dL_law_832 : decode mL_law.2.2.1 832 = .ok (.iadd, 1) := by decide +kernel
theorem dL_law_833 : decode mL_law.2.2.1 833 = .ok (.iaload, 1) := by decide +kernel
theorem dL_law_834 : decode mL_law.2.2.1 834 = .ok (.invokevirtual 113, 3) := by decide +kernel
theorem dL_law_837 : decode mL_law.2.2.1 837 = .ok (.aload_n 2, 1) := by decide +kernel
theorem dL_law_838 : decode mL_law.2.2.1 838 = .ok (.aload_n 0, 1) := by decide +kernel
theorem dL_law_839 : decode mL_law.2.2.1 839 = .ok (.iload_n 3, 1) := by decide +kernel
theorem dL_law_840 : decode mL_law.2.2.1 840 = .ok (.iconst 1, 1) := by decide +kernel
theorem dL_law_841 : decode mL_law.2.2.1 841 = .ok (.iadd, 1) := by decide +kernel
theorem dL_law_842 : decode mL_law.2.2.1 842 = .ok (.iaload, 1) := by decide +kernel
theorem dL_law_843 : decode mL_law.2.2.1 843 = .ok (.aload_n 0, 1) := by decide +kernel
theorem dL_law_844 : decode mL_law.2.2.1 844 = .ok (.iload_n 3, 1) := by decide +kernel
theorem dL_law_845 : decode mL_law.2.2.1 845 = .ok (.iconst 2, 1) := by decide +kernel
theorem dL_law_846 : decode mL_law.2.2.1 846 = .ok (.iadd, 1) := by decide +kernel
theorem dL_law_847 : decode mL_law.2.2.1 847 = .ok (.iaload, 1) := by decide +kernel
theorem dL_law_848 : decode mL_law.2.2.1 848 = .ok (.invokevirtual 116, 3) := by decide +kernel
theorem dL_law_851 : decode mL_law.2.2.1 851 = .ok (.if_icmp .eq 38, 3) := by decide +kernel
theorem dL_law_854 : decode mL_law.2.2.1 854 = .ok (.iconst 0, 1) := by decide +kernel
theorem dL_law_855 : decode mL_law.2.2.1 855 = .ok (.ireturn, 1) := by decide +kernel
theorem dL_law_856 : decode mL_law.2.2.1 856 = .ok (.aload_n 1, 1) := by decide +kernel
theorem dL_law_857 : decode mL_law.2.2.1 857 = .ok (.aload_n 0, 1) := by decide +kernel
theorem dL_law_858 : decode mL_law.2.2.1 858 = .ok (.iload_n 3, 1) := by decide +kernel
theorem dL_law_859 : decode mL_law.2.2.1 859 = .ok (.iconst 1, 1) := by decide +kernel
theorem dL_law_860 : decode mL_law.2.2.1 860 = .ok (.iadd, 1) := by decide +kernel
theorem dL_law_861 : decode mL_law.2.2.1 861 = .ok (.iaload, 1) := by decide +kernel
theorem dL_law_862 : decode mL_law.2.2.1 862 = .ok (.aload_n 0, 1) := by decide +kernel
theorem dL_law_863 : decode mL_law.2.2.1 863 = .ok (.iload_n 3, 1) := by decide +kernel
theorem dL_law_864 : decode mL_law.2.2.1 864 = .ok (.iconst 2, 1) := by decide +kernel
theorem dL_law_865 : decode mL_law.2.2.1 865 = .ok (.iadd, 1) := by decide +kernel
theorem dL_law_866 : decode mL_law.2.2.1 866 = .ok (.iaload, 1) := by decide +kernel
theorem dL_law_867 : decode mL_law.2.2.1 867 = .ok (.invokevirtual 117, 3) := by decide +kernel
theorem dL_law_870 : decode mL_law.2.2.1 870 = .ok (.aload_n 2, 1) := by decide +kernel
theorem dL_law_871 : decode mL_law.2.2.1 871 = .ok (.aload_n 0, 1) := by decide +kernel
theorem dL_law_872 : decode mL_law.2.2.1 872 = .ok (.iload_n 3, 1) := by decide +kernel
theorem dL_law_873 : decode mL_law.2.2.1 873 = .ok (.iconst 1, 1) := by decide +kernel
theorem dL_law_874 : decode mL_law.2.2.1 874 = .ok (.iadd, 1) := by decide +kernel
theorem dL_law_875 : decode mL_law.2.2.1 875 = .ok (.iaload, 1) := by decide +kernel
theorem dL_law_876 : decode mL_law.2.2.1 876 = .ok (.aload_n 0, 1) := by decide +kernel
theorem dL_law_877 : decode mL_law.2.2.1 877 = .ok (.iload_n 3, 1) := by decide +kernel
theorem dL_law_878 : decode mL_law.2.2.1 878 = .ok (.iconst 2, 1) := by decide +kernel
theorem dL_law_879 : decode mL_law.2.2.1 879 = .ok (.iadd, 1) := by decide +kernel
theorem dL_law_880 : decode mL_law.2.2.1 880 = .ok (.iaload, 1) := by decide +kernel
theorem dL_law_881 : decode mL_law.2.2.1 881 = .ok (.invokevirtual 120, 3) := by decide +kernel
theorem dL_law_884 : decode mL_law.2.2.1 884 = .ok (.if_icmp .eq 5, 3) := by decide +kernel
theorem dL_law_887 : decode mL_law.2.2.1 887 = .ok (.iconst 0, 1) := by decide +kernel
theorem dL_law_888 : decode mL_law.2.2.1 888 = .ok (.ireturn, 1) := by decide +kernel
theorem dL_law_889 : decode mL_law.2.2.1 889 = .ok (.iinc 3 6, 3) := by decide +kernel
theorem dL_law_892 : decode mL_law.2.2.1 892 = .ok (.goto (-874), 3) := by decide +kernel
theorem dL_law_895 : decode mL_law.2.2.1 895 = .ok (.iconst 1, 1) := by decide +kernel
theorem dL_law_896 : decode mL_law.2.2.1 896 = .ok (.ireturn, 1) := by decide +kernel
