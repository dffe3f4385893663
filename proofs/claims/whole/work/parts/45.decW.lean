/-! the law itself: decode rows -/
theorem d_LW_law_0 : decode code 0 = .ok (.new 8, 3) := by decide +kernel
theorem d_LW_law_3 : decode code 3 = .ok (.dup, 1) := by decide +kernel
theorem d_LW_law_4 : decode code 4 = .ok (.invokespecial 48, 3) := by decide +kernel
theorem d_LW_law_7 : decode code 7 = .ok (.astore_n 1, 1) := by decide +kernel
theorem d_LW_law_8 : decode code 8 = .ok (.new 49, 3) := by decide +kernel
theorem d_LW_law_11 : decode code 11 = .ok (.dup, 1) := by decide +kernel
theorem d_LW_law_12 : decode code 12 = .ok (.invokespecial 51, 3) := by decide +kernel
theorem d_LW_law_15 : decode code 15 = .ok (.astore_n 2, 1) := by decide +kernel
theorem d_LW_law_16 : decode code 16 = .ok (.iconst 1, 1) := by decide +kernel
theorem d_LW_law_17 : decode code 17 = .ok (.newarray .long, 2) := by decide +kernel
theorem d_LW_law_19 : decode code 19 = .ok (.astore_n 3, 1) := by decide +kernel
theorem d_LW_law_20 : decode code 20 = .ok (.iconst 0, 1) := by decide +kernel
theorem d_LW_law_21 : decode code 21 = .ok (.istore 4, 2) := by decide +kernel
theorem d_LW_law_23 : decode code 23 = .ok (.iload 4, 2) := by decide +kernel
theorem d_LW_law_25 : decode code 25 = .ok (.aload_n 0, 1) := by decide +kernel
theorem d_LW_law_26 : decode code 26 = .ok (.arraylength, 1) := by decide +kernel
theorem d_LW_law_27 : decode code 27 = .ok (.iconst 5, 1) := by decide +kernel
theorem d_LW_law_28 : decode code 28 = .ok (.isub, 1) := by decide +kernel
theorem d_LW_law_29 : decode code 29 = .ok (.if_icmp .gt 688, 3) := by decide +kernel
theorem d_LW_law_32 : decode code 32 = .ok (.aload_n 0, 1) := by decide +kernel
theorem d_LW_law_33 : decode code 33 = .ok (.iload 4, 2) := by decide +kernel
theorem d_LW_law_35 : decode code 35 = .ok (.iaload, 1) := by decide +kernel
theorem d_LW_law_36 : decode code 36 = .ok (.bipush 15, 2) := by decide +kernel
theorem d_LW_law_38 : decode code 38 = .ok (.iand, 1) := by decide +kernel
theorem d_LW_law_39 : decode code 39 = .ok (.tableswitch 672 0 10 #[57, 117, 197, 289, 345, 401, 414, 427, 494, 561, 617], 57) := by decide +kernel
theorem d_LW_law_96 : decode code 96 = .ok (.aload_n 1, 1) := by decide +kernel
theorem d_LW_law_97 : decode code 97 = .ok (.aload_n 0, 1) := by decide +kernel
theorem d_LW_law_98 : decode code 98 = .ok (.iload 4, 2) := by decide +kernel
theorem d_LW_law_100 : decode code 100 = .ok (.iconst 1, 1) := by decide +kernel
theorem d_LW_law_101 : decode code 101 = .ok (.iadd, 1) := by decide +kernel
theorem d_LW_law_102 : decode code 102 = .ok (.iaload, 1) := by decide +kernel
theorem d_LW_law_103 : decode code 103 = .ok (.aload_n 0, 1) := by decide +kernel
theorem d_LW_law_104 : decode code 104 = .ok (.iload 4, 2) := by decide +kernel
theorem d_LW_law_106 : decode code 106 = .ok (.iconst 2, 1) := by decide +kernel
theorem d_LW_law_107 : decode code 107 = .ok (.iadd, 1) := by decide +kernel
theorem d_LW_law_108 : decode code 108 = .ok (.iaload, 1) := by decide +kernel
theorem d_LW_law_109 : decode code 109 = .ok (.aload_n 0, 1) := by decide +kernel
theorem d_LW_law_110 : decode code 110 = .ok (.iload 4, 2) := by decide +kernel
theorem d_LW_law_112 : decode code 112 = .ok (.iconst 3, 1) := by decide +kernel
theorem d_LW_law_113 : decode code 113 = .ok (.iadd, 1) := by decide +kernel
theorem d_LW_law_114 : decode code 114 = .ok (.iaload, 1) := by decide +kernel
theorem d_LW_law_115 : decode code 115 = .ok (.invokestatic 52, 3) := by decide +kernel
theorem d_LW_law_118 : decode code 118 = .ok (.istore 5, 2) := by decide +kernel
theorem d_LW_law_120 : decode code 120 = .ok (.aload_n 2, 1) := by decide +kernel
theorem d_LW_law_121 : decode code 121 = .ok (.aload_n 0, 1) := by decide +kernel
theorem d_LW_law_122 : decode code 122 = .ok (.iload 4, 2) := by decide +kernel
theorem d_LW_law_124 : decode code 124 = .ok (.iconst 1, 1) := by decide +kernel
theorem d_LW_law_125 : decode code 125 = .ok (.iadd, 1) := by decide +kernel
theorem d_LW_law_126 : decode code 126 = .ok (.iaload, 1) := by decide +kernel
theorem d_LW_law_127 : decode code 127 = .ok (.aload_n 0, 1) := by decide +kernel
theorem d_LW_law_128 : decode code 128 = .ok (.iload 4, 2) := by decide +kernel
theorem d_LW_law_130 : decode code 130 = .ok (.iconst 2, 1) := by decide +kernel
theorem d_LW_law_131 : decode code 131 = .ok (.iadd, 1) := by decide +kernel
theorem d_LW_law_132 : decode code 132 = .ok (.iaload, 1) := by decide +kernel
theorem d_LW_law_133 : decode code 133 = .ok (.aload_n 0, 1) := by decide +kernel
theorem d_LW_law_134 : decode code 134 = .ok (.iload 4, 2) := by decide +kernel
theorem d_LW_law_136 : decode code 136 = .ok (.iconst 3, 1) := by decide +kernel
theorem d_LW_law_137 : decode code 137 = .ok (.iadd, 1) := by decide +kernel
theorem d_LW_law_138 : decode code 138 = .ok (.iaload, 1) := by decide +kernel
theorem d_LW_law_139 : decode code 139 = .ok (.invokevirtual 57, 3) := by decide +kernel
theorem d_LW_law_142 : decode code 142 = .ok (.aload_n 2, 1) := by decide +kernel
theorem d_LW_law_143 : decode code 143 = .ok (.invokevirtual 58, 3) := by decide +kernel
theorem d_LW_law_146 : decode code 146 = .ok (.iload 5, 2) := by decide +kernel
theorem d_LW_law_148 : decode code 148 = .ok (.if_icmp .eq 5, 3) := by decide +kernel
theorem d_LW_law_151 : decode code 151 = .ok (.iconst 0, 1) := by decide +kernel
theorem d_LW_law_152 : decode code 152 = .ok (.ireturn, 1) := by decide +kernel
theorem d_LW_law_153 : decode code 153 = .ok (.goto 558, 3) := by decide +kernel
theorem d_LW_law_156 : decode code 156 = .ok (.aload_n 1, 1) := by decide +kernel
theorem d_LW_law_157 : decode code 157 = .ok (.aload_n 0, 1) := by decide +kernel
theorem d_LW_law_158 : decode code 158 = .ok (.iload 4, 2) := by decide +kernel
theorem d_LW_law_160 : decode code 160 = .ok (.iconst 1, 1) := by decide +kernel
theorem d_LW_law_161 : decode code 161 = .ok (.iadd, 1) := by decide +kernel
theorem d_LW_law_162 : decode code 162 = .ok (.iaload, 1) := by decide +kernel
theorem d_LW_law_163 : decode code 163 = .ok (.aload_n 0, 1) := by decide +kernel
theorem d_LW_law_164 : decode code 164 = .ok (.iload 4, 2) := by decide +kernel
theorem d_LW_law_166 : decode code 166 = .ok (.iconst 2, 1) := by decide +kernel
theorem d_LW_law_167 : decode code 167 = .ok (.iadd, 1) := by decide +kernel
theorem d_LW_law_168 : decode code 168 = .ok (.iaload, 1) := by decide +kernel
theorem d_LW_law_169 : decode code 169 = .ok (.aload_n 0, 1) := by decide +kernel
theorem d_LW_law_170 : decode code 170 = .ok (.iload 4, 2) := by decide +kernel
theorem d_LW_law_172 : decode code 172 = .ok (.iconst 3, 1) := by decide +kernel
theorem d_LW_law_173 : decode code 173 = .ok (.iadd, 1) := by decide +kernel
theorem d_LW_law_174 : decode code 174 = .ok (.iaload, 1) := by decide +kernel
theorem d_LW_law_175 : decode code 175 = .ok (.aload_n 3, 1) := by decide +kernel
theorem d_LW_law_176 : decode code 176 = .ok (.invokestatic 62, 3) := by decide +kernel
theorem d_LW_law_179 : decode code 179 = .ok (.istore 5, 2) := by decide +kernel
theorem d_LW_law_181 : decode code 181 = .ok (.aload_n 2, 1) := by decide +kernel
theorem d_LW_law_182 : decode code 182 = .ok (.aload_n 0, 1) := by decide +kernel
theorem d_LW_law_183 : decode code 183 = .ok (.iload 4, 2) := by decide +kernel
theorem d_LW_law_185 : decode code 185 = .ok (.iconst 1, 1) := by decide +kernel
theorem d_LW_law_186 : decode code 186 = .ok (.iadd, 1) := by decide +kernel
theorem d_LW_law_187 : decode code 187 = .ok (.iaload, 1) := by decide +kernel
theorem d_LW_law_188 : decode code 188 = .ok (.aload_n 0, 1) := by decide +kernel
theorem d_LW_law_189 : decode code 189 = .ok (.iload 4, 2) := by decide +kernel
theorem d_LW_law_191 : decode code 191 = .ok (.iconst 2, 1) := by decide +kernel
theorem d_LW_law_192 : decode code 192 = .ok (.iadd, 1) := by decide +kernel
theorem d_LW_law_193 : decode code 193 = .ok (.iaload, 1) := by decide +kernel
theorem d_LW_law_194 : decode code 194 = .ok (.aload_n 0, 1) := by decide +kernel
theorem d_LW_law_195 : decode code 195 = .ok (.iload 4, 2) := by decide +kernel
theorem d_LW_law_197 : decode code 197 = .ok (.iconst 3, 1) := by decide +kernel
theorem d_LW_law_198 : decode code 198 = .ok (.iadd, 1) := by decide +kernel
theorem d_LW_law_199 : decode code 199 = .ok (.iaload, 1) := by decide +kernel
theorem d_LW_law_200 : decode code 200 = .ok (.invokevirtual 65, 3) := by decide +kernel
theorem d_LW_law_203 : decode code 203 = .ok (.istore 6, 2) := by decide +kernel
theorem d_LW_law_205 : decode code 205 = .ok (.aload_n 2, 1) := by decide +kernel
theorem d_LW_law_206 : decode code 206 = .ok (.invokevirtual 58, 3) := by decide +kernel
theorem d_LW_law_209 : decode code 209 = .ok (.iload 5, 2) := by decide +kernel
theorem d_LW_law_211 : decode code 211 = .ok (.if_icmp .eq 5, 3) := by decide +kernel
theorem d_LW_law_214 : decode code 214 = .ok (.iconst 0, 1) := by decide +kernel
theorem d_LW_law_215 : decode code 215 = .ok (.ireturn, 1) := by decide +kernel
theorem d_LW_law_216 : decode code 216 = .ok (.iload 5, 2) := by decide +kernel
theorem d_LW_law_218 : decode code 218 = .ok (.ifCond .ne 15, 3) := by decide +kernel
theorem d_LW_law_221 : decode code 221 = .ok (.aload_n 3, 1) := by decide +kernel
theorem d_LW_law_222 : decode code 222 = .ok (.iconst 0, 1) := by decide +kernel
theorem d_LW_law_223 : decode code 223 = .ok (.laload, 1) := by decide +kernel
theorem d_LW_law_224 : decode code 224 = .ok (.iload 6, 2) := by decide +kernel
theorem d_LW_law_226 : decode code 226 = .ok (.i2l, 1) := by decide +kernel
theorem d_LW_law_227 : decode code 227 = .ok (.lcmp, 1) := by decide +kernel
theorem d_LW_law_228 : decode code 228 = .ok (.ifCond .eq 5, 3) := by decide +kernel
theorem d_LW_law_231 : decode code 231 = .ok (.iconst 0, 1) := by decide +kernel
theorem d_LW_law_232 : decode code 232 = .ok (.ireturn, 1) := by decide +kernel
theorem d_LW_law_233 : decode code 233 = .ok (.goto 478, 3) := by decide +kernel
theorem d_LW_law_236 : decode code 236 = .ok (.aload_n 1, 1) := by decide +kernel
theorem d_LW_law_237 : decode code 237 = .ok (.aload_n 0, 1) := by decide +kernel
theorem d_LW_law_238 : decode code 238 = .ok (.iload 4, 2) := by decide +kernel
theorem d_LW_law_240 : decode code 240 = .ok (.iconst 1, 1) := by decide +kernel
theorem d_LW_law_241 : decode code 241 = .ok (.iadd, 1) := by decide +kernel
theorem d_LW_law_242 : decode code 242 = .ok (.iaload, 1) := by decide +kernel
theorem d_LW_law_243 : decode code 243 = .ok (.aload_n 0, 1) := by decide +kernel
theorem d_LW_law_244 : decode code 244 = .ok (.iload 4, 2) := by decide +kernel
theorem d_LW_law_246 : decode code 246 = .ok (.iconst 2, 1) := by decide +kernel
theorem d_LW_law_247 : decode code 247 = .ok (.iadd, 1) := by decide +kernel
theorem d_LW_law_248 : decode code 248 = .ok (.iaload, 1) := by decide +kernel
theorem d_LW_law_249 : decode code 249 = .ok (.aload_n 0, 1) := by decide +kernel
theorem d_LW_law_250 : decode code 250 = .ok (.iload 4, 2) := by decide +kernel
theorem d_LW_law_252 : decode code 252 = .ok (.iconst 3, 1) := by decide +kernel
theorem d_LW_law_253 : decode code 253 = .ok (.iadd, 1) := by decide +kernel
theorem d_LW_law_254 : decode code 254 = .ok (.iaload, 1) := by decide +kernel
theorem d_LW_law_255 : decode code 255 = .ok (.aload_n 0, 1) := by decide +kernel
theorem d_LW_law_256 : decode code 256 = .ok (.iload 4, 2) := by decide +kernel
theorem d_LW_law_258 : decode code 258 = .ok (.iconst 4, 1) := by decide +kernel
theorem d_LW_law_259 : decode code 259 = .ok (.iadd, 1) := by decide +kernel
theorem d_LW_law_260 : decode code 260 = .ok (.iaload, 1) := by decide +kernel
theorem d_LW_law_261 : decode code 261 = .ok (.aload_n 3, 1) := by decide +kernel
theorem d_LW_law_262 : decode code 262 = .ok (.invokestatic 66, 3) := by decide +kernel
theorem d_LW_law_265 : decode code 265 = .ok (.istore 5, 2) := by decide +kernel
theorem d_LW_law_267 : decode code 267 = .ok (.aload_n 2, 1) := by decide +kernel
theorem d_LW_law_268 : decode code 268 = .ok (.aload_n 0, 1) := by decide +kernel
theorem d_LW_law_269 : decode code 269 = .ok (.iload 4, 2) := by decide +kernel
theorem d_LW_law_271 : decode code 271 = .ok (.iconst 1, 1) := by decide +kernel
theorem d_LW_law_272 : decode code 272 = .ok (.iadd, 1) := by decide +kernel
theorem d_LW_law_273 : decode code 273 = .ok (.iaload, 1) := by decide +kernel
theorem d_LW_law_274 : decode code 274 = .ok (.aload_n 0, 1) := by decide +kernel
theorem d_LW_law_275 : decode code 275 = .ok (.iload 4, 2) := by decide +kernel
theorem d_LW_law_277 : decode code 277 = .ok (.iconst 2, 1) := by decide +kernel
theorem d_LW_law_278 : decode code 278 = .ok (.iadd, 1) := by decide +kernel
theorem d_LW_law_279 : decode code 279 = .ok (.iaload, 1) := by decide +kernel
theorem d_LW_law_280 : decode code 280 = .ok (.aload_n 0, 1) := by decide +kernel
theorem d_LW_law_281 : decode code 281 = .ok (.iload 4, 2) := by decide +kernel
theorem d_LW_law_283 : decode code 283 = .ok (.iconst 3, 1) := by decide +kernel
theorem d_LW_law_284 : decode code 284 = .ok (.iadd, 1) := by decide +kernel
theorem d_LW_law_285 : decode code 285 = .ok (.iaload, 1) := by decide +kernel
theorem d_LW_law_286 : decode code 286 = .ok (.aload_n 0, 1) := by decide +kernel
theorem d_LW_law_287 : decode code 287 = .ok (.iload 4, 2) := by decide +kernel
theorem d_LW_law_289 : decode code 289 = .ok (.iconst 4, 1) := by decide +kernel
theorem d_LW_law_290 : decode code 290 = .ok (.iadd, 1) := by decide +kernel
theorem d_LW_law_291 : decode code 291 = .ok (.iaload, 1) := by decide +kernel
theorem d_LW_law_292 : decode code 292 = .ok (.invokevirtual 69, 3) := by decide +kernel
theorem d_LW_law_295 : decode code 295 = .ok (.istore 6, 2) := by decide +kernel
theorem d_LW_law_297 : decode code 297 = .ok (.aload_n 2, 1) := by decide +kernel
theorem d_LW_law_298 : decode code 298 = .ok (.invokevirtual 58, 3) := by decide +kernel
theorem d_LW_law_301 : decode code 301 = .ok (.iload 5, 2) := by decide +kernel
theorem d_LW_law_303 : decode code 303 = .ok (.if_icmp .eq 5, 3) := by decide +kernel
theorem d_LW_law_306 : decode code 306 = .ok (.iconst 0, 1) := by decide +kernel
theorem d_LW_law_307 : decode code 307 = .ok (.ireturn, 1) := by decide +kernel
theorem d_LW_law_308 : decode code 308 = .ok (.iload 5, 2) := by decide +kernel
theorem d_LW_law_310 : decode code 310 = .ok (.ifCond .ne 15, 3) := by decide +kernel
theorem d_LW_law_313 : decode code 313 = .ok (.aload_n 3, 1) := by decide +kernel
theorem d_LW_law_314 : decode code 314 = .ok (.iconst 0, 1) := by decide +kernel
theorem d_LW_law_315 : decode code 315 = .ok (.laload, 1) := by decide +kernel
theorem d_LW_law_316 : decode code 316 = .ok (.iload 6, 2) := by decide +kernel
theorem d_LW_law_318 : decode code 318 = .ok (.i2l, 1) := by decide +kernel
theorem d_LW_law_319 : decode code 319 = .ok (.lcmp, 1) := by decide +kernel
theorem d_LW_law_320 : decode code 320 = .ok (.ifCond .eq 5, 3) := by decide +kernel
theorem d_LW_law_323 : decode code 323 = .ok (.iconst 0, 1) := by decide +kernel
theorem d_LW_law_324 : decode code 324 = .ok (.ireturn, 1) := by decide +kernel
theorem d_LW_law_325 : decode code 325 = .ok (.goto 386, 3) := by decide +kernel
theorem d_LW_law_328 : decode code 328 = .ok (.aload_n 1, 1) := by decide +kernel
theorem d_LW_law_329 : decode code 329 = .ok (.aload_n 0, 1) := by decide +kernel
theorem d_LW_law_330 : decode code 330 = .ok (.iload 4, 2) := by decide +kernel
theorem d_LW_law_332 : decode code 332 = .ok (.iconst 1, 1) := by decide +kernel
theorem d_LW_law_333 : decode code 333 = .ok (.iadd, 1) := by decide +kernel
theorem d_LW_law_334 : decode code 334 = .ok (.iaload, 1) := by decide +kernel
theorem d_LW_law_335 : decode code 335 = .ok (.aload_n 3, 1) := by decide +kernel
theorem d_LW_law_336 : decode code 336 = .ok (.invokestatic 70, 3) := by decide +kernel
theorem d_LW_law_339 : decode code 339 = .ok (.istore 5, 2) := by decide +kernel
theorem d_LW_law_341 : decode code 341 = .ok (.aload_n 2, 1) := by decide +kernel
theorem d_LW_law_342 : decode code 342 = .ok (.aload_n 0, 1) := by decide +kernel
theorem d_LW_law_343 : decode code 343 = .ok (.iload 4, 2) := by decide +kernel
theorem d_LW_law_345 : decode code 345 = .ok (.iconst 1, 1) := by decide +kernel
theorem d_LW_law_346 : decode code 346 = .ok (.iadd, 1) := by decide +kernel
theorem d_LW_law_347 : decode code 347 = .ok (.iaload, 1) := by decide +kernel
theorem d_LW_law_348 : decode code 348 = .ok (.invokevirtual 73, 3) := by decide +kernel
theorem d_LW_law_351 : decode code 351 = .ok (.istore 6, 2) := by decide +kernel
theorem d_LW_law_353 : decode code 353 = .ok (.aload_n 2, 1) := by decide +kernel
theorem d_LW_law_354 : decode code 354 = .ok (.invokevirtual 58, 3) := by decide +kernel
theorem d_LW_law_357 : decode code 357 = .ok (.iload 5, 2) := by decide +kernel
theorem d_LW_law_359 : decode code 359 = .ok (.if_icmp .eq 5, 3) := by decide +kernel
theorem d_LW_law_362 : decode code 362 = .ok (.iconst 0, 1) := by decide +kernel
theorem d_LW_law_363 : decode code 363 = .ok (.ireturn, 1) := by decide +kernel
theorem d_LW_law_364 : decode code 364 = .ok (.iload 5, 2) := by decide +kernel
theorem d_LW_law_366 : decode code 366 = .ok (.ifCond .ne 15, 3) := by decide +kernel
theorem d_LW_law_369 : decode code 369 = .ok (.aload_n 3, 1) := by decide +kernel
theorem d_LW_law_370 : decode code 370 = .ok (.iconst 0, 1) := by decide +kernel
theorem d_LW_law_371 : decode code 371 = .ok (.laload, 1) := by decide +kernel
theorem d_LW_law_372 : decode code 372 = .ok (.iload 6, 2) := by decide +kernel
theorem d_LW_law_374 : decode code 374 = .ok (.i2l, 1) := by decide +kernel
theorem d_LW_law_375 : decode code 375 = .ok (.lcmp, 1) := by decide +kernel
theorem d_LW_law_376 : decode code 376 = .ok (.ifCond .eq 5, 3) := by decide +kernel
theorem d_LW_law_379 : decode code 379 = .ok (.iconst 0, 1) := by decide +kernel
theorem d_LW_law_380 : decode code 380 = .ok (.ireturn, 1) := by decide +kernel
theorem d_LW_law_381 : decode code 381 = .ok (.goto 330, 3) := by decide +kernel
theorem d_LW_law_384 : decode code 384 = .ok (.aload_n 1, 1) := by decide +kernel
theorem d_LW_law_385 : decode code 385 = .ok (.aload_n 0, 1) := by decide +kernel
theorem d_LW_law_386 : decode code 386 = .ok (.iload 4, 2) := by decide +kernel
theorem d_LW_law_388 : decode code 388 = .ok (.iconst 1, 1) := by decide +kernel
theorem d_LW_law_389 : decode code 389 = .ok (.iadd, 1) := by decide +kernel
theorem d_LW_law_390 : decode code 390 = .ok (.iaload, 1) := by decide +kernel
theorem d_LW_law_391 : decode code 391 = .ok (.aload_n 3, 1) := by decide +kernel
theorem d_LW_law_392 : decode code 392 = .ok (.invokestatic 74, 3) := by decide +kernel
theorem d_LW_law_395 : decode code 395 = .ok (.istore 5, 2) := by decide +kernel
theorem d_LW_law_397 : decode code 397 = .ok (.aload_n 2, 1) := by decide +kernel
theorem d_LW_law_398 : decode code 398 = .ok (.aload_n 0, 1) := by decide +kernel
theorem d_LW_law_399 : decode code 399 = .ok (.iload 4, 2) := by decide +kernel
theorem d_LW_law_401 : decode code 401 = .ok (.iconst 1, 1) := by decide +kernel
theorem d_LW_law_402 : decode code 402 = .ok (.iadd, 1) := by decide +kernel
theorem d_LW_law_403 : decode code 403 = .ok (.iaload, 1) := by decide +kernel
theorem d_LW_law_404 : decode code 404 = .ok (.invokevirtual 76, 3) := by decide +kernel
theorem d_LW_law_407 : decode code 407 = .ok (.istore 6, 2) := by decide +kernel
theorem d_LW_law_409 : decode code 409 = .ok (.aload_n 2, 1) := by decide +kernel
theorem d_LW_law_410 : decode code 410 = .ok (.invokevirtual 58, 3) := by decide +kernel
theorem d_LW_law_413 : decode code 413 = .ok (.iload 5, 2) := by decide +kernel
theorem d_LW_law_415 : decode code 415 = .ok (.if_icmp .eq 5, 3) := by decide +kernel
theorem d_LW_law_418 : decode code 418 = .ok (.iconst 0, 1) := by decide +kernel
theorem d_LW_law_419 : decode code 419 = .ok (.ireturn, 1) := by decide +kernel
theorem d_LW_law_420 : decode code 420 = .ok (.iload 5, 2) := by decide +kernel
theorem d_LW_law_422 : decode code 422 = .ok (.ifCond .ne 15, 3) := by decide +kernel
theorem d_LW_law_425 : decode code 425 = .ok (.aload_n 3, 1) := by decide +kernel
theorem d_LW_law_426 : decode code 426 = .ok (.iconst 0, 1) := by decide +kernel
theorem d_LW_law_427 : decode code 427 = .ok (.laload, 1) := by decide +kernel
theorem d_LW_law_428 : decode code 428 = .ok (.iload 6, 2) := by decide +kernel
theorem d_LW_law_430 : decode code 430 = .ok (.i2l, 1) := by decide +kernel
theorem d_LW_law_431 : decode code 431 = .ok (.lcmp, 1) := by decide +kernel
theorem d_LW_law_432 : decode code 432 = .ok (.ifCond .eq 5, 3) := by decide +kernel
theorem d_LW_law_435 : decode code 435 = .ok (.iconst 0, 1) := by decide +kernel
theorem d_LW_law_436 : decode code 436 = .ok (.ireturn, 1) := by decide +kernel
theorem d_LW_law_437 : decode code 437 = .ok (.goto 274, 3) := by decide +kernel
theorem d_LW_law_440 : decode code 440 = .ok (.aload_n 1, 1) := by decide +kernel
theorem d_LW_law_441 : decode code 441 = .ok (.invokevirtual 77, 3) := by decide +kernel
theorem d_LW_law_444 : decode code 444 = .ok (.aload_n 2, 1) := by decide +kernel
theorem d_LW_law_445 : decode code 445 = .ok (.invokevirtual 80, 3) := by decide +kernel
theorem d_LW_law_448 : decode code 448 = .ok (.if_icmp .eq 263, 3) := by decide +kernel
theorem d_LW_law_451 : decode code 451 = .ok (.iconst 0, 1) := by decide +kernel
theorem d_LW_law_452 : decode code 452 = .ok (.ireturn, 1) := by decide +kernel
theorem d_LW_law_453 : decode code 453 = .ok (.aload_n 1, 1) := by decide +kernel
theorem d_LW_law_454 : decode code 454 = .ok (.invokevirtual 81, 3) := by decide +kernel
theorem d_LW_law_457 : decode code 457 = .ok (.aload_n 2, 1) := by decide +kernel
theorem d_LW_law_458 : decode code 458 = .ok (.invokevirtual 84, 3) := by decide +kernel
theorem d_LW_law_461 : decode code 461 = .ok (.if_icmp .eq 250, 3) := by decide +kernel
theorem d_LW_law_464 : decode code 464 = .ok (.iconst 0, 1) := by decide +kernel
theorem d_LW_law_465 : decode code 465 = .ok (.ireturn, 1) := by decide +kernel
theorem d_LW_law_466 : decode code 466 = .ok (.aload_n 1, 1) := by decide +kernel
theorem d_LW_law_467 : decode code 467 = .ok (.aload_n 0, 1) := by decide +kernel
theorem d_LW_law_468 : decode code 468 = .ok (.iload 4, 2) := by decide +kernel
theorem d_LW_law_470 : decode code 470 = .ok (.iconst 1, 1) := by decide +kernel
theorem d_LW_law_471 : decode code 471 = .ok (.iadd, 1) := by decide +kernel
theorem d_LW_law_472 : decode code 472 = .ok (.iaload, 1) := by decide +kernel
theorem d_LW_law_473 : decode code 473 = .ok (.aload_n 0, 1) := by decide +kernel
theorem d_LW_law_474 : decode code 474 = .ok (.iload 4, 2) := by decide +kernel
theorem d_LW_law_476 : decode code 476 = .ok (.iconst 2, 1) := by decide +kernel
theorem d_LW_law_477 : decode code 477 = .ok (.iadd, 1) := by decide +kernel
theorem d_LW_law_478 : decode code 478 = .ok (.iaload, 1) := by decide +kernel
theorem d_LW_law_479 : decode code 479 = .ok (.aload_n 3, 1) := by decide +kernel
theorem d_LW_law_480 : decode code 480 = .ok (.invokestatic 85, 3) := by decide +kernel
theorem d_LW_law_483 : decode code 483 = .ok (.istore 5, 2) := by decide +kernel
theorem d_LW_law_485 : decode code 485 = .ok (.aload_n 2, 1) := by decide +kernel
theorem d_LW_law_486 : decode code 486 = .ok (.aload_n 0, 1) := by decide +kernel
theorem d_LW_law_487 : decode code 487 = .ok (.iload 4, 2) := by decide +kernel
theorem d_LW_law_489 : decode code 489 = .ok (.iconst 1, 1) := by decide +kernel
theorem d_LW_law_490 : decode code 490 = .ok (.iadd, 1) := by decide +kernel
theorem d_LW_law_491 : decode code 491 = .ok (.iaload, 1) := by decide +kernel
theorem d_LW_law_492 : decode code 492 = .ok (.aload_n 0, 1) := by decide +kernel
theorem d_LW_law_493 : decode code 493 = .ok (.iload 4, 2) := by decide +kernel
theorem d_LW_law_495 : decode code 495 = .ok (.iconst 2, 1) := by decide +kernel
theorem d_LW_law_496 : decode code 496 = .ok (.iadd, 1) := by decide +kernel
theorem d_LW_law_497 : decode code 497 = .ok (.iaload, 1) := by decide +kernel
theorem d_LW_law_498 : decode code 498 = .ok (.invokevirtual 88, 3) := by decide +kernel
theorem d_LW_law_501 : decode code 501 = .ok (.lstore 6, 2) := by decide +kernel
theorem d_LW_law_503 : decode code 503 = .ok (.aload_n 2, 1) := by decide +kernel
theorem d_LW_law_504 : decode code 504 = .ok (.invokevirtual 58, 3) := by decide +kernel
theorem d_LW_law_507 : decode code 507 = .ok (.iload 5, 2) := by decide +kernel
theorem d_LW_law_509 : decode code 509 = .ok (.if_icmp .eq 5, 3) := by decide +kernel
theorem d_LW_law_512 : decode code 512 = .ok (.iconst 0, 1) := by decide +kernel
theorem d_LW_law_513 : decode code 513 = .ok (.ireturn, 1) := by decide +kernel
theorem d_LW_law_514 : decode code 514 = .ok (.iload 5, 2) := by decide +kernel
theorem d_LW_law_516 : decode code 516 = .ok (.ifCond .ne 14, 3) := by decide +kernel
theorem d_LW_law_519 : decode code 519 = .ok (.aload_n 3, 1) := by decide +kernel
theorem d_LW_law_520 : decode code 520 = .ok (.iconst 0, 1) := by decide +kernel
theorem d_LW_law_521 : decode code 521 = .ok (.laload, 1) := by decide +kernel
theorem d_LW_law_522 : decode code 522 = .ok (.lload 6, 2) := by decide +kernel
theorem d_LW_law_524 : decode code 524 = .ok (.lcmp, 1) := by decide +kernel
theorem d_LW_law_525 : decode code 525 = .ok (.ifCond .eq 5, 3) := by decide +kernel
theorem d_LW_law_528 : decode code 528 = .ok (.iconst 0, 1) := by decide +kernel
theorem d_LW_law_529 : decode code 529 = .ok (.ireturn, 1) := by decide +kernel
theorem d_LW_law_530 : decode code 530 = .ok (.goto 181, 3) := by decide +kernel
theorem d_LW_law_533 : decode code 533 = .ok (.aload_n 1, 1) := by decide +kernel
theorem d_LW_law_534 : decode code 534 = .ok (.aload_n 0, 1) := by decide +kernel
theorem d_LW_law_535 : decode code 535 = .ok (.iload 4, 2) := by decide +kernel
theorem d_LW_law_537 : decode code 537 = .ok (.iconst 1, 1) := by decide +kernel
theorem d_LW_law_538 : decode code 538 = .ok (.iadd, 1) := by decide +kernel
theorem d_LW_law_539 : decode code 539 = .ok (.iaload, 1) := by decide +kernel
theorem d_LW_law_540 : decode code 540 = .ok (.aload_n 0, 1) := by decide +kernel
theorem d_LW_law_541 : decode code 541 = .ok (.iload 4, 2) := by decide +kernel
theorem d_LW_law_543 : decode code 543 = .ok (.iconst 2, 1) := by decide +kernel
theorem d_LW_law_544 : decode code 544 = .ok (.iadd, 1) := by decide +kernel
theorem d_LW_law_545 : decode code 545 = .ok (.iaload, 1) := by decide +kernel
theorem d_LW_law_546 : decode code 546 = .ok (.aload_n 3, 1) := by decide +kernel
theorem d_LW_law_547 : decode code 547 = .ok (.invokestatic 89, 3) := by decide +kernel
theorem d_LW_law_550 : decode code 550 = .ok (.istore 5, 2) := by decide +kernel
theorem d_LW_law_552 : decode code 552 = .ok (.aload_n 2, 1) := by decide +kernel
theorem d_LW_law_553 : decode code 553 = .ok (.aload_n 0, 1) := by decide +kernel
theorem d_LW_law_554 : decode code 554 = .ok (.iload 4, 2) := by decide +kernel
theorem d_LW_law_556 : decode code 556 = .ok (.iconst 1, 1) := by decide +kernel
theorem d_LW_law_557 : decode code 557 = .ok (.iadd, 1) := by decide +kernel
theorem d_LW_law_558 : decode code 558 = .ok (.iaload, 1) := by decide +kernel
theorem d_LW_law_559 : decode code 559 = .ok (.aload_n 0, 1) := by decide +kernel
theorem d_LW_law_560 : decode code 560 = .ok (.iload 4, 2) := by decide +kernel
theorem d_LW_law_562 : decode code 562 = .ok (.iconst 2, 1) := by decide +kernel
theorem d_LW_law_563 : decode code 563 = .ok (.iadd, 1) := by decide +kernel
theorem d_LW_law_564 : decode code 564 = .ok (.iaload, 1) := by decide +kernel
theorem d_LW_law_565 : decode code 565 = .ok (.invokevirtual 91, 3) := by decide +kernel
theorem d_LW_law_568 : decode code 568 = .ok (.lstore 6, 2) := by decide +kernel
theorem d_LW_law_570 : decode code 570 = .ok (.aload_n 2, 1) := by decide +kernel
theorem d_LW_law_571 : decode code 571 = .ok (.invokevirtual 58, 3) := by decide +kernel
theorem d_LW_law_574 : decode code 574 = .ok (.iload 5, 2) := by decide +kernel
theorem d_LW_law_576 : decode code 576 = .ok (.if_icmp .eq 5, 3) := by decide +kernel
theorem d_LW_law_579 : decode code 579 = .ok (.iconst 0, 1) := by decide +kernel
theorem d_LW_law_580 : decode code 580 = .ok (.ireturn, 1) := by decide +kernel
theorem d_LW_law_581 : decode code 581 = .ok (.iload 5, 2) := by decide +kernel
theorem d_LW_law_583 : decode code 583 = .ok (.ifCond .ne 14, 3) := by decide +kernel
theorem d_LW_law_586 : decode code 586 = .ok (.aload_n 3, 1) := by decide +kernel
theorem d_LW_law_587 : decode code 587 = .ok (.iconst 0, 1) := by decide +kernel
theorem d_LW_law_588 : decode code 588 = .ok (.laload, 1) := by decide +kernel
theorem d_LW_law_589 : decode code 589 = .ok (.lload 6, 2) := by decide +kernel
theorem d_LW_law_591 : decode code 591 = .ok (.lcmp, 1) := by decide +kernel
theorem d_LW_law_592 : decode code 592 = .ok (.ifCond .eq 5, 3) := by decide +kernel
theorem d_LW_law_595 : decode code 595 = .ok (.iconst 0, 1) := by decide +kernel
theorem d_LW_law_596 : decode code 596 = .ok (.ireturn, 1) := by decide +kernel
theorem d_LW_law_597 : decode code 597 = .ok (.goto 114, 3) := by decide +kernel
theorem d_LW_law_600 : decode code 600 = .ok (.aload_n 1, 1) := by decide +kernel
theorem d_LW_law_601 : decode code 601 = .ok (.aload_n 0, 1) := by decide +kernel
theorem d_LW_law_602 : decode code 602 = .ok (.iload 4, 2) := by decide +kernel
theorem d_LW_law_604 : decode code 604 = .ok (.iconst 1, 1) := by decide +kernel
theorem d_LW_law_605 : decode code 605 = .ok (.iadd, 1) := by decide +kernel
theorem d_LW_law_606 : decode code 606 = .ok (.iaload, 1) := by decide +kernel
theorem d_LW_law_607 : decode code 607 = .ok (.aload_n 3, 1) := by decide +kernel
theorem d_LW_law_608 : decode code 608 = .ok (.invokestatic 92, 3) := by decide +kernel
theorem d_LW_law_611 : decode code 611 = .ok (.istore 5, 2) := by decide +kernel
theorem d_LW_law_613 : decode code 613 = .ok (.aload_n 2, 1) := by decide +kernel
theorem d_LW_law_614 : decode code 614 = .ok (.aload_n 0, 1) := by decide +kernel
theorem d_LW_law_615 : decode code 615 = .ok (.iload 4, 2) := by decide +kernel
theorem d_LW_law_617 : decode code 617 = .ok (.iconst 1, 1) := by decide +kernel
theorem d_LW_law_618 : decode code 618 = .ok (.iadd, 1) := by decide +kernel
theorem d_LW_law_619 : decode code 619 = .ok (.iaload, 1) := by decide +kernel
theorem d_LW_law_620 : decode code 620 = .ok (.invokevirtual 94, 3) := by decide +kernel
theorem d_LW_law_623 : decode code 623 = .ok (.istore 6, 2) := by decide +kernel
theorem d_LW_law_625 : decode code 625 = .ok (.aload_n 2, 1) := by decide +kernel
theorem d_LW_law_626 : decode code 626 = .ok (.invokevirtual 58, 3) := by decide +kernel
theorem d_LW_law_629 : decode code 629 = .ok (.iload 5, 2) := by decide +kernel
theorem d_LW_law_631 : decode code 631 = .ok (.if_icmp .eq 5, 3) := by decide +kernel
theorem d_LW_law_634 : decode code 634 = .ok (.iconst 0, 1) := by decide +kernel
theorem d_LW_law_635 : decode code 635 = .ok (.ireturn, 1) := by decide +kernel
theorem d_LW_law_636 : decode code 636 = .ok (.iload 5, 2) := by decide +kernel
theorem d_LW_law_638 : decode code 638 = .ok (.ifCond .ne 15, 3) := by decide +kernel
theorem d_LW_law_641 : decode code 641 = .ok (.aload_n 3, 1) := by decide +kernel
theorem d_LW_law_642 : decode code 642 = .ok (.iconst 0, 1) := by decide +kernel
theorem d_LW_law_643 : decode code 643 = .ok (.laload, 1) := by decide +kernel
theorem d_LW_law_644 : decode code 644 = .ok (.iload 6, 2) := by decide +kernel
theorem d_LW_law_646 : decode code 646 = .ok (.i2l, 1) := by decide +kernel
theorem d_LW_law_647 : decode code 647 = .ok (.lcmp, 1) := by decide +kernel
theorem d_LW_law_648 : decode code 648 = .ok (.ifCond .eq 5, 3) := by decide +kernel
theorem d_LW_law_651 : decode code 651 = .ok (.iconst 0, 1) := by decide +kernel
theorem d_LW_law_652 : decode code 652 = .ok (.ireturn, 1) := by decide +kernel
theorem d_LW_law_653 : decode code 653 = .ok (.goto 58, 3) := by decide +kernel
theorem d_LW_law_656 : decode code 656 = .ok (.aload_n 1, 1) := by decide +kernel
theorem d_LW_law_657 : decode code 657 = .ok (.aload_n 0, 1) := by decide +kernel
theorem d_LW_law_658 : decode code 658 = .ok (.iload 4, 2) := by decide +kernel
theorem d_LW_law_660 : decode code 660 = .ok (.iconst 1, 1) := by decide +kernel
theorem d_LW_law_661 : decode code 661 = .ok (.iadd, 1) := by decide +kernel
theorem d_LW_law_662 : decode code 662 = .ok (.iaload, 1) := by decide +kernel
theorem d_LW_law_663 : decode code 663 = .ok (.aload_n 3, 1) := by decide +kernel
theorem d_LW_law_664 : decode code 664 = .ok (.invokestatic 95, 3) := by decide +kernel
theorem d_LW_law_667 : decode code 667 = .ok (.istore 5, 2) := by decide +kernel
theorem d_LW_law_669 : decode code 669 = .ok (.aload_n 2, 1) := by decide +kernel
theorem d_LW_law_670 : decode code 670 = .ok (.aload_n 0, 1) := by decide +kernel
theorem d_LW_law_671 : decode code 671 = .ok (.iload 4, 2) := by decide +kernel
theorem d_LW_law_673 : decode code 673 = .ok (.iconst 1, 1) := by decide +kernel
theorem d_LW_law_674 : decode code 674 = .ok (.iadd, 1) := by decide +kernel
theorem d_LW_law_675 : decode code 675 = .ok (.iaload, 1) := by decide +kernel
theorem d_LW_law_676 : decode code 676 = .ok (.invokevirtual 97, 3) := by decide +kernel
theorem d_LW_law_679 : decode code 679 = .ok (.lstore 6, 2) := by decide +kernel
theorem d_LW_law_681 : decode code 681 = .ok (.aload_n 2, 1) := by decide +kernel
theorem d_LW_law_682 : decode code 682 = .ok (.invokevirtual 58, 3) := by decide +kernel
theorem d_LW_law_685 : decode code 685 = .ok (.iload 5, 2) := by decide +kernel
theorem d_LW_law_687 : decode code 687 = .ok (.if_icmp .eq 5, 3) := by decide +kernel
theorem d_LW_law_690 : decode code 690 = .ok (.iconst 0, 1) := by decide +kernel
theorem d_LW_law_691 : decode code 691 = .ok (.ireturn, 1) := by decide +kernel
theorem d_LW_law_692 : decode code 692 = .ok (.iload 5, 2) := by decide +kernel
theorem d_LW_law_694 : decode code 694 = .ok (.ifCond .ne 14, 3) := by decide +kernel
theorem d_LW_law_697 : decode code 697 = .ok (.aload_n 3, 1) := by decide +kernel
theorem d_LW_law_698 : decode code 698 = .ok (.iconst 0, 1) := by decide +kernel
theorem d_LW_law_699 : decode code 699 = .ok (.laload, 1) := by decide +kernel
theorem d_LW_law_700 : decode code 700 = .ok (.lload 6, 2) := by decide +kernel
theorem d_LW_law_702 : decode code 702 = .ok (.lcmp, 1) := by decide +kernel
theorem d_LW_law_703 : decode code 703 = .ok (.ifCond .eq 5, 3) := by decide +kernel
theorem d_LW_law_706 : decode code 706 = .ok (.iconst 0, 1) := by decide +kernel
theorem d_LW_law_707 : decode code 707 = .ok (.ireturn, 1) := by decide +kernel
theorem d_LW_law_708 : decode code 708 = .ok (.goto 3, 3) := by decide +kernel
theorem d_LW_law_711 : decode code 711 = .ok (.iinc 4 5, 3) := by decide +kernel
theorem d_LW_law_714 : decode code 714 = .ok (.goto (-691), 3) := by decide +kernel
theorem d_LW_law_717 : decode code 717 = .ok (.iconst 1, 1) := by decide +kernel
theorem d_LW_law_718 : decode code 718 = .ok (.ireturn, 1) := by decide +kernel
