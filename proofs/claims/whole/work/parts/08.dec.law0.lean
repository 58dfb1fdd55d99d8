theorem d_LW_buffer_0 : decode b_LW_buffer 0 = .ok (.aload_n 2, 1) := by decide +kernel
theorem d_LW_buffer_1 : decode b_LW_buffer 1 = .ok (.iconst 0, 1) := by decide +kernel
theorem d_LW_buffer_2 : decode b_LW_buffer 2 = .ok (.aload_n 0, 1) := by decide +kernel
theorem d_LW_buffer_3 : decode b_LW_buffer 3 = .ok (.iload_n 1, 1) := by decide +kernel
theorem d_LW_buffer_4 : decode b_LW_buffer 4 = .ok (.invokevirtual 39, 3) := by decide +kernel
theorem d_LW_buffer_7 : decode b_LW_buffer 7 = .ok (.i2l, 1) := by decide +kernel
theorem d_LW_buffer_8 : decode b_LW_buffer 8 = .ok (.lastore, 1) := by decide +kernel
theorem d_LW_buffer_9 : decode b_LW_buffer 9 = .ok (.goto 6, 3) := by decide +kernel
theorem d_LW_buffer_12 : decode b_LW_buffer 12 = .ok (.astore_n 3, 1) := by decide +kernel
theorem d_LW_buffer_13 : decode b_LW_buffer 13 = .ok (.iconst 1, 1) := by decide +kernel
theorem d_LW_buffer_14 : decode b_LW_buffer 14 = .ok (.ireturn, 1) := by decide +kernel
theorem d_LW_buffer_15 : decode b_LW_buffer 15 = .ok (.iconst 0, 1) := by decide +kernel
theorem d_LW_buffer_16 : decode b_LW_buffer 16 = .ok (.ireturn, 1) := by decide +kernel
theorem d_LW_law_0 : decode b_LW_law 0 = .ok (.new 8, 3) := by decide +kernel
theorem d_LW_law_3 : decode b_LW_law 3 = .ok (.dup, 1) := by decide +kernel
theorem d_LW_law_4 : decode b_LW_law 4 = .ok (.invokespecial 42, 3) := by decide +kernel
theorem d_LW_law_7 : decode b_LW_law 7 = .ok (.astore_n 1, 1) := by decide +kernel
theorem d_LW_law_8 : decode b_LW_law 8 = .ok (.new 43, 3) := by decide +kernel
theorem d_LW_law_11 : decode b_LW_law 11 = .ok (.dup, 1) := by decide +kernel
theorem d_LW_law_12 : decode b_LW_law 12 = .ok (.invokespecial 45, 3) := by decide +kernel
theorem d_LW_law_15 : decode b_LW_law 15 = .ok (.astore_n 2, 1) := by decide +kernel
theorem d_LW_law_16 : decode b_LW_law 16 = .ok (.iconst 1, 1) := by decide +kernel
theorem d_LW_law_17 : decode b_LW_law 17 = .ok (.newarray .long, 2) := by decide +kernel
theorem d_LW_law_19 : decode b_LW_law 19 = .ok (.astore_n 3, 1) := by decide +kernel
theorem d_LW_law_20 : decode b_LW_law 20 = .ok (.iconst 0, 1) := by decide +kernel
theorem d_LW_law_21 : decode b_LW_law 21 = .ok (.istore 4, 2) := by decide +kernel
theorem d_LW_law_23 : decode b_LW_law 23 = .ok (.iload 4, 2) := by decide +kernel
theorem d_LW_law_25 : decode b_LW_law 25 = .ok (.aload_n 0, 1) := by decide +kernel
theorem d_LW_law_26 : decode b_LW_law 26 = .ok (.arraylength, 1) := by decide +kernel
theorem d_LW_law_27 : decode b_LW_law 27 = .ok (.iconst 3, 1) := by decide +kernel
theorem d_LW_law_28 : decode b_LW_law 28 = .ok (.isub, 1) := by decide +kernel
theorem d_LW_law_29 : decode b_LW_law 29 = .ok (.if_icmp .gt 671, 3) := by decide +kernel
theorem d_LW_law_32 : decode b_LW_law 32 = .ok (.aload_n 0, 1) := by decide +kernel
theorem d_LW_law_33 : decode b_LW_law 33 = .ok (.iload 4, 2) := by decide +kernel
theorem d_LW_law_35 : decode b_LW_law 35 = .ok (.iaload, 1) := by decide +kernel
theorem d_LW_law_36 : decode b_LW_law 36 = .ok (.bipush 15, 2) := by decide +kernel
theorem d_LW_law_38 : decode b_LW_law 38 = .ok (.iand, 1) := by decide +kernel
theorem d_LW_law_39 : decode b_LW_law 39 = .ok (.tableswitch 655 0 13 #[69, 125, 193, 237, 293, 306, 362, 375, 431, 487, 543, 568, 593, 630], 69) := by decide +kernel
theorem d_LW_law_108 : decode b_LW_law 108 = .ok (.aload_n 1, 1) := by decide +kernel
theorem d_LW_law_109 : decode b_LW_law 109 = .ok (.aload_n 0, 1) := by decide +kernel
theorem d_LW_law_110 : decode b_LW_law 110 = .ok (.iload 4, 2) := by decide +kernel
theorem d_LW_law_112 : decode b_LW_law 112 = .ok (.iconst 1, 1) := by decide +kernel
theorem d_LW_law_113 : decode b_LW_law 113 = .ok (.iadd, 1) := by decide +kernel
theorem d_LW_law_114 : decode b_LW_law 114 = .ok (.iaload, 1) := by decide +kernel
theorem d_LW_law_115 : decode b_LW_law 115 = .ok (.aload_n 3, 1) := by decide +kernel
theorem d_LW_law_116 : decode b_LW_law 116 = .ok (.invokestatic 46, 3) := by decide +kernel
theorem d_LW_law_119 : decode b_LW_law 119 = .ok (.istore 5, 2) := by decide +kernel
theorem d_LW_law_121 : decode b_LW_law 121 = .ok (.aload_n 2, 1) := by decide +kernel
theorem d_LW_law_122 : decode b_LW_law 122 = .ok (.aload_n 0, 1) := by decide +kernel
theorem d_LW_law_123 : decode b_LW_law 123 = .ok (.iload 4, 2) := by decide +kernel
theorem d_LW_law_125 : decode b_LW_law 125 = .ok (.iconst 1, 1) := by decide +kernel
theorem d_LW_law_126 : decode b_LW_law 126 = .ok (.iadd, 1) := by decide +kernel
theorem d_LW_law_127 : decode b_LW_law 127 = .ok (.iaload, 1) := by decide +kernel
theorem d_LW_law_128 : decode b_LW_law 128 = .ok (.invokevirtual 51, 3) := by decide +kernel
theorem d_LW_law_131 : decode b_LW_law 131 = .ok (.istore 6, 2) := by decide +kernel
theorem d_LW_law_133 : decode b_LW_law 133 = .ok (.aload_n 2, 1) := by decide +kernel
theorem d_LW_law_134 : decode b_LW_law 134 = .ok (.invokevirtual 52, 3) := by decide +kernel
theorem d_LW_law_137 : decode b_LW_law 137 = .ok (.iload 5, 2) := by decide +kernel
theorem d_LW_law_139 : decode b_LW_law 139 = .ok (.if_icmp .eq 5, 3) := by decide +kernel
theorem d_LW_law_142 : decode b_LW_law 142 = .ok (.iconst 0, 1) := by decide +kernel
theorem d_LW_law_143 : decode b_LW_law 143 = .ok (.ireturn, 1) := by decide +kernel
theorem d_LW_law_144 : decode b_LW_law 144 = .ok (.iload 5, 2) := by decide +kernel
theorem d_LW_law_146 : decode b_LW_law 146 = .ok (.ifCond .ne 15, 3) := by decide +kernel
theorem d_LW_law_149 : decode b_LW_law 149 = .ok (.aload_n 3, 1) := by decide +kernel
theorem d_LW_law_150 : decode b_LW_law 150 = .ok (.iconst 0, 1) := by decide +kernel
theorem d_LW_law_151 : decode b_LW_law 151 = .ok (.laload, 1) := by decide +kernel
theorem d_LW_law_152 : decode b_LW_law 152 = .ok (.iload 6, 2) := by decide +kernel
theorem d_LW_law_154 : decode b_LW_law 154 = .ok (.i2l, 1) := by decide +kernel
theorem d_LW_law_155 : decode b_LW_law 155 = .ok (.lcmp, 1) := by decide +kernel
theorem d_LW_law_156 : decode b_LW_law 156 = .ok (.ifCond .eq 5, 3) := by decide +kernel
theorem d_LW_law_159 : decode b_LW_law 159 = .ok (.iconst 0, 1) := by decide +kernel
theorem d_LW_law_160 : decode b_LW_law 160 = .ok (.ireturn, 1) := by decide +kernel
theorem d_LW_law_161 : decode b_LW_law 161 = .ok (.goto 533, 3) := by decide +kernel
theorem d_LW_law_164 : decode b_LW_law 164 = .ok (.aload_n 1, 1) := by decide +kernel
theorem d_LW_law_165 : decode b_LW_law 165 = .ok (.aload_n 0, 1) := by decide +kernel
theorem d_LW_law_166 : decode b_LW_law 166 = .ok (.iload 4, 2) := by decide +kernel
theorem d_LW_law_168 : decode b_LW_law 168 = .ok (.iconst 1, 1) := by decide +kernel
theorem d_LW_law_169 : decode b_LW_law 169 = .ok (.iadd, 1) := by decide +kernel
theorem d_LW_law_170 : decode b_LW_law 170 = .ok (.iaload, 1) := by decide +kernel
theorem d_LW_law_171 : decode b_LW_law 171 = .ok (.aload_n 0, 1) := by decide +kernel
theorem d_LW_law_172 : decode b_LW_law 172 = .ok (.iload 4, 2) := by decide +kernel
theorem d_LW_law_174 : decode b_LW_law 174 = .ok (.iconst 2, 1) := by decide +kernel
theorem d_LW_law_175 : decode b_LW_law 175 = .ok (.iadd, 1) := by decide +kernel
theorem d_LW_law_176 : decode b_LW_law 176 = .ok (.iaload, 1) := by decide +kernel
theorem d_LW_law_177 : decode b_LW_law 177 = .ok (.aload_n 3, 1) := by decide +kernel
theorem d_LW_law_178 : decode b_LW_law 178 = .ok (.invokestatic 55, 3) := by decide +kernel
theorem d_LW_law_181 : decode b_LW_law 181 = .ok (.istore 5, 2) := by decide +kernel
theorem d_LW_law_183 : decode b_LW_law 183 = .ok (.aload_n 2, 1) := by decide +kernel
theorem d_LW_law_184 : decode b_LW_law 184 = .ok (.aload_n 0, 1) := by decide +kernel
theorem d_LW_law_185 : decode b_LW_law 185 = .ok (.iload 4, 2) := by decide +kernel
theorem d_LW_law_187 : decode b_LW_law 187 = .ok (.iconst 1, 1) := by decide +kernel
theorem d_LW_law_188 : decode b_LW_law 188 = .ok (.iadd, 1) := by decide +kernel
theorem d_LW_law_189 : decode b_LW_law 189 = .ok (.iaload, 1) := by decide +kernel
theorem d_LW_law_190 : decode b_LW_law 190 = .ok (.aload_n 0, 1) := by decide +kernel
theorem d_LW_law_191 : decode b_LW_law 191 = .ok (.iload 4, 2) := by decide +kernel
theorem d_LW_law_193 : decode b_LW_law 193 = .ok (.iconst 2, 1) := by decide +kernel
theorem d_LW_law_194 : decode b_LW_law 194 = .ok (.iadd, 1) := by decide +kernel
theorem d_LW_law_195 : decode b_LW_law 195 = .ok (.iaload, 1) := by decide +kernel
theorem d_LW_law_196 : decode b_LW_law 196 = .ok (.invokevirtual 58, 3) := by decide +kernel
theorem d_LW_law_199 : decode b_LW_law 199 = .ok (.istore 6, 2) := by decide +kernel
theorem d_LW_law_201 : decode b_LW_law 201 = .ok (.aload_n 2, 1) := by decide +kernel
theorem d_LW_law_202 : decode b_LW_law 202 = .ok (.invokevirtual 52, 3) := by decide +kernel
theorem d_LW_law_205 : decode b_LW_law 205 = .ok (.iload 5, 2) := by decide +kernel
theorem d_LW_law_207 : decode b_LW_law 207 = .ok (.if_icmp .eq 5, 3) := by decide +kernel
theorem d_LW_law_210 : decode b_LW_law 210 = .ok (.iconst 0, 1) := by decide +kernel
theorem d_LW_law_211 : decode b_LW_law 211 = .ok (.ireturn, 1) := by decide +kernel
theorem d_LW_law_212 : decode b_LW_law 212 = .ok (.iload 5, 2) := by decide +kernel
theorem d_LW_law_214 : decode b_LW_law 214 = .ok (.ifCond .ne 15, 3) := by decide +kernel
theorem d_LW_law_217 : decode b_LW_law 217 = .ok (.aload_n 3, 1) := by decide +kernel
theorem d_LW_law_218 : decode b_LW_law 218 = .ok (.iconst 0, 1) := by decide +kernel
theorem d_LW_law_219 : decode b_LW_law 219 = .ok (.laload, 1) := by decide +kernel
theorem d_LW_law_220 : decode b_LW_law 220 = .ok (.iload 6, 2) := by decide +kernel
theorem d_LW_law_222 : decode b_LW_law 222 = .ok (.i2l, 1) := by decide +kernel
theorem d_LW_law_223 : decode b_LW_law 223 = .ok (.lcmp, 1) := by decide +kernel
theorem d_LW_law_224 : decode b_LW_law 224 = .ok (.ifCond .eq 5, 3) := by decide +kernel
theorem d_LW_law_227 : decode b_LW_law 227 = .ok (.iconst 0, 1) := by decide +kernel
theorem d_LW_law_228 : decode b_LW_law 228 = .ok (.ireturn, 1) := by decide +kernel
theorem d_LW_law_229 : decode b_LW_law 229 = .ok (.goto 465, 3) := by decide +kernel
theorem d_LW_law_232 : decode b_LW_law 232 = .ok (.aload_n 1, 1) := by decide +kernel
theorem d_LW_law_233 : decode b_LW_law 233 = .ok (.aload_n 3, 1) := by decide +kernel
theorem d_LW_law_234 : decode b_LW_law 234 = .ok (.invokestatic 59, 3) := by decide +kernel
theorem d_LW_law_237 : decode b_LW_law 237 = .ok (.istore 5, 2) := by decide +kernel
theorem d_LW_law_239 : decode b_LW_law 239 = .ok (.aload_n 2, 1) := by decide +kernel
theorem d_LW_law_240 : decode b_LW_law 240 = .ok (.invokevirtual 62, 3) := by decide +kernel
theorem d_LW_law_243 : decode b_LW_law 243 = .ok (.istore 6, 2) := by decide +kernel
theorem d_LW_law_245 : decode b_LW_law 245 = .ok (.aload_n 2, 1) := by decide +kernel
theorem d_LW_law_246 : decode b_LW_law 246 = .ok (.invokevirtual 52, 3) := by decide +kernel
theorem d_LW_law_249 : decode b_LW_law 249 = .ok (.iload 5, 2) := by decide +kernel
theorem d_LW_law_251 : decode b_LW_law 251 = .ok (.if_icmp .eq 5, 3) := by decide +kernel
theorem d_LW_law_254 : decode b_LW_law 254 = .ok (.iconst 0, 1) := by decide +kernel
theorem d_LW_law_255 : decode b_LW_law 255 = .ok (.ireturn, 1) := by decide +kernel
theorem d_LW_law_256 : decode b_LW_law 256 = .ok (.iload 5, 2) := by decide +kernel
theorem d_LW_law_258 : decode b_LW_law 258 = .ok (.ifCond .ne 15, 3) := by decide +kernel
theorem d_LW_law_261 : decode b_LW_law 261 = .ok (.aload_n 3, 1) := by decide +kernel
theorem d_LW_law_262 : decode b_LW_law 262 = .ok (.iconst 0, 1) := by decide +kernel
theorem d_LW_law_263 : decode b_LW_law 263 = .ok (.laload, 1) := by decide +kernel
theorem d_LW_law_264 : decode b_LW_law 264 = .ok (.iload 6, 2) := by decide +kernel
theorem d_LW_law_266 : decode b_LW_law 266 = .ok (.i2l, 1) := by decide +kernel
theorem d_LW_law_267 : decode b_LW_law 267 = .ok (.lcmp, 1) := by decide +kernel
theorem d_LW_law_268 : decode b_LW_law 268 = .ok (.ifCond .eq 5, 3) := by decide +kernel
theorem d_LW_law_271 : decode b_LW_law 271 = .ok (.iconst 0, 1) := by decide +kernel
theorem d_LW_law_272 : decode b_LW_law 272 = .ok (.ireturn, 1) := by decide +kernel
theorem d_LW_law_273 : decode b_LW_law 273 = .ok (.goto 421, 3) := by decide +kernel
theorem d_LW_law_276 : decode b_LW_law 276 = .ok (.aload_n 1, 1) := by decide +kernel
theorem d_LW_law_277 : decode b_LW_law 277 = .ok (.aload_n 0, 1) := by decide +kernel
theorem d_LW_law_278 : decode b_LW_law 278 = .ok (.iload 4, 2) := by decide +kernel
theorem d_LW_law_280 : decode b_LW_law 280 = .ok (.iconst 1, 1) := by decide +kernel
theorem d_LW_law_281 : decode b_LW_law 281 = .ok (.iadd, 1) := by decide +kernel
theorem d_LW_law_282 : decode b_LW_law 282 = .ok (.iaload, 1) := by decide +kernel
theorem d_LW_law_283 : decode b_LW_law 283 = .ok (.aload_n 3, 1) := by decide +kernel
theorem d_LW_law_284 : decode b_LW_law 284 = .ok (.invokestatic 63, 3) := by decide +kernel
theorem d_LW_law_287 : decode b_LW_law 287 = .ok (.istore 5, 2) := by decide +kernel
theorem d_LW_law_289 : decode b_LW_law 289 = .ok (.aload_n 2, 1) := by decide +kernel
theorem d_LW_law_290 : decode b_LW_law 290 = .ok (.aload_n 0, 1) := by decide +kernel
theorem d_LW_law_291 : decode b_LW_law 291 = .ok (.iload 4, 2) := by decide +kernel
theorem d_LW_law_293 : decode b_LW_law 293 = .ok (.iconst 1, 1) := by decide +kernel
theorem d_LW_law_294 : decode b_LW_law 294 = .ok (.iadd, 1) := by decide +kernel
theorem d_LW_law_295 : decode b_LW_law 295 = .ok (.iaload, 1) := by decide +kernel
theorem d_LW_law_296 : decode b_LW_law 296 = .ok (.invokevirtual 65, 3) := by decide +kernel
theorem d_LW_law_299 : decode b_LW_law 299 = .ok (.istore 6, 2) := by decide +kernel
theorem d_LW_law_301 : decode b_LW_law 301 = .ok (.aload_n 2, 1) := by decide +kernel
theorem d_LW_law_302 : decode b_LW_law 302 = .ok (.invokevirtual 52, 3) := by decide +kernel
theorem d_LW_law_305 : decode b_LW_law 305 = .ok (.iload 5, 2) := by decide +kernel
theorem d_LW_law_307 : decode b_LW_law 307 = .ok (.if_icmp .eq 5, 3) := by decide +kernel
theorem d_LW_law_310 : decode b_LW_law 310 = .ok (.iconst 0, 1) := by decide +kernel
theorem d_LW_law_311 : decode b_LW_law 311 = .ok (.ireturn, 1) := by decide +kernel
theorem d_LW_law_312 : decode b_LW_law 312 = .ok (.iload 5, 2) := by decide +kernel
theorem d_LW_law_314 : decode b_LW_law 314 = .ok (.ifCond .ne 15, 3) := by decide +kernel
theorem d_LW_law_317 : decode b_LW_law 317 = .ok (.aload_n 3, 1) := by decide +kernel
theorem d_LW_law_318 : decode b_LW_law 318 = .ok (.iconst 0, 1) := by decide +kernel
theorem d_LW_law_319 : decode b_LW_law 319 = .ok (.laload, 1) := by decide +kernel
theorem d_LW_law_320 : decode b_LW_law 320 = .ok (.iload 6, 2) := by decide +kernel
theorem d_LW_law_322 : decode b_LW_law 322 = .ok (.i2l, 1) := by decide +kernel
theorem d_LW_law_323 : decode b_LW_law 323 = .ok (.lcmp, 1) := by decide +kernel
theorem d_LW_law_324 : decode b_LW_law 324 = .ok (.ifCond .eq 5, 3) := by decide +kernel
theorem d_LW_law_327 : decode b_LW_law 327 = .ok (.iconst 0, 1) := by decide +kernel
theorem d_LW_law_328 : decode b_LW_law 328 = .ok (.ireturn, 1) := by decide +kernel
theorem d_LW_law_329 : decode b_LW_law 329 = .ok (.goto 365, 3) := by decide +kernel
theorem d_LW_law_332 : decode b_LW_law 332 = .ok (.aload_n 1, 1) := by decide +kernel
theorem d_LW_law_333 : decode b_LW_law 333 = .ok (.invokevirtual 66, 3) := by decide +kernel
theorem d_LW_law_336 : decode b_LW_law 336 = .ok (.aload_n 2, 1) := by decide +kernel
theorem d_LW_law_337 : decode b_LW_law 337 = .ok (.invokevirtual 69, 3) := by decide +kernel
theorem d_LW_law_340 : decode b_LW_law 340 = .ok (.if_icmp .eq 354, 3) := by decide +kernel
theorem d_LW_law_343 : decode b_LW_law 343 = .ok (.iconst 0, 1) := by decide +kernel
theorem d_LW_law_344 : decode b_LW_law 344 = .ok (.ireturn, 1) := by decide +kernel
theorem d_LW_law_345 : decode b_LW_law 345 = .ok (.aload_n 1, 1) := by decide +kernel
theorem d_LW_law_346 : decode b_LW_law 346 = .ok (.aload_n 0, 1) := by decide +kernel
theorem d_LW_law_347 : decode b_LW_law 347 = .ok (.iload 4, 2) := by decide +kernel
theorem d_LW_law_349 : decode b_LW_law 349 = .ok (.iconst 1, 1) := by decide +kernel
theorem d_LW_law_350 : decode b_LW_law 350 = .ok (.iadd, 1) := by decide +kernel
theorem d_LW_law_351 : decode b_LW_law 351 = .ok (.iaload, 1) := by decide +kernel
theorem d_LW_law_352 : decode b_LW_law 352 = .ok (.aload_n 3, 1) := by decide +kernel
theorem d_LW_law_353 : decode b_LW_law 353 = .ok (.invokestatic 70, 3) := by decide +kernel
theorem d_LW_law_356 : decode b_LW_law 356 = .ok (.istore 5, 2) := by decide +kernel
theorem d_LW_law_358 : decode b_LW_law 358 = .ok (.aload_n 2, 1) := by decide +kernel
theorem d_LW_law_359 : decode b_LW_law 359 = .ok (.aload_n 0, 1) := by decide +kernel
theorem d_LW_law_360 : decode b_LW_law 360 = .ok (.iload 4, 2) := by decide +kernel
theorem d_LW_law_362 : decode b_LW_law 362 = .ok (.iconst 1, 1) := by decide +kernel
theorem d_LW_law_363 : decode b_LW_law 363 = .ok (.iadd, 1) := by decide +kernel
theorem d_LW_law_364 : decode b_LW_law 364 = .ok (.iaload, 1) := by decide +kernel
theorem d_LW_law_365 : decode b_LW_law 365 = .ok (.invokevirtual 72, 3) := by decide +kernel
theorem d_LW_law_368 : decode b_LW_law 368 = .ok (.istore 6, 2) := by decide +kernel
theorem d_LW_law_370 : decode b_LW_law 370 = .ok (.aload_n 2, 1) := by decide +kernel
theorem d_LW_law_371 : decode b_LW_law 371 = .ok (.invokevirtual 52, 3) := by decide +kernel
theorem d_LW_law_374 : decode b_LW_law 374 = .ok (.iload 5, 2) := by decide +kernel
theorem d_LW_law_376 : decode b_LW_law 376 = .ok (.if_icmp .eq 5, 3) := by decide +kernel
theorem d_LW_law_379 : decode b_LW_law 379 = .ok (.iconst 0, 1) := by decide +kernel
theorem d_LW_law_380 : decode b_LW_law 380 = .ok (.ireturn, 1) := by decide +kernel
theorem d_LW_law_381 : decode b_LW_law 381 = .ok (.iload 5, 2) := by decide +kernel
theorem d_LW_law_383 : decode b_LW_law 383 = .ok (.ifCond .ne 15, 3) := by decide +kernel
theorem d_LW_law_386 : decode b_LW_law 386 = .ok (.aload_n 3, 1) := by decide +kernel
theorem d_LW_law_387 : decode b_LW_law 387 = .ok (.iconst 0, 1) := by decide +kernel
theorem d_LW_law_388 : decode b_LW_law 388 = .ok (.laload, 1) := by decide +kernel
theorem d_LW_law_389 : decode b_LW_law 389 = .ok (.iload 6, 2) := by decide +kernel
theorem d_LW_law_391 : decode b_LW_law 391 = .ok (.i2l, 1) := by decide +kernel
theorem d_LW_law_392 : decode b_LW_law 392 = .ok (.lcmp, 1) := by decide +kernel
theorem d_LW_law_393 : decode b_LW_law 393 = .ok (.ifCond .eq 5, 3) := by decide +kernel
theorem d_LW_law_396 : decode b_LW_law 396 = .ok (.iconst 0, 1) := by decide +kernel
theorem d_LW_law_397 : decode b_LW_law 397 = .ok (.ireturn, 1) := by decide +kernel
theorem d_LW_law_398 : decode b_LW_law 398 = .ok (.goto 296, 3) := by decide +kernel
theorem d_LW_law_401 : decode b_LW_law 401 = .ok (.aload_n 1, 1) := by decide +kernel
theorem d_LW_law_402 : decode b_LW_law 402 = .ok (.invokevirtual 73, 3) := by decide +kernel
theorem d_LW_law_405 : decode b_LW_law 405 = .ok (.aload_n 2, 1) := by decide +kernel
theorem d_LW_law_406 : decode b_LW_law 406 = .ok (.invokevirtual 76, 3) := by decide +kernel
theorem d_LW_law_409 : decode b_LW_law 409 = .ok (.if_icmp .eq 285, 3) := by decide +kernel
theorem d_LW_law_412 : decode b_LW_law 412 = .ok (.iconst 0, 1) := by decide +kernel
theorem d_LW_law_413 : decode b_LW_law 413 = .ok (.ireturn, 1) := by decide +kernel
theorem d_LW_law_414 : decode b_LW_law 414 = .ok (.aload_n 1, 1) := by decide +kernel
theorem d_LW_law_415 : decode b_LW_law 415 = .ok (.aload_n 0, 1) := by decide +kernel
theorem d_LW_law_416 : decode b_LW_law 416 = .ok (.iload 4, 2) := by decide +kernel
theorem d_LW_law_418 : decode b_LW_law 418 = .ok (.iconst 1, 1) := by decide +kernel
theorem d_LW_law_419 : decode b_LW_law 419 = .ok (.iadd, 1) := by decide +kernel
theorem d_LW_law_420 : decode b_LW_law 420 = .ok (.iaload, 1) := by decide +kernel
theorem d_LW_law_421 : decode b_LW_law 421 = .ok (.aload_n 3, 1) := by decide +kernel
theorem d_LW_law_422 : decode b_LW_law 422 = .ok (.invokestatic 77, 3) := by decide +kernel
theorem d_LW_law_425 : decode b_LW_law 425 = .ok (.istore 5, 2) := by decide +kernel
theorem d_LW_law_427 : decode b_LW_law 427 = .ok (.aload_n 2, 1) := by decide +kernel
theorem d_LW_law_428 : decode b_LW_law 428 = .ok (.aload_n 0, 1) := by decide +kernel
theorem d_LW_law_429 : decode b_LW_law 429 = .ok (.iload 4, 2) := by decide +kernel
theorem d_LW_law_431 : decode b_LW_law 431 = .ok (.iconst 1, 1) := by decide +kernel
theorem d_LW_law_432 : decode b_LW_law 432 = .ok (.iadd, 1) := by decide +kernel
theorem d_LW_law_433 : decode b_LW_law 433 = .ok (.iaload, 1) := by decide +kernel
theorem d_LW_law_434 : decode b_LW_law 434 = .ok (.invokevirtual 79, 3) := by decide +kernel
theorem d_LW_law_437 : decode b_LW_law 437 = .ok (.istore 6, 2) := by decide +kernel
theorem d_LW_law_439 : decode b_LW_law 439 = .ok (.aload_n 2, 1) := by decide +kernel
theorem d_LW_law_440 : decode b_LW_law 440 = .ok (.invokevirtual 52, 3) := by decide +kernel
theorem d_LW_law_443 : decode b_LW_law 443 = .ok (.iload 5, 2) := by decide +kernel
theorem d_LW_law_445 : decode b_LW_law 445 = .ok (.if_icmp .eq 5, 3) := by decide +kernel
theorem d_LW_law_448 : decode b_LW_law 448 = .ok (.iconst 0, 1) := by decide +kernel
theorem d_LW_law_449 : decode b_LW_law 449 = .ok (.ireturn, 1) := by decide +kernel
theorem d_LW_law_450 : decode b_LW_law 450 = .ok (.iload 5, 2) := by decide +kernel
theorem d_LW_law_452 : decode b_LW_law 452 = .ok (.ifCond .ne 15, 3) := by decide +kernel
theorem d_LW_law_455 : decode b_LW_law 455 = .ok (.aload_n 3, 1) := by decide +kernel
theorem d_LW_law_456 : decode b_LW_law 456 = .ok (.iconst 0, 1) := by decide +kernel
theorem d_LW_law_457 : decode b_LW_law 457 = .ok (.laload, 1) := by decide +kernel
theorem d_LW_law_458 : decode b_LW_law 458 = .ok (.iload 6, 2) := by decide +kernel
theorem d_LW_law_460 : decode b_LW_law 460 = .ok (.i2l, 1) := by decide +kernel
theorem d_LW_law_461 : decode b_LW_law 461 = .ok (.lcmp, 1) := by decide +kernel
theorem d_LW_law_462 : decode b_LW_law 462 = .ok (.ifCond .eq 5, 3) := by decide +kernel
theorem d_LW_law_465 : decode b_LW_law 465 = .ok (.iconst 0, 1) := by decide +kernel
theorem d_LW_law_466 : decode b_LW_law 466 = .ok (.ireturn, 1) := by decide +kernel
theorem d_LW_law_467 : decode b_LW_law 467 = .ok (.goto 227, 3) := by decide +kernel
theorem d_LW_law_470 : decode b_LW_law 470 = .ok (.aload_n 1, 1) := by decide +kernel
theorem d_LW_law_471 : decode b_LW_law 471 = .ok (.aload_n 0, 1) := by decide +kernel
theorem d_LW_law_472 : decode b_LW_law 472 = .ok (.iload 4, 2) := by decide +kernel
theorem d_LW_law_474 : decode b_LW_law 474 = .ok (.iconst 1, 1) := by decide +kernel
theorem d_LW_law_475 : decode b_LW_law 475 = .ok (.iadd, 1) := by decide +kernel
theorem d_LW_law_476 : decode b_LW_law 476 = .ok (.iaload, 1) := by decide +kernel
theorem d_LW_law_477 : decode b_LW_law 477 = .ok (.aload_n 3, 1) := by decide +kernel
theorem d_LW_law_478 : decode b_LW_law 478 = .ok (.invokestatic 80, 3) := by decide +kernel
theorem d_LW_law_481 : decode b_LW_law 481 = .ok (.istore 5, 2) := by decide +kernel
theorem d_LW_law_483 : decode b_LW_law 483 = .ok (.aload_n 2, 1) := by decide +kernel
theorem d_LW_law_484 : decode b_LW_law 484 = .ok (.aload_n 0, 1) := by decide +kernel
theorem d_LW_law_485 : decode b_LW_law 485 = .ok (.iload 4, 2) := by decide +kernel
theorem d_LW_law_487 : decode b_LW_law 487 = .ok (.iconst 1, 1) := by decide +kernel
theorem d_LW_law_488 : decode b_LW_law 488 = .ok (.iadd, 1) := by decide +kernel
theorem d_LW_law_489 : decode b_LW_law 489 = .ok (.iaload, 1) := by decide +kernel
theorem d_LW_law_490 : decode b_LW_law 490 = .ok (.invokevirtual 82, 3) := by decide +kernel
theorem d_LW_law_493 : decode b_LW_law 493 = .ok (.istore 6, 2) := by decide +kernel
theorem d_LW_law_495 : decode b_LW_law 495 = .ok (.aload_n 2, 1) := by decide +kernel
theorem d_LW_law_496 : decode b_LW_law 496 = .ok (.invokevirtual 52, 3) := by decide +kernel
theorem d_LW_law_499 : decode b_LW_law 499 = .ok (.iload 5, 2) := by decide +kernel
theorem d_LW_law_501 : decode b_LW_law 501 = .ok (.if_icmp .eq 5, 3) := by decide +kernel
theorem d_LW_law_504 : decode b_LW_law 504 = .ok (.iconst 0, 1) := by decide +kernel
theorem d_LW_law_505 : decode b_LW_law 505 = .ok (.ireturn, 1) := by decide +kernel
theorem d_LW_law_506 : decode b_LW_law 506 = .ok (.iload 5, 2) := by decide +kernel
theorem d_LW_law_508 : decode b_LW_law 508 = .ok (.ifCond .ne 15, 3) := by decide +kernel
theorem d_LW_law_511 : decode b_LW_law 511 = .ok (.aload_n 3, 1) := by decide +kernel
theorem d_LW_law_512 : decode b_LW_law 512 = .ok (.iconst 0, 1) := by decide +kernel
theorem d_LW_law_513 : decode b_LW_law 513 = .ok (.laload, 1) := by decide +kernel
theorem d_LW_law_514 : decode b_LW_law 514 = .ok (.iload 6, 2) := by decide +kernel
theorem d_LW_law_516 : decode b_LW_law 516 = .ok (.i2l, 1) := by decide +kernel
theorem d_LW_law_517 : decode b_LW_law 517 = .ok (.lcmp, 1) := by decide +kernel
theorem d_LW_law_518 : decode b_LW_law 518 = .ok (.ifCond .eq 5, 3) := by decide +kernel
theorem d_LW_law_521 : decode b_LW_law 521 = .ok (.iconst 0, 1) := by decide +kernel
theorem d_LW_law_522 : decode b_LW_law 522 = .ok (.ireturn, 1) := by decide +kernel
theorem d_LW_law_523 : decode b_LW_law 523 = .ok (.goto 171, 3) := by decide +kernel
theorem d_LW_law_526 : decode b_LW_law 526 = .ok (.aload_n 1, 1) := by decide +kernel
theorem d_LW_law_527 : decode b_LW_law 527 = .ok (.aload_n 0, 1) := by decide +kernel
theorem d_LW_law_528 : decode b_LW_law 528 = .ok (.iload 4, 2) := by decide +kernel
theorem d_LW_law_530 : decode b_LW_law 530 = .ok (.iconst 1, 1) := by decide +kernel
theorem d_LW_law_531 : decode b_LW_law 531 = .ok (.iadd, 1) := by decide +kernel
theorem d_LW_law_532 : decode b_LW_law 532 = .ok (.iaload, 1) := by decide +kernel
theorem d_LW_law_533 : decode b_LW_law 533 = .ok (.aload_n 3, 1) := by decide +kernel
theorem d_LW_law_534 : decode b_LW_law 534 = .ok (.invokestatic 83, 3) := by decide +kernel
theorem d_LW_law_537 : decode b_LW_law 537 = .ok (.istore 5, 2) := by decide +kernel
theorem d_LW_law_539 : decode b_LW_law 539 = .ok (.aload_n 2, 1) := by decide +kernel
theorem d_LW_law_540 : decode b_LW_law 540 = .ok (.aload_n 0, 1) := by decide +kernel
theorem d_LW_law_541 : decode b_LW_law 541 = .ok (.iload 4, 2) := by decide +kernel
theorem d_LW_law_543 : decode b_LW_law 543 = .ok (.iconst 1, 1) := by decide +kernel
theorem d_LW_law_544 : decode b_LW_law 544 = .ok (.iadd, 1) := by decide +kernel
theorem d_LW_law_545 : decode b_LW_law 545 = .ok (.iaload, 1) := by decide +kernel
theorem d_LW_law_546 : decode b_LW_law 546 = .ok (.invokevirtual 85, 3) := by decide +kernel
theorem d_LW_law_549 : decode b_LW_law 549 = .ok (.istore 6, 2) := by decide +kernel
theorem d_LW_law_551 : decode b_LW_law 551 = .ok (.aload_n 2, 1) := by decide +kernel
theorem d_LW_law_552 : decode b_LW_law 552 = .ok (.invokevirtual 52, 3) := by decide +kernel
theorem d_LW_law_555 : decode b_LW_law 555 = .ok (.iload 5, 2) := by decide +kernel
theorem d_LW_law_557 : decode b_LW_law 557 = .ok (.if_icmp .eq 5, 3) := by decide +kernel
theorem d_LW_law_560 : decode b_LW_law 560 = .ok (.iconst 0, 1) := by decide +kernel
theorem d_LW_law_561 : decode b_LW_law 561 = .ok (.ireturn, 1) := by decide +kernel
theorem d_LW_law_562 : decode b_LW_law 562 = .ok (.iload 5, 2) := by decide +kernel
theorem d_LW_law_564 : decode b_LW_law 564 = .ok (.ifCond .ne 15, 3) := by decide +kernel
theorem d_LW_law_567 : decode b_LW_law 567 = .ok (.aload_n 3, 1) := by decide +kernel
theorem d_LW_law_568 : decode b_LW_law 568 = .ok (.iconst 0, 1) := by decide +kernel
theorem d_LW_law_569 : decode b_LW_law 569 = .ok (.laload, 1) := by decide +kernel
theorem d_LW_law_570 : decode b_LW_law 570 = .ok (.iload 6, 2) := by decide +kernel
theorem d_LW_law_572 : decode b_LW_law 572 = .ok (.i2l, 1) := by decide +kernel
theorem d_LW_law_573 : decode b_LW_law 573 = .ok (.lcmp, 1) := by decide +kernel
theorem d_LW_law_574 : decode b_LW_law 574 = .ok (.ifCond .eq 5, 3) := by decide +kernel
theorem d_LW_law_577 : decode b_LW_law 577 = .ok (.iconst 0, 1) := by decide +kernel
theorem d_LW_law_578 : decode b_LW_law 578 = .ok (.ireturn, 1) := by decide +kernel
theorem d_LW_law_579 : decode b_LW_law 579 = .ok (.goto 115, 3) := by decide +kernel
theorem d_LW_law_582 : decode b_LW_law 582 = .ok (.aload_n 1, 1) := by decide +kernel
theorem d_LW_law_583 : decode b_LW_law 583 = .ok (.aload_n 0, 1) := by decide +kernel
theorem d_LW_law_584 : decode b_LW_law 584 = .ok (.iload 4, 2) := by decide +kernel
theorem d_LW_law_586 : decode b_LW_law 586 = .ok (.iconst 1, 1) := by decide +kernel
theorem d_LW_law_587 : decode b_LW_law 587 = .ok (.iadd, 1) := by decide +kernel
theorem d_LW_law_588 : decode b_LW_law 588 = .ok (.iaload, 1) := by decide +kernel
theorem d_LW_law_589 : decode b_LW_law 589 = .ok (.invokevirtual 86, 3) := by decide +kernel
theorem d_LW_law_592 : decode b_LW_law 592 = .ok (.aload_n 2, 1) := by decide +kernel
theorem d_LW_law_593 : decode b_LW_law 593 = .ok (.aload_n 0, 1) := by decide +kernel
theorem d_LW_law_594 : decode b_LW_law 594 = .ok (.iload 4, 2) := by decide +kernel
theorem d_LW_law_596 : decode b_LW_law 596 = .ok (.iconst 1, 1) := by decide +kernel
theorem d_LW_law_597 : decode b_LW_law 597 = .ok (.iadd, 1) := by decide +kernel
theorem d_LW_law_598 : decode b_LW_law 598 = .ok (.iaload, 1) := by decide +kernel
theorem d_LW_law_599 : decode b_LW_law 599 = .ok (.invokevirtual 89, 3) := by decide +kernel
theorem d_LW_law_602 : decode b_LW_law 602 = .ok (.if_icmp .eq 92, 3) := by decide +kernel
theorem d_LW_law_605 : decode b_LW_law 605 = .ok (.iconst 0, 1) := by decide +kernel
theorem d_LW_law_606 : decode b_LW_law 606 = .ok (.ireturn, 1) := by decide +kernel
theorem d_LW_law_607 : decode b_LW_law 607 = .ok (.aload_n 1, 1) := by decide +kernel
theorem d_LW_law_608 : decode b_LW_law 608 = .ok (.aload_n 0, 1) := by decide +kernel
theorem d_LW_law_609 : decode b_LW_law 609 = .ok (.iload 4, 2) := by decide +kernel
theorem d_LW_law_611 : decode b_LW_law 611 = .ok (.iconst 1, 1) := by decide +kernel
theorem d_LW_law_612 : decode b_LW_law 612 = .ok (.iadd, 1) := by decide +kernel
theorem d_LW_law_613 : decode b_LW_law 613 = .ok (.iaload, 1) := by decide +kernel
theorem d_LW_law_614 : decode b_LW_law 614 = .ok (.invokevirtual 90, 3) := by decide +kernel
theorem d_LW_law_617 : decode b_LW_law 617 = .ok (.aload_n 2, 1) := by decide +kernel
theorem d_LW_law_618 : decode b_LW_law 618 = .ok (.aload_n 0, 1) := by decide +kernel
theorem d_LW_law_619 : decode b_LW_law 619 = .ok (.iload 4, 2) := by decide +kernel
theorem d_LW_law_621 : decode b_LW_law 621 = .ok (.iconst 1, 1) := by decide +kernel
theorem d_LW_law_622 : decode b_LW_law 622 = .ok (.iadd, 1) := by decide +kernel
theorem d_LW_law_623 : decode b_LW_law 623 = .ok (.iaload, 1) := by decide +kernel
theorem d_LW_law_624 : decode b_LW_law 624 = .ok (.invokevirtual 93, 3) := by decide +kernel
theorem d_LW_law_627 : decode b_LW_law 627 = .ok (.if_icmp .eq 67, 3) := by decide +kernel
theorem d_LW_law_630 : decode b_LW_law 630 = .ok (.iconst 0, 1) := by decide +kernel
theorem d_LW_law_631 : decode b_LW_law 631 = .ok (.ireturn, 1) := by decide +kernel
theorem d_LW_law_632 : decode b_LW_law 632 = .ok (.aload_n 1, 1) := by decide +kernel
theorem d_LW_law_633 : decode b_LW_law 633 = .ok (.aload_n 0, 1) := by decide +kernel
theorem d_LW_law_634 : decode b_LW_law 634 = .ok (.iload 4, 2) := by decide +kernel
theorem d_LW_law_636 : decode b_LW_law 636 = .ok (.iconst 1, 1) := by decide +kernel
theorem d_LW_law_637 : decode b_LW_law 637 = .ok (.iadd, 1) := by decide +kernel
theorem d_LW_law_638 : decode b_LW_law 638 = .ok (.iaload, 1) := by decide +kernel
theorem d_LW_law_639 : decode b_LW_law 639 = .ok (.aload_n 0, 1) := by decide +kernel
theorem d_LW_law_640 : decode b_LW_law 640 = .ok (.iload 4, 2) := by decide +kernel
theorem d_LW_law_642 : decode b_LW_law 642 = .ok (.iconst 2, 1) := by decide +kernel
theorem d_LW_law_643 : decode b_LW_law 643 = .ok (.iadd, 1) := by decide +kernel
theorem d_LW_law_644 : decode b_LW_law 644 = .ok (.iaload, 1) := by decide +kernel
theorem d_LW_law_645 : decode b_LW_law 645 = .ok (.invokevirtual 94, 3) := by decide +kernel
theorem d_LW_law_648 : decode b_LW_law 648 = .ok (.aload_n 2, 1) := by decide +kernel
theorem d_LW_law_649 : decode b_LW_law 649 = .ok (.aload_n 0, 1) := by decide +kernel
theorem d_LW_law_650 : decode b_LW_law 650 = .ok (.iload 4, 2) := by decide +kernel
theorem d_LW_law_652 : decode b_LW_law 652 = .ok (.iconst 1, 1) := by decide +kernel
theorem d_LW_law_653 : decode b_LW_law 653 = .ok (.iadd, 1) := by decide +kernel
theorem d_LW_law_654 : decode b_LW_law 654 = .ok (.iaload, 1) := by decide +kernel
theorem d_LW_law_655 : decode b_LW_law 655 = .ok (.aload_n 0, 1) := by decide +kernel
theorem d_LW_law_656 : decode b_LW_law 656 = .ok (.iload 4, 2) := by decide +kernel
theorem d_LW_law_658 : decode b_LW_law 658 = .ok (.iconst 2, 1) := by decide +kernel
theorem d_LW_law_659 : decode b_LW_law 659 = .ok (.iadd, 1) := by decide +kernel
theorem d_LW_law_660 : decode b_LW_law 660 = .ok (.iaload, 1) := by decide +kernel
theorem d_LW_law_661 : decode b_LW_law 661 = .ok (.invokevirtual 97, 3) := by decide +kernel
theorem d_LW_law_664 : decode b_LW_law 664 = .ok (.if_icmp .eq 30, 3) := by decide +kernel
theorem d_LW_law_667 : decode b_LW_law 667 = .ok (.iconst 0, 1) := by decide +kernel
theorem d_LW_law_668 : decode b_LW_law 668 = .ok (.ireturn, 1) := by decide +kernel
theorem d_LW_law_669 : decode b_LW_law 669 = .ok (.aload_n 1, 1) := by decide +kernel
theorem d_LW_law_670 : decode b_LW_law 670 = .ok (.aload_n 0, 1) := by decide +kernel
theorem d_LW_law_671 : decode b_LW_law 671 = .ok (.iload 4, 2) := by decide +kernel
theorem d_LW_law_673 : decode b_LW_law 673 = .ok (.iconst 1, 1) := by decide +kernel
theorem d_LW_law_674 : decode b_LW_law 674 = .ok (.iadd, 1) := by decide +kernel
theorem d_LW_law_675 : decode b_LW_law 675 = .ok (.iaload, 1) := by decide +kernel
theorem d_LW_law_676 : decode b_LW_law 676 = .ok (.invokevirtual 98, 3) := by decide +kernel
theorem d_LW_law_679 : decode b_LW_law 679 = .ok (.aload_n 2, 1) := by decide +kernel
theorem d_LW_law_680 : decode b_LW_law 680 = .ok (.aload_n 0, 1) := by decide +kernel
theorem d_LW_law_681 : decode b_LW_law 681 = .ok (.iload 4, 2) := by decide +kernel
theorem d_LW_law_683 : decode b_LW_law 683 = .ok (.iconst 1, 1) := by decide +kernel
theorem d_LW_law_684 : decode b_LW_law 684 = .ok (.iadd, 1) := by decide +kernel
theorem d_LW_law_685 : decode b_LW_law 685 = .ok (.iaload, 1) := by decide +kernel
theorem d_LW_law_686 : decode b_LW_law 686 = .ok (.invokevirtual 101, 3) := by decide +kernel
theorem d_LW_law_689 : decode b_LW_law 689 = .ok (.if_icmp .eq 5, 3) := by decide +kernel
theorem d_LW_law_692 : decode b_LW_law 692 = .ok (.iconst 0, 1) := by decide +kernel
theorem d_LW_law_693 : decode b_LW_law 693 = .ok (.ireturn, 1) := by decide +kernel
theorem d_LW_law_694 : decode b_LW_law 694 = .ok (.iinc 4 3, 3) := by decide +kernel
theorem d_LW_law_697 : decode b_LW_law 697 = .ok (.goto (-674), 3) := by decide +kernel
theorem d_LW_law_700 : decode b_LW_law 700 = .ok (.iconst 1, 1) := by decide +kernel
theorem d_LW_law_701 : decode b_LW_law 701 = .ok (.ireturn, 1) := by decide +kernel
theorem d_LW_load_0 : decode b_LW_load 0 = .ok (.aload_n 2, 1) := by decide +kernel
theorem d_LW_load_1 : decode b_LW_load 1 = .ok (.iconst 0, 1) := by decide +kernel
theorem d_LW_load_2 : decode b_LW_load 2 = .ok (.aload_n 0, 1) := by decide +kernel
theorem d_LW_load_3 : decode b_LW_load 3 = .ok (.iload_n 1, 1) := by decide +kernel
theorem d_LW_load_4 : decode b_LW_load 4 = .ok (.invokevirtual 7, 3) := by decide +kernel
theorem d_LW_load_7 : decode b_LW_load 7 = .ok (.i2l, 1) := by decide +kernel
theorem d_LW_load_8 : decode b_LW_load 8 = .ok (.lastore, 1) := by decide +kernel
theorem d_LW_load_9 : decode b_LW_load 9 = .ok (.goto 9, 3) := by decide +kernel
theorem d_LW_load_12 : decode b_LW_load 12 = .ok (.astore_n 3, 1) := by decide +kernel
theorem d_LW_load_13 : decode b_LW_load 13 = .ok (.iconst 1, 1) := by decide +kernel
theorem d_LW_load_14 : decode b_LW_load 14 = .ok (.ireturn, 1) := by decide +kernel
theorem d_LW_load_15 : decode b_LW_load 15 = .ok (.astore_n 3, 1) := by decide +kernel
theorem d_LW_load_16 : decode b_LW_load 16 = .ok (.iconst 2, 1) := by decide +kernel
theorem d_LW_load_17 : decode b_LW_load 17 = .ok (.ireturn, 1) := by decide +kernel
theorem d_LW_load_18 : decode b_LW_load 18 = .ok (.iconst 0, 1) := by decide +kernel
theorem d_LW_load_19 : decode b_LW_load 19 = .ok (.ireturn, 1) := by decide +kernel
theorem d_LW_media_0 : decode b_LW_media 0 = .ok (.aload_n 2, 1) := by decide +kernel
theorem d_LW_media_1 : decode b_LW_media 1 = .ok (.iconst 0, 1) := by decide +kernel
theorem d_LW_media_2 : decode b_LW_media 2 = .ok (.aload_n 0, 1) := by decide +kernel
theorem d_LW_media_3 : decode b_LW_media 3 = .ok (.iload_n 1, 1) := by decide +kernel
theorem d_LW_media_4 : decode b_LW_media 4 = .ok (.invokevirtual 36, 3) := by decide +kernel
theorem d_LW_media_7 : decode b_LW_media 7 = .ok (.i2l, 1) := by decide +kernel
theorem d_LW_media_8 : decode b_LW_media 8 = .ok (.lastore, 1) := by decide +kernel
theorem d_LW_media_9 : decode b_LW_media 9 = .ok (.goto 6, 3) := by decide +kernel
theorem d_LW_media_12 : decode b_LW_media 12 = .ok (.astore_n 3, 1) := by decide +kernel
theorem d_LW_media_13 : decode b_LW_media 13 = .ok (.iconst 1, 1) := by decide +kernel
theorem d_LW_media_14 : decode b_LW_media 14 = .ok (.ireturn, 1) := by decide +kernel
theorem d_LW_media_15 : decode b_LW_media 15 = .ok (.iconst 0, 1) := by decide +kernel
theorem d_LW_media_16 : decode b_LW_media 16 = .ok (.ireturn, 1) := by decide +kernel
theorem d_LW_newest_0 : decode b_LW_newest 0 = .ok (.aload_n 2, 1) := by decide +kernel
theorem d_LW_newest_1 : decode b_LW_newest 1 = .ok (.iconst 0, 1) := by decide +kernel
theorem d_LW_newest_2 : decode b_LW_newest 2 = .ok (.aload_n 0, 1) := by decide +kernel
theorem d_LW_newest_3 : decode b_LW_newest 3 = .ok (.iload_n 1, 1) := by decide +kernel
theorem d_LW_newest_4 : decode b_LW_newest 4 = .ok (.invokevirtual 33, 3) := by decide +kernel
theorem d_LW_newest_7 : decode b_LW_newest 7 = .ok (.i2l, 1) := by decide +kernel
theorem d_LW_newest_8 : decode b_LW_newest 8 = .ok (.lastore, 1) := by decide +kernel
