theorem dL_act_0 : decode cL_act 0 = .ok (.iload_n 1, 1) := by decide +kernel
theorem dL_act_1 : decode cL_act 1 = .ok (.bipush 18, 2) := by decide +kernel
theorem dL_act_3 : decode cL_act 3 = .ok (.ishr, 1) := by decide +kernel
theorem dL_act_4 : decode cL_act 4 = .ok (.bipush 7, 2) := by decide +kernel
theorem dL_act_6 : decode cL_act 6 = .ok (.iand, 1) := by decide +kernel
theorem dL_act_7 : decode cL_act 7 = .ok (.bipush 7, 2) := by decide +kernel
theorem dL_act_9 : decode cL_act 9 = .ok (.if_icmp .ne 7, 3) := by decide +kernel
theorem dL_act_12 : decode cL_act 12 = .ok (.iconst 1, 1) := by decide +kernel
theorem dL_act_13 : decode cL_act 13 = .ok (.goto 4, 3) := by decide +kernel
theorem dL_act_16 : decode cL_act 16 = .ok (.iconst 0, 1) := by decide +kernel
theorem dL_act_17 : decode cL_act 17 = .ok (.istore_n 2, 1) := by decide +kernel
theorem dL_act_18 : decode cL_act 18 = .ok (.iload_n 1, 1) := by decide +kernel
theorem dL_act_19 : decode cL_act 19 = .ok (.bipush 40, 2) := by decide +kernel
theorem dL_act_21 : decode cL_act 21 = .ok (.invokestatic 85, 3) := by decide +kernel
theorem dL_act_24 : decode cL_act 24 = .ok (.istore_n 3, 1) := by decide +kernel
theorem dL_act_25 : decode cL_act 25 = .ok (.iload_n 1, 1) := by decide +kernel
theorem dL_act_26 : decode cL_act 26 = .ok (.bipush 6, 2) := by decide +kernel
theorem dL_act_28 : decode cL_act 28 = .ok (.ishr, 1) := by decide +kernel
theorem dL_act_29 : decode cL_act 29 = .ok (.istore 4, 2) := by decide +kernel
theorem dL_act_31 : decode cL_act 31 = .ok (.iload_n 2, 1) := by decide +kernel
theorem dL_act_32 : decode cL_act 32 = .ok (.ifCond .eq 15, 3) := by decide +kernel
theorem dL_act_35 : decode cL_act 35 = .ok (.iload 4, 2) := by decide +kernel
theorem dL_act_37 : decode cL_act 37 = .ok (.bipush 14, 2) := by decide +kernel
theorem dL_act_39 : decode cL_act 39 = .ok (.invokestatic 85, 3) := by decide +kernel
theorem dL_act_42 : decode cL_act 42 = .ok (.iconst 1, 1) := by decide +kernel
theorem dL_act_43 : decode cL_act 43 = .ok (.isub, 1) := by decide +kernel
theorem dL_act_44 : decode cL_act 44 = .ok (.goto 10, 3) := by decide +kernel
theorem dL_act_47 : decode cL_act 47 = .ok (.iload 4, 2) := by decide +kernel
theorem dL_act_49 : decode cL_act 49 = .ok (.bipush 8, 2) := by decide +kernel
theorem dL_act_51 : decode cL_act 51 = .ok (.invokestatic 85, 3) := by decide +kernel
theorem dL_act_54 : decode cL_act 54 = .ok (.istore 5, 2) := by decide +kernel
theorem dL_act_56 : decode cL_act 56 = .ok (.iload_n 2, 1) := by decide +kernel
theorem dL_act_57 : decode cL_act 57 = .ok (.ifCond .eq 17, 3) := by decide +kernel
theorem dL_act_60 : decode cL_act 60 = .ok (.iload 4, 2) := by decide +kernel
theorem dL_act_62 : decode cL_act 62 = .ok (.iconst 3, 1) := by decide +kernel
theorem dL_act_63 : decode cL_act 63 = .ok (.ishr, 1) := by decide +kernel
theorem dL_act_64 : decode cL_act 64 = .ok (.bipush 28, 2) := by decide +kernel
theorem dL_act_66 : decode cL_act 66 = .ok (.invokestatic 85, 3) := by decide +kernel
theorem dL_act_69 : decode cL_act 69 = .ok (.iconst 1, 1) := by decide +kernel
theorem dL_act_70 : decode cL_act 70 = .ok (.isub, 1) := by decide +kernel
theorem dL_act_71 : decode cL_act 71 = .ok (.goto 12, 3) := by decide +kernel
theorem dL_act_74 : decode cL_act 74 = .ok (.iload 4, 2) := by decide +kernel
theorem dL_act_76 : decode cL_act 76 = .ok (.iconst 3, 1) := by decide +kernel
theorem dL_act_77 : decode cL_act 77 = .ok (.ishr, 1) := by decide +kernel
theorem dL_act_78 : decode cL_act 78 = .ok (.bipush 16, 2) := by decide +kernel
theorem dL_act_80 : decode cL_act 80 = .ok (.invokestatic 85, 3) := by decide +kernel
theorem dL_act_83 : decode cL_act 83 = .ok (.istore 6, 2) := by decide +kernel
theorem dL_act_85 : decode cL_act 85 = .ok (.iload_n 2, 1) := by decide +kernel
theorem dL_act_86 : decode cL_act 86 = .ok (.ifCond .eq 10, 3) := by decide +kernel
theorem dL_act_89 : decode cL_act 89 = .ok (.iload 4, 2) := by decide +kernel
theorem dL_act_91 : decode cL_act 91 = .ok (.iconst 4, 1) := by decide +kernel
theorem dL_act_92 : decode cL_act 92 = .ok (.ishr, 1) := by decide +kernel
theorem dL_act_93 : decode cL_act 93 = .ok (.goto 28, 3) := by decide +kernel
theorem dL_act_96 : decode cL_act 96 = .ok (.iload 4, 2) := by decide +kernel
theorem dL_act_98 : decode cL_act 98 = .ok (.iconst 4, 1) := by decide +kernel
theorem dL_act_99 : decode cL_act 99 = .ok (.ishr, 1) := by decide +kernel
theorem dL_act_100 : decode cL_act 100 = .ok (.iload 4, 2) := by decide +kernel
theorem dL_act_102 : decode cL_act 102 = .ok (.bipush 9, 2) := by decide +kernel
theorem dL_act_104 : decode cL_act 104 = .ok (.ishr, 1) := by decide +kernel
theorem dL_act_105 : decode cL_act 105 = .ok (.iconst 1, 1) := by decide +kernel
theorem dL_act_106 : decode cL_act 106 = .ok (.iand, 1) := by decide +kernel
theorem dL_act_107 : decode cL_act 107 = .ok (.ifCond .ne 8, 3) := by decide +kernel
theorem dL_act_110 : decode cL_act 110 = .ok (.bipush 101, 2) := by decide +kernel
theorem dL_act_112 : decode cL_act 112 = .ok (.goto 6, 3) := by decide +kernel
theorem dL_act_115 : decode cL_act 115 = .ok (.sipush 3000, 3) := by decide +kernel
theorem dL_act_118 : decode cL_act 118 = .ok (.invokestatic 85, 3) := by decide +kernel
theorem dL_act_121 : decode cL_act 121 = .ok (.istore 7, 2) := by decide +kernel
theorem dL_act_123 : decode cL_act 123 = .ok (.iload_n 2, 1) := by decide +kernel
theorem dL_act_124 : decode cL_act 124 = .ok (.ifCond .eq 18, 3) := by decide +kernel
theorem dL_act_127 : decode cL_act 127 = .ok (.iload 4, 2) := by decide +kernel
theorem dL_act_129 : decode cL_act 129 = .ok (.bipush 7, 2) := by decide +kernel
theorem dL_act_131 : decode cL_act 131 = .ok (.ishr, 1) := by decide +kernel
theorem dL_act_132 : decode cL_act 132 = .ok (.bipush 8, 2) := by decide +kernel
theorem dL_act_134 : decode cL_act 134 = .ok (.invokestatic 85, 3) := by decide +kernel
theorem dL_act_137 : decode cL_act 137 = .ok (.iconst 1, 1) := by decide +kernel
theorem dL_act_138 : decode cL_act 138 = .ok (.isub, 1) := by decide +kernel
theorem dL_act_139 : decode cL_act 139 = .ok (.goto 13, 3) := by decide +kernel
theorem dL_act_142 : decode cL_act 142 = .ok (.iload 4, 2) := by decide +kernel
theorem dL_act_144 : decode cL_act 144 = .ok (.bipush 7, 2) := by decide +kernel
theorem dL_act_146 : decode cL_act 146 = .ok (.ishr, 1) := by decide +kernel
theorem dL_act_147 : decode cL_act 147 = .ok (.bipush 6, 2) := by decide +kernel
theorem dL_act_149 : decode cL_act 149 = .ok (.invokestatic 85, 3) := by decide +kernel
theorem dL_act_152 : decode cL_act 152 = .ok (.istore 8, 2) := by decide +kernel
theorem dL_act_154 : decode cL_act 154 = .ok (.iload_n 3, 1) := by decide +kernel
theorem dL_act_155 : decode cL_act 155 = .ok (.bipush 10, 2) := by decide +kernel
theorem dL_act_157 : decode cL_act 157 = .ok (.if_icmp .ge 324, 3) := by decide +kernel
theorem dL_act_160 : decode cL_act 160 = .ok (.iload 4, 2) := by decide +kernel
theorem dL_act_162 : decode cL_act 162 = .ok (.bipush 7, 2) := by decide +kernel
theorem dL_act_164 : decode cL_act 164 = .ok (.ishr, 1) := by decide +kernel
theorem dL_act_165 : decode cL_act 165 = .ok (.iconst 4, 1) := by decide +kernel
theorem dL_act_166 : decode cL_act 166 = .ok (.invokestatic 85, 3) := by decide +kernel
theorem dL_act_169 : decode cL_act 169 = .ok (.ifCond .ne 27, 3) := by decide +kernel
theorem dL_act_172 : decode cL_act 172 = .ok (.bipush 101, 2) := by decide +kernel
theorem dL_act_174 : decode cL_act 174 = .ok (.iload 4, 2) := by decide +kernel
theorem dL_act_176 : decode cL_act 176 = .ok (.iconst 5, 1) := by decide +kernel
theorem dL_act_177 : decode cL_act 177 = .ok (.ishr, 1) := by decide +kernel
theorem dL_act_178 : decode cL_act 178 = .ok (.iload_n 2, 1) := by decide +kernel
theorem dL_act_179 : decode cL_act 179 = .ok (.ifCond .eq 8, 3) := by decide +kernel
theorem dL_act_182 : decode cL_act 182 = .ok (.bipush 8, 2) := by decide +kernel
theorem dL_act_184 : decode cL_act 184 = .ok (.goto 5, 3) := by decide +kernel
theorem dL_act_187 : decode cL_act 187 = .ok (.bipush 6, 2) := by decide +kernel
theorem dL_act_189 : decode cL_act 189 = .ok (.invokestatic 85, 3) := by decide +kernel
theorem dL_act_192 : decode cL_act 192 = .ok (.iadd, 1) := by decide +kernel
theorem dL_act_193 : decode cL_act 193 = .ok (.goto 32, 3) := by decide +kernel
theorem dL_act_196 : decode cL_act 196 = .ok (.iload_n 2, 1) := by decide +kernel
theorem dL_act_197 : decode cL_act 197 = .ok (.ifCond .eq 18, 3) := by decide +kernel
theorem dL_act_200 : decode cL_act 200 = .ok (.iload 4, 2) := by decide +kernel
theorem dL_act_202 : decode cL_act 202 = .ok (.bipush 6, 2) := by decide +kernel
theorem dL_act_204 : decode cL_act 204 = .ok (.ishr, 1) := by decide +kernel
theorem dL_act_205 : decode cL_act 205 = .ok (.bipush 14, 2) := by decide +kernel
theorem dL_act_207 : decode cL_act 207 = .ok (.invokestatic 85, 3) := by decide +kernel
theorem dL_act_210 : decode cL_act 210 = .ok (.iconst 1, 1) := by decide +kernel
theorem dL_act_211 : decode cL_act 211 = .ok (.isub, 1) := by decide +kernel
theorem dL_act_212 : decode cL_act 212 = .ok (.goto 13, 3) := by decide +kernel
theorem dL_act_215 : decode cL_act 215 = .ok (.iload 4, 2) := by decide +kernel
theorem dL_act_217 : decode cL_act 217 = .ok (.bipush 6, 2) := by decide +kernel
theorem dL_act_219 : decode cL_act 219 = .ok (.ishr, 1) := by decide +kernel
theorem dL_act_220 : decode cL_act 220 = .ok (.bipush 8, 2) := by decide +kernel
theorem dL_act_222 : decode cL_act 222 = .ok (.invokestatic 85, 3) := by decide +kernel
theorem dL_act_225 : decode cL_act 225 = .ok (.istore 9, 2) := by decide +kernel
theorem dL_act_227 : decode cL_act 227 = .ok (.iload_n 3, 1) := by decide +kernel
theorem dL_act_228 : decode cL_act 228 = .ok (.iconst 5, 1) := by decide +kernel
theorem dL_act_229 : decode cL_act 229 = .ok (.if_icmp .ge 96, 3) := by decide +kernel
theorem dL_act_232 : decode cL_act 232 = .ok (.aload_n 0, 1) := by decide +kernel
theorem dL_act_233 : decode cL_act 233 = .ok (.iconst 5, 1) := by decide +kernel
theorem dL_act_234 : decode cL_act 234 = .ok (.sipush 10000, 3) := by decide +kernel
theorem dL_act_237 : decode cL_act 237 = .ok (.iload 4, 2) := by decide +kernel
theorem dL_act_239 : decode cL_act 239 = .ok (.iconst 4, 1) := by decide +kernel
theorem dL_act_240 : decode cL_act 240 = .ok (.ishr, 1) := by decide +kernel
theorem dL_act_241 : decode cL_act 241 = .ok (.iload_n 2, 1) := by decide +kernel
theorem dL_act_242 : decode cL_act 242 = .ok (.ifCond .eq 9, 3) := by decide +kernel
theorem dL_act_245 : decode cL_act 245 = .ok (.sipush 3300, 3) := by decide +kernel
theorem dL_act_248 : decode cL_act 248 = .ok (.goto 6, 3) := by decide +kernel
theorem dL_act_251 : decode cL_act 251 = .ok (.sipush 3001, 3) := by decide +kernel
theorem dL_act_254 : decode cL_act 254 = .ok (.invokestatic 85, 3) := by decide +kernel
theorem dL_act_257 : decode cL_act 257 = .ok (.imul, 1) := by decide +kernel
theorem dL_act_258 : decode cL_act 258 = .ok (.iload 6, 2) := by decide +kernel
theorem dL_act_260 : decode cL_act 260 = .ok (.ifCond .ge 9, 3) := by decide +kernel
theorem dL_act_263 : decode cL_act 263 = .ok (.sipush 9999, 3) := by decide +kernel
theorem dL_act_266 : decode cL_act 266 = .ok (.goto 5, 3) := by decide +kernel
theorem dL_act_269 : decode cL_act 269 = .ok (.iload 6, 2) := by decide +kernel
theorem dL_act_271 : decode cL_act 271 = .ok (.iadd, 1) := by decide +kernel
theorem dL_act_272 : decode cL_act 272 = .ok (.iload 4, 2) := by decide +kernel
theorem dL_act_274 : decode cL_act 274 = .ok (.iconst 5, 1) := by decide +kernel
theorem dL_act_275 : decode cL_act 275 = .ok (.ishr, 1) := by decide +kernel
theorem dL_act_276 : decode cL_act 276 = .ok (.iload_n 2, 1) := by decide +kernel
theorem dL_act_277 : decode cL_act 277 = .ok (.ifCond .eq 9, 3) := by decide +kernel
theorem dL_act_280 : decode cL_act 280 = .ok (.sipush 230, 3) := by decide +kernel
theorem dL_act_283 : decode cL_act 283 = .ok (.goto 6, 3) := by decide +kernel
theorem dL_act_286 : decode cL_act 286 = .ok (.sipush 199, 3) := by decide +kernel
theorem dL_act_289 : decode cL_act 289 = .ok (.invokestatic 85, 3) := by decide +kernel
theorem dL_act_292 : decode cL_act 292 = .ok (.bipush 99, 2) := by decide +kernel
theorem dL_act_294 : decode cL_act 294 = .ok (.isub, 1) := by decide +kernel
theorem dL_act_295 : decode cL_act 295 = .ok (.iload_n 2, 1) := by decide +kernel
theorem dL_act_296 : decode cL_act 296 = .ok (.ifCond .eq 10, 3) := by decide +kernel
theorem dL_act_299 : decode cL_act 299 = .ok (.iload 4, 2) := by decide +kernel
theorem dL_act_301 : decode cL_act 301 = .ok (.iconst 3, 1) := by decide +kernel
theorem dL_act_302 : decode cL_act 302 = .ok (.ishr, 1) := by decide +kernel
theorem dL_act_303 : decode cL_act 303 = .ok (.goto 14, 3) := by decide +kernel
theorem dL_act_306 : decode cL_act 306 = .ok (.iload 4, 2) := by decide +kernel
theorem dL_act_308 : decode cL_act 308 = .ok (.bipush 6, 2) := by decide +kernel
theorem dL_act_310 : decode cL_act 310 = .ok (.ishr, 1) := by decide +kernel
theorem dL_act_311 : decode cL_act 311 = .ok (.sipush 400, 3) := by decide +kernel
theorem dL_act_314 : decode cL_act 314 = .ok (.invokestatic 85, 3) := by decide +kernel
theorem dL_act_317 : decode cL_act 317 = .ok (.iload 9, 2) := by decide +kernel
theorem dL_act_319 : decode cL_act 319 = .ok (.invokestatic 88, 3) := by decide +kernel
theorem dL_act_322 : decode cL_act 322 = .ok (.goto 158, 3) := by decide +kernel
theorem dL_act_325 : decode cL_act 325 = .ok (.iload_n 3, 1) := by decide +kernel
theorem dL_act_326 : decode cL_act 326 = .ok (.bipush 7, 2) := by decide +kernel
theorem dL_act_328 : decode cL_act 328 = .ok (.if_icmp .ge 48, 3) := by decide +kernel
theorem dL_act_331 : decode cL_act 331 = .ok (.aload_n 0, 1) := by decide +kernel
theorem dL_act_332 : decode cL_act 332 = .ok (.bipush 6, 2) := by decide +kernel
theorem dL_act_334 : decode cL_act 334 = .ok (.iload 6, 2) := by decide +kernel
theorem dL_act_336 : decode cL_act 336 = .ok (.iload 4, 2) := by decide +kernel
theorem dL_act_338 : decode cL_act 338 = .ok (.iconst 5, 1) := by decide +kernel
theorem dL_act_339 : decode cL_act 339 = .ok (.ishr, 1) := by decide +kernel
theorem dL_act_340 : decode cL_act 340 = .ok (.iload_n 2, 1) := by decide +kernel
theorem dL_act_341 : decode cL_act 341 = .ok (.ifCond .eq 9, 3) := by decide +kernel
theorem dL_act_344 : decode cL_act 344 = .ok (.sipush 1100, 3) := by decide +kernel
theorem dL_act_347 : decode cL_act 347 = .ok (.goto 6, 3) := by decide +kernel
theorem dL_act_350 : decode cL_act 350 = .ok (.sipush 300, 3) := by decide +kernel
theorem dL_act_353 : decode cL_act 353 = .ok (.invokestatic 85, 3) := by decide +kernel
theorem dL_act_356 : decode cL_act 356 = .ok (.iload 9, 2) := by decide +kernel
theorem dL_act_358 : decode cL_act 358 = .ok (.bipush 100, 2) := by decide +kernel
theorem dL_act_360 : decode cL_act 360 = .ok (.if_icmp .le 7, 3) := by decide +kernel
theorem dL_act_363 : decode cL_act 363 = .ok (.iconst 0, 1) := by decide +kernel
theorem dL_act_364 : decode cL_act 364 = .ok (.goto 5, 3) := by decide +kernel
theorem dL_act_367 : decode cL_act 367 = .ok (.iload 9, 2) := by decide +kernel
theorem dL_act_369 : decode cL_act 369 = .ok (.iconst 0, 1) := by decide +kernel
theorem dL_act_370 : decode cL_act 370 = .ok (.invokestatic 88, 3) := by decide +kernel
theorem dL_act_373 : decode cL_act 373 = .ok (.goto 107, 3) := by decide +kernel
theorem dL_act_376 : decode cL_act 376 = .ok (.iload_n 3, 1) := by decide +kernel
theorem dL_act_377 : decode cL_act 377 = .ok (.bipush 9, 2) := by decide +kernel
theorem dL_act_379 : decode cL_act 379 = .ok (.if_icmp .ge 51, 3) := by decide +kernel
theorem dL_act_382 : decode cL_act 382 = .ok (.aload_n 0, 1) := by decide +kernel
theorem dL_act_383 : decode cL_act 383 = .ok (.bipush 7, 2) := by decide +kernel
theorem dL_act_385 : decode cL_act 385 = .ok (.iload 8, 2) := by decide +kernel
theorem dL_act_387 : decode cL_act 387 = .ok (.iload 6, 2) := by decide +kernel
theorem dL_act_389 : decode cL_act 389 = .ok (.iload 4, 2) := by decide +kernel
theorem dL_act_391 : decode cL_act 391 = .ok (.iconst 4, 1) := by decide +kernel
theorem dL_act_392 : decode cL_act 392 = .ok (.ishr, 1) := by decide +kernel
theorem dL_act_393 : decode cL_act 393 = .ok (.iload_n 2, 1) := by decide +kernel
theorem dL_act_394 : decode cL_act 394 = .ok (.ifCond .eq 9, 3) := by decide +kernel
theorem dL_act_397 : decode cL_act 397 = .ok (.sipush 1300, 3) := by decide +kernel
theorem dL_act_400 : decode cL_act 400 = .ok (.goto 6, 3) := by decide +kernel
theorem dL_act_403 : decode cL_act 403 = .ok (.sipush 301, 3) := by decide +kernel
theorem dL_act_406 : decode cL_act 406 = .ok (.invokestatic 85, 3) := by decide +kernel
theorem dL_act_409 : decode cL_act 409 = .ok (.iload_n 2, 1) := by decide +kernel
theorem dL_act_410 : decode cL_act 410 = .ok (.ifCond .eq 9, 3) := by decide +kernel
theorem dL_act_413 : decode cL_act 413 = .ok (.sipush 650, 3) := by decide +kernel
theorem dL_act_416 : decode cL_act 416 = .ok (.goto 6, 3) := by decide +kernel
theorem dL_act_419 : decode cL_act 419 = .ok (.sipush 150, 3) := by decide +kernel
theorem dL_act_422 : decode cL_act 422 = .ok (.isub, 1) := by decide +kernel
theorem dL_act_423 : decode cL_act 423 = .ok (.iconst 0, 1) := by decide +kernel
theorem dL_act_424 : decode cL_act 424 = .ok (.invokestatic 88, 3) := by decide +kernel
theorem dL_act_427 : decode cL_act 427 = .ok (.goto 53, 3) := by decide +kernel
theorem dL_act_430 : decode cL_act 430 = .ok (.aload_n 0, 1) := by decide +kernel
theorem dL_act_431 : decode cL_act 431 = .ok (.bipush 8, 2) := by decide +kernel
theorem dL_act_433 : decode cL_act 433 = .ok (.iload 8, 2) := by decide +kernel
theorem dL_act_435 : decode cL_act 435 = .ok (.iload 4, 2) := by decide +kernel
theorem dL_act_437 : decode cL_act 437 = .ok (.iconst 4, 1) := by decide +kernel
theorem dL_act_438 : decode cL_act 438 = .ok (.ishr, 1) := by decide +kernel
theorem dL_act_439 : decode cL_act 439 = .ok (.iload_n 2, 1) := by decide +kernel
theorem dL_act_440 : decode cL_act 440 = .ok (.ifCond .eq 9, 3) := by decide +kernel
theorem dL_act_443 : decode cL_act 443 = .ok (.sipush 3300, 3) := by decide +kernel
theorem dL_act_446 : decode cL_act 446 = .ok (.goto 6, 3) := by decide +kernel
theorem dL_act_449 : decode cL_act 449 = .ok (.sipush 3001, 3) := by decide +kernel
theorem dL_act_452 : decode cL_act 452 = .ok (.invokestatic 85, 3) := by decide +kernel
theorem dL_act_455 : decode cL_act 455 = .ok (.iload_n 2, 1) := by decide +kernel
theorem dL_act_456 : decode cL_act 456 = .ok (.ifCond .eq 10, 3) := by decide +kernel
theorem dL_act_459 : decode cL_act 459 = .ok (.iload 4, 2) := by decide +kernel
theorem dL_act_461 : decode cL_act 461 = .ok (.iconst 5, 1) := by decide +kernel
theorem dL_act_462 : decode cL_act 462 = .ok (.ishr, 1) := by decide +kernel
theorem dL_act_463 : decode cL_act 463 = .ok (.goto 13, 3) := by decide +kernel
theorem dL_act_466 : decode cL_act 466 = .ok (.iload 4, 2) := by decide +kernel
theorem dL_act_468 : decode cL_act 468 = .ok (.iconst 5, 1) := by decide +kernel
theorem dL_act_469 : decode cL_act 469 = .ok (.ishr, 1) := by decide +kernel
theorem dL_act_470 : decode cL_act 470 = .ok (.sipush 900, 3) := by decide +kernel
theorem dL_act_473 : decode cL_act 473 = .ok (.invokestatic 85, 3) := by decide +kernel
theorem dL_act_476 : decode cL_act 476 = .ok (.iconst 0, 1) := by decide +kernel
theorem dL_act_477 : decode cL_act 477 = .ok (.invokestatic 88, 3) := by decide +kernel
theorem dL_act_480 : decode cL_act 480 = .ok (.ireturn, 1) := by decide +kernel
theorem dL_act_481 : decode cL_act 481 = .ok (.iload_n 3, 1) := by decide +kernel
theorem dL_act_482 : decode cL_act 482 = .ok (.bipush 18, 2) := by decide +kernel
theorem dL_act_484 : decode cL_act 484 = .ok (.if_icmp .ge 74, 3) := by decide +kernel
theorem dL_act_487 : decode cL_act 487 = .ok (.iload_n 3, 1) := by decide +kernel
theorem dL_act_488 : decode cL_act 488 = .ok (.bipush 14, 2) := by decide +kernel
theorem dL_act_490 : decode cL_act 490 = .ok (.if_icmp .ge 17, 3) := by decide +kernel
theorem dL_act_493 : decode cL_act 493 = .ok (.aload_n 0, 1) := by decide +kernel
theorem dL_act_494 : decode cL_act 494 = .ok (.iconst 3, 1) := by decide +kernel
theorem dL_act_495 : decode cL_act 495 = .ok (.iload 5, 2) := by decide +kernel
theorem dL_act_497 : decode cL_act 497 = .ok (.iload 7, 2) := by decide +kernel
theorem dL_act_499 : decode cL_act 499 = .ok (.iconst 0, 1) := by decide +kernel
theorem dL_act_500 : decode cL_act 500 = .ok (.iconst 0, 1) := by decide +kernel
theorem dL_act_501 : decode cL_act 501 = .ok (.invokestatic 88, 3) := by decide +kernel
theorem dL_act_504 : decode cL_act 504 = .ok (.goto 53, 3) := by decide +kernel
theorem dL_act_507 : decode cL_act 507 = .ok (.iload_n 3, 1) := by decide +kernel
theorem dL_act_508 : decode cL_act 508 = .ok (.bipush 17, 2) := by decide +kernel
theorem dL_act_510 : decode cL_act 510 = .ok (.if_icmp .ge 36, 3) := by decide +kernel
theorem dL_act_513 : decode cL_act 513 = .ok (.aload_n 0, 1) := by decide +kernel
theorem dL_act_514 : decode cL_act 514 = .ok (.iconst 4, 1) := by decide +kernel
theorem dL_act_515 : decode cL_act 515 = .ok (.iload 4, 2) := by decide +kernel
theorem dL_act_517 : decode cL_act 517 = .ok (.iconst 5, 1) := by decide +kernel
theorem dL_act_518 : decode cL_act 518 = .ok (.ishr, 1) := by decide +kernel
theorem dL_act_519 : decode cL_act 519 = .ok (.iload_n 2, 1) := by decide +kernel
theorem dL_act_520 : decode cL_act 520 = .ok (.ifCond .eq 9, 3) := by decide +kernel
theorem dL_act_523 : decode cL_act 523 = .ok (.sipush 400, 3) := by decide +kernel
theorem dL_act_526 : decode cL_act 526 = .ok (.goto 6, 3) := by decide +kernel
theorem dL_act_529 : decode cL_act 529 = .ok (.sipush 130, 3) := by decide +kernel
theorem dL_act_532 : decode cL_act 532 = .ok (.invokestatic 85, 3) := by decide +kernel
theorem dL_act_535 : decode cL_act 535 = .ok (.iload 5, 2) := by decide +kernel
theorem dL_act_537 : decode cL_act 537 = .ok (.iload 7, 2) := by decide +kernel
theorem dL_act_539 : decode cL_act 539 = .ok (.iconst 0, 1) := by decide +kernel
theorem dL_act_540 : decode cL_act 540 = .ok (.invokestatic 88, 3) := by decide +kernel
theorem dL_act_543 : decode cL_act 543 = .ok (.goto 14, 3) := by decide +kernel
theorem dL_act_546 : decode cL_act 546 = .ok (.aload_n 0, 1) := by decide +kernel
theorem dL_act_547 : decode cL_act 547 = .ok (.bipush 9, 2) := by decide +kernel
theorem dL_act_549 : decode cL_act 549 = .ok (.iload 5, 2) := by decide +kernel
theorem dL_act_551 : decode cL_act 551 = .ok (.iconst 0, 1) := by decide +kernel
theorem dL_act_552 : decode cL_act 552 = .ok (.iconst 0, 1) := by decide +kernel
theorem dL_act_553 : decode cL_act 553 = .ok (.iconst 0, 1) := by decide +kernel
theorem dL_act_554 : decode cL_act 554 = .ok (.invokestatic 88, 3) := by decide +kernel
theorem dL_act_557 : decode cL_act 557 = .ok (.ireturn, 1) := by decide +kernel
theorem dL_act_558 : decode cL_act 558 = .ok (.iload_n 3, 1) := by decide +kernel
theorem dL_act_559 : decode cL_act 559 = .ok (.bipush 21, 2) := by decide +kernel
theorem dL_act_561 : decode cL_act 561 = .ok (.if_icmp .ge 16, 3) := by decide +kernel
theorem dL_act_564 : decode cL_act 564 = .ok (.aload_n 0, 1) := by decide +kernel
theorem dL_act_565 : decode cL_act 565 = .ok (.bipush 11, 2) := by decide +kernel
theorem dL_act_567 : decode cL_act 567 = .ok (.iconst 0, 1) := by decide +kernel
theorem dL_act_568 : decode cL_act 568 = .ok (.iconst 0, 1) := by decide +kernel
theorem dL_act_569 : decode cL_act 569 = .ok (.iconst 0, 1) := by decide +kernel
theorem dL_act_570 : decode cL_act 570 = .ok (.iconst 0, 1) := by decide +kernel
theorem dL_act_571 : decode cL_act 571 = .ok (.invokestatic 88, 3) := by decide +kernel
theorem dL_act_574 : decode cL_act 574 = .ok (.goto 92, 3) := by decide +kernel
theorem dL_act_577 : decode cL_act 577 = .ok (.iload_n 3, 1) := by decide +kernel
theorem dL_act_578 : decode cL_act 578 = .ok (.bipush 23, 2) := by decide +kernel
theorem dL_act_580 : decode cL_act 580 = .ok (.if_icmp .ge 18, 3) := by decide +kernel
theorem dL_act_583 : decode cL_act 583 = .ok (.aload_n 0, 1) := by decide +kernel
theorem dL_act_584 : decode cL_act 584 = .ok (.bipush 16, 2) := by decide +kernel
theorem dL_act_586 : decode cL_act 586 = .ok (.iload 5, 2) := by decide +kernel
theorem dL_act_588 : decode cL_act 588 = .ok (.iload 6, 2) := by decide +kernel
theorem dL_act_590 : decode cL_act 590 = .ok (.iconst 0, 1) := by decide +kernel
theorem dL_act_591 : decode cL_act 591 = .ok (.iconst 0, 1) := by decide +kernel
theorem dL_act_592 : decode cL_act 592 = .ok (.invokestatic 88, 3) := by decide +kernel
theorem dL_act_595 : decode cL_act 595 = .ok (.goto 71, 3) := by decide +kernel
theorem dL_act_598 : decode cL_act 598 = .ok (.iload_n 3, 1) := by decide +kernel
theorem dL_act_599 : decode cL_act 599 = .ok (.bipush 23, 2) := by decide +kernel
theorem dL_act_601 : decode cL_act 601 = .ok (.if_icmp .ne 34, 3) := by decide +kernel
theorem dL_act_604 : decode cL_act 604 = .ok (.aload_n 0, 1) := by decide +kernel
theorem dL_act_605 : decode cL_act 605 = .ok (.bipush 17, 2) := by decide +kernel
theorem dL_act_607 : decode cL_act 607 = .ok (.iload 5, 2) := by decide +kernel
theorem dL_act_609 : decode cL_act 609 = .ok (.iload 4, 2) := by decide +kernel
theorem dL_act_611 : decode cL_act 611 = .ok (.iconst 2, 1) := by decide +kernel
theorem dL_act_612 : decode cL_act 612 = .ok (.ishr, 1) := by decide +kernel
theorem dL_act_613 : decode cL_act 613 = .ok (.bipush 8, 2) := by decide +kernel
theorem dL_act_615 : decode cL_act 615 = .ok (.invokestatic 85, 3) := by decide +kernel
theorem dL_act_618 : decode cL_act 618 = .ok (.iload 6, 2) := by decide +kernel
theorem dL_act_620 : decode cL_act 620 = .ok (.iload 4, 2) := by decide +kernel
theorem dL_act_622 : decode cL_act 622 = .ok (.iconst 5, 1) := by decide +kernel
theorem dL_act_623 : decode cL_act 623 = .ok (.ishr, 1) := by decide +kernel
theorem dL_act_624 : decode cL_act 624 = .ok (.bipush 16, 2) := by decide +kernel
theorem dL_act_626 : decode cL_act 626 = .ok (.invokestatic 85, 3) := by decide +kernel
theorem dL_act_629 : decode cL_act 629 = .ok (.invokestatic 88, 3) := by decide +kernel
theorem dL_act_632 : decode cL_act 632 = .ok (.goto 34, 3) := by decide +kernel
theorem dL_act_635 : decode cL_act 635 = .ok (.aload_n 0, 1) := by decide +kernel
theorem dL_act_636 : decode cL_act 636 = .ok (.bipush 10, 2) := by decide +kernel
theorem dL_act_638 : decode cL_act 638 = .ok (.iload_n 2, 1) := by decide +kernel
theorem dL_act_639 : decode cL_act 639 = .ok (.ifCond .eq 13, 3) := by decide +kernel
theorem dL_act_642 : decode cL_act 642 = .ok (.iload 4, 2) := by decide +kernel
theorem dL_act_644 : decode cL_act 644 = .ok (.bipush 70, 2) := by decide +kernel
theorem dL_act_646 : decode cL_act 646 = .ok (.invokestatic 85, 3) := by decide +kernel
theorem dL_act_649 : decode cL_act 649 = .ok (.goto 11, 3) := by decide +kernel
theorem dL_act_652 : decode cL_act 652 = .ok (.iconst 1, 1) := by decide +kernel
theorem dL_act_653 : decode cL_act 653 = .ok (.iload 4, 2) := by decide +kernel
theorem dL_act_655 : decode cL_act 655 = .ok (.iconst 2, 1) := by decide +kernel
theorem dL_act_656 : decode cL_act 656 = .ok (.invokestatic 85, 3) := by decide +kernel
theorem dL_act_659 : decode cL_act 659 = .ok (.iadd, 1) := by decide +kernel
theorem dL_act_660 : decode cL_act 660 = .ok (.iconst 0, 1) := by decide +kernel
theorem dL_act_661 : decode cL_act 661 = .ok (.iconst 0, 1) := by decide +kernel
theorem dL_act_662 : decode cL_act 662 = .ok (.iconst 0, 1) := by decide +kernel
theorem dL_act_663 : decode cL_act 663 = .ok (.invokestatic 88, 3) := by decide +kernel
theorem dL_act_666 : decode cL_act 666 = .ok (.ireturn, 1) := by decide +kernel
