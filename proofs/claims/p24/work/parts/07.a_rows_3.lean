theorem dL_isInOrder_0 : decode cL_isInOrder 0 = .ok (.aload_n 0, 1) := by decide +kernel
theorem dL_isInOrder_1 : decode cL_isInOrder 1 = .ok (.invokevirtual 98, 3) := by decide +kernel
theorem dL_isInOrder_4 : decode cL_isInOrder 4 = .ok (.ifCond .ne 7, 3) := by decide +kernel
theorem dL_isInOrder_7 : decode cL_isInOrder 7 = .ok (.iconst 1, 1) := by decide +kernel
theorem dL_isInOrder_8 : decode cL_isInOrder 8 = .ok (.goto 4, 3) := by decide +kernel
theorem dL_isInOrder_11 : decode cL_isInOrder 11 = .ok (.iconst 0, 1) := by decide +kernel
theorem dL_isInOrder_12 : decode cL_isInOrder 12 = .ok (.istore_n 2, 1) := by decide +kernel
theorem dL_isInOrder_13 : decode cL_isInOrder 13 = .ok (.iconst 0, 1) := by decide +kernel
theorem dL_isInOrder_14 : decode cL_isInOrder 14 = .ok (.istore_n 3, 1) := by decide +kernel
theorem dL_isInOrder_15 : decode cL_isInOrder 15 = .ok (.iload_n 3, 1) := by decide +kernel
theorem dL_isInOrder_16 : decode cL_isInOrder 16 = .ok (.bipush 24, 2) := by decide +kernel
theorem dL_isInOrder_18 : decode cL_isInOrder 18 = .ok (.if_icmp .ge 287, 3) := by decide +kernel
theorem dL_isInOrder_21 : decode cL_isInOrder 21 = .ok (.iload_n 2, 1) := by decide +kernel
theorem dL_isInOrder_22 : decode cL_isInOrder 22 = .ok (.ifCond .eq 283, 3) := by decide +kernel
theorem dL_isInOrder_25 : decode cL_isInOrder 25 = .ok (.aload_n 0, 1) := by decide +kernel
theorem dL_isInOrder_26 : decode cL_isInOrder 26 = .ok (.bipush 12, 2) := by decide +kernel
theorem dL_isInOrder_28 : decode cL_isInOrder 28 = .ok (.iload_n 3, 1) := by decide +kernel
theorem dL_isInOrder_29 : decode cL_isInOrder 29 = .ok (.iconst 0, 1) := by decide +kernel
theorem dL_isInOrder_30 : decode cL_isInOrder 30 = .ok (.iconst 0, 1) := by decide +kernel
theorem dL_isInOrder_31 : decode cL_isInOrder 31 = .ok (.iconst 0, 1) := by decide +kernel
theorem dL_isInOrder_32 : decode cL_isInOrder 32 = .ok (.invokestatic 88, 3) := by decide +kernel
theorem dL_isInOrder_35 : decode cL_isInOrder 35 = .ok (.istore 4, 2) := by decide +kernel
theorem dL_isInOrder_37 : decode cL_isInOrder 37 = .ok (.iload 4, 2) := by decide +kernel
theorem dL_isInOrder_39 : decode cL_isInOrder 39 = .ok (.ldc 76, 2) := by decide +kernel
theorem dL_isInOrder_41 : decode cL_isInOrder 41 = .ok (.if_icmp .eq 85, 3) := by decide +kernel
theorem dL_isInOrder_44 : decode cL_isInOrder 44 = .ok (.iload 4, 2) := by decide +kernel
theorem dL_isInOrder_46 : decode cL_isInOrder 46 = .ok (.ifCond .ne 7, 3) := by decide +kernel
theorem dL_isInOrder_49 : decode cL_isInOrder 49 = .ok (.lconst 0, 1) := by decide +kernel
theorem dL_isInOrder_50 : decode cL_isInOrder 50 = .ok (.goto 18, 3) := by decide +kernel
theorem dL_isInOrder_53 : decode cL_isInOrder 53 = .ok (.ldc2_w 101, 3) := by decide +kernel
theorem dL_isInOrder_56 : decode cL_isInOrder 56 = .ok (.aload_n 0, 1) := by decide +kernel
theorem dL_isInOrder_57 : decode cL_isInOrder 57 = .ok (.iload_n 3, 1) := by decide +kernel
theorem dL_isInOrder_58 : decode cL_isInOrder 58 = .ok (.iconst 1, 1) := by decide +kernel
theorem dL_isInOrder_59 : decode cL_isInOrder 59 = .ok (.invokevirtual 56, 3) := by decide +kernel
theorem dL_isInOrder_62 : decode cL_isInOrder 62 = .ok (.i2l, 1) := by decide +kernel
theorem dL_isInOrder_63 : decode cL_isInOrder 63 = .ok (.lmul, 1) := by decide +kernel
theorem dL_isInOrder_64 : decode cL_isInOrder 64 = .ok (.iload 4, 2) := by decide +kernel
theorem dL_isInOrder_66 : decode cL_isInOrder 66 = .ok (.i2l, 1) := by decide +kernel
theorem dL_isInOrder_67 : decode cL_isInOrder 67 = .ok (.ldiv, 1) := by decide +kernel
theorem dL_isInOrder_68 : decode cL_isInOrder 68 = .ok (.lstore 5, 2) := by decide +kernel
theorem dL_isInOrder_70 : decode cL_isInOrder 70 = .ok (.iload 4, 2) := by decide +kernel
theorem dL_isInOrder_72 : decode cL_isInOrder 72 = .ok (.ifCond .lt 52, 3) := by decide +kernel
theorem dL_isInOrder_75 : decode cL_isInOrder 75 = .ok (.aload_n 0, 1) := by decide +kernel
theorem dL_isInOrder_76 : decode cL_isInOrder 76 = .ok (.iload_n 3, 1) := by decide +kernel
theorem dL_isInOrder_77 : decode cL_isInOrder 77 = .ok (.iconst 1, 1) := by decide +kernel
theorem dL_isInOrder_78 : decode cL_isInOrder 78 = .ok (.invokevirtual 56, 3) := by decide +kernel
theorem dL_isInOrder_81 : decode cL_isInOrder 81 = .ok (.ifCond .lt 43, 3) := by decide +kernel
theorem dL_isInOrder_84 : decode cL_isInOrder 84 = .ok (.aload_n 0, 1) := by decide +kernel
theorem dL_isInOrder_85 : decode cL_isInOrder 85 = .ok (.iload_n 3, 1) := by decide +kernel
theorem dL_isInOrder_86 : decode cL_isInOrder 86 = .ok (.iconst 2, 1) := by decide +kernel
theorem dL_isInOrder_87 : decode cL_isInOrder 87 = .ok (.invokevirtual 56, 3) := by decide +kernel
theorem dL_isInOrder_90 : decode cL_isInOrder 90 = .ok (.i2l, 1) := by decide +kernel
theorem dL_isInOrder_91 : decode cL_isInOrder 91 = .ok (.lload 5, 2) := by decide +kernel
theorem dL_isInOrder_93 : decode cL_isInOrder 93 = .ok (.lcmp, 1) := by decide +kernel
theorem dL_isInOrder_94 : decode cL_isInOrder 94 = .ok (.ifCond .ne 30, 3) := by decide +kernel
theorem dL_isInOrder_97 : decode cL_isInOrder 97 = .ok (.aload_n 0, 1) := by decide +kernel
theorem dL_isInOrder_98 : decode cL_isInOrder 98 = .ok (.invokevirtual 92, 3) := by decide +kernel
theorem dL_isInOrder_101 : decode cL_isInOrder 101 = .ok (.ifCond .eq 19, 3) := by decide +kernel
theorem dL_isInOrder_104 : decode cL_isInOrder 104 = .ok (.aload_n 0, 1) := by decide +kernel
theorem dL_isInOrder_105 : decode cL_isInOrder 105 = .ok (.iload_n 3, 1) := by decide +kernel
theorem dL_isInOrder_106 : decode cL_isInOrder 106 = .ok (.aload_n 0, 1) := by decide +kernel
theorem dL_isInOrder_107 : decode cL_isInOrder 107 = .ok (.invokevirtual 92, 3) := by decide +kernel
theorem dL_isInOrder_110 : decode cL_isInOrder 110 = .ok (.invokevirtual 65, 3) := by decide +kernel
theorem dL_isInOrder_113 : decode cL_isInOrder 113 = .ok (.i2l, 1) := by decide +kernel
theorem dL_isInOrder_114 : decode cL_isInOrder 114 = .ok (.lload 5, 2) := by decide +kernel
theorem dL_isInOrder_116 : decode cL_isInOrder 116 = .ok (.lcmp, 1) := by decide +kernel
theorem dL_isInOrder_117 : decode cL_isInOrder 117 = .ok (.ifCond .ne 7, 3) := by decide +kernel
theorem dL_isInOrder_120 : decode cL_isInOrder 120 = .ok (.iconst 1, 1) := by decide +kernel
theorem dL_isInOrder_121 : decode cL_isInOrder 121 = .ok (.goto 4, 3) := by decide +kernel
theorem dL_isInOrder_124 : decode cL_isInOrder 124 = .ok (.iconst 0, 1) := by decide +kernel
theorem dL_isInOrder_125 : decode cL_isInOrder 125 = .ok (.istore_n 2, 1) := by decide +kernel
theorem dL_isInOrder_126 : decode cL_isInOrder 126 = .ok (.aload_n 1, 1) := by decide +kernel
theorem dL_isInOrder_127 : decode cL_isInOrder 127 = .ok (.iload_n 3, 1) := by decide +kernel
theorem dL_isInOrder_128 : decode cL_isInOrder 128 = .ok (.iconst 2, 1) := by decide +kernel
theorem dL_isInOrder_129 : decode cL_isInOrder 129 = .ok (.idiv, 1) := by decide +kernel
theorem dL_isInOrder_130 : decode cL_isInOrder 130 = .ok (.iaload, 1) := by decide +kernel
theorem dL_isInOrder_131 : decode cL_isInOrder 131 = .ok (.istore 5, 2) := by decide +kernel
theorem dL_isInOrder_133 : decode cL_isInOrder 133 = .ok (.iload 4, 2) := by decide +kernel
theorem dL_isInOrder_135 : decode cL_isInOrder 135 = .ok (.ldc 76, 2) := by decide +kernel
theorem dL_isInOrder_137 : decode cL_isInOrder 137 = .ok (.if_icmp .eq 162, 3) := by decide +kernel
theorem dL_isInOrder_140 : decode cL_isInOrder 140 = .ok (.iload_n 3, 1) := by decide +kernel
theorem dL_isInOrder_141 : decode cL_isInOrder 141 = .ok (.iconst 2, 1) := by decide +kernel
theorem dL_isInOrder_142 : decode cL_isInOrder 142 = .ok (.irem, 1) := by decide +kernel
theorem dL_isInOrder_143 : decode cL_isInOrder 143 = .ok (.iconst 1, 1) := by decide +kernel
theorem dL_isInOrder_144 : decode cL_isInOrder 144 = .ok (.if_icmp .ne 155, 3) := by decide +kernel
theorem dL_isInOrder_147 : decode cL_isInOrder 147 = .ok (.iload_n 2, 1) := by decide +kernel
theorem dL_isInOrder_148 : decode cL_isInOrder 148 = .ok (.ifCond .eq 151, 3) := by decide +kernel
theorem dL_isInOrder_151 : decode cL_isInOrder 151 = .ok (.aload_n 0, 1) := by decide +kernel
theorem dL_isInOrder_152 : decode cL_isInOrder 152 = .ok (.iload_n 3, 1) := by decide +kernel
theorem dL_isInOrder_153 : decode cL_isInOrder 153 = .ok (.iconst 2, 1) := by decide +kernel
theorem dL_isInOrder_154 : decode cL_isInOrder 154 = .ok (.idiv, 1) := by decide +kernel
theorem dL_isInOrder_155 : decode cL_isInOrder 155 = .ok (.iconst 0, 1) := by decide +kernel
theorem dL_isInOrder_156 : decode cL_isInOrder 156 = .ok (.invokevirtual 59, 3) := by decide +kernel
theorem dL_isInOrder_159 : decode cL_isInOrder 159 = .ok (.istore 6, 2) := by decide +kernel
theorem dL_isInOrder_161 : decode cL_isInOrder 161 = .ok (.iload 5, 2) := by decide +kernel
theorem dL_isInOrder_163 : decode cL_isInOrder 163 = .ok (.iconst 2, 1) := by decide +kernel
theorem dL_isInOrder_164 : decode cL_isInOrder 164 = .ok (.if_icmp .eq 49, 3) := by decide +kernel
theorem dL_isInOrder_167 : decode cL_isInOrder 167 = .ok (.iload 6, 2) := by decide +kernel
theorem dL_isInOrder_169 : decode cL_isInOrder 169 = .ok (.ifCond .lt 48, 3) := by decide +kernel
theorem dL_isInOrder_172 : decode cL_isInOrder 172 = .ok (.iload 6, 2) := by decide +kernel
theorem dL_isInOrder_174 : decode cL_isInOrder 174 = .ok (.iload 5, 2) := by decide +kernel
theorem dL_isInOrder_176 : decode cL_isInOrder 176 = .ok (.ifCond .ne 9, 3) := by decide +kernel
theorem dL_isInOrder_179 : decode cL_isInOrder 179 = .ok (.sipush 999, 3) := by decide +kernel
theorem dL_isInOrder_182 : decode cL_isInOrder 182 = .ok (.goto 28, 3) := by decide +kernel
theorem dL_isInOrder_185 : decode cL_isInOrder 185 = .ok (.iload 5, 2) := by decide +kernel
theorem dL_isInOrder_187 : decode cL_isInOrder 187 = .ok (.iconst 1, 1) := by decide +kernel
theorem dL_isInOrder_188 : decode cL_isInOrder 188 = .ok (.if_icmp .ne 8, 3) := by decide +kernel
theorem dL_isInOrder_191 : decode cL_isInOrder 191 = .ok (.bipush 100, 2) := by decide +kernel
theorem dL_isInOrder_193 : decode cL_isInOrder 193 = .ok (.goto 17, 3) := by decide +kernel
theorem dL_isInOrder_196 : decode cL_isInOrder 196 = .ok (.iload 5, 2) := by decide +kernel
theorem dL_isInOrder_198 : decode cL_isInOrder 198 = .ok (.iconst 3, 1) := by decide +kernel
theorem dL_isInOrder_199 : decode cL_isInOrder 199 = .ok (.if_icmp .ne 9, 3) := by decide +kernel
theorem dL_isInOrder_202 : decode cL_isInOrder 202 = .ok (.sipush 9999, 3) := by decide +kernel
theorem dL_isInOrder_205 : decode cL_isInOrder 205 = .ok (.goto 5, 3) := by decide +kernel
theorem dL_isInOrder_208 : decode cL_isInOrder 208 = .ok (.ldc 103, 2) := by decide +kernel
theorem dL_isInOrder_210 : decode cL_isInOrder 210 = .ok (.if_icmp .gt 7, 3) := by decide +kernel
theorem dL_isInOrder_213 : decode cL_isInOrder 213 = .ok (.iconst 1, 1) := by decide +kernel
theorem dL_isInOrder_214 : decode cL_isInOrder 214 = .ok (.goto 4, 3) := by decide +kernel
theorem dL_isInOrder_217 : decode cL_isInOrder 217 = .ok (.iconst 0, 1) := by decide +kernel
theorem dL_isInOrder_218 : decode cL_isInOrder 218 = .ok (.istore_n 2, 1) := by decide +kernel
theorem dL_isInOrder_219 : decode cL_isInOrder 219 = .ok (.iload_n 2, 1) := by decide +kernel
theorem dL_isInOrder_220 : decode cL_isInOrder 220 = .ok (.ifCond .eq 77, 3) := by decide +kernel
theorem dL_isInOrder_223 : decode cL_isInOrder 223 = .ok (.iload 5, 2) := by decide +kernel
theorem dL_isInOrder_225 : decode cL_isInOrder 225 = .ok (.iconst 3, 1) := by decide +kernel
theorem dL_isInOrder_226 : decode cL_isInOrder 226 = .ok (.if_icmp .eq 27, 3) := by decide +kernel
theorem dL_isInOrder_229 : decode cL_isInOrder 229 = .ok (.iload 5, 2) := by decide +kernel
theorem dL_isInOrder_231 : decode cL_isInOrder 231 = .ok (.iconst 1, 1) := by decide +kernel
theorem dL_isInOrder_232 : decode cL_isInOrder 232 = .ok (.if_icmp .eq 21, 3) := by decide +kernel
theorem dL_isInOrder_235 : decode cL_isInOrder 235 = .ok (.aload_n 0, 1) := by decide +kernel
theorem dL_isInOrder_236 : decode cL_isInOrder 236 = .ok (.iload_n 3, 1) := by decide +kernel
theorem dL_isInOrder_237 : decode cL_isInOrder 237 = .ok (.iconst 0, 1) := by decide +kernel
theorem dL_isInOrder_238 : decode cL_isInOrder 238 = .ok (.invokevirtual 56, 3) := by decide +kernel
theorem dL_isInOrder_241 : decode cL_isInOrder 241 = .ok (.ifCond .ne 56, 3) := by decide +kernel
theorem dL_isInOrder_244 : decode cL_isInOrder 244 = .ok (.aload_n 0, 1) := by decide +kernel
theorem dL_isInOrder_245 : decode cL_isInOrder 245 = .ok (.iload_n 3, 1) := by decide +kernel
theorem dL_isInOrder_246 : decode cL_isInOrder 246 = .ok (.iconst 1, 1) := by decide +kernel
theorem dL_isInOrder_247 : decode cL_isInOrder 247 = .ok (.invokevirtual 56, 3) := by decide +kernel
theorem dL_isInOrder_250 : decode cL_isInOrder 250 = .ok (.ifCond .ne 47, 3) := by decide +kernel
theorem dL_isInOrder_253 : decode cL_isInOrder 253 = .ok (.iload 5, 2) := by decide +kernel
theorem dL_isInOrder_255 : decode cL_isInOrder 255 = .ok (.iconst 3, 1) := by decide +kernel
theorem dL_isInOrder_256 : decode cL_isInOrder 256 = .ok (.if_icmp .eq 20, 3) := by decide +kernel
theorem dL_isInOrder_259 : decode cL_isInOrder 259 = .ok (.iload 5, 2) := by decide +kernel
theorem dL_isInOrder_261 : decode cL_isInOrder 261 = .ok (.iconst 4, 1) := by decide +kernel
theorem dL_isInOrder_262 : decode cL_isInOrder 262 = .ok (.if_icmp .eq 14, 3) := by decide +kernel
theorem dL_isInOrder_265 : decode cL_isInOrder 265 = .ok (.aload_n 0, 1) := by decide +kernel
theorem dL_isInOrder_266 : decode cL_isInOrder 266 = .ok (.iload_n 3, 1) := by decide +kernel
theorem dL_isInOrder_267 : decode cL_isInOrder 267 = .ok (.iconst 2, 1) := by decide +kernel
theorem dL_isInOrder_268 : decode cL_isInOrder 268 = .ok (.idiv, 1) := by decide +kernel
theorem dL_isInOrder_269 : decode cL_isInOrder 269 = .ok (.iconst 1, 1) := by decide +kernel
theorem dL_isInOrder_270 : decode cL_isInOrder 270 = .ok (.invokevirtual 59, 3) := by decide +kernel
theorem dL_isInOrder_273 : decode cL_isInOrder 273 = .ok (.ifCond .ne 24, 3) := by decide +kernel
theorem dL_isInOrder_276 : decode cL_isInOrder 276 = .ok (.iload 5, 2) := by decide +kernel
theorem dL_isInOrder_278 : decode cL_isInOrder 278 = .ok (.iconst 4, 1) := by decide +kernel
theorem dL_isInOrder_279 : decode cL_isInOrder 279 = .ok (.if_icmp .ne 14, 3) := by decide +kernel
theorem dL_isInOrder_282 : decode cL_isInOrder 282 = .ok (.aload_n 0, 1) := by decide +kernel
theorem dL_isInOrder_283 : decode cL_isInOrder 283 = .ok (.iload_n 3, 1) := by decide +kernel
theorem dL_isInOrder_284 : decode cL_isInOrder 284 = .ok (.iconst 2, 1) := by decide +kernel
theorem dL_isInOrder_285 : decode cL_isInOrder 285 = .ok (.idiv, 1) := by decide +kernel
theorem dL_isInOrder_286 : decode cL_isInOrder 286 = .ok (.iconst 1, 1) := by decide +kernel
theorem dL_isInOrder_287 : decode cL_isInOrder 287 = .ok (.invokevirtual 59, 3) := by decide +kernel
theorem dL_isInOrder_290 : decode cL_isInOrder 290 = .ok (.ifCond .lt 7, 3) := by decide +kernel
theorem dL_isInOrder_293 : decode cL_isInOrder 293 = .ok (.iconst 1, 1) := by decide +kernel
theorem dL_isInOrder_294 : decode cL_isInOrder 294 = .ok (.goto 4, 3) := by decide +kernel
theorem dL_isInOrder_297 : decode cL_isInOrder 297 = .ok (.iconst 0, 1) := by decide +kernel
theorem dL_isInOrder_298 : decode cL_isInOrder 298 = .ok (.istore_n 2, 1) := by decide +kernel
theorem dL_isInOrder_299 : decode cL_isInOrder 299 = .ok (.iinc 3 1, 3) := by decide +kernel
theorem dL_isInOrder_302 : decode cL_isInOrder 302 = .ok (.goto (-287), 3) := by decide +kernel
theorem dL_isInOrder_305 : decode cL_isInOrder 305 = .ok (.iconst 0, 1) := by decide +kernel
theorem dL_isInOrder_306 : decode cL_isInOrder 306 = .ok (.istore_n 3, 1) := by decide +kernel
theorem dL_isInOrder_307 : decode cL_isInOrder 307 = .ok (.iload_n 3, 1) := by decide +kernel
theorem dL_isInOrder_308 : decode cL_isInOrder 308 = .ok (.bipush 6, 2) := by decide +kernel
theorem dL_isInOrder_310 : decode cL_isInOrder 310 = .ok (.if_icmp .ge 73, 3) := by decide +kernel
theorem dL_isInOrder_313 : decode cL_isInOrder 313 = .ok (.iload_n 2, 1) := by decide +kernel
theorem dL_isInOrder_314 : decode cL_isInOrder 314 = .ok (.ifCond .eq 69, 3) := by decide +kernel
theorem dL_isInOrder_317 : decode cL_isInOrder 317 = .ok (.aload_n 0, 1) := by decide +kernel
theorem dL_isInOrder_318 : decode cL_isInOrder 318 = .ok (.bipush 14, 2) := by decide +kernel
theorem dL_isInOrder_320 : decode cL_isInOrder 320 = .ok (.iload_n 3, 1) := by decide +kernel
theorem dL_isInOrder_321 : decode cL_isInOrder 321 = .ok (.iconst 1, 1) := by decide +kernel
theorem dL_isInOrder_322 : decode cL_isInOrder 322 = .ok (.iconst 0, 1) := by decide +kernel
theorem dL_isInOrder_323 : decode cL_isInOrder 323 = .ok (.iconst 0, 1) := by decide +kernel
theorem dL_isInOrder_324 : decode cL_isInOrder 324 = .ok (.invokestatic 88, 3) := by decide +kernel
theorem dL_isInOrder_327 : decode cL_isInOrder 327 = .ok (.istore 4, 2) := by decide +kernel
theorem dL_isInOrder_329 : decode cL_isInOrder 329 = .ok (.iload 4, 2) := by decide +kernel
theorem dL_isInOrder_331 : decode cL_isInOrder 331 = .ok (.ldc 76, 2) := by decide +kernel
theorem dL_isInOrder_333 : decode cL_isInOrder 333 = .ok (.if_icmp .eq 38, 3) := by decide +kernel
theorem dL_isInOrder_336 : decode cL_isInOrder 336 = .ok (.iload 4, 2) := by decide +kernel
theorem dL_isInOrder_338 : decode cL_isInOrder 338 = .ok (.ldc 104, 2) := by decide +kernel
theorem dL_isInOrder_340 : decode cL_isInOrder 340 = .ok (.if_icmp .lt 35, 3) := by decide +kernel
theorem dL_isInOrder_343 : decode cL_isInOrder 343 = .ok (.iload 4, 2) := by decide +kernel
theorem dL_isInOrder_345 : decode cL_isInOrder 345 = .ok (.ldc 105, 2) := by decide +kernel
theorem dL_isInOrder_347 : decode cL_isInOrder 347 = .ok (.if_icmp .gt 28, 3) := by decide +kernel
theorem dL_isInOrder_350 : decode cL_isInOrder 350 = .ok (.aload_n 0, 1) := by decide +kernel
theorem dL_isInOrder_351 : decode cL_isInOrder 351 = .ok (.iload_n 3, 1) := by decide +kernel
theorem dL_isInOrder_352 : decode cL_isInOrder 352 = .ok (.iconst 0, 1) := by decide +kernel
theorem dL_isInOrder_353 : decode cL_isInOrder 353 = .ok (.invokevirtual 62, 3) := by decide +kernel
theorem dL_isInOrder_356 : decode cL_isInOrder 356 = .ok (.ifCond .lt 19, 3) := by decide +kernel
theorem dL_isInOrder_359 : decode cL_isInOrder 359 = .ok (.aload_n 0, 1) := by decide +kernel
theorem dL_isInOrder_360 : decode cL_isInOrder 360 = .ok (.iload_n 3, 1) := by decide +kernel
theorem dL_isInOrder_361 : decode cL_isInOrder 361 = .ok (.iconst 0, 1) := by decide +kernel
theorem dL_isInOrder_362 : decode cL_isInOrder 362 = .ok (.invokevirtual 62, 3) := by decide +kernel
theorem dL_isInOrder_365 : decode cL_isInOrder 365 = .ok (.sipush 3000, 3) := by decide +kernel
theorem dL_isInOrder_368 : decode cL_isInOrder 368 = .ok (.if_icmp .gt 7, 3) := by decide +kernel
theorem dL_isInOrder_371 : decode cL_isInOrder 371 = .ok (.iconst 1, 1) := by decide +kernel
theorem dL_isInOrder_372 : decode cL_isInOrder 372 = .ok (.goto 4, 3) := by decide +kernel
theorem dL_isInOrder_375 : decode cL_isInOrder 375 = .ok (.iconst 0, 1) := by decide +kernel
theorem dL_isInOrder_376 : decode cL_isInOrder 376 = .ok (.istore_n 2, 1) := by decide +kernel
theorem dL_isInOrder_377 : decode cL_isInOrder 377 = .ok (.iinc 3 1, 3) := by decide +kernel
theorem dL_isInOrder_380 : decode cL_isInOrder 380 = .ok (.goto (-73), 3) := by decide +kernel
theorem dL_isInOrder_383 : decode cL_isInOrder 383 = .ok (.iload_n 2, 1) := by decide +kernel
theorem dL_isInOrder_384 : decode cL_isInOrder 384 = .ok (.ireturn, 1) := by decide +kernel
theorem dL_law_0 : decode cL_law 0 = .ok (.new 9, 3) := by decide +kernel
theorem dL_law_3 : decode cL_law 3 = .ok (.dup, 1) := by decide +kernel
theorem dL_law_4 : decode cL_law 4 = .ok (.invokespecial 107, 3) := by decide +kernel
theorem dL_law_7 : decode cL_law 7 = .ok (.astore_n 1, 1) := by decide +kernel
theorem dL_law_8 : decode cL_law 8 = .ok (.new 9, 3) := by decide +kernel
theorem dL_law_11 : decode cL_law 11 = .ok (.dup, 1) := by decide +kernel
theorem dL_law_12 : decode cL_law 12 = .ok (.invokespecial 107, 3) := by decide +kernel
theorem dL_law_15 : decode cL_law 15 = .ok (.astore_n 2, 1) := by decide +kernel
theorem dL_law_16 : decode cL_law 16 = .ok (.bipush 12, 2) := by decide +kernel
theorem dL_law_18 : decode cL_law 18 = .ok (.newarray .int, 2) := by decide +kernel
theorem dL_law_20 : decode cL_law 20 = .ok (.astore_n 3, 1) := by decide +kernel
theorem dL_law_21 : decode cL_law 21 = .ok (.iconst 1, 1) := by decide +kernel
theorem dL_law_22 : decode cL_law 22 = .ok (.istore 4, 2) := by decide +kernel
theorem dL_law_24 : decode cL_law 24 = .ok (.iconst 0, 1) := by decide +kernel
theorem dL_law_25 : decode cL_law 25 = .ok (.istore 5, 2) := by decide +kernel
theorem dL_law_27 : decode cL_law 27 = .ok (.iconst 0, 1) := by decide +kernel
theorem dL_law_28 : decode cL_law 28 = .ok (.istore 6, 2) := by decide +kernel
theorem dL_law_30 : decode cL_law 30 = .ok (.iload 6, 2) := by decide +kernel
theorem dL_law_32 : decode cL_law 32 = .ok (.bipush 20, 2) := by decide +kernel
theorem dL_law_34 : decode cL_law 34 = .ok (.if_icmp .ge 250, 3) := by decide +kernel
theorem dL_law_37 : decode cL_law 37 = .ok (.iload 4, 2) := by decide +kernel
theorem dL_law_39 : decode cL_law 39 = .ok (.ifCond .eq 245, 3) := by decide +kernel
theorem dL_law_42 : decode cL_law 42 = .ok (.iload 5, 2) := by decide +kernel
theorem dL_law_44 : decode cL_law 44 = .ok (.bipush 9, 2) := by decide +kernel
theorem dL_law_46 : decode cL_law 46 = .ok (.if_icmp .ge 238, 3) := by decide +kernel
theorem dL_law_49 : decode cL_law 49 = .ok (.aload_n 0, 1) := by decide +kernel
theorem dL_law_50 : decode cL_law 50 = .ok (.iload 6, 2) := by decide +kernel
theorem dL_law_52 : decode cL_law 52 = .ok (.invokestatic 108, 3) := by decide +kernel
theorem dL_law_55 : decode cL_law 55 = .ok (.iconst 2, 1) := by decide +kernel
theorem dL_law_56 : decode cL_law 56 = .ok (.ishr, 1) := by decide +kernel
theorem dL_law_57 : decode cL_law 57 = .ok (.istore 7, 2) := by decide +kernel
theorem dL_law_59 : decode cL_law 59 = .ok (.iload 6, 2) := by decide +kernel
theorem dL_law_61 : decode cL_law 61 = .ok (.iconst 2, 1) := by decide +kernel
theorem dL_law_62 : decode cL_law 62 = .ok (.if_icmp .ge 7, 3) := by decide +kernel
theorem dL_law_65 : decode cL_law 65 = .ok (.iconst 0, 1) := by decide +kernel
theorem dL_law_66 : decode cL_law 66 = .ok (.goto 28, 3) := by decide +kernel
theorem dL_law_69 : decode cL_law 69 = .ok (.iload 7, 2) := by decide +kernel
theorem dL_law_71 : decode cL_law 71 = .ok (.bipush 6, 2) := by decide +kernel
theorem dL_law_73 : decode cL_law 73 = .ok (.invokestatic 85, 3) := by decide +kernel
theorem dL_law_76 : decode cL_law 76 = .ok (.iload 7, 2) := by decide +kernel
theorem dL_law_78 : decode cL_law 78 = .ok (.bipush 6, 2) := by decide +kernel
theorem dL_law_80 : decode cL_law 80 = .ok (.invokestatic 85, 3) := by decide +kernel
theorem dL_law_83 : decode cL_law 83 = .ok (.iconst 5, 1) := by decide +kernel
theorem dL_law_84 : decode cL_law 84 = .ok (.if_icmp .ne 8, 3) := by decide +kernel
theorem dL_law_87 : decode cL_law 87 = .ok (.bipush 6, 2) := by decide +kernel
theorem dL_law_89 : decode cL_law 89 = .ok (.goto 4, 3) := by decide +kernel
theorem dL_law_92 : decode cL_law 92 = .ok (.iconst 0, 1) := by decide +kernel
theorem dL_law_93 : decode cL_law 93 = .ok (.isub, 1) := by decide +kernel
theorem dL_law_94 : decode cL_law 94 = .ok (.istore 8, 2) := by decide +kernel
theorem dL_law_96 : decode cL_law 96 = .ok (.iload 7, 2) := by decide +kernel
theorem dL_law_98 : decode cL_law 98 = .ok (.bipush 7, 2) := by decide +kernel
theorem dL_law_100 : decode cL_law 100 = .ok (.ishr, 1) := by decide +kernel
theorem dL_law_101 : decode cL_law 101 = .ok (.iload 8, 2) := by decide +kernel
theorem dL_law_103 : decode cL_law 103 = .ok (.iconst 1, 1) := by decide +kernel
theorem dL_law_104 : decode cL_law 104 = .ok (.if_icmp .ne 8, 3) := by decide +kernel
theorem dL_law_107 : decode cL_law 107 = .ok (.bipush 101, 2) := by decide +kernel
theorem dL_law_109 : decode cL_law 109 = .ok (.goto 28, 3) := by decide +kernel
theorem dL_law_112 : decode cL_law 112 = .ok (.iload 8, 2) := by decide +kernel
theorem dL_law_114 : decode cL_law 114 = .ok (.iconst 3, 1) := by decide +kernel
theorem dL_law_115 : decode cL_law 115 = .ok (.if_icmp .ne 8, 3) := by decide +kernel
theorem dL_law_118 : decode cL_law 118 = .ok (.bipush 60, 2) := by decide +kernel
theorem dL_law_120 : decode cL_law 120 = .ok (.goto 17, 3) := by decide +kernel
theorem dL_law_123 : decode cL_law 123 = .ok (.iload 8, 2) := by decide +kernel
theorem dL_law_125 : decode cL_law 125 = .ok (.iconst 4, 1) := by decide +kernel
theorem dL_law_126 : decode cL_law 126 = .ok (.if_icmp .ne 9, 3) := by decide +kernel
theorem dL_law_129 : decode cL_law 129 = .ok (.sipush 3000, 3) := by decide +kernel
theorem dL_law_132 : decode cL_law 132 = .ok (.goto 5, 3) := by decide +kernel
theorem dL_law_135 : decode cL_law 135 = .ok (.bipush 50, 2) := by decide +kernel
theorem dL_law_137 : decode cL_law 137 = .ok (.invokestatic 85, 3) := by decide +kernel
theorem dL_law_140 : decode cL_law 140 = .ok (.istore 9, 2) := by decide +kernel
theorem dL_law_142 : decode cL_law 142 = .ok (.iload 8, 2) := by decide +kernel
theorem dL_law_144 : decode cL_law 144 = .ok (.ifCond .ne 25, 3) := by decide +kernel
theorem dL_law_147 : decode cL_law 147 = .ok (.aload_n 1, 1) := by decide +kernel
theorem dL_law_148 : decode cL_law 148 = .ok (.iconst 0, 1) := by decide +kernel
theorem dL_law_149 : decode cL_law 149 = .ok (.iload 9, 2) := by decide +kernel
theorem dL_law_151 : decode cL_law 151 = .ok (.iload 7, 2) := by decide +kernel
theorem dL_law_153 : decode cL_law 153 = .ok (.iconst 4, 1) := by decide +kernel
theorem dL_law_154 : decode cL_law 154 = .ok (.ishr, 1) := by decide +kernel
theorem dL_law_155 : decode cL_law 155 = .ok (.sipush 310, 3) := by decide +kernel
theorem dL_law_158 : decode cL_law 158 = .ok (.invokestatic 85, 3) := by decide +kernel
theorem dL_law_161 : decode cL_law 161 = .ok (.iconst 0, 1) := by decide +kernel
theorem dL_law_162 : decode cL_law 162 = .ok (.iconst 0, 1) := by decide +kernel
theorem dL_law_163 : decode cL_law 163 = .ok (.invokestatic 88, 3) := by decide +kernel
theorem dL_law_166 : decode cL_law 166 = .ok (.goto 30, 3) := by decide +kernel
theorem dL_law_169 : decode cL_law 169 = .ok (.aload_n 1, 1) := by decide +kernel
theorem dL_law_170 : decode cL_law 170 = .ok (.iconst 1, 1) := by decide +kernel
theorem dL_law_171 : decode cL_law 171 = .ok (.iload 8, 2) := by decide +kernel
theorem dL_law_173 : decode cL_law 173 = .ok (.iload 7, 2) := by decide +kernel
theorem dL_law_175 : decode cL_law 175 = .ok (.iconst 3, 1) := by decide +kernel
theorem dL_law_176 : decode cL_law 176 = .ok (.ishr, 1) := by decide +kernel
theorem dL_law_177 : decode cL_law 177 = .ok (.bipush 18, 2) := by decide +kernel
theorem dL_law_179 : decode cL_law 179 = .ok (.invokestatic 85, 3) := by decide +kernel
theorem dL_law_182 : decode cL_law 182 = .ok (.iload 7, 2) := by decide +kernel
theorem dL_law_184 : decode cL_law 184 = .ok (.iconst 5, 1) := by decide +kernel
theorem dL_law_185 : decode cL_law 185 = .ok (.ishr, 1) := by decide +kernel
theorem dL_law_186 : decode cL_law 186 = .ok (.bipush 18, 2) := by decide +kernel
theorem dL_law_188 : decode cL_law 188 = .ok (.invokestatic 85, 3) := by decide +kernel
theorem dL_law_191 : decode cL_law 191 = .ok (.iload 9, 2) := by decide +kernel
theorem dL_law_193 : decode cL_law 193 = .ok (.invokestatic 88, 3) := by decide +kernel
theorem dL_law_196 : decode cL_law 196 = .ok (.istore 10, 2) := by decide +kernel
theorem dL_law_198 : decode cL_law 198 = .ok (.iload 8, 2) := by decide +kernel
theorem dL_law_200 : decode cL_law 200 = .ok (.ifCond .ne 25, 3) := by decide +kernel
theorem dL_law_203 : decode cL_law 203 = .ok (.aload_n 2, 1) := by decide +kernel
theorem dL_law_204 : decode cL_law 204 = .ok (.iconst 0, 1) := by decide +kernel
theorem dL_law_205 : decode cL_law 205 = .ok (.iload 9, 2) := by decide +kernel
theorem dL_law_207 : decode cL_law 207 = .ok (.iload 7, 2) := by decide +kernel
theorem dL_law_209 : decode cL_law 209 = .ok (.iconst 4, 1) := by decide +kernel
theorem dL_law_210 : decode cL_law 210 = .ok (.ishr, 1) := by decide +kernel
theorem dL_law_211 : decode cL_law 211 = .ok (.sipush 310, 3) := by decide +kernel
theorem dL_law_214 : decode cL_law 214 = .ok (.invokestatic 85, 3) := by decide +kernel
theorem dL_law_217 : decode cL_law 217 = .ok (.iconst 0, 1) := by decide +kernel
theorem dL_law_218 : decode cL_law 218 = .ok (.iconst 0, 1) := by decide +kernel
theorem dL_law_219 : decode cL_law 219 = .ok (.invokestatic 88, 3) := by decide +kernel
theorem dL_law_222 : decode cL_law 222 = .ok (.goto 30, 3) := by decide +kernel
theorem dL_law_225 : decode cL_law 225 = .ok (.aload_n 2, 1) := by decide +kernel
theorem dL_law_226 : decode cL_law 226 = .ok (.iconst 1, 1) := by decide +kernel
theorem dL_law_227 : decode cL_law 227 = .ok (.iload 8, 2) := by decide +kernel
theorem dL_law_229 : decode cL_law 229 = .ok (.iload 7, 2) := by decide +kernel
theorem dL_law_231 : decode cL_law 231 = .ok (.iconst 3, 1) := by decide +kernel
theorem dL_law_232 : decode cL_law 232 = .ok (.ishr, 1) := by decide +kernel
theorem dL_law_233 : decode cL_law 233 = .ok (.bipush 18, 2) := by decide +kernel
theorem dL_law_235 : decode cL_law 235 = .ok (.invokestatic 85, 3) := by decide +kernel
theorem dL_law_238 : decode cL_law 238 = .ok (.iload 7, 2) := by decide +kernel
theorem dL_law_240 : decode cL_law 240 = .ok (.iconst 5, 1) := by decide +kernel
theorem dL_law_241 : decode cL_law 241 = .ok (.ishr, 1) := by decide +kernel
theorem dL_law_242 : decode cL_law 242 = .ok (.bipush 18, 2) := by decide +kernel
theorem dL_law_244 : decode cL_law 244 = .ok (.invokestatic 85, 3) := by decide +kernel
theorem dL_law_247 : decode cL_law 247 = .ok (.iload 9, 2) := by decide +kernel
theorem dL_law_249 : decode cL_law 249 = .ok (.invokestatic 88, 3) := by decide +kernel
theorem dL_law_252 : decode cL_law 252 = .ok (.iload 10, 2) := by decide +kernel
theorem dL_law_254 : decode cL_law 254 = .ok (.if_icmp .ne 7, 3) := by decide +kernel
theorem dL_law_257 : decode cL_law 257 = .ok (.iconst 1, 1) := by decide +kernel
theorem dL_law_258 : decode cL_law 258 = .ok (.goto 4, 3) := by decide +kernel
theorem dL_law_261 : decode cL_law 261 = .ok (.iconst 0, 1) := by decide +kernel
theorem dL_law_262 : decode cL_law 262 = .ok (.istore 4, 2) := by decide +kernel
theorem dL_law_264 : decode cL_law 264 = .ok (.iload 10, 2) := by decide +kernel
theorem dL_law_266 : decode cL_law 266 = .ok (.ifCond .lt 12, 3) := by decide +kernel
theorem dL_law_269 : decode cL_law 269 = .ok (.aload_n 3, 1) := by decide +kernel
theorem dL_law_270 : decode cL_law 270 = .ok (.iload 10, 2) := by decide +kernel
theorem dL_law_272 : decode cL_law 272 = .ok (.iload 8, 2) := by decide +kernel
theorem dL_law_274 : decode cL_law 274 = .ok (.iastore, 1) := by decide +kernel
theorem dL_law_275 : decode cL_law 275 = .ok (.iinc 5 1, 3) := by decide +kernel
theorem dL_law_278 : decode cL_law 278 = .ok (.iinc 6 1, 3) := by decide +kernel
theorem dL_law_281 : decode cL_law 281 = .ok (.goto (-251), 3) := by decide +kernel
theorem dL_law_284 : decode cL_law 284 = .ok (.iconst 0, 1) := by decide +kernel
theorem dL_law_285 : decode cL_law 285 = .ok (.istore 6, 2) := by decide +kernel
theorem dL_law_287 : decode cL_law 287 = .ok (.iload 6, 2) := by decide +kernel
theorem dL_law_289 : decode cL_law 289 = .ok (.iconst 3, 1) := by decide +kernel
theorem dL_law_290 : decode cL_law 290 = .ok (.if_icmp .ge 94, 3) := by decide +kernel
theorem dL_law_293 : decode cL_law 293 = .ok (.iload 4, 2) := by decide +kernel
theorem dL_law_295 : decode cL_law 295 = .ok (.ifCond .eq 89, 3) := by decide +kernel
theorem dL_law_298 : decode cL_law 298 = .ok (.aload_n 0, 1) := by decide +kernel
theorem dL_law_299 : decode cL_law 299 = .ok (.bipush 20, 2) := by decide +kernel
theorem dL_law_301 : decode cL_law 301 = .ok (.iload 6, 2) := by decide +kernel
theorem dL_law_303 : decode cL_law 303 = .ok (.iadd, 1) := by decide +kernel
theorem dL_law_304 : decode cL_law 304 = .ok (.invokestatic 108, 3) := by decide +kernel
theorem dL_law_307 : decode cL_law 307 = .ok (.iconst 3, 1) := by decide +kernel
theorem dL_law_308 : decode cL_law 308 = .ok (.ishr, 1) := by decide +kernel
theorem dL_law_309 : decode cL_law 309 = .ok (.istore 7, 2) := by decide +kernel
theorem dL_law_311 : decode cL_law 311 = .ok (.aload_n 1, 1) := by decide +kernel
theorem dL_law_312 : decode cL_law 312 = .ok (.iconst 2, 1) := by decide +kernel
theorem dL_law_313 : decode cL_law 313 = .ok (.iload 7, 2) := by decide +kernel
theorem dL_law_315 : decode cL_law 315 = .ok (.bipush 8, 2) := by decide +kernel
theorem dL_law_317 : decode cL_law 317 = .ok (.invokestatic 85, 3) := by decide +kernel
theorem dL_law_320 : decode cL_law 320 = .ok (.iload 7, 2) := by decide +kernel
theorem dL_law_322 : decode cL_law 322 = .ok (.iconst 4, 1) := by decide +kernel
theorem dL_law_323 : decode cL_law 323 = .ok (.ishr, 1) := by decide +kernel
theorem dL_law_324 : decode cL_law 324 = .ok (.bipush 16, 2) := by decide +kernel
theorem dL_law_326 : decode cL_law 326 = .ok (.invokestatic 85, 3) := by decide +kernel
theorem dL_law_329 : decode cL_law 329 = .ok (.iconst 0, 1) := by decide +kernel
theorem dL_law_330 : decode cL_law 330 = .ok (.iconst 0, 1) := by decide +kernel
theorem dL_law_331 : decode cL_law 331 = .ok (.invokestatic 88, 3) := by decide +kernel
theorem dL_law_334 : decode cL_law 334 = .ok (.istore 8, 2) := by decide +kernel
theorem dL_law_336 : decode cL_law 336 = .ok (.iload 8, 2) := by decide +kernel
theorem dL_law_338 : decode cL_law 338 = .ok (.ldc 76, 2) := by decide +kernel
theorem dL_law_340 : decode cL_law 340 = .ok (.if_icmp .eq 31, 3) := by decide +kernel
theorem dL_law_343 : decode cL_law 343 = .ok (.aload_n 2, 1) := by decide +kernel
theorem dL_law_344 : decode cL_law 344 = .ok (.iconst 2, 1) := by decide +kernel
theorem dL_law_345 : decode cL_law 345 = .ok (.iload 7, 2) := by decide +kernel
theorem dL_law_347 : decode cL_law 347 = .ok (.bipush 8, 2) := by decide +kernel
theorem dL_law_349 : decode cL_law 349 = .ok (.invokestatic 85, 3) := by decide +kernel
theorem dL_law_352 : decode cL_law 352 = .ok (.iload 7, 2) := by decide +kernel
theorem dL_law_354 : decode cL_law 354 = .ok (.iconst 4, 1) := by decide +kernel
theorem dL_law_355 : decode cL_law 355 = .ok (.ishr, 1) := by decide +kernel
theorem dL_law_356 : decode cL_law 356 = .ok (.bipush 16, 2) := by decide +kernel
theorem dL_law_358 : decode cL_law 358 = .ok (.invokestatic 85, 3) := by decide +kernel
theorem dL_law_361 : decode cL_law 361 = .ok (.iconst 0, 1) := by decide +kernel
theorem dL_law_362 : decode cL_law 362 = .ok (.iconst 0, 1) := by decide +kernel
theorem dL_law_363 : decode cL_law 363 = .ok (.invokestatic 88, 3) := by decide +kernel
theorem dL_law_366 : decode cL_law 366 = .ok (.iload 8, 2) := by decide +kernel
theorem dL_law_368 : decode cL_law 368 = .ok (.if_icmp .ne 7, 3) := by decide +kernel
theorem dL_law_371 : decode cL_law 371 = .ok (.iconst 1, 1) := by decide +kernel
theorem dL_law_372 : decode cL_law 372 = .ok (.goto 4, 3) := by decide +kernel
theorem dL_law_375 : decode cL_law 375 = .ok (.iconst 0, 1) := by decide +kernel
theorem dL_law_376 : decode cL_law 376 = .ok (.istore 4, 2) := by decide +kernel
theorem dL_law_378 : decode cL_law 378 = .ok (.iinc 6 1, 3) := by decide +kernel
theorem dL_law_381 : decode cL_law 381 = .ok (.goto (-94), 3) := by decide +kernel
theorem dL_law_384 : decode cL_law 384 = .ok (.iconst 0, 1) := by decide +kernel
theorem dL_law_385 : decode cL_law 385 = .ok (.istore 6, 2) := by decide +kernel
theorem dL_law_387 : decode cL_law 387 = .ok (.iload 6, 2) := by decide +kernel
theorem dL_law_389 : decode cL_law 389 = .ok (.sipush 130, 3) := by decide +kernel
theorem dL_law_392 : decode cL_law 392 = .ok (.if_icmp .ge 139, 3) := by decide +kernel
theorem dL_law_395 : decode cL_law 395 = .ok (.iload 4, 2) := by decide +kernel
theorem dL_law_397 : decode cL_law 397 = .ok (.ifCond .eq 134, 3) := by decide +kernel
theorem dL_law_400 : decode cL_law 400 = .ok (.aload_n 0, 1) := by decide +kernel
theorem dL_law_401 : decode cL_law 401 = .ok (.iload 6, 2) := by decide +kernel
theorem dL_law_403 : decode cL_law 403 = .ok (.bipush 61, 2) := by decide +kernel
theorem dL_law_405 : decode cL_law 405 = .ok (.irem, 1) := by decide +kernel
theorem dL_law_406 : decode cL_law 406 = .ok (.invokestatic 108, 3) := by decide +kernel
theorem dL_law_409 : decode cL_law 409 = .ok (.sipush 1913, 3) := by decide +kernel
theorem dL_law_412 : decode cL_law 412 = .ok (.iload 6, 2) := by decide +kernel
theorem dL_law_414 : decode cL_law 414 = .ok (.bipush 61, 2) := by decide +kernel
theorem dL_law_416 : decode cL_law 416 = .ok (.idiv, 1) := by decide +kernel
theorem dL_law_417 : decode cL_law 417 = .ok (.imul, 1) := by decide +kernel
theorem dL_law_418 : decode cL_law 418 = .ok (.iadd, 1) := by decide +kernel
theorem dL_law_419 : decode cL_law 419 = .ok (.istore 7, 2) := by decide +kernel
theorem dL_law_421 : decode cL_law 421 = .ok (.aload_n 1, 1) := by decide +kernel
theorem dL_law_422 : decode cL_law 422 = .ok (.iload 7, 2) := by decide +kernel
theorem dL_law_424 : decode cL_law 424 = .ok (.invokestatic 112, 3) := by decide +kernel
theorem dL_law_427 : decode cL_law 427 = .ok (.istore 8, 2) := by decide +kernel
theorem dL_law_429 : decode cL_law 429 = .ok (.iload 8, 2) := by decide +kernel
theorem dL_law_431 : decode cL_law 431 = .ok (.ldc 76, 2) := by decide +kernel
theorem dL_law_433 : decode cL_law 433 = .ok (.if_icmp .eq 14, 3) := by decide +kernel
theorem dL_law_436 : decode cL_law 436 = .ok (.aload_n 2, 1) := by decide +kernel
theorem dL_law_437 : decode cL_law 437 = .ok (.iload 7, 2) := by decide +kernel
theorem dL_law_439 : decode cL_law 439 = .ok (.invokestatic 112, 3) := by decide +kernel
theorem dL_law_442 : decode cL_law 442 = .ok (.iload 8, 2) := by decide +kernel
theorem dL_law_444 : decode cL_law 444 = .ok (.if_icmp .ne 7, 3) := by decide +kernel
theorem dL_law_447 : decode cL_law 447 = .ok (.iconst 1, 1) := by decide +kernel
theorem dL_law_448 : decode cL_law 448 = .ok (.goto 4, 3) := by decide +kernel
theorem dL_law_451 : decode cL_law 451 = .ok (.iconst 0, 1) := by decide +kernel
theorem dL_law_452 : decode cL_law 452 = .ok (.istore 4, 2) := by decide +kernel
theorem dL_law_454 : decode cL_law 454 = .ok (.iload 4, 2) := by decide +kernel
theorem dL_law_456 : decode cL_law 456 = .ok (.ifCond .eq 66, 3) := by decide +kernel
theorem dL_law_459 : decode cL_law 459 = .ok (.iload 6, 2) := by decide +kernel
theorem dL_law_461 : decode cL_law 461 = .ok (.bipush 8, 2) := by decide +kernel
theorem dL_law_463 : decode cL_law 463 = .ok (.irem, 1) := by decide +kernel
theorem dL_law_464 : decode cL_law 464 = .ok (.bipush 7, 2) := by decide +kernel
theorem dL_law_466 : decode cL_law 466 = .ok (.if_icmp .ne 15, 3) := by decide +kernel
theorem dL_law_469 : decode cL_law 469 = .ok (.aload_n 1, 1) := by decide +kernel
theorem dL_law_470 : decode cL_law 470 = .ok (.aload_n 2, 1) := by decide +kernel
theorem dL_law_471 : decode cL_law 471 = .ok (.iload 7, 2) := by decide +kernel
theorem dL_law_473 : decode cL_law 473 = .ok (.iconst 3, 1) := by decide +kernel
theorem dL_law_474 : decode cL_law 474 = .ok (.ishr, 1) := by decide +kernel
theorem dL_law_475 : decode cL_law 475 = .ok (.invokestatic 116, 3) := by decide +kernel
theorem dL_law_478 : decode cL_law 478 = .ok (.ifCond .eq 44, 3) := by decide +kernel
theorem dL_law_481 : decode cL_law 481 = .ok (.iload 6, 2) := by decide +kernel
theorem dL_law_483 : decode cL_law 483 = .ok (.iconst 5, 1) := by decide +kernel
theorem dL_law_484 : decode cL_law 484 = .ok (.irem, 1) := by decide +kernel
theorem dL_law_485 : decode cL_law 485 = .ok (.iconst 2, 1) := by decide +kernel
theorem dL_law_486 : decode cL_law 486 = .ok (.if_icmp .ne 11, 3) := by decide +kernel
theorem dL_law_489 : decode cL_law 489 = .ok (.aload_n 1, 1) := by decide +kernel
theorem dL_law_490 : decode cL_law 490 = .ok (.aload_n 3, 1) := by decide +kernel
theorem dL_law_491 : decode cL_law 491 = .ok (.invokestatic 120, 3) := by decide +kernel
theorem dL_law_494 : decode cL_law 494 = .ok (.ifCond .eq 28, 3) := by decide +kernel
theorem dL_law_497 : decode cL_law 497 = .ok (.iload 6, 2) := by decide +kernel
theorem dL_law_499 : decode cL_law 499 = .ok (.bipush 20, 2) := by decide +kernel
theorem dL_law_501 : decode cL_law 501 = .ok (.irem, 1) := by decide +kernel
theorem dL_law_502 : decode cL_law 502 = .ok (.bipush 9, 2) := by decide +kernel
theorem dL_law_504 : decode cL_law 504 = .ok (.if_icmp .ne 14, 3) := by decide +kernel
theorem dL_law_507 : decode cL_law 507 = .ok (.aload_n 1, 1) := by decide +kernel
theorem dL_law_508 : decode cL_law 508 = .ok (.iload 7, 2) := by decide +kernel
theorem dL_law_510 : decode cL_law 510 = .ok (.iconst 4, 1) := by decide +kernel
theorem dL_law_511 : decode cL_law 511 = .ok (.ishr, 1) := by decide +kernel
theorem dL_law_512 : decode cL_law 512 = .ok (.invokestatic 124, 3) := by decide +kernel
theorem dL_law_515 : decode cL_law 515 = .ok (.ifCond .eq 7, 3) := by decide +kernel
theorem dL_law_518 : decode cL_law 518 = .ok (.iconst 1, 1) := by decide +kernel
theorem dL_law_519 : decode cL_law 519 = .ok (.goto 4, 3) := by decide +kernel
theorem dL_law_522 : decode cL_law 522 = .ok (.iconst 0, 1) := by decide +kernel
theorem dL_law_523 : decode cL_law 523 = .ok (.istore 4, 2) := by decide +kernel
theorem dL_law_525 : decode cL_law 525 = .ok (.iinc 6 1, 3) := by decide +kernel
theorem dL_law_528 : decode cL_law 528 = .ok (.goto (-141), 3) := by decide +kernel
theorem dL_law_531 : decode cL_law 531 = .ok (.iload 4, 2) := by decide +kernel
theorem dL_law_533 : decode cL_law 533 = .ok (.ifCond .eq 25, 3) := by decide +kernel
theorem dL_law_536 : decode cL_law 536 = .ok (.aload_n 1, 1) := by decide +kernel
theorem dL_law_537 : decode cL_law 537 = .ok (.aload_n 2, 1) := by decide +kernel
theorem dL_law_538 : decode cL_law 538 = .ok (.bipush 7, 2) := by decide +kernel
theorem dL_law_540 : decode cL_law 540 = .ok (.invokestatic 116, 3) := by decide +kernel
theorem dL_law_543 : decode cL_law 543 = .ok (.ifCond .eq 15, 3) := by decide +kernel
theorem dL_law_546 : decode cL_law 546 = .ok (.aload_n 2, 1) := by decide +kernel
theorem dL_law_547 : decode cL_law 547 = .ok (.aload_n 3, 1) := by decide +kernel
theorem dL_law_548 : decode cL_law 548 = .ok (.invokestatic 120, 3) := by decide +kernel
theorem dL_law_551 : decode cL_law 551 = .ok (.ifCond .eq 7, 3) := by decide +kernel
theorem dL_law_554 : decode cL_law 554 = .ok (.iconst 1, 1) := by decide +kernel
theorem dL_law_555 : decode cL_law 555 = .ok (.goto 4, 3) := by decide +kernel
theorem dL_law_558 : decode cL_law 558 = .ok (.iconst 0, 1) := by decide +kernel
theorem dL_law_559 : decode cL_law 559 = .ok (.ireturn, 1) := by decide +kernel
