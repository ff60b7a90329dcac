theorem dL_cell_0 : decode cL_cell 0 = .ok (.iload_n 1, 1) := by decide +kernel
theorem dL_cell_1 : decode cL_cell 1 = .ok (.aload_n 0, 1) := by decide +kernel
theorem dL_cell_2 : decode cL_cell 2 = .ok (.arraylength, 1) := by decide +kernel
theorem dL_cell_3 : decode cL_cell 3 = .ok (.if_icmp .ge 9, 3) := by decide +kernel
theorem dL_cell_6 : decode cL_cell 6 = .ok (.aload_n 0, 1) := by decide +kernel
theorem dL_cell_7 : decode cL_cell 7 = .ok (.iload_n 1, 1) := by decide +kernel
theorem dL_cell_8 : decode cL_cell 8 = .ok (.iaload, 1) := by decide +kernel
theorem dL_cell_9 : decode cL_cell 9 = .ok (.goto 18, 3) := by decide +kernel
theorem dL_cell_12 : decode cL_cell 12 = .ok (.sipush 7919, 3) := by decide +kernel
theorem dL_cell_15 : decode cL_cell 15 = .ok (.iload_n 1, 1) := by decide +kernel
theorem dL_cell_16 : decode cL_cell 16 = .ok (.sipush 1627, 3) := by decide +kernel
theorem dL_cell_19 : decode cL_cell 19 = .ok (.iadd, 1) := by decide +kernel
theorem dL_cell_20 : decode cL_cell 20 = .ok (.imul, 1) := by decide +kernel
theorem dL_cell_21 : decode cL_cell 21 = .ok (.iload_n 1, 1) := by decide +kernel
theorem dL_cell_22 : decode cL_cell 22 = .ok (.sipush 4153, 3) := by decide +kernel
theorem dL_cell_25 : decode cL_cell 25 = .ok (.iadd, 1) := by decide +kernel
theorem dL_cell_26 : decode cL_cell 26 = .ok (.imul, 1) := by decide +kernel
theorem dL_cell_27 : decode cL_cell 27 = .ok (.ireturn, 1) := by decide +kernel
theorem dL_low_0 : decode cL_low 0 = .ok (.iload_n 0, 1) := by decide +kernel
theorem dL_low_1 : decode cL_low 1 = .ok (.ldc 7, 2) := by decide +kernel
theorem dL_low_3 : decode cL_low 3 = .ok (.iand, 1) := by decide +kernel
theorem dL_low_4 : decode cL_low 4 = .ok (.iload_n 1, 1) := by decide +kernel
theorem dL_low_5 : decode cL_low 5 = .ok (.irem, 1) := by decide +kernel
theorem dL_low_6 : decode cL_low 6 = .ok (.ireturn, 1) := by decide +kernel
theorem dL_fed_0 : decode cL_fed 0 = .ok (.aload_n 0, 1) := by decide +kernel
theorem dL_fed_1 : decode cL_fed 1 = .ok (.iload_n 1, 1) := by decide +kernel
theorem dL_fed_2 : decode cL_fed 2 = .ok (.iload_n 2, 1) := by decide +kernel
theorem dL_fed_3 : decode cL_fed 3 = .ok (.iload_n 3, 1) := by decide +kernel
theorem dL_fed_4 : decode cL_fed 4 = .ok (.invokevirtual 81, 3) := by decide +kernel
theorem dL_fed_7 : decode cL_fed 7 = .ok (.iconst 0, 1) := by decide +kernel
theorem dL_fed_8 : decode cL_fed 8 = .ok (.ireturn, 1) := by decide +kernel
theorem dL_does_0 : decode cL_does 0 = .ok (.iload_n 1, 1) := by decide +kernel
theorem dL_does_1 : decode cL_does 1 = .ok (.ifCond .ne 12, 3) := by decide +kernel
theorem dL_does_4 : decode cL_does 4 = .ok (.aload_n 0, 1) := by decide +kernel
theorem dL_does_5 : decode cL_does 5 = .ok (.iload_n 2, 1) := by decide +kernel
theorem dL_does_6 : decode cL_does 6 = .ok (.iload_n 3, 1) := by decide +kernel
theorem dL_does_7 : decode cL_does 7 = .ok (.invokevirtual 8, 3) := by decide +kernel
theorem dL_does_10 : decode cL_does 10 = .ok (.goto 277, 3) := by decide +kernel
theorem dL_does_13 : decode cL_does 13 = .ok (.iload_n 1, 1) := by decide +kernel
theorem dL_does_14 : decode cL_does 14 = .ok (.iconst 1, 1) := by decide +kernel
theorem dL_does_15 : decode cL_does 15 = .ok (.if_icmp .ne 16, 3) := by decide +kernel
theorem dL_does_18 : decode cL_does 18 = .ok (.aload_n 0, 1) := by decide +kernel
theorem dL_does_19 : decode cL_does 19 = .ok (.iload_n 2, 1) := by decide +kernel
theorem dL_does_20 : decode cL_does 20 = .ok (.iload_n 3, 1) := by decide +kernel
theorem dL_does_21 : decode cL_does 21 = .ok (.iload 4, 2) := by decide +kernel
theorem dL_does_23 : decode cL_does 23 = .ok (.iload 5, 2) := by decide +kernel
theorem dL_does_25 : decode cL_does 25 = .ok (.invokevirtual 14, 3) := by decide +kernel
theorem dL_does_28 : decode cL_does 28 = .ok (.goto 259, 3) := by decide +kernel
theorem dL_does_31 : decode cL_does 31 = .ok (.iload_n 1, 1) := by decide +kernel
theorem dL_does_32 : decode cL_does 32 = .ok (.iconst 2, 1) := by decide +kernel
theorem dL_does_33 : decode cL_does 33 = .ok (.if_icmp .ne 12, 3) := by decide +kernel
theorem dL_does_36 : decode cL_does 36 = .ok (.aload_n 0, 1) := by decide +kernel
theorem dL_does_37 : decode cL_does 37 = .ok (.iload_n 2, 1) := by decide +kernel
theorem dL_does_38 : decode cL_does 38 = .ok (.iload_n 3, 1) := by decide +kernel
theorem dL_does_39 : decode cL_does 39 = .ok (.invokevirtual 18, 3) := by decide +kernel
theorem dL_does_42 : decode cL_does 42 = .ok (.goto 245, 3) := by decide +kernel
theorem dL_does_45 : decode cL_does 45 = .ok (.iload_n 1, 1) := by decide +kernel
theorem dL_does_46 : decode cL_does 46 = .ok (.iconst 3, 1) := by decide +kernel
theorem dL_does_47 : decode cL_does 47 = .ok (.if_icmp .ne 12, 3) := by decide +kernel
theorem dL_does_50 : decode cL_does 50 = .ok (.aload_n 0, 1) := by decide +kernel
theorem dL_does_51 : decode cL_does 51 = .ok (.iload_n 2, 1) := by decide +kernel
theorem dL_does_52 : decode cL_does 52 = .ok (.iload_n 3, 1) := by decide +kernel
theorem dL_does_53 : decode cL_does 53 = .ok (.invokevirtual 21, 3) := by decide +kernel
theorem dL_does_56 : decode cL_does 56 = .ok (.goto 231, 3) := by decide +kernel
theorem dL_does_59 : decode cL_does 59 = .ok (.iload_n 1, 1) := by decide +kernel
theorem dL_does_60 : decode cL_does 60 = .ok (.iconst 4, 1) := by decide +kernel
theorem dL_does_61 : decode cL_does 61 = .ok (.if_icmp .ne 14, 3) := by decide +kernel
theorem dL_does_64 : decode cL_does 64 = .ok (.aload_n 0, 1) := by decide +kernel
theorem dL_does_65 : decode cL_does 65 = .ok (.iload_n 2, 1) := by decide +kernel
theorem dL_does_66 : decode cL_does 66 = .ok (.iload_n 3, 1) := by decide +kernel
theorem dL_does_67 : decode cL_does 67 = .ok (.iload 4, 2) := by decide +kernel
theorem dL_does_69 : decode cL_does 69 = .ok (.invokevirtual 24, 3) := by decide +kernel
theorem dL_does_72 : decode cL_does 72 = .ok (.goto 215, 3) := by decide +kernel
theorem dL_does_75 : decode cL_does 75 = .ok (.iload_n 1, 1) := by decide +kernel
theorem dL_does_76 : decode cL_does 76 = .ok (.iconst 5, 1) := by decide +kernel
theorem dL_does_77 : decode cL_does 77 = .ok (.if_icmp .ne 25, 3) := by decide +kernel
theorem dL_does_80 : decode cL_does 80 = .ok (.aload_n 0, 1) := by decide +kernel
theorem dL_does_81 : decode cL_does 81 = .ok (.iload_n 2, 1) := by decide +kernel
theorem dL_does_82 : decode cL_does 82 = .ok (.sipush 10000, 3) := by decide +kernel
theorem dL_does_85 : decode cL_does 85 = .ok (.irem, 1) := by decide +kernel
theorem dL_does_86 : decode cL_does 86 = .ok (.iload_n 2, 1) := by decide +kernel
theorem dL_does_87 : decode cL_does 87 = .ok (.sipush 10000, 3) := by decide +kernel
theorem dL_does_90 : decode cL_does 90 = .ok (.idiv, 1) := by decide +kernel
theorem dL_does_91 : decode cL_does 91 = .ok (.iload_n 3, 1) := by decide +kernel
theorem dL_does_92 : decode cL_does 92 = .ok (.iload 4, 2) := by decide +kernel
theorem dL_does_94 : decode cL_does 94 = .ok (.iload 5, 2) := by decide +kernel
theorem dL_does_96 : decode cL_does 96 = .ok (.invokevirtual 28, 3) := by decide +kernel
theorem dL_does_99 : decode cL_does 99 = .ok (.goto 188, 3) := by decide +kernel
theorem dL_does_102 : decode cL_does 102 = .ok (.iload_n 1, 1) := by decide +kernel
theorem dL_does_103 : decode cL_does 103 = .ok (.bipush 6, 2) := by decide +kernel
theorem dL_does_105 : decode cL_does 105 = .ok (.if_icmp .ne 14, 3) := by decide +kernel
theorem dL_does_108 : decode cL_does 108 = .ok (.aload_n 0, 1) := by decide +kernel
theorem dL_does_109 : decode cL_does 109 = .ok (.iload_n 2, 1) := by decide +kernel
theorem dL_does_110 : decode cL_does 110 = .ok (.iload_n 3, 1) := by decide +kernel
theorem dL_does_111 : decode cL_does 111 = .ok (.iload 4, 2) := by decide +kernel
theorem dL_does_113 : decode cL_does 113 = .ok (.invokevirtual 32, 3) := by decide +kernel
theorem dL_does_116 : decode cL_does 116 = .ok (.goto 171, 3) := by decide +kernel
theorem dL_does_119 : decode cL_does 119 = .ok (.iload_n 1, 1) := by decide +kernel
theorem dL_does_120 : decode cL_does 120 = .ok (.bipush 7, 2) := by decide +kernel
theorem dL_does_122 : decode cL_does 122 = .ok (.if_icmp .ne 14, 3) := by decide +kernel
theorem dL_does_125 : decode cL_does 125 = .ok (.aload_n 0, 1) := by decide +kernel
theorem dL_does_126 : decode cL_does 126 = .ok (.iload_n 2, 1) := by decide +kernel
theorem dL_does_127 : decode cL_does 127 = .ok (.iload_n 3, 1) := by decide +kernel
theorem dL_does_128 : decode cL_does 128 = .ok (.iload 4, 2) := by decide +kernel
theorem dL_does_130 : decode cL_does 130 = .ok (.invokestatic 35, 3) := by decide +kernel
theorem dL_does_133 : decode cL_does 133 = .ok (.goto 154, 3) := by decide +kernel
theorem dL_does_136 : decode cL_does 136 = .ok (.iload_n 1, 1) := by decide +kernel
theorem dL_does_137 : decode cL_does 137 = .ok (.bipush 8, 2) := by decide +kernel
theorem dL_does_139 : decode cL_does 139 = .ok (.if_icmp .ne 14, 3) := by decide +kernel
theorem dL_does_142 : decode cL_does 142 = .ok (.aload_n 0, 1) := by decide +kernel
theorem dL_does_143 : decode cL_does 143 = .ok (.iload_n 2, 1) := by decide +kernel
theorem dL_does_144 : decode cL_does 144 = .ok (.iload_n 3, 1) := by decide +kernel
theorem dL_does_145 : decode cL_does 145 = .ok (.iload 4, 2) := by decide +kernel
theorem dL_does_147 : decode cL_does 147 = .ok (.invokevirtual 41, 3) := by decide +kernel
theorem dL_does_150 : decode cL_does 150 = .ok (.goto 137, 3) := by decide +kernel
theorem dL_does_153 : decode cL_does 153 = .ok (.iload_n 1, 1) := by decide +kernel
theorem dL_does_154 : decode cL_does 154 = .ok (.bipush 9, 2) := by decide +kernel
theorem dL_does_156 : decode cL_does 156 = .ok (.if_icmp .ne 19, 3) := by decide +kernel
theorem dL_does_159 : decode cL_does 159 = .ok (.aload_n 0, 1) := by decide +kernel
theorem dL_does_160 : decode cL_does 160 = .ok (.iload_n 2, 1) := by decide +kernel
theorem dL_does_161 : decode cL_does 161 = .ok (.invokevirtual 44, 3) := by decide +kernel
theorem dL_does_164 : decode cL_does 164 = .ok (.ifCond .eq 7, 3) := by decide +kernel
theorem dL_does_167 : decode cL_does 167 = .ok (.iconst 1, 1) := by decide +kernel
theorem dL_does_168 : decode cL_does 168 = .ok (.goto 119, 3) := by decide +kernel
theorem dL_does_171 : decode cL_does 171 = .ok (.iconst 0, 1) := by decide +kernel
theorem dL_does_172 : decode cL_does 172 = .ok (.goto 115, 3) := by decide +kernel
theorem dL_does_175 : decode cL_does 175 = .ok (.iload_n 1, 1) := by decide +kernel
theorem dL_does_176 : decode cL_does 176 = .ok (.bipush 10, 2) := by decide +kernel
theorem dL_does_178 : decode cL_does 178 = .ok (.if_icmp .ne 11, 3) := by decide +kernel
theorem dL_does_181 : decode cL_does 181 = .ok (.aload_n 0, 1) := by decide +kernel
theorem dL_does_182 : decode cL_does 182 = .ok (.iload_n 2, 1) := by decide +kernel
theorem dL_does_183 : decode cL_does 183 = .ok (.invokevirtual 48, 3) := by decide +kernel
theorem dL_does_186 : decode cL_does 186 = .ok (.goto 101, 3) := by decide +kernel
theorem dL_does_189 : decode cL_does 189 = .ok (.iload_n 1, 1) := by decide +kernel
theorem dL_does_190 : decode cL_does 190 = .ok (.bipush 11, 2) := by decide +kernel
theorem dL_does_192 : decode cL_does 192 = .ok (.if_icmp .ne 10, 3) := by decide +kernel
theorem dL_does_195 : decode cL_does 195 = .ok (.aload_n 0, 1) := by decide +kernel
theorem dL_does_196 : decode cL_does 196 = .ok (.invokevirtual 52, 3) := by decide +kernel
theorem dL_does_199 : decode cL_does 199 = .ok (.goto 88, 3) := by decide +kernel
theorem dL_does_202 : decode cL_does 202 = .ok (.iload_n 1, 1) := by decide +kernel
theorem dL_does_203 : decode cL_does 203 = .ok (.bipush 12, 2) := by decide +kernel
theorem dL_does_205 : decode cL_does 205 = .ok (.if_icmp .ne 12, 3) := by decide +kernel
theorem dL_does_208 : decode cL_does 208 = .ok (.aload_n 0, 1) := by decide +kernel
theorem dL_does_209 : decode cL_does 209 = .ok (.iload_n 2, 1) := by decide +kernel
theorem dL_does_210 : decode cL_does 210 = .ok (.iload_n 3, 1) := by decide +kernel
theorem dL_does_211 : decode cL_does 211 = .ok (.invokevirtual 56, 3) := by decide +kernel
theorem dL_does_214 : decode cL_does 214 = .ok (.goto 73, 3) := by decide +kernel
theorem dL_does_217 : decode cL_does 217 = .ok (.iload_n 1, 1) := by decide +kernel
theorem dL_does_218 : decode cL_does 218 = .ok (.bipush 13, 2) := by decide +kernel
theorem dL_does_220 : decode cL_does 220 = .ok (.if_icmp .ne 12, 3) := by decide +kernel
theorem dL_does_223 : decode cL_does 223 = .ok (.aload_n 0, 1) := by decide +kernel
theorem dL_does_224 : decode cL_does 224 = .ok (.iload_n 2, 1) := by decide +kernel
theorem dL_does_225 : decode cL_does 225 = .ok (.iload_n 3, 1) := by decide +kernel
theorem dL_does_226 : decode cL_does 226 = .ok (.invokevirtual 59, 3) := by decide +kernel
theorem dL_does_229 : decode cL_does 229 = .ok (.goto 58, 3) := by decide +kernel
theorem dL_does_232 : decode cL_does 232 = .ok (.iload_n 1, 1) := by decide +kernel
theorem dL_does_233 : decode cL_does 233 = .ok (.bipush 14, 2) := by decide +kernel
theorem dL_does_235 : decode cL_does 235 = .ok (.if_icmp .ne 12, 3) := by decide +kernel
theorem dL_does_238 : decode cL_does 238 = .ok (.aload_n 0, 1) := by decide +kernel
theorem dL_does_239 : decode cL_does 239 = .ok (.iload_n 2, 1) := by decide +kernel
theorem dL_does_240 : decode cL_does 240 = .ok (.iload_n 3, 1) := by decide +kernel
theorem dL_does_241 : decode cL_does 241 = .ok (.invokevirtual 62, 3) := by decide +kernel
theorem dL_does_244 : decode cL_does 244 = .ok (.goto 43, 3) := by decide +kernel
theorem dL_does_247 : decode cL_does 247 = .ok (.iload_n 1, 1) := by decide +kernel
theorem dL_does_248 : decode cL_does 248 = .ok (.bipush 15, 2) := by decide +kernel
theorem dL_does_250 : decode cL_does 250 = .ok (.if_icmp .ne 12, 3) := by decide +kernel
theorem dL_does_253 : decode cL_does 253 = .ok (.aload_n 0, 1) := by decide +kernel
theorem dL_does_254 : decode cL_does 254 = .ok (.iload_n 2, 1) := by decide +kernel
theorem dL_does_255 : decode cL_does 255 = .ok (.iload_n 3, 1) := by decide +kernel
theorem dL_does_256 : decode cL_does 256 = .ok (.invokevirtual 65, 3) := by decide +kernel
theorem dL_does_259 : decode cL_does 259 = .ok (.goto 28, 3) := by decide +kernel
theorem dL_does_262 : decode cL_does 262 = .ok (.iload_n 1, 1) := by decide +kernel
theorem dL_does_263 : decode cL_does 263 = .ok (.bipush 16, 2) := by decide +kernel
theorem dL_does_265 : decode cL_does 265 = .ok (.if_icmp .ne 12, 3) := by decide +kernel
theorem dL_does_268 : decode cL_does 268 = .ok (.aload_n 0, 1) := by decide +kernel
theorem dL_does_269 : decode cL_does 269 = .ok (.iload_n 2, 1) := by decide +kernel
theorem dL_does_270 : decode cL_does 270 = .ok (.iload_n 3, 1) := by decide +kernel
theorem dL_does_271 : decode cL_does 271 = .ok (.invokevirtual 68, 3) := by decide +kernel
theorem dL_does_274 : decode cL_does 274 = .ok (.goto 13, 3) := by decide +kernel
theorem dL_does_277 : decode cL_does 277 = .ok (.aload_n 0, 1) := by decide +kernel
theorem dL_does_278 : decode cL_does 278 = .ok (.iload_n 2, 1) := by decide +kernel
theorem dL_does_279 : decode cL_does 279 = .ok (.iload_n 3, 1) := by decide +kernel
theorem dL_does_280 : decode cL_does 280 = .ok (.iload 4, 2) := by decide +kernel
theorem dL_does_282 : decode cL_does 282 = .ok (.iload 5, 2) := by decide +kernel
theorem dL_does_284 : decode cL_does 284 = .ok (.invokevirtual 71, 3) := by decide +kernel
theorem dL_does_287 : decode cL_does 287 = .ok (.ireturn, 1) := by decide +kernel
theorem dL_does_288 : decode cL_does 288 = .ok (.astore 6, 2) := by decide +kernel
theorem dL_does_290 : decode cL_does 290 = .ok (.ldc 76, 2) := by decide +kernel
theorem dL_does_292 : decode cL_does 292 = .ok (.ireturn, 1) := by decide +kernel
theorem dL_does_293 : decode cL_does 293 = .ok (.astore 6, 2) := by decide +kernel
theorem dL_does_295 : decode cL_does 295 = .ok (.ldc 76, 2) := by decide +kernel
theorem dL_does_297 : decode cL_does 297 = .ok (.ireturn, 1) := by decide +kernel
theorem dL_does_298 : decode cL_does 298 = .ok (.astore 6, 2) := by decide +kernel
theorem dL_does_300 : decode cL_does 300 = .ok (.ldc 76, 2) := by decide +kernel
theorem dL_does_302 : decode cL_does 302 = .ok (.ireturn, 1) := by decide +kernel
theorem dL_areAlike_0 : decode cL_areAlike 0 = .ok (.aload_n 0, 1) := by decide +kernel
theorem dL_areAlike_1 : decode cL_areAlike 1 = .ok (.invokevirtual 92, 3) := by decide +kernel
theorem dL_areAlike_4 : decode cL_areAlike 4 = .ok (.aload_n 1, 1) := by decide +kernel
theorem dL_areAlike_5 : decode cL_areAlike 5 = .ok (.invokevirtual 92, 3) := by decide +kernel
theorem dL_areAlike_8 : decode cL_areAlike 8 = .ok (.if_icmp .ne 18, 3) := by decide +kernel
theorem dL_areAlike_11 : decode cL_areAlike 11 = .ok (.aload_n 0, 1) := by decide +kernel
theorem dL_areAlike_12 : decode cL_areAlike 12 = .ok (.invokevirtual 95, 3) := by decide +kernel
theorem dL_areAlike_15 : decode cL_areAlike 15 = .ok (.aload_n 1, 1) := by decide +kernel
theorem dL_areAlike_16 : decode cL_areAlike 16 = .ok (.invokevirtual 95, 3) := by decide +kernel
theorem dL_areAlike_19 : decode cL_areAlike 19 = .ok (.if_icmp .ne 7, 3) := by decide +kernel
theorem dL_areAlike_22 : decode cL_areAlike 22 = .ok (.iconst 1, 1) := by decide +kernel
theorem dL_areAlike_23 : decode cL_areAlike 23 = .ok (.goto 4, 3) := by decide +kernel
theorem dL_areAlike_26 : decode cL_areAlike 26 = .ok (.iconst 0, 1) := by decide +kernel
theorem dL_areAlike_27 : decode cL_areAlike 27 = .ok (.istore_n 3, 1) := by decide +kernel
theorem dL_areAlike_28 : decode cL_areAlike 28 = .ok (.iconst 0, 1) := by decide +kernel
theorem dL_areAlike_29 : decode cL_areAlike 29 = .ok (.istore 4, 2) := by decide +kernel
theorem dL_areAlike_31 : decode cL_areAlike 31 = .ok (.iload 4, 2) := by decide +kernel
theorem dL_areAlike_33 : decode cL_areAlike 33 = .ok (.bipush 24, 2) := by decide +kernel
theorem dL_areAlike_35 : decode cL_areAlike 35 = .ok (.if_icmp .ge 168, 3) := by decide +kernel
theorem dL_areAlike_38 : decode cL_areAlike 38 = .ok (.iload_n 3, 1) := by decide +kernel
theorem dL_areAlike_39 : decode cL_areAlike 39 = .ok (.ifCond .eq 164, 3) := by decide +kernel
theorem dL_areAlike_42 : decode cL_areAlike 42 = .ok (.iconst 0, 1) := by decide +kernel
theorem dL_areAlike_43 : decode cL_areAlike 43 = .ok (.istore 5, 2) := by decide +kernel
theorem dL_areAlike_45 : decode cL_areAlike 45 = .ok (.iload 5, 2) := by decide +kernel
theorem dL_areAlike_47 : decode cL_areAlike 47 = .ok (.iconst 4, 1) := by decide +kernel
theorem dL_areAlike_48 : decode cL_areAlike 48 = .ok (.if_icmp .ge 104, 3) := by decide +kernel
theorem dL_areAlike_51 : decode cL_areAlike 51 = .ok (.iload_n 3, 1) := by decide +kernel
theorem dL_areAlike_52 : decode cL_areAlike 52 = .ok (.ifCond .eq 100, 3) := by decide +kernel
theorem dL_areAlike_55 : decode cL_areAlike 55 = .ok (.aload_n 0, 1) := by decide +kernel
theorem dL_areAlike_56 : decode cL_areAlike 56 = .ok (.bipush 12, 2) := by decide +kernel
theorem dL_areAlike_58 : decode cL_areAlike 58 = .ok (.iload 4, 2) := by decide +kernel
theorem dL_areAlike_60 : decode cL_areAlike 60 = .ok (.iload 5, 2) := by decide +kernel
theorem dL_areAlike_62 : decode cL_areAlike 62 = .ok (.iconst 0, 1) := by decide +kernel
theorem dL_areAlike_63 : decode cL_areAlike 63 = .ok (.iconst 0, 1) := by decide +kernel
theorem dL_areAlike_64 : decode cL_areAlike 64 = .ok (.invokestatic 88, 3) := by decide +kernel
theorem dL_areAlike_67 : decode cL_areAlike 67 = .ok (.aload_n 1, 1) := by decide +kernel
theorem dL_areAlike_68 : decode cL_areAlike 68 = .ok (.bipush 12, 2) := by decide +kernel
theorem dL_areAlike_70 : decode cL_areAlike 70 = .ok (.iload 4, 2) := by decide +kernel
theorem dL_areAlike_72 : decode cL_areAlike 72 = .ok (.iload 5, 2) := by decide +kernel
theorem dL_areAlike_74 : decode cL_areAlike 74 = .ok (.iconst 0, 1) := by decide +kernel
theorem dL_areAlike_75 : decode cL_areAlike 75 = .ok (.iconst 0, 1) := by decide +kernel
theorem dL_areAlike_76 : decode cL_areAlike 76 = .ok (.invokestatic 88, 3) := by decide +kernel
theorem dL_areAlike_79 : decode cL_areAlike 79 = .ok (.if_icmp .ne 65, 3) := by decide +kernel
theorem dL_areAlike_82 : decode cL_areAlike 82 = .ok (.aload_n 0, 1) := by decide +kernel
theorem dL_areAlike_83 : decode cL_areAlike 83 = .ok (.bipush 14, 2) := by decide +kernel
theorem dL_areAlike_85 : decode cL_areAlike 85 = .ok (.iload 4, 2) := by decide +kernel
theorem dL_areAlike_87 : decode cL_areAlike 87 = .ok (.iload 5, 2) := by decide +kernel
theorem dL_areAlike_89 : decode cL_areAlike 89 = .ok (.iconst 0, 1) := by decide +kernel
theorem dL_areAlike_90 : decode cL_areAlike 90 = .ok (.iconst 0, 1) := by decide +kernel
theorem dL_areAlike_91 : decode cL_areAlike 91 = .ok (.invokestatic 88, 3) := by decide +kernel
theorem dL_areAlike_94 : decode cL_areAlike 94 = .ok (.aload_n 1, 1) := by decide +kernel
theorem dL_areAlike_95 : decode cL_areAlike 95 = .ok (.bipush 14, 2) := by decide +kernel
theorem dL_areAlike_97 : decode cL_areAlike 97 = .ok (.iload 4, 2) := by decide +kernel
theorem dL_areAlike_99 : decode cL_areAlike 99 = .ok (.iload 5, 2) := by decide +kernel
theorem dL_areAlike_101 : decode cL_areAlike 101 = .ok (.iconst 0, 1) := by decide +kernel
theorem dL_areAlike_102 : decode cL_areAlike 102 = .ok (.iconst 0, 1) := by decide +kernel
theorem dL_areAlike_103 : decode cL_areAlike 103 = .ok (.invokestatic 88, 3) := by decide +kernel
theorem dL_areAlike_106 : decode cL_areAlike 106 = .ok (.if_icmp .ne 38, 3) := by decide +kernel
theorem dL_areAlike_109 : decode cL_areAlike 109 = .ok (.aload_n 0, 1) := by decide +kernel
theorem dL_areAlike_110 : decode cL_areAlike 110 = .ok (.bipush 13, 2) := by decide +kernel
theorem dL_areAlike_112 : decode cL_areAlike 112 = .ok (.iload 4, 2) := by decide +kernel
theorem dL_areAlike_114 : decode cL_areAlike 114 = .ok (.iconst 2, 1) := by decide +kernel
theorem dL_areAlike_115 : decode cL_areAlike 115 = .ok (.idiv, 1) := by decide +kernel
theorem dL_areAlike_116 : decode cL_areAlike 116 = .ok (.iload 5, 2) := by decide +kernel
theorem dL_areAlike_118 : decode cL_areAlike 118 = .ok (.iconst 0, 1) := by decide +kernel
theorem dL_areAlike_119 : decode cL_areAlike 119 = .ok (.iconst 0, 1) := by decide +kernel
theorem dL_areAlike_120 : decode cL_areAlike 120 = .ok (.invokestatic 88, 3) := by decide +kernel
theorem dL_areAlike_123 : decode cL_areAlike 123 = .ok (.aload_n 1, 1) := by decide +kernel
theorem dL_areAlike_124 : decode cL_areAlike 124 = .ok (.bipush 13, 2) := by decide +kernel
theorem dL_areAlike_126 : decode cL_areAlike 126 = .ok (.iload 4, 2) := by decide +kernel
theorem dL_areAlike_128 : decode cL_areAlike 128 = .ok (.iconst 2, 1) := by decide +kernel
theorem dL_areAlike_129 : decode cL_areAlike 129 = .ok (.idiv, 1) := by decide +kernel
theorem dL_areAlike_130 : decode cL_areAlike 130 = .ok (.iload 5, 2) := by decide +kernel
theorem dL_areAlike_132 : decode cL_areAlike 132 = .ok (.iconst 0, 1) := by decide +kernel
theorem dL_areAlike_133 : decode cL_areAlike 133 = .ok (.iconst 0, 1) := by decide +kernel
theorem dL_areAlike_134 : decode cL_areAlike 134 = .ok (.invokestatic 88, 3) := by decide +kernel
theorem dL_areAlike_137 : decode cL_areAlike 137 = .ok (.if_icmp .ne 7, 3) := by decide +kernel
theorem dL_areAlike_140 : decode cL_areAlike 140 = .ok (.iconst 1, 1) := by decide +kernel
theorem dL_areAlike_141 : decode cL_areAlike 141 = .ok (.goto 4, 3) := by decide +kernel
theorem dL_areAlike_144 : decode cL_areAlike 144 = .ok (.iconst 0, 1) := by decide +kernel
theorem dL_areAlike_145 : decode cL_areAlike 145 = .ok (.istore_n 3, 1) := by decide +kernel
theorem dL_areAlike_146 : decode cL_areAlike 146 = .ok (.iinc 5 1, 3) := by decide +kernel
theorem dL_areAlike_149 : decode cL_areAlike 149 = .ok (.goto (-104), 3) := by decide +kernel
theorem dL_areAlike_152 : decode cL_areAlike 152 = .ok (.iload_n 3, 1) := by decide +kernel
theorem dL_areAlike_153 : decode cL_areAlike 153 = .ok (.ifCond .eq 42, 3) := by decide +kernel
theorem dL_areAlike_156 : decode cL_areAlike 156 = .ok (.aload_n 0, 1) := by decide +kernel
theorem dL_areAlike_157 : decode cL_areAlike 157 = .ok (.bipush 15, 2) := by decide +kernel
theorem dL_areAlike_159 : decode cL_areAlike 159 = .ok (.iload 4, 2) := by decide +kernel
theorem dL_areAlike_161 : decode cL_areAlike 161 = .ok (.iload_n 2, 1) := by decide +kernel
theorem dL_areAlike_162 : decode cL_areAlike 162 = .ok (.bipush 90, 2) := by decide +kernel
theorem dL_areAlike_164 : decode cL_areAlike 164 = .ok (.invokestatic 85, 3) := by decide +kernel
theorem dL_areAlike_167 : decode cL_areAlike 167 = .ok (.iconst 0, 1) := by decide +kernel
theorem dL_areAlike_168 : decode cL_areAlike 168 = .ok (.iconst 0, 1) := by decide +kernel
theorem dL_areAlike_169 : decode cL_areAlike 169 = .ok (.invokestatic 88, 3) := by decide +kernel
theorem dL_areAlike_172 : decode cL_areAlike 172 = .ok (.aload_n 1, 1) := by decide +kernel
theorem dL_areAlike_173 : decode cL_areAlike 173 = .ok (.bipush 15, 2) := by decide +kernel
theorem dL_areAlike_175 : decode cL_areAlike 175 = .ok (.iload 4, 2) := by decide +kernel
theorem dL_areAlike_177 : decode cL_areAlike 177 = .ok (.iload_n 2, 1) := by decide +kernel
theorem dL_areAlike_178 : decode cL_areAlike 178 = .ok (.bipush 90, 2) := by decide +kernel
theorem dL_areAlike_180 : decode cL_areAlike 180 = .ok (.invokestatic 85, 3) := by decide +kernel
theorem dL_areAlike_183 : decode cL_areAlike 183 = .ok (.iconst 0, 1) := by decide +kernel
theorem dL_areAlike_184 : decode cL_areAlike 184 = .ok (.iconst 0, 1) := by decide +kernel
theorem dL_areAlike_185 : decode cL_areAlike 185 = .ok (.invokestatic 88, 3) := by decide +kernel
theorem dL_areAlike_188 : decode cL_areAlike 188 = .ok (.if_icmp .ne 7, 3) := by decide +kernel
theorem dL_areAlike_191 : decode cL_areAlike 191 = .ok (.iconst 1, 1) := by decide +kernel
theorem dL_areAlike_192 : decode cL_areAlike 192 = .ok (.goto 4, 3) := by decide +kernel
theorem dL_areAlike_195 : decode cL_areAlike 195 = .ok (.iconst 0, 1) := by decide +kernel
theorem dL_areAlike_196 : decode cL_areAlike 196 = .ok (.istore_n 3, 1) := by decide +kernel
theorem dL_areAlike_197 : decode cL_areAlike 197 = .ok (.iinc 4 1, 3) := by decide +kernel
theorem dL_areAlike_200 : decode cL_areAlike 200 = .ok (.goto (-169), 3) := by decide +kernel
theorem dL_areAlike_203 : decode cL_areAlike 203 = .ok (.iload_n 3, 1) := by decide +kernel
theorem dL_areAlike_204 : decode cL_areAlike 204 = .ok (.ireturn, 1) := by decide +kernel
theorem dL_isKept_0 : decode cL_isKept 0 = .ok (.iload_n 1, 1) := by decide +kernel
theorem dL_isKept_1 : decode cL_isKept 1 = .ok (.bipush 8, 2) := by decide +kernel
theorem dL_isKept_3 : decode cL_isKept 3 = .ok (.invokestatic 85, 3) := by decide +kernel
theorem dL_isKept_6 : decode cL_isKept 6 = .ok (.istore_n 2, 1) := by decide +kernel
theorem dL_isKept_7 : decode cL_isKept 7 = .ok (.iload_n 1, 1) := by decide +kernel
theorem dL_isKept_8 : decode cL_isKept 8 = .ok (.iconst 3, 1) := by decide +kernel
theorem dL_isKept_9 : decode cL_isKept 9 = .ok (.ishr, 1) := by decide +kernel
theorem dL_isKept_10 : decode cL_isKept 10 = .ok (.bipush 16, 2) := by decide +kernel
theorem dL_isKept_12 : decode cL_isKept 12 = .ok (.invokestatic 85, 3) := by decide +kernel
theorem dL_isKept_15 : decode cL_isKept 15 = .ok (.istore_n 3, 1) := by decide +kernel
theorem dL_isKept_16 : decode cL_isKept 16 = .ok (.aload_n 0, 1) := by decide +kernel
theorem dL_isKept_17 : decode cL_isKept 17 = .ok (.bipush 16, 2) := by decide +kernel
theorem dL_isKept_19 : decode cL_isKept 19 = .ok (.iload_n 2, 1) := by decide +kernel
theorem dL_isKept_20 : decode cL_isKept 20 = .ok (.iload_n 3, 1) := by decide +kernel
theorem dL_isKept_21 : decode cL_isKept 21 = .ok (.iconst 0, 1) := by decide +kernel
theorem dL_isKept_22 : decode cL_isKept 22 = .ok (.iconst 0, 1) := by decide +kernel
theorem dL_isKept_23 : decode cL_isKept 23 = .ok (.invokestatic 88, 3) := by decide +kernel
theorem dL_isKept_26 : decode cL_isKept 26 = .ok (.istore 4, 2) := by decide +kernel
theorem dL_isKept_28 : decode cL_isKept 28 = .ok (.aload_n 0, 1) := by decide +kernel
theorem dL_isKept_29 : decode cL_isKept 29 = .ok (.bipush 17, 2) := by decide +kernel
theorem dL_isKept_31 : decode cL_isKept 31 = .ok (.iload_n 2, 1) := by decide +kernel
theorem dL_isKept_32 : decode cL_isKept 32 = .ok (.iload_n 2, 1) := by decide +kernel
theorem dL_isKept_33 : decode cL_isKept 33 = .ok (.iload_n 3, 1) := by decide +kernel
theorem dL_isKept_34 : decode cL_isKept 34 = .ok (.iload_n 1, 1) := by decide +kernel
theorem dL_isKept_35 : decode cL_isKept 35 = .ok (.bipush 7, 2) := by decide +kernel
theorem dL_isKept_37 : decode cL_isKept 37 = .ok (.ishr, 1) := by decide +kernel
theorem dL_isKept_38 : decode cL_isKept 38 = .ok (.bipush 16, 2) := by decide +kernel
theorem dL_isKept_40 : decode cL_isKept 40 = .ok (.invokestatic 85, 3) := by decide +kernel
theorem dL_isKept_43 : decode cL_isKept 43 = .ok (.invokestatic 88, 3) := by decide +kernel
theorem dL_isKept_46 : decode cL_isKept 46 = .ok (.istore 5, 2) := by decide +kernel
theorem dL_isKept_48 : decode cL_isKept 48 = .ok (.aload_n 0, 1) := by decide +kernel
theorem dL_isKept_49 : decode cL_isKept 49 = .ok (.bipush 16, 2) := by decide +kernel
theorem dL_isKept_51 : decode cL_isKept 51 = .ok (.iload_n 2, 1) := by decide +kernel
theorem dL_isKept_52 : decode cL_isKept 52 = .ok (.iload_n 3, 1) := by decide +kernel
theorem dL_isKept_53 : decode cL_isKept 53 = .ok (.iconst 0, 1) := by decide +kernel
theorem dL_isKept_54 : decode cL_isKept 54 = .ok (.iconst 0, 1) := by decide +kernel
theorem dL_isKept_55 : decode cL_isKept 55 = .ok (.invokestatic 88, 3) := by decide +kernel
theorem dL_isKept_58 : decode cL_isKept 58 = .ok (.iload 4, 2) := by decide +kernel
theorem dL_isKept_60 : decode cL_isKept 60 = .ok (.if_icmp .ne 21, 3) := by decide +kernel
theorem dL_isKept_63 : decode cL_isKept 63 = .ok (.iload 5, 2) := by decide +kernel
theorem dL_isKept_65 : decode cL_isKept 65 = .ok (.ldc 76, 2) := by decide +kernel
theorem dL_isKept_67 : decode cL_isKept 67 = .ok (.if_icmp .eq 10, 3) := by decide +kernel
theorem dL_isKept_70 : decode cL_isKept 70 = .ok (.iload 5, 2) := by decide +kernel
theorem dL_isKept_72 : decode cL_isKept 72 = .ok (.ldc 106, 2) := by decide +kernel
theorem dL_isKept_74 : decode cL_isKept 74 = .ok (.if_icmp .ne 7, 3) := by decide +kernel
theorem dL_isKept_77 : decode cL_isKept 77 = .ok (.iconst 1, 1) := by decide +kernel
theorem dL_isKept_78 : decode cL_isKept 78 = .ok (.goto 4, 3) := by decide +kernel
theorem dL_isKept_81 : decode cL_isKept 81 = .ok (.iconst 0, 1) := by decide +kernel
theorem dL_isKept_82 : decode cL_isKept 82 = .ok (.ireturn, 1) := by decide +kernel
