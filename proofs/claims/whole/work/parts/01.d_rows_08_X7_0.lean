theorem dX7_init_0 : decode cX7_init 0 = .ok (.aload_n 0, 1) := by decide +kernel
theorem dX7_init_1 : decode cX7_init 1 = .ok (.invokespecial 1, 3) := by decide +kernel
theorem dX7_init_4 : decode cX7_init 4 = .ok (.aload_n 0, 1) := by decide +kernel
theorem dX7_init_5 : decode cX7_init 5 = .ok (.bipush 12, 2) := by decide +kernel
theorem dX7_init_7 : decode cX7_init 7 = .ok (.newarray .int, 2) := by decide +kernel
theorem dX7_init_9 : decode cX7_init 9 = .ok (.putfield 7, 3) := by decide +kernel
theorem dX7_init_12 : decode cX7_init 12 = .ok (.aload_n 0, 1) := by decide +kernel
theorem dX7_init_13 : decode cX7_init 13 = .ok (.bipush 12, 2) := by decide +kernel
theorem dX7_init_15 : decode cX7_init 15 = .ok (.newarray .int, 2) := by decide +kernel
theorem dX7_init_17 : decode cX7_init 17 = .ok (.putfield 13, 3) := by decide +kernel
theorem dX7_init_20 : decode cX7_init 20 = .ok (.aload_n 0, 1) := by decide +kernel
theorem dX7_init_21 : decode cX7_init 21 = .ok (.bipush 12, 2) := by decide +kernel
theorem dX7_init_23 : decode cX7_init 23 = .ok (.newarray .int, 2) := by decide +kernel
theorem dX7_init_25 : decode cX7_init 25 = .ok (.putfield 16, 3) := by decide +kernel
theorem dX7_init_28 : decode cX7_init 28 = .ok (.aload_n 0, 1) := by decide +kernel
theorem dX7_init_29 : decode cX7_init 29 = .ok (.bipush 12, 2) := by decide +kernel
theorem dX7_init_31 : decode cX7_init 31 = .ok (.newarray .int, 2) := by decide +kernel
theorem dX7_init_33 : decode cX7_init 33 = .ok (.putfield 19, 3) := by decide +kernel
theorem dX7_init_36 : decode cX7_init 36 = .ok (.aload_n 0, 1) := by decide +kernel
theorem dX7_init_37 : decode cX7_init 37 = .ok (.bipush 12, 2) := by decide +kernel
theorem dX7_init_39 : decode cX7_init 39 = .ok (.newarray .int, 2) := by decide +kernel
theorem dX7_init_41 : decode cX7_init 41 = .ok (.putfield 22, 3) := by decide +kernel
theorem dX7_init_44 : decode cX7_init 44 = .ok (.aload_n 0, 1) := by decide +kernel
theorem dX7_init_45 : decode cX7_init 45 = .ok (.bipush 12, 2) := by decide +kernel
theorem dX7_init_47 : decode cX7_init 47 = .ok (.newarray .int, 2) := by decide +kernel
theorem dX7_init_49 : decode cX7_init 49 = .ok (.putfield 25, 3) := by decide +kernel
theorem dX7_init_52 : decode cX7_init 52 = .ok (.aload_n 0, 1) := by decide +kernel
theorem dX7_init_53 : decode cX7_init 53 = .ok (.bipush 12, 2) := by decide +kernel
theorem dX7_init_55 : decode cX7_init 55 = .ok (.newarray .boolean, 2) := by decide +kernel
theorem dX7_init_57 : decode cX7_init 57 = .ok (.putfield 28, 3) := by decide +kernel
theorem dX7_init_60 : decode cX7_init 60 = .ok (.aload_n 0, 1) := by decide +kernel
theorem dX7_init_61 : decode cX7_init 61 = .ok (.bipush 24, 2) := by decide +kernel
theorem dX7_init_63 : decode cX7_init 63 = .ok (.newarray .long, 2) := by decide +kernel
theorem dX7_init_65 : decode cX7_init 65 = .ok (.putfield 32, 3) := by decide +kernel
theorem dX7_init_68 : decode cX7_init 68 = .ok (.aload_n 0, 1) := by decide +kernel
theorem dX7_init_69 : decode cX7_init 69 = .ok (.bipush 24, 2) := by decide +kernel
theorem dX7_init_71 : decode cX7_init 71 = .ok (.newarray .long, 2) := by decide +kernel
theorem dX7_init_73 : decode cX7_init 73 = .ok (.putfield 36, 3) := by decide +kernel
theorem dX7_init_76 : decode cX7_init 76 = .ok (.aload_n 0, 1) := by decide +kernel
theorem dX7_init_77 : decode cX7_init 77 = .ok (.bipush 24, 2) := by decide +kernel
theorem dX7_init_79 : decode cX7_init 79 = .ok (.newarray .long, 2) := by decide +kernel
theorem dX7_init_81 : decode cX7_init 81 = .ok (.putfield 39, 3) := by decide +kernel
theorem dX7_init_84 : decode cX7_init 84 = .ok (.aload_n 0, 1) := by decide +kernel
theorem dX7_init_85 : decode cX7_init 85 = .ok (.bipush 24, 2) := by decide +kernel
theorem dX7_init_87 : decode cX7_init 87 = .ok (.newarray .long, 2) := by decide +kernel
theorem dX7_init_89 : decode cX7_init 89 = .ok (.putfield 42, 3) := by decide +kernel
theorem dX7_init_92 : decode cX7_init 92 = .ok (.aload_n 0, 1) := by decide +kernel
theorem dX7_init_93 : decode cX7_init 93 = .ok (.bipush 24, 2) := by decide +kernel
theorem dX7_init_95 : decode cX7_init 95 = .ok (.newarray .long, 2) := by decide +kernel
theorem dX7_init_97 : decode cX7_init 97 = .ok (.putfield 45, 3) := by decide +kernel
theorem dX7_init_100 : decode cX7_init 100 = .ok (.aload_n 0, 1) := by decide +kernel
theorem dX7_init_101 : decode cX7_init 101 = .ok (.bipush 24, 2) := by decide +kernel
theorem dX7_init_103 : decode cX7_init 103 = .ok (.newarray .long, 2) := by decide +kernel
theorem dX7_init_105 : decode cX7_init 105 = .ok (.putfield 48, 3) := by decide +kernel
theorem dX7_init_108 : decode cX7_init 108 = .ok (.aload_n 0, 1) := by decide +kernel
theorem dX7_init_109 : decode cX7_init 109 = .ok (.bipush 12, 2) := by decide +kernel
theorem dX7_init_111 : decode cX7_init 111 = .ok (.newarray .int, 2) := by decide +kernel
theorem dX7_init_113 : decode cX7_init 113 = .ok (.putfield 51, 3) := by decide +kernel
theorem dX7_init_116 : decode cX7_init 116 = .ok (.aload_n 0, 1) := by decide +kernel
theorem dX7_init_117 : decode cX7_init 117 = .ok (.sipush 7200, 3) := by decide +kernel
theorem dX7_init_120 : decode cX7_init 120 = .ok (.newarray .int, 2) := by decide +kernel
theorem dX7_init_122 : decode cX7_init 122 = .ok (.putfield 54, 3) := by decide +kernel
theorem dX7_init_125 : decode cX7_init 125 = .ok (.aload_n 0, 1) := by decide +kernel
theorem dX7_init_126 : decode cX7_init 126 = .ok (.bipush 40, 2) := by decide +kernel
theorem dX7_init_128 : decode cX7_init 128 = .ok (.newarray .int, 2) := by decide +kernel
theorem dX7_init_130 : decode cX7_init 130 = .ok (.putfield 57, 3) := by decide +kernel
theorem dX7_init_133 : decode cX7_init 133 = .ok (.aload_n 0, 1) := by decide +kernel
theorem dX7_init_134 : decode cX7_init 134 = .ok (.bipush 40, 2) := by decide +kernel
theorem dX7_init_136 : decode cX7_init 136 = .ok (.newarray .int, 2) := by decide +kernel
theorem dX7_init_138 : decode cX7_init 138 = .ok (.putfield 60, 3) := by decide +kernel
theorem dX7_init_141 : decode cX7_init 141 = .ok (.aload_n 0, 1) := by decide +kernel
theorem dX7_init_142 : decode cX7_init 142 = .ok (.bipush 40, 2) := by decide +kernel
theorem dX7_init_144 : decode cX7_init 144 = .ok (.newarray .int, 2) := by decide +kernel
theorem dX7_init_146 : decode cX7_init 146 = .ok (.putfield 63, 3) := by decide +kernel
theorem dX7_init_149 : decode cX7_init 149 = .ok (.aload_n 0, 1) := by decide +kernel
theorem dX7_init_150 : decode cX7_init 150 = .ok (.bipush 6, 2) := by decide +kernel
theorem dX7_init_152 : decode cX7_init 152 = .ok (.newarray .int, 2) := by decide +kernel
theorem dX7_init_154 : decode cX7_init 154 = .ok (.putfield 66, 3) := by decide +kernel
theorem dX7_init_157 : decode cX7_init 157 = .ok (.aload_n 0, 1) := by decide +kernel
theorem dX7_init_158 : decode cX7_init 158 = .ok (.bipush 6, 2) := by decide +kernel
theorem dX7_init_160 : decode cX7_init 160 = .ok (.newarray .int, 2) := by decide +kernel
theorem dX7_init_162 : decode cX7_init 162 = .ok (.putfield 69, 3) := by decide +kernel
theorem dX7_init_165 : decode cX7_init 165 = .ok (.aload_n 0, 1) := by decide +kernel
theorem dX7_init_166 : decode cX7_init 166 = .ok (.bipush 6, 2) := by decide +kernel
theorem dX7_init_168 : decode cX7_init 168 = .ok (.newarray .int, 2) := by decide +kernel
theorem dX7_init_170 : decode cX7_init 170 = .ok (.putfield 72, 3) := by decide +kernel
theorem dX7_init_173 : decode cX7_init 173 = .ok (.aload_n 0, 1) := by decide +kernel
theorem dX7_init_174 : decode cX7_init 174 = .ok (.bipush 6, 2) := by decide +kernel
theorem dX7_init_176 : decode cX7_init 176 = .ok (.newarray .int, 2) := by decide +kernel
theorem dX7_init_178 : decode cX7_init 178 = .ok (.putfield 75, 3) := by decide +kernel
theorem dX7_init_181 : decode cX7_init 181 = .ok (.aload_n 0, 1) := by decide +kernel
theorem dX7_init_182 : decode cX7_init 182 = .ok (.bipush 6, 2) := by decide +kernel
theorem dX7_init_184 : decode cX7_init 184 = .ok (.newarray .int, 2) := by decide +kernel
theorem dX7_init_186 : decode cX7_init 186 = .ok (.putfield 78, 3) := by decide +kernel
theorem dX7_init_189 : decode cX7_init 189 = .ok (.aload_n 0, 1) := by decide +kernel
theorem dX7_init_190 : decode cX7_init 190 = .ok (.bipush 6, 2) := by decide +kernel
theorem dX7_init_192 : decode cX7_init 192 = .ok (.newarray .int, 2) := by decide +kernel
theorem dX7_init_194 : decode cX7_init 194 = .ok (.putfield 81, 3) := by decide +kernel
theorem dX7_init_197 : decode cX7_init 197 = .ok (.aload_n 0, 1) := by decide +kernel
theorem dX7_init_198 : decode cX7_init 198 = .ok (.bipush 6, 2) := by decide +kernel
theorem dX7_init_200 : decode cX7_init 200 = .ok (.newarray .int, 2) := by decide +kernel
theorem dX7_init_202 : decode cX7_init 202 = .ok (.putfield 84, 3) := by decide +kernel
theorem dX7_init_205 : decode cX7_init 205 = .ok (.aload_n 0, 1) := by decide +kernel
theorem dX7_init_206 : decode cX7_init 206 = .ok (.bipush 6, 2) := by decide +kernel
theorem dX7_init_208 : decode cX7_init 208 = .ok (.newarray .int, 2) := by decide +kernel
theorem dX7_init_210 : decode cX7_init 210 = .ok (.putfield 87, 3) := by decide +kernel
theorem dX7_init_213 : decode cX7_init 213 = .ok (.aload_n 0, 1) := by decide +kernel
theorem dX7_init_214 : decode cX7_init 214 = .ok (.bipush 6, 2) := by decide +kernel
theorem dX7_init_216 : decode cX7_init 216 = .ok (.newarray .int, 2) := by decide +kernel
theorem dX7_init_218 : decode cX7_init 218 = .ok (.putfield 90, 3) := by decide +kernel
theorem dX7_init_221 : decode cX7_init 221 = .ok (.aload_n 0, 1) := by decide +kernel
theorem dX7_init_222 : decode cX7_init 222 = .ok (.bipush 6, 2) := by decide +kernel
theorem dX7_init_224 : decode cX7_init 224 = .ok (.newarray .long, 2) := by decide +kernel
theorem dX7_init_226 : decode cX7_init 226 = .ok (.putfield 93, 3) := by decide +kernel
theorem dX7_init_229 : decode cX7_init 229 = .ok (.aload_n 0, 1) := by decide +kernel
theorem dX7_init_230 : decode cX7_init 230 = .ok (.bipush 6, 2) := by decide +kernel
theorem dX7_init_232 : decode cX7_init 232 = .ok (.newarray .long, 2) := by decide +kernel
theorem dX7_init_234 : decode cX7_init 234 = .ok (.putfield 96, 3) := by decide +kernel
theorem dX7_init_237 : decode cX7_init 237 = .ok (.aload_n 0, 1) := by decide +kernel
theorem dX7_init_238 : decode cX7_init 238 = .ok (.bipush 6, 2) := by decide +kernel
theorem dX7_init_240 : decode cX7_init 240 = .ok (.newarray .int, 2) := by decide +kernel
theorem dX7_init_242 : decode cX7_init 242 = .ok (.putfield 99, 3) := by decide +kernel
theorem dX7_init_245 : decode cX7_init 245 = .ok (.aload_n 0, 1) := by decide +kernel
theorem dX7_init_246 : decode cX7_init 246 = .ok (.bipush 6, 2) := by decide +kernel
theorem dX7_init_248 : decode cX7_init 248 = .ok (.newarray .boolean, 2) := by decide +kernel
theorem dX7_init_250 : decode cX7_init 250 = .ok (.putfield 102, 3) := by decide +kernel
theorem dX7_init_253 : decode cX7_init 253 = .ok (.aload_n 0, 1) := by decide +kernel
theorem dX7_init_254 : decode cX7_init 254 = .ok (.bipush 6, 2) := by decide +kernel
theorem dX7_init_256 : decode cX7_init 256 = .ok (.newarray .long, 2) := by decide +kernel
theorem dX7_init_258 : decode cX7_init 258 = .ok (.putfield 105, 3) := by decide +kernel
theorem dX7_init_261 : decode cX7_init 261 = .ok (.aload_n 0, 1) := by decide +kernel
theorem dX7_init_262 : decode cX7_init 262 = .ok (.sipush 1800, 3) := by decide +kernel
theorem dX7_init_265 : decode cX7_init 265 = .ok (.newarray .int, 2) := by decide +kernel
theorem dX7_init_267 : decode cX7_init 267 = .ok (.putfield 108, 3) := by decide +kernel
theorem dX7_init_270 : decode cX7_init 270 = .ok (.aload_n 0, 1) := by decide +kernel
theorem dX7_init_271 : decode cX7_init 271 = .ok (.sipush 1800, 3) := by decide +kernel
theorem dX7_init_274 : decode cX7_init 274 = .ok (.newarray .int, 2) := by decide +kernel
theorem dX7_init_276 : decode cX7_init 276 = .ok (.putfield 111, 3) := by decide +kernel
theorem dX7_init_279 : decode cX7_init 279 = .ok (.aload_n 0, 1) := by decide +kernel
theorem dX7_init_280 : decode cX7_init 280 = .ok (.sipush 1800, 3) := by decide +kernel
theorem dX7_init_283 : decode cX7_init 283 = .ok (.newarray .int, 2) := by decide +kernel
theorem dX7_init_285 : decode cX7_init 285 = .ok (.putfield 114, 3) := by decide +kernel
theorem dX7_init_288 : decode cX7_init 288 = .ok (.return_, 1) := by decide +kernel
theorem dX7_thrown_0 : decode cX7_thrown 0 = .ok (.aload_n 0, 1) := by decide +kernel
theorem dX7_thrown_1 : decode cX7_thrown 1 = .ok (.getfield 117, 3) := by decide +kernel
theorem dX7_thrown_4 : decode cX7_thrown 4 = .ok (.ireturn, 1) := by decide +kernel
theorem dX7_holds_0 : decode cX7_holds 0 = .ok (.aload_n 0, 1) := by decide +kernel
theorem dX7_holds_1 : decode cX7_holds 1 = .ok (.iload_n 1, 1) := by decide +kernel
theorem dX7_holds_2 : decode cX7_holds 2 = .ok (.putfield 117, 3) := by decide +kernel
theorem dX7_holds_5 : decode cX7_holds 5 = .ok (.iload_n 1, 1) := by decide +kernel
theorem dX7_holds_6 : decode cX7_holds 6 = .ok (.ifCond .ne 7, 3) := by decide +kernel
theorem dX7_holds_9 : decode cX7_holds 9 = .ok (.iconst 1, 1) := by decide +kernel
theorem dX7_holds_10 : decode cX7_holds 10 = .ok (.goto 4, 3) := by decide +kernel
theorem dX7_holds_13 : decode cX7_holds 13 = .ok (.iconst 0, 1) := by decide +kernel
theorem dX7_holds_14 : decode cX7_holds 14 = .ok (.ireturn, 1) := by decide +kernel
theorem dX7_in_0 : decode cX7_in 0 = .ok (.iload_n 0, 1) := by decide +kernel
theorem dX7_in_1 : decode cX7_in 1 = .ok (.iload_n 1, 1) := by decide +kernel
theorem dX7_in_2 : decode cX7_in 2 = .ok (.if_icmp .lt 12, 3) := by decide +kernel
theorem dX7_in_5 : decode cX7_in 5 = .ok (.iload_n 0, 1) := by decide +kernel
theorem dX7_in_6 : decode cX7_in 6 = .ok (.iload_n 2, 1) := by decide +kernel
theorem dX7_in_7 : decode cX7_in 7 = .ok (.if_icmp .gt 7, 3) := by decide +kernel
theorem dX7_in_10 : decode cX7_in 10 = .ok (.iconst 1, 1) := by decide +kernel
theorem dX7_in_11 : decode cX7_in 11 = .ok (.goto 4, 3) := by decide +kernel
theorem dX7_in_14 : decode cX7_in 14 = .ok (.iconst 0, 1) := by decide +kernel
theorem dX7_in_15 : decode cX7_in 15 = .ok (.ireturn, 1) := by decide +kernel
set_option maxRecDepth 20000 in
theorem ggX7_isUnit_X7_in : GoodIn wsX7_isUnit wsX7_in := goodIn_r _ [5] (by decide +kernel) (by decide +kernel)
set_option maxRecDepth 20000 in
theorem gX7_isUnit_X7_in : GoodIn wsX7_isUnit (va_wsS RX7 124 yX7_in wsX7_in) := goodIn_app (goodIn_of _ (by decide +kernel)) ggX7_isUnit_X7_in
theorem dX7_isUnit_0 : decode cX7_isUnit 0 = .ok (.iload_n 1, 1) := by decide +kernel
theorem dX7_isUnit_1 : decode cX7_isUnit 1 = .ok (.iconst 0, 1) := by decide +kernel
theorem dX7_isUnit_2 : decode cX7_isUnit 2 = .ok (.aload_n 0, 1) := by decide +kernel
theorem dX7_isUnit_3 : decode cX7_isUnit 3 = .ok (.getfield 121, 3) := by decide +kernel
theorem dX7_isUnit_6 : decode cX7_isUnit 6 = .ok (.iconst 1, 1) := by decide +kernel
theorem dX7_isUnit_7 : decode cX7_isUnit 7 = .ok (.isub, 1) := by decide +kernel
theorem dX7_isUnit_8 : decode cX7_isUnit 8 = .ok (.invokestatic 124, 3) := by decide +kernel
theorem dX7_isUnit_11 : decode cX7_isUnit 11 = .ok (.ireturn, 1) := by decide +kernel
set_option maxRecDepth 20000 in
theorem ggX7_isStream_X7_in : GoodIn wsX7_isStream wsX7_in := goodIn_r _ [5] (by decide +kernel) (by decide +kernel)
set_option maxRecDepth 20000 in
theorem gX7_isStream_X7_in : GoodIn wsX7_isStream (va_wsS RX7 124 yX7_in wsX7_in) := goodIn_app (goodIn_of _ (by decide +kernel)) ggX7_isStream_X7_in
theorem dX7_isStream_0 : decode cX7_isStream 0 = .ok (.iload_n 1, 1) := by decide +kernel
theorem dX7_isStream_1 : decode cX7_isStream 1 = .ok (.iconst 0, 1) := by decide +kernel
theorem dX7_isStream_2 : decode cX7_isStream 2 = .ok (.iconst 2, 1) := by decide +kernel
theorem dX7_isStream_3 : decode cX7_isStream 3 = .ok (.aload_n 0, 1) := by decide +kernel
theorem dX7_isStream_4 : decode cX7_isStream 4 = .ok (.getfield 121, 3) := by decide +kernel
theorem dX7_isStream_7 : decode cX7_isStream 7 = .ok (.imul, 1) := by decide +kernel
theorem dX7_isStream_8 : decode cX7_isStream 8 = .ok (.iconst 1, 1) := by decide +kernel
theorem dX7_isStream_9 : decode cX7_isStream 9 = .ok (.isub, 1) := by decide +kernel
theorem dX7_isStream_10 : decode cX7_isStream 10 = .ok (.invokestatic 124, 3) := by decide +kernel
theorem dX7_isStream_13 : decode cX7_isStream 13 = .ok (.ireturn, 1) := by decide +kernel
set_option maxRecDepth 20000 in
theorem ggX7_isController_X7_in : GoodIn wsX7_isController wsX7_in := goodIn_r _ [5] (by decide +kernel) (by decide +kernel)
set_option maxRecDepth 20000 in
theorem gX7_isController_X7_in : GoodIn wsX7_isController (va_wsS RX7 124 yX7_in wsX7_in) := goodIn_app (goodIn_of _ (by decide +kernel)) ggX7_isController_X7_in
theorem dX7_isController_0 : decode cX7_isController 0 = .ok (.iload_n 1, 1) := by decide +kernel
theorem dX7_isController_1 : decode cX7_isController 1 = .ok (.iconst 0, 1) := by decide +kernel
theorem dX7_isController_2 : decode cX7_isController 2 = .ok (.aload_n 0, 1) := by decide +kernel
theorem dX7_isController_3 : decode cX7_isController 3 = .ok (.getfield 128, 3) := by decide +kernel
theorem dX7_isController_6 : decode cX7_isController 6 = .ok (.iconst 1, 1) := by decide +kernel
theorem dX7_isController_7 : decode cX7_isController 7 = .ok (.isub, 1) := by decide +kernel
theorem dX7_isController_8 : decode cX7_isController 8 = .ok (.invokestatic 124, 3) := by decide +kernel
theorem dX7_isController_11 : decode cX7_isController 11 = .ok (.ireturn, 1) := by decide +kernel
theorem dX7_mostOf_0 : decode cX7_mostOf 0 = .ok (.iload_n 0, 1) := by decide +kernel
theorem dX7_mostOf_1 : decode cX7_mostOf 1 = .ok (.ifCond .ne 9, 3) := by decide +kernel
theorem dX7_mostOf_4 : decode cX7_mostOf 4 = .ok (.sipush 999, 3) := by decide +kernel
theorem dX7_mostOf_7 : decode cX7_mostOf 7 = .ok (.goto 26, 3) := by decide +kernel
theorem dX7_mostOf_10 : decode cX7_mostOf 10 = .ok (.iload_n 0, 1) := by decide +kernel
theorem dX7_mostOf_11 : decode cX7_mostOf 11 = .ok (.iconst 1, 1) := by decide +kernel
theorem dX7_mostOf_12 : decode cX7_mostOf 12 = .ok (.if_icmp .ne 8, 3) := by decide +kernel
theorem dX7_mostOf_15 : decode cX7_mostOf 15 = .ok (.bipush 100, 2) := by decide +kernel
theorem dX7_mostOf_17 : decode cX7_mostOf 17 = .ok (.goto 16, 3) := by decide +kernel
theorem dX7_mostOf_20 : decode cX7_mostOf 20 = .ok (.iload_n 0, 1) := by decide +kernel
theorem dX7_mostOf_21 : decode cX7_mostOf 21 = .ok (.iconst 3, 1) := by decide +kernel
theorem dX7_mostOf_22 : decode cX7_mostOf 22 = .ok (.if_icmp .ne 9, 3) := by decide +kernel
theorem dX7_mostOf_25 : decode cX7_mostOf 25 = .ok (.sipush 9999, 3) := by decide +kernel
theorem dX7_mostOf_28 : decode cX7_mostOf 28 = .ok (.goto 5, 3) := by decide +kernel
theorem dX7_mostOf_31 : decode cX7_mostOf 31 = .ok (.ldc 131, 2) := by decide +kernel
theorem dX7_mostOf_33 : decode cX7_mostOf 33 = .ok (.ireturn, 1) := by decide +kernel
theorem dX7_held_0 : decode cX7_held 0 = .ok (.lload_n 0, 1) := by decide +kernel
theorem dX7_held_1 : decode cX7_held 1 = .ok (.lload_n 2, 1) := by decide +kernel
theorem dX7_held_2 : decode cX7_held 2 = .ok (.lcmp, 1) := by decide +kernel
theorem dX7_held_3 : decode cX7_held 3 = .ok (.ifCond .ge 7, 3) := by decide +kernel
theorem dX7_held_6 : decode cX7_held 6 = .ok (.lload_n 2, 1) := by decide +kernel
theorem dX7_held_7 : decode cX7_held 7 = .ok (.goto 16, 3) := by decide +kernel
theorem dX7_held_10 : decode cX7_held 10 = .ok (.lload_n 0, 1) := by decide +kernel
theorem dX7_held_11 : decode cX7_held 11 = .ok (.lload 4, 2) := by decide +kernel
theorem dX7_held_13 : decode cX7_held 13 = .ok (.lcmp, 1) := by decide +kernel
theorem dX7_held_14 : decode cX7_held 14 = .ok (.ifCond .le 8, 3) := by decide +kernel
theorem dX7_held_17 : decode cX7_held 17 = .ok (.lload 4, 2) := by decide +kernel
theorem dX7_held_19 : decode cX7_held 19 = .ok (.goto 4, 3) := by decide +kernel
theorem dX7_held_22 : decode cX7_held 22 = .ok (.lload_n 0, 1) := by decide +kernel
theorem dX7_held_23 : decode cX7_held 23 = .ok (.lreturn, 1) := by decide +kernel
theorem dX7_takesTwo_0 : decode cX7_takesTwo 0 = .ok (.iload_n 0, 1) := by decide +kernel
theorem dX7_takesTwo_1 : decode cX7_takesTwo 1 = .ok (.iconst 2, 1) := by decide +kernel
theorem dX7_takesTwo_2 : decode cX7_takesTwo 2 = .ok (.if_icmp .eq 8, 3) := by decide +kernel
theorem dX7_takesTwo_5 : decode cX7_takesTwo 5 = .ok (.iload_n 0, 1) := by decide +kernel
theorem dX7_takesTwo_6 : decode cX7_takesTwo 6 = .ok (.iconst 3, 1) := by decide +kernel
theorem dX7_takesTwo_7 : decode cX7_takesTwo 7 = .ok (.if_icmp .ne 7, 3) := by decide +kernel
theorem dX7_takesTwo_10 : decode cX7_takesTwo 10 = .ok (.iconst 1, 1) := by decide +kernel
theorem dX7_takesTwo_11 : decode cX7_takesTwo 11 = .ok (.goto 4, 3) := by decide +kernel
theorem dX7_takesTwo_14 : decode cX7_takesTwo 14 = .ok (.iconst 0, 1) := by decide +kernel
theorem dX7_takesTwo_15 : decode cX7_takesTwo 15 = .ok (.ireturn, 1) := by decide +kernel
theorem dX7_isTaken_0 : decode cX7_isTaken 0 = .ok (.iconst 0, 1) := by decide +kernel
theorem dX7_isTaken_1 : decode cX7_isTaken 1 = .ok (.istore_n 2, 1) := by decide +kernel
theorem dX7_isTaken_2 : decode cX7_isTaken 2 = .ok (.iconst 0, 1) := by decide +kernel
theorem dX7_isTaken_3 : decode cX7_isTaken 3 = .ok (.istore_n 3, 1) := by decide +kernel
theorem dX7_isTaken_4 : decode cX7_isTaken 4 = .ok (.iload_n 3, 1) := by decide +kernel
theorem dX7_isTaken_5 : decode cX7_isTaken 5 = .ok (.aload_n 0, 1) := by decide +kernel
theorem dX7_isTaken_6 : decode cX7_isTaken 6 = .ok (.getfield 121, 3) := by decide +kernel
theorem dX7_isTaken_9 : decode cX7_isTaken 9 = .ok (.if_icmp .ge 39, 3) := by decide +kernel
theorem dX7_isTaken_12 : decode cX7_isTaken 12 = .ok (.iload_n 2, 1) := by decide +kernel
theorem dX7_isTaken_13 : decode cX7_isTaken 13 = .ok (.ifCond .ne 23, 3) := by decide +kernel
theorem dX7_isTaken_16 : decode cX7_isTaken 16 = .ok (.aload_n 0, 1) := by decide +kernel
theorem dX7_isTaken_17 : decode cX7_isTaken 17 = .ok (.getfield 19, 3) := by decide +kernel
theorem dX7_isTaken_20 : decode cX7_isTaken 20 = .ok (.iload_n 3, 1) := by decide +kernel
theorem dX7_isTaken_21 : decode cX7_isTaken 21 = .ok (.iaload, 1) := by decide +kernel
theorem dX7_isTaken_22 : decode cX7_isTaken 22 = .ok (.iload_n 1, 1) := by decide +kernel
theorem dX7_isTaken_23 : decode cX7_isTaken 23 = .ok (.if_icmp .eq 13, 3) := by decide +kernel
theorem dX7_isTaken_26 : decode cX7_isTaken 26 = .ok (.aload_n 0, 1) := by decide +kernel
theorem dX7_isTaken_27 : decode cX7_isTaken 27 = .ok (.getfield 22, 3) := by decide +kernel
theorem dX7_isTaken_30 : decode cX7_isTaken 30 = .ok (.iload_n 3, 1) := by decide +kernel
theorem dX7_isTaken_31 : decode cX7_isTaken 31 = .ok (.iaload, 1) := by decide +kernel
theorem dX7_isTaken_32 : decode cX7_isTaken 32 = .ok (.iload_n 1, 1) := by decide +kernel
theorem dX7_isTaken_33 : decode cX7_isTaken 33 = .ok (.if_icmp .ne 7, 3) := by decide +kernel
theorem dX7_isTaken_36 : decode cX7_isTaken 36 = .ok (.iconst 1, 1) := by decide +kernel
theorem dX7_isTaken_37 : decode cX7_isTaken 37 = .ok (.goto 4, 3) := by decide +kernel
theorem dX7_isTaken_40 : decode cX7_isTaken 40 = .ok (.iconst 0, 1) := by decide +kernel
theorem dX7_isTaken_41 : decode cX7_isTaken 41 = .ok (.istore_n 2, 1) := by decide +kernel
theorem dX7_isTaken_42 : decode cX7_isTaken 42 = .ok (.iinc 3 1, 3) := by decide +kernel
theorem dX7_isTaken_45 : decode cX7_isTaken 45 = .ok (.goto (-41), 3) := by decide +kernel
theorem dX7_isTaken_48 : decode cX7_isTaken 48 = .ok (.iload_n 2, 1) := by decide +kernel
theorem dX7_isTaken_49 : decode cX7_isTaken 49 = .ok (.ireturn, 1) := by decide +kernel
theorem dX7_makes_0 : decode cX7_makes 0 = .ok (.aload_n 0, 1) := by decide +kernel
theorem dX7_makes_1 : decode cX7_makes 1 = .ok (.getfield 7, 3) := by decide +kernel
theorem dX7_makes_4 : decode cX7_makes 4 = .ok (.aload_n 0, 1) := by decide +kernel
theorem dX7_makes_5 : decode cX7_makes 5 = .ok (.getfield 121, 3) := by decide +kernel
theorem dX7_makes_8 : decode cX7_makes 8 = .ok (.iload_n 1, 1) := by decide +kernel
theorem dX7_makes_9 : decode cX7_makes 9 = .ok (.iastore, 1) := by decide +kernel
theorem dX7_makes_10 : decode cX7_makes 10 = .ok (.aload_n 0, 1) := by decide +kernel
theorem dX7_makes_11 : decode cX7_makes 11 = .ok (.getfield 19, 3) := by decide +kernel
theorem dX7_makes_14 : decode cX7_makes 14 = .ok (.aload_n 0, 1) := by decide +kernel
theorem dX7_makes_15 : decode cX7_makes 15 = .ok (.getfield 121, 3) := by decide +kernel
theorem dX7_makes_18 : decode cX7_makes 18 = .ok (.iload_n 2, 1) := by decide +kernel
theorem dX7_makes_19 : decode cX7_makes 19 = .ok (.iastore, 1) := by decide +kernel
theorem dX7_makes_20 : decode cX7_makes 20 = .ok (.aload_n 0, 1) := by decide +kernel
theorem dX7_makes_21 : decode cX7_makes 21 = .ok (.getfield 22, 3) := by decide +kernel
theorem dX7_makes_24 : decode cX7_makes 24 = .ok (.aload_n 0, 1) := by decide +kernel
theorem dX7_makes_25 : decode cX7_makes 25 = .ok (.getfield 121, 3) := by decide +kernel
theorem dX7_makes_28 : decode cX7_makes 28 = .ok (.iload_n 3, 1) := by decide +kernel
theorem dX7_makes_29 : decode cX7_makes 29 = .ok (.iastore, 1) := by decide +kernel
theorem dX7_makes_30 : decode cX7_makes 30 = .ok (.aload_n 0, 1) := by decide +kernel
theorem dX7_makes_31 : decode cX7_makes 31 = .ok (.getfield 13, 3) := by decide +kernel
theorem dX7_makes_34 : decode cX7_makes 34 = .ok (.aload_n 0, 1) := by decide +kernel
theorem dX7_makes_35 : decode cX7_makes 35 = .ok (.getfield 121, 3) := by decide +kernel
theorem dX7_makes_38 : decode cX7_makes 38 = .ok (.iload 4, 2) := by decide +kernel
theorem dX7_makes_40 : decode cX7_makes 40 = .ok (.iastore, 1) := by decide +kernel
theorem dX7_makes_41 : decode cX7_makes 41 = .ok (.aload_n 0, 1) := by decide +kernel
theorem dX7_makes_42 : decode cX7_makes 42 = .ok (.getfield 16, 3) := by decide +kernel
theorem dX7_makes_45 : decode cX7_makes 45 = .ok (.aload_n 0, 1) := by decide +kernel
theorem dX7_makes_46 : decode cX7_makes 46 = .ok (.getfield 121, 3) := by decide +kernel
theorem dX7_makes_49 : decode cX7_makes 49 = .ok (.iload 5, 2) := by decide +kernel
theorem dX7_makes_51 : decode cX7_makes 51 = .ok (.iastore, 1) := by decide +kernel
theorem dX7_makes_52 : decode cX7_makes 52 = .ok (.aload_n 0, 1) := by decide +kernel
theorem dX7_makes_53 : decode cX7_makes 53 = .ok (.dup, 1) := by decide +kernel
theorem dX7_makes_54 : decode cX7_makes 54 = .ok (.getfield 121, 3) := by decide +kernel
theorem dX7_makes_57 : decode cX7_makes 57 = .ok (.iconst 1, 1) := by decide +kernel
theorem dX7_makes_58 : decode cX7_makes 58 = .ok (.iadd, 1) := by decide +kernel
theorem dX7_makes_59 : decode cX7_makes 59 = .ok (.putfield 121, 3) := by decide +kernel
theorem dX7_makes_62 : decode cX7_makes 62 = .ok (.aload_n 0, 1) := by decide +kernel
theorem dX7_makes_63 : decode cX7_makes 63 = .ok (.getfield 121, 3) := by decide +kernel
theorem dX7_makes_66 : decode cX7_makes 66 = .ok (.iconst 1, 1) := by decide +kernel
theorem dX7_makes_67 : decode cX7_makes 67 = .ok (.isub, 1) := by decide +kernel
theorem dX7_makes_68 : decode cX7_makes 68 = .ok (.ireturn, 1) := by decide +kernel
set_option maxRecDepth 20000 in
theorem ggX7_source_X7_in : GoodIn wsX7_source wsX7_in := goodIn_r _ [6] (by decide +kernel) (by decide +kernel)
set_option maxRecDepth 20000 in
theorem gX7_source_X7_in : GoodIn wsX7_source (va_wsS RX7 124 yX7_in wsX7_in) := goodIn_app (goodIn_of _ (by decide +kernel)) ggX7_source_X7_in
set_option maxRecDepth 20000 in
theorem ggX7_source_X7_holds : GoodIn wsX7_source wsX7_holds := goodIn_r _ [10, 11, 21, 22, 23, 24, 25, 26, 27, 28, 29, 30, 31, 32, 33, 34, 35, 36, 37, 38, 39, 40, 41, 42, 43, 44, 45, 46, 47, 48, 49, 50, 51, 52, 53, 54, 55, 56, 57, 58, 59, 60, 61] (by decide +kernel) (by decide +kernel)
set_option maxRecDepth 20000 in
theorem gX7_source_X7_holds : GoodIn wsX7_source (wsV RX7 135 RX7 yX7_holds wsX7_holds) := goodIn_app (goodIn_of _ (by decide +kernel)) ggX7_source_X7_holds
set_option maxRecDepth 20000 in
theorem ggX7_source_X7_makes : GoodIn wsX7_source wsX7_makes := goodIn_r _ [15, 16, 1, 17, 18, 19, 20, 21, 22, 23, 24, 25, 26, 27, 28, 29, 30, 31, 32, 33, 34, 35, 36, 37, 38, 39, 40, 41, 42, 43, 44, 45, 46, 47, 48, 49, 50, 51, 52, 53, 54, 55, 56, 57, 58, 59, 60, 61] (by decide +kernel) (by decide +kernel)
set_option maxRecDepth 20000 in
theorem gX7_source_X7_makes : GoodIn wsX7_source (wsV RX7 139 RX7 yX7_makes wsX7_makes) := goodIn_app (goodIn_of _ (by decide +kernel)) ggX7_source_X7_makes
theorem dX7_source_0 : decode cX7_source 0 = .ok (.iload_n 1, 1) := by decide +kernel
theorem dX7_source_1 : decode cX7_source 1 = .ok (.iconst 0, 1) := by decide +kernel
theorem dX7_source_2 : decode cX7_source 2 = .ok (.sipush 999, 3) := by decide +kernel
theorem dX7_source_5 : decode cX7_source 5 = .ok (.invokestatic 124, 3) := by decide +kernel
theorem dX7_source_8 : decode cX7_source 8 = .ok (.ifCond .eq 18, 3) := by decide +kernel
theorem dX7_source_11 : decode cX7_source 11 = .ok (.iload_n 2, 1) := by decide +kernel
theorem dX7_source_12 : decode cX7_source 12 = .ok (.iconst 0, 1) := by decide +kernel
theorem dX7_source_13 : decode cX7_source 13 = .ok (.sipush 300, 3) := by decide +kernel
theorem dX7_source_16 : decode cX7_source 16 = .ok (.invokestatic 124, 3) := by decide +kernel
theorem dX7_source_19 : decode cX7_source 19 = .ok (.ifCond .eq 7, 3) := by decide +kernel
theorem dX7_source_22 : decode cX7_source 22 = .ok (.iconst 1, 1) := by decide +kernel
theorem dX7_source_23 : decode cX7_source 23 = .ok (.goto 4, 3) := by decide +kernel
theorem dX7_source_26 : decode cX7_source 26 = .ok (.iconst 0, 1) := by decide +kernel
theorem dX7_source_27 : decode cX7_source 27 = .ok (.istore_n 3, 1) := by decide +kernel
theorem dX7_source_28 : decode cX7_source 28 = .ok (.aload_n 0, 1) := by decide +kernel
theorem dX7_source_29 : decode cX7_source 29 = .ok (.iload_n 3, 1) := by decide +kernel
theorem dX7_source_30 : decode cX7_source 30 = .ok (.ifCond .ne 7, 3) := by decide +kernel
theorem dX7_source_33 : decode cX7_source 33 = .ok (.iconst 1, 1) := by decide +kernel
theorem dX7_source_34 : decode cX7_source 34 = .ok (.goto 24, 3) := by decide +kernel
theorem dX7_source_37 : decode cX7_source 37 = .ok (.aload_n 0, 1) := by decide +kernel
theorem dX7_source_38 : decode cX7_source 38 = .ok (.getfield 121, 3) := by decide +kernel
theorem dX7_source_41 : decode cX7_source 41 = .ok (.bipush 12, 2) := by decide +kernel
theorem dX7_source_43 : decode cX7_source 43 = .ok (.if_icmp .eq 10, 3) := by decide +kernel
theorem dX7_source_46 : decode cX7_source 46 = .ok (.aload_n 0, 1) := by decide +kernel
theorem dX7_source_47 : decode cX7_source 47 = .ok (.getfield 132, 3) := by decide +kernel
theorem dX7_source_50 : decode cX7_source 50 = .ok (.ifCond .le 7, 3) := by decide +kernel
theorem dX7_source_53 : decode cX7_source 53 = .ok (.iconst 2, 1) := by decide +kernel
theorem dX7_source_54 : decode cX7_source 54 = .ok (.goto 4, 3) := by decide +kernel
theorem dX7_source_57 : decode cX7_source 57 = .ok (.iconst 0, 1) := by decide +kernel
theorem dX7_source_58 : decode cX7_source 58 = .ok (.invokevirtual 135, 3) := by decide +kernel
theorem dX7_source_61 : decode cX7_source 61 = .ok (.ifCond .ne 5, 3) := by decide +kernel
theorem dX7_source_64 : decode cX7_source 64 = .ok (.iconst 0, 1) := by decide +kernel
theorem dX7_source_65 : decode cX7_source 65 = .ok (.ireturn, 1) := by decide +kernel
theorem dX7_source_66 : decode cX7_source 66 = .ok (.aload_n 0, 1) := by decide +kernel
theorem dX7_source_67 : decode cX7_source 67 = .ok (.iconst 0, 1) := by decide +kernel
theorem dX7_source_68 : decode cX7_source 68 = .ok (.iconst (-1), 1) := by decide +kernel
theorem dX7_source_69 : decode cX7_source 69 = .ok (.iconst (-1), 1) := by decide +kernel
theorem dX7_source_70 : decode cX7_source 70 = .ok (.iload_n 1, 1) := by decide +kernel
theorem dX7_source_71 : decode cX7_source 71 = .ok (.iload_n 2, 1) := by decide +kernel
theorem dX7_source_72 : decode cX7_source 72 = .ok (.invokevirtual 139, 3) := by decide +kernel
theorem dX7_source_75 : decode cX7_source 75 = .ok (.ireturn, 1) := by decide +kernel
set_option maxRecDepth 20000 in
theorem ggX7_unit_X7_in : GoodIn wsX7_unit wsX7_in := goodIn_r _ [6] (by decide +kernel) (by decide +kernel)
set_option maxRecDepth 20000 in
theorem gX7_unit_X7_in : GoodIn wsX7_unit (va_wsS RX7 124 yX7_in wsX7_in) := goodIn_app (goodIn_of _ (by decide +kernel)) ggX7_unit_X7_in
set_option maxRecDepth 20000 in
theorem ggX7_unit_X7_takesTwo : GoodIn wsX7_unit wsX7_takesTwo := goodIn_r _ [9] (by decide +kernel) (by decide +kernel)
set_option maxRecDepth 20000 in
theorem gX7_unit_X7_takesTwo : GoodIn wsX7_unit (va_wsS RX7 143 yX7_takesTwo wsX7_takesTwo) := goodIn_app (goodIn_of _ (by decide +kernel)) ggX7_unit_X7_takesTwo
set_option maxRecDepth 20000 in
theorem ggX7_unit_X7_mostOf : GoodIn wsX7_unit wsX7_mostOf := goodIn_r _ [12, 13] (by decide +kernel) (by decide +kernel)
set_option maxRecDepth 20000 in
theorem gX7_unit_X7_mostOf : GoodIn wsX7_unit (va_wsS RX7 146 yX7_mostOf wsX7_mostOf) := goodIn_app (goodIn_of _ (by decide +kernel)) ggX7_unit_X7_mostOf
set_option maxRecDepth 20000 in
theorem ggX7_unit_X7_isTaken : GoodIn wsX7_unit wsX7_isTaken := goodIn_r _ [17, 1, 18, 19, 32, 33, 34, 35, 36, 37, 38, 39, 40, 41, 42, 43, 44, 45, 46, 47, 48, 49, 50, 51, 52, 53, 54, 55, 56, 57, 58, 59, 60, 61, 62, 63, 64, 65, 66, 67, 68, 69, 70, 71, 72] (by decide +kernel) (by decide +kernel)
set_option maxRecDepth 20000 in
theorem gX7_unit_X7_isTaken : GoodIn wsX7_unit (wsV RX7 150 RX7 yX7_isTaken wsX7_isTaken) := goodIn_app (goodIn_of _ (by decide +kernel)) ggX7_unit_X7_isTaken
set_option maxRecDepth 20000 in
theorem ggX7_unit_X7_holds : GoodIn wsX7_unit wsX7_holds := goodIn_r _ [23, 24, 32, 33, 34, 35, 36, 37, 38, 39, 40, 41, 42, 43, 44, 45, 46, 47, 48, 49, 50, 51, 52, 53, 54, 55, 56, 57, 58, 59, 60, 61, 62, 63, 64, 65, 66, 67, 68, 69, 70, 71, 72] (by decide +kernel) (by decide +kernel)
set_option maxRecDepth 20000 in
theorem gX7_unit_X7_holds : GoodIn wsX7_unit (wsV RX7 135 RX7 yX7_holds wsX7_holds) := goodIn_app (goodIn_of _ (by decide +kernel)) ggX7_unit_X7_holds
set_option maxRecDepth 20000 in
theorem ggX7_unit_X7_makes : GoodIn wsX7_unit wsX7_makes := goodIn_r _ [28, 29, 1, 18, 19, 30, 31, 32, 33, 34, 35, 36, 37, 38, 39, 40, 41, 42, 43, 44, 45, 46, 47, 48, 49, 50, 51, 52, 53, 54, 55, 56, 57, 58, 59, 60, 61, 62, 63, 64, 65, 66, 67, 68, 69, 70, 71, 72] (by decide +kernel) (by decide +kernel)
set_option maxRecDepth 20000 in
theorem gX7_unit_X7_makes : GoodIn wsX7_unit (wsV RX7 139 RX7 yX7_makes wsX7_makes) := goodIn_app (goodIn_of _ (by decide +kernel)) ggX7_unit_X7_makes
theorem dX7_unit_0 : decode cX7_unit 0 = .ok (.iload_n 1, 1) := by decide +kernel
theorem dX7_unit_1 : decode cX7_unit 1 = .ok (.iconst 1, 1) := by decide +kernel
theorem dX7_unit_2 : decode cX7_unit 2 = .ok (.iconst 4, 1) := by decide +kernel
theorem dX7_unit_3 : decode cX7_unit 3 = .ok (.invokestatic 124, 3) := by decide +kernel
theorem dX7_unit_6 : decode cX7_unit 6 = .ok (.istore 5, 2) := by decide +kernel
theorem dX7_unit_8 : decode cX7_unit 8 = .ok (.iload_n 1, 1) := by decide +kernel
theorem dX7_unit_9 : decode cX7_unit 9 = .ok (.invokestatic 143, 3) := by decide +kernel
theorem dX7_unit_12 : decode cX7_unit 12 = .ok (.istore 6, 2) := by decide +kernel
theorem dX7_unit_14 : decode cX7_unit 14 = .ok (.iconst 2, 1) := by decide +kernel
theorem dX7_unit_15 : decode cX7_unit 15 = .ok (.aload_n 0, 1) := by decide +kernel
theorem dX7_unit_16 : decode cX7_unit 16 = .ok (.getfield 121, 3) := by decide +kernel
theorem dX7_unit_19 : decode cX7_unit 19 = .ok (.imul, 1) := by decide +kernel
theorem dX7_unit_20 : decode cX7_unit 20 = .ok (.iconst 1, 1) := by decide +kernel
theorem dX7_unit_21 : decode cX7_unit 21 = .ok (.iadd, 1) := by decide +kernel
theorem dX7_unit_22 : decode cX7_unit 22 = .ok (.istore 7, 2) := by decide +kernel
theorem dX7_unit_24 : decode cX7_unit 24 = .ok (.iload_n 2, 1) := by decide +kernel
theorem dX7_unit_25 : decode cX7_unit 25 = .ok (.iconst 0, 1) := by decide +kernel
theorem dX7_unit_26 : decode cX7_unit 26 = .ok (.iload 7, 2) := by decide +kernel
theorem dX7_unit_28 : decode cX7_unit 28 = .ok (.invokestatic 124, 3) := by decide +kernel
theorem dX7_unit_31 : decode cX7_unit 31 = .ok (.ifCond .eq 22, 3) := by decide +kernel
theorem dX7_unit_34 : decode cX7_unit 34 = .ok (.iload 6, 2) := by decide +kernel
theorem dX7_unit_36 : decode cX7_unit 36 = .ok (.ifCond .eq 13, 3) := by decide +kernel
theorem dX7_unit_39 : decode cX7_unit 39 = .ok (.iload_n 3, 1) := by decide +kernel
theorem dX7_unit_40 : decode cX7_unit 40 = .ok (.iconst 0, 1) := by decide +kernel
theorem dX7_unit_41 : decode cX7_unit 41 = .ok (.iload 7, 2) := by decide +kernel
theorem dX7_unit_43 : decode cX7_unit 43 = .ok (.invokestatic 124, 3) := by decide +kernel
theorem dX7_unit_46 : decode cX7_unit 46 = .ok (.ifCond .eq 7, 3) := by decide +kernel
theorem dX7_unit_49 : decode cX7_unit 49 = .ok (.iconst 1, 1) := by decide +kernel
theorem dX7_unit_50 : decode cX7_unit 50 = .ok (.goto 4, 3) := by decide +kernel
theorem dX7_unit_53 : decode cX7_unit 53 = .ok (.iconst 0, 1) := by decide +kernel
theorem dX7_unit_54 : decode cX7_unit 54 = .ok (.istore 8, 2) := by decide +kernel
theorem dX7_unit_56 : decode cX7_unit 56 = .ok (.iload_n 1, 1) := by decide +kernel
theorem dX7_unit_57 : decode cX7_unit 57 = .ok (.iconst 2, 1) := by decide +kernel
theorem dX7_unit_58 : decode cX7_unit 58 = .ok (.if_icmp .eq 16, 3) := by decide +kernel
theorem dX7_unit_61 : decode cX7_unit 61 = .ok (.iload 4, 2) := by decide +kernel
theorem dX7_unit_63 : decode cX7_unit 63 = .ok (.iconst 0, 1) := by decide +kernel
theorem dX7_unit_64 : decode cX7_unit 64 = .ok (.iload_n 1, 1) := by decide +kernel
theorem dX7_unit_65 : decode cX7_unit 65 = .ok (.invokestatic 146, 3) := by decide +kernel
theorem dX7_unit_68 : decode cX7_unit 68 = .ok (.invokestatic 124, 3) := by decide +kernel
theorem dX7_unit_71 : decode cX7_unit 71 = .ok (.ifCond .eq 29, 3) := by decide +kernel
theorem dX7_unit_74 : decode cX7_unit 74 = .ok (.aload_n 0, 1) := by decide +kernel
theorem dX7_unit_75 : decode cX7_unit 75 = .ok (.iload_n 2, 1) := by decide +kernel
theorem dX7_unit_76 : decode cX7_unit 76 = .ok (.invokevirtual 150, 3) := by decide +kernel
theorem dX7_unit_79 : decode cX7_unit 79 = .ok (.ifCond .ne 21, 3) := by decide +kernel
theorem dX7_unit_82 : decode cX7_unit 82 = .ok (.iload 6, 2) := by decide +kernel
theorem dX7_unit_84 : decode cX7_unit 84 = .ok (.ifCond .eq 20, 3) := by decide +kernel
theorem dX7_unit_87 : decode cX7_unit 87 = .ok (.aload_n 0, 1) := by decide +kernel
theorem dX7_unit_88 : decode cX7_unit 88 = .ok (.iload_n 3, 1) := by decide +kernel
theorem dX7_unit_89 : decode cX7_unit 89 = .ok (.invokevirtual 150, 3) := by decide +kernel
theorem dX7_unit_92 : decode cX7_unit 92 = .ok (.ifCond .ne 8, 3) := by decide +kernel
theorem dX7_unit_95 : decode cX7_unit 95 = .ok (.iload_n 2, 1) := by decide +kernel
theorem dX7_unit_96 : decode cX7_unit 96 = .ok (.iload_n 3, 1) := by decide +kernel
theorem dX7_unit_97 : decode cX7_unit 97 = .ok (.if_icmp .ne 7, 3) := by decide +kernel
theorem dX7_unit_100 : decode cX7_unit 100 = .ok (.iconst 1, 1) := by decide +kernel
theorem dX7_unit_101 : decode cX7_unit 101 = .ok (.goto 4, 3) := by decide +kernel
theorem dX7_unit_104 : decode cX7_unit 104 = .ok (.iconst 0, 1) := by decide +kernel
theorem dX7_unit_105 : decode cX7_unit 105 = .ok (.istore 9, 2) := by decide +kernel
theorem dX7_unit_107 : decode cX7_unit 107 = .ok (.aload_n 0, 1) := by decide +kernel
theorem dX7_unit_108 : decode cX7_unit 108 = .ok (.iload 5, 2) := by decide +kernel
theorem dX7_unit_110 : decode cX7_unit 110 = .ok (.ifCond .ne 7, 3) := by decide +kernel
theorem dX7_unit_113 : decode cX7_unit 113 = .ok (.iconst 1, 1) := by decide +kernel
theorem dX7_unit_114 : decode cX7_unit 114 = .ok (.goto 38, 3) := by decide +kernel
theorem dX7_unit_117 : decode cX7_unit 117 = .ok (.iload 8, 2) := by decide +kernel
theorem dX7_unit_119 : decode cX7_unit 119 = .ok (.ifCond .ne 7, 3) := by decide +kernel
theorem dX7_unit_122 : decode cX7_unit 122 = .ok (.iconst 2, 1) := by decide +kernel
theorem dX7_unit_123 : decode cX7_unit 123 = .ok (.goto 29, 3) := by decide +kernel
theorem dX7_unit_126 : decode cX7_unit 126 = .ok (.iload 9, 2) := by decide +kernel
theorem dX7_unit_128 : decode cX7_unit 128 = .ok (.ifCond .ne 19, 3) := by decide +kernel
theorem dX7_unit_131 : decode cX7_unit 131 = .ok (.aload_n 0, 1) := by decide +kernel
theorem dX7_unit_132 : decode cX7_unit 132 = .ok (.getfield 121, 3) := by decide +kernel
theorem dX7_unit_135 : decode cX7_unit 135 = .ok (.bipush 12, 2) := by decide +kernel
theorem dX7_unit_137 : decode cX7_unit 137 = .ok (.if_icmp .eq 10, 3) := by decide +kernel
theorem dX7_unit_140 : decode cX7_unit 140 = .ok (.aload_n 0, 1) := by decide +kernel
theorem dX7_unit_141 : decode cX7_unit 141 = .ok (.getfield 132, 3) := by decide +kernel
theorem dX7_unit_144 : decode cX7_unit 144 = .ok (.ifCond .le 7, 3) := by decide +kernel
theorem dX7_unit_147 : decode cX7_unit 147 = .ok (.iconst 3, 1) := by decide +kernel
theorem dX7_unit_148 : decode cX7_unit 148 = .ok (.goto 4, 3) := by decide +kernel
theorem dX7_unit_151 : decode cX7_unit 151 = .ok (.iconst 0, 1) := by decide +kernel
theorem dX7_unit_152 : decode cX7_unit 152 = .ok (.invokevirtual 135, 3) := by decide +kernel
theorem dX7_unit_155 : decode cX7_unit 155 = .ok (.ifCond .ne 5, 3) := by decide +kernel
theorem dX7_unit_158 : decode cX7_unit 158 = .ok (.iconst 0, 1) := by decide +kernel
theorem dX7_unit_159 : decode cX7_unit 159 = .ok (.ireturn, 1) := by decide +kernel
theorem dX7_unit_160 : decode cX7_unit 160 = .ok (.aload_n 0, 1) := by decide +kernel
theorem dX7_unit_161 : decode cX7_unit 161 = .ok (.iload_n 1, 1) := by decide +kernel
theorem dX7_unit_162 : decode cX7_unit 162 = .ok (.iload_n 2, 1) := by decide +kernel
theorem dX7_unit_163 : decode cX7_unit 163 = .ok (.iload 6, 2) := by decide +kernel
theorem dX7_unit_165 : decode cX7_unit 165 = .ok (.ifCond .eq 7, 3) := by decide +kernel
theorem dX7_unit_168 : decode cX7_unit 168 = .ok (.iload_n 3, 1) := by decide +kernel
theorem dX7_unit_169 : decode cX7_unit 169 = .ok (.goto 4, 3) := by decide +kernel
theorem dX7_unit_172 : decode cX7_unit 172 = .ok (.iconst (-1), 1) := by decide +kernel
theorem dX7_unit_173 : decode cX7_unit 173 = .ok (.iload 4, 2) := by decide +kernel
theorem dX7_unit_175 : decode cX7_unit 175 = .ok (.iconst 0, 1) := by decide +kernel
theorem dX7_unit_176 : decode cX7_unit 176 = .ok (.invokevirtual 139, 3) := by decide +kernel
theorem dX7_unit_179 : decode cX7_unit 179 = .ok (.ireturn, 1) := by decide +kernel
set_option maxRecDepth 20000 in
theorem ggX7_back_X7_isUnit : GoodIn wsX7_back wsX7_isUnit := goodIn_r _ [8, 9, 10, 11, 7, 12, 27, 28, 29, 30, 31, 32, 33, 34, 35, 36, 37, 38, 39, 40, 41, 42, 43, 44, 45, 46, 47, 48, 49, 50, 51, 52, 53, 54, 55, 56, 57, 58, 59, 60, 61, 62, 63, 64, 65, 66, 67] (by decide +kernel) (by decide +kernel)
set_option maxRecDepth 20000 in
theorem gX7_back_X7_isUnit : GoodIn wsX7_back (wsV RX7 153 RX7 yX7_isUnit wsX7_isUnit) := goodIn_app (goodIn_of _ (by decide +kernel)) ggX7_back_X7_isUnit
set_option maxRecDepth 20000 in
theorem ggX7_back_X7_isStream : GoodIn wsX7_back wsX7_isStream := goodIn_r _ [16, 9, 10, 11, 7, 12, 27, 28, 29, 30, 31, 32, 33, 34, 35, 36, 37, 38, 39, 40, 41, 42, 43, 44, 45, 46, 47, 48, 49, 50, 51, 52, 53, 54, 55, 56, 57, 58, 59, 60, 61, 62, 63, 64, 65, 66, 67] (by decide +kernel) (by decide +kernel)
set_option maxRecDepth 20000 in
theorem gX7_back_X7_isStream : GoodIn wsX7_back (wsV RX7 156 RX7 yX7_isStream wsX7_isStream) := goodIn_app (goodIn_of _ (by decide +kernel)) ggX7_back_X7_isStream
set_option maxRecDepth 20000 in
theorem ggX7_back_X7_isTaken : GoodIn wsX7_back wsX7_isTaken := goodIn_r _ [20, 9, 3, 21, 27, 28, 29, 30, 31, 32, 33, 34, 35, 36, 37, 38, 39, 40, 41, 42, 43, 44, 45, 46, 47, 48, 49, 50, 51, 52, 53, 54, 55, 56, 57, 58, 59, 60, 61, 62, 63, 64, 65, 66, 67] (by decide +kernel) (by decide +kernel)
set_option maxRecDepth 20000 in
theorem gX7_back_X7_isTaken : GoodIn wsX7_back (wsV RX7 150 RX7 yX7_isTaken wsX7_isTaken) := goodIn_app (goodIn_of _ (by decide +kernel)) ggX7_back_X7_isTaken
set_option maxRecDepth 20000 in
theorem ggX7_back_X7_holds : GoodIn wsX7_back wsX7_holds := goodIn_r _ [25, 26, 27, 28, 29, 30, 31, 32, 33, 34, 35, 36, 37, 38, 39, 40, 41, 42, 43, 44, 45, 46, 47, 48, 49, 50, 51, 52, 53, 54, 55, 56, 57, 58, 59, 60, 61, 62, 63, 64, 65, 66, 67] (by decide +kernel) (by decide +kernel)
set_option maxRecDepth 20000 in
theorem gX7_back_X7_holds : GoodIn wsX7_back (wsV RX7 135 RX7 yX7_holds wsX7_holds) := goodIn_app (goodIn_of _ (by decide +kernel)) ggX7_back_X7_holds
theorem dX7_back_0 : decode cX7_back 0 = .ok (.aload_n 0, 1) := by decide +kernel
theorem dX7_back_1 : decode cX7_back 1 = .ok (.iload_n 1, 1) := by decide +kernel
theorem dX7_back_2 : decode cX7_back 2 = .ok (.invokevirtual 153, 3) := by decide +kernel
theorem dX7_back_5 : decode cX7_back 5 = .ok (.ifCond .eq 15, 3) := by decide +kernel
theorem dX7_back_8 : decode cX7_back 8 = .ok (.aload_n 0, 1) := by decide +kernel
theorem dX7_back_9 : decode cX7_back 9 = .ok (.iload_n 2, 1) := by decide +kernel
theorem dX7_back_10 : decode cX7_back 10 = .ok (.invokevirtual 156, 3) := by decide +kernel
theorem dX7_back_13 : decode cX7_back 13 = .ok (.ifCond .eq 7, 3) := by decide +kernel
theorem dX7_back_16 : decode cX7_back 16 = .ok (.iconst 1, 1) := by decide +kernel
theorem dX7_back_17 : decode cX7_back 17 = .ok (.goto 4, 3) := by decide +kernel
theorem dX7_back_20 : decode cX7_back 20 = .ok (.iconst 0, 1) := by decide +kernel
theorem dX7_back_21 : decode cX7_back 21 = .ok (.istore_n 3, 1) := by decide +kernel
theorem dX7_back_22 : decode cX7_back 22 = .ok (.aload_n 0, 1) := by decide +kernel
theorem dX7_back_23 : decode cX7_back 23 = .ok (.iload_n 3, 1) := by decide +kernel
theorem dX7_back_24 : decode cX7_back 24 = .ok (.ifCond .ne 7, 3) := by decide +kernel
theorem dX7_back_27 : decode cX7_back 27 = .ok (.iconst 1, 1) := by decide +kernel
theorem dX7_back_28 : decode cX7_back 28 = .ok (.goto 32, 3) := by decide +kernel
theorem dX7_back_31 : decode cX7_back 31 = .ok (.aload_n 0, 1) := by decide +kernel
theorem dX7_back_32 : decode cX7_back 32 = .ok (.getfield 7, 3) := by decide +kernel
theorem dX7_back_35 : decode cX7_back 35 = .ok (.iload_n 1, 1) := by decide +kernel
theorem dX7_back_36 : decode cX7_back 36 = .ok (.iaload, 1) := by decide +kernel
theorem dX7_back_37 : decode cX7_back 37 = .ok (.ifCond .eq 18, 3) := by decide +kernel
theorem dX7_back_40 : decode cX7_back 40 = .ok (.aload_n 0, 1) := by decide +kernel
theorem dX7_back_41 : decode cX7_back 41 = .ok (.iload_n 2, 1) := by decide +kernel
theorem dX7_back_42 : decode cX7_back 42 = .ok (.invokevirtual 150, 3) := by decide +kernel
theorem dX7_back_45 : decode cX7_back 45 = .ok (.ifCond .ne 10, 3) := by decide +kernel
theorem dX7_back_48 : decode cX7_back 48 = .ok (.aload_n 0, 1) := by decide +kernel
theorem dX7_back_49 : decode cX7_back 49 = .ok (.getfield 132, 3) := by decide +kernel
theorem dX7_back_52 : decode cX7_back 52 = .ok (.ifCond .le 7, 3) := by decide +kernel
theorem dX7_back_55 : decode cX7_back 55 = .ok (.iconst 2, 1) := by decide +kernel
theorem dX7_back_56 : decode cX7_back 56 = .ok (.goto 4, 3) := by decide +kernel
theorem dX7_back_59 : decode cX7_back 59 = .ok (.iconst 0, 1) := by decide +kernel
theorem dX7_back_60 : decode cX7_back 60 = .ok (.invokevirtual 135, 3) := by decide +kernel
theorem dX7_back_63 : decode cX7_back 63 = .ok (.ifCond .ne 5, 3) := by decide +kernel
theorem dX7_back_66 : decode cX7_back 66 = .ok (.iconst 0, 1) := by decide +kernel
theorem dX7_back_67 : decode cX7_back 67 = .ok (.ireturn, 1) := by decide +kernel
theorem dX7_back_68 : decode cX7_back 68 = .ok (.aload_n 0, 1) := by decide +kernel
theorem dX7_back_69 : decode cX7_back 69 = .ok (.getfield 19, 3) := by decide +kernel
theorem dX7_back_72 : decode cX7_back 72 = .ok (.iload_n 1, 1) := by decide +kernel
theorem dX7_back_73 : decode cX7_back 73 = .ok (.iaload, 1) := by decide +kernel
theorem dX7_back_74 : decode cX7_back 74 = .ok (.istore 4, 2) := by decide +kernel
theorem dX7_back_76 : decode cX7_back 76 = .ok (.aload_n 0, 1) := by decide +kernel
theorem dX7_back_77 : decode cX7_back 77 = .ok (.getfield 19, 3) := by decide +kernel
theorem dX7_back_80 : decode cX7_back 80 = .ok (.iload_n 1, 1) := by decide +kernel
theorem dX7_back_81 : decode cX7_back 81 = .ok (.iload_n 2, 1) := by decide +kernel
theorem dX7_back_82 : decode cX7_back 82 = .ok (.iastore, 1) := by decide +kernel
theorem dX7_back_83 : decode cX7_back 83 = .ok (.iload 4, 2) := by decide +kernel
theorem dX7_back_85 : decode cX7_back 85 = .ok (.ireturn, 1) := by decide +kernel
set_option maxRecDepth 20000 in
theorem ggX7_canBe_X7_mostOf : GoodIn wsX7_canBe wsX7_mostOf := goodIn_r _ [5, 6] (by decide +kernel) (by decide +kernel)
set_option maxRecDepth 20000 in
theorem gX7_canBe_X7_mostOf : GoodIn wsX7_canBe (va_wsS RX7 146 yX7_mostOf wsX7_mostOf) := goodIn_app (goodIn_of _ (by decide +kernel)) ggX7_canBe_X7_mostOf
set_option maxRecDepth 20000 in
theorem ggX7_canBe_X7_in : GoodIn wsX7_canBe wsX7_in := goodIn_r _ [9] (by decide +kernel) (by decide +kernel)
set_option maxRecDepth 20000 in
theorem gX7_canBe_X7_in : GoodIn wsX7_canBe (va_wsS RX7 124 yX7_in wsX7_in) := goodIn_app (goodIn_of _ (by decide +kernel)) ggX7_canBe_X7_in
theorem dX7_canBe_0 : decode cX7_canBe 0 = .ok (.aload_n 0, 1) := by decide +kernel
theorem dX7_canBe_1 : decode cX7_canBe 1 = .ok (.getfield 7, 3) := by decide +kernel
theorem dX7_canBe_4 : decode cX7_canBe 4 = .ok (.iload_n 1, 1) := by decide +kernel
theorem dX7_canBe_5 : decode cX7_canBe 5 = .ok (.iaload, 1) := by decide +kernel
theorem dX7_canBe_6 : decode cX7_canBe 6 = .ok (.iconst 2, 1) := by decide +kernel
theorem dX7_canBe_7 : decode cX7_canBe 7 = .ok (.if_icmp .eq 24, 3) := by decide +kernel
theorem dX7_canBe_10 : decode cX7_canBe 10 = .ok (.iload_n 2, 1) := by decide +kernel
theorem dX7_canBe_11 : decode cX7_canBe 11 = .ok (.iconst 0, 1) := by decide +kernel
theorem dX7_canBe_12 : decode cX7_canBe 12 = .ok (.aload_n 0, 1) := by decide +kernel
theorem dX7_canBe_13 : decode cX7_canBe 13 = .ok (.getfield 7, 3) := by decide +kernel
theorem dX7_canBe_16 : decode cX7_canBe 16 = .ok (.iload_n 1, 1) := by decide +kernel
theorem dX7_canBe_17 : decode cX7_canBe 17 = .ok (.iaload, 1) := by decide +kernel
theorem dX7_canBe_18 : decode cX7_canBe 18 = .ok (.invokestatic 146, 3) := by decide +kernel
theorem dX7_canBe_21 : decode cX7_canBe 21 = .ok (.invokestatic 124, 3) := by decide +kernel
theorem dX7_canBe_24 : decode cX7_canBe 24 = .ok (.ifCond .eq 7, 3) := by decide +kernel
theorem dX7_canBe_27 : decode cX7_canBe 27 = .ok (.iconst 1, 1) := by decide +kernel
theorem dX7_canBe_28 : decode cX7_canBe 28 = .ok (.goto 4, 3) := by decide +kernel
theorem dX7_canBe_31 : decode cX7_canBe 31 = .ok (.iconst 0, 1) := by decide +kernel
theorem dX7_canBe_32 : decode cX7_canBe 32 = .ok (.ireturn, 1) := by decide +kernel
set_option maxRecDepth 20000 in
theorem ggX7_set_X7_isUnit : GoodIn wsX7_set wsX7_isUnit := goodIn_r _ [6, 7, 8, 9, 5, 10, 25, 26, 27, 28, 29, 30, 31, 32, 33, 34, 35, 36, 37, 38, 39, 40, 41, 42, 43, 44, 45, 46, 47, 48, 49, 50, 51, 52, 53, 54, 55, 56, 57, 58, 59, 60, 61, 62, 63, 64, 65] (by decide +kernel) (by decide +kernel)
set_option maxRecDepth 20000 in
theorem gX7_set_X7_isUnit : GoodIn wsX7_set (wsV RX7 153 RX7 yX7_isUnit wsX7_isUnit) := goodIn_app (goodIn_of _ (by decide +kernel)) ggX7_set_X7_isUnit
set_option maxRecDepth 20000 in
theorem ggX7_set_X7_canBe : GoodIn wsX7_set wsX7_canBe := goodIn_r _ [14, 15, 16, 17, 5, 18, 19, 8, 9, 10, 25, 26, 27, 28, 29, 30, 31, 32, 33, 34, 35, 36, 37, 38, 39, 40, 41, 42, 43, 44, 45, 46, 47, 48, 49, 50, 51, 52, 53, 54, 55, 56, 57, 58, 59, 60, 61, 62, 63, 64, 65] (by decide +kernel) (by decide +kernel)
set_option maxRecDepth 20000 in
theorem gX7_set_X7_canBe : GoodIn wsX7_set (wsV RX7 159 RX7 yX7_canBe wsX7_canBe) := goodIn_app (goodIn_of _ (by decide +kernel)) ggX7_set_X7_canBe
set_option maxRecDepth 20000 in
theorem ggX7_set_X7_holds : GoodIn wsX7_set wsX7_holds := goodIn_r _ [23, 24, 25, 26, 27, 28, 29, 30, 31, 32, 33, 34, 35, 36, 37, 38, 39, 40, 41, 42, 43, 44, 45, 46, 47, 48, 49, 50, 51, 52, 53, 54, 55, 56, 57, 58, 59, 60, 61, 62, 63, 64, 65] (by decide +kernel) (by decide +kernel)
set_option maxRecDepth 20000 in
theorem gX7_set_X7_holds : GoodIn wsX7_set (wsV RX7 135 RX7 yX7_holds wsX7_holds) := goodIn_app (goodIn_of _ (by decide +kernel)) ggX7_set_X7_holds
theorem dX7_set_0 : decode cX7_set 0 = .ok (.aload_n 0, 1) := by decide +kernel
theorem dX7_set_1 : decode cX7_set 1 = .ok (.iload_n 1, 1) := by decide +kernel
theorem dX7_set_2 : decode cX7_set 2 = .ok (.invokevirtual 153, 3) := by decide +kernel
theorem dX7_set_5 : decode cX7_set 5 = .ok (.istore_n 3, 1) := by decide +kernel
theorem dX7_set_6 : decode cX7_set 6 = .ok (.aload_n 0, 1) := by decide +kernel
theorem dX7_set_7 : decode cX7_set 7 = .ok (.iload_n 3, 1) := by decide +kernel
theorem dX7_set_8 : decode cX7_set 8 = .ok (.ifCond .ne 7, 3) := by decide +kernel
theorem dX7_set_11 : decode cX7_set 11 = .ok (.iconst 1, 1) := by decide +kernel
theorem dX7_set_12 : decode cX7_set 12 = .ok (.goto 17, 3) := by decide +kernel
theorem dX7_set_15 : decode cX7_set 15 = .ok (.aload_n 0, 1) := by decide +kernel
theorem dX7_set_16 : decode cX7_set 16 = .ok (.iload_n 1, 1) := by decide +kernel
theorem dX7_set_17 : decode cX7_set 17 = .ok (.iload_n 2, 1) := by decide +kernel
theorem dX7_set_18 : decode cX7_set 18 = .ok (.invokevirtual 159, 3) := by decide +kernel
theorem dX7_set_21 : decode cX7_set 21 = .ok (.ifCond .eq 7, 3) := by decide +kernel
theorem dX7_set_24 : decode cX7_set 24 = .ok (.iconst 0, 1) := by decide +kernel
theorem dX7_set_25 : decode cX7_set 25 = .ok (.goto 4, 3) := by decide +kernel
theorem dX7_set_28 : decode cX7_set 28 = .ok (.iconst 2, 1) := by decide +kernel
theorem dX7_set_29 : decode cX7_set 29 = .ok (.invokevirtual 135, 3) := by decide +kernel
theorem dX7_set_32 : decode cX7_set 32 = .ok (.ifCond .ne 5, 3) := by decide +kernel
theorem dX7_set_35 : decode cX7_set 35 = .ok (.iconst 0, 1) := by decide +kernel
theorem dX7_set_36 : decode cX7_set 36 = .ok (.ireturn, 1) := by decide +kernel
theorem dX7_set_37 : decode cX7_set 37 = .ok (.aload_n 0, 1) := by decide +kernel
theorem dX7_set_38 : decode cX7_set 38 = .ok (.getfield 13, 3) := by decide +kernel
theorem dX7_set_41 : decode cX7_set 41 = .ok (.iload_n 1, 1) := by decide +kernel
theorem dX7_set_42 : decode cX7_set 42 = .ok (.iaload, 1) := by decide +kernel
theorem dX7_set_43 : decode cX7_set 43 = .ok (.istore 4, 2) := by decide +kernel
theorem dX7_set_45 : decode cX7_set 45 = .ok (.aload_n 0, 1) := by decide +kernel
theorem dX7_set_46 : decode cX7_set 46 = .ok (.getfield 13, 3) := by decide +kernel
theorem dX7_set_49 : decode cX7_set 49 = .ok (.iload_n 1, 1) := by decide +kernel
theorem dX7_set_50 : decode cX7_set 50 = .ok (.iload_n 2, 1) := by decide +kernel
theorem dX7_set_51 : decode cX7_set 51 = .ok (.iastore, 1) := by decide +kernel
theorem dX7_set_52 : decode cX7_set 52 = .ok (.iload 4, 2) := by decide +kernel
theorem dX7_set_54 : decode cX7_set 54 = .ok (.ireturn, 1) := by decide +kernel
set_option maxRecDepth 20000 in
theorem ggX7_disturb_X7_isUnit : GoodIn wsX7_disturb wsX7_isUnit := goodIn_r _ [10, 11, 12, 13, 9, 14, 29, 30, 31, 32, 33, 34, 35, 36, 37, 38, 39, 40, 41, 42, 43, 44, 45, 46, 47, 48, 49, 50, 51, 52, 53, 54, 55, 56, 57, 58, 59, 60, 61, 62, 63, 64, 65, 66, 67, 68, 69] (by decide +kernel) (by decide +kernel)
set_option maxRecDepth 20000 in
theorem gX7_disturb_X7_isUnit : GoodIn wsX7_disturb (wsV RX7 153 RX7 yX7_isUnit wsX7_isUnit) := goodIn_app (goodIn_of _ (by decide +kernel)) ggX7_disturb_X7_isUnit
set_option maxRecDepth 20000 in
theorem ggX7_disturb_X7_in : GoodIn wsX7_disturb wsX7_in := goodIn_r _ [14] (by decide +kernel) (by decide +kernel)
set_option maxRecDepth 20000 in
theorem gX7_disturb_X7_in : GoodIn wsX7_disturb (va_wsS RX7 124 yX7_in wsX7_in) := goodIn_app (goodIn_of _ (by decide +kernel)) ggX7_disturb_X7_in
set_option maxRecDepth 20000 in
theorem ggX7_disturb_X7_canBe : GoodIn wsX7_disturb wsX7_canBe := goodIn_r _ [18, 19, 20, 21, 9, 22, 23, 12, 13, 14, 29, 30, 31, 32, 33, 34, 35, 36, 37, 38, 39, 40, 41, 42, 43, 44, 45, 46, 47, 48, 49, 50, 51, 52, 53, 54, 55, 56, 57, 58, 59, 60, 61, 62, 63, 64, 65, 66, 67, 68, 69] (by decide +kernel) (by decide +kernel)
set_option maxRecDepth 20000 in
theorem gX7_disturb_X7_canBe : GoodIn wsX7_disturb (wsV RX7 159 RX7 yX7_canBe wsX7_canBe) := goodIn_app (goodIn_of _ (by decide +kernel)) ggX7_disturb_X7_canBe
set_option maxRecDepth 20000 in
theorem ggX7_disturb_X7_holds : GoodIn wsX7_disturb wsX7_holds := goodIn_r _ [27, 28, 29, 30, 31, 32, 33, 34, 35, 36, 37, 38, 39, 40, 41, 42, 43, 44, 45, 46, 47, 48, 49, 50, 51, 52, 53, 54, 55, 56, 57, 58, 59, 60, 61, 62, 63, 64, 65, 66, 67, 68, 69] (by decide +kernel) (by decide +kernel)
set_option maxRecDepth 20000 in
theorem gX7_disturb_X7_holds : GoodIn wsX7_disturb (wsV RX7 135 RX7 yX7_holds wsX7_holds) := goodIn_app (goodIn_of _ (by decide +kernel)) ggX7_disturb_X7_holds
theorem dX7_disturb_0 : decode cX7_disturb 0 = .ok (.aload_n 0, 1) := by decide +kernel
theorem dX7_disturb_1 : decode cX7_disturb 1 = .ok (.iload_n 2, 1) := by decide +kernel
theorem dX7_disturb_2 : decode cX7_disturb 2 = .ok (.invokevirtual 153, 3) := by decide +kernel
theorem dX7_disturb_5 : decode cX7_disturb 5 = .ok (.istore 4, 2) := by decide +kernel
theorem dX7_disturb_7 : decode cX7_disturb 7 = .ok (.aload_n 0, 1) := by decide +kernel
theorem dX7_disturb_8 : decode cX7_disturb 8 = .ok (.iload 4, 2) := by decide +kernel
theorem dX7_disturb_10 : decode cX7_disturb 10 = .ok (.ifCond .ne 7, 3) := by decide +kernel
theorem dX7_disturb_13 : decode cX7_disturb 13 = .ok (.iconst 1, 1) := by decide +kernel
theorem dX7_disturb_14 : decode cX7_disturb 14 = .ok (.goto 46, 3) := by decide +kernel
theorem dX7_disturb_17 : decode cX7_disturb 17 = .ok (.iload_n 1, 1) := by decide +kernel
theorem dX7_disturb_18 : decode cX7_disturb 18 = .ok (.aload_n 0, 1) := by decide +kernel
theorem dX7_disturb_19 : decode cX7_disturb 19 = .ok (.getfield 132, 3) := by decide +kernel
theorem dX7_disturb_22 : decode cX7_disturb 22 = .ok (.iconst 1, 1) := by decide +kernel
theorem dX7_disturb_23 : decode cX7_disturb 23 = .ok (.iadd, 1) := by decide +kernel
theorem dX7_disturb_24 : decode cX7_disturb 24 = .ok (.sipush 300, 3) := by decide +kernel
theorem dX7_disturb_27 : decode cX7_disturb 27 = .ok (.invokestatic 124, 3) := by decide +kernel
theorem dX7_disturb_30 : decode cX7_disturb 30 = .ok (.ifCond .eq 12, 3) := by decide +kernel
theorem dX7_disturb_33 : decode cX7_disturb 33 = .ok (.aload_n 0, 1) := by decide +kernel
theorem dX7_disturb_34 : decode cX7_disturb 34 = .ok (.iload_n 2, 1) := by decide +kernel
theorem dX7_disturb_35 : decode cX7_disturb 35 = .ok (.iload_n 3, 1) := by decide +kernel
theorem dX7_disturb_36 : decode cX7_disturb 36 = .ok (.invokevirtual 159, 3) := by decide +kernel
theorem dX7_disturb_39 : decode cX7_disturb 39 = .ok (.ifCond .ne 7, 3) := by decide +kernel
theorem dX7_disturb_42 : decode cX7_disturb 42 = .ok (.iconst 2, 1) := by decide +kernel
theorem dX7_disturb_43 : decode cX7_disturb 43 = .ok (.goto 17, 3) := by decide +kernel
theorem dX7_disturb_46 : decode cX7_disturb 46 = .ok (.aload_n 0, 1) := by decide +kernel
theorem dX7_disturb_47 : decode cX7_disturb 47 = .ok (.getfield 163, 3) := by decide +kernel
theorem dX7_disturb_50 : decode cX7_disturb 50 = .ok (.bipush 40, 2) := by decide +kernel
theorem dX7_disturb_52 : decode cX7_disturb 52 = .ok (.if_icmp .ne 7, 3) := by decide +kernel
theorem dX7_disturb_55 : decode cX7_disturb 55 = .ok (.iconst 3, 1) := by decide +kernel
theorem dX7_disturb_56 : decode cX7_disturb 56 = .ok (.goto 4, 3) := by decide +kernel
theorem dX7_disturb_59 : decode cX7_disturb 59 = .ok (.iconst 0, 1) := by decide +kernel
theorem dX7_disturb_60 : decode cX7_disturb 60 = .ok (.invokevirtual 135, 3) := by decide +kernel
theorem dX7_disturb_63 : decode cX7_disturb 63 = .ok (.ifCond .ne 5, 3) := by decide +kernel
theorem dX7_disturb_66 : decode cX7_disturb 66 = .ok (.iconst 0, 1) := by decide +kernel
theorem dX7_disturb_67 : decode cX7_disturb 67 = .ok (.ireturn, 1) := by decide +kernel
theorem dX7_disturb_68 : decode cX7_disturb 68 = .ok (.aload_n 0, 1) := by decide +kernel
theorem dX7_disturb_69 : decode cX7_disturb 69 = .ok (.getfield 57, 3) := by decide +kernel
theorem dX7_disturb_72 : decode cX7_disturb 72 = .ok (.aload_n 0, 1) := by decide +kernel
theorem dX7_disturb_73 : decode cX7_disturb 73 = .ok (.getfield 163, 3) := by decide +kernel
theorem dX7_disturb_76 : decode cX7_disturb 76 = .ok (.iload_n 1, 1) := by decide +kernel
theorem dX7_disturb_77 : decode cX7_disturb 77 = .ok (.iastore, 1) := by decide +kernel
theorem dX7_disturb_78 : decode cX7_disturb 78 = .ok (.aload_n 0, 1) := by decide +kernel
theorem dX7_disturb_79 : decode cX7_disturb 79 = .ok (.getfield 60, 3) := by decide +kernel
theorem dX7_disturb_82 : decode cX7_disturb 82 = .ok (.aload_n 0, 1) := by decide +kernel
theorem dX7_disturb_83 : decode cX7_disturb 83 = .ok (.getfield 163, 3) := by decide +kernel
theorem dX7_disturb_86 : decode cX7_disturb 86 = .ok (.iload_n 2, 1) := by decide +kernel
theorem dX7_disturb_87 : decode cX7_disturb 87 = .ok (.iastore, 1) := by decide +kernel
theorem dX7_disturb_88 : decode cX7_disturb 88 = .ok (.aload_n 0, 1) := by decide +kernel
theorem dX7_disturb_89 : decode cX7_disturb 89 = .ok (.getfield 63, 3) := by decide +kernel
theorem dX7_disturb_92 : decode cX7_disturb 92 = .ok (.aload_n 0, 1) := by decide +kernel
theorem dX7_disturb_93 : decode cX7_disturb 93 = .ok (.getfield 163, 3) := by decide +kernel
theorem dX7_disturb_96 : decode cX7_disturb 96 = .ok (.iload_n 3, 1) := by decide +kernel
theorem dX7_disturb_97 : decode cX7_disturb 97 = .ok (.iastore, 1) := by decide +kernel
theorem dX7_disturb_98 : decode cX7_disturb 98 = .ok (.aload_n 0, 1) := by decide +kernel
theorem dX7_disturb_99 : decode cX7_disturb 99 = .ok (.dup, 1) := by decide +kernel
theorem dX7_disturb_100 : decode cX7_disturb 100 = .ok (.getfield 163, 3) := by decide +kernel
theorem dX7_disturb_103 : decode cX7_disturb 103 = .ok (.iconst 1, 1) := by decide +kernel
theorem dX7_disturb_104 : decode cX7_disturb 104 = .ok (.iadd, 1) := by decide +kernel
theorem dX7_disturb_105 : decode cX7_disturb 105 = .ok (.putfield 163, 3) := by decide +kernel
theorem dX7_disturb_108 : decode cX7_disturb 108 = .ok (.aload_n 0, 1) := by decide +kernel
theorem dX7_disturb_109 : decode cX7_disturb 109 = .ok (.getfield 163, 3) := by decide +kernel
theorem dX7_disturb_112 : decode cX7_disturb 112 = .ok (.ireturn, 1) := by decide +kernel
set_option maxRecDepth 20000 in
theorem ggX7_canDrive_X7_isUnit : GoodIn wsX7_canDrive wsX7_isUnit := goodIn_r _ [6, 7, 8, 9, 5, 10, 11, 12, 13, 14, 15, 16, 17, 18, 19, 20, 21, 22, 23, 24, 25, 26, 27, 28, 29, 30, 31, 32, 33, 34, 35, 36, 37, 38, 39, 40, 41, 42, 43, 44, 45, 46, 47, 48, 49, 50, 51] (by decide +kernel) (by decide +kernel)
set_option maxRecDepth 20000 in
theorem gX7_canDrive_X7_isUnit : GoodIn wsX7_canDrive (wsV RX7 153 RX7 yX7_isUnit wsX7_isUnit) := goodIn_app (goodIn_of _ (by decide +kernel)) ggX7_canDrive_X7_isUnit
set_option maxRecDepth 20000 in
theorem ggX7_canDrive_X7_in : GoodIn wsX7_canDrive wsX7_in := goodIn_r _ [10] (by decide +kernel) (by decide +kernel)
set_option maxRecDepth 20000 in
theorem gX7_canDrive_X7_in : GoodIn wsX7_canDrive (va_wsS RX7 124 yX7_in wsX7_in) := goodIn_app (goodIn_of _ (by decide +kernel)) ggX7_canDrive_X7_in
theorem dX7_canDrive_0 : decode cX7_canDrive 0 = .ok (.aload_n 0, 1) := by decide +kernel
theorem dX7_canDrive_1 : decode cX7_canDrive 1 = .ok (.iload_n 1, 1) := by decide +kernel
theorem dX7_canDrive_2 : decode cX7_canDrive 2 = .ok (.invokevirtual 153, 3) := by decide +kernel
theorem dX7_canDrive_5 : decode cX7_canDrive 5 = .ok (.ifCond .ne 19, 3) := by decide +kernel
theorem dX7_canDrive_8 : decode cX7_canDrive 8 = .ok (.iload_n 1, 1) := by decide +kernel
theorem dX7_canDrive_9 : decode cX7_canDrive 9 = .ok (.bipush 101, 2) := by decide +kernel
theorem dX7_canDrive_11 : decode cX7_canDrive 11 = .ok (.aload_n 0, 1) := by decide +kernel
theorem dX7_canDrive_12 : decode cX7_canDrive 12 = .ok (.getfield 128, 3) := by decide +kernel
theorem dX7_canDrive_15 : decode cX7_canDrive 15 = .ok (.iadd, 1) := by decide +kernel
theorem dX7_canDrive_16 : decode cX7_canDrive 16 = .ok (.bipush 105, 2) := by decide +kernel
theorem dX7_canDrive_18 : decode cX7_canDrive 18 = .ok (.invokestatic 124, 3) := by decide +kernel
theorem dX7_canDrive_21 : decode cX7_canDrive 21 = .ok (.ifCond .eq 7, 3) := by decide +kernel
theorem dX7_canDrive_24 : decode cX7_canDrive 24 = .ok (.iconst 1, 1) := by decide +kernel
theorem dX7_canDrive_25 : decode cX7_canDrive 25 = .ok (.goto 4, 3) := by decide +kernel
theorem dX7_canDrive_28 : decode cX7_canDrive 28 = .ok (.iconst 0, 1) := by decide +kernel
theorem dX7_canDrive_29 : decode cX7_canDrive 29 = .ok (.ireturn, 1) := by decide +kernel
theorem dX7_adds_0 : decode cX7_adds 0 = .ok (.aload_n 0, 1) := by decide +kernel
theorem dX7_adds_1 : decode cX7_adds 1 = .ok (.getfield 128, 3) := by decide +kernel
theorem dX7_adds_4 : decode cX7_adds 4 = .ok (.istore 7, 2) := by decide +kernel
theorem dX7_adds_6 : decode cX7_adds 6 = .ok (.aload_n 0, 1) := by decide +kernel
theorem dX7_adds_7 : decode cX7_adds 7 = .ok (.getfield 66, 3) := by decide +kernel
theorem dX7_adds_10 : decode cX7_adds 10 = .ok (.iload 7, 2) := by decide +kernel
theorem dX7_adds_12 : decode cX7_adds 12 = .ok (.iload_n 1, 1) := by decide +kernel
theorem dX7_adds_13 : decode cX7_adds 13 = .ok (.iastore, 1) := by decide +kernel
theorem dX7_adds_14 : decode cX7_adds 14 = .ok (.aload_n 0, 1) := by decide +kernel
theorem dX7_adds_15 : decode cX7_adds 15 = .ok (.getfield 69, 3) := by decide +kernel
theorem dX7_adds_18 : decode cX7_adds 18 = .ok (.iload 7, 2) := by decide +kernel
theorem dX7_adds_20 : decode cX7_adds 20 = .ok (.iload_n 2, 1) := by decide +kernel
theorem dX7_adds_21 : decode cX7_adds 21 = .ok (.iastore, 1) := by decide +kernel
theorem dX7_adds_22 : decode cX7_adds 22 = .ok (.aload_n 0, 1) := by decide +kernel
theorem dX7_adds_23 : decode cX7_adds 23 = .ok (.getfield 72, 3) := by decide +kernel
theorem dX7_adds_26 : decode cX7_adds 26 = .ok (.iload 7, 2) := by decide +kernel
theorem dX7_adds_28 : decode cX7_adds 28 = .ok (.iload_n 3, 1) := by decide +kernel
theorem dX7_adds_29 : decode cX7_adds 29 = .ok (.iastore, 1) := by decide +kernel
theorem dX7_adds_30 : decode cX7_adds 30 = .ok (.aload_n 0, 1) := by decide +kernel
theorem dX7_adds_31 : decode cX7_adds 31 = .ok (.getfield 75, 3) := by decide +kernel
theorem dX7_adds_34 : decode cX7_adds 34 = .ok (.iload 7, 2) := by decide +kernel
theorem dX7_adds_36 : decode cX7_adds 36 = .ok (.iload 4, 2) := by decide +kernel
theorem dX7_adds_38 : decode cX7_adds 38 = .ok (.iastore, 1) := by decide +kernel
theorem dX7_adds_39 : decode cX7_adds 39 = .ok (.aload_n 0, 1) := by decide +kernel
theorem dX7_adds_40 : decode cX7_adds 40 = .ok (.getfield 81, 3) := by decide +kernel
theorem dX7_adds_43 : decode cX7_adds 43 = .ok (.iload 7, 2) := by decide +kernel
theorem dX7_adds_45 : decode cX7_adds 45 = .ok (.iload 5, 2) := by decide +kernel
theorem dX7_adds_47 : decode cX7_adds 47 = .ok (.iastore, 1) := by decide +kernel
theorem dX7_adds_48 : decode cX7_adds 48 = .ok (.aload_n 0, 1) := by decide +kernel
theorem dX7_adds_49 : decode cX7_adds 49 = .ok (.getfield 78, 3) := by decide +kernel
theorem dX7_adds_52 : decode cX7_adds 52 = .ok (.iload 7, 2) := by decide +kernel
theorem dX7_adds_54 : decode cX7_adds 54 = .ok (.iload 6, 2) := by decide +kernel
theorem dX7_adds_56 : decode cX7_adds 56 = .ok (.iastore, 1) := by decide +kernel
theorem dX7_adds_57 : decode cX7_adds 57 = .ok (.aload_n 0, 1) := by decide +kernel
theorem dX7_adds_58 : decode cX7_adds 58 = .ok (.getfield 87, 3) := by decide +kernel
theorem dX7_adds_61 : decode cX7_adds 61 = .ok (.iload 7, 2) := by decide +kernel
theorem dX7_adds_63 : decode cX7_adds 63 = .ok (.iconst 0, 1) := by decide +kernel
theorem dX7_adds_64 : decode cX7_adds 64 = .ok (.iastore, 1) := by decide +kernel
theorem dX7_adds_65 : decode cX7_adds 65 = .ok (.aload_n 0, 1) := by decide +kernel
theorem dX7_adds_66 : decode cX7_adds 66 = .ok (.getfield 90, 3) := by decide +kernel
theorem dX7_adds_69 : decode cX7_adds 69 = .ok (.iload 7, 2) := by decide +kernel
theorem dX7_adds_71 : decode cX7_adds 71 = .ok (.sipush 500, 3) := by decide +kernel
theorem dX7_adds_74 : decode cX7_adds 74 = .ok (.iastore, 1) := by decide +kernel
theorem dX7_adds_75 : decode cX7_adds 75 = .ok (.aload_n 0, 1) := by decide +kernel
theorem dX7_adds_76 : decode cX7_adds 76 = .ok (.dup, 1) := by decide +kernel
theorem dX7_adds_77 : decode cX7_adds 77 = .ok (.getfield 128, 3) := by decide +kernel
theorem dX7_adds_80 : decode cX7_adds 80 = .ok (.iconst 1, 1) := by decide +kernel
theorem dX7_adds_81 : decode cX7_adds 81 = .ok (.iadd, 1) := by decide +kernel
theorem dX7_adds_82 : decode cX7_adds 82 = .ok (.putfield 128, 3) := by decide +kernel
theorem dX7_adds_85 : decode cX7_adds 85 = .ok (.iload 7, 2) := by decide +kernel
theorem dX7_adds_87 : decode cX7_adds 87 = .ok (.ireturn, 1) := by decide +kernel
theorem dX7_isMix_0 : decode cX7_isMix 0 = .ok (.iload_n 1, 1) := by decide +kernel
theorem dX7_isMix_1 : decode cX7_isMix 1 = .ok (.bipush 12, 2) := by decide +kernel
theorem dX7_isMix_3 : decode cX7_isMix 3 = .ok (.if_icmp .ge 17, 3) := by decide +kernel
theorem dX7_isMix_6 : decode cX7_isMix 6 = .ok (.aload_n 0, 1) := by decide +kernel
theorem dX7_isMix_7 : decode cX7_isMix 7 = .ok (.getfield 7, 3) := by decide +kernel
theorem dX7_isMix_10 : decode cX7_isMix 10 = .ok (.iload_n 1, 1) := by decide +kernel
theorem dX7_isMix_11 : decode cX7_isMix 11 = .ok (.iaload, 1) := by decide +kernel
theorem dX7_isMix_12 : decode cX7_isMix 12 = .ok (.iconst 2, 1) := by decide +kernel
theorem dX7_isMix_13 : decode cX7_isMix 13 = .ok (.if_icmp .ne 7, 3) := by decide +kernel
theorem dX7_isMix_16 : decode cX7_isMix 16 = .ok (.iconst 1, 1) := by decide +kernel
theorem dX7_isMix_17 : decode cX7_isMix 17 = .ok (.goto 4, 3) := by decide +kernel
theorem dX7_isMix_20 : decode cX7_isMix 20 = .ok (.iconst 0, 1) := by decide +kernel
theorem dX7_isMix_21 : decode cX7_isMix 21 = .ok (.ireturn, 1) := by decide +kernel
set_option maxRecDepth 20000 in
theorem ggX7_control_X7_isStream : GoodIn wsX7_control wsX7_isStream := goodIn_r _ [7, 8, 9, 10, 6, 11, 42, 43, 44, 45, 46, 47, 48, 49, 50, 51, 52, 53, 54, 55, 56, 57, 58, 59, 60, 61, 62, 63, 64, 65, 66, 67, 68, 69, 70, 71, 72, 73, 74, 75, 76, 77, 78, 79, 80, 81, 82] (by decide +kernel) (by decide +kernel)
set_option maxRecDepth 20000 in
theorem gX7_control_X7_isStream : GoodIn wsX7_control (wsV RX7 156 RX7 yX7_isStream wsX7_isStream) := goodIn_app (goodIn_of _ (by decide +kernel)) ggX7_control_X7_isStream
set_option maxRecDepth 20000 in
theorem ggX7_control_X7_canDrive : GoodIn wsX7_control wsX7_canDrive := goodIn_r _ [15, 2, 16, 17, 18, 6, 19, 8, 9, 10, 11, 42, 43, 44, 45, 46, 47, 48, 49, 50, 51, 52, 53, 54, 55, 56, 57, 58, 59, 60, 61, 62, 63, 64, 65, 66, 67, 68, 69, 70, 71, 72, 73, 74, 75, 76, 77, 78, 79, 80, 81, 82] (by decide +kernel) (by decide +kernel)
set_option maxRecDepth 20000 in
theorem gX7_control_X7_canDrive : GoodIn wsX7_control (wsV RX7 166 RX7 yX7_canDrive wsX7_canDrive) := goodIn_app (goodIn_of _ (by decide +kernel)) ggX7_control_X7_canDrive
set_option maxRecDepth 20000 in
theorem ggX7_control_X7_in : GoodIn wsX7_control wsX7_in := goodIn_r _ [11] (by decide +kernel) (by decide +kernel)
set_option maxRecDepth 20000 in
theorem gX7_control_X7_in : GoodIn wsX7_control (va_wsS RX7 124 yX7_in wsX7_in) := goodIn_app (goodIn_of _ (by decide +kernel)) ggX7_control_X7_in
set_option maxRecDepth 20000 in
theorem ggX7_control_X7_isMix : GoodIn wsX7_control wsX7_isMix := goodIn_r _ [23, 24, 42, 43, 44, 45, 46, 47, 48, 49, 50, 51, 52, 53, 54, 55, 56, 57, 58, 59, 60, 61, 62, 63, 64, 65, 66, 67, 68, 69, 70, 71, 72, 73, 74, 75, 76, 77, 78, 79, 80, 81, 82] (by decide +kernel) (by decide +kernel)
set_option maxRecDepth 20000 in
theorem gX7_control_X7_isMix : GoodIn wsX7_control (wsV RX7 169 RX7 yX7_isMix wsX7_isMix) := goodIn_app (goodIn_of _ (by decide +kernel)) ggX7_control_X7_isMix
set_option maxRecDepth 20000 in
theorem ggX7_control_X7_holds : GoodIn wsX7_control wsX7_holds := goodIn_r _ [28, 29, 42, 43, 44, 45, 46, 47, 48, 49, 50, 51, 52, 53, 54, 55, 56, 57, 58, 59, 60, 61, 62, 63, 64, 65, 66, 67, 68, 69, 70, 71, 72, 73, 74, 75, 76, 77, 78, 79, 80, 81, 82] (by decide +kernel) (by decide +kernel)
set_option maxRecDepth 20000 in
theorem gX7_control_X7_holds : GoodIn wsX7_control (wsV RX7 135 RX7 yX7_holds wsX7_holds) := goodIn_app (goodIn_of _ (by decide +kernel)) ggX7_control_X7_holds
set_option maxRecDepth 20000 in
theorem ggX7_control_X7_adds : GoodIn wsX7_control wsX7_adds := goodIn_r _ [33, 2, 34, 35, 36, 37, 38, 39, 40, 41, 42, 43, 44, 45, 46, 47, 48, 49, 50, 51, 52, 53, 54, 55, 56, 57, 58, 59, 60, 61, 62, 63, 64, 65, 66, 67, 68, 69, 70, 71, 72, 73, 74, 75, 76, 77, 78, 79, 80, 81, 82] (by decide +kernel) (by decide +kernel)
set_option maxRecDepth 20000 in
theorem gX7_control_X7_adds : GoodIn wsX7_control (wsV RX7 172 RX7 yX7_adds wsX7_adds) := goodIn_app (goodIn_of _ (by decide +kernel)) ggX7_control_X7_adds
theorem dX7_control_0 : decode cX7_control 0 = .ok (.aload_n 0, 1) := by decide +kernel
theorem dX7_control_1 : decode cX7_control 1 = .ok (.iload_n 1, 1) := by decide +kernel
theorem dX7_control_2 : decode cX7_control 2 = .ok (.invokevirtual 156, 3) := by decide +kernel
theorem dX7_control_5 : decode cX7_control 5 = .ok (.ifCond .eq 16, 3) := by decide +kernel
theorem dX7_control_8 : decode cX7_control 8 = .ok (.aload_n 0, 1) := by decide +kernel
theorem dX7_control_9 : decode cX7_control 9 = .ok (.iload 5, 2) := by decide +kernel
theorem dX7_control_11 : decode cX7_control 11 = .ok (.invokevirtual 166, 3) := by decide +kernel
theorem dX7_control_14 : decode cX7_control 14 = .ok (.ifCond .eq 7, 3) := by decide +kernel
theorem dX7_control_17 : decode cX7_control 17 = .ok (.iconst 1, 1) := by decide +kernel
theorem dX7_control_18 : decode cX7_control 18 = .ok (.goto 4, 3) := by decide +kernel
theorem dX7_control_21 : decode cX7_control 21 = .ok (.iconst 0, 1) := by decide +kernel
theorem dX7_control_22 : decode cX7_control 22 = .ok (.istore 6, 2) := by decide +kernel
theorem dX7_control_24 : decode cX7_control 24 = .ok (.iload_n 2, 1) := by decide +kernel
theorem dX7_control_25 : decode cX7_control 25 = .ok (.iconst 0, 1) := by decide +kernel
theorem dX7_control_26 : decode cX7_control 26 = .ok (.sipush 3000, 3) := by decide +kernel
theorem dX7_control_29 : decode cX7_control 29 = .ok (.invokestatic 124, 3) := by decide +kernel
theorem dX7_control_32 : decode cX7_control 32 = .ok (.ifCond .eq 29, 3) := by decide +kernel
theorem dX7_control_35 : decode cX7_control 35 = .ok (.iload_n 3, 1) := by decide +kernel
theorem dX7_control_36 : decode cX7_control 36 = .ok (.bipush (-99), 2) := by decide +kernel
theorem dX7_control_38 : decode cX7_control 38 = .ok (.bipush 99, 2) := by decide +kernel
theorem dX7_control_40 : decode cX7_control 40 = .ok (.invokestatic 124, 3) := by decide +kernel
theorem dX7_control_43 : decode cX7_control 43 = .ok (.ifCond .eq 18, 3) := by decide +kernel
theorem dX7_control_46 : decode cX7_control 46 = .ok (.iload 4, 2) := by decide +kernel
theorem dX7_control_48 : decode cX7_control 48 = .ok (.iconst 0, 1) := by decide +kernel
theorem dX7_control_49 : decode cX7_control 49 = .ok (.ldc 131, 2) := by decide +kernel
theorem dX7_control_51 : decode cX7_control 51 = .ok (.invokestatic 124, 3) := by decide +kernel
theorem dX7_control_54 : decode cX7_control 54 = .ok (.ifCond .eq 7, 3) := by decide +kernel
theorem dX7_control_57 : decode cX7_control 57 = .ok (.iconst 1, 1) := by decide +kernel
theorem dX7_control_58 : decode cX7_control 58 = .ok (.goto 4, 3) := by decide +kernel
theorem dX7_control_61 : decode cX7_control 61 = .ok (.iconst 0, 1) := by decide +kernel
theorem dX7_control_62 : decode cX7_control 62 = .ok (.istore 7, 2) := by decide +kernel
theorem dX7_control_64 : decode cX7_control 64 = .ok (.aload_n 0, 1) := by decide +kernel
theorem dX7_control_65 : decode cX7_control 65 = .ok (.iload 6, 2) := by decide +kernel
theorem dX7_control_67 : decode cX7_control 67 = .ok (.ifCond .ne 7, 3) := by decide +kernel
theorem dX7_control_70 : decode cX7_control 70 = .ok (.iconst 1, 1) := by decide +kernel
theorem dX7_control_71 : decode cX7_control 71 = .ok (.goto 35, 3) := by decide +kernel
theorem dX7_control_74 : decode cX7_control 74 = .ok (.iload 7, 2) := by decide +kernel
theorem dX7_control_76 : decode cX7_control 76 = .ok (.ifCond .eq 12, 3) := by decide +kernel
theorem dX7_control_79 : decode cX7_control 79 = .ok (.aload_n 0, 1) := by decide +kernel
theorem dX7_control_80 : decode cX7_control 80 = .ok (.iload 5, 2) := by decide +kernel
theorem dX7_control_82 : decode cX7_control 82 = .ok (.invokevirtual 169, 3) := by decide +kernel
theorem dX7_control_85 : decode cX7_control 85 = .ok (.ifCond .eq 7, 3) := by decide +kernel
theorem dX7_control_88 : decode cX7_control 88 = .ok (.iconst 2, 1) := by decide +kernel
theorem dX7_control_89 : decode cX7_control 89 = .ok (.goto 17, 3) := by decide +kernel
theorem dX7_control_92 : decode cX7_control 92 = .ok (.aload_n 0, 1) := by decide +kernel
theorem dX7_control_93 : decode cX7_control 93 = .ok (.getfield 128, 3) := by decide +kernel
theorem dX7_control_96 : decode cX7_control 96 = .ok (.bipush 6, 2) := by decide +kernel
theorem dX7_control_98 : decode cX7_control 98 = .ok (.if_icmp .ne 7, 3) := by decide +kernel
theorem dX7_control_101 : decode cX7_control 101 = .ok (.iconst 3, 1) := by decide +kernel
theorem dX7_control_102 : decode cX7_control 102 = .ok (.goto 4, 3) := by decide +kernel
theorem dX7_control_105 : decode cX7_control 105 = .ok (.iconst 0, 1) := by decide +kernel
theorem dX7_control_106 : decode cX7_control 106 = .ok (.invokevirtual 135, 3) := by decide +kernel
theorem dX7_control_109 : decode cX7_control 109 = .ok (.ifCond .ne 5, 3) := by decide +kernel
theorem dX7_control_112 : decode cX7_control 112 = .ok (.iconst 0, 1) := by decide +kernel
theorem dX7_control_113 : decode cX7_control 113 = .ok (.ireturn, 1) := by decide +kernel
theorem dX7_control_114 : decode cX7_control 114 = .ok (.aload_n 0, 1) := by decide +kernel
theorem dX7_control_115 : decode cX7_control 115 = .ok (.iload_n 1, 1) := by decide +kernel
theorem dX7_control_116 : decode cX7_control 116 = .ok (.iload_n 2, 1) := by decide +kernel
theorem dX7_control_117 : decode cX7_control 117 = .ok (.iload_n 3, 1) := by decide +kernel
theorem dX7_control_118 : decode cX7_control 118 = .ok (.iload 4, 2) := by decide +kernel
theorem dX7_control_120 : decode cX7_control 120 = .ok (.iconst (-1), 1) := by decide +kernel
theorem dX7_control_121 : decode cX7_control 121 = .ok (.iload 5, 2) := by decide +kernel
theorem dX7_control_123 : decode cX7_control 123 = .ok (.invokevirtual 172, 3) := by decide +kernel
theorem dX7_control_126 : decode cX7_control 126 = .ok (.ireturn, 1) := by decide +kernel
set_option maxRecDepth 20000 in
theorem ggX7_ratio_X7_isStream : GoodIn wsX7_ratio wsX7_isStream := goodIn_r _ [6, 7, 8, 9, 5, 10, 37, 38, 39, 40, 41, 42, 43, 44, 45, 46, 47, 48, 49, 50, 51, 52, 53, 54, 55, 56, 57, 58, 59, 60, 61, 62, 63, 64, 65, 66, 67, 68, 69, 70, 71, 72, 73, 74, 75, 76, 77] (by decide +kernel) (by decide +kernel)
set_option maxRecDepth 20000 in
theorem gX7_ratio_X7_isStream : GoodIn wsX7_ratio (wsV RX7 156 RX7 yX7_isStream wsX7_isStream) := goodIn_app (goodIn_of _ (by decide +kernel)) ggX7_ratio_X7_isStream
set_option maxRecDepth 20000 in
theorem ggX7_ratio_X7_isUnit : GoodIn wsX7_ratio wsX7_isUnit := goodIn_r _ [14, 7, 8, 9, 5, 10, 37, 38, 39, 40, 41, 42, 43, 44, 45, 46, 47, 48, 49, 50, 51, 52, 53, 54, 55, 56, 57, 58, 59, 60, 61, 62, 63, 64, 65, 66, 67, 68, 69, 70, 71, 72, 73, 74, 75, 76, 77] (by decide +kernel) (by decide +kernel)
set_option maxRecDepth 20000 in
theorem gX7_ratio_X7_isUnit : GoodIn wsX7_ratio (wsV RX7 153 RX7 yX7_isUnit wsX7_isUnit) := goodIn_app (goodIn_of _ (by decide +kernel)) ggX7_ratio_X7_isUnit
set_option maxRecDepth 20000 in
theorem ggX7_ratio_X7_in : GoodIn wsX7_ratio wsX7_in := goodIn_r _ [10] (by decide +kernel) (by decide +kernel)
set_option maxRecDepth 20000 in
theorem gX7_ratio_X7_in : GoodIn wsX7_ratio (va_wsS RX7 124 yX7_in wsX7_in) := goodIn_app (goodIn_of _ (by decide +kernel)) ggX7_ratio_X7_in
set_option maxRecDepth 20000 in
theorem ggX7_ratio_X7_isMix : GoodIn wsX7_ratio wsX7_isMix := goodIn_r _ [18, 19, 37, 38, 39, 40, 41, 42, 43, 44, 45, 46, 47, 48, 49, 50, 51, 52, 53, 54, 55, 56, 57, 58, 59, 60, 61, 62, 63, 64, 65, 66, 67, 68, 69, 70, 71, 72, 73, 74, 75, 76, 77] (by decide +kernel) (by decide +kernel)
set_option maxRecDepth 20000 in
theorem gX7_ratio_X7_isMix : GoodIn wsX7_ratio (wsV RX7 169 RX7 yX7_isMix wsX7_isMix) := goodIn_app (goodIn_of _ (by decide +kernel)) ggX7_ratio_X7_isMix
set_option maxRecDepth 20000 in
theorem ggX7_ratio_X7_holds : GoodIn wsX7_ratio wsX7_holds := goodIn_r _ [23, 24, 37, 38, 39, 40, 41, 42, 43, 44, 45, 46, 47, 48, 49, 50, 51, 52, 53, 54, 55, 56, 57, 58, 59, 60, 61, 62, 63, 64, 65, 66, 67, 68, 69, 70, 71, 72, 73, 74, 75, 76, 77] (by decide +kernel) (by decide +kernel)
set_option maxRecDepth 20000 in
theorem gX7_ratio_X7_holds : GoodIn wsX7_ratio (wsV RX7 135 RX7 yX7_holds wsX7_holds) := goodIn_app (goodIn_of _ (by decide +kernel)) ggX7_ratio_X7_holds
set_option maxRecDepth 20000 in
theorem ggX7_ratio_X7_adds : GoodIn wsX7_ratio wsX7_adds := goodIn_r _ [28, 1, 29, 30, 31, 32, 33, 34, 35, 36, 37, 38, 39, 40, 41, 42, 43, 44, 45, 46, 47, 48, 49, 50, 51, 52, 53, 54, 55, 56, 57, 58, 59, 60, 61, 62, 63, 64, 65, 66, 67, 68, 69, 70, 71, 72, 73, 74, 75, 76, 77] (by decide +kernel) (by decide +kernel)
set_option maxRecDepth 20000 in
theorem gX7_ratio_X7_adds : GoodIn wsX7_ratio (wsV RX7 172 RX7 yX7_adds wsX7_adds) := goodIn_app (goodIn_of _ (by decide +kernel)) ggX7_ratio_X7_adds
theorem dX7_ratio_0 : decode cX7_ratio 0 = .ok (.aload_n 0, 1) := by decide +kernel
theorem dX7_ratio_1 : decode cX7_ratio 1 = .ok (.iload_n 1, 1) := by decide +kernel
theorem dX7_ratio_2 : decode cX7_ratio 2 = .ok (.invokevirtual 156, 3) := by decide +kernel
theorem dX7_ratio_5 : decode cX7_ratio 5 = .ok (.ifCond .eq 15, 3) := by decide +kernel
theorem dX7_ratio_8 : decode cX7_ratio 8 = .ok (.aload_n 0, 1) := by decide +kernel
theorem dX7_ratio_9 : decode cX7_ratio 9 = .ok (.iload_n 3, 1) := by decide +kernel
theorem dX7_ratio_10 : decode cX7_ratio 10 = .ok (.invokevirtual 153, 3) := by decide +kernel
theorem dX7_ratio_13 : decode cX7_ratio 13 = .ok (.ifCond .eq 7, 3) := by decide +kernel
theorem dX7_ratio_16 : decode cX7_ratio 16 = .ok (.iconst 1, 1) := by decide +kernel
theorem dX7_ratio_17 : decode cX7_ratio 17 = .ok (.goto 4, 3) := by decide +kernel
theorem dX7_ratio_20 : decode cX7_ratio 20 = .ok (.iconst 0, 1) := by decide +kernel
theorem dX7_ratio_21 : decode cX7_ratio 21 = .ok (.istore 4, 2) := by decide +kernel
theorem dX7_ratio_23 : decode cX7_ratio 23 = .ok (.aload_n 0, 1) := by decide +kernel
theorem dX7_ratio_24 : decode cX7_ratio 24 = .ok (.iload 4, 2) := by decide +kernel
theorem dX7_ratio_26 : decode cX7_ratio 26 = .ok (.ifCond .ne 7, 3) := by decide +kernel
theorem dX7_ratio_29 : decode cX7_ratio 29 = .ok (.iconst 1, 1) := by decide +kernel
theorem dX7_ratio_30 : decode cX7_ratio 30 = .ok (.goto 40, 3) := by decide +kernel
theorem dX7_ratio_33 : decode cX7_ratio 33 = .ok (.iload_n 2, 1) := by decide +kernel
theorem dX7_ratio_34 : decode cX7_ratio 34 = .ok (.iconst 0, 1) := by decide +kernel
theorem dX7_ratio_35 : decode cX7_ratio 35 = .ok (.sipush 999, 3) := by decide +kernel
theorem dX7_ratio_38 : decode cX7_ratio 38 = .ok (.invokestatic 124, 3) := by decide +kernel
theorem dX7_ratio_41 : decode cX7_ratio 41 = .ok (.ifCond .eq 11, 3) := by decide +kernel
theorem dX7_ratio_44 : decode cX7_ratio 44 = .ok (.aload_n 0, 1) := by decide +kernel
theorem dX7_ratio_45 : decode cX7_ratio 45 = .ok (.iload_n 3, 1) := by decide +kernel
theorem dX7_ratio_46 : decode cX7_ratio 46 = .ok (.invokevirtual 169, 3) := by decide +kernel
theorem dX7_ratio_49 : decode cX7_ratio 49 = .ok (.ifCond .eq 7, 3) := by decide +kernel
theorem dX7_ratio_52 : decode cX7_ratio 52 = .ok (.iconst 2, 1) := by decide +kernel
theorem dX7_ratio_53 : decode cX7_ratio 53 = .ok (.goto 17, 3) := by decide +kernel
theorem dX7_ratio_56 : decode cX7_ratio 56 = .ok (.aload_n 0, 1) := by decide +kernel
theorem dX7_ratio_57 : decode cX7_ratio 57 = .ok (.getfield 128, 3) := by decide +kernel
theorem dX7_ratio_60 : decode cX7_ratio 60 = .ok (.bipush 6, 2) := by decide +kernel
theorem dX7_ratio_62 : decode cX7_ratio 62 = .ok (.if_icmp .ne 7, 3) := by decide +kernel
theorem dX7_ratio_65 : decode cX7_ratio 65 = .ok (.iconst 3, 1) := by decide +kernel
theorem dX7_ratio_66 : decode cX7_ratio 66 = .ok (.goto 4, 3) := by decide +kernel
theorem dX7_ratio_69 : decode cX7_ratio 69 = .ok (.iconst 0, 1) := by decide +kernel
theorem dX7_ratio_70 : decode cX7_ratio 70 = .ok (.invokevirtual 135, 3) := by decide +kernel
theorem dX7_ratio_73 : decode cX7_ratio 73 = .ok (.ifCond .ne 5, 3) := by decide +kernel
theorem dX7_ratio_76 : decode cX7_ratio 76 = .ok (.iconst 0, 1) := by decide +kernel
theorem dX7_ratio_77 : decode cX7_ratio 77 = .ok (.ireturn, 1) := by decide +kernel
theorem dX7_ratio_78 : decode cX7_ratio 78 = .ok (.aload_n 0, 1) := by decide +kernel
theorem dX7_ratio_79 : decode cX7_ratio 79 = .ok (.iload_n 1, 1) := by decide +kernel
theorem dX7_ratio_80 : decode cX7_ratio 80 = .ok (.iconst 0, 1) := by decide +kernel
theorem dX7_ratio_81 : decode cX7_ratio 81 = .ok (.iconst 0, 1) := by decide +kernel
theorem dX7_ratio_82 : decode cX7_ratio 82 = .ok (.iconst 0, 1) := by decide +kernel
theorem dX7_ratio_83 : decode cX7_ratio 83 = .ok (.iload_n 2, 1) := by decide +kernel
theorem dX7_ratio_84 : decode cX7_ratio 84 = .ok (.iload_n 3, 1) := by decide +kernel
theorem dX7_ratio_85 : decode cX7_ratio 85 = .ok (.invokevirtual 172, 3) := by decide +kernel
theorem dX7_ratio_88 : decode cX7_ratio 88 = .ok (.ireturn, 1) := by decide +kernel
theorem dX7_isRatio_0 : decode cX7_isRatio 0 = .ok (.aload_n 0, 1) := by decide +kernel
theorem dX7_isRatio_1 : decode cX7_isRatio 1 = .ok (.getfield 81, 3) := by decide +kernel
theorem dX7_isRatio_4 : decode cX7_isRatio 4 = .ok (.iload_n 1, 1) := by decide +kernel
theorem dX7_isRatio_5 : decode cX7_isRatio 5 = .ok (.iaload, 1) := by decide +kernel
theorem dX7_isRatio_6 : decode cX7_isRatio 6 = .ok (.iconst (-1), 1) := by decide +kernel
theorem dX7_isRatio_7 : decode cX7_isRatio 7 = .ok (.if_icmp .eq 7, 3) := by decide +kernel
theorem dX7_isRatio_10 : decode cX7_isRatio 10 = .ok (.iconst 1, 1) := by decide +kernel
theorem dX7_isRatio_11 : decode cX7_isRatio 11 = .ok (.goto 4, 3) := by decide +kernel
theorem dX7_isRatio_14 : decode cX7_isRatio 14 = .ok (.iconst 0, 1) := by decide +kernel
theorem dX7_isRatio_15 : decode cX7_isRatio 15 = .ok (.ireturn, 1) := by decide +kernel
set_option maxRecDepth 20000 in
theorem ggX7_feed_X7_isController : GoodIn wsX7_feed wsX7_isController := goodIn_r _ [7, 8, 9, 10, 6, 11, 27, 28, 29, 30, 31, 32, 33, 34, 35, 36, 37, 38, 39, 40, 41, 42, 43, 44, 45, 46, 47, 48, 49, 50, 51, 52, 53, 54, 55, 56, 57, 58, 59, 60, 61, 62, 63, 64, 65, 66, 67] (by decide +kernel) (by decide +kernel)
set_option maxRecDepth 20000 in
theorem gX7_feed_X7_isController : GoodIn wsX7_feed (wsV RX7 176 RX7 yX7_isController wsX7_isController) := goodIn_app (goodIn_of _ (by decide +kernel)) ggX7_feed_X7_isController
set_option maxRecDepth 20000 in
theorem ggX7_feed_X7_isStream : GoodIn wsX7_feed wsX7_isStream := goodIn_r _ [15, 16, 9, 10, 6, 11, 27, 28, 29, 30, 31, 32, 33, 34, 35, 36, 37, 38, 39, 40, 41, 42, 43, 44, 45, 46, 47, 48, 49, 50, 51, 52, 53, 54, 55, 56, 57, 58, 59, 60, 61, 62, 63, 64, 65, 66, 67] (by decide +kernel) (by decide +kernel)
set_option maxRecDepth 20000 in
theorem gX7_feed_X7_isStream : GoodIn wsX7_feed (wsV RX7 156 RX7 yX7_isStream wsX7_isStream) := goodIn_app (goodIn_of _ (by decide +kernel)) ggX7_feed_X7_isStream
set_option maxRecDepth 20000 in
theorem ggX7_feed_X7_in : GoodIn wsX7_feed wsX7_in := goodIn_r _ [11] (by decide +kernel) (by decide +kernel)
set_option maxRecDepth 20000 in
theorem gX7_feed_X7_in : GoodIn wsX7_feed (va_wsS RX7 124 yX7_in wsX7_in) := goodIn_app (goodIn_of _ (by decide +kernel)) ggX7_feed_X7_in
set_option maxRecDepth 20000 in
theorem ggX7_feed_X7_isRatio : GoodIn wsX7_feed wsX7_isRatio := goodIn_r _ [20, 21, 27, 28, 29, 30, 31, 32, 33, 34, 35, 36, 37, 38, 39, 40, 41, 42, 43, 44, 45, 46, 47, 48, 49, 50, 51, 52, 53, 54, 55, 56, 57, 58, 59, 60, 61, 62, 63, 64, 65, 66, 67] (by decide +kernel) (by decide +kernel)
set_option maxRecDepth 20000 in
theorem gX7_feed_X7_isRatio : GoodIn wsX7_feed (wsV RX7 179 RX7 yX7_isRatio wsX7_isRatio) := goodIn_app (goodIn_of _ (by decide +kernel)) ggX7_feed_X7_isRatio
set_option maxRecDepth 20000 in
theorem ggX7_feed_X7_holds : GoodIn wsX7_feed wsX7_holds := goodIn_r _ [25, 26, 27, 28, 29, 30, 31, 32, 33, 34, 35, 36, 37, 38, 39, 40, 41, 42, 43, 44, 45, 46, 47, 48, 49, 50, 51, 52, 53, 54, 55, 56, 57, 58, 59, 60, 61, 62, 63, 64, 65, 66, 67] (by decide +kernel) (by decide +kernel)
set_option maxRecDepth 20000 in
theorem gX7_feed_X7_holds : GoodIn wsX7_feed (wsV RX7 135 RX7 yX7_holds wsX7_holds) := goodIn_app (goodIn_of _ (by decide +kernel)) ggX7_feed_X7_holds
theorem dX7_feed_0 : decode cX7_feed 0 = .ok (.aload_n 0, 1) := by decide +kernel
theorem dX7_feed_1 : decode cX7_feed 1 = .ok (.iload_n 1, 1) := by decide +kernel
theorem dX7_feed_2 : decode cX7_feed 2 = .ok (.invokevirtual 176, 3) := by decide +kernel
theorem dX7_feed_5 : decode cX7_feed 5 = .ok (.ifCond .eq 15, 3) := by decide +kernel
theorem dX7_feed_8 : decode cX7_feed 8 = .ok (.aload_n 0, 1) := by decide +kernel
theorem dX7_feed_9 : decode cX7_feed 9 = .ok (.iload_n 2, 1) := by decide +kernel
theorem dX7_feed_10 : decode cX7_feed 10 = .ok (.invokevirtual 156, 3) := by decide +kernel
theorem dX7_feed_13 : decode cX7_feed 13 = .ok (.ifCond .eq 7, 3) := by decide +kernel
theorem dX7_feed_16 : decode cX7_feed 16 = .ok (.iconst 1, 1) := by decide +kernel
theorem dX7_feed_17 : decode cX7_feed 17 = .ok (.goto 4, 3) := by decide +kernel
theorem dX7_feed_20 : decode cX7_feed 20 = .ok (.iconst 0, 1) := by decide +kernel
theorem dX7_feed_21 : decode cX7_feed 21 = .ok (.istore 4, 2) := by decide +kernel
theorem dX7_feed_23 : decode cX7_feed 23 = .ok (.aload_n 0, 1) := by decide +kernel
theorem dX7_feed_24 : decode cX7_feed 24 = .ok (.iload 4, 2) := by decide +kernel
theorem dX7_feed_26 : decode cX7_feed 26 = .ok (.ifCond .ne 7, 3) := by decide +kernel
theorem dX7_feed_29 : decode cX7_feed 29 = .ok (.iconst 1, 1) := by decide +kernel
theorem dX7_feed_30 : decode cX7_feed 30 = .ok (.goto 33, 3) := by decide +kernel
theorem dX7_feed_33 : decode cX7_feed 33 = .ok (.iload_n 3, 1) := by decide +kernel
theorem dX7_feed_34 : decode cX7_feed 34 = .ok (.sipush (-500), 3) := by decide +kernel
theorem dX7_feed_37 : decode cX7_feed 37 = .ok (.sipush 500, 3) := by decide +kernel
theorem dX7_feed_40 : decode cX7_feed 40 = .ok (.invokestatic 124, 3) := by decide +kernel
theorem dX7_feed_43 : decode cX7_feed 43 = .ok (.ifCond .ne 7, 3) := by decide +kernel
theorem dX7_feed_46 : decode cX7_feed 46 = .ok (.iconst 2, 1) := by decide +kernel
theorem dX7_feed_47 : decode cX7_feed 47 = .ok (.goto 16, 3) := by decide +kernel
theorem dX7_feed_50 : decode cX7_feed 50 = .ok (.aload_n 0, 1) := by decide +kernel
theorem dX7_feed_51 : decode cX7_feed 51 = .ok (.iload_n 1, 1) := by decide +kernel
theorem dX7_feed_52 : decode cX7_feed 52 = .ok (.invokevirtual 179, 3) := by decide +kernel
theorem dX7_feed_55 : decode cX7_feed 55 = .ok (.ifCond .eq 7, 3) := by decide +kernel
theorem dX7_feed_58 : decode cX7_feed 58 = .ok (.iconst 3, 1) := by decide +kernel
theorem dX7_feed_59 : decode cX7_feed 59 = .ok (.goto 4, 3) := by decide +kernel
theorem dX7_feed_62 : decode cX7_feed 62 = .ok (.iconst 0, 1) := by decide +kernel
theorem dX7_feed_63 : decode cX7_feed 63 = .ok (.invokevirtual 135, 3) := by decide +kernel
theorem dX7_feed_66 : decode cX7_feed 66 = .ok (.ifCond .eq 17, 3) := by decide +kernel
theorem dX7_feed_69 : decode cX7_feed 69 = .ok (.aload_n 0, 1) := by decide +kernel
theorem dX7_feed_70 : decode cX7_feed 70 = .ok (.getfield 84, 3) := by decide +kernel
theorem dX7_feed_73 : decode cX7_feed 73 = .ok (.iload_n 1, 1) := by decide +kernel
theorem dX7_feed_74 : decode cX7_feed 74 = .ok (.iload_n 2, 1) := by decide +kernel
theorem dX7_feed_75 : decode cX7_feed 75 = .ok (.iastore, 1) := by decide +kernel
theorem dX7_feed_76 : decode cX7_feed 76 = .ok (.aload_n 0, 1) := by decide +kernel
theorem dX7_feed_77 : decode cX7_feed 77 = .ok (.getfield 87, 3) := by decide +kernel
theorem dX7_feed_80 : decode cX7_feed 80 = .ok (.iload_n 1, 1) := by decide +kernel
theorem dX7_feed_81 : decode cX7_feed 81 = .ok (.iload_n 3, 1) := by decide +kernel
theorem dX7_feed_82 : decode cX7_feed 82 = .ok (.iastore, 1) := by decide +kernel
theorem dX7_feed_83 : decode cX7_feed 83 = .ok (.return_, 1) := by decide +kernel
set_option maxRecDepth 20000 in
theorem ggX7_aim_X7_isController : GoodIn wsX7_aim wsX7_isController := goodIn_r _ [7, 8, 9, 10, 6, 11, 22, 23, 24, 25, 26, 27, 28, 29, 30, 31, 32, 33, 34, 35, 36, 37, 38, 39, 40, 41, 42, 43, 44, 45, 46, 47, 48, 49, 50, 51, 52, 53, 54, 55, 56, 57, 58, 59, 60, 61, 62] (by decide +kernel) (by decide +kernel)
set_option maxRecDepth 20000 in
theorem gX7_aim_X7_isController : GoodIn wsX7_aim (wsV RX7 176 RX7 yX7_isController wsX7_isController) := goodIn_app (goodIn_of _ (by decide +kernel)) ggX7_aim_X7_isController
set_option maxRecDepth 20000 in
theorem ggX7_aim_X7_in : GoodIn wsX7_aim wsX7_in := goodIn_r _ [11] (by decide +kernel) (by decide +kernel)
set_option maxRecDepth 20000 in
theorem gX7_aim_X7_in : GoodIn wsX7_aim (va_wsS RX7 124 yX7_in wsX7_in) := goodIn_app (goodIn_of _ (by decide +kernel)) ggX7_aim_X7_in
set_option maxRecDepth 20000 in
theorem ggX7_aim_X7_isRatio : GoodIn wsX7_aim wsX7_isRatio := goodIn_r _ [15, 16, 22, 23, 24, 25, 26, 27, 28, 29, 30, 31, 32, 33, 34, 35, 36, 37, 38, 39, 40, 41, 42, 43, 44, 45, 46, 47, 48, 49, 50, 51, 52, 53, 54, 55, 56, 57, 58, 59, 60, 61, 62] (by decide +kernel) (by decide +kernel)
set_option maxRecDepth 20000 in
theorem gX7_aim_X7_isRatio : GoodIn wsX7_aim (wsV RX7 179 RX7 yX7_isRatio wsX7_isRatio) := goodIn_app (goodIn_of _ (by decide +kernel)) ggX7_aim_X7_isRatio
set_option maxRecDepth 20000 in
theorem ggX7_aim_X7_holds : GoodIn wsX7_aim wsX7_holds := goodIn_r _ [20, 21, 22, 23, 24, 25, 26, 27, 28, 29, 30, 31, 32, 33, 34, 35, 36, 37, 38, 39, 40, 41, 42, 43, 44, 45, 46, 47, 48, 49, 50, 51, 52, 53, 54, 55, 56, 57, 58, 59, 60, 61, 62] (by decide +kernel) (by decide +kernel)
set_option maxRecDepth 20000 in
theorem gX7_aim_X7_holds : GoodIn wsX7_aim (wsV RX7 135 RX7 yX7_holds wsX7_holds) := goodIn_app (goodIn_of _ (by decide +kernel)) ggX7_aim_X7_holds
theorem dX7_aim_0 : decode cX7_aim 0 = .ok (.aload_n 0, 1) := by decide +kernel
theorem dX7_aim_1 : decode cX7_aim 1 = .ok (.iload_n 1, 1) := by decide +kernel
theorem dX7_aim_2 : decode cX7_aim 2 = .ok (.invokevirtual 176, 3) := by decide +kernel
theorem dX7_aim_5 : decode cX7_aim 5 = .ok (.istore 4, 2) := by decide +kernel
theorem dX7_aim_7 : decode cX7_aim 7 = .ok (.iload_n 2, 1) := by decide +kernel
theorem dX7_aim_8 : decode cX7_aim 8 = .ok (.iconst 0, 1) := by decide +kernel
theorem dX7_aim_9 : decode cX7_aim 9 = .ok (.sipush 3000, 3) := by decide +kernel
theorem dX7_aim_12 : decode cX7_aim 12 = .ok (.invokestatic 124, 3) := by decide +kernel
theorem dX7_aim_15 : decode cX7_aim 15 = .ok (.ifCond .eq 18, 3) := by decide +kernel
theorem dX7_aim_18 : decode cX7_aim 18 = .ok (.iload_n 3, 1) := by decide +kernel
theorem dX7_aim_19 : decode cX7_aim 19 = .ok (.iconst 0, 1) := by decide +kernel
theorem dX7_aim_20 : decode cX7_aim 20 = .ok (.sipush 3000, 3) := by decide +kernel
theorem dX7_aim_23 : decode cX7_aim 23 = .ok (.invokestatic 124, 3) := by decide +kernel
theorem dX7_aim_26 : decode cX7_aim 26 = .ok (.ifCond .eq 7, 3) := by decide +kernel
theorem dX7_aim_29 : decode cX7_aim 29 = .ok (.iconst 1, 1) := by decide +kernel
theorem dX7_aim_30 : decode cX7_aim 30 = .ok (.goto 4, 3) := by decide +kernel
theorem dX7_aim_33 : decode cX7_aim 33 = .ok (.iconst 0, 1) := by decide +kernel
theorem dX7_aim_34 : decode cX7_aim 34 = .ok (.istore 5, 2) := by decide +kernel
theorem dX7_aim_36 : decode cX7_aim 36 = .ok (.aload_n 0, 1) := by decide +kernel
theorem dX7_aim_37 : decode cX7_aim 37 = .ok (.iload 4, 2) := by decide +kernel
theorem dX7_aim_39 : decode cX7_aim 39 = .ok (.ifCond .ne 7, 3) := by decide +kernel
theorem dX7_aim_42 : decode cX7_aim 42 = .ok (.iconst 1, 1) := by decide +kernel
theorem dX7_aim_43 : decode cX7_aim 43 = .ok (.goto 25, 3) := by decide +kernel
theorem dX7_aim_46 : decode cX7_aim 46 = .ok (.iload 5, 2) := by decide +kernel
theorem dX7_aim_48 : decode cX7_aim 48 = .ok (.ifCond .ne 7, 3) := by decide +kernel
theorem dX7_aim_51 : decode cX7_aim 51 = .ok (.iconst 2, 1) := by decide +kernel
theorem dX7_aim_52 : decode cX7_aim 52 = .ok (.goto 16, 3) := by decide +kernel
theorem dX7_aim_55 : decode cX7_aim 55 = .ok (.aload_n 0, 1) := by decide +kernel
theorem dX7_aim_56 : decode cX7_aim 56 = .ok (.iload_n 1, 1) := by decide +kernel
theorem dX7_aim_57 : decode cX7_aim 57 = .ok (.invokevirtual 179, 3) := by decide +kernel
theorem dX7_aim_60 : decode cX7_aim 60 = .ok (.ifCond .eq 7, 3) := by decide +kernel
theorem dX7_aim_63 : decode cX7_aim 63 = .ok (.iconst 3, 1) := by decide +kernel
theorem dX7_aim_64 : decode cX7_aim 64 = .ok (.goto 4, 3) := by decide +kernel
theorem dX7_aim_67 : decode cX7_aim 67 = .ok (.iconst 0, 1) := by decide +kernel
theorem dX7_aim_68 : decode cX7_aim 68 = .ok (.invokevirtual 135, 3) := by decide +kernel
theorem dX7_aim_71 : decode cX7_aim 71 = .ok (.ifCond .ne 5, 3) := by decide +kernel
theorem dX7_aim_74 : decode cX7_aim 74 = .ok (.iconst 0, 1) := by decide +kernel
theorem dX7_aim_75 : decode cX7_aim 75 = .ok (.ireturn, 1) := by decide +kernel
theorem dX7_aim_76 : decode cX7_aim 76 = .ok (.aload_n 0, 1) := by decide +kernel
theorem dX7_aim_77 : decode cX7_aim 77 = .ok (.getfield 69, 3) := by decide +kernel
theorem dX7_aim_80 : decode cX7_aim 80 = .ok (.iload_n 1, 1) := by decide +kernel
theorem dX7_aim_81 : decode cX7_aim 81 = .ok (.iaload, 1) := by decide +kernel
theorem dX7_aim_82 : decode cX7_aim 82 = .ok (.istore 6, 2) := by decide +kernel
theorem dX7_aim_84 : decode cX7_aim 84 = .ok (.aload_n 0, 1) := by decide +kernel
theorem dX7_aim_85 : decode cX7_aim 85 = .ok (.getfield 69, 3) := by decide +kernel
theorem dX7_aim_88 : decode cX7_aim 88 = .ok (.iload_n 1, 1) := by decide +kernel
theorem dX7_aim_89 : decode cX7_aim 89 = .ok (.iload_n 2, 1) := by decide +kernel
theorem dX7_aim_90 : decode cX7_aim 90 = .ok (.iastore, 1) := by decide +kernel
theorem dX7_aim_91 : decode cX7_aim 91 = .ok (.aload_n 0, 1) := by decide +kernel
theorem dX7_aim_92 : decode cX7_aim 92 = .ok (.getfield 90, 3) := by decide +kernel
theorem dX7_aim_95 : decode cX7_aim 95 = .ok (.iload_n 1, 1) := by decide +kernel
theorem dX7_aim_96 : decode cX7_aim 96 = .ok (.iload_n 3, 1) := by decide +kernel
theorem dX7_aim_97 : decode cX7_aim 97 = .ok (.iastore, 1) := by decide +kernel
theorem dX7_aim_98 : decode cX7_aim 98 = .ok (.iload 6, 2) := by decide +kernel
theorem dX7_aim_100 : decode cX7_aim 100 = .ok (.ireturn, 1) := by decide +kernel
set_option maxRecDepth 20000 in
theorem ggX7_select_X7_isUnit : GoodIn wsX7_select wsX7_isUnit := goodIn_r _ [6, 7, 8, 9, 5, 10, 16, 17, 18, 19, 20, 21, 22, 23, 24, 25, 26, 27, 28, 29, 30, 31, 32, 33, 34, 35, 36, 37, 38, 39, 40, 41, 42, 43, 44, 45, 46, 47, 48, 49, 50, 51, 52, 53, 54, 55, 56] (by decide +kernel) (by decide +kernel)
set_option maxRecDepth 20000 in
theorem gX7_select_X7_isUnit : GoodIn wsX7_select (wsV RX7 153 RX7 yX7_isUnit wsX7_isUnit) := goodIn_app (goodIn_of _ (by decide +kernel)) ggX7_select_X7_isUnit
set_option maxRecDepth 20000 in
theorem ggX7_select_X7_holds : GoodIn wsX7_select wsX7_holds := goodIn_r _ [14, 15, 16, 17, 18, 19, 20, 21, 22, 23, 24, 25, 26, 27, 28, 29, 30, 31, 32, 33, 34, 35, 36, 37, 38, 39, 40, 41, 42, 43, 44, 45, 46, 47, 48, 49, 50, 51, 52, 53, 54, 55, 56] (by decide +kernel) (by decide +kernel)
set_option maxRecDepth 20000 in
theorem gX7_select_X7_holds : GoodIn wsX7_select (wsV RX7 135 RX7 yX7_holds wsX7_holds) := goodIn_app (goodIn_of _ (by decide +kernel)) ggX7_select_X7_holds
theorem dX7_select_0 : decode cX7_select 0 = .ok (.aload_n 0, 1) := by decide +kernel
theorem dX7_select_1 : decode cX7_select 1 = .ok (.aload_n 0, 1) := by decide +kernel
theorem dX7_select_2 : decode cX7_select 2 = .ok (.iload_n 1, 1) := by decide +kernel
theorem dX7_select_3 : decode cX7_select 3 = .ok (.invokevirtual 153, 3) := by decide +kernel
theorem dX7_select_6 : decode cX7_select 6 = .ok (.ifCond .eq 7, 3) := by decide +kernel
theorem dX7_select_9 : decode cX7_select 9 = .ok (.iconst 0, 1) := by decide +kernel
theorem dX7_select_10 : decode cX7_select 10 = .ok (.goto 4, 3) := by decide +kernel
theorem dX7_select_13 : decode cX7_select 13 = .ok (.iconst 1, 1) := by decide +kernel
theorem dX7_select_14 : decode cX7_select 14 = .ok (.invokevirtual 135, 3) := by decide +kernel
theorem dX7_select_17 : decode cX7_select 17 = .ok (.ifCond .ne 5, 3) := by decide +kernel
theorem dX7_select_20 : decode cX7_select 20 = .ok (.iconst 0, 1) := by decide +kernel
theorem dX7_select_21 : decode cX7_select 21 = .ok (.ireturn, 1) := by decide +kernel
theorem dX7_select_22 : decode cX7_select 22 = .ok (.aload_n 0, 1) := by decide +kernel
theorem dX7_select_23 : decode cX7_select 23 = .ok (.getfield 28, 3) := by decide +kernel
theorem dX7_select_26 : decode cX7_select 26 = .ok (.iload_n 1, 1) := by decide +kernel
theorem dX7_select_27 : decode cX7_select 27 = .ok (.aload_n 0, 1) := by decide +kernel
theorem dX7_select_28 : decode cX7_select 28 = .ok (.getfield 28, 3) := by decide +kernel
theorem dX7_select_31 : decode cX7_select 31 = .ok (.iload_n 1, 1) := by decide +kernel
theorem dX7_select_32 : decode cX7_select 32 = .ok (.baload, 1) := by decide +kernel
theorem dX7_select_33 : decode cX7_select 33 = .ok (.ifCond .ne 7, 3) := by decide +kernel
theorem dX7_select_36 : decode cX7_select 36 = .ok (.iconst 1, 1) := by decide +kernel
theorem dX7_select_37 : decode cX7_select 37 = .ok (.goto 4, 3) := by decide +kernel
theorem dX7_select_40 : decode cX7_select 40 = .ok (.iconst 0, 1) := by decide +kernel
theorem dX7_select_41 : decode cX7_select 41 = .ok (.bastore, 1) := by decide +kernel
theorem dX7_select_42 : decode cX7_select 42 = .ok (.aload_n 0, 1) := by decide +kernel
theorem dX7_select_43 : decode cX7_select 43 = .ok (.getfield 28, 3) := by decide +kernel
theorem dX7_select_46 : decode cX7_select 46 = .ok (.iload_n 1, 1) := by decide +kernel
theorem dX7_select_47 : decode cX7_select 47 = .ok (.baload, 1) := by decide +kernel
theorem dX7_select_48 : decode cX7_select 48 = .ok (.ireturn, 1) := by decide +kernel
theorem dX7_warmthFor_0 : decode cX7_warmthFor 0 = .ok (.lload_n 0, 1) := by decide +kernel
theorem dX7_warmthFor_1 : decode cX7_warmthFor 1 = .ok (.lconst 0, 1) := by decide +kernel
theorem dX7_warmthFor_2 : decode cX7_warmthFor 2 = .ok (.lcmp, 1) := by decide +kernel
theorem dX7_warmthFor_3 : decode cX7_warmthFor 3 = .ok (.ifCond .ne 7, 3) := by decide +kernel
theorem dX7_warmthFor_6 : decode cX7_warmthFor 6 = .ok (.lconst 0, 1) := by decide +kernel
theorem dX7_warmthFor_7 : decode cX7_warmthFor 7 = .ok (.goto 10, 3) := by decide +kernel
theorem dX7_warmthFor_10 : decode cX7_warmthFor 10 = .ok (.ldc2_w 182, 3) := by decide +kernel
theorem dX7_warmthFor_13 : decode cX7_warmthFor 13 = .ok (.lload_n 2, 1) := by decide +kernel
theorem dX7_warmthFor_14 : decode cX7_warmthFor 14 = .ok (.lmul, 1) := by decide +kernel
theorem dX7_warmthFor_15 : decode cX7_warmthFor 15 = .ok (.lload_n 0, 1) := by decide +kernel
theorem dX7_warmthFor_16 : decode cX7_warmthFor 16 = .ok (.ldiv, 1) := by decide +kernel
theorem dX7_warmthFor_17 : decode cX7_warmthFor 17 = .ok (.lreturn, 1) := by decide +kernel
set_option maxRecDepth 20000 in
theorem ggX7_warmthOf_X7_warmthFor : GoodIn wsX7_warmthOf wsX7_warmthFor := goodIn_r _ [6, 7] (by decide +kernel) (by decide +kernel)
set_option maxRecDepth 20000 in
theorem gX7_warmthOf_X7_warmthFor : GoodIn wsX7_warmthOf (va_wsS RX7 184 yX7_warmthFor wsX7_warmthFor) := goodIn_app (goodIn_of _ (by decide +kernel)) ggX7_warmthOf_X7_warmthFor
theorem dX7_warmthOf_0 : decode cX7_warmthOf 0 = .ok (.aload_n 0, 1) := by decide +kernel
theorem dX7_warmthOf_1 : decode cX7_warmthOf 1 = .ok (.getfield 32, 3) := by decide +kernel
theorem dX7_warmthOf_4 : decode cX7_warmthOf 4 = .ok (.iload_n 1, 1) := by decide +kernel
theorem dX7_warmthOf_5 : decode cX7_warmthOf 5 = .ok (.laload, 1) := by decide +kernel
theorem dX7_warmthOf_6 : decode cX7_warmthOf 6 = .ok (.aload_n 0, 1) := by decide +kernel
theorem dX7_warmthOf_7 : decode cX7_warmthOf 7 = .ok (.getfield 36, 3) := by decide +kernel
theorem dX7_warmthOf_10 : decode cX7_warmthOf 10 = .ok (.iload_n 1, 1) := by decide +kernel
theorem dX7_warmthOf_11 : decode cX7_warmthOf 11 = .ok (.laload, 1) := by decide +kernel
theorem dX7_warmthOf_12 : decode cX7_warmthOf 12 = .ok (.invokestatic 184, 3) := by decide +kernel
theorem dX7_warmthOf_15 : decode cX7_warmthOf 15 = .ok (.l2i, 1) := by decide +kernel
theorem dX7_warmthOf_16 : decode cX7_warmthOf 16 = .ok (.ireturn, 1) := by decide +kernel
theorem dX7_disturbs_0 : decode cX7_disturbs 0 = .ok (.iconst 0, 1) := by decide +kernel
theorem dX7_disturbs_1 : decode cX7_disturbs 1 = .ok (.istore_n 1, 1) := by decide +kernel
theorem dX7_disturbs_2 : decode cX7_disturbs 2 = .ok (.iconst 0, 1) := by decide +kernel
theorem dX7_disturbs_3 : decode cX7_disturbs 3 = .ok (.istore_n 2, 1) := by decide +kernel
theorem dX7_disturbs_4 : decode cX7_disturbs 4 = .ok (.iload_n 2, 1) := by decide +kernel
theorem dX7_disturbs_5 : decode cX7_disturbs 5 = .ok (.aload_n 0, 1) := by decide +kernel
theorem dX7_disturbs_6 : decode cX7_disturbs 6 = .ok (.getfield 163, 3) := by decide +kernel
theorem dX7_disturbs_9 : decode cX7_disturbs 9 = .ok (.if_icmp .ge 81, 3) := by decide +kernel
theorem dX7_disturbs_12 : decode cX7_disturbs 12 = .ok (.aload_n 0, 1) := by decide +kernel
theorem dX7_disturbs_13 : decode cX7_disturbs 13 = .ok (.getfield 57, 3) := by decide +kernel
theorem dX7_disturbs_16 : decode cX7_disturbs 16 = .ok (.iload_n 2, 1) := by decide +kernel
theorem dX7_disturbs_17 : decode cX7_disturbs 17 = .ok (.iaload, 1) := by decide +kernel
theorem dX7_disturbs_18 : decode cX7_disturbs 18 = .ok (.aload_n 0, 1) := by decide +kernel
theorem dX7_disturbs_19 : decode cX7_disturbs 19 = .ok (.getfield 132, 3) := by decide +kernel
theorem dX7_disturbs_22 : decode cX7_disturbs 22 = .ok (.if_icmp .ne 23, 3) := by decide +kernel
theorem dX7_disturbs_25 : decode cX7_disturbs 25 = .ok (.aload_n 0, 1) := by decide +kernel
theorem dX7_disturbs_26 : decode cX7_disturbs 26 = .ok (.getfield 13, 3) := by decide +kernel
theorem dX7_disturbs_29 : decode cX7_disturbs 29 = .ok (.aload_n 0, 1) := by decide +kernel
theorem dX7_disturbs_30 : decode cX7_disturbs 30 = .ok (.getfield 60, 3) := by decide +kernel
theorem dX7_disturbs_33 : decode cX7_disturbs 33 = .ok (.iload_n 2, 1) := by decide +kernel
theorem dX7_disturbs_34 : decode cX7_disturbs 34 = .ok (.iaload, 1) := by decide +kernel
theorem dX7_disturbs_35 : decode cX7_disturbs 35 = .ok (.aload_n 0, 1) := by decide +kernel
theorem dX7_disturbs_36 : decode cX7_disturbs 36 = .ok (.getfield 63, 3) := by decide +kernel
theorem dX7_disturbs_39 : decode cX7_disturbs 39 = .ok (.iload_n 2, 1) := by decide +kernel
theorem dX7_disturbs_40 : decode cX7_disturbs 40 = .ok (.iaload, 1) := by decide +kernel
theorem dX7_disturbs_41 : decode cX7_disturbs 41 = .ok (.iastore, 1) := by decide +kernel
theorem dX7_disturbs_42 : decode cX7_disturbs 42 = .ok (.goto 42, 3) := by decide +kernel
theorem dX7_disturbs_45 : decode cX7_disturbs 45 = .ok (.aload_n 0, 1) := by decide +kernel
theorem dX7_disturbs_46 : decode cX7_disturbs 46 = .ok (.getfield 57, 3) := by decide +kernel
theorem dX7_disturbs_49 : decode cX7_disturbs 49 = .ok (.iload_n 1, 1) := by decide +kernel
theorem dX7_disturbs_50 : decode cX7_disturbs 50 = .ok (.aload_n 0, 1) := by decide +kernel
theorem dX7_disturbs_51 : decode cX7_disturbs 51 = .ok (.getfield 57, 3) := by decide +kernel
theorem dX7_disturbs_54 : decode cX7_disturbs 54 = .ok (.iload_n 2, 1) := by decide +kernel
theorem dX7_disturbs_55 : decode cX7_disturbs 55 = .ok (.iaload, 1) := by decide +kernel
theorem dX7_disturbs_56 : decode cX7_disturbs 56 = .ok (.iastore, 1) := by decide +kernel
theorem dX7_disturbs_57 : decode cX7_disturbs 57 = .ok (.aload_n 0, 1) := by decide +kernel
theorem dX7_disturbs_58 : decode cX7_disturbs 58 = .ok (.getfield 60, 3) := by decide +kernel
theorem dX7_disturbs_61 : decode cX7_disturbs 61 = .ok (.iload_n 1, 1) := by decide +kernel
theorem dX7_disturbs_62 : decode cX7_disturbs 62 = .ok (.aload_n 0, 1) := by decide +kernel
theorem dX7_disturbs_63 : decode cX7_disturbs 63 = .ok (.getfield 60, 3) := by decide +kernel
theorem dX7_disturbs_66 : decode cX7_disturbs 66 = .ok (.iload_n 2, 1) := by decide +kernel
theorem dX7_disturbs_67 : decode cX7_disturbs 67 = .ok (.iaload, 1) := by decide +kernel
theorem dX7_disturbs_68 : decode cX7_disturbs 68 = .ok (.iastore, 1) := by decide +kernel
theorem dX7_disturbs_69 : decode cX7_disturbs 69 = .ok (.aload_n 0, 1) := by decide +kernel
theorem dX7_disturbs_70 : decode cX7_disturbs 70 = .ok (.getfield 63, 3) := by decide +kernel
theorem dX7_disturbs_73 : decode cX7_disturbs 73 = .ok (.iload_n 1, 1) := by decide +kernel
theorem dX7_disturbs_74 : decode cX7_disturbs 74 = .ok (.aload_n 0, 1) := by decide +kernel
theorem dX7_disturbs_75 : decode cX7_disturbs 75 = .ok (.getfield 63, 3) := by decide +kernel
theorem dX7_disturbs_78 : decode cX7_disturbs 78 = .ok (.iload_n 2, 1) := by decide +kernel
theorem dX7_disturbs_79 : decode cX7_disturbs 79 = .ok (.iaload, 1) := by decide +kernel
theorem dX7_disturbs_80 : decode cX7_disturbs 80 = .ok (.iastore, 1) := by decide +kernel
theorem dX7_disturbs_81 : decode cX7_disturbs 81 = .ok (.iinc 1 1, 3) := by decide +kernel
theorem dX7_disturbs_84 : decode cX7_disturbs 84 = .ok (.iinc 2 1, 3) := by decide +kernel
theorem dX7_disturbs_87 : decode cX7_disturbs 87 = .ok (.goto (-83), 3) := by decide +kernel
theorem dX7_disturbs_90 : decode cX7_disturbs 90 = .ok (.aload_n 0, 1) := by decide +kernel
theorem dX7_disturbs_91 : decode cX7_disturbs 91 = .ok (.iload_n 1, 1) := by decide +kernel
theorem dX7_disturbs_92 : decode cX7_disturbs 92 = .ok (.putfield 163, 3) := by decide +kernel
theorem dX7_disturbs_95 : decode cX7_disturbs 95 = .ok (.return_, 1) := by decide +kernel
theorem dX7_warns_0 : decode cX7_warns 0 = .ok (.aload_n 0, 1) := by decide +kernel
theorem dX7_warns_1 : decode cX7_warns 1 = .ok (.getfield 99, 3) := by decide +kernel
theorem dX7_warns_4 : decode cX7_warns 4 = .ok (.iload_n 1, 1) := by decide +kernel
theorem dX7_warns_5 : decode cX7_warns 5 = .ok (.iaload, 1) := by decide +kernel
theorem dX7_warns_6 : decode cX7_warns 6 = .ok (.ifCond .ge 13, 3) := by decide +kernel
theorem dX7_warns_9 : decode cX7_warns 9 = .ok (.aload_n 0, 1) := by decide +kernel
theorem dX7_warns_10 : decode cX7_warns 10 = .ok (.getfield 99, 3) := by decide +kernel
theorem dX7_warns_13 : decode cX7_warns 13 = .ok (.iload_n 1, 1) := by decide +kernel
theorem dX7_warns_14 : decode cX7_warns 14 = .ok (.iaload, 1) := by decide +kernel
theorem dX7_warns_15 : decode cX7_warns 15 = .ok (.ineg, 1) := by decide +kernel
theorem dX7_warns_16 : decode cX7_warns 16 = .ok (.goto 9, 3) := by decide +kernel
theorem dX7_warns_19 : decode cX7_warns 19 = .ok (.aload_n 0, 1) := by decide +kernel
theorem dX7_warns_20 : decode cX7_warns 20 = .ok (.getfield 99, 3) := by decide +kernel
theorem dX7_warns_23 : decode cX7_warns 23 = .ok (.iload_n 1, 1) := by decide +kernel
theorem dX7_warns_24 : decode cX7_warns 24 = .ok (.iaload, 1) := by decide +kernel
theorem dX7_warns_25 : decode cX7_warns 25 = .ok (.istore_n 2, 1) := by decide +kernel
theorem dX7_warns_26 : decode cX7_warns 26 = .ok (.iload_n 2, 1) := by decide +kernel
theorem dX7_warns_27 : decode cX7_warns 27 = .ok (.aload_n 0, 1) := by decide +kernel
theorem dX7_warns_28 : decode cX7_warns 28 = .ok (.getfield 90, 3) := by decide +kernel
theorem dX7_warns_31 : decode cX7_warns 31 = .ok (.iload_n 1, 1) := by decide +kernel
theorem dX7_warns_32 : decode cX7_warns 32 = .ok (.iaload, 1) := by decide +kernel
theorem dX7_warns_33 : decode cX7_warns 33 = .ok (.if_icmp .le 7, 3) := by decide +kernel
theorem dX7_warns_36 : decode cX7_warns 36 = .ok (.iconst 1, 1) := by decide +kernel
theorem dX7_warns_37 : decode cX7_warns 37 = .ok (.goto 4, 3) := by decide +kernel
theorem dX7_warns_40 : decode cX7_warns 40 = .ok (.iconst 0, 1) := by decide +kernel
theorem dX7_warns_41 : decode cX7_warns 41 = .ok (.istore_n 3, 1) := by decide +kernel
theorem dX7_warns_42 : decode cX7_warns 42 = .ok (.iload_n 3, 1) := by decide +kernel
theorem dX7_warns_43 : decode cX7_warns 43 = .ok (.ifCond .eq 62, 3) := by decide +kernel
theorem dX7_warns_46 : decode cX7_warns 46 = .ok (.aload_n 0, 1) := by decide +kernel
theorem dX7_warns_47 : decode cX7_warns 47 = .ok (.getfield 102, 3) := by decide +kernel
theorem dX7_warns_50 : decode cX7_warns 50 = .ok (.iload_n 1, 1) := by decide +kernel
theorem dX7_warns_51 : decode cX7_warns 51 = .ok (.baload, 1) := by decide +kernel
theorem dX7_warns_52 : decode cX7_warns 52 = .ok (.ifCond .ne 53, 3) := by decide +kernel
theorem dX7_warns_55 : decode cX7_warns 55 = .ok (.aload_n 0, 1) := by decide +kernel
theorem dX7_warns_56 : decode cX7_warns 56 = .ok (.getfield 108, 3) := by decide +kernel
theorem dX7_warns_59 : decode cX7_warns 59 = .ok (.aload_n 0, 1) := by decide +kernel
theorem dX7_warns_60 : decode cX7_warns 60 = .ok (.getfield 188, 3) := by decide +kernel
theorem dX7_warns_63 : decode cX7_warns 63 = .ok (.iload_n 2, 1) := by decide +kernel
theorem dX7_warns_64 : decode cX7_warns 64 = .ok (.aload_n 0, 1) := by decide +kernel
theorem dX7_warns_65 : decode cX7_warns 65 = .ok (.getfield 90, 3) := by decide +kernel
theorem dX7_warns_68 : decode cX7_warns 68 = .ok (.iload_n 1, 1) := by decide +kernel
theorem dX7_warns_69 : decode cX7_warns 69 = .ok (.iaload, 1) := by decide +kernel
theorem dX7_warns_70 : decode cX7_warns 70 = .ok (.isub, 1) := by decide +kernel
theorem dX7_warns_71 : decode cX7_warns 71 = .ok (.iastore, 1) := by decide +kernel
theorem dX7_warns_72 : decode cX7_warns 72 = .ok (.aload_n 0, 1) := by decide +kernel
theorem dX7_warns_73 : decode cX7_warns 73 = .ok (.getfield 111, 3) := by decide +kernel
theorem dX7_warns_76 : decode cX7_warns 76 = .ok (.aload_n 0, 1) := by decide +kernel
theorem dX7_warns_77 : decode cX7_warns 77 = .ok (.getfield 188, 3) := by decide +kernel
theorem dX7_warns_80 : decode cX7_warns 80 = .ok (.aload_n 0, 1) := by decide +kernel
theorem dX7_warns_81 : decode cX7_warns 81 = .ok (.getfield 132, 3) := by decide +kernel
theorem dX7_warns_84 : decode cX7_warns 84 = .ok (.iastore, 1) := by decide +kernel
theorem dX7_warns_85 : decode cX7_warns 85 = .ok (.aload_n 0, 1) := by decide +kernel
theorem dX7_warns_86 : decode cX7_warns 86 = .ok (.getfield 114, 3) := by decide +kernel
theorem dX7_warns_89 : decode cX7_warns 89 = .ok (.aload_n 0, 1) := by decide +kernel
theorem dX7_warns_90 : decode cX7_warns 90 = .ok (.getfield 188, 3) := by decide +kernel
theorem dX7_warns_93 : decode cX7_warns 93 = .ok (.iload_n 1, 1) := by decide +kernel
theorem dX7_warns_94 : decode cX7_warns 94 = .ok (.iastore, 1) := by decide +kernel
theorem dX7_warns_95 : decode cX7_warns 95 = .ok (.aload_n 0, 1) := by decide +kernel
theorem dX7_warns_96 : decode cX7_warns 96 = .ok (.dup, 1) := by decide +kernel
theorem dX7_warns_97 : decode cX7_warns 97 = .ok (.getfield 188, 3) := by decide +kernel
theorem dX7_warns_100 : decode cX7_warns 100 = .ok (.iconst 1, 1) := by decide +kernel
theorem dX7_warns_101 : decode cX7_warns 101 = .ok (.iadd, 1) := by decide +kernel
theorem dX7_warns_102 : decode cX7_warns 102 = .ok (.putfield 188, 3) := by decide +kernel
theorem dX7_warns_105 : decode cX7_warns 105 = .ok (.aload_n 0, 1) := by decide +kernel
theorem dX7_warns_106 : decode cX7_warns 106 = .ok (.getfield 102, 3) := by decide +kernel
theorem dX7_warns_109 : decode cX7_warns 109 = .ok (.iload_n 1, 1) := by decide +kernel
theorem dX7_warns_110 : decode cX7_warns 110 = .ok (.iload_n 3, 1) := by decide +kernel
theorem dX7_warns_111 : decode cX7_warns 111 = .ok (.bastore, 1) := by decide +kernel
theorem dX7_warns_112 : decode cX7_warns 112 = .ok (.return_, 1) := by decide +kernel
set_option maxRecDepth 20000 in
theorem ggX7_works_X7_isRatio : GoodIn wsX7_works wsX7_isRatio := goodIn_r _ [24, 4, 48, 49, 50, 51, 52, 53, 54, 55, 56, 57, 58, 59, 60, 61, 62, 63, 64, 65, 66, 67, 68, 69, 70, 71, 72, 73, 74, 75, 76, 77, 78, 79, 80, 81, 82, 83, 84, 85, 86, 87, 88] (by decide +kernel) (by decide +kernel)
set_option maxRecDepth 20000 in
theorem gX7_works_X7_isRatio : GoodIn wsX7_works (wsV RX7 179 RX7 yX7_isRatio wsX7_isRatio) := goodIn_app (goodIn_of _ (by decide +kernel)) ggX7_works_X7_isRatio
set_option maxRecDepth 20000 in
theorem ggX7_works_X7_warmthOf : GoodIn wsX7_works wsX7_warmthOf := goodIn_r _ [28, 2, 29, 30, 31, 23, 32, 33, 48, 49, 50, 51, 52, 53, 54, 55, 56, 57, 58, 59, 60, 61, 62, 63, 64, 65, 66, 67, 68, 69, 70, 71, 72, 73, 74, 75, 76, 77, 78, 79, 80, 81, 82, 83, 84, 85, 86, 87, 88] (by decide +kernel) (by decide +kernel)
set_option maxRecDepth 20000 in
theorem gX7_works_X7_warmthOf : GoodIn wsX7_works (wsV RX7 193 RX7 yX7_warmthOf wsX7_warmthOf) := goodIn_app (goodIn_of _ (by decide +kernel)) ggX7_works_X7_warmthOf
set_option maxRecDepth 20000 in
theorem ggX7_works_X7_held : GoodIn wsX7_works wsX7_held := goodIn_r _ [36] (by decide +kernel) (by decide +kernel)
set_option maxRecDepth 20000 in
theorem gX7_works_X7_held : GoodIn wsX7_works (va_wsS RX7 200 yX7_held wsX7_held) := goodIn_app (goodIn_of _ (by decide +kernel)) ggX7_works_X7_held
set_option maxRecDepth 20000 in
theorem ggX7_works_X7_warns : GoodIn wsX7_works wsX7_warns := goodIn_r _ [40, 6, 41, 42, 43, 44, 45, 46, 47, 48, 49, 50, 51, 52, 53, 54, 55, 56, 57, 58, 59, 60, 61, 62, 63, 64, 65, 66, 67, 68, 69, 70, 71, 72, 73, 74, 75, 76, 77, 78, 79, 80, 81, 82, 83, 84, 85, 86, 87, 88] (by decide +kernel) (by decide +kernel)
set_option maxRecDepth 20000 in
theorem gX7_works_X7_warns : GoodIn wsX7_works (wsV RX7 208 RX7 yX7_warns wsX7_warns) := goodIn_app (goodIn_of _ (by decide +kernel)) ggX7_works_X7_warns
theorem dX7_works_0 : decode cX7_works 0 = .ok (.aload_n 0, 1) := by decide +kernel
