theorem dX7_works_1 : decode cX7_works 1 = .ok (.iload_n 1, 1) := by decide +kernel
theorem dX7_works_2 : decode cX7_works 2 = .ok (.invokevirtual 179, 3) := by decide +kernel
theorem dX7_works_5 : decode cX7_works 5 = .ok (.ifCond .eq 33, 3) := by decide +kernel
theorem dX7_works_8 : decode cX7_works 8 = .ok (.aload_n 0, 1) := by decide +kernel
theorem dX7_works_9 : decode cX7_works 9 = .ok (.getfield 96, 3) := by decide +kernel
theorem dX7_works_12 : decode cX7_works 12 = .ok (.iload_n 1, 1) := by decide +kernel
theorem dX7_works_13 : decode cX7_works 13 = .ok (.aload_n 0, 1) := by decide +kernel
theorem dX7_works_14 : decode cX7_works 14 = .ok (.getfield 32, 3) := by decide +kernel
theorem dX7_works_17 : decode cX7_works 17 = .ok (.aload_n 0, 1) := by decide +kernel
theorem dX7_works_18 : decode cX7_works 18 = .ok (.getfield 66, 3) := by decide +kernel
theorem dX7_works_21 : decode cX7_works 21 = .ok (.iload_n 1, 1) := by decide +kernel
theorem dX7_works_22 : decode cX7_works 22 = .ok (.iaload, 1) := by decide +kernel
theorem dX7_works_23 : decode cX7_works 23 = .ok (.laload, 1) := by decide +kernel
theorem dX7_works_24 : decode cX7_works 24 = .ok (.aload_n 0, 1) := by decide +kernel
theorem dX7_works_25 : decode cX7_works 25 = .ok (.getfield 81, 3) := by decide +kernel
theorem dX7_works_28 : decode cX7_works 28 = .ok (.iload_n 1, 1) := by decide +kernel
theorem dX7_works_29 : decode cX7_works 29 = .ok (.iaload, 1) := by decide +kernel
theorem dX7_works_30 : decode cX7_works 30 = .ok (.i2l, 1) := by decide +kernel
theorem dX7_works_31 : decode cX7_works 31 = .ok (.lmul, 1) := by decide +kernel
theorem dX7_works_32 : decode cX7_works 32 = .ok (.ldc2_w 191, 3) := by decide +kernel
theorem dX7_works_35 : decode cX7_works 35 = .ok (.ldiv, 1) := by decide +kernel
theorem dX7_works_36 : decode cX7_works 36 = .ok (.lastore, 1) := by decide +kernel
theorem dX7_works_37 : decode cX7_works 37 = .ok (.return_, 1) := by decide +kernel
theorem dX7_works_38 : decode cX7_works 38 = .ok (.aload_n 0, 1) := by decide +kernel
theorem dX7_works_39 : decode cX7_works 39 = .ok (.getfield 99, 3) := by decide +kernel
theorem dX7_works_42 : decode cX7_works 42 = .ok (.iload_n 1, 1) := by decide +kernel
theorem dX7_works_43 : decode cX7_works 43 = .ok (.aload_n 0, 1) := by decide +kernel
theorem dX7_works_44 : decode cX7_works 44 = .ok (.getfield 69, 3) := by decide +kernel
theorem dX7_works_47 : decode cX7_works 47 = .ok (.iload_n 1, 1) := by decide +kernel
theorem dX7_works_48 : decode cX7_works 48 = .ok (.iaload, 1) := by decide +kernel
theorem dX7_works_49 : decode cX7_works 49 = .ok (.aload_n 0, 1) := by decide +kernel
theorem dX7_works_50 : decode cX7_works 50 = .ok (.aload_n 0, 1) := by decide +kernel
theorem dX7_works_51 : decode cX7_works 51 = .ok (.getfield 66, 3) := by decide +kernel
theorem dX7_works_54 : decode cX7_works 54 = .ok (.iload_n 1, 1) := by decide +kernel
theorem dX7_works_55 : decode cX7_works 55 = .ok (.iaload, 1) := by decide +kernel
theorem dX7_works_56 : decode cX7_works 56 = .ok (.invokevirtual 193, 3) := by decide +kernel
theorem dX7_works_59 : decode cX7_works 59 = .ok (.isub, 1) := by decide +kernel
theorem dX7_works_60 : decode cX7_works 60 = .ok (.iastore, 1) := by decide +kernel
theorem dX7_works_61 : decode cX7_works 61 = .ok (.aload_n 0, 1) := by decide +kernel
theorem dX7_works_62 : decode cX7_works 62 = .ok (.getfield 93, 3) := by decide +kernel
theorem dX7_works_65 : decode cX7_works 65 = .ok (.iload_n 1, 1) := by decide +kernel
theorem dX7_works_66 : decode cX7_works 66 = .ok (.aload_n 0, 1) := by decide +kernel
theorem dX7_works_67 : decode cX7_works 67 = .ok (.getfield 93, 3) := by decide +kernel
theorem dX7_works_70 : decode cX7_works 70 = .ok (.iload_n 1, 1) := by decide +kernel
theorem dX7_works_71 : decode cX7_works 71 = .ok (.laload, 1) := by decide +kernel
theorem dX7_works_72 : decode cX7_works 72 = .ok (.aload_n 0, 1) := by decide +kernel
theorem dX7_works_73 : decode cX7_works 73 = .ok (.getfield 72, 3) := by decide +kernel
theorem dX7_works_76 : decode cX7_works 76 = .ok (.iload_n 1, 1) := by decide +kernel
theorem dX7_works_77 : decode cX7_works 77 = .ok (.iaload, 1) := by decide +kernel
theorem dX7_works_78 : decode cX7_works 78 = .ok (.i2l, 1) := by decide +kernel
theorem dX7_works_79 : decode cX7_works 79 = .ok (.aload_n 0, 1) := by decide +kernel
theorem dX7_works_80 : decode cX7_works 80 = .ok (.getfield 99, 3) := by decide +kernel
theorem dX7_works_83 : decode cX7_works 83 = .ok (.iload_n 1, 1) := by decide +kernel
theorem dX7_works_84 : decode cX7_works 84 = .ok (.iaload, 1) := by decide +kernel
theorem dX7_works_85 : decode cX7_works 85 = .ok (.i2l, 1) := by decide +kernel
theorem dX7_works_86 : decode cX7_works 86 = .ok (.lmul, 1) := by decide +kernel
theorem dX7_works_87 : decode cX7_works 87 = .ok (.ladd, 1) := by decide +kernel
theorem dX7_works_88 : decode cX7_works 88 = .ok (.ldc2_w 196, 3) := by decide +kernel
theorem dX7_works_91 : decode cX7_works 91 = .ok (.ldc2_w 198, 3) := by decide +kernel
theorem dX7_works_94 : decode cX7_works 94 = .ok (.invokestatic 200, 3) := by decide +kernel
theorem dX7_works_97 : decode cX7_works 97 = .ok (.lastore, 1) := by decide +kernel
theorem dX7_works_98 : decode cX7_works 98 = .ok (.aload_n 0, 1) := by decide +kernel
theorem dX7_works_99 : decode cX7_works 99 = .ok (.getfield 105, 3) := by decide +kernel
theorem dX7_works_102 : decode cX7_works 102 = .ok (.iload_n 1, 1) := by decide +kernel
theorem dX7_works_103 : decode cX7_works 103 = .ok (.aload_n 0, 1) := by decide +kernel
theorem dX7_works_104 : decode cX7_works 104 = .ok (.getfield 87, 3) := by decide +kernel
theorem dX7_works_107 : decode cX7_works 107 = .ok (.iload_n 1, 1) := by decide +kernel
theorem dX7_works_108 : decode cX7_works 108 = .ok (.iaload, 1) := by decide +kernel
theorem dX7_works_109 : decode cX7_works 109 = .ok (.ifCond .ne 7, 3) := by decide +kernel
theorem dX7_works_112 : decode cX7_works 112 = .ok (.lconst 0, 1) := by decide +kernel
theorem dX7_works_113 : decode cX7_works 113 = .ok (.goto 30, 3) := by decide +kernel
theorem dX7_works_116 : decode cX7_works 116 = .ok (.aload_n 0, 1) := by decide +kernel
theorem dX7_works_117 : decode cX7_works 117 = .ok (.getfield 87, 3) := by decide +kernel
theorem dX7_works_120 : decode cX7_works 120 = .ok (.iload_n 1, 1) := by decide +kernel
theorem dX7_works_121 : decode cX7_works 121 = .ok (.iaload, 1) := by decide +kernel
theorem dX7_works_122 : decode cX7_works 122 = .ok (.i2l, 1) := by decide +kernel
theorem dX7_works_123 : decode cX7_works 123 = .ok (.aload_n 0, 1) := by decide +kernel
theorem dX7_works_124 : decode cX7_works 124 = .ok (.aload_n 0, 1) := by decide +kernel
theorem dX7_works_125 : decode cX7_works 125 = .ok (.getfield 84, 3) := by decide +kernel
theorem dX7_works_128 : decode cX7_works 128 = .ok (.iload_n 1, 1) := by decide +kernel
theorem dX7_works_129 : decode cX7_works 129 = .ok (.iaload, 1) := by decide +kernel
theorem dX7_works_130 : decode cX7_works 130 = .ok (.invokevirtual 193, 3) := by decide +kernel
theorem dX7_works_133 : decode cX7_works 133 = .ok (.sipush 200, 3) := by decide +kernel
theorem dX7_works_136 : decode cX7_works 136 = .ok (.isub, 1) := by decide +kernel
theorem dX7_works_137 : decode cX7_works 137 = .ok (.i2l, 1) := by decide +kernel
theorem dX7_works_138 : decode cX7_works 138 = .ok (.lmul, 1) := by decide +kernel
theorem dX7_works_139 : decode cX7_works 139 = .ok (.ldc2_w 191, 3) := by decide +kernel
theorem dX7_works_142 : decode cX7_works 142 = .ok (.ldiv, 1) := by decide +kernel
theorem dX7_works_143 : decode cX7_works 143 = .ok (.lastore, 1) := by decide +kernel
theorem dX7_works_144 : decode cX7_works 144 = .ok (.aload_n 0, 1) := by decide +kernel
theorem dX7_works_145 : decode cX7_works 145 = .ok (.getfield 96, 3) := by decide +kernel
theorem dX7_works_148 : decode cX7_works 148 = .ok (.iload_n 1, 1) := by decide +kernel
theorem dX7_works_149 : decode cX7_works 149 = .ok (.aload_n 0, 1) := by decide +kernel
theorem dX7_works_150 : decode cX7_works 150 = .ok (.getfield 75, 3) := by decide +kernel
theorem dX7_works_153 : decode cX7_works 153 = .ok (.iload_n 1, 1) := by decide +kernel
theorem dX7_works_154 : decode cX7_works 154 = .ok (.iaload, 1) := by decide +kernel
theorem dX7_works_155 : decode cX7_works 155 = .ok (.i2l, 1) := by decide +kernel
theorem dX7_works_156 : decode cX7_works 156 = .ok (.aload_n 0, 1) := by decide +kernel
theorem dX7_works_157 : decode cX7_works 157 = .ok (.getfield 93, 3) := by decide +kernel
theorem dX7_works_160 : decode cX7_works 160 = .ok (.iload_n 1, 1) := by decide +kernel
theorem dX7_works_161 : decode cX7_works 161 = .ok (.laload, 1) := by decide +kernel
theorem dX7_works_162 : decode cX7_works 162 = .ok (.ldc2_w 204, 3) := by decide +kernel
theorem dX7_works_165 : decode cX7_works 165 = .ok (.ldiv, 1) := by decide +kernel
theorem dX7_works_166 : decode cX7_works 166 = .ok (.ladd, 1) := by decide +kernel
theorem dX7_works_167 : decode cX7_works 167 = .ok (.aload_n 0, 1) := by decide +kernel
theorem dX7_works_168 : decode cX7_works 168 = .ok (.getfield 105, 3) := by decide +kernel
theorem dX7_works_171 : decode cX7_works 171 = .ok (.iload_n 1, 1) := by decide +kernel
theorem dX7_works_172 : decode cX7_works 172 = .ok (.laload, 1) := by decide +kernel
theorem dX7_works_173 : decode cX7_works 173 = .ok (.ladd, 1) := by decide +kernel
theorem dX7_works_174 : decode cX7_works 174 = .ok (.lastore, 1) := by decide +kernel
theorem dX7_works_175 : decode cX7_works 175 = .ok (.aload_n 0, 1) := by decide +kernel
theorem dX7_works_176 : decode cX7_works 176 = .ok (.getfield 78, 3) := by decide +kernel
theorem dX7_works_179 : decode cX7_works 179 = .ok (.iload_n 1, 1) := by decide +kernel
theorem dX7_works_180 : decode cX7_works 180 = .ok (.iaload, 1) := by decide +kernel
theorem dX7_works_181 : decode cX7_works 181 = .ok (.bipush 100, 2) := by decide +kernel
theorem dX7_works_183 : decode cX7_works 183 = .ok (.isub, 1) := by decide +kernel
theorem dX7_works_184 : decode cX7_works 184 = .ok (.istore_n 2, 1) := by decide +kernel
theorem dX7_works_185 : decode cX7_works 185 = .ok (.iload_n 2, 1) := by decide +kernel
theorem dX7_works_186 : decode cX7_works 186 = .ok (.ifCond .lt 39, 3) := by decide +kernel
theorem dX7_works_189 : decode cX7_works 189 = .ok (.iload_n 2, 1) := by decide +kernel
theorem dX7_works_190 : decode cX7_works 190 = .ok (.aload_n 0, 1) := by decide +kernel
theorem dX7_works_191 : decode cX7_works 191 = .ok (.getfield 128, 3) := by decide +kernel
theorem dX7_works_194 : decode cX7_works 194 = .ok (.if_icmp .ge 31, 3) := by decide +kernel
theorem dX7_works_197 : decode cX7_works 197 = .ok (.aload_n 0, 1) := by decide +kernel
theorem dX7_works_198 : decode cX7_works 198 = .ok (.iload_n 2, 1) := by decide +kernel
theorem dX7_works_199 : decode cX7_works 199 = .ok (.invokevirtual 179, 3) := by decide +kernel
theorem dX7_works_202 : decode cX7_works 202 = .ok (.ifCond .ne 23, 3) := by decide +kernel
theorem dX7_works_205 : decode cX7_works 205 = .ok (.aload_n 0, 1) := by decide +kernel
theorem dX7_works_206 : decode cX7_works 206 = .ok (.getfield 69, 3) := by decide +kernel
theorem dX7_works_209 : decode cX7_works 209 = .ok (.iload_n 2, 1) := by decide +kernel
theorem dX7_works_210 : decode cX7_works 210 = .ok (.aload_n 0, 1) := by decide +kernel
theorem dX7_works_211 : decode cX7_works 211 = .ok (.getfield 96, 3) := by decide +kernel
theorem dX7_works_214 : decode cX7_works 214 = .ok (.iload_n 1, 1) := by decide +kernel
theorem dX7_works_215 : decode cX7_works 215 = .ok (.laload, 1) := by decide +kernel
theorem dX7_works_216 : decode cX7_works 216 = .ok (.lconst 0, 1) := by decide +kernel
theorem dX7_works_217 : decode cX7_works 217 = .ok (.ldc2_w 206, 3) := by decide +kernel
theorem dX7_works_220 : decode cX7_works 220 = .ok (.invokestatic 200, 3) := by decide +kernel
theorem dX7_works_223 : decode cX7_works 223 = .ok (.l2i, 1) := by decide +kernel
theorem dX7_works_224 : decode cX7_works 224 = .ok (.iastore, 1) := by decide +kernel
theorem dX7_works_225 : decode cX7_works 225 = .ok (.aload_n 0, 1) := by decide +kernel
theorem dX7_works_226 : decode cX7_works 226 = .ok (.iload_n 1, 1) := by decide +kernel
theorem dX7_works_227 : decode cX7_works 227 = .ok (.invokevirtual 208, 3) := by decide +kernel
theorem dX7_works_230 : decode cX7_works 230 = .ok (.return_, 1) := by decide +kernel
set_option maxRecDepth 20000 in
theorem ggX7_driven_X7_isRatio : GoodIn wsX7_driven wsX7_isRatio := goodIn_r _ [17, 18, 26, 27, 28, 29, 30, 31, 32, 33, 34, 35, 36, 37, 38, 39, 40, 41, 42, 43, 44, 45, 46, 47, 48, 49, 50, 51, 52, 53, 54, 55, 56, 57, 58, 59, 60, 61, 62, 63, 64, 65, 66] (by decide +kernel) (by decide +kernel)
set_option maxRecDepth 20000 in
theorem gX7_driven_X7_isRatio : GoodIn wsX7_driven (wsV RX7 179 RX7 yX7_isRatio wsX7_isRatio) := goodIn_app (goodIn_of _ (by decide +kernel)) ggX7_driven_X7_isRatio
set_option maxRecDepth 20000 in
theorem ggX7_driven_X7_held : GoodIn wsX7_driven wsX7_held := goodIn_r _ [21] (by decide +kernel) (by decide +kernel)
set_option maxRecDepth 20000 in
theorem gX7_driven_X7_held : GoodIn wsX7_driven (va_wsS RX7 200 yX7_held wsX7_held) := goodIn_app (goodIn_of _ (by decide +kernel)) ggX7_driven_X7_held
set_option maxRecDepth 20000 in
theorem ggX7_driven_X7_mostOf : GoodIn wsX7_driven wsX7_mostOf := goodIn_r _ [24, 25] (by decide +kernel) (by decide +kernel)
set_option maxRecDepth 20000 in
theorem gX7_driven_X7_mostOf : GoodIn wsX7_driven (va_wsS RX7 146 yX7_mostOf wsX7_mostOf) := goodIn_app (goodIn_of _ (by decide +kernel)) ggX7_driven_X7_mostOf
theorem dX7_driven_0 : decode cX7_driven 0 = .ok (.iconst (-1), 1) := by decide +kernel
theorem dX7_driven_1 : decode cX7_driven 1 = .ok (.istore_n 2, 1) := by decide +kernel
theorem dX7_driven_2 : decode cX7_driven 2 = .ok (.iconst 0, 1) := by decide +kernel
theorem dX7_driven_3 : decode cX7_driven 3 = .ok (.istore_n 3, 1) := by decide +kernel
theorem dX7_driven_4 : decode cX7_driven 4 = .ok (.iload_n 3, 1) := by decide +kernel
theorem dX7_driven_5 : decode cX7_driven 5 = .ok (.aload_n 0, 1) := by decide +kernel
theorem dX7_driven_6 : decode cX7_driven 6 = .ok (.getfield 128, 3) := by decide +kernel
theorem dX7_driven_9 : decode cX7_driven 9 = .ok (.if_icmp .ge 86, 3) := by decide +kernel
theorem dX7_driven_12 : decode cX7_driven 12 = .ok (.aload_n 0, 1) := by decide +kernel
theorem dX7_driven_13 : decode cX7_driven 13 = .ok (.getfield 78, 3) := by decide +kernel
theorem dX7_driven_16 : decode cX7_driven 16 = .ok (.iload_n 3, 1) := by decide +kernel
theorem dX7_driven_17 : decode cX7_driven 17 = .ok (.iaload, 1) := by decide +kernel
theorem dX7_driven_18 : decode cX7_driven 18 = .ok (.iload_n 1, 1) := by decide +kernel
theorem dX7_driven_19 : decode cX7_driven 19 = .ok (.if_icmp .ne 56, 3) := by decide +kernel
theorem dX7_driven_22 : decode cX7_driven 22 = .ok (.iload_n 2, 1) := by decide +kernel
theorem dX7_driven_23 : decode cX7_driven 23 = .ok (.iconst (-1), 1) := by decide +kernel
theorem dX7_driven_24 : decode cX7_driven 24 = .ok (.if_icmp .eq 47, 3) := by decide +kernel
theorem dX7_driven_27 : decode cX7_driven 27 = .ok (.aload_n 0, 1) := by decide +kernel
theorem dX7_driven_28 : decode cX7_driven 28 = .ok (.getfield 28, 3) := by decide +kernel
theorem dX7_driven_31 : decode cX7_driven 31 = .ok (.iload_n 1, 1) := by decide +kernel
theorem dX7_driven_32 : decode cX7_driven 32 = .ok (.baload, 1) := by decide +kernel
theorem dX7_driven_33 : decode cX7_driven 33 = .ok (.ifCond .eq 22, 3) := by decide +kernel
theorem dX7_driven_36 : decode cX7_driven 36 = .ok (.aload_n 0, 1) := by decide +kernel
theorem dX7_driven_37 : decode cX7_driven 37 = .ok (.getfield 96, 3) := by decide +kernel
theorem dX7_driven_40 : decode cX7_driven 40 = .ok (.iload_n 3, 1) := by decide +kernel
theorem dX7_driven_41 : decode cX7_driven 41 = .ok (.laload, 1) := by decide +kernel
theorem dX7_driven_42 : decode cX7_driven 42 = .ok (.aload_n 0, 1) := by decide +kernel
theorem dX7_driven_43 : decode cX7_driven 43 = .ok (.getfield 96, 3) := by decide +kernel
theorem dX7_driven_46 : decode cX7_driven 46 = .ok (.iload_n 2, 1) := by decide +kernel
theorem dX7_driven_47 : decode cX7_driven 47 = .ok (.laload, 1) := by decide +kernel
theorem dX7_driven_48 : decode cX7_driven 48 = .ok (.lcmp, 1) := by decide +kernel
theorem dX7_driven_49 : decode cX7_driven 49 = .ok (.ifCond .le 26, 3) := by decide +kernel
theorem dX7_driven_52 : decode cX7_driven 52 = .ok (.goto 19, 3) := by decide +kernel
theorem dX7_driven_55 : decode cX7_driven 55 = .ok (.aload_n 0, 1) := by decide +kernel
theorem dX7_driven_56 : decode cX7_driven 56 = .ok (.getfield 96, 3) := by decide +kernel
theorem dX7_driven_59 : decode cX7_driven 59 = .ok (.iload_n 3, 1) := by decide +kernel
theorem dX7_driven_60 : decode cX7_driven 60 = .ok (.laload, 1) := by decide +kernel
theorem dX7_driven_61 : decode cX7_driven 61 = .ok (.aload_n 0, 1) := by decide +kernel
theorem dX7_driven_62 : decode cX7_driven 62 = .ok (.getfield 96, 3) := by decide +kernel
theorem dX7_driven_65 : decode cX7_driven 65 = .ok (.iload_n 2, 1) := by decide +kernel
theorem dX7_driven_66 : decode cX7_driven 66 = .ok (.laload, 1) := by decide +kernel
theorem dX7_driven_67 : decode cX7_driven 67 = .ok (.lcmp, 1) := by decide +kernel
theorem dX7_driven_68 : decode cX7_driven 68 = .ok (.ifCond .ge 7, 3) := by decide +kernel
theorem dX7_driven_71 : decode cX7_driven 71 = .ok (.iconst 1, 1) := by decide +kernel
theorem dX7_driven_72 : decode cX7_driven 72 = .ok (.goto 4, 3) := by decide +kernel
theorem dX7_driven_75 : decode cX7_driven 75 = .ok (.iconst 0, 1) := by decide +kernel
theorem dX7_driven_76 : decode cX7_driven 76 = .ok (.istore 4, 2) := by decide +kernel
theorem dX7_driven_78 : decode cX7_driven 78 = .ok (.iload 4, 2) := by decide +kernel
theorem dX7_driven_80 : decode cX7_driven 80 = .ok (.ifCond .eq 7, 3) := by decide +kernel
theorem dX7_driven_83 : decode cX7_driven 83 = .ok (.iload_n 3, 1) := by decide +kernel
theorem dX7_driven_84 : decode cX7_driven 84 = .ok (.goto 4, 3) := by decide +kernel
theorem dX7_driven_87 : decode cX7_driven 87 = .ok (.iload_n 2, 1) := by decide +kernel
theorem dX7_driven_88 : decode cX7_driven 88 = .ok (.istore_n 2, 1) := by decide +kernel
theorem dX7_driven_89 : decode cX7_driven 89 = .ok (.iinc 3 1, 3) := by decide +kernel
theorem dX7_driven_92 : decode cX7_driven 92 = .ok (.goto (-88), 3) := by decide +kernel
theorem dX7_driven_95 : decode cX7_driven 95 = .ok (.iload_n 2, 1) := by decide +kernel
theorem dX7_driven_96 : decode cX7_driven 96 = .ok (.iconst (-1), 1) := by decide +kernel
theorem dX7_driven_97 : decode cX7_driven 97 = .ok (.if_icmp .ne 4, 3) := by decide +kernel
theorem dX7_driven_100 : decode cX7_driven 100 = .ok (.return_, 1) := by decide +kernel
theorem dX7_driven_101 : decode cX7_driven 101 = .ok (.iconst 0, 1) := by decide +kernel
theorem dX7_driven_102 : decode cX7_driven 102 = .ok (.istore_n 3, 1) := by decide +kernel
theorem dX7_driven_103 : decode cX7_driven 103 = .ok (.iload_n 3, 1) := by decide +kernel
theorem dX7_driven_104 : decode cX7_driven 104 = .ok (.aload_n 0, 1) := by decide +kernel
theorem dX7_driven_105 : decode cX7_driven 105 = .ok (.getfield 128, 3) := by decide +kernel
theorem dX7_driven_108 : decode cX7_driven 108 = .ok (.if_icmp .ge 83, 3) := by decide +kernel
theorem dX7_driven_111 : decode cX7_driven 111 = .ok (.aload_n 0, 1) := by decide +kernel
theorem dX7_driven_112 : decode cX7_driven 112 = .ok (.getfield 78, 3) := by decide +kernel
theorem dX7_driven_115 : decode cX7_driven 115 = .ok (.iload_n 3, 1) := by decide +kernel
theorem dX7_driven_116 : decode cX7_driven 116 = .ok (.iaload, 1) := by decide +kernel
theorem dX7_driven_117 : decode cX7_driven 117 = .ok (.iload_n 1, 1) := by decide +kernel
theorem dX7_driven_118 : decode cX7_driven 118 = .ok (.if_icmp .ne 67, 3) := by decide +kernel
theorem dX7_driven_121 : decode cX7_driven 121 = .ok (.aload_n 0, 1) := by decide +kernel
theorem dX7_driven_122 : decode cX7_driven 122 = .ok (.iload_n 3, 1) := by decide +kernel
theorem dX7_driven_123 : decode cX7_driven 123 = .ok (.invokevirtual 179, 3) := by decide +kernel
theorem dX7_driven_126 : decode cX7_driven 126 = .ok (.ifCond .ne 59, 3) := by decide +kernel
theorem dX7_driven_129 : decode cX7_driven 129 = .ok (.aload_n 0, 1) := by decide +kernel
theorem dX7_driven_130 : decode cX7_driven 130 = .ok (.getfield 96, 3) := by decide +kernel
theorem dX7_driven_133 : decode cX7_driven 133 = .ok (.iload_n 3, 1) := by decide +kernel
theorem dX7_driven_134 : decode cX7_driven 134 = .ok (.laload, 1) := by decide +kernel
theorem dX7_driven_135 : decode cX7_driven 135 = .ok (.aload_n 0, 1) := by decide +kernel
theorem dX7_driven_136 : decode cX7_driven 136 = .ok (.getfield 96, 3) := by decide +kernel
theorem dX7_driven_139 : decode cX7_driven 139 = .ok (.iload_n 2, 1) := by decide +kernel
theorem dX7_driven_140 : decode cX7_driven 140 = .ok (.laload, 1) := by decide +kernel
theorem dX7_driven_141 : decode cX7_driven 141 = .ok (.lcmp, 1) := by decide +kernel
theorem dX7_driven_142 : decode cX7_driven 142 = .ok (.ifCond .eq 43, 3) := by decide +kernel
theorem dX7_driven_145 : decode cX7_driven 145 = .ok (.aload_n 0, 1) := by decide +kernel
theorem dX7_driven_146 : decode cX7_driven 146 = .ok (.getfield 93, 3) := by decide +kernel
theorem dX7_driven_149 : decode cX7_driven 149 = .ok (.iload_n 3, 1) := by decide +kernel
theorem dX7_driven_150 : decode cX7_driven 150 = .ok (.aload_n 0, 1) := by decide +kernel
theorem dX7_driven_151 : decode cX7_driven 151 = .ok (.getfield 96, 3) := by decide +kernel
theorem dX7_driven_154 : decode cX7_driven 154 = .ok (.iload_n 2, 1) := by decide +kernel
theorem dX7_driven_155 : decode cX7_driven 155 = .ok (.laload, 1) := by decide +kernel
theorem dX7_driven_156 : decode cX7_driven 156 = .ok (.aload_n 0, 1) := by decide +kernel
theorem dX7_driven_157 : decode cX7_driven 157 = .ok (.getfield 75, 3) := by decide +kernel
theorem dX7_driven_160 : decode cX7_driven 160 = .ok (.iload_n 3, 1) := by decide +kernel
theorem dX7_driven_161 : decode cX7_driven 161 = .ok (.iaload, 1) := by decide +kernel
theorem dX7_driven_162 : decode cX7_driven 162 = .ok (.i2l, 1) := by decide +kernel
theorem dX7_driven_163 : decode cX7_driven 163 = .ok (.lsub, 1) := by decide +kernel
theorem dX7_driven_164 : decode cX7_driven 164 = .ok (.aload_n 0, 1) := by decide +kernel
theorem dX7_driven_165 : decode cX7_driven 165 = .ok (.getfield 105, 3) := by decide +kernel
theorem dX7_driven_168 : decode cX7_driven 168 = .ok (.iload_n 3, 1) := by decide +kernel
theorem dX7_driven_169 : decode cX7_driven 169 = .ok (.laload, 1) := by decide +kernel
theorem dX7_driven_170 : decode cX7_driven 170 = .ok (.lsub, 1) := by decide +kernel
theorem dX7_driven_171 : decode cX7_driven 171 = .ok (.ldc2_w 204, 3) := by decide +kernel
theorem dX7_driven_174 : decode cX7_driven 174 = .ok (.lmul, 1) := by decide +kernel
theorem dX7_driven_175 : decode cX7_driven 175 = .ok (.ldc2_w 196, 3) := by decide +kernel
theorem dX7_driven_178 : decode cX7_driven 178 = .ok (.ldc2_w 198, 3) := by decide +kernel
theorem dX7_driven_181 : decode cX7_driven 181 = .ok (.invokestatic 200, 3) := by decide +kernel
theorem dX7_driven_184 : decode cX7_driven 184 = .ok (.lastore, 1) := by decide +kernel
theorem dX7_driven_185 : decode cX7_driven 185 = .ok (.iinc 3 1, 3) := by decide +kernel
theorem dX7_driven_188 : decode cX7_driven 188 = .ok (.goto (-85), 3) := by decide +kernel
theorem dX7_driven_191 : decode cX7_driven 191 = .ok (.aload_n 0, 1) := by decide +kernel
theorem dX7_driven_192 : decode cX7_driven 192 = .ok (.getfield 13, 3) := by decide +kernel
theorem dX7_driven_195 : decode cX7_driven 195 = .ok (.iload_n 1, 1) := by decide +kernel
theorem dX7_driven_196 : decode cX7_driven 196 = .ok (.aload_n 0, 1) := by decide +kernel
theorem dX7_driven_197 : decode cX7_driven 197 = .ok (.getfield 96, 3) := by decide +kernel
theorem dX7_driven_200 : decode cX7_driven 200 = .ok (.iload_n 2, 1) := by decide +kernel
theorem dX7_driven_201 : decode cX7_driven 201 = .ok (.laload, 1) := by decide +kernel
theorem dX7_driven_202 : decode cX7_driven 202 = .ok (.lconst 0, 1) := by decide +kernel
theorem dX7_driven_203 : decode cX7_driven 203 = .ok (.aload_n 0, 1) := by decide +kernel
theorem dX7_driven_204 : decode cX7_driven 204 = .ok (.getfield 7, 3) := by decide +kernel
theorem dX7_driven_207 : decode cX7_driven 207 = .ok (.iload_n 1, 1) := by decide +kernel
theorem dX7_driven_208 : decode cX7_driven 208 = .ok (.iaload, 1) := by decide +kernel
theorem dX7_driven_209 : decode cX7_driven 209 = .ok (.invokestatic 146, 3) := by decide +kernel
theorem dX7_driven_212 : decode cX7_driven 212 = .ok (.i2l, 1) := by decide +kernel
theorem dX7_driven_213 : decode cX7_driven 213 = .ok (.invokestatic 200, 3) := by decide +kernel
theorem dX7_driven_216 : decode cX7_driven 216 = .ok (.l2i, 1) := by decide +kernel
theorem dX7_driven_217 : decode cX7_driven 217 = .ok (.iastore, 1) := by decide +kernel
theorem dX7_driven_218 : decode cX7_driven 218 = .ok (.return_, 1) := by decide +kernel
theorem dX7_takenFlow_0 : decode cX7_takenFlow 0 = .ok (.iload_n 2, 1) := by decide +kernel
theorem dX7_takenFlow_1 : decode cX7_takenFlow 1 = .ok (.iconst 2, 1) := by decide +kernel
theorem dX7_takenFlow_2 : decode cX7_takenFlow 2 = .ok (.idiv, 1) := by decide +kernel
theorem dX7_takenFlow_3 : decode cX7_takenFlow 3 = .ok (.iload_n 1, 1) := by decide +kernel
theorem dX7_takenFlow_4 : decode cX7_takenFlow 4 = .ok (.if_icmp .ge 12, 3) := by decide +kernel
theorem dX7_takenFlow_7 : decode cX7_takenFlow 7 = .ok (.aload_n 0, 1) := by decide +kernel
theorem dX7_takenFlow_8 : decode cX7_takenFlow 8 = .ok (.getfield 32, 3) := by decide +kernel
theorem dX7_takenFlow_11 : decode cX7_takenFlow 11 = .ok (.iload_n 2, 1) := by decide +kernel
theorem dX7_takenFlow_12 : decode cX7_takenFlow 12 = .ok (.laload, 1) := by decide +kernel
theorem dX7_takenFlow_13 : decode cX7_takenFlow 13 = .ok (.goto 9, 3) := by decide +kernel
theorem dX7_takenFlow_16 : decode cX7_takenFlow 16 = .ok (.aload_n 0, 1) := by decide +kernel
theorem dX7_takenFlow_17 : decode cX7_takenFlow 17 = .ok (.getfield 39, 3) := by decide +kernel
theorem dX7_takenFlow_20 : decode cX7_takenFlow 20 = .ok (.iload_n 2, 1) := by decide +kernel
theorem dX7_takenFlow_21 : decode cX7_takenFlow 21 = .ok (.laload, 1) := by decide +kernel
theorem dX7_takenFlow_22 : decode cX7_takenFlow 22 = .ok (.lreturn, 1) := by decide +kernel
theorem dX7_takenHeat_0 : decode cX7_takenHeat 0 = .ok (.iload_n 2, 1) := by decide +kernel
theorem dX7_takenHeat_1 : decode cX7_takenHeat 1 = .ok (.iconst 2, 1) := by decide +kernel
theorem dX7_takenHeat_2 : decode cX7_takenHeat 2 = .ok (.idiv, 1) := by decide +kernel
theorem dX7_takenHeat_3 : decode cX7_takenHeat 3 = .ok (.iload_n 1, 1) := by decide +kernel
theorem dX7_takenHeat_4 : decode cX7_takenHeat 4 = .ok (.if_icmp .ge 12, 3) := by decide +kernel
theorem dX7_takenHeat_7 : decode cX7_takenHeat 7 = .ok (.aload_n 0, 1) := by decide +kernel
theorem dX7_takenHeat_8 : decode cX7_takenHeat 8 = .ok (.getfield 36, 3) := by decide +kernel
theorem dX7_takenHeat_11 : decode cX7_takenHeat 11 = .ok (.iload_n 2, 1) := by decide +kernel
theorem dX7_takenHeat_12 : decode cX7_takenHeat 12 = .ok (.laload, 1) := by decide +kernel
theorem dX7_takenHeat_13 : decode cX7_takenHeat 13 = .ok (.goto 9, 3) := by decide +kernel
theorem dX7_takenHeat_16 : decode cX7_takenHeat 16 = .ok (.aload_n 0, 1) := by decide +kernel
theorem dX7_takenHeat_17 : decode cX7_takenHeat 17 = .ok (.getfield 42, 3) := by decide +kernel
theorem dX7_takenHeat_20 : decode cX7_takenHeat 20 = .ok (.iload_n 2, 1) := by decide +kernel
theorem dX7_takenHeat_21 : decode cX7_takenHeat 21 = .ok (.laload, 1) := by decide +kernel
theorem dX7_takenHeat_22 : decode cX7_takenHeat 22 = .ok (.lreturn, 1) := by decide +kernel
theorem dX7_gives_0 : decode cX7_gives 0 = .ok (.aload_n 0, 1) := by decide +kernel
theorem dX7_gives_1 : decode cX7_gives 1 = .ok (.getfield 32, 3) := by decide +kernel
theorem dX7_gives_4 : decode cX7_gives 4 = .ok (.iconst 2, 1) := by decide +kernel
theorem dX7_gives_5 : decode cX7_gives 5 = .ok (.iload_n 1, 1) := by decide +kernel
theorem dX7_gives_6 : decode cX7_gives 6 = .ok (.imul, 1) := by decide +kernel
theorem dX7_gives_7 : decode cX7_gives 7 = .ok (.lload_n 2, 1) := by decide +kernel
theorem dX7_gives_8 : decode cX7_gives 8 = .ok (.lastore, 1) := by decide +kernel
theorem dX7_gives_9 : decode cX7_gives 9 = .ok (.aload_n 0, 1) := by decide +kernel
theorem dX7_gives_10 : decode cX7_gives 10 = .ok (.getfield 36, 3) := by decide +kernel
theorem dX7_gives_13 : decode cX7_gives 13 = .ok (.iconst 2, 1) := by decide +kernel
theorem dX7_gives_14 : decode cX7_gives 14 = .ok (.iload_n 1, 1) := by decide +kernel
theorem dX7_gives_15 : decode cX7_gives 15 = .ok (.imul, 1) := by decide +kernel
theorem dX7_gives_16 : decode cX7_gives 16 = .ok (.lload 4, 2) := by decide +kernel
theorem dX7_gives_18 : decode cX7_gives 18 = .ok (.lastore, 1) := by decide +kernel
theorem dX7_gives_19 : decode cX7_gives 19 = .ok (.aload_n 0, 1) := by decide +kernel
theorem dX7_gives_20 : decode cX7_gives 20 = .ok (.getfield 32, 3) := by decide +kernel
theorem dX7_gives_23 : decode cX7_gives 23 = .ok (.iconst 2, 1) := by decide +kernel
theorem dX7_gives_24 : decode cX7_gives 24 = .ok (.iload_n 1, 1) := by decide +kernel
theorem dX7_gives_25 : decode cX7_gives 25 = .ok (.imul, 1) := by decide +kernel
theorem dX7_gives_26 : decode cX7_gives 26 = .ok (.iconst 1, 1) := by decide +kernel
theorem dX7_gives_27 : decode cX7_gives 27 = .ok (.iadd, 1) := by decide +kernel
theorem dX7_gives_28 : decode cX7_gives 28 = .ok (.lload 6, 2) := by decide +kernel
theorem dX7_gives_30 : decode cX7_gives 30 = .ok (.lastore, 1) := by decide +kernel
theorem dX7_gives_31 : decode cX7_gives 31 = .ok (.aload_n 0, 1) := by decide +kernel
theorem dX7_gives_32 : decode cX7_gives 32 = .ok (.getfield 36, 3) := by decide +kernel
theorem dX7_gives_35 : decode cX7_gives 35 = .ok (.iconst 2, 1) := by decide +kernel
theorem dX7_gives_36 : decode cX7_gives 36 = .ok (.iload_n 1, 1) := by decide +kernel
theorem dX7_gives_37 : decode cX7_gives 37 = .ok (.imul, 1) := by decide +kernel
theorem dX7_gives_38 : decode cX7_gives 38 = .ok (.iconst 1, 1) := by decide +kernel
theorem dX7_gives_39 : decode cX7_gives 39 = .ok (.iadd, 1) := by decide +kernel
theorem dX7_gives_40 : decode cX7_gives 40 = .ok (.lload 8, 2) := by decide +kernel
theorem dX7_gives_42 : decode cX7_gives 42 = .ok (.lastore, 1) := by decide +kernel
theorem dX7_gives_43 : decode cX7_gives 43 = .ok (.return_, 1) := by decide +kernel
set_option maxRecDepth 20000 in
theorem ggX7_runs_X7_gives : GoodIn wsX7_runs wsX7_gives := goodIn_r _ [12, 13, 14, 34, 35, 36, 37, 38, 39, 40, 41, 42, 43, 44, 45, 46, 47, 48, 49, 50, 51, 52, 53, 54, 55, 56, 57, 58, 59, 60, 61, 62, 63, 64, 65, 66, 67, 68, 69, 70, 71, 72, 73, 74] (by decide +kernel) (by decide +kernel)
set_option maxRecDepth 20000 in
theorem gX7_runs_X7_gives : GoodIn wsX7_runs (wsV RX7 212 RX7 yX7_gives wsX7_gives) := goodIn_app (goodIn_of _ (by decide +kernel)) ggX7_runs_X7_gives
set_option maxRecDepth 20000 in
theorem ggX7_runs_X7_takenFlow : GoodIn wsX7_runs wsX7_takenFlow := goodIn_r _ [18, 13, 19, 34, 35, 36, 37, 38, 39, 40, 41, 42, 43, 44, 45, 46, 47, 48, 49, 50, 51, 52, 53, 54, 55, 56, 57, 58, 59, 60, 61, 62, 63, 64, 65, 66, 67, 68, 69, 70, 71, 72, 73, 74] (by decide +kernel) (by decide +kernel)
set_option maxRecDepth 20000 in
theorem gX7_runs_X7_takenFlow : GoodIn wsX7_runs (wsV RX7 216 RX7 yX7_takenFlow wsX7_takenFlow) := goodIn_app (goodIn_of _ (by decide +kernel)) ggX7_runs_X7_takenFlow
set_option maxRecDepth 20000 in
theorem ggX7_runs_X7_takenHeat : GoodIn wsX7_runs wsX7_takenHeat := goodIn_r _ [23, 14, 24, 34, 35, 36, 37, 38, 39, 40, 41, 42, 43, 44, 45, 46, 47, 48, 49, 50, 51, 52, 53, 54, 55, 56, 57, 58, 59, 60, 61, 62, 63, 64, 65, 66, 67, 68, 69, 70, 71, 72, 73, 74] (by decide +kernel) (by decide +kernel)
set_option maxRecDepth 20000 in
theorem gX7_runs_X7_takenHeat : GoodIn wsX7_runs (wsV RX7 220 RX7 yX7_takenHeat wsX7_takenHeat) := goodIn_app (goodIn_of _ (by decide +kernel)) ggX7_runs_X7_takenHeat
set_option maxRecDepth 20000 in
theorem ggX7_runs_X7_takesTwo : GoodIn wsX7_runs wsX7_takesTwo := goodIn_r _ [27] (by decide +kernel) (by decide +kernel)
set_option maxRecDepth 20000 in
theorem gX7_runs_X7_takesTwo : GoodIn wsX7_runs (va_wsS RX7 143 yX7_takesTwo wsX7_takesTwo) := goodIn_app (goodIn_of _ (by decide +kernel)) ggX7_runs_X7_takesTwo
set_option maxRecDepth 20000 in
theorem ggX7_runs_X7_warmthFor : GoodIn wsX7_runs wsX7_warmthFor := goodIn_r _ [30, 7] (by decide +kernel) (by decide +kernel)
set_option maxRecDepth 20000 in
theorem gX7_runs_X7_warmthFor : GoodIn wsX7_runs (va_wsS RX7 184 yX7_warmthFor wsX7_warmthFor) := goodIn_app (goodIn_of _ (by decide +kernel)) ggX7_runs_X7_warmthFor
set_option maxRecDepth 20000 in
theorem ggX7_runs_X7_held : GoodIn wsX7_runs wsX7_held := goodIn_r _ [33] (by decide +kernel) (by decide +kernel)
set_option maxRecDepth 20000 in
theorem gX7_runs_X7_held : GoodIn wsX7_runs (va_wsS RX7 200 yX7_held wsX7_held) := goodIn_app (goodIn_of _ (by decide +kernel)) ggX7_runs_X7_held
theorem dX7_runs_0 : decode cX7_runs 0 = .ok (.aload_n 0, 1) := by decide +kernel
theorem dX7_runs_1 : decode cX7_runs 1 = .ok (.getfield 7, 3) := by decide +kernel
theorem dX7_runs_4 : decode cX7_runs 4 = .ok (.iload_n 1, 1) := by decide +kernel
theorem dX7_runs_5 : decode cX7_runs 5 = .ok (.iaload, 1) := by decide +kernel
theorem dX7_runs_6 : decode cX7_runs 6 = .ok (.istore 4, 2) := by decide +kernel
theorem dX7_runs_8 : decode cX7_runs 8 = .ok (.aload_n 0, 1) := by decide +kernel
theorem dX7_runs_9 : decode cX7_runs 9 = .ok (.getfield 25, 3) := by decide +kernel
theorem dX7_runs_12 : decode cX7_runs 12 = .ok (.iload_n 1, 1) := by decide +kernel
theorem dX7_runs_13 : decode cX7_runs 13 = .ok (.iconst 0, 1) := by decide +kernel
theorem dX7_runs_14 : decode cX7_runs 14 = .ok (.iastore, 1) := by decide +kernel
theorem dX7_runs_15 : decode cX7_runs 15 = .ok (.iload 4, 2) := by decide +kernel
theorem dX7_runs_17 : decode cX7_runs 17 = .ok (.ifCond .ne 21, 3) := by decide +kernel
theorem dX7_runs_20 : decode cX7_runs 20 = .ok (.aload_n 0, 1) := by decide +kernel
theorem dX7_runs_21 : decode cX7_runs 21 = .ok (.iload_n 1, 1) := by decide +kernel
theorem dX7_runs_22 : decode cX7_runs 22 = .ok (.lload_n 2, 1) := by decide +kernel
theorem dX7_runs_23 : decode cX7_runs 23 = .ok (.lload_n 2, 1) := by decide +kernel
theorem dX7_runs_24 : decode cX7_runs 24 = .ok (.aload_n 0, 1) := by decide +kernel
theorem dX7_runs_25 : decode cX7_runs 25 = .ok (.getfield 16, 3) := by decide +kernel
theorem dX7_runs_28 : decode cX7_runs 28 = .ok (.iload_n 1, 1) := by decide +kernel
theorem dX7_runs_29 : decode cX7_runs 29 = .ok (.iaload, 1) := by decide +kernel
theorem dX7_runs_30 : decode cX7_runs 30 = .ok (.i2l, 1) := by decide +kernel
theorem dX7_runs_31 : decode cX7_runs 31 = .ok (.lmul, 1) := by decide +kernel
theorem dX7_runs_32 : decode cX7_runs 32 = .ok (.lconst 0, 1) := by decide +kernel
theorem dX7_runs_33 : decode cX7_runs 33 = .ok (.lconst 0, 1) := by decide +kernel
theorem dX7_runs_34 : decode cX7_runs 34 = .ok (.invokevirtual 212, 3) := by decide +kernel
theorem dX7_runs_37 : decode cX7_runs 37 = .ok (.return_, 1) := by decide +kernel
theorem dX7_runs_38 : decode cX7_runs 38 = .ok (.aload_n 0, 1) := by decide +kernel
theorem dX7_runs_39 : decode cX7_runs 39 = .ok (.iload_n 1, 1) := by decide +kernel
theorem dX7_runs_40 : decode cX7_runs 40 = .ok (.aload_n 0, 1) := by decide +kernel
theorem dX7_runs_41 : decode cX7_runs 41 = .ok (.getfield 19, 3) := by decide +kernel
theorem dX7_runs_44 : decode cX7_runs 44 = .ok (.iload_n 1, 1) := by decide +kernel
theorem dX7_runs_45 : decode cX7_runs 45 = .ok (.iaload, 1) := by decide +kernel
theorem dX7_runs_46 : decode cX7_runs 46 = .ok (.invokevirtual 216, 3) := by decide +kernel
theorem dX7_runs_49 : decode cX7_runs 49 = .ok (.lstore 5, 2) := by decide +kernel
theorem dX7_runs_51 : decode cX7_runs 51 = .ok (.aload_n 0, 1) := by decide +kernel
theorem dX7_runs_52 : decode cX7_runs 52 = .ok (.iload_n 1, 1) := by decide +kernel
theorem dX7_runs_53 : decode cX7_runs 53 = .ok (.aload_n 0, 1) := by decide +kernel
theorem dX7_runs_54 : decode cX7_runs 54 = .ok (.getfield 19, 3) := by decide +kernel
theorem dX7_runs_57 : decode cX7_runs 57 = .ok (.iload_n 1, 1) := by decide +kernel
theorem dX7_runs_58 : decode cX7_runs 58 = .ok (.iaload, 1) := by decide +kernel
theorem dX7_runs_59 : decode cX7_runs 59 = .ok (.invokevirtual 220, 3) := by decide +kernel
theorem dX7_runs_62 : decode cX7_runs 62 = .ok (.lstore 7, 2) := by decide +kernel
theorem dX7_runs_64 : decode cX7_runs 64 = .ok (.iload 4, 2) := by decide +kernel
theorem dX7_runs_66 : decode cX7_runs 66 = .ok (.invokestatic 143, 3) := by decide +kernel
theorem dX7_runs_69 : decode cX7_runs 69 = .ok (.ifCond .eq 17, 3) := by decide +kernel
theorem dX7_runs_72 : decode cX7_runs 72 = .ok (.aload_n 0, 1) := by decide +kernel
theorem dX7_runs_73 : decode cX7_runs 73 = .ok (.iload_n 1, 1) := by decide +kernel
theorem dX7_runs_74 : decode cX7_runs 74 = .ok (.aload_n 0, 1) := by decide +kernel
theorem dX7_runs_75 : decode cX7_runs 75 = .ok (.getfield 22, 3) := by decide +kernel
theorem dX7_runs_78 : decode cX7_runs 78 = .ok (.iload_n 1, 1) := by decide +kernel
theorem dX7_runs_79 : decode cX7_runs 79 = .ok (.iaload, 1) := by decide +kernel
theorem dX7_runs_80 : decode cX7_runs 80 = .ok (.invokevirtual 216, 3) := by decide +kernel
theorem dX7_runs_83 : decode cX7_runs 83 = .ok (.goto 4, 3) := by decide +kernel
theorem dX7_runs_86 : decode cX7_runs 86 = .ok (.lconst 0, 1) := by decide +kernel
theorem dX7_runs_87 : decode cX7_runs 87 = .ok (.lstore 9, 2) := by decide +kernel
theorem dX7_runs_89 : decode cX7_runs 89 = .ok (.iload 4, 2) := by decide +kernel
theorem dX7_runs_91 : decode cX7_runs 91 = .ok (.invokestatic 143, 3) := by decide +kernel
theorem dX7_runs_94 : decode cX7_runs 94 = .ok (.ifCond .eq 17, 3) := by decide +kernel
theorem dX7_runs_97 : decode cX7_runs 97 = .ok (.aload_n 0, 1) := by decide +kernel
theorem dX7_runs_98 : decode cX7_runs 98 = .ok (.iload_n 1, 1) := by decide +kernel
theorem dX7_runs_99 : decode cX7_runs 99 = .ok (.aload_n 0, 1) := by decide +kernel
theorem dX7_runs_100 : decode cX7_runs 100 = .ok (.getfield 22, 3) := by decide +kernel
theorem dX7_runs_103 : decode cX7_runs 103 = .ok (.iload_n 1, 1) := by decide +kernel
theorem dX7_runs_104 : decode cX7_runs 104 = .ok (.iaload, 1) := by decide +kernel
theorem dX7_runs_105 : decode cX7_runs 105 = .ok (.invokevirtual 220, 3) := by decide +kernel
theorem dX7_runs_108 : decode cX7_runs 108 = .ok (.goto 4, 3) := by decide +kernel
theorem dX7_runs_111 : decode cX7_runs 111 = .ok (.lconst 0, 1) := by decide +kernel
theorem dX7_runs_112 : decode cX7_runs 112 = .ok (.lstore 11, 2) := by decide +kernel
theorem dX7_runs_114 : decode cX7_runs 114 = .ok (.iload 4, 2) := by decide +kernel
theorem dX7_runs_116 : decode cX7_runs 116 = .ok (.iconst 1, 1) := by decide +kernel
theorem dX7_runs_117 : decode cX7_runs 117 = .ok (.if_icmp .ne 56, 3) := by decide +kernel
theorem dX7_runs_120 : decode cX7_runs 120 = .ok (.lload 5, 2) := by decide +kernel
theorem dX7_runs_122 : decode cX7_runs 122 = .ok (.lload_n 2, 1) := by decide +kernel
theorem dX7_runs_123 : decode cX7_runs 123 = .ok (.lmul, 1) := by decide +kernel
theorem dX7_runs_124 : decode cX7_runs 124 = .ok (.ldc2_w 191, 3) := by decide +kernel
theorem dX7_runs_127 : decode cX7_runs 127 = .ok (.ldiv, 1) := by decide +kernel
theorem dX7_runs_128 : decode cX7_runs 128 = .ok (.lstore 13, 2) := by decide +kernel
theorem dX7_runs_130 : decode cX7_runs 130 = .ok (.lload 5, 2) := by decide +kernel
theorem dX7_runs_132 : decode cX7_runs 132 = .ok (.lconst 0, 1) := by decide +kernel
theorem dX7_runs_133 : decode cX7_runs 133 = .ok (.lcmp, 1) := by decide +kernel
theorem dX7_runs_134 : decode cX7_runs 134 = .ok (.ifCond .ne 7, 3) := by decide +kernel
theorem dX7_runs_137 : decode cX7_runs 137 = .ok (.lconst 0, 1) := by decide +kernel
theorem dX7_runs_138 : decode cX7_runs 138 = .ok (.goto 11, 3) := by decide +kernel
theorem dX7_runs_141 : decode cX7_runs 141 = .ok (.lload 7, 2) := by decide +kernel
theorem dX7_runs_143 : decode cX7_runs 143 = .ok (.lload 13, 2) := by decide +kernel
theorem dX7_runs_145 : decode cX7_runs 145 = .ok (.lmul, 1) := by decide +kernel
theorem dX7_runs_146 : decode cX7_runs 146 = .ok (.lload 5, 2) := by decide +kernel
theorem dX7_runs_148 : decode cX7_runs 148 = .ok (.ldiv, 1) := by decide +kernel
theorem dX7_runs_149 : decode cX7_runs 149 = .ok (.lstore 15, 2) := by decide +kernel
theorem dX7_runs_151 : decode cX7_runs 151 = .ok (.aload_n 0, 1) := by decide +kernel
theorem dX7_runs_152 : decode cX7_runs 152 = .ok (.iload_n 1, 1) := by decide +kernel
theorem dX7_runs_153 : decode cX7_runs 153 = .ok (.lload 13, 2) := by decide +kernel
theorem dX7_runs_155 : decode cX7_runs 155 = .ok (.lload 15, 2) := by decide +kernel
theorem dX7_runs_157 : decode cX7_runs 157 = .ok (.lload 5, 2) := by decide +kernel
theorem dX7_runs_159 : decode cX7_runs 159 = .ok (.lload 13, 2) := by decide +kernel
theorem dX7_runs_161 : decode cX7_runs 161 = .ok (.lsub, 1) := by decide +kernel
theorem dX7_runs_162 : decode cX7_runs 162 = .ok (.lload 7, 2) := by decide +kernel
theorem dX7_runs_164 : decode cX7_runs 164 = .ok (.lload 15, 2) := by decide +kernel
theorem dX7_runs_166 : decode cX7_runs 166 = .ok (.lsub, 1) := by decide +kernel
theorem dX7_runs_167 : decode cX7_runs 167 = .ok (.invokevirtual 212, 3) := by decide +kernel
theorem dX7_runs_170 : decode cX7_runs 170 = .ok (.goto 177, 3) := by decide +kernel
theorem dX7_runs_173 : decode cX7_runs 173 = .ok (.iload 4, 2) := by decide +kernel
theorem dX7_runs_175 : decode cX7_runs 175 = .ok (.iconst 2, 1) := by decide +kernel
theorem dX7_runs_176 : decode cX7_runs 176 = .ok (.if_icmp .ne 23, 3) := by decide +kernel
theorem dX7_runs_179 : decode cX7_runs 179 = .ok (.aload_n 0, 1) := by decide +kernel
theorem dX7_runs_180 : decode cX7_runs 180 = .ok (.iload_n 1, 1) := by decide +kernel
theorem dX7_runs_181 : decode cX7_runs 181 = .ok (.lload 5, 2) := by decide +kernel
theorem dX7_runs_183 : decode cX7_runs 183 = .ok (.lload 9, 2) := by decide +kernel
theorem dX7_runs_185 : decode cX7_runs 185 = .ok (.ladd, 1) := by decide +kernel
theorem dX7_runs_186 : decode cX7_runs 186 = .ok (.lload 7, 2) := by decide +kernel
theorem dX7_runs_188 : decode cX7_runs 188 = .ok (.lload 11, 2) := by decide +kernel
theorem dX7_runs_190 : decode cX7_runs 190 = .ok (.ladd, 1) := by decide +kernel
theorem dX7_runs_191 : decode cX7_runs 191 = .ok (.lconst 0, 1) := by decide +kernel
theorem dX7_runs_192 : decode cX7_runs 192 = .ok (.lconst 0, 1) := by decide +kernel
theorem dX7_runs_193 : decode cX7_runs 193 = .ok (.invokevirtual 212, 3) := by decide +kernel
theorem dX7_runs_196 : decode cX7_runs 196 = .ok (.goto 151, 3) := by decide +kernel
theorem dX7_runs_199 : decode cX7_runs 199 = .ok (.iload 4, 2) := by decide +kernel
theorem dX7_runs_201 : decode cX7_runs 201 = .ok (.iconst 3, 1) := by decide +kernel
theorem dX7_runs_202 : decode cX7_runs 202 = .ok (.if_icmp .ne 107, 3) := by decide +kernel
theorem dX7_runs_205 : decode cX7_runs 205 = .ok (.lload 5, 2) := by decide +kernel
theorem dX7_runs_207 : decode cX7_runs 207 = .ok (.lload 9, 2) := by decide +kernel
theorem dX7_runs_209 : decode cX7_runs 209 = .ok (.lcmp, 1) := by decide +kernel
theorem dX7_runs_210 : decode cX7_runs 210 = .ok (.ifCond .ge 8, 3) := by decide +kernel
theorem dX7_runs_213 : decode cX7_runs 213 = .ok (.lload 5, 2) := by decide +kernel
theorem dX7_runs_215 : decode cX7_runs 215 = .ok (.goto 5, 3) := by decide +kernel
theorem dX7_runs_218 : decode cX7_runs 218 = .ok (.lload 9, 2) := by decide +kernel
theorem dX7_runs_220 : decode cX7_runs 220 = .ok (.lstore 13, 2) := by decide +kernel
theorem dX7_runs_222 : decode cX7_runs 222 = .ok (.lload_n 2, 1) := by decide +kernel
theorem dX7_runs_223 : decode cX7_runs 223 = .ok (.lload 13, 2) := by decide +kernel
theorem dX7_runs_225 : decode cX7_runs 225 = .ok (.ladd, 1) := by decide +kernel
theorem dX7_runs_226 : decode cX7_runs 226 = .ok (.lconst 0, 1) := by decide +kernel
theorem dX7_runs_227 : decode cX7_runs 227 = .ok (.lcmp, 1) := by decide +kernel
theorem dX7_runs_228 : decode cX7_runs 228 = .ok (.ifCond .ne 7, 3) := by decide +kernel
theorem dX7_runs_231 : decode cX7_runs 231 = .ok (.lconst 0, 1) := by decide +kernel
theorem dX7_runs_232 : decode cX7_runs 232 = .ok (.goto 32, 3) := by decide +kernel
theorem dX7_runs_235 : decode cX7_runs 235 = .ok (.lload_n 2, 1) := by decide +kernel
theorem dX7_runs_236 : decode cX7_runs 236 = .ok (.lload 13, 2) := by decide +kernel
theorem dX7_runs_238 : decode cX7_runs 238 = .ok (.lmul, 1) := by decide +kernel
theorem dX7_runs_239 : decode cX7_runs 239 = .ok (.lload 5, 2) := by decide +kernel
theorem dX7_runs_241 : decode cX7_runs 241 = .ok (.lload 7, 2) := by decide +kernel
theorem dX7_runs_243 : decode cX7_runs 243 = .ok (.invokestatic 184, 3) := by decide +kernel
theorem dX7_runs_246 : decode cX7_runs 246 = .ok (.lload 9, 2) := by decide +kernel
theorem dX7_runs_248 : decode cX7_runs 248 = .ok (.lload 11, 2) := by decide +kernel
theorem dX7_runs_250 : decode cX7_runs 250 = .ok (.invokestatic 184, 3) := by decide +kernel
theorem dX7_runs_253 : decode cX7_runs 253 = .ok (.lsub, 1) := by decide +kernel
theorem dX7_runs_254 : decode cX7_runs 254 = .ok (.lmul, 1) := by decide +kernel
theorem dX7_runs_255 : decode cX7_runs 255 = .ok (.ldc2_w 182, 3) := by decide +kernel
theorem dX7_runs_258 : decode cX7_runs 258 = .ok (.lload_n 2, 1) := by decide +kernel
theorem dX7_runs_259 : decode cX7_runs 259 = .ok (.lload 13, 2) := by decide +kernel
theorem dX7_runs_261 : decode cX7_runs 261 = .ok (.ladd, 1) := by decide +kernel
theorem dX7_runs_262 : decode cX7_runs 262 = .ok (.lmul, 1) := by decide +kernel
theorem dX7_runs_263 : decode cX7_runs 263 = .ok (.ldiv, 1) := by decide +kernel
theorem dX7_runs_264 : decode cX7_runs 264 = .ok (.lstore 15, 2) := by decide +kernel
theorem dX7_runs_266 : decode cX7_runs 266 = .ok (.lload 15, 2) := by decide +kernel
theorem dX7_runs_268 : decode cX7_runs 268 = .ok (.lload 11, 2) := by decide +kernel
theorem dX7_runs_270 : decode cX7_runs 270 = .ok (.lneg, 1) := by decide +kernel
theorem dX7_runs_271 : decode cX7_runs 271 = .ok (.lload 7, 2) := by decide +kernel
theorem dX7_runs_273 : decode cX7_runs 273 = .ok (.invokestatic 200, 3) := by decide +kernel
theorem dX7_runs_276 : decode cX7_runs 276 = .ok (.lstore 15, 2) := by decide +kernel
theorem dX7_runs_278 : decode cX7_runs 278 = .ok (.aload_n 0, 1) := by decide +kernel
theorem dX7_runs_279 : decode cX7_runs 279 = .ok (.getfield 25, 3) := by decide +kernel
theorem dX7_runs_282 : decode cX7_runs 282 = .ok (.iload_n 1, 1) := by decide +kernel
theorem dX7_runs_283 : decode cX7_runs 283 = .ok (.lload 15, 2) := by decide +kernel
theorem dX7_runs_285 : decode cX7_runs 285 = .ok (.l2i, 1) := by decide +kernel
theorem dX7_runs_286 : decode cX7_runs 286 = .ok (.iastore, 1) := by decide +kernel
theorem dX7_runs_287 : decode cX7_runs 287 = .ok (.aload_n 0, 1) := by decide +kernel
theorem dX7_runs_288 : decode cX7_runs 288 = .ok (.iload_n 1, 1) := by decide +kernel
theorem dX7_runs_289 : decode cX7_runs 289 = .ok (.lload 5, 2) := by decide +kernel
theorem dX7_runs_291 : decode cX7_runs 291 = .ok (.lload 7, 2) := by decide +kernel
theorem dX7_runs_293 : decode cX7_runs 293 = .ok (.lload 15, 2) := by decide +kernel
theorem dX7_runs_295 : decode cX7_runs 295 = .ok (.lsub, 1) := by decide +kernel
theorem dX7_runs_296 : decode cX7_runs 296 = .ok (.lload 9, 2) := by decide +kernel
theorem dX7_runs_298 : decode cX7_runs 298 = .ok (.lload 11, 2) := by decide +kernel
theorem dX7_runs_300 : decode cX7_runs 300 = .ok (.lload 15, 2) := by decide +kernel
theorem dX7_runs_302 : decode cX7_runs 302 = .ok (.ladd, 1) := by decide +kernel
theorem dX7_runs_303 : decode cX7_runs 303 = .ok (.invokevirtual 212, 3) := by decide +kernel
theorem dX7_runs_306 : decode cX7_runs 306 = .ok (.goto 41, 3) := by decide +kernel
theorem dX7_runs_309 : decode cX7_runs 309 = .ok (.lload 7, 2) := by decide +kernel
theorem dX7_runs_311 : decode cX7_runs 311 = .ok (.lload_n 2, 1) := by decide +kernel
theorem dX7_runs_312 : decode cX7_runs 312 = .ok (.lcmp, 1) := by decide +kernel
theorem dX7_runs_313 : decode cX7_runs 313 = .ok (.ifCond .ge 8, 3) := by decide +kernel
theorem dX7_runs_316 : decode cX7_runs 316 = .ok (.lload 7, 2) := by decide +kernel
theorem dX7_runs_318 : decode cX7_runs 318 = .ok (.goto 4, 3) := by decide +kernel
theorem dX7_runs_321 : decode cX7_runs 321 = .ok (.lload_n 2, 1) := by decide +kernel
theorem dX7_runs_322 : decode cX7_runs 322 = .ok (.lstore 13, 2) := by decide +kernel
theorem dX7_runs_324 : decode cX7_runs 324 = .ok (.aload_n 0, 1) := by decide +kernel
theorem dX7_runs_325 : decode cX7_runs 325 = .ok (.getfield 25, 3) := by decide +kernel
theorem dX7_runs_328 : decode cX7_runs 328 = .ok (.iload_n 1, 1) := by decide +kernel
theorem dX7_runs_329 : decode cX7_runs 329 = .ok (.lload 13, 2) := by decide +kernel
theorem dX7_runs_331 : decode cX7_runs 331 = .ok (.l2i, 1) := by decide +kernel
theorem dX7_runs_332 : decode cX7_runs 332 = .ok (.iastore, 1) := by decide +kernel
theorem dX7_runs_333 : decode cX7_runs 333 = .ok (.aload_n 0, 1) := by decide +kernel
theorem dX7_runs_334 : decode cX7_runs 334 = .ok (.iload_n 1, 1) := by decide +kernel
theorem dX7_runs_335 : decode cX7_runs 335 = .ok (.lload 5, 2) := by decide +kernel
theorem dX7_runs_337 : decode cX7_runs 337 = .ok (.lload 7, 2) := by decide +kernel
theorem dX7_runs_339 : decode cX7_runs 339 = .ok (.lload 13, 2) := by decide +kernel
theorem dX7_runs_341 : decode cX7_runs 341 = .ok (.lsub, 1) := by decide +kernel
theorem dX7_runs_342 : decode cX7_runs 342 = .ok (.lconst 0, 1) := by decide +kernel
theorem dX7_runs_343 : decode cX7_runs 343 = .ok (.lconst 0, 1) := by decide +kernel
theorem dX7_runs_344 : decode cX7_runs 344 = .ok (.invokevirtual 212, 3) := by decide +kernel
theorem dX7_runs_347 : decode cX7_runs 347 = .ok (.return_, 1) := by decide +kernel
theorem dX7_ages_0 : decode cX7_ages 0 = .ok (.iconst 0, 1) := by decide +kernel
theorem dX7_ages_1 : decode cX7_ages 1 = .ok (.istore_n 1, 1) := by decide +kernel
theorem dX7_ages_2 : decode cX7_ages 2 = .ok (.iload_n 1, 1) := by decide +kernel
theorem dX7_ages_3 : decode cX7_ages 3 = .ok (.bipush 24, 2) := by decide +kernel
theorem dX7_ages_5 : decode cX7_ages 5 = .ok (.if_icmp .ge 33, 3) := by decide +kernel
theorem dX7_ages_8 : decode cX7_ages 8 = .ok (.aload_n 0, 1) := by decide +kernel
theorem dX7_ages_9 : decode cX7_ages 9 = .ok (.getfield 39, 3) := by decide +kernel
theorem dX7_ages_12 : decode cX7_ages 12 = .ok (.iload_n 1, 1) := by decide +kernel
theorem dX7_ages_13 : decode cX7_ages 13 = .ok (.aload_n 0, 1) := by decide +kernel
theorem dX7_ages_14 : decode cX7_ages 14 = .ok (.getfield 32, 3) := by decide +kernel
theorem dX7_ages_17 : decode cX7_ages 17 = .ok (.iload_n 1, 1) := by decide +kernel
theorem dX7_ages_18 : decode cX7_ages 18 = .ok (.laload, 1) := by decide +kernel
theorem dX7_ages_19 : decode cX7_ages 19 = .ok (.lastore, 1) := by decide +kernel
theorem dX7_ages_20 : decode cX7_ages 20 = .ok (.aload_n 0, 1) := by decide +kernel
theorem dX7_ages_21 : decode cX7_ages 21 = .ok (.getfield 42, 3) := by decide +kernel
theorem dX7_ages_24 : decode cX7_ages 24 = .ok (.iload_n 1, 1) := by decide +kernel
theorem dX7_ages_25 : decode cX7_ages 25 = .ok (.aload_n 0, 1) := by decide +kernel
theorem dX7_ages_26 : decode cX7_ages 26 = .ok (.getfield 36, 3) := by decide +kernel
theorem dX7_ages_29 : decode cX7_ages 29 = .ok (.iload_n 1, 1) := by decide +kernel
theorem dX7_ages_30 : decode cX7_ages 30 = .ok (.laload, 1) := by decide +kernel
theorem dX7_ages_31 : decode cX7_ages 31 = .ok (.lastore, 1) := by decide +kernel
theorem dX7_ages_32 : decode cX7_ages 32 = .ok (.iinc 1 1, 3) := by decide +kernel
theorem dX7_ages_35 : decode cX7_ages 35 = .ok (.goto (-33), 3) := by decide +kernel
theorem dX7_ages_38 : decode cX7_ages 38 = .ok (.return_, 1) := by decide +kernel
set_option maxRecDepth 20000 in
theorem ggX7_ticks_X7_disturbs : GoodIn wsX7_ticks wsX7_disturbs := goodIn_r _ [10, 11, 12, 1, 4, 13, 14, 102, 103, 104, 105, 106, 107, 108, 109, 110, 111, 112, 113, 114, 115, 116, 117, 118, 119, 120, 121, 122, 123, 124, 125, 126, 127, 128, 129, 130, 131, 132, 133, 134, 135, 136, 137, 138, 139, 140, 141, 142] (by decide +kernel) (by decide +kernel)
set_option maxRecDepth 20000 in
theorem gX7_ticks_X7_disturbs : GoodIn wsX7_ticks (wsV RX7 223 RX7 yX7_disturbs wsX7_disturbs) := goodIn_app (goodIn_of _ (by decide +kernel)) ggX7_ticks_X7_disturbs
set_option maxRecDepth 20000 in
theorem ggX7_ticks_X7_works : GoodIn wsX7_ticks wsX7_works := goodIn_r _ [18, 19, 20, 21, 22, 23, 24, 25, 26, 27, 28, 29, 30, 31, 32, 33, 34, 35, 2, 36, 37, 38, 39, 9, 40, 41, 42, 43, 44, 45, 46, 47, 48, 49, 50, 51, 52, 53, 54, 55, 56, 57, 58, 59, 60, 61, 1, 62, 102, 103, 104, 105, 106, 107, 108, 109, 110, 111, 112, 113, 114, 115, 116, 117, 118, 119, 120, 121, 122, 123, 124, 125, 126, 127, 128, 129, 130, 131, 132, 133, 134, 135, 136, 137, 138, 139, 140, 141, 142] (by decide +kernel) (by decide +kernel)
set_option maxRecDepth 20000 in
theorem gX7_ticks_X7_works : GoodIn wsX7_ticks (wsV RX7 226 RX7 yX7_works wsX7_works) := goodIn_app (goodIn_of _ (by decide +kernel)) ggX7_ticks_X7_works
set_option maxRecDepth 20000 in
theorem ggX7_ticks_X7_driven : GoodIn wsX7_ticks wsX7_driven := goodIn_r _ [66, 2, 35, 67, 19, 26, 33, 30, 34, 28, 29, 4, 68, 37, 38, 39, 9, 40, 22, 50, 51, 52, 69, 70, 71, 72, 102, 103, 104, 105, 106, 107, 108, 109, 110, 111, 112, 113, 114, 115, 116, 117, 118, 119, 120, 121, 122, 123, 124, 125, 126, 127, 128, 129, 130, 131, 132, 133, 134, 135, 136, 137, 138, 139, 140, 141, 142] (by decide +kernel) (by decide +kernel)
set_option maxRecDepth 20000 in
theorem gX7_ticks_X7_driven : GoodIn wsX7_ticks (wsV RX7 229 RX7 yX7_driven wsX7_driven) := goodIn_app (goodIn_of _ (by decide +kernel)) ggX7_ticks_X7_driven
set_option maxRecDepth 20000 in
theorem ggX7_ticks_X7_ages : GoodIn wsX7_ticks wsX7_ages := goodIn_r _ [76, 77, 20, 78, 45, 102, 103, 104, 105, 106, 107, 108, 109, 110, 111, 112, 113, 114, 115, 116, 117, 118, 119, 120, 121, 122, 123, 124, 125, 126, 127, 128, 129, 130, 131, 132, 133, 134, 135, 136, 137, 138, 139, 140, 141, 142] (by decide +kernel) (by decide +kernel)
set_option maxRecDepth 20000 in
theorem gX7_ticks_X7_ages : GoodIn wsX7_ticks (wsV RX7 232 RX7 yX7_ages wsX7_ages) := goodIn_app (goodIn_of _ (by decide +kernel)) ggX7_ticks_X7_ages
set_option maxRecDepth 20000 in
theorem ggX7_ticks_X7_runs : GoodIn wsX7_ticks wsX7_runs := goodIn_r _ [82, 68, 83, 84, 85, 86, 23, 49, 87, 88, 89, 9, 90, 20, 45, 91, 92, 93, 94, 77, 95, 96, 97, 98, 78, 99, 100, 101, 46, 47, 48, 50, 51, 52, 102, 103, 104, 105, 106, 107, 108, 109, 110, 111, 112, 113, 114, 115, 116, 117, 118, 119, 120, 121, 122, 123, 124, 125, 126, 127, 128, 129, 130, 131, 132, 133, 134, 135, 136, 137, 138, 139, 140, 141, 142] (by decide +kernel) (by decide +kernel)
set_option maxRecDepth 20000 in
theorem gX7_ticks_X7_runs : GoodIn wsX7_ticks (wsV RX7 235 RX7 yX7_runs wsX7_runs) := goodIn_app (goodIn_of _ (by decide +kernel)) ggX7_ticks_X7_runs
set_option maxRecDepth 20000 in
theorem ggX7_ticks_X7_warmthOf : GoodIn wsX7_ticks wsX7_warmthOf := goodIn_r _ [44, 20, 45, 46, 47, 9, 48, 49, 102, 103, 104, 105, 106, 107, 108, 109, 110, 111, 112, 113, 114, 115, 116, 117, 118, 119, 120, 121, 122, 123, 124, 125, 126, 127, 128, 129, 130, 131, 132, 133, 134, 135, 136, 137, 138, 139, 140, 141, 142] (by decide +kernel) (by decide +kernel)
set_option maxRecDepth 20000 in
theorem gX7_ticks_X7_warmthOf : GoodIn wsX7_ticks (wsV RX7 193 RX7 yX7_warmthOf wsX7_warmthOf) := goodIn_app (goodIn_of _ (by decide +kernel)) ggX7_ticks_X7_warmthOf
theorem dX7_ticks_0 : decode cX7_ticks 0 = .ok (.aload_n 0, 1) := by decide +kernel
theorem dX7_ticks_1 : decode cX7_ticks 1 = .ok (.dup, 1) := by decide +kernel
theorem dX7_ticks_2 : decode cX7_ticks 2 = .ok (.getfield 132, 3) := by decide +kernel
theorem dX7_ticks_5 : decode cX7_ticks 5 = .ok (.iconst 1, 1) := by decide +kernel
theorem dX7_ticks_6 : decode cX7_ticks 6 = .ok (.iadd, 1) := by decide +kernel
theorem dX7_ticks_7 : decode cX7_ticks 7 = .ok (.putfield 132, 3) := by decide +kernel
theorem dX7_ticks_10 : decode cX7_ticks 10 = .ok (.aload_n 0, 1) := by decide +kernel
theorem dX7_ticks_11 : decode cX7_ticks 11 = .ok (.invokevirtual 223, 3) := by decide +kernel
theorem dX7_ticks_14 : decode cX7_ticks 14 = .ok (.iconst 0, 1) := by decide +kernel
theorem dX7_ticks_15 : decode cX7_ticks 15 = .ok (.istore_n 1, 1) := by decide +kernel
theorem dX7_ticks_16 : decode cX7_ticks 16 = .ok (.iload_n 1, 1) := by decide +kernel
theorem dX7_ticks_17 : decode cX7_ticks 17 = .ok (.aload_n 0, 1) := by decide +kernel
theorem dX7_ticks_18 : decode cX7_ticks 18 = .ok (.getfield 128, 3) := by decide +kernel
theorem dX7_ticks_21 : decode cX7_ticks 21 = .ok (.if_icmp .ge 14, 3) := by decide +kernel
theorem dX7_ticks_24 : decode cX7_ticks 24 = .ok (.aload_n 0, 1) := by decide +kernel
theorem dX7_ticks_25 : decode cX7_ticks 25 = .ok (.iload_n 1, 1) := by decide +kernel
theorem dX7_ticks_26 : decode cX7_ticks 26 = .ok (.invokevirtual 226, 3) := by decide +kernel
theorem dX7_ticks_29 : decode cX7_ticks 29 = .ok (.iinc 1 1, 3) := by decide +kernel
theorem dX7_ticks_32 : decode cX7_ticks 32 = .ok (.goto (-16), 3) := by decide +kernel
theorem dX7_ticks_35 : decode cX7_ticks 35 = .ok (.iconst 0, 1) := by decide +kernel
theorem dX7_ticks_36 : decode cX7_ticks 36 = .ok (.istore_n 1, 1) := by decide +kernel
theorem dX7_ticks_37 : decode cX7_ticks 37 = .ok (.iload_n 1, 1) := by decide +kernel
theorem dX7_ticks_38 : decode cX7_ticks 38 = .ok (.aload_n 0, 1) := by decide +kernel
theorem dX7_ticks_39 : decode cX7_ticks 39 = .ok (.getfield 121, 3) := by decide +kernel
theorem dX7_ticks_42 : decode cX7_ticks 42 = .ok (.if_icmp .ge 14, 3) := by decide +kernel
theorem dX7_ticks_45 : decode cX7_ticks 45 = .ok (.aload_n 0, 1) := by decide +kernel
theorem dX7_ticks_46 : decode cX7_ticks 46 = .ok (.iload_n 1, 1) := by decide +kernel
theorem dX7_ticks_47 : decode cX7_ticks 47 = .ok (.invokevirtual 229, 3) := by decide +kernel
theorem dX7_ticks_50 : decode cX7_ticks 50 = .ok (.iinc 1 1, 3) := by decide +kernel
theorem dX7_ticks_53 : decode cX7_ticks 53 = .ok (.goto (-16), 3) := by decide +kernel
theorem dX7_ticks_56 : decode cX7_ticks 56 = .ok (.aload_n 0, 1) := by decide +kernel
theorem dX7_ticks_57 : decode cX7_ticks 57 = .ok (.invokevirtual 232, 3) := by decide +kernel
theorem dX7_ticks_60 : decode cX7_ticks 60 = .ok (.iconst 0, 1) := by decide +kernel
theorem dX7_ticks_61 : decode cX7_ticks 61 = .ok (.istore_n 1, 1) := by decide +kernel
theorem dX7_ticks_62 : decode cX7_ticks 62 = .ok (.iload_n 1, 1) := by decide +kernel
theorem dX7_ticks_63 : decode cX7_ticks 63 = .ok (.aload_n 0, 1) := by decide +kernel
theorem dX7_ticks_64 : decode cX7_ticks 64 = .ok (.getfield 121, 3) := by decide +kernel
theorem dX7_ticks_67 : decode cX7_ticks 67 = .ok (.if_icmp .ge 21, 3) := by decide +kernel
theorem dX7_ticks_70 : decode cX7_ticks 70 = .ok (.aload_n 0, 1) := by decide +kernel
theorem dX7_ticks_71 : decode cX7_ticks 71 = .ok (.iload_n 1, 1) := by decide +kernel
theorem dX7_ticks_72 : decode cX7_ticks 72 = .ok (.aload_n 0, 1) := by decide +kernel
theorem dX7_ticks_73 : decode cX7_ticks 73 = .ok (.getfield 13, 3) := by decide +kernel
theorem dX7_ticks_76 : decode cX7_ticks 76 = .ok (.iload_n 1, 1) := by decide +kernel
theorem dX7_ticks_77 : decode cX7_ticks 77 = .ok (.iaload, 1) := by decide +kernel
theorem dX7_ticks_78 : decode cX7_ticks 78 = .ok (.i2l, 1) := by decide +kernel
theorem dX7_ticks_79 : decode cX7_ticks 79 = .ok (.invokevirtual 235, 3) := by decide +kernel
theorem dX7_ticks_82 : decode cX7_ticks 82 = .ok (.iinc 1 1, 3) := by decide +kernel
theorem dX7_ticks_85 : decode cX7_ticks 85 = .ok (.goto (-23), 3) := by decide +kernel
theorem dX7_ticks_88 : decode cX7_ticks 88 = .ok (.iconst 0, 1) := by decide +kernel
theorem dX7_ticks_89 : decode cX7_ticks 89 = .ok (.istore_n 1, 1) := by decide +kernel
theorem dX7_ticks_90 : decode cX7_ticks 90 = .ok (.iload_n 1, 1) := by decide +kernel
theorem dX7_ticks_91 : decode cX7_ticks 91 = .ok (.iconst 2, 1) := by decide +kernel
theorem dX7_ticks_92 : decode cX7_ticks 92 = .ok (.aload_n 0, 1) := by decide +kernel
theorem dX7_ticks_93 : decode cX7_ticks 93 = .ok (.getfield 121, 3) := by decide +kernel
theorem dX7_ticks_96 : decode cX7_ticks 96 = .ok (.imul, 1) := by decide +kernel
theorem dX7_ticks_97 : decode cX7_ticks 97 = .ok (.if_icmp .ge 30, 3) := by decide +kernel
theorem dX7_ticks_100 : decode cX7_ticks 100 = .ok (.aload_n 0, 1) := by decide +kernel
theorem dX7_ticks_101 : decode cX7_ticks 101 = .ok (.getfield 54, 3) := by decide +kernel
theorem dX7_ticks_104 : decode cX7_ticks 104 = .ok (.bipush 24, 2) := by decide +kernel
theorem dX7_ticks_106 : decode cX7_ticks 106 = .ok (.aload_n 0, 1) := by decide +kernel
theorem dX7_ticks_107 : decode cX7_ticks 107 = .ok (.getfield 132, 3) := by decide +kernel
theorem dX7_ticks_110 : decode cX7_ticks 110 = .ok (.iconst 1, 1) := by decide +kernel
theorem dX7_ticks_111 : decode cX7_ticks 111 = .ok (.isub, 1) := by decide +kernel
theorem dX7_ticks_112 : decode cX7_ticks 112 = .ok (.imul, 1) := by decide +kernel
theorem dX7_ticks_113 : decode cX7_ticks 113 = .ok (.iload_n 1, 1) := by decide +kernel
theorem dX7_ticks_114 : decode cX7_ticks 114 = .ok (.iadd, 1) := by decide +kernel
theorem dX7_ticks_115 : decode cX7_ticks 115 = .ok (.aload_n 0, 1) := by decide +kernel
theorem dX7_ticks_116 : decode cX7_ticks 116 = .ok (.iload_n 1, 1) := by decide +kernel
theorem dX7_ticks_117 : decode cX7_ticks 117 = .ok (.invokevirtual 193, 3) := by decide +kernel
theorem dX7_ticks_120 : decode cX7_ticks 120 = .ok (.iastore, 1) := by decide +kernel
theorem dX7_ticks_121 : decode cX7_ticks 121 = .ok (.iinc 1 1, 3) := by decide +kernel
theorem dX7_ticks_124 : decode cX7_ticks 124 = .ok (.goto (-34), 3) := by decide +kernel
theorem dX7_ticks_127 : decode cX7_ticks 127 = .ok (.return_, 1) := by decide +kernel
set_option maxRecDepth 20000 in
theorem ggX7_tick_X7_in : GoodIn wsX7_tick wsX7_in := goodIn_r _ [5] (by decide +kernel) (by decide +kernel)
set_option maxRecDepth 20000 in
theorem gX7_tick_X7_in : GoodIn wsX7_tick (va_wsS RX7 124 yX7_in wsX7_in) := goodIn_app (goodIn_of _ (by decide +kernel)) ggX7_tick_X7_in
set_option maxRecDepth 20000 in
theorem ggX7_tick_X7_holds : GoodIn wsX7_tick wsX7_holds := goodIn_r _ [9, 10, 114, 115, 116, 117, 118, 119, 120, 121, 122, 123, 124, 125, 126, 127, 128, 129, 130, 131, 132, 133, 134, 135, 136, 137, 138, 139, 140, 141, 142, 143, 144, 145, 146, 147, 148, 149, 150, 151, 152, 153, 154] (by decide +kernel) (by decide +kernel)
set_option maxRecDepth 20000 in
theorem gX7_tick_X7_holds : GoodIn wsX7_tick (wsV RX7 135 RX7 yX7_holds wsX7_holds) := goodIn_app (goodIn_of _ (by decide +kernel)) ggX7_tick_X7_holds
set_option maxRecDepth 20000 in
theorem ggX7_tick_X7_ticks : GoodIn wsX7_tick wsX7_ticks := goodIn_r _ [14, 1, 15, 16, 17, 18, 19, 20, 21, 4, 22, 23, 24, 25, 26, 27, 28, 29, 30, 31, 32, 33, 34, 35, 36, 37, 38, 39, 40, 41, 42, 43, 44, 45, 46, 47, 48, 49, 50, 51, 52, 53, 54, 55, 56, 57, 58, 59, 60, 61, 62, 63, 64, 65, 66, 67, 68, 69, 70, 71, 72, 73, 74, 75, 76, 77, 78, 79, 80, 81, 82, 83, 84, 85, 86, 87, 88, 89, 90, 91, 92, 93, 94, 95, 96, 97, 98, 99, 100, 101, 102, 103, 104, 105, 106, 107, 108, 109, 110, 111, 112, 113, 114, 115, 116, 117, 118, 119, 120, 121, 122, 123, 124, 125, 126, 127, 128, 129, 130, 131, 132, 133, 134, 135, 136, 137, 138, 139, 140, 141, 142, 143, 144, 145, 146, 147, 148, 149, 150, 151, 152, 153, 154] (by decide +kernel) (by decide +kernel)
set_option maxRecDepth 20000 in
theorem gX7_tick_X7_ticks : GoodIn wsX7_tick (wsV RX7 239 RX7 yX7_ticks wsX7_ticks) := goodIn_app (goodIn_of _ (by decide +kernel)) ggX7_tick_X7_ticks
theorem dX7_tick_0 : decode cX7_tick 0 = .ok (.aload_n 0, 1) := by decide +kernel
theorem dX7_tick_1 : decode cX7_tick 1 = .ok (.iload_n 1, 1) := by decide +kernel
theorem dX7_tick_2 : decode cX7_tick 2 = .ok (.iconst 1, 1) := by decide +kernel
theorem dX7_tick_3 : decode cX7_tick 3 = .ok (.bipush 50, 2) := by decide +kernel
theorem dX7_tick_5 : decode cX7_tick 5 = .ok (.invokestatic 124, 3) := by decide +kernel
theorem dX7_tick_8 : decode cX7_tick 8 = .ok (.ifCond .ne 7, 3) := by decide +kernel
theorem dX7_tick_11 : decode cX7_tick 11 = .ok (.iconst 1, 1) := by decide +kernel
theorem dX7_tick_12 : decode cX7_tick 12 = .ok (.goto 20, 3) := by decide +kernel
theorem dX7_tick_15 : decode cX7_tick 15 = .ok (.aload_n 0, 1) := by decide +kernel
theorem dX7_tick_16 : decode cX7_tick 16 = .ok (.getfield 132, 3) := by decide +kernel
theorem dX7_tick_19 : decode cX7_tick 19 = .ok (.iload_n 1, 1) := by decide +kernel
theorem dX7_tick_20 : decode cX7_tick 20 = .ok (.iadd, 1) := by decide +kernel
theorem dX7_tick_21 : decode cX7_tick 21 = .ok (.sipush 300, 3) := by decide +kernel
theorem dX7_tick_24 : decode cX7_tick 24 = .ok (.if_icmp .le 7, 3) := by decide +kernel
theorem dX7_tick_27 : decode cX7_tick 27 = .ok (.iconst 2, 1) := by decide +kernel
theorem dX7_tick_28 : decode cX7_tick 28 = .ok (.goto 4, 3) := by decide +kernel
theorem dX7_tick_31 : decode cX7_tick 31 = .ok (.iconst 0, 1) := by decide +kernel
theorem dX7_tick_32 : decode cX7_tick 32 = .ok (.invokevirtual 135, 3) := by decide +kernel
theorem dX7_tick_35 : decode cX7_tick 35 = .ok (.ifCond .ne 5, 3) := by decide +kernel
theorem dX7_tick_38 : decode cX7_tick 38 = .ok (.iconst 0, 1) := by decide +kernel
theorem dX7_tick_39 : decode cX7_tick 39 = .ok (.ireturn, 1) := by decide +kernel
theorem dX7_tick_40 : decode cX7_tick 40 = .ok (.iconst 0, 1) := by decide +kernel
theorem dX7_tick_41 : decode cX7_tick 41 = .ok (.istore_n 2, 1) := by decide +kernel
theorem dX7_tick_42 : decode cX7_tick 42 = .ok (.iload_n 2, 1) := by decide +kernel
theorem dX7_tick_43 : decode cX7_tick 43 = .ok (.iload_n 1, 1) := by decide +kernel
theorem dX7_tick_44 : decode cX7_tick 44 = .ok (.if_icmp .ge 13, 3) := by decide +kernel
theorem dX7_tick_47 : decode cX7_tick 47 = .ok (.aload_n 0, 1) := by decide +kernel
theorem dX7_tick_48 : decode cX7_tick 48 = .ok (.invokevirtual 239, 3) := by decide +kernel
theorem dX7_tick_51 : decode cX7_tick 51 = .ok (.iinc 2 1, 3) := by decide +kernel
theorem dX7_tick_54 : decode cX7_tick 54 = .ok (.goto (-12), 3) := by decide +kernel
theorem dX7_tick_57 : decode cX7_tick 57 = .ok (.aload_n 0, 1) := by decide +kernel
theorem dX7_tick_58 : decode cX7_tick 58 = .ok (.getfield 132, 3) := by decide +kernel
theorem dX7_tick_61 : decode cX7_tick 61 = .ok (.ireturn, 1) := by decide +kernel
theorem dX7_quit_0 : decode cX7_quit 0 = .ok (.aload_n 0, 1) := by decide +kernel
theorem dX7_quit_1 : decode cX7_quit 1 = .ok (.iconst 0, 1) := by decide +kernel
theorem dX7_quit_2 : decode cX7_quit 2 = .ok (.putfield 117, 3) := by decide +kernel
theorem dX7_quit_5 : decode cX7_quit 5 = .ok (.aload_n 0, 1) := by decide +kernel
theorem dX7_quit_6 : decode cX7_quit 6 = .ok (.getfield 188, 3) := by decide +kernel
theorem dX7_quit_9 : decode cX7_quit 9 = .ok (.ifCond .ne 5, 3) := by decide +kernel
theorem dX7_quit_12 : decode cX7_quit 12 = .ok (.iconst (-1), 1) := by decide +kernel
theorem dX7_quit_13 : decode cX7_quit 13 = .ok (.ireturn, 1) := by decide +kernel
theorem dX7_quit_14 : decode cX7_quit 14 = .ok (.iconst 0, 1) := by decide +kernel
theorem dX7_quit_15 : decode cX7_quit 15 = .ok (.istore_n 1, 1) := by decide +kernel
theorem dX7_quit_16 : decode cX7_quit 16 = .ok (.iconst 1, 1) := by decide +kernel
theorem dX7_quit_17 : decode cX7_quit 17 = .ok (.istore_n 2, 1) := by decide +kernel
theorem dX7_quit_18 : decode cX7_quit 18 = .ok (.iload_n 2, 1) := by decide +kernel
theorem dX7_quit_19 : decode cX7_quit 19 = .ok (.aload_n 0, 1) := by decide +kernel
theorem dX7_quit_20 : decode cX7_quit 20 = .ok (.getfield 188, 3) := by decide +kernel
theorem dX7_quit_23 : decode cX7_quit 23 = .ok (.if_icmp .ge 30, 3) := by decide +kernel
theorem dX7_quit_26 : decode cX7_quit 26 = .ok (.aload_n 0, 1) := by decide +kernel
theorem dX7_quit_27 : decode cX7_quit 27 = .ok (.getfield 108, 3) := by decide +kernel
theorem dX7_quit_30 : decode cX7_quit 30 = .ok (.iload_n 2, 1) := by decide +kernel
theorem dX7_quit_31 : decode cX7_quit 31 = .ok (.iaload, 1) := by decide +kernel
theorem dX7_quit_32 : decode cX7_quit 32 = .ok (.aload_n 0, 1) := by decide +kernel
theorem dX7_quit_33 : decode cX7_quit 33 = .ok (.getfield 108, 3) := by decide +kernel
theorem dX7_quit_36 : decode cX7_quit 36 = .ok (.iload_n 1, 1) := by decide +kernel
theorem dX7_quit_37 : decode cX7_quit 37 = .ok (.iaload, 1) := by decide +kernel
theorem dX7_quit_38 : decode cX7_quit 38 = .ok (.if_icmp .le 7, 3) := by decide +kernel
theorem dX7_quit_41 : decode cX7_quit 41 = .ok (.iload_n 2, 1) := by decide +kernel
theorem dX7_quit_42 : decode cX7_quit 42 = .ok (.goto 4, 3) := by decide +kernel
theorem dX7_quit_45 : decode cX7_quit 45 = .ok (.iload_n 1, 1) := by decide +kernel
theorem dX7_quit_46 : decode cX7_quit 46 = .ok (.istore_n 1, 1) := by decide +kernel
theorem dX7_quit_47 : decode cX7_quit 47 = .ok (.iinc 2 1, 3) := by decide +kernel
theorem dX7_quit_50 : decode cX7_quit 50 = .ok (.goto (-32), 3) := by decide +kernel
theorem dX7_quit_53 : decode cX7_quit 53 = .ok (.aload_n 0, 1) := by decide +kernel
theorem dX7_quit_54 : decode cX7_quit 54 = .ok (.getfield 114, 3) := by decide +kernel
theorem dX7_quit_57 : decode cX7_quit 57 = .ok (.iload_n 1, 1) := by decide +kernel
theorem dX7_quit_58 : decode cX7_quit 58 = .ok (.iaload, 1) := by decide +kernel
theorem dX7_quit_59 : decode cX7_quit 59 = .ok (.istore_n 2, 1) := by decide +kernel
theorem dX7_quit_60 : decode cX7_quit 60 = .ok (.aload_n 0, 1) := by decide +kernel
theorem dX7_quit_61 : decode cX7_quit 61 = .ok (.dup, 1) := by decide +kernel
theorem dX7_quit_62 : decode cX7_quit 62 = .ok (.getfield 188, 3) := by decide +kernel
theorem dX7_quit_65 : decode cX7_quit 65 = .ok (.iconst 1, 1) := by decide +kernel
theorem dX7_quit_66 : decode cX7_quit 66 = .ok (.isub, 1) := by decide +kernel
theorem dX7_quit_67 : decode cX7_quit 67 = .ok (.putfield 188, 3) := by decide +kernel
theorem dX7_quit_70 : decode cX7_quit 70 = .ok (.iload_n 1, 1) := by decide +kernel
theorem dX7_quit_71 : decode cX7_quit 71 = .ok (.istore_n 3, 1) := by decide +kernel
theorem dX7_quit_72 : decode cX7_quit 72 = .ok (.iload_n 3, 1) := by decide +kernel
theorem dX7_quit_73 : decode cX7_quit 73 = .ok (.aload_n 0, 1) := by decide +kernel
theorem dX7_quit_74 : decode cX7_quit 74 = .ok (.getfield 188, 3) := by decide +kernel
theorem dX7_quit_77 : decode cX7_quit 77 = .ok (.if_icmp .ge 51, 3) := by decide +kernel
theorem dX7_quit_80 : decode cX7_quit 80 = .ok (.aload_n 0, 1) := by decide +kernel
theorem dX7_quit_81 : decode cX7_quit 81 = .ok (.getfield 108, 3) := by decide +kernel
theorem dX7_quit_84 : decode cX7_quit 84 = .ok (.iload_n 3, 1) := by decide +kernel
theorem dX7_quit_85 : decode cX7_quit 85 = .ok (.aload_n 0, 1) := by decide +kernel
theorem dX7_quit_86 : decode cX7_quit 86 = .ok (.getfield 108, 3) := by decide +kernel
theorem dX7_quit_89 : decode cX7_quit 89 = .ok (.iload_n 3, 1) := by decide +kernel
theorem dX7_quit_90 : decode cX7_quit 90 = .ok (.iconst 1, 1) := by decide +kernel
theorem dX7_quit_91 : decode cX7_quit 91 = .ok (.iadd, 1) := by decide +kernel
theorem dX7_quit_92 : decode cX7_quit 92 = .ok (.iaload, 1) := by decide +kernel
theorem dX7_quit_93 : decode cX7_quit 93 = .ok (.iastore, 1) := by decide +kernel
theorem dX7_quit_94 : decode cX7_quit 94 = .ok (.aload_n 0, 1) := by decide +kernel
theorem dX7_quit_95 : decode cX7_quit 95 = .ok (.getfield 111, 3) := by decide +kernel
theorem dX7_quit_98 : decode cX7_quit 98 = .ok (.iload_n 3, 1) := by decide +kernel
theorem dX7_quit_99 : decode cX7_quit 99 = .ok (.aload_n 0, 1) := by decide +kernel
theorem dX7_quit_100 : decode cX7_quit 100 = .ok (.getfield 111, 3) := by decide +kernel
theorem dX7_quit_103 : decode cX7_quit 103 = .ok (.iload_n 3, 1) := by decide +kernel
theorem dX7_quit_104 : decode cX7_quit 104 = .ok (.iconst 1, 1) := by decide +kernel
theorem dX7_quit_105 : decode cX7_quit 105 = .ok (.iadd, 1) := by decide +kernel
theorem dX7_quit_106 : decode cX7_quit 106 = .ok (.iaload, 1) := by decide +kernel
theorem dX7_quit_107 : decode cX7_quit 107 = .ok (.iastore, 1) := by decide +kernel
theorem dX7_quit_108 : decode cX7_quit 108 = .ok (.aload_n 0, 1) := by decide +kernel
theorem dX7_quit_109 : decode cX7_quit 109 = .ok (.getfield 114, 3) := by decide +kernel
theorem dX7_quit_112 : decode cX7_quit 112 = .ok (.iload_n 3, 1) := by decide +kernel
theorem dX7_quit_113 : decode cX7_quit 113 = .ok (.aload_n 0, 1) := by decide +kernel
theorem dX7_quit_114 : decode cX7_quit 114 = .ok (.getfield 114, 3) := by decide +kernel
theorem dX7_quit_117 : decode cX7_quit 117 = .ok (.iload_n 3, 1) := by decide +kernel
theorem dX7_quit_118 : decode cX7_quit 118 = .ok (.iconst 1, 1) := by decide +kernel
theorem dX7_quit_119 : decode cX7_quit 119 = .ok (.iadd, 1) := by decide +kernel
theorem dX7_quit_120 : decode cX7_quit 120 = .ok (.iaload, 1) := by decide +kernel
theorem dX7_quit_121 : decode cX7_quit 121 = .ok (.iastore, 1) := by decide +kernel
theorem dX7_quit_122 : decode cX7_quit 122 = .ok (.iinc 3 1, 3) := by decide +kernel
theorem dX7_quit_125 : decode cX7_quit 125 = .ok (.goto (-53), 3) := by decide +kernel
theorem dX7_quit_128 : decode cX7_quit 128 = .ok (.iload_n 2, 1) := by decide +kernel
theorem dX7_quit_129 : decode cX7_quit 129 = .ok (.ireturn, 1) := by decide +kernel
set_option maxRecDepth 20000 in
theorem ggX7_of_X7_isStream : GoodIn wsX7_of wsX7_isStream := goodIn_r _ [7, 8, 9, 10, 6, 11, 25, 26, 27, 28, 29, 30, 31, 32, 33, 34, 35, 36, 37, 38, 39, 40, 41, 42, 43, 44, 45, 46, 47, 48, 49, 50, 51, 52, 53, 54, 55, 56, 57, 58, 59, 60, 61, 62, 63, 64, 65] (by decide +kernel) (by decide +kernel)
set_option maxRecDepth 20000 in
theorem gX7_of_X7_isStream : GoodIn wsX7_of (wsV RX7 156 RX7 yX7_isStream wsX7_isStream) := goodIn_app (goodIn_of _ (by decide +kernel)) ggX7_of_X7_isStream
set_option maxRecDepth 20000 in
theorem ggX7_of_X7_in : GoodIn wsX7_of wsX7_in := goodIn_r _ [11] (by decide +kernel) (by decide +kernel)
set_option maxRecDepth 20000 in
theorem gX7_of_X7_in : GoodIn wsX7_of (va_wsS RX7 124 yX7_in wsX7_in) := goodIn_app (goodIn_of _ (by decide +kernel)) ggX7_of_X7_in
set_option maxRecDepth 20000 in
theorem ggX7_of_X7_holds : GoodIn wsX7_of wsX7_holds := goodIn_r _ [15, 16, 25, 26, 27, 28, 29, 30, 31, 32, 33, 34, 35, 36, 37, 38, 39, 40, 41, 42, 43, 44, 45, 46, 47, 48, 49, 50, 51, 52, 53, 54, 55, 56, 57, 58, 59, 60, 61, 62, 63, 64, 65] (by decide +kernel) (by decide +kernel)
set_option maxRecDepth 20000 in
theorem gX7_of_X7_holds : GoodIn wsX7_of (wsV RX7 135 RX7 yX7_holds wsX7_holds) := goodIn_app (goodIn_of _ (by decide +kernel)) ggX7_of_X7_holds
set_option maxRecDepth 20000 in
theorem ggX7_of_X7_warmthOf : GoodIn wsX7_of wsX7_warmthOf := goodIn_r _ [20, 1, 2, 21, 22, 6, 23, 24, 25, 26, 27, 28, 29, 30, 31, 32, 33, 34, 35, 36, 37, 38, 39, 40, 41, 42, 43, 44, 45, 46, 47, 48, 49, 50, 51, 52, 53, 54, 55, 56, 57, 58, 59, 60, 61, 62, 63, 64, 65] (by decide +kernel) (by decide +kernel)
set_option maxRecDepth 20000 in
theorem gX7_of_X7_warmthOf : GoodIn wsX7_of (wsV RX7 193 RX7 yX7_warmthOf wsX7_warmthOf) := goodIn_app (goodIn_of _ (by decide +kernel)) ggX7_of_X7_warmthOf
theorem dX7_of_0 : decode cX7_of 0 = .ok (.aload_n 0, 1) := by decide +kernel
theorem dX7_of_1 : decode cX7_of 1 = .ok (.aload_n 0, 1) := by decide +kernel
theorem dX7_of_2 : decode cX7_of 2 = .ok (.iload_n 1, 1) := by decide +kernel
theorem dX7_of_3 : decode cX7_of 3 = .ok (.invokevirtual 156, 3) := by decide +kernel
theorem dX7_of_6 : decode cX7_of 6 = .ok (.ifCond .ne 7, 3) := by decide +kernel
theorem dX7_of_9 : decode cX7_of 9 = .ok (.iconst 1, 1) := by decide +kernel
theorem dX7_of_10 : decode cX7_of 10 = .ok (.goto 17, 3) := by decide +kernel
theorem dX7_of_13 : decode cX7_of 13 = .ok (.iload_n 2, 1) := by decide +kernel
theorem dX7_of_14 : decode cX7_of 14 = .ok (.iconst 0, 1) := by decide +kernel
theorem dX7_of_15 : decode cX7_of 15 = .ok (.iconst 2, 1) := by decide +kernel
theorem dX7_of_16 : decode cX7_of 16 = .ok (.invokestatic 124, 3) := by decide +kernel
theorem dX7_of_19 : decode cX7_of 19 = .ok (.ifCond .eq 7, 3) := by decide +kernel
theorem dX7_of_22 : decode cX7_of 22 = .ok (.iconst 0, 1) := by decide +kernel
theorem dX7_of_23 : decode cX7_of 23 = .ok (.goto 4, 3) := by decide +kernel
theorem dX7_of_26 : decode cX7_of 26 = .ok (.iconst 2, 1) := by decide +kernel
theorem dX7_of_27 : decode cX7_of 27 = .ok (.invokevirtual 135, 3) := by decide +kernel
theorem dX7_of_30 : decode cX7_of 30 = .ok (.ifCond .ne 5, 3) := by decide +kernel
theorem dX7_of_33 : decode cX7_of 33 = .ok (.iconst 0, 1) := by decide +kernel
theorem dX7_of_34 : decode cX7_of 34 = .ok (.ireturn, 1) := by decide +kernel
theorem dX7_of_35 : decode cX7_of 35 = .ok (.iload_n 2, 1) := by decide +kernel
theorem dX7_of_36 : decode cX7_of 36 = .ok (.ifCond .ne 13, 3) := by decide +kernel
theorem dX7_of_39 : decode cX7_of 39 = .ok (.aload_n 0, 1) := by decide +kernel
theorem dX7_of_40 : decode cX7_of 40 = .ok (.getfield 32, 3) := by decide +kernel
theorem dX7_of_43 : decode cX7_of 43 = .ok (.iload_n 1, 1) := by decide +kernel
theorem dX7_of_44 : decode cX7_of 44 = .ok (.laload, 1) := by decide +kernel
theorem dX7_of_45 : decode cX7_of 45 = .ok (.l2i, 1) := by decide +kernel
theorem dX7_of_46 : decode cX7_of 46 = .ok (.goto 23, 3) := by decide +kernel
theorem dX7_of_49 : decode cX7_of 49 = .ok (.iload_n 2, 1) := by decide +kernel
theorem dX7_of_50 : decode cX7_of 50 = .ok (.iconst 1, 1) := by decide +kernel
theorem dX7_of_51 : decode cX7_of 51 = .ok (.if_icmp .ne 13, 3) := by decide +kernel
theorem dX7_of_54 : decode cX7_of 54 = .ok (.aload_n 0, 1) := by decide +kernel
theorem dX7_of_55 : decode cX7_of 55 = .ok (.getfield 36, 3) := by decide +kernel
theorem dX7_of_58 : decode cX7_of 58 = .ok (.iload_n 1, 1) := by decide +kernel
theorem dX7_of_59 : decode cX7_of 59 = .ok (.laload, 1) := by decide +kernel
theorem dX7_of_60 : decode cX7_of 60 = .ok (.l2i, 1) := by decide +kernel
theorem dX7_of_61 : decode cX7_of 61 = .ok (.goto 8, 3) := by decide +kernel
theorem dX7_of_64 : decode cX7_of 64 = .ok (.aload_n 0, 1) := by decide +kernel
theorem dX7_of_65 : decode cX7_of 65 = .ok (.iload_n 1, 1) := by decide +kernel
theorem dX7_of_66 : decode cX7_of 66 = .ok (.invokevirtual 193, 3) := by decide +kernel
theorem dX7_of_69 : decode cX7_of 69 = .ok (.ireturn, 1) := by decide +kernel
set_option maxRecDepth 20000 in
theorem ggX7_ofUnit_X7_isUnit : GoodIn wsX7_ofUnit wsX7_isUnit := goodIn_r _ [7, 8, 9, 10, 6, 11, 17, 18, 19, 20, 21, 22, 23, 24, 25, 26, 27, 28, 29, 30, 31, 32, 33, 34, 35, 36, 37, 38, 39, 40, 41, 42, 43, 44, 45, 46, 47, 48, 49, 50, 51, 52, 53, 54, 55, 56, 57] (by decide +kernel) (by decide +kernel)
set_option maxRecDepth 20000 in
theorem gX7_ofUnit_X7_isUnit : GoodIn wsX7_ofUnit (wsV RX7 153 RX7 yX7_isUnit wsX7_isUnit) := goodIn_app (goodIn_of _ (by decide +kernel)) ggX7_ofUnit_X7_isUnit
set_option maxRecDepth 20000 in
theorem ggX7_ofUnit_X7_in : GoodIn wsX7_ofUnit wsX7_in := goodIn_r _ [11] (by decide +kernel) (by decide +kernel)
set_option maxRecDepth 20000 in
theorem gX7_ofUnit_X7_in : GoodIn wsX7_ofUnit (va_wsS RX7 124 yX7_in wsX7_in) := goodIn_app (goodIn_of _ (by decide +kernel)) ggX7_ofUnit_X7_in
set_option maxRecDepth 20000 in
theorem ggX7_ofUnit_X7_holds : GoodIn wsX7_ofUnit wsX7_holds := goodIn_r _ [15, 16, 17, 18, 19, 20, 21, 22, 23, 24, 25, 26, 27, 28, 29, 30, 31, 32, 33, 34, 35, 36, 37, 38, 39, 40, 41, 42, 43, 44, 45, 46, 47, 48, 49, 50, 51, 52, 53, 54, 55, 56, 57] (by decide +kernel) (by decide +kernel)
set_option maxRecDepth 20000 in
theorem gX7_ofUnit_X7_holds : GoodIn wsX7_ofUnit (wsV RX7 135 RX7 yX7_holds wsX7_holds) := goodIn_app (goodIn_of _ (by decide +kernel)) ggX7_ofUnit_X7_holds
theorem dX7_ofUnit_0 : decode cX7_ofUnit 0 = .ok (.aload_n 0, 1) := by decide +kernel
theorem dX7_ofUnit_1 : decode cX7_ofUnit 1 = .ok (.aload_n 0, 1) := by decide +kernel
theorem dX7_ofUnit_2 : decode cX7_ofUnit 2 = .ok (.iload_n 1, 1) := by decide +kernel
theorem dX7_ofUnit_3 : decode cX7_ofUnit 3 = .ok (.invokevirtual 153, 3) := by decide +kernel
theorem dX7_ofUnit_6 : decode cX7_ofUnit 6 = .ok (.ifCond .ne 7, 3) := by decide +kernel
theorem dX7_ofUnit_9 : decode cX7_ofUnit 9 = .ok (.iconst 1, 1) := by decide +kernel
theorem dX7_ofUnit_10 : decode cX7_ofUnit 10 = .ok (.goto 17, 3) := by decide +kernel
theorem dX7_ofUnit_13 : decode cX7_ofUnit 13 = .ok (.iload_n 2, 1) := by decide +kernel
theorem dX7_ofUnit_14 : decode cX7_ofUnit 14 = .ok (.iconst 0, 1) := by decide +kernel
theorem dX7_ofUnit_15 : decode cX7_ofUnit 15 = .ok (.iconst 1, 1) := by decide +kernel
theorem dX7_ofUnit_16 : decode cX7_ofUnit 16 = .ok (.invokestatic 124, 3) := by decide +kernel
theorem dX7_ofUnit_19 : decode cX7_ofUnit 19 = .ok (.ifCond .eq 7, 3) := by decide +kernel
theorem dX7_ofUnit_22 : decode cX7_ofUnit 22 = .ok (.iconst 0, 1) := by decide +kernel
theorem dX7_ofUnit_23 : decode cX7_ofUnit 23 = .ok (.goto 4, 3) := by decide +kernel
theorem dX7_ofUnit_26 : decode cX7_ofUnit 26 = .ok (.iconst 2, 1) := by decide +kernel
theorem dX7_ofUnit_27 : decode cX7_ofUnit 27 = .ok (.invokevirtual 135, 3) := by decide +kernel
theorem dX7_ofUnit_30 : decode cX7_ofUnit 30 = .ok (.ifCond .ne 5, 3) := by decide +kernel
theorem dX7_ofUnit_33 : decode cX7_ofUnit 33 = .ok (.iconst 0, 1) := by decide +kernel
theorem dX7_ofUnit_34 : decode cX7_ofUnit 34 = .ok (.ireturn, 1) := by decide +kernel
theorem dX7_ofUnit_35 : decode cX7_ofUnit 35 = .ok (.iload_n 2, 1) := by decide +kernel
theorem dX7_ofUnit_36 : decode cX7_ofUnit 36 = .ok (.ifCond .ne 12, 3) := by decide +kernel
theorem dX7_ofUnit_39 : decode cX7_ofUnit 39 = .ok (.aload_n 0, 1) := by decide +kernel
theorem dX7_ofUnit_40 : decode cX7_ofUnit 40 = .ok (.getfield 13, 3) := by decide +kernel
theorem dX7_ofUnit_43 : decode cX7_ofUnit 43 = .ok (.iload_n 1, 1) := by decide +kernel
theorem dX7_ofUnit_44 : decode cX7_ofUnit 44 = .ok (.iaload, 1) := by decide +kernel
theorem dX7_ofUnit_45 : decode cX7_ofUnit 45 = .ok (.goto 9, 3) := by decide +kernel
theorem dX7_ofUnit_48 : decode cX7_ofUnit 48 = .ok (.aload_n 0, 1) := by decide +kernel
theorem dX7_ofUnit_49 : decode cX7_ofUnit 49 = .ok (.getfield 25, 3) := by decide +kernel
theorem dX7_ofUnit_52 : decode cX7_ofUnit 52 = .ok (.iload_n 1, 1) := by decide +kernel
theorem dX7_ofUnit_53 : decode cX7_ofUnit 53 = .ok (.iaload, 1) := by decide +kernel
theorem dX7_ofUnit_54 : decode cX7_ofUnit 54 = .ok (.ireturn, 1) := by decide +kernel
set_option maxRecDepth 20000 in
theorem ggX7_ofController_X7_isController : GoodIn wsX7_ofController wsX7_isController := goodIn_r _ [9, 10, 11, 12, 8, 13, 19, 20, 21, 22, 23, 24, 25, 26, 27, 28, 29, 30, 31, 32, 33, 34, 35, 36, 37, 38, 39, 40, 41, 42, 43, 44, 45, 46, 47, 48, 49, 50, 51, 52, 53, 54, 55, 56, 57, 58, 59] (by decide +kernel) (by decide +kernel)
set_option maxRecDepth 20000 in
theorem gX7_ofController_X7_isController : GoodIn wsX7_ofController (wsV RX7 176 RX7 yX7_isController wsX7_isController) := goodIn_app (goodIn_of _ (by decide +kernel)) ggX7_ofController_X7_isController
set_option maxRecDepth 20000 in
theorem ggX7_ofController_X7_in : GoodIn wsX7_ofController wsX7_in := goodIn_r _ [13] (by decide +kernel) (by decide +kernel)
set_option maxRecDepth 20000 in
theorem gX7_ofController_X7_in : GoodIn wsX7_ofController (va_wsS RX7 124 yX7_in wsX7_in) := goodIn_app (goodIn_of _ (by decide +kernel)) ggX7_ofController_X7_in
set_option maxRecDepth 20000 in
theorem ggX7_ofController_X7_holds : GoodIn wsX7_ofController wsX7_holds := goodIn_r _ [17, 18, 19, 20, 21, 22, 23, 24, 25, 26, 27, 28, 29, 30, 31, 32, 33, 34, 35, 36, 37, 38, 39, 40, 41, 42, 43, 44, 45, 46, 47, 48, 49, 50, 51, 52, 53, 54, 55, 56, 57, 58, 59] (by decide +kernel) (by decide +kernel)
set_option maxRecDepth 20000 in
theorem gX7_ofController_X7_holds : GoodIn wsX7_ofController (wsV RX7 135 RX7 yX7_holds wsX7_holds) := goodIn_app (goodIn_of _ (by decide +kernel)) ggX7_ofController_X7_holds
theorem dX7_ofController_0 : decode cX7_ofController 0 = .ok (.aload_n 0, 1) := by decide +kernel
theorem dX7_ofController_1 : decode cX7_ofController 1 = .ok (.aload_n 0, 1) := by decide +kernel
theorem dX7_ofController_2 : decode cX7_ofController 2 = .ok (.iload_n 1, 1) := by decide +kernel
theorem dX7_ofController_3 : decode cX7_ofController 3 = .ok (.invokevirtual 176, 3) := by decide +kernel
theorem dX7_ofController_6 : decode cX7_ofController 6 = .ok (.ifCond .ne 7, 3) := by decide +kernel
theorem dX7_ofController_9 : decode cX7_ofController 9 = .ok (.iconst 1, 1) := by decide +kernel
theorem dX7_ofController_10 : decode cX7_ofController 10 = .ok (.goto 17, 3) := by decide +kernel
theorem dX7_ofController_13 : decode cX7_ofController 13 = .ok (.iload_n 2, 1) := by decide +kernel
theorem dX7_ofController_14 : decode cX7_ofController 14 = .ok (.iconst 0, 1) := by decide +kernel
theorem dX7_ofController_15 : decode cX7_ofController 15 = .ok (.iconst 3, 1) := by decide +kernel
theorem dX7_ofController_16 : decode cX7_ofController 16 = .ok (.invokestatic 124, 3) := by decide +kernel
theorem dX7_ofController_19 : decode cX7_ofController 19 = .ok (.ifCond .eq 7, 3) := by decide +kernel
theorem dX7_ofController_22 : decode cX7_ofController 22 = .ok (.iconst 0, 1) := by decide +kernel
theorem dX7_ofController_23 : decode cX7_ofController 23 = .ok (.goto 4, 3) := by decide +kernel
theorem dX7_ofController_26 : decode cX7_ofController 26 = .ok (.iconst 2, 1) := by decide +kernel
theorem dX7_ofController_27 : decode cX7_ofController 27 = .ok (.invokevirtual 135, 3) := by decide +kernel
theorem dX7_ofController_30 : decode cX7_ofController 30 = .ok (.ifCond .ne 5, 3) := by decide +kernel
theorem dX7_ofController_33 : decode cX7_ofController 33 = .ok (.iconst 0, 1) := by decide +kernel
theorem dX7_ofController_34 : decode cX7_ofController 34 = .ok (.ireturn, 1) := by decide +kernel
theorem dX7_ofController_35 : decode cX7_ofController 35 = .ok (.iload_n 2, 1) := by decide +kernel
theorem dX7_ofController_36 : decode cX7_ofController 36 = .ok (.ifCond .ne 12, 3) := by decide +kernel
theorem dX7_ofController_39 : decode cX7_ofController 39 = .ok (.aload_n 0, 1) := by decide +kernel
theorem dX7_ofController_40 : decode cX7_ofController 40 = .ok (.getfield 69, 3) := by decide +kernel
theorem dX7_ofController_43 : decode cX7_ofController 43 = .ok (.iload_n 1, 1) := by decide +kernel
theorem dX7_ofController_44 : decode cX7_ofController 44 = .ok (.iaload, 1) := by decide +kernel
theorem dX7_ofController_45 : decode cX7_ofController 45 = .ok (.goto 39, 3) := by decide +kernel
theorem dX7_ofController_48 : decode cX7_ofController 48 = .ok (.iload_n 2, 1) := by decide +kernel
theorem dX7_ofController_49 : decode cX7_ofController 49 = .ok (.iconst 1, 1) := by decide +kernel
theorem dX7_ofController_50 : decode cX7_ofController 50 = .ok (.if_icmp .ne 13, 3) := by decide +kernel
theorem dX7_ofController_53 : decode cX7_ofController 53 = .ok (.aload_n 0, 1) := by decide +kernel
theorem dX7_ofController_54 : decode cX7_ofController 54 = .ok (.getfield 93, 3) := by decide +kernel
theorem dX7_ofController_57 : decode cX7_ofController 57 = .ok (.iload_n 1, 1) := by decide +kernel
theorem dX7_ofController_58 : decode cX7_ofController 58 = .ok (.laload, 1) := by decide +kernel
theorem dX7_ofController_59 : decode cX7_ofController 59 = .ok (.l2i, 1) := by decide +kernel
theorem dX7_ofController_60 : decode cX7_ofController 60 = .ok (.goto 24, 3) := by decide +kernel
theorem dX7_ofController_63 : decode cX7_ofController 63 = .ok (.iload_n 2, 1) := by decide +kernel
theorem dX7_ofController_64 : decode cX7_ofController 64 = .ok (.iconst 2, 1) := by decide +kernel
theorem dX7_ofController_65 : decode cX7_ofController 65 = .ok (.if_icmp .ne 13, 3) := by decide +kernel
theorem dX7_ofController_68 : decode cX7_ofController 68 = .ok (.aload_n 0, 1) := by decide +kernel
theorem dX7_ofController_69 : decode cX7_ofController 69 = .ok (.getfield 96, 3) := by decide +kernel
theorem dX7_ofController_72 : decode cX7_ofController 72 = .ok (.iload_n 1, 1) := by decide +kernel
theorem dX7_ofController_73 : decode cX7_ofController 73 = .ok (.laload, 1) := by decide +kernel
theorem dX7_ofController_74 : decode cX7_ofController 74 = .ok (.l2i, 1) := by decide +kernel
theorem dX7_ofController_75 : decode cX7_ofController 75 = .ok (.goto 9, 3) := by decide +kernel
theorem dX7_ofController_78 : decode cX7_ofController 78 = .ok (.aload_n 0, 1) := by decide +kernel
theorem dX7_ofController_79 : decode cX7_ofController 79 = .ok (.getfield 99, 3) := by decide +kernel
theorem dX7_ofController_82 : decode cX7_ofController 82 = .ok (.iload_n 1, 1) := by decide +kernel
theorem dX7_ofController_83 : decode cX7_ofController 83 = .ok (.iaload, 1) := by decide +kernel
theorem dX7_ofController_84 : decode cX7_ofController 84 = .ok (.ireturn, 1) := by decide +kernel
set_option maxRecDepth 20000 in
theorem ggX7_trend_X7_isStream : GoodIn wsX7_trend wsX7_isStream := goodIn_r _ [7, 8, 9, 10, 6, 11, 17, 18, 19, 20, 21, 22, 23, 24, 25, 26, 27, 28, 29, 30, 31, 32, 33, 34, 35, 36, 37, 38, 39, 40, 41, 42, 43, 44, 45, 46, 47, 48, 49, 50, 51, 52, 53, 54, 55, 56, 57] (by decide +kernel) (by decide +kernel)
set_option maxRecDepth 20000 in
theorem gX7_trend_X7_isStream : GoodIn wsX7_trend (wsV RX7 156 RX7 yX7_isStream wsX7_isStream) := goodIn_app (goodIn_of _ (by decide +kernel)) ggX7_trend_X7_isStream
set_option maxRecDepth 20000 in
theorem ggX7_trend_X7_in : GoodIn wsX7_trend wsX7_in := goodIn_r _ [11] (by decide +kernel) (by decide +kernel)
set_option maxRecDepth 20000 in
theorem gX7_trend_X7_in : GoodIn wsX7_trend (va_wsS RX7 124 yX7_in wsX7_in) := goodIn_app (goodIn_of _ (by decide +kernel)) ggX7_trend_X7_in
set_option maxRecDepth 20000 in
theorem ggX7_trend_X7_holds : GoodIn wsX7_trend wsX7_holds := goodIn_r _ [15, 16, 17, 18, 19, 20, 21, 22, 23, 24, 25, 26, 27, 28, 29, 30, 31, 32, 33, 34, 35, 36, 37, 38, 39, 40, 41, 42, 43, 44, 45, 46, 47, 48, 49, 50, 51, 52, 53, 54, 55, 56, 57] (by decide +kernel) (by decide +kernel)
set_option maxRecDepth 20000 in
theorem gX7_trend_X7_holds : GoodIn wsX7_trend (wsV RX7 135 RX7 yX7_holds wsX7_holds) := goodIn_app (goodIn_of _ (by decide +kernel)) ggX7_trend_X7_holds
theorem dX7_trend_0 : decode cX7_trend 0 = .ok (.aload_n 0, 1) := by decide +kernel
theorem dX7_trend_1 : decode cX7_trend 1 = .ok (.aload_n 0, 1) := by decide +kernel
theorem dX7_trend_2 : decode cX7_trend 2 = .ok (.iload_n 1, 1) := by decide +kernel
theorem dX7_trend_3 : decode cX7_trend 3 = .ok (.invokevirtual 156, 3) := by decide +kernel
theorem dX7_trend_6 : decode cX7_trend 6 = .ok (.ifCond .eq 19, 3) := by decide +kernel
theorem dX7_trend_9 : decode cX7_trend 9 = .ok (.iload_n 2, 1) := by decide +kernel
theorem dX7_trend_10 : decode cX7_trend 10 = .ok (.iconst 1, 1) := by decide +kernel
theorem dX7_trend_11 : decode cX7_trend 11 = .ok (.aload_n 0, 1) := by decide +kernel
theorem dX7_trend_12 : decode cX7_trend 12 = .ok (.getfield 132, 3) := by decide +kernel
theorem dX7_trend_15 : decode cX7_trend 15 = .ok (.invokestatic 124, 3) := by decide +kernel
theorem dX7_trend_18 : decode cX7_trend 18 = .ok (.ifCond .eq 7, 3) := by decide +kernel
theorem dX7_trend_21 : decode cX7_trend 21 = .ok (.iconst 0, 1) := by decide +kernel
theorem dX7_trend_22 : decode cX7_trend 22 = .ok (.goto 4, 3) := by decide +kernel
theorem dX7_trend_25 : decode cX7_trend 25 = .ok (.iconst 1, 1) := by decide +kernel
theorem dX7_trend_26 : decode cX7_trend 26 = .ok (.invokevirtual 135, 3) := by decide +kernel
theorem dX7_trend_29 : decode cX7_trend 29 = .ok (.ifCond .ne 5, 3) := by decide +kernel
theorem dX7_trend_32 : decode cX7_trend 32 = .ok (.iconst 0, 1) := by decide +kernel
theorem dX7_trend_33 : decode cX7_trend 33 = .ok (.ireturn, 1) := by decide +kernel
theorem dX7_trend_34 : decode cX7_trend 34 = .ok (.aload_n 0, 1) := by decide +kernel
theorem dX7_trend_35 : decode cX7_trend 35 = .ok (.getfield 54, 3) := by decide +kernel
theorem dX7_trend_38 : decode cX7_trend 38 = .ok (.bipush 24, 2) := by decide +kernel
theorem dX7_trend_40 : decode cX7_trend 40 = .ok (.iload_n 2, 1) := by decide +kernel
theorem dX7_trend_41 : decode cX7_trend 41 = .ok (.iconst 1, 1) := by decide +kernel
theorem dX7_trend_42 : decode cX7_trend 42 = .ok (.isub, 1) := by decide +kernel
theorem dX7_trend_43 : decode cX7_trend 43 = .ok (.imul, 1) := by decide +kernel
theorem dX7_trend_44 : decode cX7_trend 44 = .ok (.iload_n 1, 1) := by decide +kernel
theorem dX7_trend_45 : decode cX7_trend 45 = .ok (.iadd, 1) := by decide +kernel
theorem dX7_trend_46 : decode cX7_trend 46 = .ok (.iaload, 1) := by decide +kernel
theorem dX7_trend_47 : decode cX7_trend 47 = .ok (.ireturn, 1) := by decide +kernel
theorem dX7_balance_0 : decode cX7_balance 0 = .ok (.aload_n 0, 1) := by decide +kernel
theorem dX7_balance_1 : decode cX7_balance 1 = .ok (.iconst 0, 1) := by decide +kernel
theorem dX7_balance_2 : decode cX7_balance 2 = .ok (.putfield 117, 3) := by decide +kernel
theorem dX7_balance_5 : decode cX7_balance 5 = .ok (.iconst 0, 1) := by decide +kernel
theorem dX7_balance_6 : decode cX7_balance 6 = .ok (.ireturn, 1) := by decide +kernel
theorem dX7_alarms_0 : decode cX7_alarms 0 = .ok (.aload_n 0, 1) := by decide +kernel
theorem dX7_alarms_1 : decode cX7_alarms 1 = .ok (.iconst 0, 1) := by decide +kernel
theorem dX7_alarms_2 : decode cX7_alarms 2 = .ok (.putfield 117, 3) := by decide +kernel
theorem dX7_alarms_5 : decode cX7_alarms 5 = .ok (.aload_n 0, 1) := by decide +kernel
theorem dX7_alarms_6 : decode cX7_alarms 6 = .ok (.getfield 188, 3) := by decide +kernel
theorem dX7_alarms_9 : decode cX7_alarms 9 = .ok (.ireturn, 1) := by decide +kernel
theorem dX7_keeps_0 : decode cX7_keeps 0 = .ok (.iconst 0, 1) := by decide +kernel
theorem dX7_keeps_1 : decode cX7_keeps 1 = .ok (.istore_n 2, 1) := by decide +kernel
theorem dX7_keeps_2 : decode cX7_keeps 2 = .ok (.iload_n 2, 1) := by decide +kernel
theorem dX7_keeps_3 : decode cX7_keeps 3 = .ok (.bipush 24, 2) := by decide +kernel
theorem dX7_keeps_5 : decode cX7_keeps 5 = .ok (.if_icmp .ge 83, 3) := by decide +kernel
theorem dX7_keeps_8 : decode cX7_keeps 8 = .ok (.aload_n 0, 1) := by decide +kernel
theorem dX7_keeps_9 : decode cX7_keeps 9 = .ok (.getfield 45, 3) := by decide +kernel
theorem dX7_keeps_12 : decode cX7_keeps 12 = .ok (.iload_n 2, 1) := by decide +kernel
theorem dX7_keeps_13 : decode cX7_keeps 13 = .ok (.iload_n 1, 1) := by decide +kernel
theorem dX7_keeps_14 : decode cX7_keeps 14 = .ok (.ifCond .eq 12, 3) := by decide +kernel
theorem dX7_keeps_17 : decode cX7_keeps 17 = .ok (.aload_n 0, 1) := by decide +kernel
theorem dX7_keeps_18 : decode cX7_keeps 18 = .ok (.getfield 45, 3) := by decide +kernel
theorem dX7_keeps_21 : decode cX7_keeps 21 = .ok (.iload_n 2, 1) := by decide +kernel
theorem dX7_keeps_22 : decode cX7_keeps 22 = .ok (.laload, 1) := by decide +kernel
theorem dX7_keeps_23 : decode cX7_keeps 23 = .ok (.goto 9, 3) := by decide +kernel
theorem dX7_keeps_26 : decode cX7_keeps 26 = .ok (.aload_n 0, 1) := by decide +kernel
theorem dX7_keeps_27 : decode cX7_keeps 27 = .ok (.getfield 32, 3) := by decide +kernel
theorem dX7_keeps_30 : decode cX7_keeps 30 = .ok (.iload_n 2, 1) := by decide +kernel
theorem dX7_keeps_31 : decode cX7_keeps 31 = .ok (.laload, 1) := by decide +kernel
theorem dX7_keeps_32 : decode cX7_keeps 32 = .ok (.lastore, 1) := by decide +kernel
theorem dX7_keeps_33 : decode cX7_keeps 33 = .ok (.aload_n 0, 1) := by decide +kernel
theorem dX7_keeps_34 : decode cX7_keeps 34 = .ok (.getfield 48, 3) := by decide +kernel
theorem dX7_keeps_37 : decode cX7_keeps 37 = .ok (.iload_n 2, 1) := by decide +kernel
theorem dX7_keeps_38 : decode cX7_keeps 38 = .ok (.iload_n 1, 1) := by decide +kernel
theorem dX7_keeps_39 : decode cX7_keeps 39 = .ok (.ifCond .eq 12, 3) := by decide +kernel
theorem dX7_keeps_42 : decode cX7_keeps 42 = .ok (.aload_n 0, 1) := by decide +kernel
theorem dX7_keeps_43 : decode cX7_keeps 43 = .ok (.getfield 48, 3) := by decide +kernel
theorem dX7_keeps_46 : decode cX7_keeps 46 = .ok (.iload_n 2, 1) := by decide +kernel
theorem dX7_keeps_47 : decode cX7_keeps 47 = .ok (.laload, 1) := by decide +kernel
theorem dX7_keeps_48 : decode cX7_keeps 48 = .ok (.goto 9, 3) := by decide +kernel
theorem dX7_keeps_51 : decode cX7_keeps 51 = .ok (.aload_n 0, 1) := by decide +kernel
theorem dX7_keeps_52 : decode cX7_keeps 52 = .ok (.getfield 36, 3) := by decide +kernel
theorem dX7_keeps_55 : decode cX7_keeps 55 = .ok (.iload_n 2, 1) := by decide +kernel
theorem dX7_keeps_56 : decode cX7_keeps 56 = .ok (.laload, 1) := by decide +kernel
theorem dX7_keeps_57 : decode cX7_keeps 57 = .ok (.lastore, 1) := by decide +kernel
theorem dX7_keeps_58 : decode cX7_keeps 58 = .ok (.aload_n 0, 1) := by decide +kernel
theorem dX7_keeps_59 : decode cX7_keeps 59 = .ok (.getfield 32, 3) := by decide +kernel
theorem dX7_keeps_62 : decode cX7_keeps 62 = .ok (.iload_n 2, 1) := by decide +kernel
theorem dX7_keeps_63 : decode cX7_keeps 63 = .ok (.aload_n 0, 1) := by decide +kernel
theorem dX7_keeps_64 : decode cX7_keeps 64 = .ok (.getfield 45, 3) := by decide +kernel
theorem dX7_keeps_67 : decode cX7_keeps 67 = .ok (.iload_n 2, 1) := by decide +kernel
theorem dX7_keeps_68 : decode cX7_keeps 68 = .ok (.laload, 1) := by decide +kernel
theorem dX7_keeps_69 : decode cX7_keeps 69 = .ok (.lastore, 1) := by decide +kernel
theorem dX7_keeps_70 : decode cX7_keeps 70 = .ok (.aload_n 0, 1) := by decide +kernel
theorem dX7_keeps_71 : decode cX7_keeps 71 = .ok (.getfield 36, 3) := by decide +kernel
theorem dX7_keeps_74 : decode cX7_keeps 74 = .ok (.iload_n 2, 1) := by decide +kernel
theorem dX7_keeps_75 : decode cX7_keeps 75 = .ok (.aload_n 0, 1) := by decide +kernel
theorem dX7_keeps_76 : decode cX7_keeps 76 = .ok (.getfield 48, 3) := by decide +kernel
theorem dX7_keeps_79 : decode cX7_keeps 79 = .ok (.iload_n 2, 1) := by decide +kernel
theorem dX7_keeps_80 : decode cX7_keeps 80 = .ok (.laload, 1) := by decide +kernel
theorem dX7_keeps_81 : decode cX7_keeps 81 = .ok (.lastore, 1) := by decide +kernel
theorem dX7_keeps_82 : decode cX7_keeps 82 = .ok (.iinc 2 1, 3) := by decide +kernel
theorem dX7_keeps_85 : decode cX7_keeps 85 = .ok (.goto (-83), 3) := by decide +kernel
theorem dX7_keeps_88 : decode cX7_keeps 88 = .ok (.iconst 0, 1) := by decide +kernel
theorem dX7_keeps_89 : decode cX7_keeps 89 = .ok (.istore_n 2, 1) := by decide +kernel
theorem dX7_keeps_90 : decode cX7_keeps 90 = .ok (.iload_n 2, 1) := by decide +kernel
theorem dX7_keeps_91 : decode cX7_keeps 91 = .ok (.bipush 12, 2) := by decide +kernel
theorem dX7_keeps_93 : decode cX7_keeps 93 = .ok (.if_icmp .ge 46, 3) := by decide +kernel
theorem dX7_keeps_96 : decode cX7_keeps 96 = .ok (.aload_n 0, 1) := by decide +kernel
theorem dX7_keeps_97 : decode cX7_keeps 97 = .ok (.getfield 51, 3) := by decide +kernel
theorem dX7_keeps_100 : decode cX7_keeps 100 = .ok (.iload_n 2, 1) := by decide +kernel
theorem dX7_keeps_101 : decode cX7_keeps 101 = .ok (.iload_n 1, 1) := by decide +kernel
theorem dX7_keeps_102 : decode cX7_keeps 102 = .ok (.ifCond .eq 12, 3) := by decide +kernel
theorem dX7_keeps_105 : decode cX7_keeps 105 = .ok (.aload_n 0, 1) := by decide +kernel
theorem dX7_keeps_106 : decode cX7_keeps 106 = .ok (.getfield 51, 3) := by decide +kernel
theorem dX7_keeps_109 : decode cX7_keeps 109 = .ok (.iload_n 2, 1) := by decide +kernel
theorem dX7_keeps_110 : decode cX7_keeps 110 = .ok (.iaload, 1) := by decide +kernel
theorem dX7_keeps_111 : decode cX7_keeps 111 = .ok (.goto 9, 3) := by decide +kernel
theorem dX7_keeps_114 : decode cX7_keeps 114 = .ok (.aload_n 0, 1) := by decide +kernel
theorem dX7_keeps_115 : decode cX7_keeps 115 = .ok (.getfield 25, 3) := by decide +kernel
theorem dX7_keeps_118 : decode cX7_keeps 118 = .ok (.iload_n 2, 1) := by decide +kernel
theorem dX7_keeps_119 : decode cX7_keeps 119 = .ok (.iaload, 1) := by decide +kernel
theorem dX7_keeps_120 : decode cX7_keeps 120 = .ok (.iastore, 1) := by decide +kernel
theorem dX7_keeps_121 : decode cX7_keeps 121 = .ok (.aload_n 0, 1) := by decide +kernel
theorem dX7_keeps_122 : decode cX7_keeps 122 = .ok (.getfield 25, 3) := by decide +kernel
theorem dX7_keeps_125 : decode cX7_keeps 125 = .ok (.iload_n 2, 1) := by decide +kernel
theorem dX7_keeps_126 : decode cX7_keeps 126 = .ok (.aload_n 0, 1) := by decide +kernel
theorem dX7_keeps_127 : decode cX7_keeps 127 = .ok (.getfield 51, 3) := by decide +kernel
theorem dX7_keeps_130 : decode cX7_keeps 130 = .ok (.iload_n 2, 1) := by decide +kernel
theorem dX7_keeps_131 : decode cX7_keeps 131 = .ok (.iaload, 1) := by decide +kernel
theorem dX7_keeps_132 : decode cX7_keeps 132 = .ok (.iastore, 1) := by decide +kernel
theorem dX7_keeps_133 : decode cX7_keeps 133 = .ok (.iinc 2 1, 3) := by decide +kernel
theorem dX7_keeps_136 : decode cX7_keeps 136 = .ok (.goto (-46), 3) := by decide +kernel
theorem dX7_keeps_139 : decode cX7_keeps 139 = .ok (.return_, 1) := by decide +kernel
set_option maxRecDepth 20000 in
theorem ggX7_warmthBehind_X7_keeps : GoodIn wsX7_warmthBehind wsX7_keeps := goodIn_r _ [8, 9, 10, 11, 12, 13, 14, 59, 60, 61, 62, 63, 64, 65, 66, 67, 68, 69, 70, 71, 72, 73, 74, 75, 76, 77, 78, 79, 80, 81, 82, 83, 84, 85, 86, 87, 88, 89, 90, 91, 92, 93, 94, 95, 96, 97, 98, 99] (by decide +kernel) (by decide +kernel)
set_option maxRecDepth 20000 in
theorem gX7_warmthBehind_X7_keeps : GoodIn wsX7_warmthBehind (wsV RX7 242 RX7 yX7_keeps wsX7_keeps) := goodIn_app (goodIn_of _ (by decide +kernel)) ggX7_warmthBehind_X7_keeps
set_option maxRecDepth 20000 in
theorem ggX7_warmthBehind_X7_ages : GoodIn wsX7_warmthBehind wsX7_ages := goodIn_r _ [18, 19, 10, 20, 12, 59, 60, 61, 62, 63, 64, 65, 66, 67, 68, 69, 70, 71, 72, 73, 74, 75, 76, 77, 78, 79, 80, 81, 82, 83, 84, 85, 86, 87, 88, 89, 90, 91, 92, 93, 94, 95, 96, 97, 98, 99] (by decide +kernel) (by decide +kernel)
set_option maxRecDepth 20000 in
theorem gX7_warmthBehind_X7_ages : GoodIn wsX7_warmthBehind (wsV RX7 232 RX7 yX7_ages wsX7_ages) := goodIn_app (goodIn_of _ (by decide +kernel)) ggX7_warmthBehind_X7_ages
set_option maxRecDepth 20000 in
theorem ggX7_warmthBehind_X7_mostOf : GoodIn wsX7_warmthBehind wsX7_mostOf := goodIn_r _ [23, 24] (by decide +kernel) (by decide +kernel)
set_option maxRecDepth 20000 in
theorem gX7_warmthBehind_X7_mostOf : GoodIn wsX7_warmthBehind (va_wsS RX7 146 yX7_mostOf wsX7_mostOf) := goodIn_app (goodIn_of _ (by decide +kernel)) ggX7_warmthBehind_X7_mostOf
set_option maxRecDepth 20000 in
theorem ggX7_warmthBehind_X7_held : GoodIn wsX7_warmthBehind wsX7_held := goodIn_r _ [27] (by decide +kernel) (by decide +kernel)
set_option maxRecDepth 20000 in
theorem gX7_warmthBehind_X7_held : GoodIn wsX7_warmthBehind (va_wsS RX7 200 yX7_held wsX7_held) := goodIn_app (goodIn_of _ (by decide +kernel)) ggX7_warmthBehind_X7_held
set_option maxRecDepth 20000 in
theorem ggX7_warmthBehind_X7_runs : GoodIn wsX7_warmthBehind wsX7_runs := goodIn_r _ [31, 2, 14, 32, 33, 34, 35, 36, 37, 38, 39, 7, 40, 10, 12, 41, 42, 43, 44, 19, 45, 46, 47, 48, 20, 49, 50, 51, 52, 53, 54, 25, 26, 27, 59, 60, 61, 62, 63, 64, 65, 66, 67, 68, 69, 70, 71, 72, 73, 74, 75, 76, 77, 78, 79, 80, 81, 82, 83, 84, 85, 86, 87, 88, 89, 90, 91, 92, 93, 94, 95, 96, 97, 98, 99] (by decide +kernel) (by decide +kernel)
set_option maxRecDepth 20000 in
theorem gX7_warmthBehind_X7_runs : GoodIn wsX7_warmthBehind (wsV RX7 235 RX7 yX7_runs wsX7_runs) := goodIn_app (goodIn_of _ (by decide +kernel)) ggX7_warmthBehind_X7_runs
set_option maxRecDepth 20000 in
theorem ggX7_warmthBehind_X7_warmthOf : GoodIn wsX7_warmthBehind wsX7_warmthOf := goodIn_r _ [58, 10, 12, 52, 53, 7, 54, 36, 59, 60, 61, 62, 63, 64, 65, 66, 67, 68, 69, 70, 71, 72, 73, 74, 75, 76, 77, 78, 79, 80, 81, 82, 83, 84, 85, 86, 87, 88, 89, 90, 91, 92, 93, 94, 95, 96, 97, 98, 99] (by decide +kernel) (by decide +kernel)
set_option maxRecDepth 20000 in
theorem gX7_warmthBehind_X7_warmthOf : GoodIn wsX7_warmthBehind (wsV RX7 193 RX7 yX7_warmthOf wsX7_warmthOf) := goodIn_app (goodIn_of _ (by decide +kernel)) ggX7_warmthBehind_X7_warmthOf
theorem dX7_warmthBehind_0 : decode cX7_warmthBehind 0 = .ok (.aload_n 0, 1) := by decide +kernel
theorem dX7_warmthBehind_1 : decode cX7_warmthBehind 1 = .ok (.iconst 0, 1) := by decide +kernel
theorem dX7_warmthBehind_2 : decode cX7_warmthBehind 2 = .ok (.invokevirtual 242, 3) := by decide +kernel
theorem dX7_warmthBehind_5 : decode cX7_warmthBehind 5 = .ok (.iconst 0, 1) := by decide +kernel
theorem dX7_warmthBehind_6 : decode cX7_warmthBehind 6 = .ok (.istore 4, 2) := by decide +kernel
theorem dX7_warmthBehind_8 : decode cX7_warmthBehind 8 = .ok (.iload 4, 2) := by decide +kernel
theorem dX7_warmthBehind_10 : decode cX7_warmthBehind 10 = .ok (.bipush 12, 2) := by decide +kernel
theorem dX7_warmthBehind_12 : decode cX7_warmthBehind 12 = .ok (.if_icmp .ge 103, 3) := by decide +kernel
theorem dX7_warmthBehind_15 : decode cX7_warmthBehind 15 = .ok (.aload_n 0, 1) := by decide +kernel
theorem dX7_warmthBehind_16 : decode cX7_warmthBehind 16 = .ok (.invokevirtual 232, 3) := by decide +kernel
theorem dX7_warmthBehind_19 : decode cX7_warmthBehind 19 = .ok (.iconst 0, 1) := by decide +kernel
theorem dX7_warmthBehind_20 : decode cX7_warmthBehind 20 = .ok (.istore 5, 2) := by decide +kernel
theorem dX7_warmthBehind_22 : decode cX7_warmthBehind 22 = .ok (.iload 5, 2) := by decide +kernel
theorem dX7_warmthBehind_24 : decode cX7_warmthBehind 24 = .ok (.aload_n 0, 1) := by decide +kernel
theorem dX7_warmthBehind_25 : decode cX7_warmthBehind 25 = .ok (.getfield 121, 3) := by decide +kernel
theorem dX7_warmthBehind_28 : decode cX7_warmthBehind 28 = .ok (.if_icmp .ge 81, 3) := by decide +kernel
theorem dX7_warmthBehind_31 : decode cX7_warmthBehind 31 = .ok (.iload 5, 2) := by decide +kernel
theorem dX7_warmthBehind_33 : decode cX7_warmthBehind 33 = .ok (.iload_n 2, 1) := by decide +kernel
theorem dX7_warmthBehind_34 : decode cX7_warmthBehind 34 = .ok (.if_icmp .ne 18, 3) := by decide +kernel
theorem dX7_warmthBehind_37 : decode cX7_warmthBehind 37 = .ok (.aload_n 0, 1) := by decide +kernel
theorem dX7_warmthBehind_38 : decode cX7_warmthBehind 38 = .ok (.getfield 7, 3) := by decide +kernel
theorem dX7_warmthBehind_41 : decode cX7_warmthBehind 41 = .ok (.iload 5, 2) := by decide +kernel
theorem dX7_warmthBehind_43 : decode cX7_warmthBehind 43 = .ok (.iaload, 1) := by decide +kernel
theorem dX7_warmthBehind_44 : decode cX7_warmthBehind 44 = .ok (.iconst 2, 1) := by decide +kernel
theorem dX7_warmthBehind_45 : decode cX7_warmthBehind 45 = .ok (.if_icmp .eq 7, 3) := by decide +kernel
theorem dX7_warmthBehind_48 : decode cX7_warmthBehind 48 = .ok (.iconst 1, 1) := by decide +kernel
theorem dX7_warmthBehind_49 : decode cX7_warmthBehind 49 = .ok (.goto 4, 3) := by decide +kernel
theorem dX7_warmthBehind_52 : decode cX7_warmthBehind 52 = .ok (.iconst 0, 1) := by decide +kernel
theorem dX7_warmthBehind_53 : decode cX7_warmthBehind 53 = .ok (.istore 6, 2) := by decide +kernel
theorem dX7_warmthBehind_55 : decode cX7_warmthBehind 55 = .ok (.aload_n 0, 1) := by decide +kernel
theorem dX7_warmthBehind_56 : decode cX7_warmthBehind 56 = .ok (.iload 5, 2) := by decide +kernel
theorem dX7_warmthBehind_58 : decode cX7_warmthBehind 58 = .ok (.iload 6, 2) := by decide +kernel
theorem dX7_warmthBehind_60 : decode cX7_warmthBehind 60 = .ok (.ifCond .eq 32, 3) := by decide +kernel
theorem dX7_warmthBehind_63 : decode cX7_warmthBehind 63 = .ok (.aload_n 0, 1) := by decide +kernel
theorem dX7_warmthBehind_64 : decode cX7_warmthBehind 64 = .ok (.getfield 13, 3) := by decide +kernel
theorem dX7_warmthBehind_67 : decode cX7_warmthBehind 67 = .ok (.iload 5, 2) := by decide +kernel
theorem dX7_warmthBehind_69 : decode cX7_warmthBehind 69 = .ok (.iaload, 1) := by decide +kernel
theorem dX7_warmthBehind_70 : decode cX7_warmthBehind 70 = .ok (.i2l, 1) := by decide +kernel
theorem dX7_warmthBehind_71 : decode cX7_warmthBehind 71 = .ok (.iload_n 3, 1) := by decide +kernel
theorem dX7_warmthBehind_72 : decode cX7_warmthBehind 72 = .ok (.i2l, 1) := by decide +kernel
theorem dX7_warmthBehind_73 : decode cX7_warmthBehind 73 = .ok (.ladd, 1) := by decide +kernel
theorem dX7_warmthBehind_74 : decode cX7_warmthBehind 74 = .ok (.lconst 0, 1) := by decide +kernel
theorem dX7_warmthBehind_75 : decode cX7_warmthBehind 75 = .ok (.aload_n 0, 1) := by decide +kernel
theorem dX7_warmthBehind_76 : decode cX7_warmthBehind 76 = .ok (.getfield 7, 3) := by decide +kernel
theorem dX7_warmthBehind_79 : decode cX7_warmthBehind 79 = .ok (.iload 5, 2) := by decide +kernel
theorem dX7_warmthBehind_81 : decode cX7_warmthBehind 81 = .ok (.iaload, 1) := by decide +kernel
theorem dX7_warmthBehind_82 : decode cX7_warmthBehind 82 = .ok (.invokestatic 146, 3) := by decide +kernel
theorem dX7_warmthBehind_85 : decode cX7_warmthBehind 85 = .ok (.i2l, 1) := by decide +kernel
theorem dX7_warmthBehind_86 : decode cX7_warmthBehind 86 = .ok (.invokestatic 200, 3) := by decide +kernel
theorem dX7_warmthBehind_89 : decode cX7_warmthBehind 89 = .ok (.goto 11, 3) := by decide +kernel
theorem dX7_warmthBehind_92 : decode cX7_warmthBehind 92 = .ok (.aload_n 0, 1) := by decide +kernel
theorem dX7_warmthBehind_93 : decode cX7_warmthBehind 93 = .ok (.getfield 13, 3) := by decide +kernel
theorem dX7_warmthBehind_96 : decode cX7_warmthBehind 96 = .ok (.iload 5, 2) := by decide +kernel
theorem dX7_warmthBehind_98 : decode cX7_warmthBehind 98 = .ok (.iaload, 1) := by decide +kernel
theorem dX7_warmthBehind_99 : decode cX7_warmthBehind 99 = .ok (.i2l, 1) := by decide +kernel
theorem dX7_warmthBehind_100 : decode cX7_warmthBehind 100 = .ok (.invokevirtual 235, 3) := by decide +kernel
theorem dX7_warmthBehind_103 : decode cX7_warmthBehind 103 = .ok (.iinc 5 1, 3) := by decide +kernel
theorem dX7_warmthBehind_106 : decode cX7_warmthBehind 106 = .ok (.goto (-84), 3) := by decide +kernel
theorem dX7_warmthBehind_109 : decode cX7_warmthBehind 109 = .ok (.iinc 4 1, 3) := by decide +kernel
theorem dX7_warmthBehind_112 : decode cX7_warmthBehind 112 = .ok (.goto (-104), 3) := by decide +kernel
theorem dX7_warmthBehind_115 : decode cX7_warmthBehind 115 = .ok (.aload_n 0, 1) := by decide +kernel
theorem dX7_warmthBehind_116 : decode cX7_warmthBehind 116 = .ok (.iload_n 1, 1) := by decide +kernel
theorem dX7_warmthBehind_117 : decode cX7_warmthBehind 117 = .ok (.invokevirtual 193, 3) := by decide +kernel
theorem dX7_warmthBehind_120 : decode cX7_warmthBehind 120 = .ok (.istore 4, 2) := by decide +kernel
theorem dX7_warmthBehind_122 : decode cX7_warmthBehind 122 = .ok (.aload_n 0, 1) := by decide +kernel
theorem dX7_warmthBehind_123 : decode cX7_warmthBehind 123 = .ok (.iconst 1, 1) := by decide +kernel
theorem dX7_warmthBehind_124 : decode cX7_warmthBehind 124 = .ok (.invokevirtual 242, 3) := by decide +kernel
theorem dX7_warmthBehind_127 : decode cX7_warmthBehind 127 = .ok (.iload 4, 2) := by decide +kernel
theorem dX7_warmthBehind_129 : decode cX7_warmthBehind 129 = .ok (.ireturn, 1) := by decide +kernel
set_option maxRecDepth 20000 in
theorem ggX7_gainOf_X7_warmthBehind : GoodIn wsX7_gainOf wsX7_warmthBehind := goodIn_r _ [5, 6, 7, 8, 9, 10, 11, 4, 12, 13, 14, 15, 16, 17, 18, 19, 20, 21, 22, 23, 24, 25, 26, 27, 28, 29, 30, 31, 32, 33, 34, 35, 36, 37, 38, 39, 40, 41, 42, 43, 44, 45, 46, 47, 48, 49, 50, 51, 52, 53, 54, 55, 56, 57, 58, 59, 60, 61, 62, 63, 64, 65, 66, 67, 68, 69, 70, 71, 72, 73, 74, 75, 76, 77, 78, 79, 80, 81, 82, 83, 84, 85, 86, 87, 88, 89, 90, 91, 92, 93, 94, 95, 96, 97, 98, 99, 100, 101, 102, 103] (by decide +kernel) (by decide +kernel)
set_option maxRecDepth 20000 in
theorem gX7_gainOf_X7_warmthBehind : GoodIn wsX7_gainOf (wsV RX7 246 RX7 yX7_warmthBehind wsX7_warmthBehind) := goodIn_app (goodIn_of _ (by decide +kernel)) ggX7_gainOf_X7_warmthBehind
theorem dX7_gainOf_0 : decode cX7_gainOf 0 = .ok (.aload_n 0, 1) := by decide +kernel
theorem dX7_gainOf_1 : decode cX7_gainOf 1 = .ok (.iload_n 2, 1) := by decide +kernel
theorem dX7_gainOf_2 : decode cX7_gainOf 2 = .ok (.iload_n 1, 1) := by decide +kernel
theorem dX7_gainOf_3 : decode cX7_gainOf 3 = .ok (.iconst 1, 1) := by decide +kernel
theorem dX7_gainOf_4 : decode cX7_gainOf 4 = .ok (.invokevirtual 246, 3) := by decide +kernel
theorem dX7_gainOf_7 : decode cX7_gainOf 7 = .ok (.aload_n 0, 1) := by decide +kernel
theorem dX7_gainOf_8 : decode cX7_gainOf 8 = .ok (.iload_n 2, 1) := by decide +kernel
theorem dX7_gainOf_9 : decode cX7_gainOf 9 = .ok (.iload_n 1, 1) := by decide +kernel
theorem dX7_gainOf_10 : decode cX7_gainOf 10 = .ok (.iconst 0, 1) := by decide +kernel
theorem dX7_gainOf_11 : decode cX7_gainOf 11 = .ok (.invokevirtual 246, 3) := by decide +kernel
theorem dX7_gainOf_14 : decode cX7_gainOf 14 = .ok (.isub, 1) := by decide +kernel
theorem dX7_gainOf_15 : decode cX7_gainOf 15 = .ok (.ireturn, 1) := by decide +kernel
set_option maxRecDepth 20000 in
theorem ggX7_gain_X7_isUnit : GoodIn wsX7_gain wsX7_isUnit := goodIn_r _ [5, 6, 7, 8, 4, 9, 83, 84, 85, 86, 87, 88, 89, 90, 91, 92, 93, 94, 95, 96, 97, 98, 99, 100, 101, 102, 103, 104, 105, 106, 107, 108, 109, 110, 111, 112, 113, 114, 115, 116, 117, 118, 119, 120, 121, 122, 123] (by decide +kernel) (by decide +kernel)
set_option maxRecDepth 20000 in
theorem gX7_gain_X7_isUnit : GoodIn wsX7_gain (wsV RX7 153 RX7 yX7_isUnit wsX7_isUnit) := goodIn_app (goodIn_of _ (by decide +kernel)) ggX7_gain_X7_isUnit
set_option maxRecDepth 20000 in
theorem ggX7_gain_X7_isStream : GoodIn wsX7_gain wsX7_isStream := goodIn_r _ [13, 6, 7, 8, 4, 9, 83, 84, 85, 86, 87, 88, 89, 90, 91, 92, 93, 94, 95, 96, 97, 98, 99, 100, 101, 102, 103, 104, 105, 106, 107, 108, 109, 110, 111, 112, 113, 114, 115, 116, 117, 118, 119, 120, 121, 122, 123] (by decide +kernel) (by decide +kernel)
set_option maxRecDepth 20000 in
theorem gX7_gain_X7_isStream : GoodIn wsX7_gain (wsV RX7 156 RX7 yX7_isStream wsX7_isStream) := goodIn_app (goodIn_of _ (by decide +kernel)) ggX7_gain_X7_isStream
set_option maxRecDepth 20000 in
theorem ggX7_gain_X7_holds : GoodIn wsX7_gain wsX7_holds := goodIn_r _ [17, 18, 83, 84, 85, 86, 87, 88, 89, 90, 91, 92, 93, 94, 95, 96, 97, 98, 99, 100, 101, 102, 103, 104, 105, 106, 107, 108, 109, 110, 111, 112, 113, 114, 115, 116, 117, 118, 119, 120, 121, 122, 123] (by decide +kernel) (by decide +kernel)
set_option maxRecDepth 20000 in
theorem gX7_gain_X7_holds : GoodIn wsX7_gain (wsV RX7 135 RX7 yX7_holds wsX7_holds) := goodIn_app (goodIn_of _ (by decide +kernel)) ggX7_gain_X7_holds
set_option maxRecDepth 20000 in
theorem ggX7_gain_X7_gainOf : GoodIn wsX7_gain wsX7_gainOf := goodIn_r _ [22, 23, 24, 25, 4, 26, 6, 27, 28, 29, 30, 31, 32, 33, 34, 35, 36, 37, 38, 39, 40, 41, 42, 43, 44, 45, 46, 47, 48, 49, 50, 51, 52, 53, 54, 55, 56, 57, 58, 59, 60, 61, 62, 63, 64, 65, 66, 67, 68, 69, 70, 71, 72, 73, 74, 75, 76, 77, 78, 79, 80, 81, 82, 83, 84, 85, 86, 87, 88, 89, 90, 91, 92, 93, 94, 95, 96, 97, 98, 99, 100, 101, 102, 103, 104, 105, 106, 107, 108, 109, 110, 111, 112, 113, 114, 115, 116, 117, 118, 119, 120, 121, 122, 123] (by decide +kernel) (by decide +kernel)
set_option maxRecDepth 20000 in
theorem gX7_gain_X7_gainOf : GoodIn wsX7_gain (wsV RX7 250 RX7 yX7_gainOf wsX7_gainOf) := goodIn_app (goodIn_of _ (by decide +kernel)) ggX7_gain_X7_gainOf
theorem dX7_gain_0 : decode cX7_gain 0 = .ok (.aload_n 0, 1) := by decide +kernel
theorem dX7_gain_1 : decode cX7_gain 1 = .ok (.aload_n 0, 1) := by decide +kernel
theorem dX7_gain_2 : decode cX7_gain 2 = .ok (.iload_n 1, 1) := by decide +kernel
theorem dX7_gain_3 : decode cX7_gain 3 = .ok (.invokevirtual 153, 3) := by decide +kernel
theorem dX7_gain_6 : decode cX7_gain 6 = .ok (.ifCond .eq 15, 3) := by decide +kernel
theorem dX7_gain_9 : decode cX7_gain 9 = .ok (.aload_n 0, 1) := by decide +kernel
theorem dX7_gain_10 : decode cX7_gain 10 = .ok (.iload_n 2, 1) := by decide +kernel
theorem dX7_gain_11 : decode cX7_gain 11 = .ok (.invokevirtual 156, 3) := by decide +kernel
theorem dX7_gain_14 : decode cX7_gain 14 = .ok (.ifCond .eq 7, 3) := by decide +kernel
theorem dX7_gain_17 : decode cX7_gain 17 = .ok (.iconst 0, 1) := by decide +kernel
theorem dX7_gain_18 : decode cX7_gain 18 = .ok (.goto 4, 3) := by decide +kernel
theorem dX7_gain_21 : decode cX7_gain 21 = .ok (.iconst 1, 1) := by decide +kernel
theorem dX7_gain_22 : decode cX7_gain 22 = .ok (.invokevirtual 135, 3) := by decide +kernel
theorem dX7_gain_25 : decode cX7_gain 25 = .ok (.ifCond .eq 12, 3) := by decide +kernel
theorem dX7_gain_28 : decode cX7_gain 28 = .ok (.aload_n 0, 1) := by decide +kernel
theorem dX7_gain_29 : decode cX7_gain 29 = .ok (.iload_n 1, 1) := by decide +kernel
theorem dX7_gain_30 : decode cX7_gain 30 = .ok (.iload_n 2, 1) := by decide +kernel
theorem dX7_gain_31 : decode cX7_gain 31 = .ok (.invokevirtual 250, 3) := by decide +kernel
theorem dX7_gain_34 : decode cX7_gain 34 = .ok (.goto 4, 3) := by decide +kernel
theorem dX7_gain_37 : decode cX7_gain 37 = .ok (.iconst 0, 1) := by decide +kernel
theorem dX7_gain_38 : decode cX7_gain 38 = .ok (.ireturn, 1) := by decide +kernel
set_option maxRecDepth 20000 in
theorem ggX7_relative_X7_isUnit : GoodIn wsX7_relative wsX7_isUnit := goodIn_r _ [7, 8, 9, 10, 6, 11, 84, 85, 86, 87, 88, 89, 90, 91, 92, 93, 94, 95, 96, 97, 98, 99, 100, 101, 102, 103, 104, 105, 106, 107, 108, 109, 110, 111, 112, 113, 114, 115, 116, 117, 118, 119, 120, 121, 122, 123, 124] (by decide +kernel) (by decide +kernel)
set_option maxRecDepth 20000 in
theorem gX7_relative_X7_isUnit : GoodIn wsX7_relative (wsV RX7 153 RX7 yX7_isUnit wsX7_isUnit) := goodIn_app (goodIn_of _ (by decide +kernel)) ggX7_relative_X7_isUnit
set_option maxRecDepth 20000 in
theorem ggX7_relative_X7_isStream : GoodIn wsX7_relative wsX7_isStream := goodIn_r _ [15, 8, 9, 10, 6, 11, 84, 85, 86, 87, 88, 89, 90, 91, 92, 93, 94, 95, 96, 97, 98, 99, 100, 101, 102, 103, 104, 105, 106, 107, 108, 109, 110, 111, 112, 113, 114, 115, 116, 117, 118, 119, 120, 121, 122, 123, 124] (by decide +kernel) (by decide +kernel)
set_option maxRecDepth 20000 in
theorem gX7_relative_X7_isStream : GoodIn wsX7_relative (wsV RX7 156 RX7 yX7_isStream wsX7_isStream) := goodIn_app (goodIn_of _ (by decide +kernel)) ggX7_relative_X7_isStream
set_option maxRecDepth 20000 in
theorem ggX7_relative_X7_holds : GoodIn wsX7_relative wsX7_holds := goodIn_r _ [19, 20, 84, 85, 86, 87, 88, 89, 90, 91, 92, 93, 94, 95, 96, 97, 98, 99, 100, 101, 102, 103, 104, 105, 106, 107, 108, 109, 110, 111, 112, 113, 114, 115, 116, 117, 118, 119, 120, 121, 122, 123, 124] (by decide +kernel) (by decide +kernel)
set_option maxRecDepth 20000 in
theorem gX7_relative_X7_holds : GoodIn wsX7_relative (wsV RX7 135 RX7 yX7_holds wsX7_holds) := goodIn_app (goodIn_of _ (by decide +kernel)) ggX7_relative_X7_holds
set_option maxRecDepth 20000 in
theorem ggX7_relative_X7_gainOf : GoodIn wsX7_relative wsX7_gainOf := goodIn_r _ [24, 25, 26, 27, 6, 28, 8, 29, 30, 31, 32, 33, 34, 35, 36, 37, 38, 39, 40, 41, 42, 43, 44, 45, 46, 47, 48, 49, 50, 51, 52, 53, 54, 55, 56, 57, 58, 59, 60, 2, 61, 62, 63, 64, 65, 66, 67, 68, 69, 70, 71, 72, 73, 74, 75, 76, 77, 78, 79, 80, 81, 82, 83, 84, 85, 86, 87, 88, 89, 90, 91, 92, 93, 94, 95, 96, 97, 98, 99, 100, 101, 102, 103, 104, 105, 106, 107, 108, 109, 110, 111, 112, 113, 114, 115, 116, 117, 118, 119, 120, 121, 122, 123, 124] (by decide +kernel) (by decide +kernel)
set_option maxRecDepth 20000 in
theorem gX7_relative_X7_gainOf : GoodIn wsX7_relative (wsV RX7 250 RX7 yX7_gainOf wsX7_gainOf) := goodIn_app (goodIn_of _ (by decide +kernel)) ggX7_relative_X7_gainOf
theorem dX7_relative_0 : decode cX7_relative 0 = .ok (.aload_n 0, 1) := by decide +kernel
theorem dX7_relative_1 : decode cX7_relative 1 = .ok (.iload_n 1, 1) := by decide +kernel
theorem dX7_relative_2 : decode cX7_relative 2 = .ok (.invokevirtual 153, 3) := by decide +kernel
theorem dX7_relative_5 : decode cX7_relative 5 = .ok (.ifCond .eq 32, 3) := by decide +kernel
theorem dX7_relative_8 : decode cX7_relative 8 = .ok (.aload_n 0, 1) := by decide +kernel
theorem dX7_relative_9 : decode cX7_relative 9 = .ok (.iload_n 2, 1) := by decide +kernel
theorem dX7_relative_10 : decode cX7_relative 10 = .ok (.invokevirtual 153, 3) := by decide +kernel
theorem dX7_relative_13 : decode cX7_relative 13 = .ok (.ifCond .eq 24, 3) := by decide +kernel
theorem dX7_relative_16 : decode cX7_relative 16 = .ok (.aload_n 0, 1) := by decide +kernel
theorem dX7_relative_17 : decode cX7_relative 17 = .ok (.iload_n 3, 1) := by decide +kernel
theorem dX7_relative_18 : decode cX7_relative 18 = .ok (.invokevirtual 156, 3) := by decide +kernel
theorem dX7_relative_21 : decode cX7_relative 21 = .ok (.ifCond .eq 16, 3) := by decide +kernel
theorem dX7_relative_24 : decode cX7_relative 24 = .ok (.aload_n 0, 1) := by decide +kernel
theorem dX7_relative_25 : decode cX7_relative 25 = .ok (.iload 4, 2) := by decide +kernel
theorem dX7_relative_27 : decode cX7_relative 27 = .ok (.invokevirtual 156, 3) := by decide +kernel
theorem dX7_relative_30 : decode cX7_relative 30 = .ok (.ifCond .eq 7, 3) := by decide +kernel
theorem dX7_relative_33 : decode cX7_relative 33 = .ok (.iconst 1, 1) := by decide +kernel
theorem dX7_relative_34 : decode cX7_relative 34 = .ok (.goto 4, 3) := by decide +kernel
theorem dX7_relative_37 : decode cX7_relative 37 = .ok (.iconst 0, 1) := by decide +kernel
theorem dX7_relative_38 : decode cX7_relative 38 = .ok (.istore 5, 2) := by decide +kernel
theorem dX7_relative_40 : decode cX7_relative 40 = .ok (.aload_n 0, 1) := by decide +kernel
theorem dX7_relative_41 : decode cX7_relative 41 = .ok (.iload 5, 2) := by decide +kernel
theorem dX7_relative_43 : decode cX7_relative 43 = .ok (.ifCond .eq 7, 3) := by decide +kernel
theorem dX7_relative_46 : decode cX7_relative 46 = .ok (.iconst 0, 1) := by decide +kernel
theorem dX7_relative_47 : decode cX7_relative 47 = .ok (.goto 4, 3) := by decide +kernel
theorem dX7_relative_50 : decode cX7_relative 50 = .ok (.iconst 1, 1) := by decide +kernel
theorem dX7_relative_51 : decode cX7_relative 51 = .ok (.invokevirtual 135, 3) := by decide +kernel
theorem dX7_relative_54 : decode cX7_relative 54 = .ok (.ifCond .ne 5, 3) := by decide +kernel
theorem dX7_relative_57 : decode cX7_relative 57 = .ok (.iconst 0, 1) := by decide +kernel
theorem dX7_relative_58 : decode cX7_relative 58 = .ok (.ireturn, 1) := by decide +kernel
theorem dX7_relative_59 : decode cX7_relative 59 = .ok (.aload_n 0, 1) := by decide +kernel
theorem dX7_relative_60 : decode cX7_relative 60 = .ok (.iload_n 1, 1) := by decide +kernel
theorem dX7_relative_61 : decode cX7_relative 61 = .ok (.iload_n 3, 1) := by decide +kernel
theorem dX7_relative_62 : decode cX7_relative 62 = .ok (.invokevirtual 250, 3) := by decide +kernel
theorem dX7_relative_65 : decode cX7_relative 65 = .ok (.i2l, 1) := by decide +kernel
theorem dX7_relative_66 : decode cX7_relative 66 = .ok (.aload_n 0, 1) := by decide +kernel
theorem dX7_relative_67 : decode cX7_relative 67 = .ok (.iload_n 2, 1) := by decide +kernel
theorem dX7_relative_68 : decode cX7_relative 68 = .ok (.iload 4, 2) := by decide +kernel
theorem dX7_relative_70 : decode cX7_relative 70 = .ok (.invokevirtual 250, 3) := by decide +kernel
theorem dX7_relative_73 : decode cX7_relative 73 = .ok (.i2l, 1) := by decide +kernel
theorem dX7_relative_74 : decode cX7_relative 74 = .ok (.lmul, 1) := by decide +kernel
theorem dX7_relative_75 : decode cX7_relative 75 = .ok (.lstore 6, 2) := by decide +kernel
theorem dX7_relative_77 : decode cX7_relative 77 = .ok (.lload 6, 2) := by decide +kernel
theorem dX7_relative_79 : decode cX7_relative 79 = .ok (.aload_n 0, 1) := by decide +kernel
theorem dX7_relative_80 : decode cX7_relative 80 = .ok (.iload_n 1, 1) := by decide +kernel
theorem dX7_relative_81 : decode cX7_relative 81 = .ok (.iload 4, 2) := by decide +kernel
theorem dX7_relative_83 : decode cX7_relative 83 = .ok (.invokevirtual 250, 3) := by decide +kernel
theorem dX7_relative_86 : decode cX7_relative 86 = .ok (.i2l, 1) := by decide +kernel
theorem dX7_relative_87 : decode cX7_relative 87 = .ok (.aload_n 0, 1) := by decide +kernel
theorem dX7_relative_88 : decode cX7_relative 88 = .ok (.iload_n 2, 1) := by decide +kernel
theorem dX7_relative_89 : decode cX7_relative 89 = .ok (.iload_n 3, 1) := by decide +kernel
theorem dX7_relative_90 : decode cX7_relative 90 = .ok (.invokevirtual 250, 3) := by decide +kernel
theorem dX7_relative_93 : decode cX7_relative 93 = .ok (.i2l, 1) := by decide +kernel
theorem dX7_relative_94 : decode cX7_relative 94 = .ok (.lmul, 1) := by decide +kernel
theorem dX7_relative_95 : decode cX7_relative 95 = .ok (.lsub, 1) := by decide +kernel
theorem dX7_relative_96 : decode cX7_relative 96 = .ok (.lstore 8, 2) := by decide +kernel
theorem dX7_relative_98 : decode cX7_relative 98 = .ok (.lload 8, 2) := by decide +kernel
theorem dX7_relative_100 : decode cX7_relative 100 = .ok (.lconst 0, 1) := by decide +kernel
theorem dX7_relative_101 : decode cX7_relative 101 = .ok (.lcmp, 1) := by decide +kernel
theorem dX7_relative_102 : decode cX7_relative 102 = .ok (.ifCond .ne 8, 3) := by decide +kernel
theorem dX7_relative_105 : decode cX7_relative 105 = .ok (.ldc 254, 2) := by decide +kernel
theorem dX7_relative_107 : decode cX7_relative 107 = .ok (.goto 13, 3) := by decide +kernel
theorem dX7_relative_110 : decode cX7_relative 110 = .ok (.ldc2_w 191, 3) := by decide +kernel
theorem dX7_relative_113 : decode cX7_relative 113 = .ok (.lload 6, 2) := by decide +kernel
theorem dX7_relative_115 : decode cX7_relative 115 = .ok (.lmul, 1) := by decide +kernel
theorem dX7_relative_116 : decode cX7_relative 116 = .ok (.lload 8, 2) := by decide +kernel
theorem dX7_relative_118 : decode cX7_relative 118 = .ok (.ldiv, 1) := by decide +kernel
theorem dX7_relative_119 : decode cX7_relative 119 = .ok (.l2i, 1) := by decide +kernel
theorem dX7_relative_120 : decode cX7_relative 120 = .ok (.ireturn, 1) := by decide +kernel
theorem dX7_now_0 : decode cX7_now 0 = .ok (.aload_n 0, 1) := by decide +kernel
theorem dX7_now_1 : decode cX7_now 1 = .ok (.iconst 0, 1) := by decide +kernel
theorem dX7_now_2 : decode cX7_now 2 = .ok (.putfield 117, 3) := by decide +kernel
theorem dX7_now_5 : decode cX7_now 5 = .ok (.aload_n 0, 1) := by decide +kernel
theorem dX7_now_6 : decode cX7_now 6 = .ok (.getfield 132, 3) := by decide +kernel
theorem dX7_now_9 : decode cX7_now 9 = .ok (.ireturn, 1) := by decide +kernel
