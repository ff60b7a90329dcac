set_option maxRecDepth 20000 in
theorem ggL_law_L_low : GoodIn wsL_law wsL_low := goodIn_r _ [104, 105] (by decide +kernel) (by decide +kernel)
set_option maxRecDepth 20000 in
theorem gL_law_L_low : GoodIn wsL_law (va_wsS RL 85 yL_low wsL_low) := goodIn_app (goodIn_of _ (by decide +kernel)) ggL_law_L_low
set_option maxRecDepth 100000 in
theorem hh_law_does_0 : GoodIn wsL_law [Cond.codeWith yL_does cL_does 7 (some .int) [(0, 287, 288, 74), (0, 287, 293, 77), (0, 287, 298, 79)]] := goodIn_r _ [108] rfl (by decide +kernel)
set_option maxRecDepth 100000 in
theorem hh_law_does_1 : GoodIn wsL_law wsL_does_r1 := goodIn_r _ [109, 110, 111, 4, 112, 113, 114, 2, 115, 116, 117, 19, 118, 119, 120, 121, 122, 123, 124, 125, 126, 127, 128, 129] (by decide +kernel) (by decide +kernel)
set_option maxRecDepth 100000 in
theorem hh_law_does_2 : GoodIn wsL_law wsL_does_r2 := goodIn_r _ [18, 130, 49, 131, 132, 133, 134, 36, 135, 136, 137, 138, 139, 140, 141, 142, 50, 52, 51, 53, 54, 143, 144, 145] (by decide +kernel) (by decide +kernel)
set_option maxRecDepth 100000 in
theorem hh_law_does_3 : GoodIn wsL_law wsL_does_r3 := goodIn_r _ [146, 147, 148, 149, 150, 151, 152, 153, 154, 155, 156, 157, 158, 159, 160, 161, 162, 163, 164, 165, 166, 167, 58, 168] (by decide +kernel) (by decide +kernel)
set_option maxRecDepth 100000 in
theorem hh_law_does_4 : GoodIn wsL_law wsL_does_r4 := goodIn_r _ [169, 13, 170, 171, 172, 173, 174, 175, 176, 177, 178, 179, 180, 181, 182, 183, 184, 185, 186, 187, 188, 189, 190, 191] (by decide +kernel) (by decide +kernel)
set_option maxRecDepth 100000 in
theorem hh_law_does_5 : GoodIn wsL_law wsL_does_r5 := goodIn_r _ [192, 193, 194, 195, 196, 197, 198, 199, 200, 201, 202, 203, 204, 205, 206, 207, 208, 209, 210, 211, 212, 213, 214, 215] (by decide +kernel) (by decide +kernel)
set_option maxRecDepth 100000 in
theorem hh_law_does_6 : GoodIn wsL_law wsL_does_r6 := goodIn_r _ [216, 217, 218, 219, 220, 221, 222, 31, 223, 224, 225, 30, 226, 89, 227, 228, 229, 230, 231, 232, 233, 234, 90, 91] (by decide +kernel) (by decide +kernel)
set_option maxRecDepth 100000 in
theorem hh_law_does_7 : GoodIn wsL_law wsL_does_r7 := goodIn_r _ [92, 235, 236, 237, 238, 23, 239, 240, 241, 242, 243, 244, 245, 22, 246, 63, 247, 248, 249, 250, 251, 252, 253, 254] (by decide +kernel) (by decide +kernel)
set_option maxRecDepth 100000 in
theorem hh_law_does_8 : GoodIn wsL_law wsL_does_r8 := goodIn_r _ [255, 256, 257, 258, 64, 73, 67, 71, 259, 260, 261, 262, 65, 66, 68, 69, 263, 264, 265, 266, 267, 268, 269, 270] (by decide +kernel) (by decide +kernel)
set_option maxRecDepth 100000 in
theorem hh_law_does_9 : GoodIn wsL_law wsL_does_r9 := goodIn_r _ [271, 272, 273, 274, 275, 276, 100, 277, 278, 279, 280, 281, 282, 283, 284, 285, 286, 287, 288, 289, 290, 291, 292, 293] (by decide +kernel) (by decide +kernel)
set_option maxRecDepth 100000 in
theorem hh_law_does_10 : GoodIn wsL_law wsL_does_r10 := goodIn_r _ [294, 295, 296, 297, 70, 298, 299, 300, 301, 302, 303, 304, 305, 306, 307, 308, 309, 310, 311, 312, 313, 314, 315, 316] (by decide +kernel) (by decide +kernel)
set_option maxRecDepth 100000 in
theorem hh_law_does_11 : GoodIn wsL_law wsL_does_r11 := goodIn_r _ [317, 57, 318, 319, 320, 321, 322, 323, 324, 325, 326, 327, 328, 329, 14, 37, 27, 35, 330, 331, 332, 333, 334, 335] (by decide +kernel) (by decide +kernel)
set_option maxRecDepth 100000 in
theorem hh_law_does_12 : GoodIn wsL_law wsL_does_r12 := goodIn_r _ [336, 337, 44, 338, 339, 340, 341, 342, 343, 344, 345, 346, 347, 76, 348, 349, 350, 351, 352, 77, 74, 75, 353, 354] (by decide +kernel) (by decide +kernel)
set_option maxRecDepth 100000 in
theorem hh_law_does_13 : GoodIn wsL_law wsL_does_r13 := goodIn_r _ [355, 356, 357, 358, 43, 359, 360, 361, 362, 363, 364, 365, 366, 367, 368, 369, 370, 371, 372, 373, 374, 72, 375, 376] (by decide +kernel) (by decide +kernel)
set_option maxRecDepth 100000 in
theorem hh_law_does_14 : GoodIn wsL_law wsL_does_r14 := goodIn_r _ [377, 26, 378, 82, 83, 84, 379, 380, 381, 382, 383, 384, 385, 386, 387, 388, 389, 390, 391, 392, 393, 394, 395, 396] (by decide +kernel) (by decide +kernel)
set_option maxRecDepth 100000 in
theorem hh_law_does_15 : GoodIn wsL_law wsL_does_r15 := goodIn_r _ [397, 398, 399, 400, 401, 402, 403, 404, 405, 406, 407, 408, 409, 410, 411, 412, 413, 55, 414, 415, 416, 417, 418, 419] (by decide +kernel) (by decide +kernel)
set_option maxRecDepth 100000 in
theorem hh_law_does_16 : GoodIn wsL_law wsL_does_r16 := goodIn_r _ [420, 421, 422, 423, 424, 425, 426, 427, 428, 429, 430, 431, 432, 433, 434, 435, 436, 437, 438, 439, 440, 441, 442, 443] (by decide +kernel) (by decide +kernel)
set_option maxRecDepth 100000 in
theorem hh_law_does_17 : GoodIn wsL_law wsL_does_r17 := goodIn_r _ [444, 445, 446, 447, 448, 449, 450, 34, 451, 97, 3, 452, 453, 454, 455, 456, 457, 458, 459, 460, 461, 462, 463, 464] (by decide +kernel) (by decide +kernel)
set_option maxRecDepth 100000 in
theorem hh_law_does_18 : GoodIn wsL_law wsL_does_r18 := goodIn_r _ [465, 466, 467, 468, 469, 470, 471, 472, 473, 474, 475, 476, 477, 478, 479, 480, 481, 482, 483, 484, 485, 486, 487, 488] (by decide +kernel) (by decide +kernel)
set_option maxRecDepth 100000 in
theorem hh_law_does_19 : GoodIn wsL_law wsL_does_r19 := goodIn_r _ [489, 490, 491, 492, 493, 494, 495, 496, 497, 498, 499, 500, 501, 502, 503, 504, 505, 506, 507, 508, 509, 510, 511, 512] (by decide +kernel) (by decide +kernel)
set_option maxRecDepth 100000 in
theorem hh_law_does_20 : GoodIn wsL_law wsL_does_r20 := goodIn_r _ [513, 514, 515, 516, 517, 518, 519, 15, 520, 521, 522, 523, 524, 525, 526, 527, 528, 529, 530] (by decide +kernel) (by decide +kernel)
set_option maxRecDepth 100000 in
theorem hh_law_does_c0 : GoodIn wsL_law (wsX60) := goodIn_sub (by decide +kernel) (by decide +kernel)
set_option maxRecDepth 100000 in
theorem hh_law_does_c1 : GoodIn wsL_law (wsX50) := goodIn_sub (by decide +kernel) (by decide +kernel)
set_option maxRecDepth 100000 in
theorem hh_law_does_c2 : GoodIn wsL_law (wsX20) := goodIn_sub (by decide +kernel) (by decide +kernel)
set_option maxRecDepth 100000 in
theorem hh_law_does_c3 : GoodIn wsL_law (wsX10) := goodIn_sub (by decide +kernel) (by decide +kernel)
set_option maxRecDepth 100000 in
theorem hh_law_does_c4 : GoodIn wsL_law (wsX30) := goodIn_sub (by decide +kernel) (by decide +kernel)
set_option maxRecDepth 100000 in
theorem hh_law_does_c5 : GoodIn wsL_law (wsX00) := goodIn_sub (by decide +kernel) (by decide +kernel)
set_option maxRecDepth 100000 in
theorem hh_law_does_c6 : GoodIn wsL_law (wsX40) := goodIn_sub (by decide +kernel) (by decide +kernel)
set_option maxRecDepth 100000 in
theorem hh_law_does_c7 : GoodIn wsL_law ((vx_atS RX6 70 "java/lang/IllegalArgumentException" ["java/lang/RuntimeException", "java/lang/Exception"]).filter goodWord) := goodIn_sub (by decide +kernel) (by decide +kernel)
set_option maxRecDepth 100000 in
theorem hh_law_does_c8 : GoodIn wsL_law ((vx_atS RX6 94 "java/lang/IllegalStateException" ["java/lang/RuntimeException", "java/lang/Exception"]).filter goodWord) := goodIn_sub (by decide +kernel) (by decide +kernel)
set_option maxRecDepth 100000 in
theorem hh_law_does_c9 : GoodIn wsL_law ((vx_atS RX6 225 "java/lang/IndexOutOfBoundsException" ["java/lang/RuntimeException", "java/lang/Exception"]).filter goodWord) := goodIn_sub (by decide +kernel) (by decide +kernel)
set_option maxRecDepth 100000 in
theorem ggL_law_L_does : GoodIn wsL_law wsL_does := goodIn_app hh_law_does_0 (goodIn_app (goodIn_app (goodIn_app (goodIn_app (goodIn_app (goodIn_app (goodIn_app (goodIn_app (goodIn_app (goodIn_app (goodIn_app hh_law_does_1 (goodIn_app hh_law_does_2 (goodIn_app hh_law_does_3 (goodIn_app hh_law_does_4 (goodIn_app hh_law_does_5 (goodIn_app hh_law_does_6 (goodIn_app hh_law_does_7 (goodIn_app hh_law_does_8 (goodIn_app hh_law_does_9 (goodIn_app hh_law_does_10 (goodIn_app hh_law_does_11 (goodIn_app hh_law_does_12 (goodIn_app hh_law_does_13 (goodIn_app hh_law_does_14 (goodIn_app hh_law_does_15 (goodIn_app hh_law_does_16 (goodIn_app hh_law_does_17 (goodIn_app hh_law_does_18 (goodIn_app hh_law_does_19 hh_law_does_20))))))))))))))))))) hh_law_does_c0) hh_law_does_c1) hh_law_does_c2) hh_law_does_c3) hh_law_does_c4) hh_law_does_c5) hh_law_does_c6) hh_law_does_c7) hh_law_does_c8) hh_law_does_c9)
set_option maxRecDepth 20000 in
theorem gL_law_L_does : GoodIn wsL_law (va_wsS RL 88 yL_does wsL_does) := goodIn_app (goodIn_of _ (by decide +kernel)) ggL_law_L_does
set_option maxRecDepth 100000 in
theorem hh_law_act_0 : GoodIn wsL_law [Cond.code yL_act cL_act 10 (some .int)] := goodIn_r _ [533] rfl (by decide +kernel)
set_option maxRecDepth 100000 in
theorem hh_law_act_1 : GoodIn wsL_law wsL_act_r1 := goodIn_r _ [102, 103, 100, 104, 105, 106, 107, 108, 109, 110, 111, 4, 112, 113, 114, 2, 115, 116, 117, 19, 118, 119, 120, 121] (by decide +kernel) (by decide +kernel)
set_option maxRecDepth 100000 in
theorem hh_law_act_2 : GoodIn wsL_law wsL_act_r2 := goodIn_r _ [122, 123, 124, 125, 126, 127, 128, 129, 18, 130, 49, 131, 132, 133, 134, 36, 135, 136, 137, 138, 139, 140, 141, 142] (by decide +kernel) (by decide +kernel)
set_option maxRecDepth 100000 in
theorem hh_law_act_3 : GoodIn wsL_law wsL_act_r3 := goodIn_r _ [50, 52, 51, 53, 54, 143, 144, 145, 146, 147, 148, 149, 150, 151, 152, 153, 154, 155, 156, 157, 158, 159, 160, 161] (by decide +kernel) (by decide +kernel)
set_option maxRecDepth 100000 in
theorem hh_law_act_4 : GoodIn wsL_law wsL_act_r4 := goodIn_r _ [162, 163, 164, 165, 166, 167, 58, 168, 169, 13, 170, 171, 172, 173, 174, 175, 176, 177, 178, 179, 180, 181, 182, 183] (by decide +kernel) (by decide +kernel)
set_option maxRecDepth 100000 in
theorem hh_law_act_5 : GoodIn wsL_law wsL_act_r5 := goodIn_r _ [184, 185, 186, 187, 188, 189, 190, 191, 192, 193, 194, 195, 196, 197, 198, 199, 200, 201, 202, 203, 204, 205, 206, 207] (by decide +kernel) (by decide +kernel)
set_option maxRecDepth 100000 in
theorem hh_law_act_6 : GoodIn wsL_law wsL_act_r6 := goodIn_r _ [208, 209, 210, 211, 212, 213, 214, 215, 216, 217, 218, 219, 220, 221, 222, 31, 223, 224, 225, 30, 226, 89, 227, 228] (by decide +kernel) (by decide +kernel)
set_option maxRecDepth 100000 in
theorem hh_law_act_7 : GoodIn wsL_law wsL_act_r7 := goodIn_r _ [229, 230, 231, 232, 233, 234, 90, 91, 92, 235, 236, 237, 238, 23, 239, 240, 241, 242, 243, 244, 245, 22, 246, 63] (by decide +kernel) (by decide +kernel)
set_option maxRecDepth 100000 in
theorem hh_law_act_8 : GoodIn wsL_law wsL_act_r8 := goodIn_r _ [247, 248, 249, 250, 251, 252, 253, 254, 255, 256, 257, 258, 64, 73, 67, 71, 259, 260, 261, 262, 65, 66, 68, 69] (by decide +kernel) (by decide +kernel)
set_option maxRecDepth 100000 in
theorem hh_law_act_9 : GoodIn wsL_law wsL_act_r9 := goodIn_r _ [263, 264, 265, 266, 267, 268, 269, 270, 271, 272, 273, 274, 275, 276, 277, 278, 279, 280, 281, 282, 283, 284, 285, 286] (by decide +kernel) (by decide +kernel)
set_option maxRecDepth 100000 in
theorem hh_law_act_10 : GoodIn wsL_law wsL_act_r10 := goodIn_r _ [287, 288, 289, 290, 291, 292, 293, 294, 295, 296, 297, 70, 298, 299, 300, 301, 302, 303, 304, 305, 306, 307, 308, 309] (by decide +kernel) (by decide +kernel)
set_option maxRecDepth 100000 in
theorem hh_law_act_11 : GoodIn wsL_law wsL_act_r11 := goodIn_r _ [310, 311, 312, 313, 314, 315, 316, 317, 57, 318, 319, 320, 321, 322, 323, 324, 325, 326, 327, 328, 329, 14, 37, 27] (by decide +kernel) (by decide +kernel)
set_option maxRecDepth 100000 in
theorem hh_law_act_12 : GoodIn wsL_law wsL_act_r12 := goodIn_r _ [35, 330, 331, 332, 333, 334, 335, 336, 337, 44, 338, 339, 340, 341, 342, 343, 344, 345, 346, 347, 76, 348, 349, 350] (by decide +kernel) (by decide +kernel)
set_option maxRecDepth 100000 in
theorem hh_law_act_13 : GoodIn wsL_law wsL_act_r13 := goodIn_r _ [351, 352, 77, 74, 75, 353, 354, 355, 356, 357, 358, 43, 359, 360, 361, 362, 363, 364, 365, 366, 367, 368, 369, 370] (by decide +kernel) (by decide +kernel)
set_option maxRecDepth 100000 in
theorem hh_law_act_14 : GoodIn wsL_law wsL_act_r14 := goodIn_r _ [371, 372, 373, 374, 72, 375, 376, 377, 26, 378, 82, 83, 84, 379, 380, 381, 382, 383, 384, 385, 386, 387, 388, 389] (by decide +kernel) (by decide +kernel)
set_option maxRecDepth 100000 in
theorem hh_law_act_15 : GoodIn wsL_law wsL_act_r15 := goodIn_r _ [390, 391, 392, 393, 394, 395, 396, 397, 398, 399, 400, 401, 402, 403, 404, 405, 406, 407, 408, 409, 410, 411, 412, 413] (by decide +kernel) (by decide +kernel)
set_option maxRecDepth 100000 in
theorem hh_law_act_16 : GoodIn wsL_law wsL_act_r16 := goodIn_r _ [55, 414, 415, 416, 417, 418, 419, 420, 421, 422, 423, 424, 425, 426, 427, 428, 429, 430, 431, 432, 433, 434, 435, 436] (by decide +kernel) (by decide +kernel)
set_option maxRecDepth 100000 in
theorem hh_law_act_17 : GoodIn wsL_law wsL_act_r17 := goodIn_r _ [437, 438, 439, 440, 441, 442, 443, 444, 445, 446, 447, 448, 449, 450, 34, 451, 97, 3, 452, 453, 454, 455, 456, 457] (by decide +kernel) (by decide +kernel)
set_option maxRecDepth 100000 in
theorem hh_law_act_18 : GoodIn wsL_law wsL_act_r18 := goodIn_r _ [458, 459, 460, 461, 462, 463, 464, 465, 466, 467, 468, 469, 470, 471, 472, 473, 474, 475, 476, 477, 478, 479, 480, 481] (by decide +kernel) (by decide +kernel)
set_option maxRecDepth 100000 in
theorem hh_law_act_19 : GoodIn wsL_law wsL_act_r19 := goodIn_r _ [482, 483, 484, 485, 486, 487, 488, 489, 490, 491, 492, 493, 494, 495, 496, 497, 498, 499, 500, 501, 502, 503, 504, 505] (by decide +kernel) (by decide +kernel)
set_option maxRecDepth 100000 in
theorem hh_law_act_20 : GoodIn wsL_law wsL_act_r20 := goodIn_r _ [506, 507, 508, 509, 510, 511, 512, 513, 514, 515, 516, 517, 518, 519, 15, 520, 521, 522, 523, 524, 525, 526, 527, 528] (by decide +kernel) (by decide +kernel)
set_option maxRecDepth 100000 in
theorem hh_law_act_21 : GoodIn wsL_law wsL_act_r21 := goodIn_r _ [529, 530] (by decide +kernel) (by decide +kernel)
set_option maxRecDepth 100000 in
theorem hh_law_act_c0 : GoodIn wsL_law (wsX60) := goodIn_sub (by decide +kernel) (by decide +kernel)
set_option maxRecDepth 100000 in
theorem hh_law_act_c1 : GoodIn wsL_law (wsX50) := goodIn_sub (by decide +kernel) (by decide +kernel)
set_option maxRecDepth 100000 in
theorem hh_law_act_c2 : GoodIn wsL_law (wsX20) := goodIn_sub (by decide +kernel) (by decide +kernel)
set_option maxRecDepth 100000 in
theorem hh_law_act_c3 : GoodIn wsL_law (wsX10) := goodIn_sub (by decide +kernel) (by decide +kernel)
set_option maxRecDepth 100000 in
theorem hh_law_act_c4 : GoodIn wsL_law (wsX30) := goodIn_sub (by decide +kernel) (by decide +kernel)
set_option maxRecDepth 100000 in
theorem hh_law_act_c5 : GoodIn wsL_law (wsX00) := goodIn_sub (by decide +kernel) (by decide +kernel)
set_option maxRecDepth 100000 in
theorem hh_law_act_c6 : GoodIn wsL_law (wsX40) := goodIn_sub (by decide +kernel) (by decide +kernel)
set_option maxRecDepth 100000 in
theorem hh_law_act_c7 : GoodIn wsL_law ((vx_atS RX6 70 "java/lang/IllegalArgumentException" ["java/lang/RuntimeException", "java/lang/Exception"]).filter goodWord) := goodIn_sub (by decide +kernel) (by decide +kernel)
set_option maxRecDepth 100000 in
theorem hh_law_act_c8 : GoodIn wsL_law ((vx_atS RX6 94 "java/lang/IllegalStateException" ["java/lang/RuntimeException", "java/lang/Exception"]).filter goodWord) := goodIn_sub (by decide +kernel) (by decide +kernel)
set_option maxRecDepth 100000 in
theorem hh_law_act_c9 : GoodIn wsL_law ((vx_atS RX6 225 "java/lang/IndexOutOfBoundsException" ["java/lang/RuntimeException", "java/lang/Exception"]).filter goodWord) := goodIn_sub (by decide +kernel) (by decide +kernel)
set_option maxRecDepth 100000 in
theorem ggL_law_L_act : GoodIn wsL_law wsL_act := goodIn_app hh_law_act_0 (goodIn_app (goodIn_app (goodIn_app (goodIn_app (goodIn_app (goodIn_app (goodIn_app (goodIn_app (goodIn_app (goodIn_app (goodIn_app hh_law_act_1 (goodIn_app hh_law_act_2 (goodIn_app hh_law_act_3 (goodIn_app hh_law_act_4 (goodIn_app hh_law_act_5 (goodIn_app hh_law_act_6 (goodIn_app hh_law_act_7 (goodIn_app hh_law_act_8 (goodIn_app hh_law_act_9 (goodIn_app hh_law_act_10 (goodIn_app hh_law_act_11 (goodIn_app hh_law_act_12 (goodIn_app hh_law_act_13 (goodIn_app hh_law_act_14 (goodIn_app hh_law_act_15 (goodIn_app hh_law_act_16 (goodIn_app hh_law_act_17 (goodIn_app hh_law_act_18 (goodIn_app hh_law_act_19 (goodIn_app hh_law_act_20 hh_law_act_21)))))))))))))))))))) hh_law_act_c0) hh_law_act_c1) hh_law_act_c2) hh_law_act_c3) hh_law_act_c4) hh_law_act_c5) hh_law_act_c6) hh_law_act_c7) hh_law_act_c8) hh_law_act_c9)
set_option maxRecDepth 20000 in
theorem gL_law_L_act : GoodIn wsL_law (va_wsS RL 112 yL_act wsL_act) := goodIn_app (goodIn_of _ (by decide +kernel)) ggL_law_L_act
set_option maxRecDepth 100000 in
theorem hh_law_areAlike_0 : GoodIn wsL_law [Cond.code yL_areAlike cL_areAlike 6 (some .boolean)] := goodIn_r _ [536] rfl (by decide +kernel)
set_option maxRecDepth 100000 in
theorem hh_law_areAlike_1 : GoodIn wsL_law wsL_areAlike_r1 := goodIn_r _ [537, 538, 539, 2, 540, 36, 541, 542, 543, 544, 27, 545, 546, 547, 26, 548, 82, 106, 107, 100, 108, 109, 110, 111] (by decide +kernel) (by decide +kernel)
set_option maxRecDepth 100000 in
theorem hh_law_areAlike_2 : GoodIn wsL_law wsL_areAlike_r2 := goodIn_r _ [4, 112, 113, 114, 115, 116, 117, 19, 118, 119, 120, 121, 122, 123, 124, 125, 126, 127, 128, 129, 18, 130, 49, 131] (by decide +kernel) (by decide +kernel)
set_option maxRecDepth 100000 in
theorem hh_law_areAlike_3 : GoodIn wsL_law wsL_areAlike_r3 := goodIn_r _ [132, 133, 134, 135, 136, 137, 138, 139, 140, 141, 142, 50, 52, 51, 53, 54, 143, 144, 145, 146, 147, 148, 149, 150] (by decide +kernel) (by decide +kernel)
set_option maxRecDepth 100000 in
theorem hh_law_areAlike_4 : GoodIn wsL_law wsL_areAlike_r4 := goodIn_r _ [151, 152, 153, 154, 155, 156, 157, 158, 159, 160, 161, 162, 163, 164, 165, 166, 167, 58, 168, 169, 13, 170, 171, 172] (by decide +kernel) (by decide +kernel)
set_option maxRecDepth 100000 in
theorem hh_law_areAlike_5 : GoodIn wsL_law wsL_areAlike_r5 := goodIn_r _ [173, 174, 175, 176, 177, 178, 179, 180, 181, 182, 183, 184, 185, 186, 187, 188, 189, 190, 191, 192, 193, 194, 195, 196] (by decide +kernel) (by decide +kernel)
set_option maxRecDepth 100000 in
theorem hh_law_areAlike_6 : GoodIn wsL_law wsL_areAlike_r6 := goodIn_r _ [197, 198, 199, 200, 201, 202, 203, 204, 205, 206, 207, 208, 209, 210, 211, 212, 213, 214, 215, 216, 217, 218, 219, 220] (by decide +kernel) (by decide +kernel)
set_option maxRecDepth 100000 in
theorem hh_law_areAlike_7 : GoodIn wsL_law wsL_areAlike_r7 := goodIn_r _ [221, 222, 31, 223, 224, 225, 30, 226, 89, 227, 228, 229, 230, 231, 232, 233, 234, 90, 91, 92, 235, 236, 237, 238] (by decide +kernel) (by decide +kernel)
set_option maxRecDepth 100000 in
theorem hh_law_areAlike_8 : GoodIn wsL_law wsL_areAlike_r8 := goodIn_r _ [23, 239, 240, 241, 242, 243, 244, 245, 22, 246, 63, 247, 248, 249, 250, 251, 252, 253, 254, 255, 256, 257, 258, 64] (by decide +kernel) (by decide +kernel)
set_option maxRecDepth 100000 in
theorem hh_law_areAlike_9 : GoodIn wsL_law wsL_areAlike_r9 := goodIn_r _ [73, 67, 71, 259, 260, 261, 262, 65, 66, 68, 69, 263, 264, 265, 266, 267, 268, 269, 270, 271, 272, 273, 274, 275] (by decide +kernel) (by decide +kernel)
set_option maxRecDepth 100000 in
theorem hh_law_areAlike_10 : GoodIn wsL_law wsL_areAlike_r10 := goodIn_r _ [276, 277, 278, 279, 280, 281, 282, 283, 284, 285, 286, 287, 288, 289, 290, 291, 292, 293, 294, 295, 296, 297, 70, 298] (by decide +kernel) (by decide +kernel)
set_option maxRecDepth 100000 in
theorem hh_law_areAlike_11 : GoodIn wsL_law wsL_areAlike_r11 := goodIn_r _ [299, 300, 301, 302, 303, 304, 305, 306, 307, 308, 309, 310, 311, 312, 313, 314, 315, 316, 317, 57, 318, 319, 320, 321] (by decide +kernel) (by decide +kernel)
set_option maxRecDepth 100000 in
theorem hh_law_areAlike_12 : GoodIn wsL_law wsL_areAlike_r12 := goodIn_r _ [322, 323, 324, 325, 326, 327, 328, 329, 14, 37, 35, 330, 331, 332, 333, 334, 335, 336, 337, 44, 338, 339, 340, 341] (by decide +kernel) (by decide +kernel)
set_option maxRecDepth 100000 in
theorem hh_law_areAlike_13 : GoodIn wsL_law wsL_areAlike_r13 := goodIn_r _ [342, 343, 344, 345, 346, 347, 76, 348, 349, 350, 351, 352, 77, 74, 75, 353, 354, 355, 356, 357, 358, 43, 359, 360] (by decide +kernel) (by decide +kernel)
set_option maxRecDepth 100000 in
theorem hh_law_areAlike_14 : GoodIn wsL_law wsL_areAlike_r14 := goodIn_r _ [361, 362, 363, 364, 365, 366, 367, 368, 369, 370, 371, 372, 373, 374, 72, 375, 376, 377, 378, 83, 84, 379, 380, 381] (by decide +kernel) (by decide +kernel)
set_option maxRecDepth 100000 in
theorem hh_law_areAlike_15 : GoodIn wsL_law wsL_areAlike_r15 := goodIn_r _ [382, 383, 384, 385, 386, 387, 388, 389, 390, 391, 392, 393, 394, 395, 396, 397, 398, 399, 400, 401, 402, 403, 404, 405] (by decide +kernel) (by decide +kernel)
set_option maxRecDepth 100000 in
theorem hh_law_areAlike_16 : GoodIn wsL_law wsL_areAlike_r16 := goodIn_r _ [406, 407, 408, 409, 410, 411, 412, 413, 55, 414, 415, 416, 417, 418, 419, 420, 421, 422, 423, 424, 425, 426, 427, 428] (by decide +kernel) (by decide +kernel)
set_option maxRecDepth 100000 in
theorem hh_law_areAlike_17 : GoodIn wsL_law wsL_areAlike_r17 := goodIn_r _ [429, 430, 431, 432, 433, 434, 435, 436, 437, 438, 439, 440, 441, 442, 443, 444, 445, 446, 447, 448, 449, 450, 34, 451] (by decide +kernel) (by decide +kernel)
set_option maxRecDepth 100000 in
theorem hh_law_areAlike_18 : GoodIn wsL_law wsL_areAlike_r18 := goodIn_r _ [97, 3, 452, 453, 454, 455, 456, 457, 458, 459, 460, 461, 462, 463, 464, 465, 466, 467, 468, 469, 470, 471, 472, 473] (by decide +kernel) (by decide +kernel)
set_option maxRecDepth 100000 in
theorem hh_law_areAlike_19 : GoodIn wsL_law wsL_areAlike_r19 := goodIn_r _ [474, 475, 476, 477, 478, 479, 480, 481, 482, 483, 484, 485, 486, 487, 488, 489, 490, 491, 492, 493, 494, 495, 496, 497] (by decide +kernel) (by decide +kernel)
set_option maxRecDepth 100000 in
theorem hh_law_areAlike_20 : GoodIn wsL_law wsL_areAlike_r20 := goodIn_r _ [498, 499, 500, 501, 502, 503, 504, 505, 506, 507, 508, 509, 510, 511, 512, 513, 514, 515, 516, 517, 518, 519, 15, 520] (by decide +kernel) (by decide +kernel)
set_option maxRecDepth 100000 in
theorem hh_law_areAlike_21 : GoodIn wsL_law wsL_areAlike_r21 := goodIn_r _ [521, 522, 523, 524, 525, 526, 527, 528, 529, 530, 102, 103, 104, 105] (by decide +kernel) (by decide +kernel)
set_option maxRecDepth 100000 in
theorem hh_law_areAlike_c0 : GoodIn wsL_law (wsX60) := goodIn_sub (by decide +kernel) (by decide +kernel)
set_option maxRecDepth 100000 in
theorem hh_law_areAlike_c1 : GoodIn wsL_law (wsX00) := goodIn_sub (by decide +kernel) (by decide +kernel)
set_option maxRecDepth 100000 in
theorem hh_law_areAlike_c2 : GoodIn wsL_law (wsX50) := goodIn_sub (by decide +kernel) (by decide +kernel)
set_option maxRecDepth 100000 in
theorem hh_law_areAlike_c3 : GoodIn wsL_law (wsX20) := goodIn_sub (by decide +kernel) (by decide +kernel)
set_option maxRecDepth 100000 in
theorem hh_law_areAlike_c4 : GoodIn wsL_law (wsX10) := goodIn_sub (by decide +kernel) (by decide +kernel)
set_option maxRecDepth 100000 in
theorem hh_law_areAlike_c5 : GoodIn wsL_law (wsX30) := goodIn_sub (by decide +kernel) (by decide +kernel)
set_option maxRecDepth 100000 in
theorem hh_law_areAlike_c6 : GoodIn wsL_law (wsX40) := goodIn_sub (by decide +kernel) (by decide +kernel)
set_option maxRecDepth 100000 in
theorem hh_law_areAlike_c7 : GoodIn wsL_law ((vx_atS RX6 70 "java/lang/IllegalArgumentException" ["java/lang/RuntimeException", "java/lang/Exception"]).filter goodWord) := goodIn_sub (by decide +kernel) (by decide +kernel)
set_option maxRecDepth 100000 in
theorem hh_law_areAlike_c8 : GoodIn wsL_law ((vx_atS RX6 94 "java/lang/IllegalStateException" ["java/lang/RuntimeException", "java/lang/Exception"]).filter goodWord) := goodIn_sub (by decide +kernel) (by decide +kernel)
set_option maxRecDepth 100000 in
theorem hh_law_areAlike_c9 : GoodIn wsL_law ((vx_atS RX6 225 "java/lang/IndexOutOfBoundsException" ["java/lang/RuntimeException", "java/lang/Exception"]).filter goodWord) := goodIn_sub (by decide +kernel) (by decide +kernel)
set_option maxRecDepth 100000 in
theorem ggL_law_L_areAlike : GoodIn wsL_law wsL_areAlike := goodIn_app hh_law_areAlike_0 (goodIn_app (goodIn_app (goodIn_app (goodIn_app (goodIn_app (goodIn_app (goodIn_app (goodIn_app (goodIn_app (goodIn_app (goodIn_app hh_law_areAlike_1 (goodIn_app hh_law_areAlike_2 (goodIn_app hh_law_areAlike_3 (goodIn_app hh_law_areAlike_4 (goodIn_app hh_law_areAlike_5 (goodIn_app hh_law_areAlike_6 (goodIn_app hh_law_areAlike_7 (goodIn_app hh_law_areAlike_8 (goodIn_app hh_law_areAlike_9 (goodIn_app hh_law_areAlike_10 (goodIn_app hh_law_areAlike_11 (goodIn_app hh_law_areAlike_12 (goodIn_app hh_law_areAlike_13 (goodIn_app hh_law_areAlike_14 (goodIn_app hh_law_areAlike_15 (goodIn_app hh_law_areAlike_16 (goodIn_app hh_law_areAlike_17 (goodIn_app hh_law_areAlike_18 (goodIn_app hh_law_areAlike_19 (goodIn_app hh_law_areAlike_20 hh_law_areAlike_21)))))))))))))))))))) hh_law_areAlike_c0) hh_law_areAlike_c1) hh_law_areAlike_c2) hh_law_areAlike_c3) hh_law_areAlike_c4) hh_law_areAlike_c5) hh_law_areAlike_c6) hh_law_areAlike_c7) hh_law_areAlike_c8) hh_law_areAlike_c9)
set_option maxRecDepth 20000 in
theorem gL_law_L_areAlike : GoodIn wsL_law (va_wsS RL 116 yL_areAlike wsL_areAlike) := goodIn_app (goodIn_of _ (by decide +kernel)) ggL_law_L_areAlike
set_option maxRecDepth 100000 in
theorem hh_law_isInOrder_0 : GoodIn wsL_law [Cond.code yL_isInOrder cL_isInOrder 7 (some .boolean)] := goodIn_r _ [551] rfl (by decide +kernel)
set_option maxRecDepth 100000 in
theorem hh_law_isInOrder_1 : GoodIn wsL_law wsL_isInOrder_r1 := goodIn_r _ [4, 552, 553, 554, 555, 556, 557, 558, 2, 559, 19, 14, 37, 330, 331, 332, 18, 333, 58, 334, 335, 336, 13, 337] (by decide +kernel) (by decide +kernel)
set_option maxRecDepth 100000 in
theorem hh_law_isInOrder_2 : GoodIn wsL_law wsL_isInOrder_r2 := goodIn_r _ [44, 338, 169, 170, 560, 561, 562, 563, 49, 50, 564, 565, 566, 567, 568, 569, 570, 571, 55, 106, 107, 100, 108, 109] (by decide +kernel) (by decide +kernel)
set_option maxRecDepth 100000 in
theorem hh_law_isInOrder_3 : GoodIn wsL_law wsL_isInOrder_r3 := goodIn_r _ [110, 111, 112, 113, 114, 115, 116, 117, 118, 119, 120, 121, 122, 123, 124, 125, 126, 127, 128, 129, 130, 131, 132, 133] (by decide +kernel) (by decide +kernel)
set_option maxRecDepth 100000 in
theorem hh_law_isInOrder_4 : GoodIn wsL_law wsL_isInOrder_r4 := goodIn_r _ [134, 36, 135, 136, 137, 138, 139, 140, 141, 142, 52, 51, 53, 54, 143, 144, 145, 146, 147, 148, 149, 150, 151, 152] (by decide +kernel) (by decide +kernel)
set_option maxRecDepth 100000 in
theorem hh_law_isInOrder_5 : GoodIn wsL_law wsL_isInOrder_r5 := goodIn_r _ [153, 154, 155, 156, 157, 158, 159, 160, 161, 162, 163, 164, 165, 166, 167, 168, 171, 172, 173, 174, 175, 176, 177, 178] (by decide +kernel) (by decide +kernel)
set_option maxRecDepth 100000 in
theorem hh_law_isInOrder_6 : GoodIn wsL_law wsL_isInOrder_r6 := goodIn_r _ [179, 180, 181, 182, 183, 184, 185, 186, 187, 188, 189, 190, 191, 192, 193, 194, 195, 196, 197, 198, 199, 200, 201, 202] (by decide +kernel) (by decide +kernel)
set_option maxRecDepth 100000 in
theorem hh_law_isInOrder_7 : GoodIn wsL_law wsL_isInOrder_r7 := goodIn_r _ [203, 204, 205, 206, 207, 208, 209, 210, 211, 212, 213, 214, 215, 216, 217, 218, 219, 220, 221, 222, 31, 223, 224, 225] (by decide +kernel) (by decide +kernel)
set_option maxRecDepth 100000 in
theorem hh_law_isInOrder_8 : GoodIn wsL_law wsL_isInOrder_r8 := goodIn_r _ [30, 226, 89, 227, 228, 229, 230, 231, 232, 233, 234, 90, 91, 92, 235, 236, 237, 238, 23, 239, 240, 241, 242, 243] (by decide +kernel) (by decide +kernel)
set_option maxRecDepth 100000 in
theorem hh_law_isInOrder_9 : GoodIn wsL_law wsL_isInOrder_r9 := goodIn_r _ [244, 245, 22, 246, 63, 247, 248, 249, 250, 251, 252, 253, 254, 255, 256, 257, 258, 64, 73, 67, 71, 259, 260, 261] (by decide +kernel) (by decide +kernel)
set_option maxRecDepth 100000 in
theorem hh_law_isInOrder_10 : GoodIn wsL_law wsL_isInOrder_r10 := goodIn_r _ [262, 65, 66, 68, 69, 263, 264, 265, 266, 267, 268, 269, 270, 271, 272, 273, 274, 275, 276, 277, 278, 279, 280, 281] (by decide +kernel) (by decide +kernel)
set_option maxRecDepth 100000 in
theorem hh_law_isInOrder_11 : GoodIn wsL_law wsL_isInOrder_r11 := goodIn_r _ [282, 283, 284, 285, 286, 287, 288, 289, 290, 291, 292, 293, 294, 295, 296, 297, 70, 298, 299, 300, 301, 302, 303, 304] (by decide +kernel) (by decide +kernel)
set_option maxRecDepth 100000 in
theorem hh_law_isInOrder_12 : GoodIn wsL_law wsL_isInOrder_r12 := goodIn_r _ [305, 306, 307, 308, 309, 310, 311, 312, 313, 314, 315, 316, 317, 57, 318, 319, 320, 321, 322, 323, 324, 325, 326, 327] (by decide +kernel) (by decide +kernel)
set_option maxRecDepth 100000 in
theorem hh_law_isInOrder_13 : GoodIn wsL_law wsL_isInOrder_r13 := goodIn_r _ [328, 329, 27, 35, 339, 340, 341, 342, 343, 344, 345, 346, 347, 76, 348, 349, 350, 351, 352, 77, 74, 75, 353, 354] (by decide +kernel) (by decide +kernel)
set_option maxRecDepth 100000 in
theorem hh_law_isInOrder_14 : GoodIn wsL_law wsL_isInOrder_r14 := goodIn_r _ [355, 356, 357, 358, 43, 359, 360, 361, 362, 363, 364, 365, 366, 367, 368, 369, 370, 371, 372, 373, 374, 72, 375, 376] (by decide +kernel) (by decide +kernel)
set_option maxRecDepth 100000 in
theorem hh_law_isInOrder_15 : GoodIn wsL_law wsL_isInOrder_r15 := goodIn_r _ [377, 26, 378, 82, 83, 84, 379, 380, 381, 382, 383, 384, 385, 386, 387, 388, 389, 390, 391, 392, 393, 394, 395, 396] (by decide +kernel) (by decide +kernel)
set_option maxRecDepth 100000 in
theorem hh_law_isInOrder_16 : GoodIn wsL_law wsL_isInOrder_r16 := goodIn_r _ [397, 398, 399, 400, 401, 402, 403, 404, 405, 406, 407, 408, 409, 410, 411, 412, 413, 414, 415, 416, 417, 418, 419, 420] (by decide +kernel) (by decide +kernel)
set_option maxRecDepth 100000 in
theorem hh_law_isInOrder_17 : GoodIn wsL_law wsL_isInOrder_r17 := goodIn_r _ [421, 422, 423, 424, 425, 426, 427, 428, 429, 430, 431, 432, 433, 434, 435, 436, 437, 438, 439, 440, 441, 442, 443, 444] (by decide +kernel) (by decide +kernel)
set_option maxRecDepth 100000 in
theorem hh_law_isInOrder_18 : GoodIn wsL_law wsL_isInOrder_r18 := goodIn_r _ [445, 446, 447, 448, 449, 450, 34, 451, 97, 3, 452, 453, 454, 455, 456, 457, 458, 459, 460, 461, 462, 463, 464, 465] (by decide +kernel) (by decide +kernel)
set_option maxRecDepth 100000 in
theorem hh_law_isInOrder_19 : GoodIn wsL_law wsL_isInOrder_r19 := goodIn_r _ [466, 467, 468, 469, 470, 471, 472, 473, 474, 475, 476, 477, 478, 479, 480, 481, 482, 483, 484, 485, 486, 487, 488, 489] (by decide +kernel) (by decide +kernel)
set_option maxRecDepth 100000 in
theorem hh_law_isInOrder_20 : GoodIn wsL_law wsL_isInOrder_r20 := goodIn_r _ [490, 491, 492, 493, 494, 495, 496, 497, 498, 499, 500, 501, 502, 503, 504, 505, 506, 507, 508, 509, 510, 511, 512, 513] (by decide +kernel) (by decide +kernel)
set_option maxRecDepth 100000 in
theorem hh_law_isInOrder_21 : GoodIn wsL_law wsL_isInOrder_r21 := goodIn_r _ [514, 515, 516, 517, 518, 519, 15, 520, 521, 522, 523, 524, 525, 526, 527, 528, 529, 530, 537, 538, 539, 540] (by decide +kernel) (by decide +kernel)
set_option maxRecDepth 100000 in
theorem hh_law_isInOrder_c0 : GoodIn wsL_law (wsX60) := goodIn_sub (by decide +kernel) (by decide +kernel)
set_option maxRecDepth 100000 in
theorem hh_law_isInOrder_c1 : GoodIn wsL_law (wsX50) := goodIn_sub (by decide +kernel) (by decide +kernel)
set_option maxRecDepth 100000 in
theorem hh_law_isInOrder_c2 : GoodIn wsL_law (wsX30) := goodIn_sub (by decide +kernel) (by decide +kernel)
set_option maxRecDepth 100000 in
theorem hh_law_isInOrder_c3 : GoodIn wsL_law (wsX20) := goodIn_sub (by decide +kernel) (by decide +kernel)
set_option maxRecDepth 100000 in
theorem hh_law_isInOrder_c4 : GoodIn wsL_law (wsX10) := goodIn_sub (by decide +kernel) (by decide +kernel)
set_option maxRecDepth 100000 in
theorem hh_law_isInOrder_c5 : GoodIn wsL_law (wsX00) := goodIn_sub (by decide +kernel) (by decide +kernel)
set_option maxRecDepth 100000 in
theorem hh_law_isInOrder_c6 : GoodIn wsL_law (wsX40) := goodIn_sub (by decide +kernel) (by decide +kernel)
set_option maxRecDepth 100000 in
theorem hh_law_isInOrder_c7 : GoodIn wsL_law ((vx_atS RX6 70 "java/lang/IllegalArgumentException" ["java/lang/RuntimeException", "java/lang/Exception"]).filter goodWord) := goodIn_sub (by decide +kernel) (by decide +kernel)
set_option maxRecDepth 100000 in
theorem hh_law_isInOrder_c8 : GoodIn wsL_law ((vx_atS RX6 94 "java/lang/IllegalStateException" ["java/lang/RuntimeException", "java/lang/Exception"]).filter goodWord) := goodIn_sub (by decide +kernel) (by decide +kernel)
set_option maxRecDepth 100000 in
theorem hh_law_isInOrder_c9 : GoodIn wsL_law ((vx_atS RX6 225 "java/lang/IndexOutOfBoundsException" ["java/lang/RuntimeException", "java/lang/Exception"]).filter goodWord) := goodIn_sub (by decide +kernel) (by decide +kernel)
set_option maxRecDepth 100000 in
theorem ggL_law_L_isInOrder : GoodIn wsL_law wsL_isInOrder := goodIn_app hh_law_isInOrder_0 (goodIn_app (goodIn_app (goodIn_app (goodIn_app (goodIn_app (goodIn_app (goodIn_app (goodIn_app (goodIn_app (goodIn_app (goodIn_app hh_law_isInOrder_1 (goodIn_app hh_law_isInOrder_2 (goodIn_app hh_law_isInOrder_3 (goodIn_app hh_law_isInOrder_4 (goodIn_app hh_law_isInOrder_5 (goodIn_app hh_law_isInOrder_6 (goodIn_app hh_law_isInOrder_7 (goodIn_app hh_law_isInOrder_8 (goodIn_app hh_law_isInOrder_9 (goodIn_app hh_law_isInOrder_10 (goodIn_app hh_law_isInOrder_11 (goodIn_app hh_law_isInOrder_12 (goodIn_app hh_law_isInOrder_13 (goodIn_app hh_law_isInOrder_14 (goodIn_app hh_law_isInOrder_15 (goodIn_app hh_law_isInOrder_16 (goodIn_app hh_law_isInOrder_17 (goodIn_app hh_law_isInOrder_18 (goodIn_app hh_law_isInOrder_19 (goodIn_app hh_law_isInOrder_20 hh_law_isInOrder_21)))))))))))))))))))) hh_law_isInOrder_c0) hh_law_isInOrder_c1) hh_law_isInOrder_c2) hh_law_isInOrder_c3) hh_law_isInOrder_c4) hh_law_isInOrder_c5) hh_law_isInOrder_c6) hh_law_isInOrder_c7) hh_law_isInOrder_c8) hh_law_isInOrder_c9)
set_option maxRecDepth 20000 in
theorem gL_law_L_isInOrder : GoodIn wsL_law (va_wsS RL 120 yL_isInOrder wsL_isInOrder) := goodIn_app (goodIn_of _ (by decide +kernel)) ggL_law_L_isInOrder
set_option maxRecDepth 100000 in
theorem hh_law_isKept_0 : GoodIn wsL_law [Cond.code yL_isKept cL_isKept 6 (some .boolean)] := goodIn_r _ [574] rfl (by decide +kernel)
set_option maxRecDepth 100000 in
theorem hh_law_isKept_1 : GoodIn wsL_law wsL_isKept_r1 := goodIn_r _ [4, 575, 102, 103, 100, 104, 105, 106, 107, 108, 109, 110, 111, 112, 113, 114, 2, 115, 116, 117, 19, 118, 119, 120] (by decide +kernel) (by decide +kernel)
set_option maxRecDepth 100000 in
theorem hh_law_isKept_2 : GoodIn wsL_law wsL_isKept_r2 := goodIn_r _ [121, 122, 123, 124, 125, 126, 127, 128, 129, 18, 130, 49, 131, 132, 133, 134, 36, 135, 136, 137, 138, 139, 140, 141] (by decide +kernel) (by decide +kernel)
set_option maxRecDepth 100000 in
theorem hh_law_isKept_3 : GoodIn wsL_law wsL_isKept_r3 := goodIn_r _ [142, 50, 52, 51, 53, 54, 143, 144, 145, 146, 147, 148, 149, 150, 151, 152, 153, 154, 155, 156, 157, 158, 159, 160] (by decide +kernel) (by decide +kernel)
set_option maxRecDepth 100000 in
theorem hh_law_isKept_4 : GoodIn wsL_law wsL_isKept_r4 := goodIn_r _ [161, 162, 163, 164, 165, 166, 167, 58, 168, 169, 13, 170, 171, 172, 173, 174, 175, 176, 177, 178, 179, 180, 181, 182] (by decide +kernel) (by decide +kernel)
set_option maxRecDepth 100000 in
theorem hh_law_isKept_5 : GoodIn wsL_law wsL_isKept_r5 := goodIn_r _ [183, 184, 185, 186, 187, 188, 189, 190, 191, 192, 193, 194, 195, 196, 197, 198, 199, 200, 201, 202, 203, 204, 205, 206] (by decide +kernel) (by decide +kernel)
set_option maxRecDepth 100000 in
theorem hh_law_isKept_6 : GoodIn wsL_law wsL_isKept_r6 := goodIn_r _ [207, 208, 209, 210, 211, 212, 213, 214, 215, 216, 217, 218, 219, 220, 221, 222, 31, 223, 224, 225, 30, 226, 89, 227] (by decide +kernel) (by decide +kernel)
set_option maxRecDepth 100000 in
theorem hh_law_isKept_7 : GoodIn wsL_law wsL_isKept_r7 := goodIn_r _ [228, 229, 230, 231, 232, 233, 234, 90, 91, 92, 235, 236, 237, 238, 23, 239, 240, 241, 242, 243, 244, 245, 22, 246] (by decide +kernel) (by decide +kernel)
set_option maxRecDepth 100000 in
theorem hh_law_isKept_8 : GoodIn wsL_law wsL_isKept_r8 := goodIn_r _ [63, 247, 248, 249, 250, 251, 252, 253, 254, 255, 256, 257, 258, 64, 73, 67, 71, 259, 260, 261, 262, 65, 66, 68] (by decide +kernel) (by decide +kernel)
set_option maxRecDepth 100000 in
theorem hh_law_isKept_9 : GoodIn wsL_law wsL_isKept_r9 := goodIn_r _ [69, 263, 264, 265, 266, 267, 268, 269, 270, 271, 272, 273, 274, 275, 276, 277, 278, 279, 280, 281, 282, 283, 284, 285] (by decide +kernel) (by decide +kernel)
set_option maxRecDepth 100000 in
theorem hh_law_isKept_10 : GoodIn wsL_law wsL_isKept_r10 := goodIn_r _ [286, 287, 288, 289, 290, 291, 292, 293, 294, 295, 296, 297, 70, 298, 299, 300, 301, 302, 303, 304, 305, 306, 307, 308] (by decide +kernel) (by decide +kernel)
set_option maxRecDepth 100000 in
theorem hh_law_isKept_11 : GoodIn wsL_law wsL_isKept_r11 := goodIn_r _ [309, 310, 311, 312, 313, 314, 315, 316, 317, 57, 318, 319, 320, 321, 322, 323, 324, 325, 326, 327, 328, 329, 14, 37] (by decide +kernel) (by decide +kernel)
set_option maxRecDepth 100000 in
theorem hh_law_isKept_12 : GoodIn wsL_law wsL_isKept_r12 := goodIn_r _ [27, 35, 330, 331, 332, 333, 334, 335, 336, 337, 44, 338, 339, 340, 341, 342, 343, 344, 345, 346, 347, 76, 348, 349] (by decide +kernel) (by decide +kernel)
set_option maxRecDepth 100000 in
theorem hh_law_isKept_13 : GoodIn wsL_law wsL_isKept_r13 := goodIn_r _ [350, 351, 352, 77, 74, 75, 353, 354, 355, 356, 357, 358, 43, 359, 360, 361, 362, 363, 364, 365, 366, 367, 368, 369] (by decide +kernel) (by decide +kernel)
set_option maxRecDepth 100000 in
theorem hh_law_isKept_14 : GoodIn wsL_law wsL_isKept_r14 := goodIn_r _ [370, 371, 372, 373, 374, 72, 375, 376, 377, 26, 378, 82, 83, 84, 379, 380, 381, 382, 383, 384, 385, 386, 387, 388] (by decide +kernel) (by decide +kernel)
set_option maxRecDepth 100000 in
theorem hh_law_isKept_15 : GoodIn wsL_law wsL_isKept_r15 := goodIn_r _ [389, 390, 391, 392, 393, 394, 395, 396, 397, 398, 399, 400, 401, 402, 403, 404, 405, 406, 407, 408, 409, 410, 411, 412] (by decide +kernel) (by decide +kernel)
set_option maxRecDepth 100000 in
theorem hh_law_isKept_16 : GoodIn wsL_law wsL_isKept_r16 := goodIn_r _ [413, 55, 414, 415, 416, 417, 418, 419, 420, 421, 422, 423, 424, 425, 426, 427, 428, 429, 430, 431, 432, 433, 434, 435] (by decide +kernel) (by decide +kernel)
set_option maxRecDepth 100000 in
theorem hh_law_isKept_17 : GoodIn wsL_law wsL_isKept_r17 := goodIn_r _ [436, 437, 438, 439, 440, 441, 442, 443, 444, 445, 446, 447, 448, 449, 450, 34, 451, 97, 3, 452, 453, 454, 455, 456] (by decide +kernel) (by decide +kernel)
set_option maxRecDepth 100000 in
theorem hh_law_isKept_18 : GoodIn wsL_law wsL_isKept_r18 := goodIn_r _ [457, 458, 459, 460, 461, 462, 463, 464, 465, 466, 467, 468, 469, 470, 471, 472, 473, 474, 475, 476, 477, 478, 479, 480] (by decide +kernel) (by decide +kernel)
set_option maxRecDepth 100000 in
theorem hh_law_isKept_19 : GoodIn wsL_law wsL_isKept_r19 := goodIn_r _ [481, 482, 483, 484, 485, 486, 487, 488, 489, 490, 491, 492, 493, 494, 495, 496, 497, 498, 499, 500, 501, 502, 503, 504] (by decide +kernel) (by decide +kernel)
set_option maxRecDepth 100000 in
theorem hh_law_isKept_20 : GoodIn wsL_law wsL_isKept_r20 := goodIn_r _ [505, 506, 507, 508, 509, 510, 511, 512, 513, 514, 515, 516, 517, 518, 519, 15, 520, 521, 522, 523, 524, 525, 526, 527] (by decide +kernel) (by decide +kernel)
set_option maxRecDepth 100000 in
theorem hh_law_isKept_21 : GoodIn wsL_law wsL_isKept_r21 := goodIn_r _ [528, 529, 530] (by decide +kernel) (by decide +kernel)
set_option maxRecDepth 100000 in
theorem hh_law_isKept_c0 : GoodIn wsL_law (wsX60) := goodIn_sub (by decide +kernel) (by decide +kernel)
set_option maxRecDepth 100000 in
theorem hh_law_isKept_c1 : GoodIn wsL_law (wsX50) := goodIn_sub (by decide +kernel) (by decide +kernel)
set_option maxRecDepth 100000 in
theorem hh_law_isKept_c2 : GoodIn wsL_law (wsX20) := goodIn_sub (by decide +kernel) (by decide +kernel)
set_option maxRecDepth 100000 in
theorem hh_law_isKept_c3 : GoodIn wsL_law (wsX10) := goodIn_sub (by decide +kernel) (by decide +kernel)
set_option maxRecDepth 100000 in
theorem hh_law_isKept_c4 : GoodIn wsL_law (wsX30) := goodIn_sub (by decide +kernel) (by decide +kernel)
set_option maxRecDepth 100000 in
theorem hh_law_isKept_c5 : GoodIn wsL_law (wsX00) := goodIn_sub (by decide +kernel) (by decide +kernel)
set_option maxRecDepth 100000 in
theorem hh_law_isKept_c6 : GoodIn wsL_law (wsX40) := goodIn_sub (by decide +kernel) (by decide +kernel)
set_option maxRecDepth 100000 in
theorem hh_law_isKept_c7 : GoodIn wsL_law ((vx_atS RX6 70 "java/lang/IllegalArgumentException" ["java/lang/RuntimeException", "java/lang/Exception"]).filter goodWord) := goodIn_sub (by decide +kernel) (by decide +kernel)
set_option maxRecDepth 100000 in
theorem hh_law_isKept_c8 : GoodIn wsL_law ((vx_atS RX6 94 "java/lang/IllegalStateException" ["java/lang/RuntimeException", "java/lang/Exception"]).filter goodWord) := goodIn_sub (by decide +kernel) (by decide +kernel)
set_option maxRecDepth 100000 in
theorem hh_law_isKept_c9 : GoodIn wsL_law ((vx_atS RX6 225 "java/lang/IndexOutOfBoundsException" ["java/lang/RuntimeException", "java/lang/Exception"]).filter goodWord) := goodIn_sub (by decide +kernel) (by decide +kernel)
set_option maxRecDepth 100000 in
theorem ggL_law_L_isKept : GoodIn wsL_law wsL_isKept := goodIn_app hh_law_isKept_0 (goodIn_app (goodIn_app (goodIn_app (goodIn_app (goodIn_app (goodIn_app (goodIn_app (goodIn_app (goodIn_app (goodIn_app (goodIn_app hh_law_isKept_1 (goodIn_app hh_law_isKept_2 (goodIn_app hh_law_isKept_3 (goodIn_app hh_law_isKept_4 (goodIn_app hh_law_isKept_5 (goodIn_app hh_law_isKept_6 (goodIn_app hh_law_isKept_7 (goodIn_app hh_law_isKept_8 (goodIn_app hh_law_isKept_9 (goodIn_app hh_law_isKept_10 (goodIn_app hh_law_isKept_11 (goodIn_app hh_law_isKept_12 (goodIn_app hh_law_isKept_13 (goodIn_app hh_law_isKept_14 (goodIn_app hh_law_isKept_15 (goodIn_app hh_law_isKept_16 (goodIn_app hh_law_isKept_17 (goodIn_app hh_law_isKept_18 (goodIn_app hh_law_isKept_19 (goodIn_app hh_law_isKept_20 hh_law_isKept_21)))))))))))))))))))) hh_law_isKept_c0) hh_law_isKept_c1) hh_law_isKept_c2) hh_law_isKept_c3) hh_law_isKept_c4) hh_law_isKept_c5) hh_law_isKept_c6) hh_law_isKept_c7) hh_law_isKept_c8) hh_law_isKept_c9)
