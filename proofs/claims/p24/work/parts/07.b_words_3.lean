set_option maxRecDepth 100000 in
theorem hh_act_does_0 : GoodIn wsL_act [Cond.codeWith yL_does cL_does 7 (some .int) [(0, 287, 288, 74), (0, 287, 293, 77), (0, 287, 298, 79)]] := goodIn_r _ [8] rfl (by decide +kernel)
set_option maxRecDepth 100000 in
theorem hh_act_does_1 : GoodIn wsL_act wsL_does_r1 := goodIn_r _ [9, 10, 11, 12, 13, 14, 15, 16, 17, 18, 19, 20, 21, 22, 23, 24, 25, 26, 27, 28, 29, 30, 31, 32] (by decide +kernel) (by decide +kernel)
set_option maxRecDepth 100000 in
theorem hh_act_does_2 : GoodIn wsL_act wsL_does_r2 := goodIn_r _ [33, 34, 35, 36, 37, 38, 39, 40, 41, 42, 43, 44, 45, 46, 47, 48, 49, 50, 51, 52, 53, 54, 55, 56] (by decide +kernel) (by decide +kernel)
set_option maxRecDepth 100000 in
theorem hh_act_does_3 : GoodIn wsL_act wsL_does_r3 := goodIn_r _ [57, 58, 59, 60, 61, 62, 63, 64, 65, 66, 67, 68, 69, 70, 71, 72, 73, 74, 75, 76, 77, 78, 79, 80] (by decide +kernel) (by decide +kernel)
set_option maxRecDepth 100000 in
theorem hh_act_does_4 : GoodIn wsL_act wsL_does_r4 := goodIn_r _ [81, 82, 83, 84, 85, 86, 87, 88, 89, 90, 91, 92, 93, 94, 95, 96, 97, 98, 99, 100, 101, 102, 103, 104] (by decide +kernel) (by decide +kernel)
set_option maxRecDepth 100000 in
theorem hh_act_does_5 : GoodIn wsL_act wsL_does_r5 := goodIn_r _ [105, 106, 107, 108, 109, 110, 111, 112, 113, 114, 115, 116, 117, 118, 119, 120, 121, 122, 123, 124, 125, 126, 127, 128] (by decide +kernel) (by decide +kernel)
set_option maxRecDepth 100000 in
theorem hh_act_does_6 : GoodIn wsL_act wsL_does_r6 := goodIn_r _ [129, 130, 131, 132, 133, 134, 135, 136, 137, 138, 139, 140, 141, 142, 143, 144, 145, 146, 147, 148, 149, 150, 151, 152] (by decide +kernel) (by decide +kernel)
set_option maxRecDepth 100000 in
theorem hh_act_does_7 : GoodIn wsL_act wsL_does_r7 := goodIn_r _ [153, 154, 155, 156, 157, 158, 159, 160, 161, 162, 163, 164, 165, 166, 167, 168, 169, 170, 171, 172, 173, 174, 175, 176] (by decide +kernel) (by decide +kernel)
set_option maxRecDepth 100000 in
theorem hh_act_does_8 : GoodIn wsL_act wsL_does_r8 := goodIn_r _ [177, 178, 179, 180, 181, 182, 183, 184, 185, 186, 187, 188, 189, 190, 191, 192, 193, 194, 195, 196, 197, 198, 199, 200] (by decide +kernel) (by decide +kernel)
set_option maxRecDepth 100000 in
theorem hh_act_does_9 : GoodIn wsL_act wsL_does_r9 := goodIn_r _ [201, 202, 203, 204, 205, 206, 3, 207, 208, 209, 210, 211, 212, 213, 214, 215, 216, 217, 218, 219, 220, 221, 222, 223] (by decide +kernel) (by decide +kernel)
set_option maxRecDepth 100000 in
theorem hh_act_does_10 : GoodIn wsL_act wsL_does_r10 := goodIn_r _ [224, 225, 226, 227, 228, 229, 230, 231, 232, 233, 234, 235, 236, 237, 238, 239, 240, 241, 242, 243, 244, 245, 246, 247] (by decide +kernel) (by decide +kernel)
set_option maxRecDepth 100000 in
theorem hh_act_does_11 : GoodIn wsL_act wsL_does_r11 := goodIn_r _ [248, 249, 250, 251, 252, 253, 254, 255, 256, 257, 258, 259, 260, 261, 262, 263, 264, 265, 266, 267, 268, 269, 270, 271] (by decide +kernel) (by decide +kernel)
set_option maxRecDepth 100000 in
theorem hh_act_does_12 : GoodIn wsL_act wsL_does_r12 := goodIn_r _ [272, 273, 274, 275, 276, 277, 278, 279, 280, 281, 282, 283, 284, 285, 286, 287, 288, 289, 290, 291, 292, 293, 294, 295] (by decide +kernel) (by decide +kernel)
set_option maxRecDepth 100000 in
theorem hh_act_does_13 : GoodIn wsL_act wsL_does_r13 := goodIn_r _ [296, 297, 298, 299, 300, 301, 302, 303, 304, 305, 306, 307, 308, 309, 310, 311, 312, 313, 314, 315, 316, 317, 318, 319] (by decide +kernel) (by decide +kernel)
set_option maxRecDepth 100000 in
theorem hh_act_does_14 : GoodIn wsL_act wsL_does_r14 := goodIn_r _ [320, 321, 322, 323, 324, 325, 326, 327, 328, 329, 330, 331, 332, 333, 334, 335, 336, 337, 338, 339, 340, 341, 342, 343] (by decide +kernel) (by decide +kernel)
set_option maxRecDepth 100000 in
theorem hh_act_does_15 : GoodIn wsL_act wsL_does_r15 := goodIn_r _ [344, 345, 346, 347, 348, 349, 350, 351, 352, 353, 354, 355, 356, 357, 358, 359, 360, 361, 362, 363, 364, 365, 366, 367] (by decide +kernel) (by decide +kernel)
set_option maxRecDepth 100000 in
theorem hh_act_does_16 : GoodIn wsL_act wsL_does_r16 := goodIn_r _ [368, 369, 370, 371, 372, 373, 374, 375, 376, 377, 378, 379, 380, 381, 382, 383, 384, 385, 386, 387, 388, 389, 390, 391] (by decide +kernel) (by decide +kernel)
set_option maxRecDepth 100000 in
theorem hh_act_does_17 : GoodIn wsL_act wsL_does_r17 := goodIn_r _ [392, 393, 394, 395, 396, 397, 398, 399, 400, 401, 402, 403, 404, 405, 406, 407, 408, 409, 410, 411, 412, 413, 414, 415] (by decide +kernel) (by decide +kernel)
set_option maxRecDepth 100000 in
theorem hh_act_does_18 : GoodIn wsL_act wsL_does_r18 := goodIn_r _ [416, 417, 418, 419, 420, 421, 422, 423, 424, 425, 426, 427, 428, 429, 430, 431, 432, 433, 434, 435, 436, 437, 438, 439] (by decide +kernel) (by decide +kernel)
set_option maxRecDepth 100000 in
theorem hh_act_does_19 : GoodIn wsL_act wsL_does_r19 := goodIn_r _ [440, 441, 442, 443, 444, 445, 446, 447, 448, 449, 450, 451, 452, 453, 454, 455, 456, 457, 458, 459, 460, 461, 462, 463] (by decide +kernel) (by decide +kernel)
set_option maxRecDepth 100000 in
theorem hh_act_does_20 : GoodIn wsL_act wsL_does_r20 := goodIn_r _ [464, 465, 466, 467, 468, 469, 470, 471, 472, 473, 474, 475, 476, 477, 478, 479, 480, 481, 482] (by decide +kernel) (by decide +kernel)
set_option maxRecDepth 100000 in
theorem hh_act_does_c0 : GoodIn wsL_act (wsX60) := goodIn_sub (by decide +kernel) (by decide +kernel)
set_option maxRecDepth 100000 in
theorem hh_act_does_c1 : GoodIn wsL_act (wsX50) := goodIn_sub (by decide +kernel) (by decide +kernel)
set_option maxRecDepth 100000 in
theorem hh_act_does_c2 : GoodIn wsL_act (wsX20) := goodIn_sub (by decide +kernel) (by decide +kernel)
set_option maxRecDepth 100000 in
theorem hh_act_does_c3 : GoodIn wsL_act (wsX10) := goodIn_sub (by decide +kernel) (by decide +kernel)
set_option maxRecDepth 100000 in
theorem hh_act_does_c4 : GoodIn wsL_act (wsX30) := goodIn_sub (by decide +kernel) (by decide +kernel)
set_option maxRecDepth 100000 in
theorem hh_act_does_c5 : GoodIn wsL_act (wsX00) := goodIn_sub (by decide +kernel) (by decide +kernel)
set_option maxRecDepth 100000 in
theorem hh_act_does_c6 : GoodIn wsL_act (wsX40) := goodIn_sub (by decide +kernel) (by decide +kernel)
set_option maxRecDepth 100000 in
theorem hh_act_does_c7 : GoodIn wsL_act ((vx_atS RX6 70 "java/lang/IllegalArgumentException" ["java/lang/RuntimeException", "java/lang/Exception"]).filter goodWord) := goodIn_sub (by decide +kernel) (by decide +kernel)
set_option maxRecDepth 100000 in
theorem hh_act_does_c8 : GoodIn wsL_act ((vx_atS RX6 94 "java/lang/IllegalStateException" ["java/lang/RuntimeException", "java/lang/Exception"]).filter goodWord) := goodIn_sub (by decide +kernel) (by decide +kernel)
set_option maxRecDepth 100000 in
theorem hh_act_does_c9 : GoodIn wsL_act ((vx_atS RX6 225 "java/lang/IndexOutOfBoundsException" ["java/lang/RuntimeException", "java/lang/Exception"]).filter goodWord) := goodIn_sub (by decide +kernel) (by decide +kernel)
set_option maxRecDepth 100000 in
theorem ggL_act_L_does : GoodIn wsL_act wsL_does := goodIn_app hh_act_does_0 (goodIn_app (goodIn_app (goodIn_app (goodIn_app (goodIn_app (goodIn_app (goodIn_app (goodIn_app (goodIn_app (goodIn_app (goodIn_app hh_act_does_1 (goodIn_app hh_act_does_2 (goodIn_app hh_act_does_3 (goodIn_app hh_act_does_4 (goodIn_app hh_act_does_5 (goodIn_app hh_act_does_6 (goodIn_app hh_act_does_7 (goodIn_app hh_act_does_8 (goodIn_app hh_act_does_9 (goodIn_app hh_act_does_10 (goodIn_app hh_act_does_11 (goodIn_app hh_act_does_12 (goodIn_app hh_act_does_13 (goodIn_app hh_act_does_14 (goodIn_app hh_act_does_15 (goodIn_app hh_act_does_16 (goodIn_app hh_act_does_17 (goodIn_app hh_act_does_18 (goodIn_app hh_act_does_19 hh_act_does_20))))))))))))))))))) hh_act_does_c0) hh_act_does_c1) hh_act_does_c2) hh_act_does_c3) hh_act_does_c4) hh_act_does_c5) hh_act_does_c6) hh_act_does_c7) hh_act_does_c8) hh_act_does_c9)
set_option maxRecDepth 20000 in
theorem gL_act_L_does : GoodIn wsL_act (va_wsS RL 88 yL_does wsL_does) := goodIn_app (goodIn_of _ (by decide +kernel)) ggL_act_L_does
set_option maxRecDepth 20000 in
theorem ggL_areAlike_X6_now : GoodIn wsL_areAlike wsX6_now := goodIn_r _ [5, 6, 495, 496, 497, 498, 499, 500, 501, 502, 503] (by decide +kernel) (by decide +kernel)
set_option maxRecDepth 20000 in
theorem gL_areAlike_X6_now : GoodIn wsL_areAlike (wsV RL 92 RX6 yX6_now wsX6_now) := goodIn_app (goodIn_of _ (by decide +kernel)) ggL_areAlike_X6_now
set_option maxRecDepth 20000 in
theorem ggL_areAlike_X6_alarms : GoodIn wsL_areAlike wsX6_alarms := goodIn_r _ [10, 11, 12, 13, 14, 15, 16, 17, 495, 496, 497, 498, 499, 500, 501, 502, 503, 504, 505, 506] (by decide +kernel) (by decide +kernel)
set_option maxRecDepth 20000 in
theorem gL_areAlike_X6_alarms : GoodIn wsL_areAlike (wsV RL 95 RX6 yX6_alarms wsX6_alarms) := goodIn_app (goodIn_of _ (by decide +kernel)) ggL_areAlike_X6_alarms
set_option maxRecDepth 100000 in
theorem hh_areAlike_does_0 : GoodIn wsL_areAlike [Cond.codeWith yL_does cL_does 7 (some .int) [(0, 287, 288, 74), (0, 287, 293, 77), (0, 287, 298, 79)]] := goodIn_r _ [21] rfl (by decide +kernel)
set_option maxRecDepth 100000 in
theorem hh_areAlike_does_1 : GoodIn wsL_areAlike wsL_does_r1 := goodIn_r _ [22, 23, 24, 25, 26, 27, 28, 4, 29, 30, 31, 32, 33, 34, 35, 36, 37, 38, 39, 40, 41, 42, 43, 44] (by decide +kernel) (by decide +kernel)
set_option maxRecDepth 100000 in
theorem hh_areAlike_does_2 : GoodIn wsL_areAlike wsL_does_r2 := goodIn_r _ [45, 46, 47, 48, 49, 50, 51, 6, 52, 53, 54, 55, 56, 57, 58, 59, 60, 61, 62, 63, 64, 65, 66, 67] (by decide +kernel) (by decide +kernel)
set_option maxRecDepth 100000 in
theorem hh_areAlike_does_3 : GoodIn wsL_areAlike wsL_does_r3 := goodIn_r _ [68, 69, 70, 71, 72, 73, 74, 75, 76, 77, 78, 79, 80, 81, 82, 83, 84, 85, 86, 87, 88, 89, 90, 91] (by decide +kernel) (by decide +kernel)
set_option maxRecDepth 100000 in
theorem hh_areAlike_does_4 : GoodIn wsL_areAlike wsL_does_r4 := goodIn_r _ [92, 93, 94, 95, 96, 97, 98, 99, 100, 101, 102, 103, 104, 105, 106, 107, 108, 109, 110, 111, 112, 113, 114, 115] (by decide +kernel) (by decide +kernel)
set_option maxRecDepth 100000 in
theorem hh_areAlike_does_5 : GoodIn wsL_areAlike wsL_does_r5 := goodIn_r _ [116, 117, 118, 119, 120, 121, 122, 123, 124, 125, 126, 127, 128, 129, 130, 131, 132, 133, 134, 135, 136, 137, 138, 139] (by decide +kernel) (by decide +kernel)
set_option maxRecDepth 100000 in
theorem hh_areAlike_does_6 : GoodIn wsL_areAlike wsL_does_r6 := goodIn_r _ [140, 141, 142, 143, 144, 145, 146, 147, 148, 149, 150, 151, 152, 153, 154, 155, 156, 157, 158, 159, 160, 161, 162, 163] (by decide +kernel) (by decide +kernel)
set_option maxRecDepth 100000 in
theorem hh_areAlike_does_7 : GoodIn wsL_areAlike wsL_does_r7 := goodIn_r _ [164, 165, 166, 167, 168, 169, 170, 171, 172, 173, 174, 175, 176, 177, 178, 179, 180, 181, 182, 183, 184, 185, 186, 187] (by decide +kernel) (by decide +kernel)
set_option maxRecDepth 100000 in
theorem hh_areAlike_does_8 : GoodIn wsL_areAlike wsL_does_r8 := goodIn_r _ [188, 189, 190, 191, 192, 193, 194, 195, 196, 197, 198, 199, 200, 201, 202, 203, 204, 205, 206, 207, 208, 209, 210, 211] (by decide +kernel) (by decide +kernel)
set_option maxRecDepth 100000 in
theorem hh_areAlike_does_9 : GoodIn wsL_areAlike wsL_does_r9 := goodIn_r _ [212, 213, 214, 215, 216, 217, 20, 218, 219, 220, 221, 222, 223, 224, 225, 226, 227, 228, 229, 230, 231, 232, 233, 234] (by decide +kernel) (by decide +kernel)
set_option maxRecDepth 100000 in
theorem hh_areAlike_does_10 : GoodIn wsL_areAlike wsL_does_r10 := goodIn_r _ [235, 236, 237, 238, 239, 240, 241, 242, 243, 244, 245, 246, 247, 248, 249, 250, 251, 252, 253, 254, 255, 256, 257, 258] (by decide +kernel) (by decide +kernel)
set_option maxRecDepth 100000 in
theorem hh_areAlike_does_11 : GoodIn wsL_areAlike wsL_does_r11 := goodIn_r _ [259, 260, 261, 262, 263, 264, 265, 266, 267, 268, 269, 270, 271, 272, 273, 274, 11, 275, 276, 277, 278, 279, 280, 281] (by decide +kernel) (by decide +kernel)
set_option maxRecDepth 100000 in
theorem hh_areAlike_does_12 : GoodIn wsL_areAlike wsL_does_r12 := goodIn_r _ [282, 283, 284, 285, 286, 287, 288, 289, 290, 291, 292, 293, 294, 295, 296, 297, 298, 299, 300, 301, 302, 303, 304, 305] (by decide +kernel) (by decide +kernel)
set_option maxRecDepth 100000 in
theorem hh_areAlike_does_13 : GoodIn wsL_areAlike wsL_does_r13 := goodIn_r _ [306, 307, 308, 309, 310, 311, 312, 313, 314, 315, 316, 317, 318, 319, 320, 321, 322, 323, 324, 325, 326, 327, 328, 329] (by decide +kernel) (by decide +kernel)
set_option maxRecDepth 100000 in
theorem hh_areAlike_does_14 : GoodIn wsL_areAlike wsL_does_r14 := goodIn_r _ [330, 15, 331, 17, 332, 333, 334, 335, 336, 337, 338, 339, 340, 341, 342, 343, 344, 345, 346, 347, 348, 349, 350, 351] (by decide +kernel) (by decide +kernel)
set_option maxRecDepth 100000 in
theorem hh_areAlike_does_15 : GoodIn wsL_areAlike wsL_does_r15 := goodIn_r _ [352, 353, 354, 355, 356, 357, 358, 359, 360, 361, 362, 363, 364, 365, 366, 367, 368, 369, 370, 371, 372, 373, 374, 375] (by decide +kernel) (by decide +kernel)
set_option maxRecDepth 100000 in
theorem hh_areAlike_does_16 : GoodIn wsL_areAlike wsL_does_r16 := goodIn_r _ [376, 377, 378, 379, 380, 381, 382, 383, 384, 385, 386, 387, 388, 389, 390, 391, 392, 393, 394, 395, 396, 397, 398, 399] (by decide +kernel) (by decide +kernel)
set_option maxRecDepth 100000 in
theorem hh_areAlike_does_17 : GoodIn wsL_areAlike wsL_does_r17 := goodIn_r _ [400, 401, 402, 403, 404, 405, 406, 407, 408, 409, 410, 411, 412, 413, 414, 415, 416, 417, 418, 419, 420, 421, 422, 423] (by decide +kernel) (by decide +kernel)
set_option maxRecDepth 100000 in
theorem hh_areAlike_does_18 : GoodIn wsL_areAlike wsL_does_r18 := goodIn_r _ [424, 425, 426, 427, 428, 429, 430, 431, 432, 433, 434, 435, 436, 437, 438, 439, 440, 441, 442, 443, 444, 445, 446, 447] (by decide +kernel) (by decide +kernel)
set_option maxRecDepth 100000 in
theorem hh_areAlike_does_19 : GoodIn wsL_areAlike wsL_does_r19 := goodIn_r _ [448, 449, 450, 451, 452, 453, 454, 455, 456, 457, 458, 459, 460, 461, 462, 463, 464, 465, 466, 467, 468, 469, 470, 471] (by decide +kernel) (by decide +kernel)
set_option maxRecDepth 100000 in
theorem hh_areAlike_does_20 : GoodIn wsL_areAlike wsL_does_r20 := goodIn_r _ [472, 473, 474, 475, 476, 477, 478, 479, 480, 481, 482, 483, 484, 485, 486, 487, 488, 489, 490] (by decide +kernel) (by decide +kernel)
set_option maxRecDepth 100000 in
theorem hh_areAlike_does_c0 : GoodIn wsL_areAlike (wsX60) := goodIn_sub (by decide +kernel) (by decide +kernel)
set_option maxRecDepth 100000 in
theorem hh_areAlike_does_c1 : GoodIn wsL_areAlike (wsX50) := goodIn_sub (by decide +kernel) (by decide +kernel)
set_option maxRecDepth 100000 in
theorem hh_areAlike_does_c2 : GoodIn wsL_areAlike (wsX20) := goodIn_sub (by decide +kernel) (by decide +kernel)
set_option maxRecDepth 100000 in
theorem hh_areAlike_does_c3 : GoodIn wsL_areAlike (wsX10) := goodIn_sub (by decide +kernel) (by decide +kernel)
set_option maxRecDepth 100000 in
theorem hh_areAlike_does_c4 : GoodIn wsL_areAlike (wsX30) := goodIn_sub (by decide +kernel) (by decide +kernel)
set_option maxRecDepth 100000 in
theorem hh_areAlike_does_c5 : GoodIn wsL_areAlike (wsX00) := goodIn_sub (by decide +kernel) (by decide +kernel)
set_option maxRecDepth 100000 in
theorem hh_areAlike_does_c6 : GoodIn wsL_areAlike (wsX40) := goodIn_sub (by decide +kernel) (by decide +kernel)
set_option maxRecDepth 100000 in
theorem hh_areAlike_does_c7 : GoodIn wsL_areAlike ((vx_atS RX6 70 "java/lang/IllegalArgumentException" ["java/lang/RuntimeException", "java/lang/Exception"]).filter goodWord) := goodIn_sub (by decide +kernel) (by decide +kernel)
set_option maxRecDepth 100000 in
theorem hh_areAlike_does_c8 : GoodIn wsL_areAlike ((vx_atS RX6 94 "java/lang/IllegalStateException" ["java/lang/RuntimeException", "java/lang/Exception"]).filter goodWord) := goodIn_sub (by decide +kernel) (by decide +kernel)
set_option maxRecDepth 100000 in
theorem hh_areAlike_does_c9 : GoodIn wsL_areAlike ((vx_atS RX6 225 "java/lang/IndexOutOfBoundsException" ["java/lang/RuntimeException", "java/lang/Exception"]).filter goodWord) := goodIn_sub (by decide +kernel) (by decide +kernel)
set_option maxRecDepth 100000 in
theorem ggL_areAlike_L_does : GoodIn wsL_areAlike wsL_does := goodIn_app hh_areAlike_does_0 (goodIn_app (goodIn_app (goodIn_app (goodIn_app (goodIn_app (goodIn_app (goodIn_app (goodIn_app (goodIn_app (goodIn_app (goodIn_app hh_areAlike_does_1 (goodIn_app hh_areAlike_does_2 (goodIn_app hh_areAlike_does_3 (goodIn_app hh_areAlike_does_4 (goodIn_app hh_areAlike_does_5 (goodIn_app hh_areAlike_does_6 (goodIn_app hh_areAlike_does_7 (goodIn_app hh_areAlike_does_8 (goodIn_app hh_areAlike_does_9 (goodIn_app hh_areAlike_does_10 (goodIn_app hh_areAlike_does_11 (goodIn_app hh_areAlike_does_12 (goodIn_app hh_areAlike_does_13 (goodIn_app hh_areAlike_does_14 (goodIn_app hh_areAlike_does_15 (goodIn_app hh_areAlike_does_16 (goodIn_app hh_areAlike_does_17 (goodIn_app hh_areAlike_does_18 (goodIn_app hh_areAlike_does_19 hh_areAlike_does_20))))))))))))))))))) hh_areAlike_does_c0) hh_areAlike_does_c1) hh_areAlike_does_c2) hh_areAlike_does_c3) hh_areAlike_does_c4) hh_areAlike_does_c5) hh_areAlike_does_c6) hh_areAlike_does_c7) hh_areAlike_does_c8) hh_areAlike_does_c9)
set_option maxRecDepth 20000 in
theorem gL_areAlike_L_does : GoodIn wsL_areAlike (va_wsS RL 88 yL_does wsL_does) := goodIn_app (goodIn_of _ (by decide +kernel)) ggL_areAlike_L_does
set_option maxRecDepth 20000 in
theorem ggL_areAlike_L_low : GoodIn wsL_areAlike wsL_low := goodIn_r _ [493, 494] (by decide +kernel) (by decide +kernel)
set_option maxRecDepth 20000 in
theorem gL_areAlike_L_low : GoodIn wsL_areAlike (va_wsS RL 85 yL_low wsL_low) := goodIn_app (goodIn_of _ (by decide +kernel)) ggL_areAlike_L_low
set_option maxRecDepth 20000 in
theorem ggL_isInOrder_X6_balance : GoodIn wsL_isInOrder wsX6_balance := goodIn_r _ [10, 11, 12, 13, 14, 15, 16, 17, 18, 19, 20, 21, 22, 23, 24, 25, 26, 27, 28, 29, 30, 31, 32, 33, 34, 35, 36, 37, 38, 39, 40, 41, 42, 43, 503, 504, 505, 506, 507, 508, 509, 510, 511, 512, 513, 514, 515, 516, 517, 518, 519, 520, 521, 522] (by decide +kernel) (by decide +kernel)
set_option maxRecDepth 20000 in
theorem gL_isInOrder_X6_balance : GoodIn wsL_isInOrder (wsV RL 98 RX6 yX6_balance wsX6_balance) := goodIn_app (goodIn_of _ (by decide +kernel)) ggL_isInOrder_X6_balance
set_option maxRecDepth 100000 in
theorem hh_isInOrder_does_0 : GoodIn wsL_isInOrder [Cond.codeWith yL_does cL_does 7 (some .int) [(0, 287, 288, 74), (0, 287, 293, 77), (0, 287, 298, 79)]] := goodIn_r _ [47] rfl (by decide +kernel)
set_option maxRecDepth 100000 in
theorem hh_isInOrder_does_1 : GoodIn wsL_isInOrder wsL_does_r1 := goodIn_r _ [48, 49, 50, 1, 51, 52, 53, 9, 54, 55, 56, 11, 57, 58, 59, 60, 61, 62, 63, 64, 65, 66, 67, 68] (by decide +kernel) (by decide +kernel)
set_option maxRecDepth 100000 in
theorem hh_isInOrder_does_2 : GoodIn wsL_isInOrder wsL_does_r2 := goodIn_r _ [17, 69, 33, 70, 71, 72, 73, 74, 75, 76, 77, 78, 79, 80, 81, 82, 34, 83, 84, 85, 86, 87, 88, 89] (by decide +kernel) (by decide +kernel)
set_option maxRecDepth 100000 in
theorem hh_isInOrder_does_3 : GoodIn wsL_isInOrder wsL_does_r3 := goodIn_r _ [90, 91, 92, 93, 94, 95, 96, 97, 98, 99, 100, 101, 102, 103, 104, 105, 106, 107, 108, 109, 110, 111, 19, 112] (by decide +kernel) (by decide +kernel)
set_option maxRecDepth 100000 in
theorem hh_isInOrder_does_4 : GoodIn wsL_isInOrder wsL_does_r4 := goodIn_r _ [27, 23, 28, 113, 114, 115, 116, 117, 118, 119, 120, 121, 122, 123, 124, 125, 126, 127, 128, 129, 130, 131, 132, 133] (by decide +kernel) (by decide +kernel)
set_option maxRecDepth 100000 in
theorem hh_isInOrder_does_5 : GoodIn wsL_isInOrder wsL_does_r5 := goodIn_r _ [134, 135, 136, 137, 138, 139, 140, 141, 142, 143, 144, 145, 146, 147, 148, 149, 150, 151, 152, 153, 154, 155, 156, 157] (by decide +kernel) (by decide +kernel)
set_option maxRecDepth 100000 in
theorem hh_isInOrder_does_6 : GoodIn wsL_isInOrder wsL_does_r6 := goodIn_r _ [158, 159, 160, 161, 162, 163, 164, 165, 166, 167, 168, 169, 170, 171, 172, 173, 174, 175, 176, 177, 178, 179, 180, 181] (by decide +kernel) (by decide +kernel)
set_option maxRecDepth 100000 in
theorem hh_isInOrder_does_7 : GoodIn wsL_isInOrder wsL_does_r7 := goodIn_r _ [182, 183, 184, 185, 186, 187, 188, 189, 190, 191, 192, 193, 194, 195, 196, 197, 198, 199, 200, 201, 202, 203, 204, 205] (by decide +kernel) (by decide +kernel)
set_option maxRecDepth 100000 in
theorem hh_isInOrder_does_8 : GoodIn wsL_isInOrder wsL_does_r8 := goodIn_r _ [206, 207, 208, 209, 210, 211, 212, 213, 214, 215, 216, 217, 218, 219, 220, 221, 222, 223, 224, 225, 226, 227, 228, 229] (by decide +kernel) (by decide +kernel)
set_option maxRecDepth 100000 in
theorem hh_isInOrder_does_9 : GoodIn wsL_isInOrder wsL_does_r9 := goodIn_r _ [230, 231, 232, 233, 234, 235, 46, 236, 237, 238, 239, 240, 241, 242, 243, 244, 245, 246, 247, 248, 249, 250, 251, 252] (by decide +kernel) (by decide +kernel)
set_option maxRecDepth 100000 in
theorem hh_isInOrder_does_10 : GoodIn wsL_isInOrder wsL_does_r10 := goodIn_r _ [253, 254, 255, 256, 257, 258, 259, 260, 261, 262, 263, 264, 265, 266, 267, 268, 269, 270, 271, 272, 273, 274, 275, 276] (by decide +kernel) (by decide +kernel)
set_option maxRecDepth 100000 in
theorem hh_isInOrder_does_11 : GoodIn wsL_isInOrder wsL_does_r11 := goodIn_r _ [277, 278, 279, 280, 281, 282, 283, 284, 285, 286, 287, 288, 289, 290, 12, 13, 291, 292, 14, 15, 16, 18, 20, 21] (by decide +kernel) (by decide +kernel)
set_option maxRecDepth 100000 in
theorem hh_isInOrder_does_12 : GoodIn wsL_isInOrder wsL_does_r12 := goodIn_r _ [22, 24, 25, 26, 293, 294, 295, 296, 297, 298, 299, 300, 301, 302, 303, 304, 305, 306, 307, 308, 309, 310, 311, 312] (by decide +kernel) (by decide +kernel)
set_option maxRecDepth 100000 in
theorem hh_isInOrder_does_13 : GoodIn wsL_isInOrder wsL_does_r13 := goodIn_r _ [313, 314, 315, 316, 317, 318, 319, 320, 321, 322, 323, 324, 325, 326, 327, 328, 329, 330, 331, 332, 333, 334, 335, 336] (by decide +kernel) (by decide +kernel)
set_option maxRecDepth 100000 in
theorem hh_isInOrder_does_14 : GoodIn wsL_isInOrder wsL_does_r14 := goodIn_r _ [337, 338, 339, 340, 341, 342, 343, 344, 345, 346, 347, 348, 349, 350, 351, 352, 353, 354, 355, 356, 357, 358, 359, 360] (by decide +kernel) (by decide +kernel)
set_option maxRecDepth 100000 in
theorem hh_isInOrder_does_15 : GoodIn wsL_isInOrder wsL_does_r15 := goodIn_r _ [361, 362, 363, 364, 365, 366, 367, 368, 369, 370, 371, 372, 373, 374, 375, 376, 377, 43, 378, 379, 380, 381, 382, 383] (by decide +kernel) (by decide +kernel)
set_option maxRecDepth 100000 in
theorem hh_isInOrder_does_16 : GoodIn wsL_isInOrder wsL_does_r16 := goodIn_r _ [384, 385, 386, 387, 388, 389, 390, 391, 392, 393, 394, 395, 396, 397, 398, 399, 400, 401, 402, 403, 404, 405, 406, 407] (by decide +kernel) (by decide +kernel)
set_option maxRecDepth 100000 in
theorem hh_isInOrder_does_17 : GoodIn wsL_isInOrder wsL_does_r17 := goodIn_r _ [408, 409, 410, 411, 412, 413, 414, 415, 416, 417, 418, 419, 420, 421, 422, 423, 424, 425, 426, 427, 428, 429, 430, 431] (by decide +kernel) (by decide +kernel)
set_option maxRecDepth 100000 in
theorem hh_isInOrder_does_18 : GoodIn wsL_isInOrder wsL_does_r18 := goodIn_r _ [432, 433, 434, 435, 436, 437, 438, 439, 440, 441, 442, 443, 444, 445, 446, 447, 448, 449, 450, 451, 452, 453, 454, 455] (by decide +kernel) (by decide +kernel)
set_option maxRecDepth 100000 in
theorem hh_isInOrder_does_19 : GoodIn wsL_isInOrder wsL_does_r19 := goodIn_r _ [456, 457, 458, 459, 460, 461, 462, 463, 464, 465, 466, 467, 468, 469, 470, 471, 472, 473, 474, 475, 476, 477, 478, 479] (by decide +kernel) (by decide +kernel)
set_option maxRecDepth 100000 in
theorem hh_isInOrder_does_20 : GoodIn wsL_isInOrder wsL_does_r20 := goodIn_r _ [480, 481, 482, 483, 484, 485, 486, 487, 488, 489, 490, 491, 492, 493, 494, 495, 496, 497, 498] (by decide +kernel) (by decide +kernel)
set_option maxRecDepth 100000 in
theorem hh_isInOrder_does_c0 : GoodIn wsL_isInOrder (wsX60) := goodIn_sub (by decide +kernel) (by decide +kernel)
set_option maxRecDepth 100000 in
theorem hh_isInOrder_does_c1 : GoodIn wsL_isInOrder (wsX50) := goodIn_sub (by decide +kernel) (by decide +kernel)
set_option maxRecDepth 100000 in
theorem hh_isInOrder_does_c2 : GoodIn wsL_isInOrder (wsX20) := goodIn_sub (by decide +kernel) (by decide +kernel)
set_option maxRecDepth 100000 in
theorem hh_isInOrder_does_c3 : GoodIn wsL_isInOrder (wsX10) := goodIn_sub (by decide +kernel) (by decide +kernel)
set_option maxRecDepth 100000 in
theorem hh_isInOrder_does_c4 : GoodIn wsL_isInOrder (wsX30) := goodIn_sub (by decide +kernel) (by decide +kernel)
set_option maxRecDepth 100000 in
theorem hh_isInOrder_does_c5 : GoodIn wsL_isInOrder (wsX00) := goodIn_sub (by decide +kernel) (by decide +kernel)
set_option maxRecDepth 100000 in
theorem hh_isInOrder_does_c6 : GoodIn wsL_isInOrder (wsX40) := goodIn_sub (by decide +kernel) (by decide +kernel)
set_option maxRecDepth 100000 in
theorem hh_isInOrder_does_c7 : GoodIn wsL_isInOrder ((vx_atS RX6 70 "java/lang/IllegalArgumentException" ["java/lang/RuntimeException", "java/lang/Exception"]).filter goodWord) := goodIn_sub (by decide +kernel) (by decide +kernel)
set_option maxRecDepth 100000 in
theorem hh_isInOrder_does_c8 : GoodIn wsL_isInOrder ((vx_atS RX6 94 "java/lang/IllegalStateException" ["java/lang/RuntimeException", "java/lang/Exception"]).filter goodWord) := goodIn_sub (by decide +kernel) (by decide +kernel)
set_option maxRecDepth 100000 in
theorem hh_isInOrder_does_c9 : GoodIn wsL_isInOrder ((vx_atS RX6 225 "java/lang/IndexOutOfBoundsException" ["java/lang/RuntimeException", "java/lang/Exception"]).filter goodWord) := goodIn_sub (by decide +kernel) (by decide +kernel)
set_option maxRecDepth 100000 in
theorem ggL_isInOrder_L_does : GoodIn wsL_isInOrder wsL_does := goodIn_app hh_isInOrder_does_0 (goodIn_app (goodIn_app (goodIn_app (goodIn_app (goodIn_app (goodIn_app (goodIn_app (goodIn_app (goodIn_app (goodIn_app (goodIn_app hh_isInOrder_does_1 (goodIn_app hh_isInOrder_does_2 (goodIn_app hh_isInOrder_does_3 (goodIn_app hh_isInOrder_does_4 (goodIn_app hh_isInOrder_does_5 (goodIn_app hh_isInOrder_does_6 (goodIn_app hh_isInOrder_does_7 (goodIn_app hh_isInOrder_does_8 (goodIn_app hh_isInOrder_does_9 (goodIn_app hh_isInOrder_does_10 (goodIn_app hh_isInOrder_does_11 (goodIn_app hh_isInOrder_does_12 (goodIn_app hh_isInOrder_does_13 (goodIn_app hh_isInOrder_does_14 (goodIn_app hh_isInOrder_does_15 (goodIn_app hh_isInOrder_does_16 (goodIn_app hh_isInOrder_does_17 (goodIn_app hh_isInOrder_does_18 (goodIn_app hh_isInOrder_does_19 hh_isInOrder_does_20))))))))))))))))))) hh_isInOrder_does_c0) hh_isInOrder_does_c1) hh_isInOrder_does_c2) hh_isInOrder_does_c3) hh_isInOrder_does_c4) hh_isInOrder_does_c5) hh_isInOrder_does_c6) hh_isInOrder_does_c7) hh_isInOrder_does_c8) hh_isInOrder_does_c9)
set_option maxRecDepth 20000 in
theorem gL_isInOrder_L_does : GoodIn wsL_isInOrder (va_wsS RL 88 yL_does wsL_does) := goodIn_app (goodIn_of _ (by decide +kernel)) ggL_isInOrder_L_does
