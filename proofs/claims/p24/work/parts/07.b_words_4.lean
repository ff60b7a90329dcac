set_option maxRecDepth 20000 in
theorem ggL_isInOrder_X6_of : GoodIn wsL_isInOrder wsX6_of := goodIn_ca (goodIn_ca (goodIn_r _ [442, 55, 56, 12, 129, 130, 131, 9, 132, 95, 96, 11, 66, 67, 68, 17, 69, 33, 57, 58, 59, 443, 350, 351, 23, 352, 317, 26, 27, 28, 444, 21, 22, 24, 25, 445, 314, 315, 316, 318, 503, 504, 505, 506, 507, 508, 509, 510, 511, 512, 513, 514, 515, 516, 517, 518, 519, 520, 521, 522] (by decide +kernel) (by decide +kernel)) (goodIn_sub (fun _ h => List.mem_cons_of_mem _ (List.mem_append_left _ (List.mem_append_left _ (List.mem_append_right _ h)))) (by decide +kernel))) (goodIn_sub (fun _ h => List.mem_cons_of_mem _ (List.mem_append_right _ h)) (by decide +kernel))
set_option maxRecDepth 20000 in
theorem gL_isInOrder_X6_of : GoodIn wsL_isInOrder (wsV RL 56 RX6 yX6_of wsX6_of) := goodIn_app (goodIn_of _ (by decide +kernel)) ggL_isInOrder_X6_of
set_option maxRecDepth 20000 in
theorem ggL_isInOrder_X6_now : GoodIn wsL_isInOrder wsX6_now := goodIn_r _ [502, 74, 503, 504, 505, 506, 507, 508, 509, 510, 511] (by decide +kernel) (by decide +kernel)
set_option maxRecDepth 20000 in
theorem gL_isInOrder_X6_now : GoodIn wsL_isInOrder (wsV RL 92 RX6 yX6_now wsX6_now) := goodIn_app (goodIn_of _ (by decide +kernel)) ggL_isInOrder_X6_now
set_option maxRecDepth 20000 in
theorem ggL_isInOrder_X6_trend : GoodIn wsL_isInOrder wsX6_trend := goodIn_ca (goodIn_r _ [470, 95, 96, 74, 292, 129, 130, 131, 9, 132, 11, 66, 67, 68, 17, 69, 33, 57, 58, 59, 471, 472, 473, 415, 474, 417, 419, 420, 421, 422, 423, 424, 425, 503, 504, 505, 506, 507, 508, 509, 510, 511, 512, 513, 514, 515, 516, 517, 518, 519, 520, 545] (by decide +kernel) (by decide +kernel)) (goodIn_sub (fun _ h => List.mem_cons_of_mem _ (List.mem_append_right _ h)) (by decide +kernel))
set_option maxRecDepth 20000 in
theorem gL_isInOrder_X6_trend : GoodIn wsL_isInOrder (wsV RL 65 RX6 yX6_trend wsX6_trend) := goodIn_app (goodIn_of _ (by decide +kernel)) ggL_isInOrder_X6_trend
set_option maxRecDepth 20000 in
theorem ggL_isInOrder_X6_ofUnit : GoodIn wsL_isInOrder wsX6_ofUnit := goodIn_ca (goodIn_ca (goodIn_r _ [449, 55, 56, 11, 125, 126, 127, 9, 128, 95, 96, 66, 67, 68, 17, 69, 33, 57, 58, 59, 153, 154, 155, 156, 83, 137, 138, 139, 140, 450, 451, 452, 453, 43, 503, 504, 505, 506, 507, 508, 509, 510, 511, 512, 513, 514, 515, 516, 517, 518, 519, 520] (by decide +kernel) (by decide +kernel)) (goodIn_sub (fun _ h => List.mem_cons_of_mem _ (List.mem_append_left _ (List.mem_append_left _ (List.mem_append_right _ h)))) (by decide +kernel))) (goodIn_sub (fun _ h => List.mem_cons_of_mem _ (List.mem_append_right _ h)) (by decide +kernel))
set_option maxRecDepth 20000 in
theorem gL_isInOrder_X6_ofUnit : GoodIn wsL_isInOrder (wsV RL 59 RX6 yX6_ofUnit wsX6_ofUnit) := goodIn_app (goodIn_of _ (by decide +kernel)) ggL_isInOrder_X6_ofUnit
set_option maxRecDepth 20000 in
theorem ggL_isInOrder_X6_ofController : GoodIn wsL_isInOrder wsX6_ofController := goodIn_ca (goodIn_ca (goodIn_r _ [457, 55, 56, 187, 241, 242, 243, 9, 244, 95, 96, 192, 193, 194, 195, 196, 197, 57, 58, 59, 458, 267, 268, 269, 211, 222, 223, 224, 225, 459, 460, 461, 462, 309, 365, 366, 367, 368, 302, 463, 464, 465, 466, 308, 503, 504, 505, 506, 507, 508, 509, 510, 511, 527, 528, 529, 530, 531, 532, 533, 534, 535, 536, 537, 538, 539, 540, 541] (by decide +kernel) (by decide +kernel)) (goodIn_sub (fun _ h => List.mem_cons_of_mem _ (List.mem_append_left _ (List.mem_append_left _ (List.mem_append_right _ h)))) (by decide +kernel))) (goodIn_sub (fun _ h => List.mem_cons_of_mem _ (List.mem_append_right _ h)) (by decide +kernel))
set_option maxRecDepth 20000 in
theorem gL_isInOrder_X6_ofController : GoodIn wsL_isInOrder (wsV RL 62 RX6 yX6_ofController wsX6_ofController) := goodIn_app (goodIn_of _ (by decide +kernel)) ggL_isInOrder_X6_ofController
set_option maxRecDepth 20000 in
theorem ggL_isKept_L_low : GoodIn wsL_isKept wsL_low := goodIn_r _ [6, 7] (by decide +kernel) (by decide +kernel)
set_option maxRecDepth 20000 in
theorem gL_isKept_L_low : GoodIn wsL_isKept (va_wsS RL 85 yL_low wsL_low) := goodIn_app (goodIn_of _ (by decide +kernel)) ggL_isKept_L_low
set_option maxRecDepth 100000 in
theorem hh_isKept_does_0 : GoodIn wsL_isKept [Cond.codeWith yL_does cL_does 7 (some .int) [(0, 287, 288, 74), (0, 287, 293, 77), (0, 287, 298, 79)]] := goodIn_r _ [10] rfl (by decide +kernel)
set_option maxRecDepth 100000 in
theorem hh_isKept_does_1 : GoodIn wsL_isKept wsL_does_r1 := goodIn_r _ [11, 12, 13, 1, 14, 15, 16, 17, 18, 19, 20, 21, 22, 23, 24, 25, 26, 27, 28, 29, 30, 31, 32, 33] (by decide +kernel) (by decide +kernel)
set_option maxRecDepth 100000 in
theorem hh_isKept_does_2 : GoodIn wsL_isKept wsL_does_r2 := goodIn_r _ [34, 35, 36, 37, 38, 39, 40, 41, 42, 43, 44, 45, 46, 47, 48, 49, 50, 51, 52, 53, 54, 55, 56, 57] (by decide +kernel) (by decide +kernel)
set_option maxRecDepth 100000 in
theorem hh_isKept_does_3 : GoodIn wsL_isKept wsL_does_r3 := goodIn_r _ [58, 59, 60, 61, 62, 63, 64, 65, 66, 67, 68, 69, 70, 71, 72, 73, 74, 75, 76, 77, 78, 79, 80, 81] (by decide +kernel) (by decide +kernel)
set_option maxRecDepth 100000 in
theorem hh_isKept_does_4 : GoodIn wsL_isKept wsL_does_r4 := goodIn_r _ [82, 83, 84, 85, 86, 87, 88, 89, 90, 91, 92, 93, 94, 95, 96, 97, 98, 99, 100, 101, 102, 103, 104, 105] (by decide +kernel) (by decide +kernel)
set_option maxRecDepth 100000 in
theorem hh_isKept_does_5 : GoodIn wsL_isKept wsL_does_r5 := goodIn_r _ [106, 107, 108, 109, 110, 111, 112, 113, 114, 115, 116, 117, 118, 119, 120, 121, 122, 123, 124, 125, 126, 127, 128, 129] (by decide +kernel) (by decide +kernel)
set_option maxRecDepth 100000 in
theorem hh_isKept_does_6 : GoodIn wsL_isKept wsL_does_r6 := goodIn_r _ [130, 131, 132, 133, 134, 135, 136, 137, 138, 139, 140, 141, 142, 143, 144, 145, 146, 147, 148, 149, 150, 151, 152, 153] (by decide +kernel) (by decide +kernel)
set_option maxRecDepth 100000 in
theorem hh_isKept_does_7 : GoodIn wsL_isKept wsL_does_r7 := goodIn_r _ [154, 155, 156, 157, 158, 159, 160, 161, 162, 163, 164, 165, 166, 167, 168, 169, 170, 171, 172, 173, 174, 175, 176, 177] (by decide +kernel) (by decide +kernel)
set_option maxRecDepth 100000 in
theorem hh_isKept_does_8 : GoodIn wsL_isKept wsL_does_r8 := goodIn_r _ [178, 179, 180, 181, 182, 183, 184, 185, 186, 187, 188, 189, 190, 191, 192, 193, 194, 195, 196, 197, 198, 199, 200, 201] (by decide +kernel) (by decide +kernel)
set_option maxRecDepth 100000 in
theorem hh_isKept_does_9 : GoodIn wsL_isKept wsL_does_r9 := goodIn_r _ [202, 203, 204, 205, 206, 207, 5, 208, 209, 210, 211, 212, 213, 214, 215, 216, 217, 218, 219, 220, 221, 222, 223, 224] (by decide +kernel) (by decide +kernel)
set_option maxRecDepth 100000 in
theorem hh_isKept_does_10 : GoodIn wsL_isKept wsL_does_r10 := goodIn_r _ [225, 226, 227, 228, 229, 230, 231, 232, 233, 234, 235, 236, 237, 238, 239, 240, 241, 242, 243, 244, 245, 246, 247, 248] (by decide +kernel) (by decide +kernel)
set_option maxRecDepth 100000 in
theorem hh_isKept_does_11 : GoodIn wsL_isKept wsL_does_r11 := goodIn_r _ [249, 250, 251, 252, 253, 254, 255, 256, 257, 258, 259, 260, 261, 262, 263, 264, 265, 266, 267, 268, 269, 270, 271, 272] (by decide +kernel) (by decide +kernel)
set_option maxRecDepth 100000 in
theorem hh_isKept_does_12 : GoodIn wsL_isKept wsL_does_r12 := goodIn_r _ [273, 274, 275, 276, 277, 278, 279, 280, 281, 282, 283, 284, 285, 286, 287, 288, 289, 290, 291, 292, 293, 294, 295, 296] (by decide +kernel) (by decide +kernel)
set_option maxRecDepth 100000 in
theorem hh_isKept_does_13 : GoodIn wsL_isKept wsL_does_r13 := goodIn_r _ [297, 298, 299, 300, 301, 302, 303, 304, 305, 306, 307, 308, 309, 310, 311, 312, 313, 314, 315, 316, 317, 318, 319, 320] (by decide +kernel) (by decide +kernel)
set_option maxRecDepth 100000 in
theorem hh_isKept_does_14 : GoodIn wsL_isKept wsL_does_r14 := goodIn_r _ [321, 322, 323, 324, 325, 326, 327, 328, 329, 330, 331, 332, 333, 334, 335, 336, 337, 338, 339, 340, 341, 342, 343, 344] (by decide +kernel) (by decide +kernel)
set_option maxRecDepth 100000 in
theorem hh_isKept_does_15 : GoodIn wsL_isKept wsL_does_r15 := goodIn_r _ [345, 346, 347, 348, 349, 350, 351, 352, 353, 354, 355, 356, 357, 358, 359, 360, 361, 362, 363, 364, 365, 366, 367, 368] (by decide +kernel) (by decide +kernel)
set_option maxRecDepth 100000 in
theorem hh_isKept_does_16 : GoodIn wsL_isKept wsL_does_r16 := goodIn_r _ [369, 370, 371, 372, 373, 374, 375, 376, 377, 378, 379, 380, 381, 382, 383, 384, 385, 386, 387, 388, 389, 390, 391, 392] (by decide +kernel) (by decide +kernel)
set_option maxRecDepth 100000 in
theorem hh_isKept_does_17 : GoodIn wsL_isKept wsL_does_r17 := goodIn_r _ [393, 394, 395, 396, 397, 398, 399, 400, 401, 402, 403, 404, 405, 406, 407, 408, 409, 410, 411, 412, 413, 414, 415, 416] (by decide +kernel) (by decide +kernel)
set_option maxRecDepth 100000 in
theorem hh_isKept_does_18 : GoodIn wsL_isKept wsL_does_r18 := goodIn_r _ [417, 418, 419, 420, 421, 422, 423, 424, 425, 426, 427, 428, 429, 430, 431, 432, 433, 434, 435, 436, 437, 438, 439, 440] (by decide +kernel) (by decide +kernel)
set_option maxRecDepth 100000 in
theorem hh_isKept_does_19 : GoodIn wsL_isKept wsL_does_r19 := goodIn_r _ [441, 442, 443, 444, 445, 446, 447, 448, 449, 450, 451, 452, 453, 454, 455, 456, 457, 458, 459, 460, 461, 462, 463, 464] (by decide +kernel) (by decide +kernel)
set_option maxRecDepth 100000 in
theorem hh_isKept_does_20 : GoodIn wsL_isKept wsL_does_r20 := goodIn_r _ [465, 466, 467, 468, 469, 470, 471, 472, 473, 474, 475, 476, 477, 478, 479, 480, 481, 482, 483] (by decide +kernel) (by decide +kernel)
set_option maxRecDepth 100000 in
theorem hh_isKept_does_c0 : GoodIn wsL_isKept (wsX60) := goodIn_sub (by decide +kernel) (by decide +kernel)
set_option maxRecDepth 100000 in
theorem hh_isKept_does_c1 : GoodIn wsL_isKept (wsX50) := goodIn_sub (by decide +kernel) (by decide +kernel)
set_option maxRecDepth 100000 in
theorem hh_isKept_does_c2 : GoodIn wsL_isKept (wsX20) := goodIn_sub (by decide +kernel) (by decide +kernel)
set_option maxRecDepth 100000 in
theorem hh_isKept_does_c3 : GoodIn wsL_isKept (wsX10) := goodIn_sub (by decide +kernel) (by decide +kernel)
set_option maxRecDepth 100000 in
theorem hh_isKept_does_c4 : GoodIn wsL_isKept (wsX30) := goodIn_sub (by decide +kernel) (by decide +kernel)
set_option maxRecDepth 100000 in
theorem hh_isKept_does_c5 : GoodIn wsL_isKept (wsX00) := goodIn_sub (by decide +kernel) (by decide +kernel)
set_option maxRecDepth 100000 in
theorem hh_isKept_does_c6 : GoodIn wsL_isKept (wsX40) := goodIn_sub (by decide +kernel) (by decide +kernel)
set_option maxRecDepth 100000 in
theorem hh_isKept_does_c7 : GoodIn wsL_isKept ((vx_atS RX6 70 "java/lang/IllegalArgumentException" ["java/lang/RuntimeException", "java/lang/Exception"]).filter goodWord) := goodIn_sub (by decide +kernel) (by decide +kernel)
set_option maxRecDepth 100000 in
theorem hh_isKept_does_c8 : GoodIn wsL_isKept ((vx_atS RX6 94 "java/lang/IllegalStateException" ["java/lang/RuntimeException", "java/lang/Exception"]).filter goodWord) := goodIn_sub (by decide +kernel) (by decide +kernel)
set_option maxRecDepth 100000 in
theorem hh_isKept_does_c9 : GoodIn wsL_isKept ((vx_atS RX6 225 "java/lang/IndexOutOfBoundsException" ["java/lang/RuntimeException", "java/lang/Exception"]).filter goodWord) := goodIn_sub (by decide +kernel) (by decide +kernel)
set_option maxRecDepth 100000 in
theorem ggL_isKept_L_does : GoodIn wsL_isKept wsL_does := goodIn_app hh_isKept_does_0 (goodIn_app (goodIn_app (goodIn_app (goodIn_app (goodIn_app (goodIn_app (goodIn_app (goodIn_app (goodIn_app (goodIn_app (goodIn_app hh_isKept_does_1 (goodIn_app hh_isKept_does_2 (goodIn_app hh_isKept_does_3 (goodIn_app hh_isKept_does_4 (goodIn_app hh_isKept_does_5 (goodIn_app hh_isKept_does_6 (goodIn_app hh_isKept_does_7 (goodIn_app hh_isKept_does_8 (goodIn_app hh_isKept_does_9 (goodIn_app hh_isKept_does_10 (goodIn_app hh_isKept_does_11 (goodIn_app hh_isKept_does_12 (goodIn_app hh_isKept_does_13 (goodIn_app hh_isKept_does_14 (goodIn_app hh_isKept_does_15 (goodIn_app hh_isKept_does_16 (goodIn_app hh_isKept_does_17 (goodIn_app hh_isKept_does_18 (goodIn_app hh_isKept_does_19 hh_isKept_does_20))))))))))))))))))) hh_isKept_does_c0) hh_isKept_does_c1) hh_isKept_does_c2) hh_isKept_does_c3) hh_isKept_does_c4) hh_isKept_does_c5) hh_isKept_does_c6) hh_isKept_does_c7) hh_isKept_does_c8) hh_isKept_does_c9)
set_option maxRecDepth 20000 in
theorem gL_isKept_L_does : GoodIn wsL_isKept (va_wsS RL 88 yL_does wsL_does) := goodIn_app (goodIn_of _ (by decide +kernel)) ggL_isKept_L_does
set_option maxRecDepth 20000 in
theorem ggL_law_X6_init : GoodIn wsL_law wsX6_init := goodIn_r _ [7, 8, 9, 10, 11, 12, 13, 14, 15, 16, 17, 18, 19, 20, 21, 22, 23, 24, 25, 26, 27, 28, 29, 30, 31, 32, 33, 34, 35, 36, 37, 38, 39, 40, 41, 42, 43, 44, 45, 46, 47, 48, 49, 3, 50, 51, 52, 53, 54, 55, 56, 57, 58, 59, 60, 61, 62, 63, 64, 65, 66, 67, 68, 69, 70, 71, 72, 73, 74, 75, 76, 77, 78, 79, 80, 81, 82, 83, 84, 85, 86, 87, 88, 89, 90, 91, 92, 93, 94, 95, 96, 97, 585, 586, 576, 577, 578, 579, 580, 581, 582, 583, 584, 587, 588, 589, 590, 591, 592, 593, 594, 595, 596, 597, 598, 599, 600, 601, 602, 603, 604, 605, 606, 607, 608, 609, 610, 611, 612, 613, 614, 615, 616, 617, 618] (by decide +kernel) (by decide +kernel)
set_option maxRecDepth 20000 in
theorem gL_law_X6_init : GoodIn wsL_law (wsX6_init) := ggL_law_X6_init
set_option maxRecDepth 20000 in
theorem ggL_law_L_cell : GoodIn wsL_law wsL_cell := goodIn_r _ [101] (by decide +kernel) (by decide +kernel)
set_option maxRecDepth 20000 in
theorem gL_law_L_cell : GoodIn wsL_law (va_wsS RL 108 yL_cell wsL_cell) := goodIn_app (goodIn_of _ (by decide +kernel)) ggL_law_L_cell
