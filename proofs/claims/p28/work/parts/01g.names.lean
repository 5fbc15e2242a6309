set_option maxRecDepth 20000 in
theorem gilL_bonds_L_step_1 : GoodIn wsL_bonds [.code yL_step cL_step 12 (some .boolean)] := goodIn_r _ [62] (by decide +kernel) (by decide +kernel)
set_option maxRecDepth 20000 in
theorem gilL_bonds_L_step_2 : GoodIn wsL_bonds wsL_step_r1 := goodIn_r _ [63, 64, 55, 65, 66, 67, 68, 3, 69, 70, 71, 72, 73, 74, 75, 15, 76, 77, 78, 79, 80, 81, 82, 83] (by decide +kernel) (by decide +kernel)
set_option maxRecDepth 20000 in
theorem gilL_bonds_L_step_3 : GoodIn wsL_bonds wsL_step_r2 := goodIn_r _ [17, 84, 85, 86, 87, 88, 89, 90, 91, 92, 93, 94, 22, 20, 18, 95, 96, 19, 97, 98, 99, 100, 101, 102] (by decide +kernel) (by decide +kernel)
set_option maxRecDepth 20000 in
theorem gilL_bonds_L_step_4 : GoodIn wsL_bonds wsL_step_r3 := goodIn_r _ [103, 104, 105, 106, 107, 108, 25, 109, 110, 34, 33, 111, 112, 113, 10, 11, 114, 4, 115, 116, 117, 118, 119, 120] (by decide +kernel) (by decide +kernel)
set_option maxRecDepth 20000 in
theorem gilL_bonds_L_step_5 : GoodIn wsL_bonds wsL_step_r4 := goodIn_r _ [121, 122, 123, 124, 125, 126, 127, 23, 128, 129, 130, 131, 132, 133, 134, 135, 136, 137, 138, 139, 140, 141, 142, 143] (by decide +kernel) (by decide +kernel)
set_option maxRecDepth 20000 in
theorem gilL_bonds_L_step_6 : GoodIn wsL_bonds wsL_step_r5 := goodIn_r _ [144, 145, 146, 147, 148, 149, 150, 151, 152, 153, 154, 155, 156, 157, 158, 159, 160, 161, 162, 163, 164, 165, 166, 167] (by decide +kernel) (by decide +kernel)
set_option maxRecDepth 20000 in
theorem gilL_bonds_L_step_7 : GoodIn wsL_bonds wsL_step_r6 := goodIn_r _ [168, 169, 170, 171, 172, 173, 174, 175, 176, 177, 178, 179, 180, 181, 182, 183, 184, 185, 186, 187, 188, 189, 190, 191] (by decide +kernel) (by decide +kernel)
set_option maxRecDepth 20000 in
theorem gilL_bonds_L_step_8 : GoodIn wsL_bonds wsL_step_r7 := goodIn_r _ [192, 193, 194, 195, 196, 197, 198, 199, 200, 201, 202, 203, 204, 205, 206, 207, 208, 21, 209, 210, 211, 212, 213, 214] (by decide +kernel) (by decide +kernel)
set_option maxRecDepth 20000 in
theorem gilL_bonds_L_step_9 : GoodIn wsL_bonds wsL_step_r8 := goodIn_r _ [215, 216, 217, 218, 219, 220, 221, 222, 223, 224, 225, 226, 227, 13, 228, 229, 230, 231, 232, 233, 234, 235, 236, 237] (by decide +kernel) (by decide +kernel)
set_option maxRecDepth 20000 in
theorem gilL_bonds_L_step_10 : GoodIn wsL_bonds wsL_step_r9 := goodIn_r _ [238, 239, 240, 241, 242, 243, 244, 245, 246, 247, 248, 249, 250, 251, 252, 253, 254, 255, 256, 257, 258, 259, 260, 261] (by decide +kernel) (by decide +kernel)
set_option maxRecDepth 20000 in
theorem gilL_bonds_L_step_11 : GoodIn wsL_bonds wsL_step_r10 := goodIn_r _ [262, 263, 264, 265, 266, 267, 268, 269, 270, 271, 272, 273, 274, 275, 276, 277, 278, 279, 280, 281, 282, 283, 284, 285] (by decide +kernel) (by decide +kernel)
set_option maxRecDepth 20000 in
theorem gilL_bonds_L_step_12 : GoodIn wsL_bonds wsL_step_r11 := goodIn_r _ [286, 287, 288, 289, 290, 291, 292, 293, 294, 295, 296, 297, 298, 299, 300, 301, 302, 303] (by decide +kernel) (by decide +kernel)
set_option maxRecDepth 20000 in
theorem gilL_bonds_L_step_13 : GoodIn wsL_bonds wsX40 := goodIn_sub (by decide +kernel) (by decide +kernel)
set_option maxRecDepth 20000 in
theorem gilL_bonds_L_step_14 : GoodIn wsL_bonds wsX60 := goodIn_sub (by decide +kernel) (by decide +kernel)
set_option maxRecDepth 20000 in
theorem gilL_bonds_L_step_15 : GoodIn wsL_bonds wsX00 := goodIn_sub (by decide +kernel) (by decide +kernel)
set_option maxRecDepth 20000 in
theorem gilL_bonds_L_step_16 : GoodIn wsL_bonds wsX50 := goodIn_sub (by decide +kernel) (by decide +kernel)
set_option maxRecDepth 20000 in
theorem gilL_bonds_L_step_17 : GoodIn wsL_bonds wsX20 := goodIn_sub (by decide +kernel) (by decide +kernel)
set_option maxRecDepth 20000 in
theorem gilL_bonds_L_step_18 : GoodIn wsL_bonds wsX30 := goodIn_sub (by decide +kernel) (by decide +kernel)
set_option maxRecDepth 20000 in
theorem gilL_bonds_L_step_19 : GoodIn wsL_bonds wsX10 := goodIn_sub (by decide +kernel) (by decide +kernel)
set_option maxRecDepth 20000 in
theorem gilL_bonds_L_step_20 : GoodIn wsL_bonds ((vx_atS RX6 63 "java/lang/IndexOutOfBoundsException" ["java/lang/RuntimeException", "java/lang/Exception"]).filter goodWord) := goodIn_sub (by decide +kernel) (by decide +kernel)
set_option maxRecDepth 20000 in
theorem gilL_bonds_L_step_21 : GoodIn wsL_bonds ((vx_atS RX6 105 "java/lang/IllegalStateException" ["java/lang/RuntimeException", "java/lang/Exception"]).filter goodWord) := goodIn_sub (by decide +kernel) (by decide +kernel)
set_option maxRecDepth 20000 in
theorem gilL_bonds_L_step_22 : GoodIn wsL_bonds ((vx_atS RX6 97 "java/lang/IllegalArgumentException" ["java/lang/RuntimeException", "java/lang/Exception"]).filter goodWord) := goodIn_sub (by decide +kernel) (by decide +kernel)
theorem ggL_bonds_L_step : GoodIn wsL_bonds wsL_step := fun w h => (List.mem_cons.mp h).elim (fun e => gilL_bonds_L_step_1 w (by rw [e]; exact List.mem_cons_self)) ((goodIn_app (goodIn_app (goodIn_app (goodIn_app (goodIn_app (goodIn_app (goodIn_app (goodIn_app (goodIn_app (goodIn_app (goodIn_app gilL_bonds_L_step_2 (goodIn_app gilL_bonds_L_step_3 (goodIn_app gilL_bonds_L_step_4 (goodIn_app gilL_bonds_L_step_5 (goodIn_app gilL_bonds_L_step_6 (goodIn_app gilL_bonds_L_step_7 (goodIn_app gilL_bonds_L_step_8 (goodIn_app gilL_bonds_L_step_9 (goodIn_app gilL_bonds_L_step_10 (goodIn_app gilL_bonds_L_step_11 gilL_bonds_L_step_12)))))))))) gilL_bonds_L_step_13) gilL_bonds_L_step_14) gilL_bonds_L_step_15) gilL_bonds_L_step_16) gilL_bonds_L_step_17) gilL_bonds_L_step_18) gilL_bonds_L_step_19) gilL_bonds_L_step_20) gilL_bonds_L_step_21) gilL_bonds_L_step_22) w)
set_option maxRecDepth 20000 in
theorem gL_bonds_L_step : GoodIn wsL_bonds (va_wsS RL 129 yL_step wsL_step) := goodIn_app (goodIn_of _ (by decide +kernel)) ggL_bonds_L_step
set_option maxRecDepth 20000 in
theorem gilL_bonds_L_areReadings_1 : GoodIn wsL_bonds [.code yL_areReadings cL_areReadings 13 (some .boolean)] := goodIn_r _ [313] (by decide +kernel) (by decide +kernel)
set_option maxRecDepth 20000 in
theorem gilL_bonds_L_areReadings_2 : GoodIn wsL_bonds wsL_areReadings_r1 := goodIn_r _ [314, 315, 316, 3, 317, 20, 318, 319, 320, 321, 22, 228, 229, 230, 231, 156, 157, 158, 159, 74, 75, 19, 322, 323] (by decide +kernel) (by decide +kernel)
set_option maxRecDepth 20000 in
theorem gilL_bonds_L_areReadings_3 : GoodIn wsL_bonds wsL_areReadings_r2 := goodIn_r _ [324, 325, 326, 327, 328, 329, 330, 331, 332, 333, 334, 335, 336, 337, 338, 339, 340, 10, 11, 341, 342, 343, 344, 345] (by decide +kernel) (by decide +kernel)
set_option maxRecDepth 20000 in
theorem gilL_bonds_L_areReadings_4 : GoodIn wsL_bonds wsL_areReadings_r3 := goodIn_r _ [346, 347, 348, 349, 350, 351, 352, 353, 354, 355, 356, 357, 358, 359, 360, 361, 362, 363, 364, 365, 366, 367, 368, 369] (by decide +kernel) (by decide +kernel)
set_option maxRecDepth 20000 in
theorem gilL_bonds_L_areReadings_5 : GoodIn wsL_bonds wsL_areReadings_r4 := goodIn_r _ [370, 371, 372, 373, 374, 375, 376, 377, 378, 129, 130, 131, 379, 380, 381, 382, 383, 384, 385, 386, 387, 388, 389, 390] (by decide +kernel) (by decide +kernel)
set_option maxRecDepth 20000 in
theorem gilL_bonds_L_areReadings_6 : GoodIn wsL_bonds wsL_areReadings_r5 := goodIn_r _ [391, 392, 393, 207, 208, 394, 395, 396, 397, 398, 399, 400, 401, 402, 403, 404, 405, 406, 407, 408, 409, 410, 411, 412] (by decide +kernel) (by decide +kernel)
set_option maxRecDepth 20000 in
theorem gilL_bonds_L_areReadings_7 : GoodIn wsL_bonds wsL_areReadings_r6 := goodIn_r _ [413, 414, 415, 416, 417, 418, 419, 420, 421, 422, 423, 424, 425, 426, 427, 428, 429, 430, 431, 432, 433, 434, 435, 436] (by decide +kernel) (by decide +kernel)
set_option maxRecDepth 20000 in
theorem gilL_bonds_L_areReadings_8 : GoodIn wsL_bonds wsL_areReadings_r7 := goodIn_r _ [437, 438, 439, 440, 441, 442, 443, 444, 445, 446, 447, 448, 449, 450, 451, 452, 453, 454, 455, 456, 457, 458, 459, 460] (by decide +kernel) (by decide +kernel)
set_option maxRecDepth 20000 in
theorem gilL_bonds_L_areReadings_9 : GoodIn wsL_bonds wsL_areReadings_r8 := goodIn_r _ [461, 462, 463, 464, 465, 466, 467, 468, 469, 470, 471, 472, 473, 474, 475, 476, 477, 478, 479, 480, 481, 482, 483, 484] (by decide +kernel) (by decide +kernel)
set_option maxRecDepth 20000 in
theorem gilL_bonds_L_areReadings_10 : GoodIn wsL_bonds wsL_areReadings_r9 := goodIn_r _ [485, 486, 487, 488, 489, 490, 491, 492, 493, 494, 495, 496, 497, 498, 499, 500, 501, 502, 503, 504, 505, 506, 507, 508] (by decide +kernel) (by decide +kernel)
set_option maxRecDepth 20000 in
theorem gilL_bonds_L_areReadings_11 : GoodIn wsL_bonds wsL_areReadings_r10 := goodIn_r _ [232, 233, 234, 235, 236, 237, 238, 239, 253, 254, 255, 256, 195, 155, 196, 197, 164, 163] (by decide +kernel) (by decide +kernel)
set_option maxRecDepth 20000 in
theorem gilL_bonds_L_areReadings_12 : GoodIn wsL_bonds wsX60 := goodIn_sub (by decide +kernel) (by decide +kernel)
set_option maxRecDepth 20000 in
theorem gilL_bonds_L_areReadings_13 : GoodIn wsL_bonds wsX20 := goodIn_sub (by decide +kernel) (by decide +kernel)
set_option maxRecDepth 20000 in
theorem gilL_bonds_L_areReadings_14 : GoodIn wsL_bonds wsJ40 := goodIn_sub (by decide +kernel) (by decide +kernel)
set_option maxRecDepth 20000 in
theorem gilL_bonds_L_areReadings_15 : GoodIn wsL_bonds wsX40 := goodIn_sub (by decide +kernel) (by decide +kernel)
set_option maxRecDepth 20000 in
theorem gilL_bonds_L_areReadings_16 : GoodIn wsL_bonds wsX10 := goodIn_sub (by decide +kernel) (by decide +kernel)
set_option maxRecDepth 20000 in
theorem gilL_bonds_L_areReadings_17 : GoodIn wsL_bonds ((vx_atS RX6 63 "java/lang/IndexOutOfBoundsException" ["java/lang/RuntimeException", "java/lang/Exception"]).filter goodWord) := goodIn_sub (by decide +kernel) (by decide +kernel)
theorem ggL_bonds_L_areReadings : GoodIn wsL_bonds wsL_areReadings := fun w h => (List.mem_cons.mp h).elim (fun e => gilL_bonds_L_areReadings_1 w (by rw [e]; exact List.mem_cons_self)) ((goodIn_app (goodIn_app (goodIn_app (goodIn_app (goodIn_app (goodIn_app (goodIn_app gilL_bonds_L_areReadings_2 (goodIn_app gilL_bonds_L_areReadings_3 (goodIn_app gilL_bonds_L_areReadings_4 (goodIn_app gilL_bonds_L_areReadings_5 (goodIn_app gilL_bonds_L_areReadings_6 (goodIn_app gilL_bonds_L_areReadings_7 (goodIn_app gilL_bonds_L_areReadings_8 (goodIn_app gilL_bonds_L_areReadings_9 (goodIn_app gilL_bonds_L_areReadings_10 gilL_bonds_L_areReadings_11))))))))) gilL_bonds_L_areReadings_12) gilL_bonds_L_areReadings_13) gilL_bonds_L_areReadings_14) gilL_bonds_L_areReadings_15) gilL_bonds_L_areReadings_16) gilL_bonds_L_areReadings_17) w)
set_option maxRecDepth 20000 in
theorem gL_bonds_L_areReadings : GoodIn wsL_bonds (va_wsS RL 137 yL_areReadings wsL_areReadings) := goodIn_app (goodIn_of _ (by decide +kernel)) ggL_bonds_L_areReadings
set_option maxRecDepth 20000 in
theorem gilL_law_L_bonds_1 : GoodIn wsL_law [.code yL_bonds cL_bonds 9 (some .boolean)] := goodIn_r _ [3] (by decide +kernel) (by decide +kernel)
set_option maxRecDepth 20000 in
theorem gilL_law_L_bonds_2 : GoodIn wsL_law wsL_bonds_r1 := goodIn_r _ [4, 5, 6, 7, 8, 9, 10, 11, 12, 13, 14, 15, 16, 17, 18, 19, 20, 21, 22, 23, 24, 25, 26, 27] (by decide +kernel) (by decide +kernel)
set_option maxRecDepth 20000 in
theorem gilL_law_L_bonds_3 : GoodIn wsL_law wsL_bonds_r2 := goodIn_r _ [28, 29, 30, 31, 32, 33, 34, 35, 36, 37, 38, 39, 40, 41, 42, 43, 44, 45, 46, 47, 48, 49, 50, 51] (by decide +kernel) (by decide +kernel)
set_option maxRecDepth 20000 in
theorem gilL_law_L_bonds_4 : GoodIn wsL_law wsL_bonds_r3 := goodIn_r _ [52, 53, 54, 55, 56, 57, 2, 58, 59, 60, 61, 62, 63, 64, 65, 66, 67, 68, 69, 70, 71, 72, 73, 74] (by decide +kernel) (by decide +kernel)
set_option maxRecDepth 20000 in
theorem gilL_law_L_bonds_5 : GoodIn wsL_law wsL_bonds_r4 := goodIn_r _ [75, 76, 77, 78, 79, 80, 81, 82, 83, 84, 85, 86, 87, 88, 89, 90, 91, 92, 93, 94, 95, 96, 97, 98] (by decide +kernel) (by decide +kernel)
set_option maxRecDepth 20000 in
theorem gilL_law_L_bonds_6 : GoodIn wsL_law wsL_bonds_r5 := goodIn_r _ [99, 100, 101, 102, 103, 104, 105, 106, 107, 108, 109, 110, 111, 112, 113, 114, 115, 116, 117, 118, 119, 120, 121, 122] (by decide +kernel) (by decide +kernel)
set_option maxRecDepth 20000 in
theorem gilL_law_L_bonds_7 : GoodIn wsL_law wsL_bonds_r6 := goodIn_r _ [123, 124, 125, 126, 127, 128, 129, 130, 131, 132, 133, 134, 135, 136, 137, 138, 139, 140, 141, 142, 143, 144, 145, 146] (by decide +kernel) (by decide +kernel)
set_option maxRecDepth 20000 in
theorem gilL_law_L_bonds_8 : GoodIn wsL_law wsL_bonds_r7 := goodIn_r _ [147, 148, 149, 150, 151, 152, 153, 154, 155, 156, 157, 158, 159, 160, 161, 162, 163, 164, 165, 166, 167, 168, 169, 170] (by decide +kernel) (by decide +kernel)
set_option maxRecDepth 20000 in
theorem gilL_law_L_bonds_9 : GoodIn wsL_law wsL_bonds_r8 := goodIn_r _ [171, 172, 173, 174, 175, 176, 177, 178, 179, 180, 181, 182, 183, 184, 185, 186, 187, 188, 189, 190, 191, 192, 193, 194] (by decide +kernel) (by decide +kernel)
set_option maxRecDepth 20000 in
theorem gilL_law_L_bonds_10 : GoodIn wsL_law wsL_bonds_r9 := goodIn_r _ [195, 196, 197, 198, 199, 200, 201, 202, 203, 204, 205, 206, 207, 208, 209, 210, 211, 212, 213, 214, 215, 216, 217, 218] (by decide +kernel) (by decide +kernel)
set_option maxRecDepth 20000 in
theorem gilL_law_L_bonds_11 : GoodIn wsL_law wsL_bonds_r10 := goodIn_r _ [219, 220, 221, 222, 223, 224, 225, 226, 227, 228, 229, 230, 231, 232, 233, 234, 235, 236, 237, 238, 239, 240, 241, 242] (by decide +kernel) (by decide +kernel)
set_option maxRecDepth 20000 in
theorem gilL_law_L_bonds_12 : GoodIn wsL_law wsL_bonds_r11 := goodIn_r _ [243, 244, 245, 246, 247, 248, 249, 250, 251, 252, 253, 254, 255, 256, 257, 258, 259, 260, 261, 262, 263, 264, 265, 266] (by decide +kernel) (by decide +kernel)
set_option maxRecDepth 20000 in
theorem gilL_law_L_bonds_13 : GoodIn wsL_law wsL_bonds_r12 := goodIn_r _ [267, 268, 269, 270, 271, 272, 273, 274, 275, 276, 277, 278, 279, 280, 281, 282, 283, 284, 285, 286, 287, 288, 289, 290] (by decide +kernel) (by decide +kernel)
set_option maxRecDepth 20000 in
theorem gilL_law_L_bonds_14 : GoodIn wsL_law wsL_bonds_r13 := goodIn_r _ [291, 292, 293, 294, 295, 296, 297, 298, 299, 300, 301, 302, 303, 304, 305, 306, 307, 308, 309, 310, 311, 312, 313, 314] (by decide +kernel) (by decide +kernel)
set_option maxRecDepth 20000 in
theorem gilL_law_L_bonds_15 : GoodIn wsL_law wsL_bonds_r14 := goodIn_r _ [315, 316, 317, 318, 319, 320, 321, 322, 323, 324, 325, 326, 327, 328, 329, 330, 331, 332, 333, 334, 335, 336, 337, 338] (by decide +kernel) (by decide +kernel)
set_option maxRecDepth 20000 in
theorem gilL_law_L_bonds_16 : GoodIn wsL_law wsL_bonds_r15 := goodIn_r _ [339, 340, 341, 342, 343, 344, 345, 346, 347, 348, 349, 350, 351, 352, 353, 354, 355, 356, 357, 358, 359, 360, 361, 362] (by decide +kernel) (by decide +kernel)
set_option maxRecDepth 20000 in
theorem gilL_law_L_bonds_17 : GoodIn wsL_law wsL_bonds_r16 := goodIn_r _ [363, 364, 365, 366, 367, 368, 369, 370, 371, 372, 373, 374, 375, 376, 377, 378, 379, 380, 381, 382, 383, 384, 385, 386] (by decide +kernel) (by decide +kernel)
set_option maxRecDepth 20000 in
theorem gilL_law_L_bonds_18 : GoodIn wsL_law wsL_bonds_r17 := goodIn_r _ [387, 388, 389, 390, 391, 392, 393, 394, 395, 396, 397, 398, 399, 400, 401, 402, 403, 404, 405, 406, 407, 408, 409, 410] (by decide +kernel) (by decide +kernel)
set_option maxRecDepth 20000 in
theorem gilL_law_L_bonds_19 : GoodIn wsL_law wsL_bonds_r18 := goodIn_r _ [411, 412, 413, 414, 415, 416, 417, 418, 419, 420, 421, 422, 423, 424, 425, 426, 427, 428, 429, 430, 431, 432, 433, 434] (by decide +kernel) (by decide +kernel)
set_option maxRecDepth 20000 in
theorem gilL_law_L_bonds_20 : GoodIn wsL_law wsL_bonds_r19 := goodIn_r _ [435, 436, 437, 438, 439, 440, 441, 442, 443, 444, 445, 446, 447, 448, 449, 450, 451, 452, 453, 454, 455, 456, 457, 458] (by decide +kernel) (by decide +kernel)
set_option maxRecDepth 20000 in
theorem gilL_law_L_bonds_21 : GoodIn wsL_law wsL_bonds_r20 := goodIn_r _ [459, 460, 461, 462, 463, 464, 465, 466, 467, 468, 469, 470, 471, 472, 473, 474, 475, 476, 477, 478, 479, 480, 481, 482] (by decide +kernel) (by decide +kernel)
set_option maxRecDepth 20000 in
theorem gilL_law_L_bonds_22 : GoodIn wsL_law wsL_bonds_r21 := goodIn_r _ [483, 484, 485, 486, 487, 488, 489, 490, 491, 492, 493, 494, 495, 496, 497, 498, 499, 500, 501, 502, 503, 504, 505, 506] (by decide +kernel) (by decide +kernel)
set_option maxRecDepth 20000 in
theorem gilL_law_L_bonds_23 : GoodIn wsL_law wsL_bonds_r22 := goodIn_r _ [507, 508, 509, 510, 511, 512, 513, 514, 515, 516, 517, 518, 519, 520] (by decide +kernel) (by decide +kernel)
set_option maxRecDepth 20000 in
theorem gilL_law_L_bonds_24 : GoodIn wsL_law wsX60 := goodIn_sub (by decide +kernel) (by decide +kernel)
set_option maxRecDepth 20000 in
theorem gilL_law_L_bonds_25 : GoodIn wsL_law wsX30 := goodIn_sub (by decide +kernel) (by decide +kernel)
set_option maxRecDepth 20000 in
theorem gilL_law_L_bonds_26 : GoodIn wsL_law wsX40 := goodIn_sub (by decide +kernel) (by decide +kernel)
set_option maxRecDepth 20000 in
theorem gilL_law_L_bonds_27 : GoodIn wsL_law wsX00 := goodIn_sub (by decide +kernel) (by decide +kernel)
set_option maxRecDepth 20000 in
theorem gilL_law_L_bonds_28 : GoodIn wsL_law wsX50 := goodIn_sub (by decide +kernel) (by decide +kernel)
set_option maxRecDepth 20000 in
theorem gilL_law_L_bonds_29 : GoodIn wsL_law wsX20 := goodIn_sub (by decide +kernel) (by decide +kernel)
set_option maxRecDepth 20000 in
theorem gilL_law_L_bonds_30 : GoodIn wsL_law wsX10 := goodIn_sub (by decide +kernel) (by decide +kernel)
set_option maxRecDepth 20000 in
theorem gilL_law_L_bonds_31 : GoodIn wsL_law wsJ40 := goodIn_sub (by decide +kernel) (by decide +kernel)
set_option maxRecDepth 20000 in
theorem gilL_law_L_bonds_32 : GoodIn wsL_law ((vx_atS RX6 63 "java/lang/IndexOutOfBoundsException" ["java/lang/RuntimeException", "java/lang/Exception"]).filter goodWord) := goodIn_sub (by decide +kernel) (by decide +kernel)
set_option maxRecDepth 20000 in
theorem gilL_law_L_bonds_33 : GoodIn wsL_law ((vx_atS RX6 105 "java/lang/IllegalStateException" ["java/lang/RuntimeException", "java/lang/Exception"]).filter goodWord) := goodIn_sub (by decide +kernel) (by decide +kernel)
set_option maxRecDepth 20000 in
theorem gilL_law_L_bonds_34 : GoodIn wsL_law ((vx_atS RX6 97 "java/lang/IllegalArgumentException" ["java/lang/RuntimeException", "java/lang/Exception"]).filter goodWord) := goodIn_sub (by decide +kernel) (by decide +kernel)
theorem ggL_law_L_bonds : GoodIn wsL_law wsL_bonds := fun w h => (List.mem_cons.mp h).elim (fun e => gilL_law_L_bonds_1 w (by rw [e]; exact List.mem_cons_self)) ((goodIn_app (goodIn_app (goodIn_app (goodIn_app (goodIn_app (goodIn_app (goodIn_app (goodIn_app (goodIn_app (goodIn_app (goodIn_app (goodIn_app gilL_law_L_bonds_2 (goodIn_app gilL_law_L_bonds_3 (goodIn_app gilL_law_L_bonds_4 (goodIn_app gilL_law_L_bonds_5 (goodIn_app gilL_law_L_bonds_6 (goodIn_app gilL_law_L_bonds_7 (goodIn_app gilL_law_L_bonds_8 (goodIn_app gilL_law_L_bonds_9 (goodIn_app gilL_law_L_bonds_10 (goodIn_app gilL_law_L_bonds_11 (goodIn_app gilL_law_L_bonds_12 (goodIn_app gilL_law_L_bonds_13 (goodIn_app gilL_law_L_bonds_14 (goodIn_app gilL_law_L_bonds_15 (goodIn_app gilL_law_L_bonds_16 (goodIn_app gilL_law_L_bonds_17 (goodIn_app gilL_law_L_bonds_18 (goodIn_app gilL_law_L_bonds_19 (goodIn_app gilL_law_L_bonds_20 (goodIn_app gilL_law_L_bonds_21 (goodIn_app gilL_law_L_bonds_22 gilL_law_L_bonds_23))))))))))))))))))))) gilL_law_L_bonds_24) gilL_law_L_bonds_25) gilL_law_L_bonds_26) gilL_law_L_bonds_27) gilL_law_L_bonds_28) gilL_law_L_bonds_29) gilL_law_L_bonds_30) gilL_law_L_bonds_31) gilL_law_L_bonds_32) gilL_law_L_bonds_33) gilL_law_L_bonds_34) w)
set_option maxRecDepth 20000 in
theorem gL_law_L_bonds : GoodIn wsL_law (va_wsS RL 144 yL_bonds wsL_bonds) := goodIn_app (goodIn_of _ (by decide +kernel)) ggL_law_L_bonds
