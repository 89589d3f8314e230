set_option maxRecDepth 20000 in
theorem ggL_law_L_cell : GoodIn wsL_law wsL_cell := goodIn_r _ [84, 85] (by decide +kernel) (by decide +kernel)
set_option maxRecDepth 20000 in
theorem gL_law_L_cell : GoodIn wsL_law (va_wsS RL 12 yL_cell wsL_cell) := goodIn_app (goodIn_of _ (by decide +kernel)) ggL_law_L_cell
set_option maxRecDepth 20000 in
theorem ggL_law_L_below : GoodIn wsL_law wsL_below := goodIn_r _ [88, 89] (by decide +kernel) (by decide +kernel)
set_option maxRecDepth 20000 in
theorem gL_law_L_below : GoodIn wsL_law (va_wsS RL 18 yL_below wsL_below) := goodIn_app (goodIn_of _ (by decide +kernel)) ggL_law_L_below
set_option maxRecDepth 20000 in
theorem ggL_law_L_running : GoodIn wsL_law wsL_running := goodIn_ca (goodIn_ca (goodIn_r _ [253, 254, 255, 83, 256, 257, 258, 259, 2, 260, 94, 95, 13, 21, 25, 17, 34, 98, 99, 100, 12, 101, 102, 174, 175, 176, 20, 177, 178, 261, 262, 263, 24, 264, 111, 65, 265, 266, 267, 16, 268, 50, 269, 270, 271, 272, 273, 274, 275, 276, 277, 278, 279, 280, 281, 282, 283, 51, 246, 284, 285, 286, 287, 288, 289, 290, 291, 292, 293, 294, 295, 55, 296, 297, 298, 299, 300, 301, 302, 303, 58, 304, 305, 306, 307, 308, 309, 310, 311, 56, 312, 313, 314, 315, 316, 317, 318, 319, 320, 57, 321, 322, 323, 33, 324, 325, 326, 327, 328, 329, 330, 331, 332, 333, 334, 29, 335, 336, 337, 338, 124, 125, 107, 108, 109, 110, 339, 340, 341, 342, 63, 343, 344, 345, 346, 347, 348, 349, 350, 66, 351, 352, 353, 354, 67, 355, 356, 357, 358, 68, 359, 360, 361, 28, 362, 74, 363, 364, 365, 366, 367, 211, 212, 213, 368, 369, 370, 371, 372, 373, 374, 375, 376, 377, 378, 379, 69, 617, 618, 619, 620, 621, 622, 623, 624, 625, 626, 627, 628, 629, 633, 634, 635, 636, 637, 638, 639, 640, 641, 642, 643, 644, 645, 646, 630, 631, 632, 648, 649, 647] (by decide +kernel) (by decide +kernel)) (goodIn_sub (fun _ h => List.mem_append_left _ (List.mem_append_left _ (List.mem_append_right _ h))) (by decide +kernel))) (goodIn_sub (fun _ h => List.mem_append_right _ h) (by decide +kernel))
set_option maxRecDepth 20000 in
theorem gL_law_L_running : GoodIn wsL_law (va_wsS RL 42 yL_running wsL_running) := goodIn_app (goodIn_of _ (by decide +kernel)) ggL_law_L_running
set_option maxRecDepth 20000 in
theorem ggL_law_L_interviews : GoodIn wsL_law wsL_interviews := goodIn_ca (goodIn_r _ [256, 257, 258, 259, 2, 260, 94, 95, 13, 21, 25, 17, 34, 98, 99, 100, 12, 101, 102, 174, 175, 176, 20, 177, 178, 261, 262, 263, 24, 264, 111, 65, 265, 266, 267, 16, 268, 50, 269, 270, 271, 272, 273, 274, 275, 276, 277, 278, 279, 280, 281, 282, 283, 51, 246, 284, 285, 286, 287, 288, 289, 290, 291, 292, 293, 294, 295, 55, 296, 297, 298, 299, 300, 301, 302, 303, 58, 304, 305, 306, 307, 308, 309, 310, 311, 56, 312, 313, 314, 315, 316, 317, 318, 319, 320, 57, 321, 322, 323, 33, 324, 325, 326, 327, 328, 329, 330, 617, 618, 619, 620, 621, 622, 623, 624, 625, 626, 627, 628, 629, 633, 634, 635, 636, 637, 638, 639, 640, 641, 642, 643, 644, 645, 646, 630, 631, 632, 648, 649] (by decide +kernel) (by decide +kernel)) (goodIn_sub (fun _ h => List.mem_append_left _ (List.mem_append_left _ (List.mem_append_right _ h))) (by decide +kernel))
set_option maxRecDepth 20000 in
theorem gL_law_L_interviews : GoodIn wsL_law (va_wsS RL 53 yL_interviews wsL_interviews) := goodIn_app (goodIn_of _ (by decide +kernel)) ggL_law_L_interviews
set_option maxRecDepth 20000 in
theorem ggL_law_L_isNext : GoodIn wsL_law wsL_isNext := goodIn_ca (goodIn_ca (goodIn_r _ [469, 470, 471, 472, 2, 473, 94, 95, 21, 474, 475, 476, 477, 124, 125, 174, 175, 176, 20, 177, 178, 292, 293, 294, 295, 55, 220, 221, 222, 223, 224, 225, 308, 309, 310, 311, 56, 312, 313, 314, 315, 478, 479, 480, 481, 57, 296, 297, 298, 299, 25, 17, 300, 301, 302, 303, 58, 304, 305, 306, 24, 307, 111, 65, 316, 277, 278, 16, 279, 280, 281, 282, 283, 51, 50, 246, 269, 270, 271, 482, 483, 83, 484, 485, 486, 487, 488, 190, 191, 192, 168, 169, 170, 171, 172, 173, 179, 180, 181, 193, 194, 195, 196, 489, 490, 491, 492, 493, 494, 495, 496, 288, 289, 290, 291, 617, 618, 619, 620, 621, 622, 623, 624, 633, 634, 635, 636, 637, 638, 639, 640, 641, 642, 643, 644, 645, 646, 630, 631, 632] (by decide +kernel) (by decide +kernel)) (goodIn_sub (fun _ h => List.mem_append_left _ (List.mem_append_left _ (List.mem_append_right _ h))) (by decide +kernel))) (goodIn_sub (fun _ h => List.mem_append_right _ h) (by decide +kernel))
set_option maxRecDepth 20000 in
theorem gL_law_L_isNext : GoodIn wsL_law (va_wsS RL 74 yL_isNext wsL_isNext) := goodIn_app (goodIn_of _ (by decide +kernel)) ggL_law_L_isNext
set_option maxRecDepth 20000 in
theorem lgi_0 : GoodIn wsL_law [.code yL_isFair cL_isFair 12 (some .boolean)] := goodIn_r _ [544] (by decide +kernel) (by decide +kernel)
set_option maxRecDepth 20000 in
theorem lgi_wsL_isFair_r1 : GoodIn wsL_law wsL_isFair_r1 := goodIn_r _ [3, 254, 255, 83, 256, 257, 258, 259, 2, 260, 94, 95, 13, 21, 25, 17, 34, 98, 99, 100, 12, 101, 102, 174] (by decide +kernel) (by decide +kernel)
set_option maxRecDepth 20000 in
theorem lgi_wsL_isFair_r2 : GoodIn wsL_law wsL_isFair_r2 := goodIn_r _ [175, 176, 20, 177, 178, 261, 262, 263, 24, 264, 111, 65, 265, 266, 267, 16, 268, 50, 269, 270, 271, 272, 273, 274] (by decide +kernel) (by decide +kernel)
set_option maxRecDepth 20000 in
theorem lgi_wsL_isFair_r3 : GoodIn wsL_law wsL_isFair_r3 := goodIn_r _ [275, 276, 277, 278, 279, 280, 281, 282, 283, 51, 246, 284, 285, 286, 287, 288, 289, 290, 291, 292, 293, 294, 295, 55] (by decide +kernel) (by decide +kernel)
set_option maxRecDepth 20000 in
theorem lgi_wsL_isFair_r4 : GoodIn wsL_law wsL_isFair_r4 := goodIn_r _ [296, 297, 298, 299, 300, 301, 302, 303, 58, 304, 305, 306, 307, 308, 309, 310, 311, 56, 312, 313, 314, 315, 316, 317] (by decide +kernel) (by decide +kernel)
set_option maxRecDepth 20000 in
theorem lgi_wsL_isFair_r5 : GoodIn wsL_law wsL_isFair_r5 := goodIn_r _ [318, 319, 320, 57, 321, 322, 323, 33, 324, 325, 326, 327, 328, 329, 330, 331, 332, 333, 334, 29, 335, 336, 337, 338] (by decide +kernel) (by decide +kernel)
set_option maxRecDepth 20000 in
theorem lgi_wsL_isFair_r6 : GoodIn wsL_law wsL_isFair_r6 := goodIn_r _ [124, 125, 107, 108, 109, 110, 339, 340, 341, 342, 63, 343, 344, 345, 346, 347, 348, 349, 350, 66, 351, 352, 353, 354] (by decide +kernel) (by decide +kernel)
set_option maxRecDepth 20000 in
theorem lgi_wsL_isFair_r7 : GoodIn wsL_law wsL_isFair_r7 := goodIn_r _ [67, 355, 356, 357, 358, 68, 359, 360, 361, 28, 362, 74, 363, 364, 365, 366, 367, 211, 212, 213, 368, 369, 370, 371] (by decide +kernel) (by decide +kernel)
set_option maxRecDepth 20000 in
theorem lgi_wsL_isFair_r8 : GoodIn wsL_law wsL_isFair_r8 := goodIn_r _ [372, 373, 374, 375, 376, 377, 378, 379, 69, 537, 538, 539, 540, 134, 135, 136, 137, 138, 131, 132, 133, 541, 470, 471] (by decide +kernel) (by decide +kernel)
set_option maxRecDepth 20000 in
theorem lgi_wsL_isFair_r9 : GoodIn wsL_law wsL_isFair_r9 := goodIn_r _ [472, 473, 474, 475, 476, 477, 220, 221, 222, 223, 224, 225, 478, 479, 480, 481, 485, 486, 487, 488, 190, 191, 192, 168] (by decide +kernel) (by decide +kernel)
set_option maxRecDepth 20000 in
theorem lgi_wsL_isFair_r10 : GoodIn wsL_law wsL_isFair_r10 := goodIn_r _ [169, 170, 171, 172, 173, 179, 180, 181, 193, 194, 195, 196, 489, 490, 491, 492, 493, 494, 495, 496, 416, 417, 418, 419] (by decide +kernel) (by decide +kernel)
set_option maxRecDepth 20000 in
theorem lgi_wsL_isFair_r11 : GoodIn wsL_law wsL_isFair_r11 := goodIn_r _ [120, 121, 122, 123, 126, 127, 128, 129, 40, 130, 420, 421, 422, 423, 424, 425, 426, 209, 427, 428, 429, 430, 64, 431] (by decide +kernel) (by decide +kernel)
set_option maxRecDepth 20000 in
theorem lgi_wsX60 : GoodIn wsL_law wsX60 := goodIn_r _ [617, 618, 619, 620, 621, 622, 623, 624] (by decide +kernel) (by decide +kernel)
set_option maxRecDepth 20000 in
theorem lgi_wsX20 : GoodIn wsL_law wsX20 := goodIn_r _ [625, 626, 627, 628, 629] (by decide +kernel) (by decide +kernel)
set_option maxRecDepth 20000 in
theorem lgi_wsX10 : GoodIn wsL_law wsX10 := goodIn_r _ [633, 634, 635, 636, 637, 638] (by decide +kernel) (by decide +kernel)
set_option maxRecDepth 20000 in
theorem lgi_wsX00 : GoodIn wsL_law wsX00 := goodIn_r _ [639, 640, 641, 642, 643, 644, 645, 646] (by decide +kernel) (by decide +kernel)
set_option maxRecDepth 20000 in
theorem lgi_wsX30 : GoodIn wsL_law wsX30 := goodIn_r _ [630, 631, 632] (by decide +kernel) (by decide +kernel)
set_option maxRecDepth 20000 in
theorem lgi_wsX40 : GoodIn wsL_law wsX40 := goodIn_r _ [648, 649] (by decide +kernel) (by decide +kernel)
set_option maxRecDepth 20000 in
theorem lgi_wsX50 : GoodIn wsL_law wsX50 := goodIn_r _ [647] (by decide +kernel) (by decide +kernel)
set_option maxRecDepth 20000 in
theorem ggL_law_L_isFair : GoodIn wsL_law wsL_isFair := goodIn_ca (goodIn_ca (goodIn_app (a := [.code yL_isFair cL_isFair 12 (some .boolean)]) lgi_0 (goodIn_app (goodIn_app (goodIn_app (goodIn_app (goodIn_app (goodIn_app (goodIn_app (goodIn_app lgi_wsL_isFair_r1 (goodIn_app lgi_wsL_isFair_r2 (goodIn_app lgi_wsL_isFair_r3 (goodIn_app lgi_wsL_isFair_r4 (goodIn_app lgi_wsL_isFair_r5 (goodIn_app lgi_wsL_isFair_r6 (goodIn_app lgi_wsL_isFair_r7 (goodIn_app lgi_wsL_isFair_r8 (goodIn_app lgi_wsL_isFair_r9 (goodIn_app lgi_wsL_isFair_r10 lgi_wsL_isFair_r11)))))))))) lgi_wsX60) lgi_wsX20) lgi_wsX10) lgi_wsX00) lgi_wsX30) lgi_wsX40) lgi_wsX50)) (goodIn_sub (fun _ h => List.mem_append_left _ (List.mem_append_left _ (List.mem_append_right _ h))) (by decide +kernel))) (goodIn_sub (fun _ h => List.mem_append_right _ h) (by decide +kernel))
set_option maxRecDepth 20000 in
theorem gL_law_L_isFair : GoodIn wsL_law (va_wsS RL 90 yL_isFair wsL_isFair) := goodIn_app (goodIn_of _ (by decide +kernel)) ggL_law_L_isFair
