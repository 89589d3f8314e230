theorem inlX7 : ∀ w ∈ wsX70, w ∈ wsL_law := fun _ h => List.mem_append_left _ (List.mem_append_left _ (List.mem_append_left _ (List.mem_append_left _ (List.mem_append_left _ (List.mem_append_right _ h)))))
theorem inlX8 : ∀ w ∈ wsX80, w ∈ wsL_law := fun _ h => List.mem_append_left _ (List.mem_append_left _ (List.mem_append_left _ (List.mem_append_left _ (List.mem_append_left _ (List.mem_append_left _ (List.mem_append_right _ h))))))
theorem inlX9 : ∀ w ∈ wsX90, w ∈ wsL_law := fun _ h => List.mem_append_left _ (List.mem_append_left _ (List.mem_append_left _ (List.mem_append_left _ (List.mem_append_left _ (List.mem_append_left _ (List.mem_append_left _ (List.mem_append_right _ h)))))))
theorem inlX10 : ∀ w ∈ wsX100, w ∈ wsL_law := fun _ h => List.mem_append_left _ (List.mem_append_left _ (List.mem_append_left _ (List.mem_append_left _ (List.mem_append_left _ (List.mem_append_left _ (List.mem_append_left _ (List.mem_append_left _ (List.mem_append_left _ (List.mem_append_left _ (List.mem_append_left _ (List.mem_append_left _ (List.mem_append_left _ (List.mem_append_left _ (List.mem_append_left _ (List.mem_append_right _ h)))))))))))))))
theorem inlJx35411 : ∀ w ∈ wsJx354110, w ∈ wsL_law := fun _ h => List.mem_append_left _ (List.mem_append_left _ (List.mem_append_left _ (List.mem_append_left _ (List.mem_append_right _ h))))
theorem inlJx4a65c : ∀ w ∈ wsJx4a65c0, w ∈ wsL_law := fun _ h => List.mem_append_left _ (List.mem_append_left _ (List.mem_append_left _ (List.mem_append_left _ (List.mem_append_left _ (List.mem_append_left _ (List.mem_append_left _ (List.mem_append_left _ (List.mem_append_right _ h))))))))
set_option maxRecDepth 20000 in
theorem tl_TB_0 : GoodIn wsL_law TB_0 := goodIn_r _ [113, 11, 12, 112, 111, 109, 110, 108, 107, 106, 104, 105, 102, 103, 101, 169, 168, 173, 545, 546, 547, 184, 548, 549] (by decide +kernel) (by decide +kernel)
set_option maxRecDepth 20000 in
theorem tl_TB_1 : GoodIn wsL_law TB_1 := goodIn_r _ [544, 539, 540, 541, 542, 543, 538, 554, 553, 197, 198, 199, 200, 201, 196, 193, 194, 195, 91, 192, 189, 190, 191, 188] (by decide +kernel) (by decide +kernel)
set_option maxRecDepth 20000 in
theorem tl_TB_2 : GoodIn wsL_law TB_2 := goodIn_r _ [183, 185, 186, 187, 182, 155, 153, 154, 5, 377, 380, 939, 160, 164, 161, 162, 163, 159, 92, 165, 166, 167, 286, 283] (by decide +kernel) (by decide +kernel)
set_option maxRecDepth 20000 in
theorem tl_TB_3 : GoodIn wsL_law TB_3 := goodIn_r _ [284, 285, 282, 93, 156, 157, 158, 624, 94, 781, 95, 43, 535, 536, 537, 550, 551, 552, 530, 588, 96, 466, 585, 582] (by decide +kernel) (by decide +kernel)
set_option maxRecDepth 20000 in
theorem tl_TB_4 : GoodIn wsL_law TB_4 := goodIn_r _ [583, 584, 922, 918, 869, 915, 916, 917, 586, 587, 527, 528, 529, 919, 920, 921, 97, 678, 914, 525, 658, 834, 831, 832] (by decide +kernel) (by decide +kernel)
set_option maxRecDepth 20000 in
theorem tl_TB_5 : GoodIn wsL_law TB_5 := goodIn_r _ [833, 830, 6, 827, 828, 829, 825, 822, 823, 824, 959, 866, 867, 868, 1084, 1168, 1167, 149, 279, 280, 281, 276, 342, 375] (by decide +kernel) (by decide +kernel)
set_option maxRecDepth 20000 in
theorem tl_TB_6 : GoodIn wsL_law TB_6 := goodIn_r _ [376, 371, 378, 379, 445, 521, 465, 621, 622, 623, 620, 706, 778, 779, 780, 773, 821, 857, 910, 937, 938, 936, 988, 1010] (by decide +kernel) (by decide +kernel)
set_option maxRecDepth 20000 in
theorem tl_TB_7 : GoodIn wsL_law TB_7 := goodIn_r _ [1057, 1095, 1106, 1122, 330, 655, 656, 657, 654, 677, 865, 98, 956, 957, 958, 955, 1081, 1082, 1083, 1080, 1066, 1164, 911, 912] (by decide +kernel) (by decide +kernel)
set_option maxRecDepth 20000 in
theorem tl_TB_8 : GoodIn wsL_law TB_8 := goodIn_r _ [913, 1165, 1166, 522, 523, 524, 1163, 170, 171, 172, 331, 384, 385, 386, 383, 372, 373, 374, 381, 382, 179, 180, 181, 177] (by decide +kernel) (by decide +kernel)
set_option maxRecDepth 20000 in
theorem tl_TB_9 : GoodIn wsL_law TB_9 := goodIn_r _ [178, 176, 150, 151, 152, 174, 175, 1042, 1041, 233, 88, 89, 90, 99, 100, 87] (by decide +kernel) (by decide +kernel)
theorem tl_wsX100 : GoodIn wsL_law wsX100 := goodIn_sub inlX10 tg_wsX100
theorem tl_wsX90 : GoodIn wsL_law wsX90 := goodIn_sub inlX9 tg_wsX90
theorem tl_wsX80 : GoodIn wsL_law wsX80 := goodIn_sub inlX8 tg_wsX80
theorem tl_wsJx354110 : GoodIn wsL_law wsJx354110 := goodIn_sub inlJx35411 tg_wsJx354110
theorem tl_wsJx4a65c0 : GoodIn wsL_law wsJx4a65c0 := goodIn_sub inlJx4a65c tg_wsJx4a65c0
theorem tl_TBL : GoodIn wsL_law TBL := (goodIn_app tl_TB_0 (goodIn_app tl_TB_1 (goodIn_app tl_TB_2 (goodIn_app tl_TB_3 (goodIn_app tl_TB_4 (goodIn_app tl_TB_5 (goodIn_app tl_TB_6 (goodIn_app tl_TB_7 (goodIn_app tl_TB_8 (goodIn_app tl_TB_9 (goodIn_app tl_wsX100 (goodIn_app tl_wsX90 (goodIn_app tl_wsX80 (goodIn_app tl_wsJx354110 tl_wsJx4a65c0))))))))))))))
theorem tl_c {c : Cond} (h : c ∈ TBL) : GoodIn wsL_law (c :: TBL) := fun w hw => (List.mem_cons.mp hw).elim (fun e => by rw [e]; exact tl_TBL _ h) (tl_TBL w)
theorem gLZ_init : GoodIn wsL_law (Cond.code yX10_init cX10_init 1 none :: TBL) := tl_c tw_231
set_option maxRecDepth 20000 in
theorem gLZ_question : GoodIn wsL_law (wsV RL 95 RX10 yX10_question (Cond.code yX10_question cX10_question 2 (some .int) :: TBL)) := goodIn_app (goodIn_r [Cond.methodLink RL 95 yX10_question, Cond.instanceMethod yX10_question, Cond.selects RX10 yX10_question yX10_question, Cond.initialized RX10] [146, 147, 148, 5] (by decide +kernel) (by decide +kernel)) (tl_c tw_137)
set_option maxRecDepth 20000 in
theorem gLZ_thrown : GoodIn wsL_law (wsV RL 96 RX10 yX10_thrown (Cond.code yX10_thrown cX10_thrown 1 (some .int) :: TBL)) := goodIn_app (goodIn_r [Cond.methodLink RL 96 yX10_thrown, Cond.instanceMethod yX10_thrown, Cond.selects RX10 yX10_thrown yX10_thrown, Cond.initialized RX10] [230, 231, 232, 5] (by decide +kernel) (by decide +kernel)) (tl_c tw_225)
set_option maxRecDepth 20000 in
theorem gLZ_route : GoodIn wsL_law (wsV RL 102 RX10 yX10_route (Cond.code yX10_route cX10_route 5 (some .int) :: TBL)) := goodIn_app (goodIn_r [Cond.methodLink RL 102 yX10_route, Cond.instanceMethod yX10_route, Cond.selects RX10 yX10_route yX10_route, Cond.initialized RX10] [273, 274, 275, 5] (by decide +kernel) (by decide +kernel)) (tl_c tw_141)
set_option maxRecDepth 20000 in
theorem gLZ_rotate : GoodIn wsL_law (wsV RL 105 RX10 yX10_rotate (Cond.code yX10_rotate cX10_rotate 3 (some .int) :: TBL)) := goodIn_app (goodIn_r [Cond.methodLink RL 105 yX10_rotate, Cond.instanceMethod yX10_rotate, Cond.selects RX10 yX10_rotate yX10_rotate, Cond.initialized RX10] [327, 328, 329, 5] (by decide +kernel) (by decide +kernel)) (tl_c tw_172)
set_option maxRecDepth 20000 in
theorem gLZ_behind : GoodIn wsL_law (wsV RL 109 RX10 yX10_behind (Cond.code yX10_behind cX10_behind 3 (some .int) :: TBL)) := goodIn_app (goodIn_r [Cond.methodLink RL 109 yX10_behind, Cond.instanceMethod yX10_behind, Cond.selects RX10 yX10_behind yX10_behind, Cond.initialized RX10] [339, 340, 341, 5] (by decide +kernel) (by decide +kernel)) (tl_c tw_142)
set_option maxRecDepth 20000 in
theorem gLZ_person : GoodIn wsL_law (wsV RL 112 RX10 yX10_person (Cond.code yX10_person cX10_person 3 (some .int) :: TBL)) := goodIn_app (goodIn_r [Cond.methodLink RL 112 yX10_person, Cond.instanceMethod yX10_person, Cond.selects RX10 yX10_person yX10_person, Cond.initialized RX10] [368, 369, 370, 5] (by decide +kernel) (by decide +kernel)) (tl_c tw_145)
set_option maxRecDepth 20000 in
theorem gLZ_target : GoodIn wsL_law (wsV RL 115 RX10 yX10_target (Cond.code yX10_target cX10_target 5 (some .int) :: TBL)) := goodIn_app (goodIn_r [Cond.methodLink RL 115 yX10_target, Cond.instanceMethod yX10_target, Cond.selects RX10 yX10_target yX10_target, Cond.initialized RX10] [442, 443, 444, 5] (by decide +kernel) (by decide +kernel)) (tl_c tw_148)
set_option maxRecDepth 20000 in
theorem gLZ_soft : GoodIn wsL_law (wsV RL 118 RX10 yX10_soft (Cond.code yX10_soft cX10_soft 3 (some .int) :: TBL)) := goodIn_app (goodIn_r [Cond.methodLink RL 118 yX10_soft, Cond.instanceMethod yX10_soft, Cond.selects RX10 yX10_soft yX10_soft, Cond.initialized RX10] [462, 463, 464, 5] (by decide +kernel) (by decide +kernel)) (tl_c tw_150)
set_option maxRecDepth 20000 in
theorem gLZ_ofCell : GoodIn wsL_law (wsV RL 121 RX10 yX10_ofCell (Cond.code yX10_ofCell cX10_ofCell 4 (some .int) :: TBL)) := goodIn_app (goodIn_r [Cond.methodLink RL 121 yX10_ofCell, Cond.instanceMethod yX10_ofCell, Cond.selects RX10 yX10_ofCell yX10_ofCell, Cond.initialized RX10] [518, 519, 520, 5] (by decide +kernel) (by decide +kernel)) (tl_c tw_149)
set_option maxRecDepth 20000 in
theorem gLZ_ofPerson : GoodIn wsL_law (wsV RL 124 RX10 yX10_ofPerson (Cond.code yX10_ofPerson cX10_ofPerson 3 (some .int) :: TBL)) := goodIn_app (goodIn_r [Cond.methodLink RL 124 yX10_ofPerson, Cond.instanceMethod yX10_ofPerson, Cond.selects RX10 yX10_ofPerson yX10_ofPerson, Cond.initialized RX10] [617, 618, 619, 5] (by decide +kernel) (by decide +kernel)) (tl_c tw_154)
set_option maxRecDepth 20000 in
theorem gLZ_next : GoodIn wsL_law (wsV RL 128 RX10 yX10_next (Cond.code yX10_next cX10_next 1 (some .int) :: TBL)) := goodIn_app (goodIn_r [Cond.methodLink RL 128 yX10_next, Cond.instanceMethod yX10_next, Cond.selects RX10 yX10_next yX10_next, Cond.initialized RX10] [651, 652, 653, 5] (by decide +kernel) (by decide +kernel)) (tl_c tw_176)
set_option maxRecDepth 20000 in
theorem gLZ_day : GoodIn wsL_law (wsV RL 132 RX10 yX10_day (Cond.code yX10_day cX10_day 3 (some .int) :: TBL)) := goodIn_app (goodIn_r [Cond.methodLink RL 132 yX10_day, Cond.instanceMethod yX10_day, Cond.selects RX10 yX10_day yX10_day, Cond.initialized RX10] [674, 675, 676, 5] (by decide +kernel) (by decide +kernel)) (tl_c tw_177)
set_option maxRecDepth 20000 in
theorem gLZ_begin : GoodIn wsL_law (wsV RL 135 RX10 yX10_begin (Cond.code yX10_begin cX10_begin 3 (some .int) :: TBL)) := goodIn_app (goodIn_r [Cond.methodLink RL 135 yX10_begin, Cond.instanceMethod yX10_begin, Cond.selects RX10 yX10_begin yX10_begin, Cond.initialized RX10] [703, 704, 705, 5] (by decide +kernel) (by decide +kernel)) (tl_c tw_155)
set_option maxRecDepth 20000 in
theorem gLZ_answer : GoodIn wsL_law (wsV RL 138 RX10 yX10_answer (Cond.code yX10_answer cX10_answer 8 (some .int) :: TBL)) := goodIn_app (goodIn_r [Cond.methodLink RL 138 yX10_answer, Cond.instanceMethod yX10_answer, Cond.selects RX10 yX10_answer yX10_answer, Cond.initialized RX10] [770, 771, 772, 5] (by decide +kernel) (by decide +kernel)) (tl_c tw_159)
set_option maxRecDepth 20000 in
theorem gLZ_ofInterview : GoodIn wsL_law (wsV RL 141 RX10 yX10_ofInterview (Cond.code yX10_ofInterview cX10_ofInterview 3 (some .int) :: TBL)) := goodIn_app (goodIn_r [Cond.methodLink RL 141 yX10_ofInterview, Cond.instanceMethod yX10_ofInterview, Cond.selects RX10 yX10_ofInterview yX10_ofInterview, Cond.initialized RX10] [818, 819, 820, 5] (by decide +kernel) (by decide +kernel)) (tl_c tw_160)
set_option maxRecDepth 20000 in
theorem gLZ_given : GoodIn wsL_law (wsV RL 144 RX10 yX10_given (Cond.code yX10_given cX10_given 3 (some .int) :: TBL)) := goodIn_app (goodIn_r [Cond.methodLink RL 144 yX10_given, Cond.instanceMethod yX10_given, Cond.selects RX10 yX10_given yX10_given, Cond.initialized RX10] [854, 855, 856, 5] (by decide +kernel) (by decide +kernel)) (tl_c tw_161)
set_option maxRecDepth 20000 in
theorem gLZ_clean : GoodIn wsL_law (wsV RL 148 RX10 yX10_clean (Cond.code yX10_clean cX10_clean 4 (some .int) :: TBL)) := goodIn_app (goodIn_r [Cond.methodLink RL 148 yX10_clean, Cond.instanceMethod yX10_clean, Cond.selects RX10 yX10_clean yX10_clean, Cond.initialized RX10] [862, 863, 864, 5] (by decide +kernel) (by decide +kernel)) (tl_c tw_178)
set_option maxRecDepth 20000 in
theorem gLZ_many : GoodIn wsL_law (wsV RL 151 RX10 yX10_many (Cond.code yX10_many cX10_many 2 (some .int) :: TBL)) := goodIn_app (goodIn_r [Cond.methodLink RL 151 yX10_many, Cond.instanceMethod yX10_many, Cond.selects RX10 yX10_many yX10_many, Cond.initialized RX10] [907, 908, 909, 5] (by decide +kernel) (by decide +kernel)) (tl_c tw_162)
set_option maxRecDepth 20000 in
theorem gLZ_rounds : GoodIn wsL_law (wsV RL 154 RX10 yX10_rounds (Cond.code yX10_rounds cX10_rounds 3 (some .int) :: TBL)) := goodIn_app (goodIn_r [Cond.methodLink RL 154 yX10_rounds, Cond.instanceMethod yX10_rounds, Cond.selects RX10 yX10_rounds yX10_rounds, Cond.initialized RX10] [933, 934, 935, 5] (by decide +kernel) (by decide +kernel)) (tl_c tw_165)
set_option maxRecDepth 20000 in
theorem gLZ_off : GoodIn wsL_law (wsV RL 158 RX10 yX10_off (Cond.code yX10_off cX10_off 1 (some .int) :: TBL)) := goodIn_app (goodIn_r [Cond.methodLink RL 158 yX10_off, Cond.instanceMethod yX10_off, Cond.selects RX10 yX10_off yX10_off, Cond.initialized RX10] [952, 953, 954, 5] (by decide +kernel) (by decide +kernel)) (tl_c tw_183)
set_option maxRecDepth 20000 in
theorem gLZ_share : GoodIn wsL_law (wsV RL 161 RX10 yX10_share (Cond.code yX10_share cX10_share 4 (some .int) :: TBL)) := goodIn_app (goodIn_r [Cond.methodLink RL 161 yX10_share, Cond.instanceMethod yX10_share, Cond.selects RX10 yX10_share yX10_share, Cond.initialized RX10] [985, 986, 987, 5] (by decide +kernel) (by decide +kernel)) (tl_c tw_166)
set_option maxRecDepth 20000 in
theorem gLZ_isMarked : GoodIn wsL_law (wsV RL 165 RX10 yX10_isMarked (Cond.code yX10_isMarked cX10_isMarked 8 (some .boolean) :: TBL)) := goodIn_app (goodIn_r [Cond.methodLink RL 165 yX10_isMarked, Cond.instanceMethod yX10_isMarked, Cond.selects RX10 yX10_isMarked yX10_isMarked, Cond.initialized RX10] [1007, 1008, 1009, 5] (by decide +kernel) (by decide +kernel)) (tl_c tw_167)
set_option maxRecDepth 20000 in
theorem gLZ_hold : GoodIn wsL_law (wsV RL 169 RX10 yX10_hold (Cond.code yX10_hold cX10_hold 5 (some .int) :: TBL)) := goodIn_app (goodIn_r [Cond.methodLink RL 169 yX10_hold, Cond.instanceMethod yX10_hold, Cond.selects RX10 yX10_hold yX10_hold, Cond.initialized RX10] [1038, 1039, 1040, 5] (by decide +kernel) (by decide +kernel)) (tl_c tw_224)
set_option maxRecDepth 20000 in
theorem gLZ_held : GoodIn wsL_law (wsV RL 172 RX10 yX10_held (Cond.code yX10_held cX10_held 4 (some .int) :: TBL)) := goodIn_app (goodIn_r [Cond.methodLink RL 172 yX10_held, Cond.instanceMethod yX10_held, Cond.selects RX10 yX10_held yX10_held, Cond.initialized RX10] [1054, 1055, 1056, 5] (by decide +kernel) (by decide +kernel)) (tl_c tw_168)
set_option maxRecDepth 20000 in
theorem gLZ_meanSeconds : GoodIn wsL_law (wsV RL 177 RX10 yX10_meanSeconds (Cond.code yX10_meanSeconds cX10_meanSeconds 5 (some .double) :: TBL)) := goodIn_app (goodIn_r [Cond.methodLink RL 177 yX10_meanSeconds, Cond.instanceMethod yX10_meanSeconds, Cond.selects RX10 yX10_meanSeconds yX10_meanSeconds, Cond.initialized RX10] [1063, 1064, 1065, 5] (by decide +kernel) (by decide +kernel)) (tl_c tw_188)
set_option maxRecDepth 20000 in
theorem gLZ_cleaned : GoodIn wsL_law (wsV RL 181 RX10 yX10_cleaned (Cond.code yX10_cleaned cX10_cleaned 1 (some .int) :: TBL)) := goodIn_app (goodIn_r [Cond.methodLink RL 181 yX10_cleaned, Cond.instanceMethod yX10_cleaned, Cond.selects RX10 yX10_cleaned yX10_cleaned, Cond.initialized RX10] [1077, 1078, 1079, 5] (by decide +kernel) (by decide +kernel)) (tl_c tw_187)
set_option maxRecDepth 20000 in
theorem gLZ_nextIn : GoodIn wsL_law (wsV RL 184 RX10 yX10_nextIn (Cond.code yX10_nextIn cX10_nextIn 2 (some .int) :: TBL)) := goodIn_app (goodIn_r [Cond.methodLink RL 184 yX10_nextIn, Cond.instanceMethod yX10_nextIn, Cond.selects RX10 yX10_nextIn yX10_nextIn, Cond.initialized RX10] [1092, 1093, 1094, 5] (by decide +kernel) (by decide +kernel)) (tl_c tw_169)
set_option maxRecDepth 20000 in
theorem gLZ_offWith : GoodIn wsL_law (wsV RL 187 RX10 yX10_offWith (Cond.code yX10_offWith cX10_offWith 2 (some .int) :: TBL)) := goodIn_app (goodIn_r [Cond.methodLink RL 187 yX10_offWith, Cond.instanceMethod yX10_offWith, Cond.selects RX10 yX10_offWith yX10_offWith, Cond.initialized RX10] [1103, 1104, 1105, 5] (by decide +kernel) (by decide +kernel)) (tl_c tw_170)
set_option maxRecDepth 20000 in
theorem gLZ_shortest : GoodIn wsL_law (wsV RL 190 RX10 yX10_shortest (Cond.code yX10_shortest cX10_shortest 2 (some .int) :: TBL)) := goodIn_app (goodIn_r [Cond.methodLink RL 190 yX10_shortest, Cond.instanceMethod yX10_shortest, Cond.selects RX10 yX10_shortest yX10_shortest, Cond.initialized RX10] [1119, 1120, 1121, 5] (by decide +kernel) (by decide +kernel)) (tl_c tw_171)
set_option maxRecDepth 20000 in
theorem gLZ_digest : GoodIn wsL_law (wsV RL 195 RX10 yX10_digest (Cond.code yX10_digest cX10_digest 7 (some .long) :: TBL)) := goodIn_app (goodIn_r [Cond.methodLink RL 195 yX10_digest, Cond.instanceMethod yX10_digest, Cond.selects RX10 yX10_digest yX10_digest, Cond.initialized RX10] [1160, 1161, 1162, 5] (by decide +kernel) (by decide +kernel)) (tl_c tw_198)
