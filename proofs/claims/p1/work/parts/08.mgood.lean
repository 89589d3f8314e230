theorem tyX7_ok : ∀ k, k < 7 → parseFieldDescriptor (TX7 k).2.2.1 = some (tyX7 k) := by decide +kernel
theorem tyX8_ok : ∀ k, k < 4 → parseFieldDescriptor (TX8 k).2.2.1 = some (tyX8 k) := by decide +kernel
theorem tyX9_ok : ∀ k, k < 1 → parseFieldDescriptor (TX9 k).2.2.1 = some (tyX9 k) := by decide +kernel
theorem tyX10_ok : ∀ k, k < 10 → parseFieldDescriptor (TX10 k).2.2.1 = some (tyX10 k) := by decide +kernel
set_option maxRecDepth 20000 in
theorem ggX7_isDirty_X7_isStraight : GoodIn wsX7_isDirty wsX7_isStraight := goodIn_r _ [8, 9, 3, 10, 11, 12, 13, 14, 15, 16] (by decide +kernel) (by decide +kernel)
set_option maxRecDepth 20000 in
theorem gX7_isDirty_X7_isStraight : GoodIn wsX7_isDirty (wsV RX7 34 RX7 yX7_isStraight wsX7_isStraight) := goodIn_app (goodIn_of _ (by decide +kernel)) ggX7_isDirty_X7_isStraight
set_option maxRecDepth 20000 in
theorem ggX10_init_Jx4a65c_init_da8c8 : GoodIn wsX10_init wsJx4a65c_init_da8c8 := goodIn_r _ [17, 18, 19, 20, 21, 22, 23, 24, 25, 26, 27, 28, 29, 2, 3, 30, 31, 32] (by decide +kernel) (by decide +kernel)
set_option maxRecDepth 20000 in
theorem gX10_init_Jx4a65c_init_da8c8 : GoodIn wsX10_init (wsJx4a65c_init_da8c8) := ggX10_init_Jx4a65c_init_da8c8
set_option maxRecDepth 20000 in
theorem ggX10_start_X10_refuse : GoodIn wsX10_start wsX10_refuse := goodIn_r _ [6, 1, 7, 8, 9, 10, 11, 12, 13, 14, 15, 16] (by decide +kernel) (by decide +kernel)
set_option maxRecDepth 20000 in
theorem gX10_start_X10_refuse : GoodIn wsX10_start (wsV RX10 37 RX10 yX10_refuse wsX10_refuse) := goodIn_app (goodIn_of _ (by decide +kernel)) ggX10_start_X10_refuse
set_option maxRecDepth 20000 in
theorem ggX10_isNoQuestion_Jx4a65c_size_8abf5 : GoodIn wsX10_isNoQuestion wsJx4a65c_size_8abf5 := goodIn_r _ [6, 7, 22, 23, 24] (by decide +kernel) (by decide +kernel)
set_option maxRecDepth 20000 in
theorem gX10_isNoQuestion_Jx4a65c_size_8abf5 : GoodIn wsX10_isNoQuestion (wsV RX10 41 RJx4a65c yJx4a65c_size_8abf5 wsJx4a65c_size_8abf5) := goodIn_app (goodIn_of _ (by decide +kernel)) ggX10_isNoQuestion_Jx4a65c_size_8abf5
set_option maxRecDepth 20000 in
theorem ggX10_isNoQuestion_X10_isIn : GoodIn wsX10_isNoQuestion wsX10_isIn := goodIn_r _ [11] (by decide +kernel) (by decide +kernel)
set_option maxRecDepth 20000 in
theorem gX10_isNoQuestion_X10_isIn : GoodIn wsX10_isNoQuestion (va_wsS RX10 45 yX10_isIn wsX10_isIn) := goodIn_app (goodIn_of _ (by decide +kernel)) ggX10_isNoQuestion_X10_isIn
set_option maxRecDepth 20000 in
theorem ggX10_isNoAnswer_X10_isNoQuestion : GoodIn wsX10_isNoAnswer wsX10_isNoQuestion := goodIn_r _ [8, 1, 9, 10, 11, 12, 13, 14, 15, 16, 7, 17, 35, 36, 37, 38, 39, 40, 41, 42, 43, 44, 46, 47, 48] (by decide +kernel) (by decide +kernel)
set_option maxRecDepth 20000 in
theorem gX10_isNoAnswer_X10_isNoQuestion : GoodIn wsX10_isNoAnswer (wsV RX10 49 RX10 yX10_isNoQuestion wsX10_isNoQuestion) := goodIn_app (goodIn_of _ (by decide +kernel)) ggX10_isNoAnswer_X10_isNoQuestion
set_option maxRecDepth 20000 in
theorem ggX10_isNoAnswer_Jx4a65c_get_915e3 : GoodIn wsX10_isNoAnswer wsJx4a65c_get_915e3 := goodIn_r _ [21, 14, 22, 23, 24, 25, 26, 27, 28, 29, 30, 31, 32, 12, 33, 34, 46, 47, 48] (by decide +kernel) (by decide +kernel)
set_option maxRecDepth 20000 in
theorem gX10_isNoAnswer_Jx4a65c_get_915e3 : GoodIn wsX10_isNoAnswer (wsV RX10 53 RJx4a65c yJx4a65c_get_915e3 wsJx4a65c_get_915e3) := goodIn_app (goodIn_of _ (by decide +kernel)) ggX10_isNoAnswer_Jx4a65c_get_915e3
set_option maxRecDepth 20000 in
theorem ggX10_isNoAnswer_X10_isIn : GoodIn wsX10_isNoAnswer wsX10_isIn := goodIn_r _ [17] (by decide +kernel) (by decide +kernel)
set_option maxRecDepth 20000 in
theorem gX10_isNoAnswer_X10_isIn : GoodIn wsX10_isNoAnswer (va_wsS RX10 45 yX10_isIn wsX10_isIn) := goodIn_app (goodIn_of _ (by decide +kernel)) ggX10_isNoAnswer_X10_isIn
set_option maxRecDepth 20000 in
theorem ggX10_isNoA_X10_isIn : GoodIn wsX10_isNoA wsX10_isIn := goodIn_r _ [4] (by decide +kernel) (by decide +kernel)
set_option maxRecDepth 20000 in
theorem gX10_isNoA_X10_isIn : GoodIn wsX10_isNoA (va_wsS RX10 45 yX10_isIn wsX10_isIn) := goodIn_app (goodIn_of _ (by decide +kernel)) ggX10_isNoA_X10_isIn
set_option maxRecDepth 20000 in
theorem ggX10_isNoB_X10_isIn : GoodIn wsX10_isNoB wsX10_isIn := goodIn_r _ [4] (by decide +kernel) (by decide +kernel)
set_option maxRecDepth 20000 in
theorem gX10_isNoB_X10_isIn : GoodIn wsX10_isNoB (va_wsS RX10 45 yX10_isIn wsX10_isIn) := goodIn_app (goodIn_of _ (by decide +kernel)) ggX10_isNoB_X10_isIn
set_option maxRecDepth 20000 in
theorem ggX10_question_X10_isIn : GoodIn wsX10_question wsX10_isIn := goodIn_r _ [9] (by decide +kernel) (by decide +kernel)
set_option maxRecDepth 20000 in
theorem gX10_question_X10_isIn : GoodIn wsX10_question (va_wsS RX10 45 yX10_isIn wsX10_isIn) := goodIn_app (goodIn_of _ (by decide +kernel)) ggX10_question_X10_isIn
set_option maxRecDepth 20000 in
theorem ggX10_question_X10_start : GoodIn wsX10_question wsX10_start := goodIn_r _ [13, 14, 15, 16, 17, 8, 18, 91, 92, 93, 94, 95, 96, 97, 98, 99, 100] (by decide +kernel) (by decide +kernel)
set_option maxRecDepth 20000 in
theorem gX10_question_X10_start : GoodIn wsX10_question (wsV RX10 63 RX10 yX10_start wsX10_start) := goodIn_app (goodIn_of _ (by decide +kernel)) ggX10_question_X10_start
set_option maxRecDepth 20000 in
theorem ggX10_question_Jx4a65c_size_8abf5 : GoodIn wsX10_question wsJx4a65c_size_8abf5 := goodIn_r _ [23, 24, 102, 103, 104] (by decide +kernel) (by decide +kernel)
set_option maxRecDepth 20000 in
theorem gX10_question_Jx4a65c_size_8abf5 : GoodIn wsX10_question (wsV RX10 41 RJx4a65c yJx4a65c_size_8abf5 wsJx4a65c_size_8abf5) := goodIn_app (goodIn_of _ (by decide +kernel)) ggX10_question_Jx4a65c_size_8abf5
set_option maxRecDepth 20000 in
theorem ggX10_question_Jx4a65c_isEmpty_aae02 : GoodIn wsX10_question wsJx4a65c_isEmpty_aae02 := goodIn_r _ [28, 24, 102, 103, 104] (by decide +kernel) (by decide +kernel)
set_option maxRecDepth 20000 in
theorem gX10_question_Jx4a65c_isEmpty_aae02 : GoodIn wsX10_question (wsV RX10 66 RJx4a65c yJx4a65c_isEmpty_aae02 wsJx4a65c_isEmpty_aae02) := goodIn_app (goodIn_of _ (by decide +kernel)) ggX10_question_Jx4a65c_isEmpty_aae02
set_option maxRecDepth 20000 in
theorem ggX10_question_X10_refuse : GoodIn wsX10_question wsX10_refuse := goodIn_r _ [18, 14, 91, 92, 93, 94, 95, 96, 97, 98, 99, 100] (by decide +kernel) (by decide +kernel)
set_option maxRecDepth 20000 in
theorem gX10_question_X10_refuse : GoodIn wsX10_question (wsV RX10 37 RX10 yX10_refuse wsX10_refuse) := goodIn_app (goodIn_of _ (by decide +kernel)) ggX10_question_X10_refuse
set_option maxRecDepth 20000 in
theorem ggX10_question_X9_init : GoodIn wsX10_question wsX9_init := goodIn_r _ [31, 32, 33, 34, 35, 36, 101] (by decide +kernel) (by decide +kernel)
set_option maxRecDepth 20000 in
theorem gX10_question_X9_init : GoodIn wsX10_question (wsX9_init) := ggX10_question_X9_init
set_option maxRecDepth 20000 in
theorem ggX10_question_Jx4a65c_add_9ea2d : GoodIn wsX10_question wsJx4a65c_add_9ea2d := goodIn_r _ [40, 41, 42, 43, 24, 44, 45, 46, 22, 47, 48, 49, 50, 51, 52, 53, 54, 55, 56, 57, 58, 59, 60, 61, 62, 63, 64, 65, 66, 67, 68, 69, 70, 71, 72, 73, 74, 75, 76, 77, 78, 79, 80, 81, 82, 83, 84, 85, 86, 87, 88, 89, 90, 102, 103, 104] (by decide +kernel) (by decide +kernel)
set_option maxRecDepth 20000 in
theorem gX10_question_Jx4a65c_add_9ea2d : GoodIn wsX10_question (wsV RX10 73 RJx4a65c yJx4a65c_add_9ea2d wsJx4a65c_add_9ea2d) := goodIn_app (goodIn_of _ (by decide +kernel)) ggX10_question_Jx4a65c_add_9ea2d
set_option maxRecDepth 20000 in
theorem ggX10_orEnd_Jx4a65c_size_8abf5 : GoodIn wsX10_orEnd wsJx4a65c_size_8abf5 := goodIn_r _ [6, 7, 18, 19, 20] (by decide +kernel) (by decide +kernel)
set_option maxRecDepth 20000 in
theorem gX10_orEnd_Jx4a65c_size_8abf5 : GoodIn wsX10_orEnd (wsV RX10 41 RJx4a65c yJx4a65c_size_8abf5 wsJx4a65c_size_8abf5) := goodIn_app (goodIn_of _ (by decide +kernel)) ggX10_orEnd_Jx4a65c_size_8abf5
set_option maxRecDepth 20000 in
theorem ggX10_behindNow_Jx4a65c_get_915e3 : GoodIn wsX10_behindNow wsJx4a65c_get_915e3 := goodIn_r _ [8, 9, 10, 11, 12, 13, 14, 15, 16, 17, 18, 19, 20, 7, 21, 22, 43, 44, 45] (by decide +kernel) (by decide +kernel)
set_option maxRecDepth 20000 in
theorem gX10_behindNow_Jx4a65c_get_915e3 : GoodIn wsX10_behindNow (wsV RX10 53 RJx4a65c yJx4a65c_get_915e3 wsJx4a65c_get_915e3) := goodIn_app (goodIn_of _ (by decide +kernel)) ggX10_behindNow_Jx4a65c_get_915e3
set_option maxRecDepth 20000 in
theorem ggX10_behindNow_X10_orEnd : GoodIn wsX10_behindNow wsX10_orEnd := goodIn_r _ [27, 1, 28, 29, 30, 7, 31, 9, 32, 33, 34, 35, 36, 37, 38, 39, 40, 41, 43, 44, 45] (by decide +kernel) (by decide +kernel)
set_option maxRecDepth 20000 in
theorem gX10_behindNow_X10_orEnd : GoodIn wsX10_behindNow (wsV RX10 77 RX10 yX10_orEnd wsX10_orEnd) := goodIn_app (goodIn_of _ (by decide +kernel)) ggX10_behindNow_X10_orEnd
set_option maxRecDepth 20000 in
theorem ggX10_route_X10_isNoAnswer : GoodIn wsX10_route wsX10_isNoAnswer := goodIn_r _ [9, 2, 3, 4, 10, 11, 12, 8, 13, 14, 15, 16, 17, 18, 19, 20, 21, 22, 23, 24, 25, 26, 27, 28, 29, 30, 31, 32, 33, 34, 35, 36, 37, 38, 39, 61, 62, 63, 64, 65, 66, 67, 68, 69, 70, 71, 72, 73, 74] (by decide +kernel) (by decide +kernel)
set_option maxRecDepth 20000 in
theorem gX10_route_X10_isNoAnswer : GoodIn wsX10_route (wsV RX10 81 RX10 yX10_isNoAnswer wsX10_isNoAnswer) := goodIn_app (goodIn_of _ (by decide +kernel)) ggX10_route_X10_isNoAnswer
set_option maxRecDepth 20000 in
theorem ggX10_route_X10_isNoQuestion : GoodIn wsX10_route wsX10_isNoQuestion := goodIn_r _ [13, 2, 14, 15, 16, 17, 18, 19, 20, 21, 8, 22, 61, 62, 63, 64, 65, 66, 67, 68, 69, 70, 72, 73, 74] (by decide +kernel) (by decide +kernel)
set_option maxRecDepth 20000 in
theorem gX10_route_X10_isNoQuestion : GoodIn wsX10_route (wsV RX10 49 RX10 yX10_isNoQuestion wsX10_isNoQuestion) := goodIn_app (goodIn_of _ (by decide +kernel)) ggX10_route_X10_isNoQuestion
set_option maxRecDepth 20000 in
theorem ggX10_route_X10_start : GoodIn wsX10_route wsX10_start := goodIn_r _ [43, 44, 45, 46, 47, 8, 48, 61, 62, 63, 64, 65, 66, 67, 68, 69, 70] (by decide +kernel) (by decide +kernel)
set_option maxRecDepth 20000 in
theorem gX10_route_X10_start : GoodIn wsX10_route (wsV RX10 63 RX10 yX10_start wsX10_start) := goodIn_app (goodIn_of _ (by decide +kernel)) ggX10_route_X10_start
set_option maxRecDepth 20000 in
theorem ggX10_route_X10_refuse : GoodIn wsX10_route wsX10_refuse := goodIn_r _ [48, 44, 61, 62, 63, 64, 65, 66, 67, 68, 69, 70] (by decide +kernel) (by decide +kernel)
set_option maxRecDepth 20000 in
theorem gX10_route_X10_refuse : GoodIn wsX10_route (wsV RX10 37 RX10 yX10_refuse wsX10_refuse) := goodIn_app (goodIn_of _ (by decide +kernel)) ggX10_route_X10_refuse
set_option maxRecDepth 20000 in
theorem ggX10_route_Jx4a65c_isEmpty_aae02 : GoodIn wsX10_route wsJx4a65c_isEmpty_aae02 := goodIn_r _ [52, 19, 72, 73, 74] (by decide +kernel) (by decide +kernel)
set_option maxRecDepth 20000 in
theorem gX10_route_Jx4a65c_isEmpty_aae02 : GoodIn wsX10_route (wsV RX10 66 RJx4a65c yJx4a65c_isEmpty_aae02 wsJx4a65c_isEmpty_aae02) := goodIn_app (goodIn_of _ (by decide +kernel)) ggX10_route_Jx4a65c_isEmpty_aae02
set_option maxRecDepth 20000 in
theorem ggX10_route_X10_behindNow : GoodIn wsX10_route wsX10_behindNow := goodIn_r _ [56, 2, 3, 4, 23, 24, 25, 17, 26, 19, 27, 28, 29, 30, 31, 32, 33, 34, 35, 36, 37, 38, 39, 57, 58, 59, 8, 60, 14, 15, 16, 18, 61, 62, 63, 64, 65, 66, 67, 68, 69, 70, 71, 72, 73, 74] (by decide +kernel) (by decide +kernel)
set_option maxRecDepth 20000 in
theorem gX10_route_X10_behindNow : GoodIn wsX10_route (wsV RX10 85 RX10 yX10_behindNow wsX10_behindNow) := goodIn_app (goodIn_of _ (by decide +kernel)) ggX10_route_X10_behindNow
set_option maxRecDepth 20000 in
theorem ggX10_route_Jx4a65c_get_915e3 : GoodIn wsX10_route wsJx4a65c_get_915e3 := goodIn_r _ [26, 19, 27, 28, 29, 30, 31, 32, 33, 34, 35, 36, 37, 17, 38, 39, 72, 73, 74] (by decide +kernel) (by decide +kernel)
set_option maxRecDepth 20000 in
theorem gX10_route_Jx4a65c_get_915e3 : GoodIn wsX10_route (wsV RX10 53 RJx4a65c yJx4a65c_get_915e3 wsJx4a65c_get_915e3) := goodIn_app (goodIn_of _ (by decide +kernel)) ggX10_route_Jx4a65c_get_915e3
set_option maxRecDepth 20000 in
theorem ggX10_rotate_X10_isIn : GoodIn wsX10_rotate wsX10_isIn := goodIn_r _ [7] (by decide +kernel) (by decide +kernel)
set_option maxRecDepth 20000 in
theorem gX10_rotate_X10_isIn : GoodIn wsX10_rotate (va_wsS RX10 45 yX10_isIn wsX10_isIn) := goodIn_app (goodIn_of _ (by decide +kernel)) ggX10_rotate_X10_isIn
set_option maxRecDepth 20000 in
theorem ggX10_rotate_Jx4a65c_size_8abf5 : GoodIn wsX10_rotate wsJx4a65c_size_8abf5 := goodIn_r _ [12, 13, 37, 38, 39] (by decide +kernel) (by decide +kernel)
set_option maxRecDepth 20000 in
theorem gX10_rotate_Jx4a65c_size_8abf5 : GoodIn wsX10_rotate (wsV RX10 41 RJx4a65c yJx4a65c_size_8abf5 wsJx4a65c_size_8abf5) := goodIn_app (goodIn_of _ (by decide +kernel)) ggX10_rotate_Jx4a65c_size_8abf5
set_option maxRecDepth 20000 in
theorem ggX10_rotate_X10_start : GoodIn wsX10_rotate wsX10_start := goodIn_r _ [17, 18, 19, 20, 21, 6, 22, 27, 28, 29, 30, 31, 32, 33, 34, 35, 36] (by decide +kernel) (by decide +kernel)
set_option maxRecDepth 20000 in
theorem gX10_rotate_X10_start : GoodIn wsX10_rotate (wsV RX10 63 RX10 yX10_start wsX10_start) := goodIn_app (goodIn_of _ (by decide +kernel)) ggX10_rotate_X10_start
set_option maxRecDepth 20000 in
theorem ggX10_rotate_Jx4a65c_isEmpty_aae02 : GoodIn wsX10_rotate wsJx4a65c_isEmpty_aae02 := goodIn_r _ [26, 13, 37, 38, 39] (by decide +kernel) (by decide +kernel)
set_option maxRecDepth 20000 in
theorem gX10_rotate_Jx4a65c_isEmpty_aae02 : GoodIn wsX10_rotate (wsV RX10 66 RJx4a65c yJx4a65c_isEmpty_aae02 wsJx4a65c_isEmpty_aae02) := goodIn_app (goodIn_of _ (by decide +kernel)) ggX10_rotate_Jx4a65c_isEmpty_aae02
set_option maxRecDepth 20000 in
theorem ggX10_rotate_X10_refuse : GoodIn wsX10_rotate wsX10_refuse := goodIn_r _ [22, 18, 27, 28, 29, 30, 31, 32, 33, 34, 35, 36] (by decide +kernel) (by decide +kernel)
set_option maxRecDepth 20000 in
theorem gX10_rotate_X10_refuse : GoodIn wsX10_rotate (wsV RX10 37 RX10 yX10_refuse wsX10_refuse) := goodIn_app (goodIn_of _ (by decide +kernel)) ggX10_rotate_X10_refuse
set_option maxRecDepth 20000 in
theorem ggX10_behind_X10_isNoAnswer : GoodIn wsX10_behind wsX10_isNoAnswer := goodIn_r _ [5, 6, 7, 8, 9, 10, 11, 4, 12, 13, 14, 15, 16, 17, 18, 19, 20, 21, 22, 23, 24, 25, 26, 27, 28, 29, 30, 31, 32, 33, 34, 35, 36, 37, 38, 56, 57, 58, 59, 60, 61, 62, 63, 64, 65, 66, 67, 68, 69] (by decide +kernel) (by decide +kernel)
set_option maxRecDepth 20000 in
theorem gX10_behind_X10_isNoAnswer : GoodIn wsX10_behind (wsV RX10 81 RX10 yX10_isNoAnswer wsX10_isNoAnswer) := goodIn_app (goodIn_of _ (by decide +kernel)) ggX10_behind_X10_isNoAnswer
set_option maxRecDepth 20000 in
theorem ggX10_behind_X10_start : GoodIn wsX10_behind wsX10_start := goodIn_r _ [42, 43, 44, 45, 46, 4, 47, 56, 57, 58, 59, 60, 61, 62, 63, 64, 65] (by decide +kernel) (by decide +kernel)
set_option maxRecDepth 20000 in
theorem gX10_behind_X10_start : GoodIn wsX10_behind (wsV RX10 63 RX10 yX10_start wsX10_start) := goodIn_app (goodIn_of _ (by decide +kernel)) ggX10_behind_X10_start
set_option maxRecDepth 20000 in
theorem ggX10_behind_X10_behindNow : GoodIn wsX10_behind wsX10_behindNow := goodIn_r _ [51, 6, 7, 8, 22, 23, 24, 16, 25, 18, 26, 27, 28, 29, 30, 31, 32, 33, 34, 35, 36, 37, 38, 52, 53, 54, 4, 55, 13, 14, 15, 17, 56, 57, 58, 59, 60, 61, 62, 63, 64, 65, 66, 67, 68, 69] (by decide +kernel) (by decide +kernel)
set_option maxRecDepth 20000 in
theorem gX10_behind_X10_behindNow : GoodIn wsX10_behind (wsV RX10 85 RX10 yX10_behindNow wsX10_behindNow) := goodIn_app (goodIn_of _ (by decide +kernel)) ggX10_behind_X10_behindNow
set_option maxRecDepth 20000 in
theorem ggX10_person_X10_isNoA : GoodIn wsX10_person wsX10_isNoA := goodIn_r _ [8, 9, 10, 7, 11] (by decide +kernel) (by decide +kernel)
set_option maxRecDepth 20000 in
theorem gX10_person_X10_isNoA : GoodIn wsX10_person (va_wsS RX10 92 yX10_isNoA wsX10_isNoA) := goodIn_app (goodIn_of _ (by decide +kernel)) ggX10_person_X10_isNoA
set_option maxRecDepth 20000 in
theorem ggX10_person_X10_isNoB : GoodIn wsX10_person wsX10_isNoB := goodIn_r _ [14, 9, 10, 7, 11] (by decide +kernel) (by decide +kernel)
set_option maxRecDepth 20000 in
theorem gX10_person_X10_isNoB : GoodIn wsX10_person (va_wsS RX10 95 yX10_isNoB wsX10_isNoB) := goodIn_app (goodIn_of _ (by decide +kernel)) ggX10_person_X10_isNoB
set_option maxRecDepth 20000 in
theorem ggX10_person_X10_start : GoodIn wsX10_person wsX10_start := goodIn_r _ [18, 19, 20, 21, 22, 7, 23, 92, 93, 94, 95, 96, 97, 98, 99, 100, 101] (by decide +kernel) (by decide +kernel)
set_option maxRecDepth 20000 in
theorem gX10_person_X10_start : GoodIn wsX10_person (wsV RX10 63 RX10 yX10_start wsX10_start) := goodIn_app (goodIn_of _ (by decide +kernel)) ggX10_person_X10_start
set_option maxRecDepth 20000 in
theorem ggX10_person_Jx4a65c_size_8abf5 : GoodIn wsX10_person wsJx4a65c_size_8abf5 := goodIn_r _ [28, 29, 106, 107, 108] (by decide +kernel) (by decide +kernel)
set_option maxRecDepth 20000 in
theorem gX10_person_Jx4a65c_size_8abf5 : GoodIn wsX10_person (wsV RX10 41 RJx4a65c yJx4a65c_size_8abf5 wsJx4a65c_size_8abf5) := goodIn_app (goodIn_of _ (by decide +kernel)) ggX10_person_Jx4a65c_size_8abf5
set_option maxRecDepth 20000 in
theorem ggX10_person_X10_refuse : GoodIn wsX10_person wsX10_refuse := goodIn_r _ [23, 19, 92, 93, 94, 95, 96, 97, 98, 99, 100, 101] (by decide +kernel) (by decide +kernel)
set_option maxRecDepth 20000 in
theorem gX10_person_X10_refuse : GoodIn wsX10_person (wsV RX10 37 RX10 yX10_refuse wsX10_refuse) := goodIn_app (goodIn_of _ (by decide +kernel)) ggX10_person_X10_refuse
set_option maxRecDepth 20000 in
theorem ggX10_person_X8_init : GoodIn wsX10_person wsX8_init := goodIn_r _ [32, 33, 34, 35, 36, 37, 102, 103, 104, 105] (by decide +kernel) (by decide +kernel)
set_option maxRecDepth 20000 in
theorem gX10_person_X8_init : GoodIn wsX10_person (wsX8_init) := ggX10_person_X8_init
set_option maxRecDepth 20000 in
theorem ggX10_person_Jx4a65c_add_9ea2d : GoodIn wsX10_person wsJx4a65c_add_9ea2d := goodIn_r _ [41, 42, 43, 44, 29, 45, 46, 47, 27, 48, 49, 50, 51, 52, 53, 54, 55, 56, 57, 58, 59, 60, 61, 62, 63, 64, 65, 66, 67, 68, 69, 70, 71, 72, 73, 74, 75, 76, 77, 78, 79, 80, 81, 82, 83, 84, 85, 86, 87, 88, 89, 90, 91, 106, 107, 108] (by decide +kernel) (by decide +kernel)
set_option maxRecDepth 20000 in
theorem gX10_person_Jx4a65c_add_9ea2d : GoodIn wsX10_person (wsV RX10 73 RJx4a65c yJx4a65c_add_9ea2d wsJx4a65c_add_9ea2d) := goodIn_app (goodIn_of _ (by decide +kernel)) ggX10_person_Jx4a65c_add_9ea2d
set_option maxRecDepth 20000 in
theorem ggX10_target_X10_isNoA : GoodIn wsX10_target wsX10_isNoA := goodIn_r _ [5, 6, 7, 4, 8] (by decide +kernel) (by decide +kernel)
set_option maxRecDepth 20000 in
theorem gX10_target_X10_isNoA : GoodIn wsX10_target (va_wsS RX10 92 yX10_isNoA wsX10_isNoA) := goodIn_app (goodIn_of _ (by decide +kernel)) ggX10_target_X10_isNoA
set_option maxRecDepth 20000 in
theorem ggX10_target_X10_isNoB : GoodIn wsX10_target wsX10_isNoB := goodIn_r _ [11, 6, 7, 4, 8] (by decide +kernel) (by decide +kernel)
set_option maxRecDepth 20000 in
theorem gX10_target_X10_isNoB : GoodIn wsX10_target (va_wsS RX10 95 yX10_isNoB wsX10_isNoB) := goodIn_app (goodIn_of _ (by decide +kernel)) ggX10_target_X10_isNoB
set_option maxRecDepth 20000 in
theorem ggX10_target_X10_start : GoodIn wsX10_target wsX10_start := goodIn_r _ [15, 16, 17, 18, 19, 4, 20, 21, 22, 23, 24, 25, 26, 27, 28, 29, 30] (by decide +kernel) (by decide +kernel)
set_option maxRecDepth 20000 in
theorem gX10_target_X10_start : GoodIn wsX10_target (wsV RX10 63 RX10 yX10_start wsX10_start) := goodIn_app (goodIn_of _ (by decide +kernel)) ggX10_target_X10_start
set_option maxRecDepth 20000 in
theorem ggX10_target_X10_isIn : GoodIn wsX10_target wsX10_isIn := goodIn_r _ [8] (by decide +kernel) (by decide +kernel)
set_option maxRecDepth 20000 in
theorem gX10_target_X10_isIn : GoodIn wsX10_target (va_wsS RX10 45 yX10_isIn wsX10_isIn) := goodIn_app (goodIn_of _ (by decide +kernel)) ggX10_target_X10_isIn
set_option maxRecDepth 20000 in
theorem ggX10_target_X10_refuse : GoodIn wsX10_target wsX10_refuse := goodIn_r _ [20, 16, 21, 22, 23, 24, 25, 26, 27, 28, 29, 30] (by decide +kernel) (by decide +kernel)
set_option maxRecDepth 20000 in
theorem gX10_target_X10_refuse : GoodIn wsX10_target (wsV RX10 37 RX10 yX10_refuse wsX10_refuse) := goodIn_app (goodIn_of _ (by decide +kernel)) ggX10_target_X10_refuse
set_option maxRecDepth 20000 in
theorem ggX10_soft_X10_isIn : GoodIn wsX10_soft wsX10_isIn := goodIn_r _ [5] (by decide +kernel) (by decide +kernel)
set_option maxRecDepth 20000 in
theorem gX10_soft_X10_isIn : GoodIn wsX10_soft (va_wsS RX10 45 yX10_isIn wsX10_isIn) := goodIn_app (goodIn_of _ (by decide +kernel)) ggX10_soft_X10_isIn
set_option maxRecDepth 20000 in
theorem ggX10_soft_X10_start : GoodIn wsX10_soft wsX10_start := goodIn_r _ [9, 10, 11, 12, 13, 4, 14, 15, 16, 17, 18, 19, 20, 21, 22, 23, 24] (by decide +kernel) (by decide +kernel)
set_option maxRecDepth 20000 in
theorem gX10_soft_X10_start : GoodIn wsX10_soft (wsV RX10 63 RX10 yX10_start wsX10_start) := goodIn_app (goodIn_of _ (by decide +kernel)) ggX10_soft_X10_start
set_option maxRecDepth 20000 in
theorem ggX10_personOf_Jx4a65c_get_915e3 : GoodIn wsX10_personOf wsJx4a65c_get_915e3 := goodIn_r _ [8, 9, 10, 11, 12, 13, 14, 15, 16, 17, 18, 19, 20, 7, 21, 22, 40, 41, 42] (by decide +kernel) (by decide +kernel)
set_option maxRecDepth 20000 in
theorem gX10_personOf_Jx4a65c_get_915e3 : GoodIn wsX10_personOf (wsV RX10 53 RJx4a65c yJx4a65c_get_915e3 wsJx4a65c_get_915e3) := goodIn_app (goodIn_of _ (by decide +kernel)) ggX10_personOf_Jx4a65c_get_915e3
set_option maxRecDepth 20000 in
theorem ggX10_filled_Jx4a65c_iterator_32c93 : GoodIn wsX10_filled wsJx4a65c_iterator_32c93 := goodIn_r _ [12, 13, 14, 15, 16, 17, 18, 19, 20, 21, 22, 23, 24, 25, 26, 101, 102, 103, 104, 105, 106, 107] (by decide +kernel) (by decide +kernel)
set_option maxRecDepth 20000 in
theorem gX10_filled_Jx4a65c_iterator_32c93 : GoodIn wsX10_filled (wsV RX10 109 RJx4a65c yJx4a65c_iterator_32c93 wsJx4a65c_iterator_32c93) := goodIn_app (goodIn_of _ (by decide +kernel)) ggX10_filled_Jx4a65c_iterator_32c93
set_option maxRecDepth 20000 in
theorem ggX10_filled_Jx35411_hasNext_aae02 : GoodIn wsX10_filled wsJx35411_hasNext_aae02 := goodIn_r _ [30, 31, 19, 101, 102, 103, 104, 105, 106, 107] (by decide +kernel) (by decide +kernel)
set_option maxRecDepth 20000 in
theorem gX10_filled_Jx35411_hasNext_aae02_f113Jx35411 : GoodIn wsX10_filled (va_wsF RX10 113 RJx35411 ⟨"java/util/Iterator", "hasNext", "()Z"⟩ yJx35411_hasNext_aae02 wsJx35411_hasNext_aae02) := goodIn_app (goodIn_of _ (by decide +kernel)) ggX10_filled_Jx35411_hasNext_aae02
set_option maxRecDepth 20000 in
theorem ggX10_filled_Jx35411_next_0502b : GoodIn wsX10_filled wsJx35411_next_0502b := goodIn_r _ [35, 31, 19, 36, 23, 37, 38, 39, 15, 40, 24, 25, 26, 101, 102, 103, 104, 105, 106, 107] (by decide +kernel) (by decide +kernel)
set_option maxRecDepth 20000 in
theorem gX10_filled_Jx35411_next_0502b_f118Jx35411 : GoodIn wsX10_filled (va_wsF RX10 118 RJx35411 ⟨"java/util/Iterator", "next", "()Ljava/lang/Object;"⟩ yJx35411_next_0502b wsJx35411_next_0502b) := goodIn_app (goodIn_of _ (by decide +kernel)) ggX10_filled_Jx35411_next_0502b
set_option maxRecDepth 20000 in
theorem ggX10_filled_X7_isDirty : GoodIn wsX10_filled wsX7_isDirty := goodIn_r _ [45, 46, 47, 48, 49, 50, 51, 44, 52, 53, 90, 91, 92, 93, 94, 95, 96] (by decide +kernel) (by decide +kernel)
set_option maxRecDepth 20000 in
theorem gX10_filled_X7_isDirty : GoodIn wsX10_filled (wsV RX10 125 RX7 yX7_isDirty wsX7_isDirty) := goodIn_app (goodIn_of _ (by decide +kernel)) ggX10_filled_X7_isDirty
set_option maxRecDepth 20000 in
theorem ggX10_filled_X10_personOf : GoodIn wsX10_filled wsX10_personOf := goodIn_r _ [58, 59, 60, 61, 62, 63, 64, 11, 65, 66, 67, 68, 69, 70, 71, 72, 73, 74, 75, 76, 77, 78, 79, 80, 81, 82, 83, 84, 85, 86, 87, 88, 89, 90, 91, 92, 93, 94, 95, 96, 105, 106, 107] (by decide +kernel) (by decide +kernel)
set_option maxRecDepth 20000 in
theorem gX10_filled_X10_personOf : GoodIn wsX10_filled (wsV RX10 128 RX10 yX10_personOf wsX10_personOf) := goodIn_app (goodIn_of _ (by decide +kernel)) ggX10_filled_X10_personOf
set_option maxRecDepth 20000 in
theorem ggX10_isOpen_X10_sum : GoodIn wsX10_isOpen wsX10_sum := goodIn_r _ [6] (by decide +kernel) (by decide +kernel)
set_option maxRecDepth 20000 in
theorem gX10_isOpen_X10_sum : GoodIn wsX10_isOpen (va_wsS RX10 138 yX10_sum wsX10_sum) := goodIn_app (goodIn_of _ (by decide +kernel)) ggX10_isOpen_X10_sum
set_option maxRecDepth 20000 in
theorem ggX10_isTaken_Jx4a65c_iterator_32c93 : GoodIn wsX10_isTaken wsJx4a65c_iterator_32c93 := goodIn_r _ [9, 10, 11, 12, 13, 14, 15, 16, 17, 18, 19, 20, 21, 22, 23, 55, 56, 57, 58, 59, 60, 61] (by decide +kernel) (by decide +kernel)
set_option maxRecDepth 20000 in
theorem gX10_isTaken_Jx4a65c_iterator_32c93 : GoodIn wsX10_isTaken (wsV RX10 109 RJx4a65c yJx4a65c_iterator_32c93 wsJx4a65c_iterator_32c93) := goodIn_app (goodIn_of _ (by decide +kernel)) ggX10_isTaken_Jx4a65c_iterator_32c93
set_option maxRecDepth 20000 in
theorem ggX10_isTaken_Jx35411_hasNext_aae02 : GoodIn wsX10_isTaken wsJx35411_hasNext_aae02 := goodIn_r _ [27, 28, 16, 55, 56, 57, 58, 59, 60, 61] (by decide +kernel) (by decide +kernel)
set_option maxRecDepth 20000 in
theorem gX10_isTaken_Jx35411_hasNext_aae02_f113Jx35411 : GoodIn wsX10_isTaken (va_wsF RX10 113 RJx35411 ⟨"java/util/Iterator", "hasNext", "()Z"⟩ yJx35411_hasNext_aae02 wsJx35411_hasNext_aae02) := goodIn_app (goodIn_of _ (by decide +kernel)) ggX10_isTaken_Jx35411_hasNext_aae02
set_option maxRecDepth 20000 in
theorem ggX10_isTaken_Jx35411_next_0502b : GoodIn wsX10_isTaken wsJx35411_next_0502b := goodIn_r _ [32, 28, 16, 33, 20, 34, 35, 36, 12, 37, 21, 22, 23, 55, 56, 57, 58, 59, 60, 61] (by decide +kernel) (by decide +kernel)
set_option maxRecDepth 20000 in
theorem gX10_isTaken_Jx35411_next_0502b_f118Jx35411 : GoodIn wsX10_isTaken (va_wsF RX10 118 RJx35411 ⟨"java/util/Iterator", "next", "()Ljava/lang/Object;"⟩ yJx35411_next_0502b wsJx35411_next_0502b) := goodIn_app (goodIn_of _ (by decide +kernel)) ggX10_isTaken_Jx35411_next_0502b
set_option maxRecDepth 20000 in
theorem ggX10_canBeAsked_Jx4a65c_get_915e3 : GoodIn wsX10_canBeAsked wsJx4a65c_get_915e3 := goodIn_r _ [10, 11, 12, 13, 14, 15, 16, 17, 18, 19, 20, 21, 22, 9, 23, 24, 112, 113, 114] (by decide +kernel) (by decide +kernel)
set_option maxRecDepth 20000 in
theorem gX10_canBeAsked_Jx4a65c_get_915e3 : GoodIn wsX10_canBeAsked (wsV RX10 53 RJx4a65c yJx4a65c_get_915e3 wsJx4a65c_get_915e3) := goodIn_app (goodIn_of _ (by decide +kernel)) ggX10_canBeAsked_Jx4a65c_get_915e3
set_option maxRecDepth 20000 in
theorem ggX10_canBeAsked_X10_isTaken : GoodIn wsX10_canBeAsked wsX10_isTaken := goodIn_r _ [29, 30, 31, 32, 33, 34, 35, 36, 9, 37, 38, 39, 40, 41, 42, 43, 44, 45, 46, 47, 48, 49, 50, 51, 52, 53, 54, 55, 56, 57, 58, 59, 60, 61, 62, 63, 64, 65, 98, 99, 100, 101, 102, 103, 104, 105, 106, 107, 115, 116, 117, 118, 119, 120, 121, 122, 123, 124, 125, 112, 113, 114] (by decide +kernel) (by decide +kernel)
set_option maxRecDepth 20000 in
theorem gX10_canBeAsked_X10_isTaken : GoodIn wsX10_canBeAsked (wsV RX10 142 RX10 yX10_isTaken wsX10_isTaken) := goodIn_app (goodIn_of _ (by decide +kernel)) ggX10_canBeAsked_X10_isTaken
set_option maxRecDepth 20000 in
theorem ggX10_canBeAsked_X10_filled : GoodIn wsX10_canBeAsked wsX10_filled := goodIn_r _ [69, 70, 71, 30, 31, 33, 4, 5, 34, 35, 36, 9, 37, 38, 39, 40, 41, 42, 43, 44, 45, 46, 47, 48, 49, 50, 51, 52, 53, 54, 55, 56, 57, 58, 59, 60, 61, 62, 63, 64, 65, 72, 73, 74, 75, 76, 77, 78, 79, 80, 81, 82, 83, 84, 85, 86, 87, 28, 88, 1, 32, 2, 6, 7, 8, 10, 11, 12, 13, 14, 15, 16, 17, 18, 19, 20, 21, 22, 23, 24, 98, 99, 100, 101, 102, 103, 104, 105, 106, 107, 115, 116, 117, 118, 119, 120, 121, 108, 109, 110, 111, 122, 123, 124, 125, 112, 113, 114] (by decide +kernel) (by decide +kernel)
set_option maxRecDepth 20000 in
theorem gX10_canBeAsked_X10_filled : GoodIn wsX10_canBeAsked (wsV RX10 148 RX10 yX10_filled wsX10_filled) := goodIn_app (goodIn_of _ (by decide +kernel)) ggX10_canBeAsked_X10_filled
set_option maxRecDepth 20000 in
theorem ggX10_canBeAsked_X10_isOpen : GoodIn wsX10_canBeAsked wsX10_isOpen := goodIn_r _ [92, 93, 94, 95, 96, 28, 97, 98, 99, 100, 101, 102, 103, 104, 105, 106, 107] (by decide +kernel) (by decide +kernel)
set_option maxRecDepth 20000 in
theorem gX10_canBeAsked_X10_isOpen : GoodIn wsX10_canBeAsked (wsV RX10 152 RX10 yX10_isOpen wsX10_isOpen) := goodIn_app (goodIn_of _ (by decide +kernel)) ggX10_canBeAsked_X10_isOpen
set_option maxRecDepth 20000 in
theorem ggX10_ofCellNow_X10_filled : GoodIn wsX10_ofCellNow wsX10_filled := goodIn_r _ [8, 9, 10, 11, 12, 13, 14, 15, 16, 17, 18, 19, 20, 21, 22, 23, 24, 25, 26, 27, 28, 29, 30, 31, 32, 33, 34, 35, 36, 37, 38, 39, 40, 41, 42, 43, 44, 45, 46, 47, 48, 49, 50, 51, 52, 53, 54, 55, 56, 57, 58, 59, 60, 61, 62, 63, 64, 7, 65, 2, 66, 3, 67, 68, 69, 70, 71, 72, 73, 74, 75, 76, 77, 78, 79, 80, 81, 82, 83, 84, 113, 114, 115, 116, 117, 118, 119, 120, 121, 122, 123, 124, 125, 126, 127, 128, 129, 130, 131, 132, 133, 134, 135, 136, 137, 138, 139, 140] (by decide +kernel) (by decide +kernel)
set_option maxRecDepth 20000 in
theorem gX10_ofCellNow_X10_filled : GoodIn wsX10_ofCellNow (wsV RX10 148 RX10 yX10_filled wsX10_filled) := goodIn_app (goodIn_of _ (by decide +kernel)) ggX10_ofCellNow_X10_filled
set_option maxRecDepth 20000 in
theorem ggX10_ofCellNow_X10_isOpen : GoodIn wsX10_ofCellNow wsX10_isOpen := goodIn_r _ [88, 1, 89, 90, 91, 7, 92, 113, 114, 115, 116, 117, 118, 119, 120, 121, 122] (by decide +kernel) (by decide +kernel)
set_option maxRecDepth 20000 in
theorem gX10_ofCellNow_X10_isOpen : GoodIn wsX10_ofCellNow (wsV RX10 152 RX10 yX10_isOpen wsX10_isOpen) := goodIn_app (goodIn_of _ (by decide +kernel)) ggX10_ofCellNow_X10_isOpen
set_option maxRecDepth 20000 in
theorem ggX10_ofCellNow_Jx4a65c_size_8abf5 : GoodIn wsX10_ofCellNow wsJx4a65c_size_8abf5 := goodIn_r _ [96, 71, 138, 139, 140] (by decide +kernel) (by decide +kernel)
set_option maxRecDepth 20000 in
theorem gX10_ofCellNow_Jx4a65c_size_8abf5 : GoodIn wsX10_ofCellNow (wsV RX10 41 RJx4a65c yJx4a65c_size_8abf5 wsJx4a65c_size_8abf5) := goodIn_app (goodIn_of _ (by decide +kernel)) ggX10_ofCellNow_Jx4a65c_size_8abf5
set_option maxRecDepth 20000 in
theorem ggX10_ofCellNow_Jx4a65c_get_915e3 : GoodIn wsX10_ofCellNow wsJx4a65c_get_915e3 := goodIn_r _ [70, 71, 72, 73, 74, 75, 76, 77, 78, 79, 80, 81, 82, 19, 83, 84, 138, 139, 140] (by decide +kernel) (by decide +kernel)
set_option maxRecDepth 20000 in
theorem gX10_ofCellNow_Jx4a65c_get_915e3 : GoodIn wsX10_ofCellNow (wsV RX10 53 RJx4a65c yJx4a65c_get_915e3 wsJx4a65c_get_915e3) := goodIn_app (goodIn_of _ (by decide +kernel)) ggX10_ofCellNow_Jx4a65c_get_915e3
set_option maxRecDepth 20000 in
theorem ggX10_ofCellNow_X8_isOf : GoodIn wsX10_ofCellNow wsX8_isOf := goodIn_r _ [101, 102, 103, 130, 131, 132, 133] (by decide +kernel) (by decide +kernel)
set_option maxRecDepth 20000 in
theorem gX10_ofCellNow_X8_isOf : GoodIn wsX10_ofCellNow (wsV RX10 156 RX8 yX8_isOf wsX8_isOf) := goodIn_app (goodIn_of _ (by decide +kernel)) ggX10_ofCellNow_X8_isOf
set_option maxRecDepth 20000 in
theorem ggX10_ofCellNow_X10_canBeAsked : GoodIn wsX10_ofCellNow wsX10_canBeAsked := goodIn_r _ [107, 2, 3, 108, 14, 15, 67, 68, 69, 19, 70, 71, 72, 73, 74, 75, 76, 77, 78, 79, 80, 81, 82, 83, 84, 109, 110, 111, 7, 112, 11, 12, 66, 13, 16, 17, 18, 20, 21, 22, 23, 24, 25, 26, 27, 28, 29, 30, 31, 32, 33, 34, 35, 36, 37, 38, 39, 40, 41, 42, 43, 44, 45, 46, 47, 48, 4, 5, 6, 8, 9, 10, 49, 50, 51, 52, 53, 54, 55, 56, 57, 58, 59, 60, 61, 62, 63, 64, 65, 85, 86, 87, 88, 1, 89, 90, 91, 92, 113, 114, 115, 116, 117, 118, 119, 120, 121, 122, 130, 131, 132, 133, 138, 139, 140, 123, 124, 125, 126, 127, 128, 129, 134, 135, 136, 137] (by decide +kernel) (by decide +kernel)
set_option maxRecDepth 20000 in
theorem gX10_ofCellNow_X10_canBeAsked : GoodIn wsX10_ofCellNow (wsV RX10 159 RX10 yX10_canBeAsked wsX10_canBeAsked) := goodIn_app (goodIn_of _ (by decide +kernel)) ggX10_ofCellNow_X10_canBeAsked
set_option maxRecDepth 20000 in
theorem ggX10_ofCell_X10_isNoA : GoodIn wsX10_ofCell wsX10_isNoA := goodIn_r _ [4, 5, 6, 3, 7] (by decide +kernel) (by decide +kernel)
set_option maxRecDepth 20000 in
theorem gX10_ofCell_X10_isNoA : GoodIn wsX10_ofCell (va_wsS RX10 92 yX10_isNoA wsX10_isNoA) := goodIn_app (goodIn_of _ (by decide +kernel)) ggX10_ofCell_X10_isNoA
set_option maxRecDepth 20000 in
theorem ggX10_ofCell_X10_isNoB : GoodIn wsX10_ofCell wsX10_isNoB := goodIn_r _ [10, 5, 6, 3, 7] (by decide +kernel) (by decide +kernel)
set_option maxRecDepth 20000 in
theorem gX10_ofCell_X10_isNoB : GoodIn wsX10_ofCell (va_wsS RX10 95 yX10_isNoB wsX10_isNoB) := goodIn_app (goodIn_of _ (by decide +kernel)) ggX10_ofCell_X10_isNoB
set_option maxRecDepth 20000 in
theorem ggX10_ofCell_X10_start : GoodIn wsX10_ofCell wsX10_start := goodIn_r _ [14, 15, 16, 17, 18, 3, 19, 135, 136, 137, 138, 139, 140, 141, 142, 143, 144] (by decide +kernel) (by decide +kernel)
set_option maxRecDepth 20000 in
theorem gX10_ofCell_X10_start : GoodIn wsX10_ofCell (wsV RX10 63 RX10 yX10_start wsX10_start) := goodIn_app (goodIn_of _ (by decide +kernel)) ggX10_ofCell_X10_start
set_option maxRecDepth 20000 in
theorem ggX10_ofCell_X10_isIn : GoodIn wsX10_ofCell wsX10_isIn := goodIn_r _ [7] (by decide +kernel) (by decide +kernel)
set_option maxRecDepth 20000 in
theorem gX10_ofCell_X10_isIn : GoodIn wsX10_ofCell (va_wsS RX10 45 yX10_isIn wsX10_isIn) := goodIn_app (goodIn_of _ (by decide +kernel)) ggX10_ofCell_X10_isIn
set_option maxRecDepth 20000 in
theorem ggX10_ofCell_X10_refuse : GoodIn wsX10_ofCell wsX10_refuse := goodIn_r _ [19, 15, 135, 136, 137, 138, 139, 140, 141, 142, 143, 144] (by decide +kernel) (by decide +kernel)
set_option maxRecDepth 20000 in
theorem gX10_ofCell_X10_refuse : GoodIn wsX10_ofCell (wsV RX10 37 RX10 yX10_refuse wsX10_refuse) := goodIn_app (goodIn_of _ (by decide +kernel)) ggX10_ofCell_X10_refuse
set_option maxRecDepth 20000 in
theorem ggX10_ofCell_X10_ofCellNow : GoodIn wsX10_ofCell wsX10_ofCellNow := goodIn_r _ [23, 24, 25, 26, 27, 28, 29, 3, 30, 31, 32, 33, 34, 35, 36, 37, 38, 39, 40, 41, 42, 43, 44, 45, 46, 47, 48, 49, 50, 51, 52, 53, 54, 55, 56, 57, 58, 59, 60, 61, 62, 63, 64, 65, 66, 67, 68, 69, 70, 71, 72, 73, 74, 75, 76, 77, 78, 79, 80, 81, 82, 83, 84, 85, 86, 87, 88, 89, 90, 91, 92, 93, 94, 95, 96, 97, 98, 99, 100, 101, 102, 103, 104, 105, 106, 107, 108, 109, 110, 111, 112, 113, 114, 115, 116, 117, 118, 119, 120, 121, 122, 123, 124, 125, 126, 127, 128, 129, 130, 131, 132, 133, 134, 135, 136, 137, 138, 139, 140, 141, 142, 143, 144, 145, 146, 147, 148, 149, 150, 151, 152, 153, 154, 155, 156, 157, 158, 159, 160, 161, 162] (by decide +kernel) (by decide +kernel)
set_option maxRecDepth 20000 in
theorem gX10_ofCell_X10_ofCellNow : GoodIn wsX10_ofCell (wsV RX10 162 RX10 yX10_ofCellNow wsX10_ofCellNow) := goodIn_app (goodIn_of _ (by decide +kernel)) ggX10_ofCell_X10_ofCellNow
set_option maxRecDepth 20000 in
theorem ggX10_latest_Jx4a65c_iterator_32c93 : GoodIn wsX10_latest wsJx4a65c_iterator_32c93 := goodIn_r _ [9, 10, 11, 12, 13, 14, 15, 16, 17, 18, 19, 20, 21, 22, 23, 55, 56, 57, 58, 59, 60, 61] (by decide +kernel) (by decide +kernel)
set_option maxRecDepth 20000 in
theorem gX10_latest_Jx4a65c_iterator_32c93 : GoodIn wsX10_latest (wsV RX10 109 RJx4a65c yJx4a65c_iterator_32c93 wsJx4a65c_iterator_32c93) := goodIn_app (goodIn_of _ (by decide +kernel)) ggX10_latest_Jx4a65c_iterator_32c93
set_option maxRecDepth 20000 in
theorem ggX10_latest_Jx35411_hasNext_aae02 : GoodIn wsX10_latest wsJx35411_hasNext_aae02 := goodIn_r _ [27, 28, 16, 55, 56, 57, 58, 59, 60, 61] (by decide +kernel) (by decide +kernel)
set_option maxRecDepth 20000 in
theorem gX10_latest_Jx35411_hasNext_aae02_f113Jx35411 : GoodIn wsX10_latest (va_wsF RX10 113 RJx35411 ⟨"java/util/Iterator", "hasNext", "()Z"⟩ yJx35411_hasNext_aae02 wsJx35411_hasNext_aae02) := goodIn_app (goodIn_of _ (by decide +kernel)) ggX10_latest_Jx35411_hasNext_aae02
set_option maxRecDepth 20000 in
theorem ggX10_latest_Jx35411_next_0502b : GoodIn wsX10_latest wsJx35411_next_0502b := goodIn_r _ [32, 28, 16, 33, 20, 34, 35, 36, 12, 37, 21, 22, 23, 55, 56, 57, 58, 59, 60, 61] (by decide +kernel) (by decide +kernel)
set_option maxRecDepth 20000 in
theorem gX10_latest_Jx35411_next_0502b_f118Jx35411 : GoodIn wsX10_latest (va_wsF RX10 118 RJx35411 ⟨"java/util/Iterator", "next", "()Ljava/lang/Object;"⟩ yJx35411_next_0502b wsJx35411_next_0502b) := goodIn_app (goodIn_of _ (by decide +kernel)) ggX10_latest_Jx35411_next_0502b
set_option maxRecDepth 20000 in
theorem ggX10_ofPersonNow_Jx4a65c_get_915e3 : GoodIn wsX10_ofPersonNow wsJx4a65c_get_915e3 := goodIn_r _ [12, 13, 14, 15, 16, 17, 18, 19, 20, 21, 22, 23, 24, 11, 25, 26, 122, 123, 124] (by decide +kernel) (by decide +kernel)
set_option maxRecDepth 20000 in
theorem gX10_ofPersonNow_Jx4a65c_get_915e3 : GoodIn wsX10_ofPersonNow (wsV RX10 53 RJx4a65c yJx4a65c_get_915e3 wsJx4a65c_get_915e3) := goodIn_app (goodIn_of _ (by decide +kernel)) ggX10_ofPersonNow_Jx4a65c_get_915e3
set_option maxRecDepth 20000 in
theorem ggX10_ofPersonNow_X10_canBeAsked : GoodIn wsX10_ofPersonNow wsX10_canBeAsked := goodIn_r _ [31, 1, 2, 6, 4, 5, 8, 9, 10, 11, 12, 13, 14, 15, 16, 17, 18, 19, 20, 21, 22, 23, 24, 25, 26, 32, 33, 34, 30, 35, 36, 37, 38, 39, 40, 41, 42, 43, 44, 45, 46, 47, 48, 49, 50, 51, 52, 53, 54, 55, 56, 57, 58, 59, 60, 61, 62, 63, 64, 65, 66, 67, 68, 69, 70, 71, 72, 73, 74, 75, 76, 3, 77, 78, 79, 80, 81, 82, 83, 84, 85, 86, 87, 88, 89, 90, 91, 92, 93, 94, 95, 96, 97, 98, 99, 100, 101, 102, 108, 109, 110, 111, 112, 113, 114, 115, 116, 117, 118, 119, 120, 121, 122, 123, 124, 125, 126, 127, 128, 129, 130, 131, 132, 133, 134, 135] (by decide +kernel) (by decide +kernel)
set_option maxRecDepth 20000 in
theorem gX10_ofPersonNow_X10_canBeAsked : GoodIn wsX10_ofPersonNow (wsV RX10 159 RX10 yX10_canBeAsked wsX10_canBeAsked) := goodIn_app (goodIn_of _ (by decide +kernel)) ggX10_ofPersonNow_X10_canBeAsked
set_option maxRecDepth 20000 in
theorem ggX10_ofPersonNow_X10_latest : GoodIn wsX10_ofPersonNow wsX10_latest := goodIn_r _ [106, 36, 37, 38, 107, 40, 41, 42, 11, 43, 44, 45, 46, 47, 48, 49, 50, 51, 52, 53, 54, 55, 56, 57, 58, 59, 60, 61, 62, 63, 64, 65, 66, 67, 68, 69, 70, 71, 108, 109, 110, 111, 112, 113, 114, 115, 116, 117, 125, 126, 127, 128, 129, 130, 131, 132, 133, 134, 135, 122, 123, 124] (by decide +kernel) (by decide +kernel)
set_option maxRecDepth 20000 in
theorem gX10_ofPersonNow_X10_latest : GoodIn wsX10_ofPersonNow (wsV RX10 172 RX10 yX10_latest wsX10_latest) := goodIn_app (goodIn_of _ (by decide +kernel)) ggX10_ofPersonNow_X10_latest
set_option maxRecDepth 20000 in
theorem ggX10_isNoPerson_Jx4a65c_size_8abf5 : GoodIn wsX10_isNoPerson wsJx4a65c_size_8abf5 := goodIn_r _ [6, 7, 31, 32, 33] (by decide +kernel) (by decide +kernel)
set_option maxRecDepth 20000 in
theorem gX10_isNoPerson_Jx4a65c_size_8abf5 : GoodIn wsX10_isNoPerson (wsV RX10 41 RJx4a65c yJx4a65c_size_8abf5 wsJx4a65c_size_8abf5) := goodIn_app (goodIn_of _ (by decide +kernel)) ggX10_isNoPerson_Jx4a65c_size_8abf5
set_option maxRecDepth 20000 in
theorem ggX10_isNoPerson_X10_isIn : GoodIn wsX10_isNoPerson wsX10_isIn := goodIn_r _ [11] (by decide +kernel) (by decide +kernel)
set_option maxRecDepth 20000 in
theorem gX10_isNoPerson_X10_isIn : GoodIn wsX10_isNoPerson (va_wsS RX10 45 yX10_isIn wsX10_isIn) := goodIn_app (goodIn_of _ (by decide +kernel)) ggX10_isNoPerson_X10_isIn
set_option maxRecDepth 20000 in
theorem ggX10_isNoPerson_X10_start : GoodIn wsX10_isNoPerson wsX10_start := goodIn_r _ [15, 16, 17, 18, 19, 10, 20, 21, 22, 23, 24, 25, 26, 27, 28, 29, 30] (by decide +kernel) (by decide +kernel)
set_option maxRecDepth 20000 in
theorem gX10_isNoPerson_X10_start : GoodIn wsX10_isNoPerson (wsV RX10 63 RX10 yX10_start wsX10_start) := goodIn_app (goodIn_of _ (by decide +kernel)) ggX10_isNoPerson_X10_start
set_option maxRecDepth 20000 in
theorem ggX10_ofPerson_X10_isNoPerson : GoodIn wsX10_ofPerson wsX10_isNoPerson := goodIn_r _ [5, 6, 7, 8, 9, 10, 11, 12, 13, 14, 4, 15, 16, 17, 18, 19, 20, 21, 22, 23, 24, 132, 133, 134, 135, 136, 137, 138, 139, 140, 141, 142, 143, 144] (by decide +kernel) (by decide +kernel)
set_option maxRecDepth 20000 in
theorem gX10_ofPerson_X10_isNoPerson : GoodIn wsX10_ofPerson (wsV RX10 175 RX10 yX10_isNoPerson wsX10_isNoPerson) := goodIn_app (goodIn_of _ (by decide +kernel)) ggX10_ofPerson_X10_isNoPerson
set_option maxRecDepth 20000 in
theorem ggX10_ofPerson_X10_isIn : GoodIn wsX10_ofPerson wsX10_isIn := goodIn_r _ [15] (by decide +kernel) (by decide +kernel)
set_option maxRecDepth 20000 in
theorem gX10_ofPerson_X10_isIn : GoodIn wsX10_ofPerson (va_wsS RX10 45 yX10_isIn wsX10_isIn) := goodIn_app (goodIn_of _ (by decide +kernel)) ggX10_ofPerson_X10_isIn
set_option maxRecDepth 20000 in
theorem ggX10_ofPerson_X10_refuse : GoodIn wsX10_ofPerson wsX10_refuse := goodIn_r _ [24, 20, 132, 133, 134, 135, 136, 137, 138, 139, 140, 141] (by decide +kernel) (by decide +kernel)
set_option maxRecDepth 20000 in
theorem gX10_ofPerson_X10_refuse : GoodIn wsX10_ofPerson (wsV RX10 37 RX10 yX10_refuse wsX10_refuse) := goodIn_app (goodIn_of _ (by decide +kernel)) ggX10_ofPerson_X10_refuse
set_option maxRecDepth 20000 in
theorem ggX10_ofPerson_X10_ofPersonNow : GoodIn wsX10_ofPerson wsX10_ofPersonNow := goodIn_r _ [28, 6, 29, 30, 31, 32, 33, 34, 35, 36, 37, 10, 38, 12, 39, 40, 41, 42, 43, 44, 45, 46, 47, 48, 49, 50, 51, 52, 53, 54, 4, 55, 56, 57, 58, 59, 60, 61, 62, 63, 64, 65, 66, 67, 68, 69, 70, 71, 72, 73, 74, 75, 76, 77, 78, 79, 80, 81, 82, 83, 84, 85, 86, 87, 88, 89, 90, 91, 92, 93, 94, 95, 96, 97, 98, 99, 100, 101, 102, 103, 104, 105, 106, 107, 108, 109, 110, 111, 112, 113, 114, 115, 116, 117, 118, 119, 120, 121, 122, 123, 124, 125, 126, 127, 128, 129, 130, 131, 132, 133, 134, 135, 136, 137, 138, 139, 140, 141, 145, 146, 147, 148, 142, 143, 144, 149, 150, 151, 152, 153, 154, 155, 156, 157, 158, 159] (by decide +kernel) (by decide +kernel)
set_option maxRecDepth 20000 in
theorem gX10_ofPerson_X10_ofPersonNow : GoodIn wsX10_ofPerson (wsV RX10 178 RX10 yX10_ofPersonNow wsX10_ofPersonNow) := goodIn_app (goodIn_of _ (by decide +kernel)) ggX10_ofPerson_X10_ofPersonNow
set_option maxRecDepth 20000 in
theorem ggX10_lacks_X10_filled : GoodIn wsX10_lacks wsX10_filled := goodIn_r _ [8, 9, 10, 11, 12, 13, 2, 3, 14, 15, 16, 17, 18, 19, 20, 21, 22, 23, 24, 25, 26, 27, 28, 29, 30, 31, 32, 33, 34, 35, 36, 37, 38, 39, 40, 41, 42, 43, 44, 45, 46, 47, 48, 49, 50, 51, 52, 53, 54, 55, 56, 57, 58, 59, 60, 61, 62, 7, 63, 64, 65, 66, 67, 68, 69, 70, 71, 72, 73, 74, 75, 76, 77, 78, 79, 80, 81, 82, 83, 84, 85, 86, 87, 88, 89, 90, 91, 92, 93, 94, 99, 100, 101, 102, 103, 104, 105, 95, 96, 97, 98, 106, 107, 108, 109, 110, 111, 112] (by decide +kernel) (by decide +kernel)
set_option maxRecDepth 20000 in
theorem gX10_lacks_X10_filled : GoodIn wsX10_lacks (wsV RX10 148 RX10 yX10_filled wsX10_filled) := goodIn_app (goodIn_of _ (by decide +kernel)) ggX10_lacks_X10_filled
set_option maxRecDepth 20000 in
theorem ggX10_nextNow_Jx4a65c_size_8abf5 : GoodIn wsX10_nextNow wsJx4a65c_size_8abf5 := goodIn_r _ [12, 13, 128, 129, 130] (by decide +kernel) (by decide +kernel)
set_option maxRecDepth 20000 in
theorem gX10_nextNow_Jx4a65c_size_8abf5 : GoodIn wsX10_nextNow (wsV RX10 41 RJx4a65c yJx4a65c_size_8abf5 wsJx4a65c_size_8abf5) := goodIn_app (goodIn_of _ (by decide +kernel)) ggX10_nextNow_Jx4a65c_size_8abf5
set_option maxRecDepth 20000 in
theorem ggX10_nextNow_X10_canBeAsked : GoodIn wsX10_nextNow wsX10_canBeAsked := goodIn_r _ [18, 1, 2, 3, 19, 20, 21, 22, 23, 11, 24, 13, 25, 26, 27, 28, 29, 30, 31, 32, 33, 34, 35, 36, 37, 38, 39, 40, 17, 41, 42, 43, 44, 45, 46, 47, 48, 49, 50, 51, 52, 53, 54, 55, 56, 57, 58, 59, 60, 61, 62, 63, 64, 65, 66, 67, 68, 69, 70, 71, 72, 73, 74, 75, 76, 77, 78, 79, 80, 81, 82, 83, 84, 85, 86, 87, 88, 89, 90, 91, 92, 93, 94, 95, 96, 97, 98, 99, 100, 101, 102, 103, 104, 105, 106, 107, 108, 109, 114, 115, 116, 117, 118, 119, 120, 121, 122, 123, 124, 125, 126, 127, 128, 129, 130, 131, 132, 133, 134, 135, 136, 137, 138, 139, 140, 141] (by decide +kernel) (by decide +kernel)
set_option maxRecDepth 20000 in
theorem gX10_nextNow_X10_canBeAsked : GoodIn wsX10_nextNow (wsV RX10 159 RX10 yX10_canBeAsked wsX10_canBeAsked) := goodIn_app (goodIn_of _ (by decide +kernel)) ggX10_nextNow_X10_canBeAsked
set_option maxRecDepth 20000 in
theorem ggX10_nextNow_Jx4a65c_get_915e3 : GoodIn wsX10_nextNow wsJx4a65c_get_915e3 := goodIn_r _ [24, 13, 25, 26, 27, 28, 29, 30, 31, 32, 33, 34, 35, 11, 36, 37, 128, 129, 130] (by decide +kernel) (by decide +kernel)
set_option maxRecDepth 20000 in
theorem gX10_nextNow_Jx4a65c_get_915e3 : GoodIn wsX10_nextNow (wsV RX10 53 RJx4a65c yJx4a65c_get_915e3 wsJx4a65c_get_915e3) := goodIn_app (goodIn_of _ (by decide +kernel)) ggX10_nextNow_Jx4a65c_get_915e3
set_option maxRecDepth 20000 in
theorem ggX10_nextNow_X10_lacks : GoodIn wsX10_nextNow wsX10_lacks := goodIn_r _ [113, 105, 19, 20, 78, 79, 80, 17, 81, 82, 83, 42, 43, 45, 46, 47, 48, 11, 49, 50, 51, 52, 53, 54, 55, 56, 57, 58, 59, 60, 61, 62, 63, 64, 65, 66, 67, 68, 69, 70, 71, 72, 73, 74, 75, 76, 77, 84, 85, 86, 87, 88, 89, 90, 91, 92, 93, 94, 95, 96, 97, 98, 99, 100, 1, 44, 2, 21, 22, 23, 24, 13, 25, 26, 27, 28, 29, 30, 31, 32, 33, 34, 35, 36, 37, 114, 115, 116, 117, 118, 119, 120, 121, 122, 123, 124, 125, 126, 127, 131, 132, 133, 134, 135, 136, 137, 138, 139, 140, 141, 128, 129, 130] (by decide +kernel) (by decide +kernel)
set_option maxRecDepth 20000 in
theorem gX10_nextNow_X10_lacks : GoodIn wsX10_nextNow (wsV RX10 181 RX10 yX10_lacks wsX10_lacks) := goodIn_app (goodIn_of _ (by decide +kernel)) ggX10_nextNow_X10_lacks
set_option maxRecDepth 20000 in
theorem ggX10_next_X10_nextNow : GoodIn wsX10_next wsX10_nextNow := goodIn_r _ [6, 7, 8, 9, 10, 11, 12, 13, 14, 15, 16, 17, 18, 19, 20, 21, 22, 5, 23, 24, 25, 26, 27, 28, 29, 30, 31, 32, 33, 34, 35, 36, 37, 38, 39, 40, 41, 42, 43, 44, 45, 46, 47, 48, 49, 50, 51, 52, 53, 54, 55, 56, 57, 58, 59, 60, 61, 62, 63, 64, 65, 66, 67, 68, 69, 70, 71, 72, 73, 74, 75, 76, 77, 78, 79, 80, 81, 82, 83, 84, 85, 86, 87, 88, 89, 90, 91, 92, 93, 94, 95, 96, 97, 98, 99, 100, 101, 102, 103, 104, 105, 106, 107, 108, 109, 110, 111, 112, 113, 114, 115, 116, 117, 118, 119, 120, 121, 122, 123, 124, 125, 126, 127, 128, 129, 130, 131, 132, 133, 134, 135, 136, 137, 138, 139, 140, 141, 142, 143, 144, 145, 146] (by decide +kernel) (by decide +kernel)
set_option maxRecDepth 20000 in
theorem gX10_next_X10_nextNow : GoodIn wsX10_next (wsV RX10 190 RX10 yX10_nextNow wsX10_nextNow) := goodIn_app (goodIn_of _ (by decide +kernel)) ggX10_next_X10_nextNow
set_option maxRecDepth 20000 in
theorem ggX10_day_Jx4a65c_iterator_32c93 : GoodIn wsX10_day wsJx4a65c_iterator_32c93 := goodIn_r _ [14, 15, 16, 17, 18, 19, 20, 21, 22, 23, 24, 25, 26, 27, 28, 57, 58, 59, 60, 61, 62, 63] (by decide +kernel) (by decide +kernel)
set_option maxRecDepth 20000 in
theorem gX10_day_Jx4a65c_iterator_32c93 : GoodIn wsX10_day (wsV RX10 109 RJx4a65c yJx4a65c_iterator_32c93 wsJx4a65c_iterator_32c93) := goodIn_app (goodIn_of _ (by decide +kernel)) ggX10_day_Jx4a65c_iterator_32c93
set_option maxRecDepth 20000 in
theorem ggX10_day_Jx35411_hasNext_aae02 : GoodIn wsX10_day wsJx35411_hasNext_aae02 := goodIn_r _ [32, 33, 21, 57, 58, 59, 60, 61, 62, 63] (by decide +kernel) (by decide +kernel)
set_option maxRecDepth 20000 in
theorem gX10_day_Jx35411_hasNext_aae02_f113Jx35411 : GoodIn wsX10_day (va_wsF RX10 113 RJx35411 ⟨"java/util/Iterator", "hasNext", "()Z"⟩ yJx35411_hasNext_aae02 wsJx35411_hasNext_aae02) := goodIn_app (goodIn_of _ (by decide +kernel)) ggX10_day_Jx35411_hasNext_aae02
set_option maxRecDepth 20000 in
theorem ggX10_day_Jx35411_next_0502b : GoodIn wsX10_day wsJx35411_next_0502b := goodIn_r _ [37, 33, 21, 38, 25, 39, 40, 41, 17, 42, 26, 27, 28, 57, 58, 59, 60, 61, 62, 63] (by decide +kernel) (by decide +kernel)
set_option maxRecDepth 20000 in
theorem gX10_day_Jx35411_next_0502b_f118Jx35411 : GoodIn wsX10_day (va_wsF RX10 118 RJx35411 ⟨"java/util/Iterator", "next", "()Ljava/lang/Object;"⟩ yJx35411_next_0502b wsJx35411_next_0502b) := goodIn_app (goodIn_of _ (by decide +kernel)) ggX10_day_Jx35411_next_0502b
set_option maxRecDepth 20000 in
theorem ggX10_begin_X10_isNoPerson : GoodIn wsX10_begin wsX10_isNoPerson := goodIn_r _ [18, 3, 19, 20, 21, 22, 23, 24, 25, 26, 17, 27, 28, 29, 30, 31, 32, 33, 34, 35, 36, 190, 191, 192, 193, 194, 195, 196, 197, 198, 199, 211, 212, 213] (by decide +kernel) (by decide +kernel)
set_option maxRecDepth 20000 in
theorem gX10_begin_X10_isNoPerson : GoodIn wsX10_begin (wsV RX10 175 RX10 yX10_isNoPerson wsX10_isNoPerson) := goodIn_app (goodIn_of _ (by decide +kernel)) ggX10_begin_X10_isNoPerson
set_option maxRecDepth 20000 in
theorem ggX10_begin_X10_canBeAsked : GoodIn wsX10_begin wsX10_canBeAsked := goodIn_r _ [40, 3, 4, 5, 41, 42, 43, 44, 45, 22, 46, 24, 47, 48, 49, 50, 51, 52, 53, 54, 55, 56, 57, 58, 59, 60, 61, 62, 17, 63, 2, 64, 65, 66, 67, 68, 69, 70, 71, 72, 73, 74, 75, 76, 77, 78, 79, 80, 81, 82, 83, 84, 85, 86, 87, 88, 89, 90, 91, 92, 93, 94, 95, 96, 97, 98, 99, 100, 101, 102, 103, 104, 105, 106, 107, 12, 108, 109, 110, 111, 112, 113, 114, 115, 116, 117, 118, 119, 120, 121, 122, 123, 124, 125, 126, 127, 128, 129, 190, 191, 192, 193, 194, 195, 196, 197, 198, 199, 200, 201, 202, 203, 211, 212, 213, 204, 205, 206, 207, 208, 209, 210, 214, 215, 216, 217] (by decide +kernel) (by decide +kernel)
set_option maxRecDepth 20000 in
theorem gX10_begin_X10_canBeAsked : GoodIn wsX10_begin (wsV RX10 159 RX10 yX10_canBeAsked wsX10_canBeAsked) := goodIn_app (goodIn_of _ (by decide +kernel)) ggX10_begin_X10_canBeAsked
set_option maxRecDepth 20000 in
theorem ggX10_begin_Jx4a65c_isEmpty_aae02 : GoodIn wsX10_begin wsJx4a65c_isEmpty_aae02 := goodIn_r _ [133, 24, 211, 212, 213] (by decide +kernel) (by decide +kernel)
set_option maxRecDepth 20000 in
theorem gX10_begin_Jx4a65c_isEmpty_aae02 : GoodIn wsX10_begin (wsV RX10 66 RJx4a65c yJx4a65c_isEmpty_aae02 wsJx4a65c_isEmpty_aae02) := goodIn_app (goodIn_of _ (by decide +kernel)) ggX10_begin_Jx4a65c_isEmpty_aae02
set_option maxRecDepth 20000 in
theorem ggX10_begin_Jx4a65c_size_8abf5 : GoodIn wsX10_begin wsJx4a65c_size_8abf5 := goodIn_r _ [23, 24, 211, 212, 213] (by decide +kernel) (by decide +kernel)
set_option maxRecDepth 20000 in
theorem gX10_begin_Jx4a65c_size_8abf5 : GoodIn wsX10_begin (wsV RX10 41 RJx4a65c yJx4a65c_size_8abf5 wsJx4a65c_size_8abf5) := goodIn_app (goodIn_of _ (by decide +kernel)) ggX10_begin_Jx4a65c_size_8abf5
set_option maxRecDepth 20000 in
theorem ggX10_begin_X10_refuse : GoodIn wsX10_begin wsX10_refuse := goodIn_r _ [36, 32, 190, 191, 192, 193, 194, 195, 196, 197, 198, 199] (by decide +kernel) (by decide +kernel)
set_option maxRecDepth 20000 in
theorem gX10_begin_X10_refuse : GoodIn wsX10_begin (wsV RX10 37 RX10 yX10_refuse wsX10_refuse) := goodIn_app (goodIn_of _ (by decide +kernel)) ggX10_begin_X10_refuse
set_option maxRecDepth 20000 in
theorem ggX10_begin_Jx4a65c_get_915e3 : GoodIn wsX10_begin wsJx4a65c_get_915e3 := goodIn_r _ [46, 24, 47, 48, 49, 50, 51, 52, 53, 54, 55, 56, 57, 22, 58, 59, 211, 212, 213] (by decide +kernel) (by decide +kernel)
set_option maxRecDepth 20000 in
theorem gX10_begin_Jx4a65c_get_915e3 : GoodIn wsX10_begin (wsV RX10 53 RJx4a65c yJx4a65c_get_915e3 wsJx4a65c_get_915e3) := goodIn_app (goodIn_of _ (by decide +kernel)) ggX10_begin_Jx4a65c_get_915e3
set_option maxRecDepth 20000 in
theorem ggX10_begin_X7_init : GoodIn wsX10_begin wsX7_init := goodIn_r _ [136, 137, 79, 80, 104, 116, 109, 138, 139, 140, 204, 205, 206, 207, 208, 209, 210] (by decide +kernel) (by decide +kernel)
set_option maxRecDepth 20000 in
theorem gX10_begin_X7_init : GoodIn wsX10_begin (wsX7_init) := ggX10_begin_X7_init
set_option maxRecDepth 20000 in
theorem ggX10_begin_Jx4a65c_add_9ea2d : GoodIn wsX10_begin wsJx4a65c_add_9ea2d := goodIn_r _ [144, 145, 83, 59, 24, 146, 147, 148, 22, 149, 150, 151, 152, 153, 154, 155, 156, 157, 158, 159, 160, 8, 161, 162, 163, 164, 165, 166, 167, 168, 169, 170, 171, 172, 173, 174, 175, 176, 177, 178, 179, 180, 181, 182, 183, 184, 185, 7, 9, 186, 187, 188, 189, 211, 212, 213] (by decide +kernel) (by decide +kernel)
set_option maxRecDepth 20000 in
theorem gX10_begin_Jx4a65c_add_9ea2d : GoodIn wsX10_begin (wsV RX10 73 RJx4a65c yJx4a65c_add_9ea2d wsJx4a65c_add_9ea2d) := goodIn_app (goodIn_of _ (by decide +kernel)) ggX10_begin_Jx4a65c_add_9ea2d
set_option maxRecDepth 20000 in
theorem ggX10_isNoInterview_Jx4a65c_size_8abf5 : GoodIn wsX10_isNoInterview wsJx4a65c_size_8abf5 := goodIn_r _ [6, 7, 31, 32, 33] (by decide +kernel) (by decide +kernel)
set_option maxRecDepth 20000 in
theorem gX10_isNoInterview_Jx4a65c_size_8abf5 : GoodIn wsX10_isNoInterview (wsV RX10 41 RJx4a65c yJx4a65c_size_8abf5 wsJx4a65c_size_8abf5) := goodIn_app (goodIn_of _ (by decide +kernel)) ggX10_isNoInterview_Jx4a65c_size_8abf5
set_option maxRecDepth 20000 in
theorem ggX10_isNoInterview_X10_isIn : GoodIn wsX10_isNoInterview wsX10_isIn := goodIn_r _ [11] (by decide +kernel) (by decide +kernel)
set_option maxRecDepth 20000 in
theorem gX10_isNoInterview_X10_isIn : GoodIn wsX10_isNoInterview (va_wsS RX10 45 yX10_isIn wsX10_isIn) := goodIn_app (goodIn_of _ (by decide +kernel)) ggX10_isNoInterview_X10_isIn
set_option maxRecDepth 20000 in
theorem ggX10_isNoInterview_X10_start : GoodIn wsX10_isNoInterview wsX10_start := goodIn_r _ [15, 16, 17, 18, 19, 10, 20, 21, 22, 23, 24, 25, 26, 27, 28, 29, 30] (by decide +kernel) (by decide +kernel)
set_option maxRecDepth 20000 in
theorem gX10_isNoInterview_X10_start : GoodIn wsX10_isNoInterview (wsV RX10 63 RX10 yX10_start wsX10_start) := goodIn_app (goodIn_of _ (by decide +kernel)) ggX10_isNoInterview_X10_start
set_option maxRecDepth 20000 in
theorem ggX10_behind__X10_behindNow : GoodIn wsX10_behind_ wsX10_behindNow := goodIn_r _ [8, 9, 10, 11, 12, 13, 14, 15, 16, 17, 18, 19, 20, 21, 22, 23, 24, 25, 26, 27, 28, 29, 30, 31, 32, 33, 7, 34, 35, 36, 37, 38, 46, 47, 48, 49, 50, 51, 52, 53, 54, 55, 56, 57, 58, 59] (by decide +kernel) (by decide +kernel)
set_option maxRecDepth 20000 in
theorem gX10_behind__X10_behindNow : GoodIn wsX10_behind_ (wsV RX10 85 RX10 yX10_behindNow wsX10_behindNow) := goodIn_app (goodIn_of _ (by decide +kernel)) ggX10_behind__X10_behindNow
set_option maxRecDepth 20000 in
theorem ggX10_behind__X10_orEnd : GoodIn wsX10_behind_ wsX10_orEnd := goodIn_r _ [34, 9, 35, 36, 37, 15, 38, 17, 46, 47, 48, 49, 50, 51, 52, 53, 54, 55, 57, 58, 59] (by decide +kernel) (by decide +kernel)
set_option maxRecDepth 20000 in
theorem gX10_behind__X10_orEnd : GoodIn wsX10_behind_ (wsV RX10 77 RX10 yX10_orEnd wsX10_orEnd) := goodIn_app (goodIn_of _ (by decide +kernel)) ggX10_behind__X10_orEnd
set_option maxRecDepth 20000 in
theorem ggX10_answer_X10_isNoInterview : GoodIn wsX10_answer wsX10_isNoInterview := goodIn_r _ [15, 1, 16, 17, 18, 19, 20, 21, 22, 23, 14, 24, 25, 26, 27, 28, 29, 30, 31, 32, 33, 142, 143, 144, 145, 146, 147, 148, 149, 150, 151, 163, 164, 165] (by decide +kernel) (by decide +kernel)
set_option maxRecDepth 20000 in
theorem gX10_answer_X10_isNoInterview : GoodIn wsX10_answer (wsV RX10 208 RX10 yX10_isNoInterview wsX10_isNoInterview) := goodIn_app (goodIn_of _ (by decide +kernel)) ggX10_answer_X10_isNoInterview
set_option maxRecDepth 20000 in
theorem ggX10_answer_Jx4a65c_get_915e3 : GoodIn wsX10_answer wsJx4a65c_get_915e3 := goodIn_r _ [37, 21, 38, 39, 40, 41, 42, 43, 44, 45, 46, 47, 48, 19, 49, 50, 163, 164, 165] (by decide +kernel) (by decide +kernel)
set_option maxRecDepth 20000 in
theorem gX10_answer_Jx4a65c_get_915e3 : GoodIn wsX10_answer (wsV RX10 53 RJx4a65c yJx4a65c_get_915e3 wsJx4a65c_get_915e3) := goodIn_app (goodIn_of _ (by decide +kernel)) ggX10_answer_Jx4a65c_get_915e3
set_option maxRecDepth 20000 in
theorem ggX10_answer_X10_refuse : GoodIn wsX10_answer wsX10_refuse := goodIn_r _ [33, 29, 142, 143, 144, 145, 146, 147, 148, 149, 150, 151] (by decide +kernel) (by decide +kernel)
set_option maxRecDepth 20000 in
theorem gX10_answer_X10_refuse : GoodIn wsX10_answer (wsV RX10 37 RX10 yX10_refuse wsX10_refuse) := goodIn_app (goodIn_of _ (by decide +kernel)) ggX10_answer_X10_refuse
set_option maxRecDepth 20000 in
theorem ggX10_answer_X10_isNoAnswer : GoodIn wsX10_answer wsX10_isNoAnswer := goodIn_r _ [54, 55, 56, 57, 58, 59, 60, 14, 61, 16, 17, 18, 19, 20, 21, 22, 23, 24, 34, 35, 36, 37, 38, 39, 40, 41, 42, 43, 44, 45, 46, 47, 48, 49, 50, 142, 143, 144, 145, 146, 147, 148, 149, 150, 151, 166, 163, 164, 165] (by decide +kernel) (by decide +kernel)
set_option maxRecDepth 20000 in
theorem gX10_answer_X10_isNoAnswer : GoodIn wsX10_answer (wsV RX10 81 RX10 yX10_isNoAnswer wsX10_isNoAnswer) := goodIn_app (goodIn_of _ (by decide +kernel)) ggX10_answer_X10_isNoAnswer
set_option maxRecDepth 20000 in
theorem ggX10_answer_X10_isIn : GoodIn wsX10_answer wsX10_isIn := goodIn_r _ [24] (by decide +kernel) (by decide +kernel)
set_option maxRecDepth 20000 in
theorem gX10_answer_X10_isIn : GoodIn wsX10_answer (va_wsS RX10 45 yX10_isIn wsX10_isIn) := goodIn_app (goodIn_of _ (by decide +kernel)) ggX10_answer_X10_isIn
set_option maxRecDepth 20000 in
theorem ggX10_answer_X10_behind_ : GoodIn wsX10_answer wsX10_behind_ := goodIn_r _ [65, 6, 66, 4, 67, 68, 69, 14, 70, 55, 56, 57, 34, 35, 36, 19, 37, 21, 38, 39, 40, 41, 42, 43, 44, 45, 46, 47, 48, 49, 50, 71, 72, 73, 74, 16, 17, 18, 20, 152, 153, 154, 155, 156, 157, 158, 142, 143, 144, 145, 146, 147, 148, 149, 150, 151, 166, 163, 164, 165] (by decide +kernel) (by decide +kernel)
set_option maxRecDepth 20000 in
theorem gX10_answer_X10_behind_ : GoodIn wsX10_answer (wsV RX10 214 RX10 yX10_behind_ wsX10_behind_) := goodIn_app (goodIn_of _ (by decide +kernel)) ggX10_answer_X10_behind_
set_option maxRecDepth 20000 in
theorem ggX10_answer_X10_personOf : GoodIn wsX10_answer wsX10_personOf := goodIn_r _ [78, 79, 80, 81, 34, 35, 36, 19, 37, 21, 38, 39, 40, 41, 42, 43, 44, 45, 46, 47, 48, 49, 50, 142, 143, 144, 145, 146, 147, 148, 149, 150, 151, 152, 153, 154, 155, 156, 157, 158, 163, 164, 165] (by decide +kernel) (by decide +kernel)
set_option maxRecDepth 20000 in
theorem gX10_answer_X10_personOf : GoodIn wsX10_answer (wsV RX10 128 RX10 yX10_personOf wsX10_personOf) := goodIn_app (goodIn_of _ (by decide +kernel)) ggX10_answer_X10_personOf
set_option maxRecDepth 20000 in
theorem ggX10_answer_X10_filled : GoodIn wsX10_answer wsX10_filled := goodIn_r _ [85, 86, 87, 1, 2, 3, 8, 9, 88, 89, 90, 19, 91, 92, 93, 94, 95, 96, 97, 98, 99, 100, 101, 102, 103, 104, 105, 106, 107, 108, 109, 110, 111, 112, 113, 114, 115, 116, 117, 118, 119, 120, 121, 122, 123, 124, 125, 126, 127, 128, 129, 130, 131, 132, 75, 76, 77, 14, 78, 79, 80, 81, 34, 35, 36, 37, 21, 38, 39, 40, 41, 42, 43, 44, 45, 46, 47, 48, 49, 50, 142, 143, 144, 145, 146, 147, 148, 149, 150, 151, 152, 153, 154, 155, 156, 157, 158, 159, 160, 161, 162, 167, 168, 169, 170, 163, 164, 165] (by decide +kernel) (by decide +kernel)
set_option maxRecDepth 20000 in
theorem gX10_answer_X10_filled : GoodIn wsX10_answer (wsV RX10 148 RX10 yX10_filled wsX10_filled) := goodIn_app (goodIn_of _ (by decide +kernel)) ggX10_answer_X10_filled
set_option maxRecDepth 20000 in
theorem ggX10_answer_X10_isOpen : GoodIn wsX10_answer wsX10_isOpen := goodIn_r _ [136, 137, 138, 139, 140, 14, 141, 142, 143, 144, 145, 146, 147, 148, 149, 150, 151] (by decide +kernel) (by decide +kernel)
set_option maxRecDepth 20000 in
theorem gX10_answer_X10_isOpen : GoodIn wsX10_answer (wsV RX10 152 RX10 yX10_isOpen wsX10_isOpen) := goodIn_app (goodIn_of _ (by decide +kernel)) ggX10_answer_X10_isOpen
set_option maxRecDepth 20000 in
theorem ggX10_weights_Jx4a65c_size_8abf5 : GoodIn wsX10_weights wsJx4a65c_size_8abf5 := goodIn_r _ [10, 11, 73, 74, 75] (by decide +kernel) (by decide +kernel)
set_option maxRecDepth 20000 in
theorem gX10_weights_Jx4a65c_size_8abf5 : GoodIn wsX10_weights (wsV RX10 41 RJx4a65c yJx4a65c_size_8abf5 wsJx4a65c_size_8abf5) := goodIn_app (goodIn_of _ (by decide +kernel)) ggX10_weights_Jx4a65c_size_8abf5
set_option maxRecDepth 20000 in
theorem ggX10_weights_Jx4a65c_get_915e3 : GoodIn wsX10_weights wsJx4a65c_get_915e3 := goodIn_r _ [15, 11, 16, 17, 18, 19, 20, 21, 22, 23, 24, 25, 26, 9, 27, 28, 73, 74, 75] (by decide +kernel) (by decide +kernel)
set_option maxRecDepth 20000 in
theorem gX10_weights_Jx4a65c_get_915e3 : GoodIn wsX10_weights (wsV RX10 53 RJx4a65c yJx4a65c_get_915e3 wsJx4a65c_get_915e3) := goodIn_app (goodIn_of _ (by decide +kernel)) ggX10_weights_Jx4a65c_get_915e3
set_option maxRecDepth 20000 in
theorem ggX10_weights_X10_rake : GoodIn wsX10_weights wsX10_rake := goodIn_r _ [33, 34, 35, 36, 32, 37, 38, 39, 40, 41, 1, 3, 42, 43, 12, 13, 14, 9, 15, 11, 16, 17, 18, 19, 20, 21, 22, 23, 24, 25, 26, 27, 28, 44, 45, 46, 47, 48, 49, 50, 51, 52, 53, 54, 55, 56, 57, 58, 59, 60, 61, 62, 63, 64, 65, 76, 77, 78, 79, 73, 74, 75, 66, 67, 68, 69, 70, 71, 72] (by decide +kernel) (by decide +kernel)
set_option maxRecDepth 20000 in
theorem gX10_weights_X10_rake : GoodIn wsX10_weights (wsV RX10 223 RX10 yX10_rake wsX10_rake) := goodIn_app (goodIn_of _ (by decide +kernel)) ggX10_weights_X10_rake
set_option maxRecDepth 20000 in
theorem ggX10_isOf_Jx4a65c_get_915e3 : GoodIn wsX10_isOf wsJx4a65c_get_915e3 := goodIn_r _ [9, 10, 11, 12, 13, 14, 15, 16, 17, 18, 19, 20, 21, 8, 22, 23, 46, 47, 48] (by decide +kernel) (by decide +kernel)
set_option maxRecDepth 20000 in
theorem gX10_isOf_Jx4a65c_get_915e3 : GoodIn wsX10_isOf (wsV RX10 53 RJx4a65c yJx4a65c_get_915e3 wsJx4a65c_get_915e3) := goodIn_app (goodIn_of _ (by decide +kernel)) ggX10_isOf_Jx4a65c_get_915e3
set_option maxRecDepth 20000 in
theorem ggX10_isOf_X10_personOf : GoodIn wsX10_isOf wsX10_personOf := goodIn_r _ [28, 29, 30, 31, 5, 6, 7, 8, 9, 10, 11, 12, 13, 14, 15, 16, 17, 18, 19, 20, 21, 22, 23, 32, 33, 34, 35, 36, 37, 38, 39, 40, 41, 49, 50, 51, 52, 53, 54, 55, 46, 47, 48] (by decide +kernel) (by decide +kernel)
set_option maxRecDepth 20000 in
theorem gX10_isOf_X10_personOf : GoodIn wsX10_isOf (wsV RX10 128 RX10 yX10_personOf wsX10_personOf) := goodIn_app (goodIn_of _ (by decide +kernel)) ggX10_isOf_X10_personOf
set_option maxRecDepth 20000 in
theorem ggX10_sum__X10_isOf : GoodIn wsX10_sum_ wsX10_isOf := goodIn_r _ [5, 6, 7, 8, 9, 10, 11, 12, 13, 14, 15, 16, 17, 18, 19, 20, 21, 22, 23, 24, 25, 26, 27, 28, 29, 30, 31, 4, 32, 33, 34, 35, 36, 37, 38, 39, 40, 41, 42, 43, 44, 45, 46, 47, 48, 49, 50, 51, 52, 53, 54, 55, 56, 57, 58, 59] (by decide +kernel) (by decide +kernel)
set_option maxRecDepth 20000 in
theorem gX10_sum__X10_isOf : GoodIn wsX10_sum_ (wsV RX10 227 RX10 yX10_isOf wsX10_isOf) := goodIn_app (goodIn_of _ (by decide +kernel)) ggX10_sum__X10_isOf
set_option maxRecDepth 20000 in
theorem ggX10_rake_X10_sum_ : GoodIn wsX10_rake wsX10_sum_ := goodIn_r _ [5, 6, 7, 8, 4, 9, 10, 11, 12, 13, 14, 15, 16, 17, 18, 19, 20, 21, 22, 23, 24, 25, 26, 27, 28, 29, 30, 31, 32, 33, 34, 35, 36, 37, 38, 39, 45, 46, 47, 48, 49, 50, 51, 52, 53, 54, 55, 56, 57, 58, 59, 60, 61, 62, 63, 64, 65, 66, 67, 68] (by decide +kernel) (by decide +kernel)
set_option maxRecDepth 20000 in
theorem gX10_rake_X10_sum_ : GoodIn wsX10_rake (wsV RX10 229 RX10 yX10_sum_ wsX10_sum_) := goodIn_app (goodIn_of _ (by decide +kernel)) ggX10_rake_X10_sum_
set_option maxRecDepth 20000 in
theorem ggX10_rake_X10_isOf : GoodIn wsX10_rake wsX10_isOf := goodIn_r _ [9, 10, 11, 12, 13, 14, 15, 16, 17, 18, 19, 20, 21, 22, 23, 24, 25, 26, 27, 28, 29, 30, 31, 32, 33, 34, 35, 4, 36, 37, 38, 39, 45, 46, 47, 48, 49, 50, 51, 52, 53, 54, 55, 56, 57, 58, 59, 60, 61, 62, 63, 64, 65, 66, 67, 68] (by decide +kernel) (by decide +kernel)
set_option maxRecDepth 20000 in
theorem gX10_rake_X10_isOf : GoodIn wsX10_rake (wsV RX10 227 RX10 yX10_isOf wsX10_isOf) := goodIn_app (goodIn_of _ (by decide +kernel)) ggX10_rake_X10_isOf
set_option maxRecDepth 20000 in
theorem ggX10_rake_X10_margin : GoodIn wsX10_rake wsX10_margin := goodIn_r _ [43, 44, 45, 46, 47, 48, 49, 50, 51, 52, 53, 54] (by decide +kernel) (by decide +kernel)
set_option maxRecDepth 20000 in
theorem gX10_rake_X10_margin : GoodIn wsX10_rake (wsV RX10 232 RX10 yX10_margin wsX10_margin) := goodIn_app (goodIn_of _ (by decide +kernel)) ggX10_rake_X10_margin
set_option maxRecDepth 20000 in
theorem ggX10_offNow_X10_weights : GoodIn wsX10_offNow wsX10_weights := goodIn_r _ [12, 13, 14, 15, 16, 17, 18, 19, 20, 21, 22, 23, 24, 25, 26, 27, 28, 29, 30, 31, 32, 33, 34, 35, 36, 37, 38, 39, 40, 41, 42, 43, 11, 44, 45, 46, 47, 48, 49, 50, 51, 52, 53, 54, 55, 56, 57, 58, 59, 60, 61, 62, 63, 64, 65, 66, 67, 68, 69, 70, 71, 72, 73, 74, 75, 76, 77, 78, 79, 80, 81, 82, 83, 84, 85, 86, 87, 88, 89, 90] (by decide +kernel) (by decide +kernel)
set_option maxRecDepth 20000 in
theorem gX10_offNow_X10_weights : GoodIn wsX10_offNow (wsV RX10 235 RX10 yX10_weights wsX10_weights) := goodIn_app (goodIn_of _ (by decide +kernel)) ggX10_offNow_X10_weights
set_option maxRecDepth 20000 in
theorem ggX10_offNow_X10_sum_ : GoodIn wsX10_offNow wsX10_sum_ := goodIn_r _ [48, 49, 50, 51, 11, 52, 13, 15, 53, 54, 24, 25, 26, 21, 27, 23, 28, 29, 30, 31, 32, 33, 34, 35, 36, 37, 38, 39, 40, 55, 56, 57, 58, 59, 60, 61, 67, 68, 69, 70, 71, 72, 73, 74, 75, 76, 87, 88, 89, 90, 84, 85, 86, 77, 78, 79, 80, 81, 82, 83] (by decide +kernel) (by decide +kernel)
set_option maxRecDepth 20000 in
theorem gX10_offNow_X10_sum_ : GoodIn wsX10_offNow (wsV RX10 229 RX10 yX10_sum_ wsX10_sum_) := goodIn_app (goodIn_of _ (by decide +kernel)) ggX10_offNow_X10_sum_
set_option maxRecDepth 20000 in
theorem ggX10_offNow_X10_margin : GoodIn wsX10_offNow wsX10_margin := goodIn_r _ [65, 66, 67, 68, 69, 70, 71, 72, 73, 74, 75, 76] (by decide +kernel) (by decide +kernel)
set_option maxRecDepth 20000 in
theorem gX10_offNow_X10_margin : GoodIn wsX10_offNow (wsV RX10 232 RX10 yX10_margin wsX10_margin) := goodIn_app (goodIn_of _ (by decide +kernel)) ggX10_offNow_X10_margin
set_option maxRecDepth 20000 in
theorem ggX10_shareNow_Jx4a65c_get_915e3 : GoodIn wsX10_shareNow wsJx4a65c_get_915e3 := goodIn_r _ [9, 10, 11, 12, 13, 14, 15, 16, 17, 18, 19, 20, 21, 8, 22, 23, 55, 56, 57] (by decide +kernel) (by decide +kernel)
set_option maxRecDepth 20000 in
theorem gX10_shareNow_Jx4a65c_get_915e3 : GoodIn wsX10_shareNow (wsV RX10 53 RJx4a65c yJx4a65c_get_915e3 wsJx4a65c_get_915e3) := goodIn_app (goodIn_of _ (by decide +kernel)) ggX10_shareNow_Jx4a65c_get_915e3
set_option maxRecDepth 20000 in
theorem ggX10_shareNow_X10_isOf : GoodIn wsX10_shareNow wsX10_isOf := goodIn_r _ [28, 1, 2, 29, 30, 5, 6, 7, 8, 9, 10, 11, 12, 13, 14, 15, 16, 17, 18, 19, 20, 21, 22, 23, 31, 32, 33, 27, 34, 35, 36, 37, 38, 39, 40, 41, 42, 43, 44, 45, 46, 47, 58, 59, 60, 61, 55, 56, 57, 48, 49, 50, 51, 52, 53, 54] (by decide +kernel) (by decide +kernel)
set_option maxRecDepth 20000 in
theorem gX10_shareNow_X10_isOf : GoodIn wsX10_shareNow (wsV RX10 227 RX10 yX10_isOf wsX10_isOf) := goodIn_app (goodIn_of _ (by decide +kernel)) ggX10_shareNow_X10_isOf
set_option maxRecDepth 20000 in
theorem ggX10_ofInterviewNow_X7_isDirty : GoodIn wsX10_ofInterviewNow wsX7_isDirty := goodIn_r _ [12, 13, 14, 15, 16, 17, 18, 11, 19, 20, 21, 22, 23, 24, 25, 26, 27] (by decide +kernel) (by decide +kernel)
set_option maxRecDepth 20000 in
theorem gX10_ofInterviewNow_X7_isDirty : GoodIn wsX10_ofInterviewNow (wsV RX10 125 RX7 yX7_isDirty wsX7_isDirty) := goodIn_app (goodIn_of _ (by decide +kernel)) ggX10_ofInterviewNow_X7_isDirty
set_option maxRecDepth 20000 in
theorem ggX10_ofInterview_X10_isNoInterview : GoodIn wsX10_ofInterview wsX10_isNoInterview := goodIn_r _ [8, 1, 9, 10, 11, 12, 13, 14, 15, 16, 7, 17, 18, 19, 20, 21, 22, 23, 24, 25, 26, 98, 99, 100, 101, 102, 103, 104, 105, 106, 107, 108, 109, 110] (by decide +kernel) (by decide +kernel)
set_option maxRecDepth 20000 in
theorem gX10_ofInterview_X10_isNoInterview : GoodIn wsX10_ofInterview (wsV RX10 208 RX10 yX10_isNoInterview wsX10_isNoInterview) := goodIn_app (goodIn_of _ (by decide +kernel)) ggX10_ofInterview_X10_isNoInterview
set_option maxRecDepth 20000 in
theorem ggX10_ofInterview_X10_isIn : GoodIn wsX10_ofInterview wsX10_isIn := goodIn_r _ [17] (by decide +kernel) (by decide +kernel)
set_option maxRecDepth 20000 in
theorem gX10_ofInterview_X10_isIn : GoodIn wsX10_ofInterview (va_wsS RX10 45 yX10_isIn wsX10_isIn) := goodIn_app (goodIn_of _ (by decide +kernel)) ggX10_ofInterview_X10_isIn
set_option maxRecDepth 20000 in
theorem ggX10_ofInterview_X10_refuse : GoodIn wsX10_ofInterview wsX10_refuse := goodIn_r _ [26, 22, 98, 99, 100, 101, 102, 103, 104, 105, 106, 107] (by decide +kernel) (by decide +kernel)
set_option maxRecDepth 20000 in
theorem gX10_ofInterview_X10_refuse : GoodIn wsX10_ofInterview (wsV RX10 37 RX10 yX10_refuse wsX10_refuse) := goodIn_app (goodIn_of _ (by decide +kernel)) ggX10_ofInterview_X10_refuse
set_option maxRecDepth 20000 in
theorem ggX10_ofInterview_Jx4a65c_get_915e3 : GoodIn wsX10_ofInterview wsJx4a65c_get_915e3 := goodIn_r _ [30, 14, 31, 32, 33, 34, 35, 36, 37, 38, 39, 40, 41, 12, 42, 43, 108, 109, 110] (by decide +kernel) (by decide +kernel)
set_option maxRecDepth 20000 in
theorem gX10_ofInterview_Jx4a65c_get_915e3 : GoodIn wsX10_ofInterview (wsV RX10 53 RJx4a65c yJx4a65c_get_915e3 wsJx4a65c_get_915e3) := goodIn_app (goodIn_of _ (by decide +kernel)) ggX10_ofInterview_Jx4a65c_get_915e3
set_option maxRecDepth 20000 in
theorem ggX10_ofInterview_X10_weights : GoodIn wsX10_ofInterview wsX10_weights := goodIn_r _ [47, 1, 48, 2, 49, 50, 9, 10, 11, 12, 13, 14, 27, 28, 29, 30, 31, 32, 33, 34, 35, 36, 37, 38, 39, 40, 41, 42, 43, 51, 52, 53, 7, 54, 55, 56, 57, 58, 59, 60, 61, 62, 63, 64, 65, 66, 67, 68, 69, 70, 71, 72, 73, 74, 75, 76, 98, 99, 100, 101, 102, 103, 104, 105, 106, 107, 111, 112, 113, 114, 115, 116, 117, 108, 109, 110, 118, 119, 120, 121] (by decide +kernel) (by decide +kernel)
set_option maxRecDepth 20000 in
theorem gX10_ofInterview_X10_weights : GoodIn wsX10_ofInterview (wsV RX10 235 RX10 yX10_weights wsX10_weights) := goodIn_app (goodIn_of _ (by decide +kernel)) ggX10_ofInterview_X10_weights
set_option maxRecDepth 20000 in
theorem ggX10_ofInterview_X10_ofInterviewNow : GoodIn wsX10_ofInterview wsX10_ofInterviewNow := goodIn_r _ [79, 80, 70, 49, 81, 82, 83, 84, 85, 86, 87, 88, 89, 90, 91, 92, 93, 94, 95, 96, 97, 111, 112, 113, 114, 115, 116, 117] (by decide +kernel) (by decide +kernel)
set_option maxRecDepth 20000 in
theorem gX10_ofInterview_X10_ofInterviewNow : GoodIn wsX10_ofInterview (va_wsS RX10 248 yX10_ofInterviewNow wsX10_ofInterviewNow) := goodIn_app (goodIn_of _ (by decide +kernel)) ggX10_ofInterview_X10_ofInterviewNow
set_option maxRecDepth 20000 in
theorem ggX10_given_X10_isNoInterview : GoodIn wsX10_given wsX10_isNoInterview := goodIn_r _ [8, 1, 9, 10, 11, 12, 13, 14, 15, 16, 7, 17, 18, 19, 20, 21, 22, 23, 24, 25, 26, 49, 50, 51, 52, 53, 54, 55, 56, 57, 58, 66, 67, 68] (by decide +kernel) (by decide +kernel)
set_option maxRecDepth 20000 in
theorem gX10_given_X10_isNoInterview : GoodIn wsX10_given (wsV RX10 208 RX10 yX10_isNoInterview wsX10_isNoInterview) := goodIn_app (goodIn_of _ (by decide +kernel)) ggX10_given_X10_isNoInterview
set_option maxRecDepth 20000 in
theorem ggX10_given_X10_isNoQuestion : GoodIn wsX10_given wsX10_isNoQuestion := goodIn_r _ [30, 31, 9, 10, 11, 12, 13, 14, 15, 16, 7, 17, 49, 50, 51, 52, 53, 54, 55, 56, 57, 58, 66, 67, 68] (by decide +kernel) (by decide +kernel)
set_option maxRecDepth 20000 in
theorem gX10_given_X10_isNoQuestion : GoodIn wsX10_given (wsV RX10 49 RX10 yX10_isNoQuestion wsX10_isNoQuestion) := goodIn_app (goodIn_of _ (by decide +kernel)) ggX10_given_X10_isNoQuestion
set_option maxRecDepth 20000 in
theorem ggX10_given_X10_refuse : GoodIn wsX10_given wsX10_refuse := goodIn_r _ [26, 22, 49, 50, 51, 52, 53, 54, 55, 56, 57, 58] (by decide +kernel) (by decide +kernel)
set_option maxRecDepth 20000 in
theorem gX10_given_X10_refuse : GoodIn wsX10_given (wsV RX10 37 RX10 yX10_refuse wsX10_refuse) := goodIn_app (goodIn_of _ (by decide +kernel)) ggX10_given_X10_refuse
set_option maxRecDepth 20000 in
theorem ggX10_given_Jx4a65c_get_915e3 : GoodIn wsX10_given wsJx4a65c_get_915e3 := goodIn_r _ [35, 14, 36, 37, 38, 39, 40, 41, 42, 43, 44, 45, 46, 12, 47, 48, 66, 67, 68] (by decide +kernel) (by decide +kernel)
set_option maxRecDepth 20000 in
theorem gX10_given_Jx4a65c_get_915e3 : GoodIn wsX10_given (wsV RX10 53 RJx4a65c yJx4a65c_get_915e3 wsJx4a65c_get_915e3) := goodIn_app (goodIn_of _ (by decide +kernel)) ggX10_given_Jx4a65c_get_915e3
set_option maxRecDepth 20000 in
theorem ggX10_dirty_Jx4a65c_iterator_32c93 : GoodIn wsX10_dirty wsJx4a65c_iterator_32c93 := goodIn_r _ [7, 8, 9, 10, 11, 12, 13, 14, 15, 16, 17, 18, 19, 20, 21, 59, 60, 61, 62, 63, 64, 65] (by decide +kernel) (by decide +kernel)
set_option maxRecDepth 20000 in
theorem gX10_dirty_Jx4a65c_iterator_32c93 : GoodIn wsX10_dirty (wsV RX10 109 RJx4a65c yJx4a65c_iterator_32c93 wsJx4a65c_iterator_32c93) := goodIn_app (goodIn_of _ (by decide +kernel)) ggX10_dirty_Jx4a65c_iterator_32c93
set_option maxRecDepth 20000 in
theorem ggX10_dirty_Jx35411_hasNext_aae02 : GoodIn wsX10_dirty wsJx35411_hasNext_aae02 := goodIn_r _ [25, 26, 14, 59, 60, 61, 62, 63, 64, 65] (by decide +kernel) (by decide +kernel)
set_option maxRecDepth 20000 in
theorem gX10_dirty_Jx35411_hasNext_aae02_f113Jx35411 : GoodIn wsX10_dirty (va_wsF RX10 113 RJx35411 ⟨"java/util/Iterator", "hasNext", "()Z"⟩ yJx35411_hasNext_aae02 wsJx35411_hasNext_aae02) := goodIn_app (goodIn_of _ (by decide +kernel)) ggX10_dirty_Jx35411_hasNext_aae02
set_option maxRecDepth 20000 in
theorem ggX10_dirty_Jx35411_next_0502b : GoodIn wsX10_dirty wsJx35411_next_0502b := goodIn_r _ [30, 26, 14, 31, 18, 32, 33, 34, 10, 35, 19, 20, 21, 59, 60, 61, 62, 63, 64, 65] (by decide +kernel) (by decide +kernel)
set_option maxRecDepth 20000 in
theorem gX10_dirty_Jx35411_next_0502b_f118Jx35411 : GoodIn wsX10_dirty (va_wsF RX10 118 RJx35411 ⟨"java/util/Iterator", "next", "()Ljava/lang/Object;"⟩ yJx35411_next_0502b wsJx35411_next_0502b) := goodIn_app (goodIn_of _ (by decide +kernel)) ggX10_dirty_Jx35411_next_0502b
set_option maxRecDepth 20000 in
theorem ggX10_dirty_X7_isDirty : GoodIn wsX10_dirty wsX7_isDirty := goodIn_r _ [40, 41, 42, 43, 44, 45, 46, 39, 47, 48, 66, 67, 68, 69, 70, 71, 72] (by decide +kernel) (by decide +kernel)
set_option maxRecDepth 20000 in
theorem gX10_dirty_X7_isDirty : GoodIn wsX10_dirty (wsV RX10 125 RX7 yX7_isDirty wsX7_isDirty) := goodIn_app (goodIn_of _ (by decide +kernel)) ggX10_dirty_X7_isDirty
set_option maxRecDepth 20000 in
theorem ggX10_clean_X10_dirty : GoodIn wsX10_clean wsX10_dirty := goodIn_r _ [10, 2, 3, 11, 12, 13, 14, 15, 16, 17, 18, 19, 20, 21, 22, 23, 24, 25, 26, 27, 28, 29, 30, 31, 32, 33, 34, 35, 36, 37, 38, 39, 40, 41, 42, 43, 44, 45, 46, 47, 48, 49, 50, 51, 52, 53, 54, 55, 56, 82, 83, 84, 85, 86, 87, 88, 89, 90, 91, 103, 104, 105, 106, 107, 108, 109, 92, 93, 94, 95, 96, 97, 98] (by decide +kernel) (by decide +kernel)
set_option maxRecDepth 20000 in
theorem gX10_clean_X10_dirty : GoodIn wsX10_clean (wsV RX10 252 RX10 yX10_dirty wsX10_dirty) := goodIn_app (goodIn_of _ (by decide +kernel)) ggX10_clean_X10_dirty
set_option maxRecDepth 20000 in
theorem ggX10_clean_Jx4a65c_iterator_32c93 : GoodIn wsX10_clean wsJx4a65c_iterator_32c93 := goodIn_r _ [15, 16, 17, 18, 19, 20, 21, 22, 23, 24, 25, 26, 27, 28, 29, 103, 104, 105, 106, 107, 108, 109] (by decide +kernel) (by decide +kernel)
set_option maxRecDepth 20000 in
theorem gX10_clean_Jx4a65c_iterator_32c93 : GoodIn wsX10_clean (wsV RX10 109 RJx4a65c yJx4a65c_iterator_32c93 wsJx4a65c_iterator_32c93) := goodIn_app (goodIn_of _ (by decide +kernel)) ggX10_clean_Jx4a65c_iterator_32c93
set_option maxRecDepth 20000 in
theorem ggX10_clean_Jx35411_hasNext_aae02 : GoodIn wsX10_clean wsJx35411_hasNext_aae02 := goodIn_r _ [33, 34, 22, 103, 104, 105, 106, 107, 108, 109] (by decide +kernel) (by decide +kernel)
set_option maxRecDepth 20000 in
theorem gX10_clean_Jx35411_hasNext_aae02_f113Jx35411 : GoodIn wsX10_clean (va_wsF RX10 113 RJx35411 ⟨"java/util/Iterator", "hasNext", "()Z"⟩ yJx35411_hasNext_aae02 wsJx35411_hasNext_aae02) := goodIn_app (goodIn_of _ (by decide +kernel)) ggX10_clean_Jx35411_hasNext_aae02
set_option maxRecDepth 20000 in
theorem ggX10_clean_Jx35411_next_0502b : GoodIn wsX10_clean wsJx35411_next_0502b := goodIn_r _ [38, 34, 22, 39, 26, 40, 41, 42, 18, 43, 27, 28, 29, 103, 104, 105, 106, 107, 108, 109] (by decide +kernel) (by decide +kernel)
set_option maxRecDepth 20000 in
theorem gX10_clean_Jx35411_next_0502b_f118Jx35411 : GoodIn wsX10_clean (va_wsF RX10 118 RJx35411 ⟨"java/util/Iterator", "next", "()Ljava/lang/Object;"⟩ yJx35411_next_0502b wsJx35411_next_0502b) := goodIn_app (goodIn_of _ (by decide +kernel)) ggX10_clean_Jx35411_next_0502b
set_option maxRecDepth 20000 in
theorem ggX10_clean_X7_isDirty : GoodIn wsX10_clean wsX7_isDirty := goodIn_r _ [48, 49, 50, 51, 52, 53, 54, 47, 55, 56, 92, 93, 94, 95, 96, 97, 98] (by decide +kernel) (by decide +kernel)
set_option maxRecDepth 20000 in
theorem gX10_clean_X7_isDirty : GoodIn wsX10_clean (wsV RX10 125 RX7 yX7_isDirty wsX7_isDirty) := goodIn_app (goodIn_of _ (by decide +kernel)) ggX10_clean_X7_isDirty
set_option maxRecDepth 20000 in
theorem ggX10_clean_X10_personOf : GoodIn wsX10_clean wsX10_personOf := goodIn_r _ [60, 61, 62, 63, 64, 65, 66, 14, 67, 68, 69, 70, 71, 72, 73, 74, 75, 76, 77, 78, 79, 80, 81, 82, 83, 84, 85, 86, 87, 88, 89, 90, 91, 92, 93, 94, 95, 96, 97, 98, 107, 108, 109] (by decide +kernel) (by decide +kernel)
set_option maxRecDepth 20000 in
theorem gX10_clean_X10_personOf : GoodIn wsX10_clean (wsV RX10 128 RX10 yX10_personOf wsX10_personOf) := goodIn_app (goodIn_of _ (by decide +kernel)) ggX10_clean_X10_personOf
set_option maxRecDepth 20000 in
theorem ggX10_in_Jx4a65c_iterator_32c93 : GoodIn wsX10_in wsJx4a65c_iterator_32c93 := goodIn_r _ [8, 9, 10, 11, 12, 13, 14, 15, 16, 17, 18, 19, 20, 21, 22, 54, 55, 56, 57, 58, 59, 60] (by decide +kernel) (by decide +kernel)
set_option maxRecDepth 20000 in
theorem gX10_in_Jx4a65c_iterator_32c93 : GoodIn wsX10_in (wsV RX10 109 RJx4a65c yJx4a65c_iterator_32c93 wsJx4a65c_iterator_32c93) := goodIn_app (goodIn_of _ (by decide +kernel)) ggX10_in_Jx4a65c_iterator_32c93
set_option maxRecDepth 20000 in
theorem ggX10_in_Jx35411_hasNext_aae02 : GoodIn wsX10_in wsJx35411_hasNext_aae02 := goodIn_r _ [26, 27, 15, 54, 55, 56, 57, 58, 59, 60] (by decide +kernel) (by decide +kernel)
set_option maxRecDepth 20000 in
theorem gX10_in_Jx35411_hasNext_aae02_f113Jx35411 : GoodIn wsX10_in (va_wsF RX10 113 RJx35411 ⟨"java/util/Iterator", "hasNext", "()Z"⟩ yJx35411_hasNext_aae02 wsJx35411_hasNext_aae02) := goodIn_app (goodIn_of _ (by decide +kernel)) ggX10_in_Jx35411_hasNext_aae02
set_option maxRecDepth 20000 in
theorem ggX10_in_Jx35411_next_0502b : GoodIn wsX10_in wsJx35411_next_0502b := goodIn_r _ [31, 27, 15, 32, 19, 33, 34, 35, 11, 36, 20, 21, 22, 54, 55, 56, 57, 58, 59, 60] (by decide +kernel) (by decide +kernel)
set_option maxRecDepth 20000 in
theorem gX10_in_Jx35411_next_0502b_f118Jx35411 : GoodIn wsX10_in (va_wsF RX10 118 RJx35411 ⟨"java/util/Iterator", "next", "()Ljava/lang/Object;"⟩ yJx35411_next_0502b wsJx35411_next_0502b) := goodIn_app (goodIn_of _ (by decide +kernel)) ggX10_in_Jx35411_next_0502b
set_option maxRecDepth 20000 in
theorem ggX10_open_X10_isOpen : GoodIn wsX10_open wsX10_isOpen := goodIn_r _ [5, 6, 7, 8, 9, 4, 10, 11, 12, 13, 14, 15, 16, 17, 18, 19, 20] (by decide +kernel) (by decide +kernel)
set_option maxRecDepth 20000 in
theorem gX10_open_X10_isOpen : GoodIn wsX10_open (wsV RX10 152 RX10 yX10_isOpen wsX10_isOpen) := goodIn_app (goodIn_of _ (by decide +kernel)) ggX10_open_X10_isOpen
set_option maxRecDepth 20000 in
theorem ggX10_count_Jx4a65c_size_8abf5 : GoodIn wsX10_count wsJx4a65c_size_8abf5 := goodIn_r _ [13, 14, 132, 133, 134] (by decide +kernel) (by decide +kernel)
set_option maxRecDepth 20000 in
theorem gX10_count_Jx4a65c_size_8abf5 : GoodIn wsX10_count (wsV RX10 41 RJx4a65c yJx4a65c_size_8abf5 wsJx4a65c_size_8abf5) := goodIn_app (goodIn_of _ (by decide +kernel)) ggX10_count_Jx4a65c_size_8abf5
set_option maxRecDepth 20000 in
theorem ggX10_count_X10_canBeAsked : GoodIn wsX10_count wsX10_canBeAsked := goodIn_r _ [19, 1, 2, 20, 21, 22, 23, 24, 25, 12, 26, 14, 27, 28, 29, 30, 31, 32, 33, 34, 35, 36, 37, 38, 39, 40, 41, 42, 18, 43, 44, 45, 46, 47, 48, 49, 50, 51, 52, 53, 54, 55, 56, 57, 58, 59, 60, 61, 62, 63, 64, 65, 66, 67, 68, 69, 70, 71, 72, 73, 74, 75, 76, 77, 78, 79, 80, 81, 82, 83, 84, 4, 85, 86, 87, 88, 89, 90, 91, 92, 93, 94, 95, 96, 97, 98, 99, 100, 101, 102, 103, 104, 105, 6, 106, 107, 108, 109, 118, 119, 120, 121, 122, 123, 124, 125, 126, 127, 128, 129, 130, 131, 132, 133, 134, 135, 136, 137, 138, 139, 140, 141, 142, 143, 144, 145] (by decide +kernel) (by decide +kernel)
set_option maxRecDepth 20000 in
theorem gX10_count_X10_canBeAsked : GoodIn wsX10_count (wsV RX10 159 RX10 yX10_canBeAsked wsX10_canBeAsked) := goodIn_app (goodIn_of _ (by decide +kernel)) ggX10_count_X10_canBeAsked
set_option maxRecDepth 20000 in
theorem ggX10_count_Jx4a65c_get_915e3 : GoodIn wsX10_count wsJx4a65c_get_915e3 := goodIn_r _ [26, 14, 27, 28, 29, 30, 31, 32, 33, 34, 35, 36, 37, 12, 38, 39, 132, 133, 134] (by decide +kernel) (by decide +kernel)
set_option maxRecDepth 20000 in
theorem gX10_count_Jx4a65c_get_915e3 : GoodIn wsX10_count (wsV RX10 53 RJx4a65c yJx4a65c_get_915e3 wsJx4a65c_get_915e3) := goodIn_app (goodIn_of _ (by decide +kernel)) ggX10_count_Jx4a65c_get_915e3
set_option maxRecDepth 20000 in
theorem ggX10_count_X10_in : GoodIn wsX10_count wsX10_in := goodIn_r _ [113, 44, 45, 47, 48, 49, 50, 12, 51, 52, 53, 54, 55, 56, 57, 58, 59, 60, 61, 62, 63, 64, 65, 66, 67, 68, 69, 70, 71, 72, 73, 74, 75, 76, 77, 78, 79, 118, 119, 120, 121, 122, 123, 124, 125, 126, 127, 135, 136, 137, 138, 139, 140, 141, 142, 143, 144, 145, 132, 133, 134] (by decide +kernel) (by decide +kernel)
set_option maxRecDepth 20000 in
theorem gX10_count_X10_in : GoodIn wsX10_count (wsV RX10 255 RX10 yX10_in wsX10_in) := goodIn_app (goodIn_of _ (by decide +kernel)) ggX10_count_X10_in
set_option maxRecDepth 20000 in
theorem ggX10_count_X10_sum : GoodIn wsX10_count wsX10_sum := goodIn_r _ [109] (by decide +kernel) (by decide +kernel)
set_option maxRecDepth 20000 in
theorem gX10_count_X10_sum : GoodIn wsX10_count (va_wsS RX10 138 yX10_sum wsX10_sum) := goodIn_app (goodIn_of _ (by decide +kernel)) ggX10_count_X10_sum
set_option maxRecDepth 20000 in
theorem ggX10_count_X10_filled : GoodIn wsX10_count wsX10_filled := goodIn_r _ [83, 84, 4, 44, 45, 47, 21, 22, 48, 49, 50, 12, 51, 52, 53, 54, 55, 56, 57, 58, 59, 60, 61, 62, 63, 64, 65, 66, 67, 68, 69, 70, 71, 72, 73, 74, 75, 76, 77, 78, 79, 85, 86, 87, 88, 89, 90, 91, 92, 93, 94, 95, 96, 97, 98, 99, 100, 18, 101, 1, 46, 2, 23, 24, 25, 26, 14, 27, 28, 29, 30, 31, 32, 33, 34, 35, 36, 37, 38, 39, 118, 119, 120, 121, 122, 123, 124, 125, 126, 127, 135, 136, 137, 138, 139, 140, 141, 128, 129, 130, 131, 142, 143, 144, 145, 132, 133, 134] (by decide +kernel) (by decide +kernel)
set_option maxRecDepth 20000 in
theorem gX10_count_X10_filled : GoodIn wsX10_count (wsV RX10 148 RX10 yX10_filled wsX10_filled) := goodIn_app (goodIn_of _ (by decide +kernel)) ggX10_count_X10_filled
set_option maxRecDepth 20000 in
theorem ggX10_count_X10_open : GoodIn wsX10_count wsX10_open := goodIn_r _ [117, 102, 103, 104, 18, 105, 6, 106, 107, 108, 109, 118, 119, 120, 121, 122, 123, 124, 125, 126, 127] (by decide +kernel) (by decide +kernel)
set_option maxRecDepth 20000 in
theorem gX10_count_X10_open : GoodIn wsX10_count (wsV RX10 258 RX10 yX10_open wsX10_open) := goodIn_app (goodIn_of _ (by decide +kernel)) ggX10_count_X10_open
set_option maxRecDepth 20000 in
theorem ggX10_many_X10_isIn : GoodIn wsX10_many wsX10_isIn := goodIn_r _ [4] (by decide +kernel) (by decide +kernel)
set_option maxRecDepth 20000 in
theorem gX10_many_X10_isIn : GoodIn wsX10_many (va_wsS RX10 45 yX10_isIn wsX10_isIn) := goodIn_app (goodIn_of _ (by decide +kernel)) ggX10_many_X10_isIn
set_option maxRecDepth 20000 in
theorem ggX10_many_X10_start : GoodIn wsX10_many wsX10_start := goodIn_r _ [8, 9, 10, 11, 12, 3, 13, 134, 135, 136, 137, 138, 139, 140, 141, 142, 143] (by decide +kernel) (by decide +kernel)
set_option maxRecDepth 20000 in
theorem gX10_many_X10_start : GoodIn wsX10_many (wsV RX10 63 RX10 yX10_start wsX10_start) := goodIn_app (goodIn_of _ (by decide +kernel)) ggX10_many_X10_start
set_option maxRecDepth 20000 in
theorem ggX10_many_X10_count : GoodIn wsX10_many wsX10_count := goodIn_r _ [17, 18, 19, 20, 21, 22, 23, 24, 25, 26, 27, 28, 29, 30, 31, 32, 33, 34, 3, 35, 36, 37, 38, 39, 40, 41, 42, 43, 44, 45, 46, 47, 48, 49, 50, 51, 52, 53, 54, 55, 56, 57, 58, 59, 60, 61, 62, 63, 64, 65, 66, 67, 68, 69, 70, 71, 72, 73, 74, 75, 76, 77, 78, 79, 80, 81, 82, 83, 84, 85, 86, 87, 88, 89, 90, 91, 92, 93, 94, 95, 96, 97, 98, 99, 100, 101, 102, 103, 104, 105, 106, 107, 108, 109, 110, 111, 112, 113, 114, 115, 116, 117, 118, 119, 120, 121, 122, 123, 124, 125, 126, 127, 128, 129, 130, 131, 132, 133, 134, 135, 136, 137, 138, 139, 140, 141, 142, 143, 144, 145, 146, 147, 148, 149, 150, 151, 152, 153, 154, 155, 156, 157, 158, 159, 160, 161] (by decide +kernel) (by decide +kernel)
set_option maxRecDepth 20000 in
theorem gX10_many_X10_count : GoodIn wsX10_many (wsV RX10 261 RX10 yX10_count wsX10_count) := goodIn_app (goodIn_of _ (by decide +kernel)) ggX10_many_X10_count
set_option maxRecDepth 20000 in
theorem ggX10_isNoRounds_X10_isIn : GoodIn wsX10_isNoRounds wsX10_isIn := goodIn_r _ [4] (by decide +kernel) (by decide +kernel)
set_option maxRecDepth 20000 in
theorem gX10_isNoRounds_X10_isIn : GoodIn wsX10_isNoRounds (va_wsS RX10 45 yX10_isIn wsX10_isIn) := goodIn_app (goodIn_of _ (by decide +kernel)) ggX10_isNoRounds_X10_isIn
set_option maxRecDepth 20000 in
theorem ggX10_rounds_X10_isNoRounds : GoodIn wsX10_rounds wsX10_isNoRounds := goodIn_r _ [5, 6, 7, 4, 8] (by decide +kernel) (by decide +kernel)
set_option maxRecDepth 20000 in
theorem gX10_rounds_X10_isNoRounds : GoodIn wsX10_rounds (va_wsS RX10 264 yX10_isNoRounds wsX10_isNoRounds) := goodIn_app (goodIn_of _ (by decide +kernel)) ggX10_rounds_X10_isNoRounds
set_option maxRecDepth 20000 in
theorem ggX10_rounds_X10_start : GoodIn wsX10_rounds wsX10_start := goodIn_r _ [12, 13, 14, 15, 16, 4, 17, 18, 19, 20, 21, 22, 23, 24, 25, 26, 27] (by decide +kernel) (by decide +kernel)
set_option maxRecDepth 20000 in
theorem gX10_rounds_X10_start : GoodIn wsX10_rounds (wsV RX10 63 RX10 yX10_start wsX10_start) := goodIn_app (goodIn_of _ (by decide +kernel)) ggX10_rounds_X10_start
set_option maxRecDepth 20000 in
theorem ggX10_off_X10_offNow : GoodIn wsX10_off wsX10_offNow := goodIn_r _ [7, 8, 9, 10, 11, 12, 13, 14, 15, 16, 17, 6, 18, 19, 20, 21, 22, 23, 24, 25, 26, 27, 28, 29, 30, 31, 32, 33, 34, 35, 36, 37, 38, 39, 40, 41, 42, 43, 44, 45, 46, 47, 48, 49, 50, 51, 52, 53, 54, 55, 56, 57, 58, 59, 60, 61, 62, 63, 64, 65, 66, 67, 68, 69, 70, 71, 72, 73, 74, 75, 76, 77, 78, 79, 80, 81, 82, 83, 84, 85, 86, 87, 88, 89, 90, 91, 92, 93, 94, 95, 96] (by decide +kernel) (by decide +kernel)
set_option maxRecDepth 20000 in
theorem gX10_off_X10_offNow : GoodIn wsX10_off (wsV RX10 267 RX10 yX10_offNow wsX10_offNow) := goodIn_app (goodIn_of _ (by decide +kernel)) ggX10_off_X10_offNow
set_option maxRecDepth 20000 in
theorem ggX10_share_X10_isNoAnswer : GoodIn wsX10_share wsX10_isNoAnswer := goodIn_r _ [6, 7, 8, 9, 10, 11, 12, 5, 13, 14, 15, 16, 17, 18, 19, 20, 21, 22, 23, 24, 25, 26, 27, 28, 29, 30, 31, 32, 33, 34, 35, 36, 37, 38, 39, 93, 94, 95, 96, 97, 98, 99, 100, 101, 102, 103, 104, 105, 106] (by decide +kernel) (by decide +kernel)
set_option maxRecDepth 20000 in
theorem gX10_share_X10_isNoAnswer : GoodIn wsX10_share (wsV RX10 81 RX10 yX10_isNoAnswer wsX10_isNoAnswer) := goodIn_app (goodIn_of _ (by decide +kernel)) ggX10_share_X10_isNoAnswer
set_option maxRecDepth 20000 in
theorem ggX10_share_X10_isNoA : GoodIn wsX10_share wsX10_isNoA := goodIn_r _ [42, 20, 21, 5, 22] (by decide +kernel) (by decide +kernel)
set_option maxRecDepth 20000 in
theorem gX10_share_X10_isNoA : GoodIn wsX10_share (va_wsS RX10 92 yX10_isNoA wsX10_isNoA) := goodIn_app (goodIn_of _ (by decide +kernel)) ggX10_share_X10_isNoA
set_option maxRecDepth 20000 in
theorem ggX10_share_X10_start : GoodIn wsX10_share wsX10_start := goodIn_r _ [46, 47, 48, 49, 50, 5, 51, 93, 94, 95, 96, 97, 98, 99, 100, 101, 102] (by decide +kernel) (by decide +kernel)
set_option maxRecDepth 20000 in
theorem gX10_share_X10_start : GoodIn wsX10_share (wsV RX10 63 RX10 yX10_start wsX10_start) := goodIn_app (goodIn_of _ (by decide +kernel)) ggX10_share_X10_start
set_option maxRecDepth 20000 in
theorem ggX10_share_X10_weights : GoodIn wsX10_share wsX10_weights := goodIn_r _ [55, 56, 57, 58, 59, 60, 14, 15, 16, 17, 18, 19, 23, 24, 25, 26, 27, 28, 29, 30, 31, 32, 33, 34, 35, 36, 37, 38, 39, 61, 62, 63, 5, 64, 65, 66, 67, 68, 69, 70, 71, 72, 73, 74, 75, 76, 77, 78, 79, 80, 81, 82, 83, 84, 85, 86, 93, 94, 95, 96, 97, 98, 99, 100, 101, 102, 107, 108, 109, 110, 111, 112, 113, 104, 105, 106, 114, 115, 116, 117] (by decide +kernel) (by decide +kernel)
set_option maxRecDepth 20000 in
theorem gX10_share_X10_weights : GoodIn wsX10_share (wsV RX10 235 RX10 yX10_weights wsX10_weights) := goodIn_app (goodIn_of _ (by decide +kernel)) ggX10_share_X10_weights
set_option maxRecDepth 20000 in
theorem ggX10_share_X10_shareNow : GoodIn wsX10_share wsX10_shareNow := goodIn_r _ [90, 56, 58, 91, 92, 23, 24, 25, 17, 26, 19, 27, 28, 29, 30, 31, 32, 33, 34, 35, 36, 37, 38, 39, 69, 70, 71, 5, 72, 73, 74, 75, 76, 77, 78, 79, 80, 81, 93, 94, 95, 96, 97, 98, 99, 100, 101, 102, 107, 108, 109, 110, 111, 112, 113, 104, 105, 106, 114, 115, 116, 117] (by decide +kernel) (by decide +kernel)
set_option maxRecDepth 20000 in
theorem gX10_share_X10_shareNow : GoodIn wsX10_share (wsV RX10 270 RX10 yX10_shareNow wsX10_shareNow) := goodIn_app (goodIn_of _ (by decide +kernel)) ggX10_share_X10_shareNow
set_option maxRecDepth 20000 in
theorem ggX10_answered_Jx4a65c_iterator_32c93 : GoodIn wsX10_answered wsJx4a65c_iterator_32c93 := goodIn_r _ [10, 11, 12, 13, 14, 15, 16, 17, 18, 19, 20, 21, 22, 23, 24, 86, 87, 88, 89, 90, 91, 92] (by decide +kernel) (by decide +kernel)
set_option maxRecDepth 20000 in
theorem gX10_answered_Jx4a65c_iterator_32c93 : GoodIn wsX10_answered (wsV RX10 109 RJx4a65c yJx4a65c_iterator_32c93 wsJx4a65c_iterator_32c93) := goodIn_app (goodIn_of _ (by decide +kernel)) ggX10_answered_Jx4a65c_iterator_32c93
set_option maxRecDepth 20000 in
theorem ggX10_answered_Jx35411_hasNext_aae02 : GoodIn wsX10_answered wsJx35411_hasNext_aae02 := goodIn_r _ [28, 29, 17, 86, 87, 88, 89, 90, 91, 92] (by decide +kernel) (by decide +kernel)
set_option maxRecDepth 20000 in
theorem gX10_answered_Jx35411_hasNext_aae02_f113Jx35411 : GoodIn wsX10_answered (va_wsF RX10 113 RJx35411 ⟨"java/util/Iterator", "hasNext", "()Z"⟩ yJx35411_hasNext_aae02 wsJx35411_hasNext_aae02) := goodIn_app (goodIn_of _ (by decide +kernel)) ggX10_answered_Jx35411_hasNext_aae02
set_option maxRecDepth 20000 in
theorem ggX10_answered_Jx35411_next_0502b : GoodIn wsX10_answered wsJx35411_next_0502b := goodIn_r _ [33, 29, 17, 34, 21, 35, 36, 37, 13, 38, 22, 23, 24, 86, 87, 88, 89, 90, 91, 92] (by decide +kernel) (by decide +kernel)
set_option maxRecDepth 20000 in
theorem gX10_answered_Jx35411_next_0502b_f118Jx35411 : GoodIn wsX10_answered (va_wsF RX10 118 RJx35411 ⟨"java/util/Iterator", "next", "()Ljava/lang/Object;"⟩ yJx35411_next_0502b wsJx35411_next_0502b) := goodIn_app (goodIn_of _ (by decide +kernel)) ggX10_answered_Jx35411_next_0502b
set_option maxRecDepth 20000 in
theorem ggX10_answered_X10_personOf : GoodIn wsX10_answered wsX10_personOf := goodIn_r _ [43, 44, 45, 46, 47, 48, 49, 9, 50, 51, 52, 53, 54, 55, 56, 57, 58, 59, 60, 61, 62, 63, 64, 65, 66, 67, 68, 69, 70, 71, 72, 73, 74, 75, 76, 77, 78, 79, 80, 81, 90, 91, 92] (by decide +kernel) (by decide +kernel)
set_option maxRecDepth 20000 in
theorem gX10_answered_X10_personOf : GoodIn wsX10_answered (wsV RX10 128 RX10 yX10_personOf wsX10_personOf) := goodIn_app (goodIn_of _ (by decide +kernel)) ggX10_answered_X10_personOf
set_option maxRecDepth 20000 in
theorem ggX10_isMarked_X10_isNoAnswer : GoodIn wsX10_isMarked wsX10_isNoAnswer := goodIn_r _ [10, 11, 12, 13, 14, 15, 16, 9, 17, 18, 19, 20, 21, 22, 23, 24, 25, 26, 27, 28, 29, 30, 31, 32, 33, 34, 35, 36, 37, 38, 39, 40, 41, 42, 43, 133, 134, 135, 136, 137, 138, 139, 140, 141, 142, 143, 144, 145, 146] (by decide +kernel) (by decide +kernel)
set_option maxRecDepth 20000 in
theorem gX10_isMarked_X10_isNoAnswer : GoodIn wsX10_isMarked (wsV RX10 81 RX10 yX10_isNoAnswer wsX10_isNoAnswer) := goodIn_app (goodIn_of _ (by decide +kernel)) ggX10_isMarked_X10_isNoAnswer
set_option maxRecDepth 20000 in
theorem ggX10_isMarked_X10_isNoA : GoodIn wsX10_isMarked wsX10_isNoA := goodIn_r _ [46, 24, 25, 9, 26] (by decide +kernel) (by decide +kernel)
set_option maxRecDepth 20000 in
theorem gX10_isMarked_X10_isNoA : GoodIn wsX10_isMarked (va_wsS RX10 92 yX10_isNoA wsX10_isNoA) := goodIn_app (goodIn_of _ (by decide +kernel)) ggX10_isMarked_X10_isNoA
set_option maxRecDepth 20000 in
theorem ggX10_isMarked_X10_start : GoodIn wsX10_isMarked wsX10_start := goodIn_r _ [50, 51, 52, 53, 54, 9, 55, 133, 134, 135, 136, 137, 138, 139, 140, 141, 142] (by decide +kernel) (by decide +kernel)
set_option maxRecDepth 20000 in
theorem gX10_isMarked_X10_start : GoodIn wsX10_isMarked (wsV RX10 63 RX10 yX10_start wsX10_start) := goodIn_app (goodIn_of _ (by decide +kernel)) ggX10_isMarked_X10_start
set_option maxRecDepth 20000 in
theorem ggX10_isMarked_X10_refuse : GoodIn wsX10_isMarked wsX10_refuse := goodIn_r _ [55, 51, 133, 134, 135, 136, 137, 138, 139, 140, 141, 142] (by decide +kernel) (by decide +kernel)
set_option maxRecDepth 20000 in
theorem gX10_isMarked_X10_refuse : GoodIn wsX10_isMarked (wsV RX10 37 RX10 yX10_refuse wsX10_refuse) := goodIn_app (goodIn_of _ (by decide +kernel)) ggX10_isMarked_X10_refuse
set_option maxRecDepth 20000 in
theorem ggX10_isMarked_X10_weights : GoodIn wsX10_isMarked wsX10_weights := goodIn_r _ [59, 60, 61, 62, 63, 64, 18, 19, 20, 21, 22, 23, 27, 28, 29, 30, 31, 32, 33, 34, 35, 36, 37, 38, 39, 40, 41, 42, 43, 65, 66, 67, 9, 68, 69, 70, 71, 72, 73, 74, 75, 76, 77, 78, 79, 80, 81, 82, 83, 84, 85, 86, 87, 88, 89, 90, 133, 134, 135, 136, 137, 138, 139, 140, 141, 142, 147, 148, 149, 150, 151, 152, 153, 144, 145, 146, 154, 155, 156, 157] (by decide +kernel) (by decide +kernel)
set_option maxRecDepth 20000 in
theorem gX10_isMarked_X10_weights : GoodIn wsX10_isMarked (wsV RX10 235 RX10 yX10_weights wsX10_weights) := goodIn_app (goodIn_of _ (by decide +kernel)) ggX10_isMarked_X10_weights
set_option maxRecDepth 20000 in
theorem ggX10_isMarked_X10_shareNow : GoodIn wsX10_isMarked wsX10_shareNow := goodIn_r _ [94, 60, 62, 95, 96, 27, 28, 29, 21, 30, 23, 31, 32, 33, 34, 35, 36, 37, 38, 39, 40, 41, 42, 43, 73, 74, 75, 9, 76, 77, 78, 79, 80, 81, 82, 83, 84, 85, 133, 134, 135, 136, 137, 138, 139, 140, 141, 142, 147, 148, 149, 150, 151, 152, 153, 144, 145, 146, 154, 155, 156, 157] (by decide +kernel) (by decide +kernel)
set_option maxRecDepth 20000 in
theorem gX10_isMarked_X10_shareNow : GoodIn wsX10_isMarked (wsV RX10 270 RX10 yX10_shareNow wsX10_shareNow) := goodIn_app (goodIn_of _ (by decide +kernel)) ggX10_isMarked_X10_shareNow
set_option maxRecDepth 20000 in
theorem ggX10_isMarked_X10_answered : GoodIn wsX10_isMarked wsX10_answered := goodIn_r _ [100, 60, 62, 63, 95, 77, 101, 102, 103, 21, 104, 105, 106, 107, 108, 109, 110, 111, 112, 113, 114, 115, 116, 117, 118, 119, 120, 121, 122, 123, 124, 125, 126, 127, 128, 129, 130, 131, 132, 79, 80, 81, 9, 82, 83, 84, 85, 27, 28, 29, 30, 23, 31, 32, 33, 34, 35, 36, 37, 38, 39, 40, 41, 42, 43, 133, 134, 135, 136, 137, 138, 139, 140, 141, 142, 147, 148, 149, 150, 151, 152, 153, 154, 155, 156, 157, 158, 159, 160, 161, 144, 145, 146] (by decide +kernel) (by decide +kernel)
set_option maxRecDepth 20000 in
theorem gX10_isMarked_X10_answered : GoodIn wsX10_isMarked (wsV RX10 274 RX10 yX10_answered wsX10_answered) := goodIn_app (goodIn_of _ (by decide +kernel)) ggX10_isMarked_X10_answered
set_option maxRecDepth 20000 in
theorem ggX10_hold_Jx4a65c_size_8abf5 : GoodIn wsX10_hold wsJx4a65c_size_8abf5 := goodIn_r _ [12, 13, 146, 147, 148] (by decide +kernel) (by decide +kernel)
set_option maxRecDepth 20000 in
theorem gX10_hold_Jx4a65c_size_8abf5 : GoodIn wsX10_hold (wsV RX10 41 RJx4a65c yJx4a65c_size_8abf5 wsJx4a65c_size_8abf5) := goodIn_app (goodIn_of _ (by decide +kernel)) ggX10_hold_Jx4a65c_size_8abf5
set_option maxRecDepth 20000 in
theorem ggX10_hold_X10_start : GoodIn wsX10_hold wsX10_start := goodIn_r _ [18, 19, 20, 21, 22, 17, 23, 135, 136, 137, 138, 139, 140, 141, 142, 143, 144] (by decide +kernel) (by decide +kernel)
set_option maxRecDepth 20000 in
theorem gX10_hold_X10_start : GoodIn wsX10_hold (wsV RX10 63 RX10 yX10_start wsX10_start) := goodIn_app (goodIn_of _ (by decide +kernel)) ggX10_hold_X10_start
set_option maxRecDepth 20000 in
theorem ggX10_hold_X10_weights : GoodIn wsX10_hold wsX10_weights := goodIn_r _ [27, 28, 29, 30, 31, 32, 8, 9, 10, 11, 12, 13, 33, 34, 35, 36, 37, 38, 39, 40, 41, 42, 43, 44, 45, 46, 47, 48, 49, 50, 51, 52, 17, 53, 54, 55, 56, 57, 58, 59, 60, 61, 62, 63, 64, 65, 66, 67, 68, 69, 70, 71, 72, 73, 74, 75, 135, 136, 137, 138, 139, 140, 141, 142, 143, 144, 149, 150, 151, 152, 153, 154, 155, 146, 147, 148, 156, 157, 158, 159] (by decide +kernel) (by decide +kernel)
set_option maxRecDepth 20000 in
theorem gX10_hold_X10_weights : GoodIn wsX10_hold (wsV RX10 235 RX10 yX10_weights wsX10_weights) := goodIn_app (goodIn_of _ (by decide +kernel)) ggX10_hold_X10_weights
set_option maxRecDepth 20000 in
theorem ggX10_hold_Jx4a65c_get_915e3 : GoodIn wsX10_hold wsJx4a65c_get_915e3 := goodIn_r _ [36, 13, 37, 38, 39, 40, 41, 42, 43, 44, 45, 46, 47, 11, 48, 49, 146, 147, 148] (by decide +kernel) (by decide +kernel)
set_option maxRecDepth 20000 in
theorem gX10_hold_Jx4a65c_get_915e3 : GoodIn wsX10_hold (wsV RX10 53 RJx4a65c yJx4a65c_get_915e3 wsJx4a65c_get_915e3) := goodIn_app (goodIn_of _ (by decide +kernel)) ggX10_hold_Jx4a65c_get_915e3
set_option maxRecDepth 20000 in
theorem ggX10_hold_X10_shareNow : GoodIn wsX10_hold wsX10_shareNow := goodIn_r _ [79, 28, 30, 80, 81, 33, 34, 35, 11, 36, 13, 37, 38, 39, 40, 41, 42, 43, 44, 45, 46, 47, 48, 49, 58, 59, 60, 17, 61, 62, 63, 64, 65, 66, 67, 68, 69, 70, 135, 136, 137, 138, 139, 140, 141, 142, 143, 144, 149, 150, 151, 152, 153, 154, 155, 146, 147, 148, 156, 157, 158, 159] (by decide +kernel) (by decide +kernel)
set_option maxRecDepth 20000 in
theorem gX10_hold_X10_shareNow : GoodIn wsX10_hold (wsV RX10 270 RX10 yX10_shareNow wsX10_shareNow) := goodIn_app (goodIn_of _ (by decide +kernel)) ggX10_hold_X10_shareNow
set_option maxRecDepth 20000 in
theorem ggX10_hold_Jx4a65c_add_9ea2d : GoodIn wsX10_hold wsJx4a65c_add_9ea2d := goodIn_r _ [85, 86, 87, 49, 13, 88, 89, 90, 11, 91, 92, 93, 94, 95, 96, 97, 98, 99, 100, 101, 102, 103, 104, 105, 106, 107, 108, 109, 110, 111, 112, 113, 114, 115, 116, 117, 118, 119, 120, 121, 122, 123, 124, 125, 126, 127, 128, 129, 130, 131, 132, 133, 134, 146, 147, 148] (by decide +kernel) (by decide +kernel)
set_option maxRecDepth 20000 in
theorem gX10_hold_Jx4a65c_add_9ea2d : GoodIn wsX10_hold (wsV RX10 73 RJx4a65c yJx4a65c_add_9ea2d wsJx4a65c_add_9ea2d) := goodIn_app (goodIn_of _ (by decide +kernel)) ggX10_hold_Jx4a65c_add_9ea2d
set_option maxRecDepth 20000 in
theorem ggX10_held_Jx4a65c_size_8abf5 : GoodIn wsX10_held wsJx4a65c_size_8abf5 := goodIn_r _ [7, 8, 60, 61, 62] (by decide +kernel) (by decide +kernel)
set_option maxRecDepth 20000 in
theorem gX10_held_Jx4a65c_size_8abf5 : GoodIn wsX10_held (wsV RX10 41 RJx4a65c yJx4a65c_size_8abf5 wsJx4a65c_size_8abf5) := goodIn_app (goodIn_of _ (by decide +kernel)) ggX10_held_Jx4a65c_size_8abf5
set_option maxRecDepth 20000 in
theorem ggX10_held_X10_isIn : GoodIn wsX10_held wsX10_isIn := goodIn_r _ [12] (by decide +kernel) (by decide +kernel)
set_option maxRecDepth 20000 in
theorem gX10_held_X10_isIn : GoodIn wsX10_held (va_wsS RX10 45 yX10_isIn wsX10_isIn) := goodIn_app (goodIn_of _ (by decide +kernel)) ggX10_held_X10_isIn
set_option maxRecDepth 20000 in
theorem ggX10_held_X10_isNoAnswer : GoodIn wsX10_held wsX10_isNoAnswer := goodIn_r _ [16, 17, 18, 19, 20, 21, 22, 11, 23, 3, 4, 5, 6, 7, 8, 9, 10, 12, 24, 25, 26, 27, 28, 29, 30, 31, 32, 33, 34, 35, 36, 37, 38, 39, 40, 50, 51, 52, 53, 54, 55, 56, 57, 58, 59, 63, 60, 61, 62] (by decide +kernel) (by decide +kernel)
set_option maxRecDepth 20000 in
theorem gX10_held_X10_isNoAnswer : GoodIn wsX10_held (wsV RX10 81 RX10 yX10_isNoAnswer wsX10_isNoAnswer) := goodIn_app (goodIn_of _ (by decide +kernel)) ggX10_held_X10_isNoAnswer
set_option maxRecDepth 20000 in
theorem ggX10_held_X10_start : GoodIn wsX10_held wsX10_start := goodIn_r _ [44, 45, 46, 47, 48, 11, 49, 50, 51, 52, 53, 54, 55, 56, 57, 58, 59] (by decide +kernel) (by decide +kernel)
set_option maxRecDepth 20000 in
theorem gX10_held_X10_start : GoodIn wsX10_held (wsV RX10 63 RX10 yX10_start wsX10_start) := goodIn_app (goodIn_of _ (by decide +kernel)) ggX10_held_X10_start
set_option maxRecDepth 20000 in
theorem ggX10_held_Jx4a65c_get_915e3 : GoodIn wsX10_held wsJx4a65c_get_915e3 := goodIn_r _ [27, 8, 28, 29, 30, 31, 32, 33, 34, 35, 36, 37, 38, 6, 39, 40, 60, 61, 62] (by decide +kernel) (by decide +kernel)
set_option maxRecDepth 20000 in
theorem gX10_held_Jx4a65c_get_915e3 : GoodIn wsX10_held (wsV RX10 53 RJx4a65c yJx4a65c_get_915e3 wsJx4a65c_get_915e3) := goodIn_app (goodIn_of _ (by decide +kernel)) ggX10_held_Jx4a65c_get_915e3
set_option maxRecDepth 20000 in
theorem ggX10_meanSeconds_Jx4a65c_iterator_32c93 : GoodIn wsX10_meanSeconds wsJx4a65c_iterator_32c93 := goodIn_r _ [11, 12, 13, 14, 15, 16, 17, 18, 19, 20, 21, 22, 23, 24, 25, 57, 58, 59, 60, 61, 62, 63] (by decide +kernel) (by decide +kernel)
set_option maxRecDepth 20000 in
theorem gX10_meanSeconds_Jx4a65c_iterator_32c93 : GoodIn wsX10_meanSeconds (wsV RX10 109 RJx4a65c yJx4a65c_iterator_32c93 wsJx4a65c_iterator_32c93) := goodIn_app (goodIn_of _ (by decide +kernel)) ggX10_meanSeconds_Jx4a65c_iterator_32c93
set_option maxRecDepth 20000 in
theorem ggX10_meanSeconds_Jx35411_hasNext_aae02 : GoodIn wsX10_meanSeconds wsJx35411_hasNext_aae02 := goodIn_r _ [29, 30, 18, 57, 58, 59, 60, 61, 62, 63] (by decide +kernel) (by decide +kernel)
set_option maxRecDepth 20000 in
theorem gX10_meanSeconds_Jx35411_hasNext_aae02_f113Jx35411 : GoodIn wsX10_meanSeconds (va_wsF RX10 113 RJx35411 ⟨"java/util/Iterator", "hasNext", "()Z"⟩ yJx35411_hasNext_aae02 wsJx35411_hasNext_aae02) := goodIn_app (goodIn_of _ (by decide +kernel)) ggX10_meanSeconds_Jx35411_hasNext_aae02
set_option maxRecDepth 20000 in
theorem ggX10_meanSeconds_Jx35411_next_0502b : GoodIn wsX10_meanSeconds wsJx35411_next_0502b := goodIn_r _ [34, 30, 18, 35, 22, 36, 37, 38, 14, 39, 23, 24, 25, 57, 58, 59, 60, 61, 62, 63] (by decide +kernel) (by decide +kernel)
set_option maxRecDepth 20000 in
theorem gX10_meanSeconds_Jx35411_next_0502b_f118Jx35411 : GoodIn wsX10_meanSeconds (va_wsF RX10 118 RJx35411 ⟨"java/util/Iterator", "next", "()Ljava/lang/Object;"⟩ yJx35411_next_0502b wsJx35411_next_0502b) := goodIn_app (goodIn_of _ (by decide +kernel)) ggX10_meanSeconds_Jx35411_next_0502b
set_option maxRecDepth 20000 in
theorem ggX10_cleanedNow_X10_dirty : GoodIn wsX10_cleanedNow wsX10_dirty := goodIn_r _ [5, 6, 7, 8, 9, 10, 11, 12, 13, 14, 15, 16, 17, 18, 19, 20, 21, 22, 23, 24, 25, 26, 27, 28, 29, 30, 31, 32, 33, 34, 35, 36, 37, 38, 39, 40, 41, 42, 43, 44, 45, 46, 47, 48, 49, 50, 51, 52, 53, 97, 98, 99, 100, 101, 102, 103, 104, 105, 106, 107, 108, 109, 110, 111, 112, 113, 114, 115, 116, 117, 118, 119, 120] (by decide +kernel) (by decide +kernel)
set_option maxRecDepth 20000 in
theorem gX10_cleanedNow_X10_dirty : GoodIn wsX10_cleanedNow (wsV RX10 252 RX10 yX10_dirty wsX10_dirty) := goodIn_app (goodIn_of _ (by decide +kernel)) ggX10_cleanedNow_X10_dirty
set_option maxRecDepth 20000 in
theorem ggX10_cleanedNow_X10_filled : GoodIn wsX10_cleanedNow wsX10_filled := goodIn_r _ [57, 58, 59, 6, 7, 60, 61, 62, 8, 9, 10, 11, 12, 13, 14, 15, 16, 17, 18, 19, 20, 21, 22, 23, 24, 25, 26, 27, 28, 29, 30, 31, 32, 33, 34, 35, 36, 37, 38, 39, 40, 41, 42, 43, 44, 45, 46, 47, 48, 49, 50, 51, 52, 53, 63, 64, 65, 4, 66, 67, 68, 69, 70, 71, 72, 73, 74, 75, 76, 77, 78, 79, 80, 81, 82, 83, 84, 85, 86, 87, 97, 98, 99, 100, 101, 102, 103, 104, 105, 106, 114, 115, 116, 117, 118, 119, 120, 121, 122, 123, 124, 107, 108, 109, 110, 111, 112, 113] (by decide +kernel) (by decide +kernel)
set_option maxRecDepth 20000 in
theorem gX10_cleanedNow_X10_filled : GoodIn wsX10_cleanedNow (wsV RX10 148 RX10 yX10_filled wsX10_filled) := goodIn_app (goodIn_of _ (by decide +kernel)) ggX10_cleanedNow_X10_filled
set_option maxRecDepth 20000 in
theorem ggX10_cleanedNow_X10_isOpen : GoodIn wsX10_cleanedNow wsX10_isOpen := goodIn_r _ [91, 92, 93, 94, 95, 4, 96, 97, 98, 99, 100, 101, 102, 103, 104, 105, 106] (by decide +kernel) (by decide +kernel)
set_option maxRecDepth 20000 in
theorem gX10_cleanedNow_X10_isOpen : GoodIn wsX10_cleanedNow (wsV RX10 152 RX10 yX10_isOpen wsX10_isOpen) := goodIn_app (goodIn_of _ (by decide +kernel)) ggX10_cleanedNow_X10_isOpen
set_option maxRecDepth 20000 in
theorem ggX10_cleaned_X10_cleanedNow : GoodIn wsX10_cleaned wsX10_cleanedNow := goodIn_r _ [6, 7, 8, 9, 5, 10, 11, 12, 13, 14, 15, 16, 17, 18, 19, 20, 21, 22, 23, 24, 25, 26, 27, 28, 29, 30, 31, 32, 33, 34, 35, 36, 37, 38, 39, 40, 41, 42, 43, 44, 45, 46, 47, 48, 49, 50, 51, 52, 53, 54, 55, 56, 57, 58, 59, 60, 61, 62, 63, 64, 65, 66, 67, 68, 69, 70, 71, 72, 73, 74, 75, 76, 77, 78, 79, 80, 81, 82, 83, 84, 85, 86, 87, 88, 89, 90, 91, 92, 93, 94, 95, 96, 97, 98, 99, 100, 101, 102, 103, 104, 105, 106, 107, 108, 109, 110, 111, 112, 113, 114, 115, 116, 117, 118, 119, 120, 121, 122, 123, 124, 125, 126, 127, 128, 129] (by decide +kernel) (by decide +kernel)
set_option maxRecDepth 20000 in
theorem gX10_cleaned_X10_cleanedNow : GoodIn wsX10_cleaned (wsV RX10 280 RX10 yX10_cleanedNow wsX10_cleanedNow) := goodIn_app (goodIn_of _ (by decide +kernel)) ggX10_cleaned_X10_cleanedNow
set_option maxRecDepth 20000 in
theorem ggX10_nextIn_X10_isIn : GoodIn wsX10_nextIn wsX10_isIn := goodIn_r _ [4] (by decide +kernel) (by decide +kernel)
set_option maxRecDepth 20000 in
theorem gX10_nextIn_X10_isIn : GoodIn wsX10_nextIn (va_wsS RX10 45 yX10_isIn wsX10_isIn) := goodIn_app (goodIn_of _ (by decide +kernel)) ggX10_nextIn_X10_isIn
set_option maxRecDepth 20000 in
theorem ggX10_nextIn_X10_start : GoodIn wsX10_nextIn wsX10_start := goodIn_r _ [8, 9, 10, 11, 12, 3, 13, 130, 131, 132, 133, 134, 135, 136, 137, 138, 139] (by decide +kernel) (by decide +kernel)
set_option maxRecDepth 20000 in
theorem gX10_nextIn_X10_start : GoodIn wsX10_nextIn (wsV RX10 63 RX10 yX10_start wsX10_start) := goodIn_app (goodIn_of _ (by decide +kernel)) ggX10_nextIn_X10_start
set_option maxRecDepth 20000 in
theorem ggX10_nextIn_X10_nextNow : GoodIn wsX10_nextIn wsX10_nextNow := goodIn_r _ [17, 18, 19, 20, 21, 22, 23, 24, 25, 26, 27, 28, 29, 30, 31, 32, 33, 3, 34, 35, 36, 37, 38, 39, 40, 41, 42, 43, 44, 45, 46, 47, 48, 49, 50, 51, 52, 53, 54, 55, 56, 57, 58, 59, 60, 61, 62, 63, 64, 65, 66, 67, 68, 69, 70, 71, 72, 73, 74, 75, 76, 77, 78, 79, 80, 81, 82, 83, 84, 85, 86, 87, 88, 89, 90, 91, 92, 93, 94, 95, 96, 97, 98, 99, 100, 101, 102, 103, 104, 105, 106, 107, 108, 109, 110, 111, 112, 113, 114, 115, 116, 117, 118, 119, 120, 121, 122, 123, 124, 125, 126, 127, 128, 129, 130, 131, 132, 133, 134, 135, 136, 137, 138, 139, 140, 141, 142, 143, 144, 145, 146, 147, 148, 149, 150, 151, 152, 153, 154, 155, 156, 157] (by decide +kernel) (by decide +kernel)
set_option maxRecDepth 20000 in
theorem gX10_nextIn_X10_nextNow : GoodIn wsX10_nextIn (wsV RX10 190 RX10 yX10_nextNow wsX10_nextNow) := goodIn_app (goodIn_of _ (by decide +kernel)) ggX10_nextIn_X10_nextNow
set_option maxRecDepth 20000 in
theorem ggX10_offWith_X10_isNoRounds : GoodIn wsX10_offWith wsX10_isNoRounds := goodIn_r _ [4, 5, 6, 3, 7] (by decide +kernel) (by decide +kernel)
set_option maxRecDepth 20000 in
theorem gX10_offWith_X10_isNoRounds : GoodIn wsX10_offWith (va_wsS RX10 264 yX10_isNoRounds wsX10_isNoRounds) := goodIn_app (goodIn_of _ (by decide +kernel)) ggX10_offWith_X10_isNoRounds
set_option maxRecDepth 20000 in
theorem ggX10_offWith_X10_start : GoodIn wsX10_offWith wsX10_start := goodIn_r _ [11, 12, 13, 14, 15, 3, 16, 86, 87, 88, 89, 90, 91, 92, 93, 94, 95] (by decide +kernel) (by decide +kernel)
set_option maxRecDepth 20000 in
theorem gX10_offWith_X10_start : GoodIn wsX10_offWith (wsV RX10 63 RX10 yX10_start wsX10_start) := goodIn_app (goodIn_of _ (by decide +kernel)) ggX10_offWith_X10_start
set_option maxRecDepth 20000 in
theorem ggX10_offWith_X10_offNow : GoodIn wsX10_offWith wsX10_offNow := goodIn_r _ [20, 21, 22, 23, 24, 25, 26, 27, 28, 29, 30, 3, 31, 32, 33, 34, 35, 36, 37, 38, 39, 40, 41, 42, 43, 44, 45, 46, 47, 48, 49, 50, 51, 52, 53, 54, 55, 56, 57, 58, 59, 60, 61, 62, 63, 64, 65, 66, 67, 68, 69, 70, 71, 72, 73, 74, 75, 76, 77, 78, 79, 80, 81, 82, 83, 84, 85, 86, 87, 88, 89, 90, 91, 92, 93, 94, 95, 96, 97, 98, 99, 100, 101, 102, 103, 104, 105, 106, 107, 108, 109] (by decide +kernel) (by decide +kernel)
set_option maxRecDepth 20000 in
theorem gX10_offWith_X10_offNow : GoodIn wsX10_offWith (wsV RX10 267 RX10 yX10_offNow wsX10_offNow) := goodIn_app (goodIn_of _ (by decide +kernel)) ggX10_offWith_X10_offNow
set_option maxRecDepth 20000 in
theorem ggX10_shortestNow_Jx4a65c_size_8abf5 : GoodIn wsX10_shortestNow wsJx4a65c_size_8abf5 := goodIn_r _ [13, 14, 52, 53, 54] (by decide +kernel) (by decide +kernel)
set_option maxRecDepth 20000 in
theorem gX10_shortestNow_Jx4a65c_size_8abf5 : GoodIn wsX10_shortestNow (wsV RX10 41 RJx4a65c yJx4a65c_size_8abf5 wsJx4a65c_size_8abf5) := goodIn_app (goodIn_of _ (by decide +kernel)) ggX10_shortestNow_Jx4a65c_size_8abf5
set_option maxRecDepth 20000 in
theorem ggX10_shortestNow_Jx4a65c_get_915e3 : GoodIn wsX10_shortestNow wsJx4a65c_get_915e3 := goodIn_r _ [18, 14, 19, 20, 21, 22, 23, 24, 25, 26, 27, 28, 29, 12, 30, 31, 52, 53, 54] (by decide +kernel) (by decide +kernel)
set_option maxRecDepth 20000 in
theorem gX10_shortestNow_Jx4a65c_get_915e3 : GoodIn wsX10_shortestNow (wsV RX10 53 RJx4a65c yJx4a65c_get_915e3 wsJx4a65c_get_915e3) := goodIn_app (goodIn_of _ (by decide +kernel)) ggX10_shortestNow_Jx4a65c_get_915e3
set_option maxRecDepth 20000 in
theorem ggX10_shortestNow_X10_behindNow : GoodIn wsX10_shortestNow wsX10_behindNow := goodIn_r _ [36, 1, 3, 4, 15, 16, 17, 12, 18, 14, 19, 20, 21, 22, 23, 24, 25, 26, 27, 28, 29, 30, 31, 37, 38, 39, 35, 40, 9, 10, 11, 13, 41, 42, 43, 44, 45, 46, 47, 48, 49, 50, 51, 52, 53, 54] (by decide +kernel) (by decide +kernel)
set_option maxRecDepth 20000 in
theorem gX10_shortestNow_X10_behindNow : GoodIn wsX10_shortestNow (wsV RX10 85 RX10 yX10_behindNow wsX10_behindNow) := goodIn_app (goodIn_of _ (by decide +kernel)) ggX10_shortestNow_X10_behindNow
set_option maxRecDepth 20000 in
theorem ggX10_shortest_X10_isNoQuestion : GoodIn wsX10_shortest wsX10_isNoQuestion := goodIn_r _ [5, 6, 7, 8, 9, 10, 11, 12, 13, 14, 4, 15, 61, 62, 63, 64, 65, 66, 67, 68, 69, 70, 71, 72, 73] (by decide +kernel) (by decide +kernel)
set_option maxRecDepth 20000 in
theorem gX10_shortest_X10_isNoQuestion : GoodIn wsX10_shortest (wsV RX10 49 RX10 yX10_isNoQuestion wsX10_isNoQuestion) := goodIn_app (goodIn_of _ (by decide +kernel)) ggX10_shortest_X10_isNoQuestion
set_option maxRecDepth 20000 in
theorem ggX10_shortest_X10_start : GoodIn wsX10_shortest wsX10_start := goodIn_r _ [19, 20, 21, 22, 23, 4, 24, 61, 62, 63, 64, 65, 66, 67, 68, 69, 70] (by decide +kernel) (by decide +kernel)
set_option maxRecDepth 20000 in
theorem gX10_shortest_X10_start : GoodIn wsX10_shortest (wsV RX10 63 RX10 yX10_start wsX10_start) := goodIn_app (goodIn_of _ (by decide +kernel)) ggX10_shortest_X10_start
set_option maxRecDepth 20000 in
theorem ggX10_shortest_X10_shortestNow : GoodIn wsX10_shortest wsX10_shortestNow := goodIn_r _ [28, 6, 29, 30, 31, 32, 33, 34, 35, 7, 8, 9, 10, 11, 12, 36, 37, 38, 39, 40, 41, 42, 43, 44, 45, 46, 47, 48, 49, 50, 51, 52, 53, 54, 55, 4, 56, 57, 58, 59, 60, 61, 62, 63, 64, 65, 66, 67, 68, 69, 70, 74, 71, 72, 73] (by decide +kernel) (by decide +kernel)
set_option maxRecDepth 20000 in
theorem gX10_shortest_X10_shortestNow : GoodIn wsX10_shortest (wsV RX10 283 RX10 yX10_shortestNow wsX10_shortestNow) := goodIn_app (goodIn_of _ (by decide +kernel)) ggX10_shortest_X10_shortestNow
set_option maxRecDepth 20000 in
theorem ggX10_digest_X10_count : GoodIn wsX10_digest wsX10_count := goodIn_r _ [15, 3, 16, 17, 18, 7, 19, 20, 21, 22, 23, 24, 25, 26, 27, 28, 29, 30, 14, 31, 32, 33, 34, 35, 36, 37, 38, 39, 40, 41, 42, 43, 44, 45, 46, 47, 48, 49, 50, 51, 52, 53, 54, 55, 5, 6, 56, 57, 58, 59, 60, 61, 62, 63, 64, 65, 66, 67, 68, 69, 70, 71, 72, 73, 74, 75, 76, 77, 78, 79, 80, 81, 82, 83, 84, 85, 86, 87, 88, 89, 90, 91, 92, 93, 94, 95, 96, 97, 98, 99, 100, 101, 102, 103, 104, 105, 106, 107, 108, 109, 110, 111, 112, 113, 114, 115, 116, 117, 118, 119, 120, 121, 122, 123, 124, 125, 126, 127, 230, 231, 232, 233, 234, 235, 236, 237, 238, 239, 248, 249, 250, 251, 252, 253, 254, 240, 241, 242, 243, 244, 245, 246, 255, 256, 257, 258] (by decide +kernel) (by decide +kernel)
set_option maxRecDepth 20000 in
theorem gX10_digest_X10_count : GoodIn wsX10_digest (wsV RX10 261 RX10 yX10_count wsX10_count) := goodIn_app (goodIn_of _ (by decide +kernel)) ggX10_digest_X10_count
set_option maxRecDepth 20000 in
theorem ggX10_digest_X10_add : GoodIn wsX10_digest wsX10_add := goodIn_r _ [130, 131] (by decide +kernel) (by decide +kernel)
set_option maxRecDepth 20000 in
theorem gX10_digest_X10_add : GoodIn wsX10_digest (va_wsS RX10 290 yX10_add wsX10_add) := goodIn_app (goodIn_of _ (by decide +kernel)) ggX10_digest_X10_add
set_option maxRecDepth 20000 in
theorem ggX10_digest_X10_ofCellNow : GoodIn wsX10_digest wsX10_ofCellNow := goodIn_r _ [135, 19, 3, 16, 90, 91, 92, 14, 93, 94, 18, 5, 6, 57, 33, 34, 58, 59, 60, 25, 61, 62, 63, 64, 65, 66, 67, 68, 69, 70, 71, 72, 73, 74, 75, 76, 77, 78, 79, 80, 81, 82, 83, 84, 85, 86, 87, 88, 89, 95, 96, 97, 98, 99, 100, 101, 102, 103, 104, 105, 106, 107, 108, 109, 110, 111, 56, 35, 36, 37, 38, 27, 39, 40, 41, 42, 43, 44, 45, 46, 47, 48, 49, 50, 51, 112, 113, 114, 115, 116, 117, 118, 119, 22, 23, 24, 26, 136, 137, 138, 139, 140, 141, 142, 28, 29, 30, 31, 32, 52, 53, 54, 55, 230, 231, 232, 233, 234, 235, 236, 237, 238, 239, 240, 241, 242, 243, 244, 245, 246, 248, 249, 250, 251, 255, 256, 257, 258, 252, 253, 254] (by decide +kernel) (by decide +kernel)
set_option maxRecDepth 20000 in
theorem gX10_digest_X10_ofCellNow : GoodIn wsX10_digest (wsV RX10 162 RX10 yX10_ofCellNow wsX10_ofCellNow) := goodIn_app (goodIn_of _ (by decide +kernel)) ggX10_digest_X10_ofCellNow
set_option maxRecDepth 20000 in
theorem ggX10_digest_Jx4a65c_size_8abf5 : GoodIn wsX10_digest wsJx4a65c_size_8abf5 := goodIn_r _ [26, 27, 252, 253, 254] (by decide +kernel) (by decide +kernel)
set_option maxRecDepth 20000 in
theorem gX10_digest_Jx4a65c_size_8abf5 : GoodIn wsX10_digest (wsV RX10 41 RJx4a65c yJx4a65c_size_8abf5 wsJx4a65c_size_8abf5) := goodIn_app (goodIn_of _ (by decide +kernel)) ggX10_digest_Jx4a65c_size_8abf5
set_option maxRecDepth 20000 in
theorem ggX10_digest_X10_ofPersonNow : GoodIn wsX10_digest wsX10_ofPersonNow := goodIn_r _ [146, 3, 16, 18, 33, 34, 32, 17, 35, 36, 37, 25, 38, 27, 39, 40, 41, 42, 43, 44, 45, 46, 47, 48, 49, 50, 51, 28, 29, 30, 14, 31, 52, 53, 54, 55, 5, 6, 56, 57, 58, 59, 60, 61, 62, 63, 64, 65, 66, 67, 68, 69, 70, 71, 72, 73, 74, 75, 76, 77, 78, 79, 80, 81, 82, 83, 84, 85, 86, 87, 88, 89, 90, 91, 92, 93, 94, 95, 96, 97, 98, 99, 100, 101, 102, 103, 104, 105, 106, 107, 108, 109, 110, 111, 112, 113, 114, 115, 19, 116, 117, 118, 119, 147, 148, 149, 150, 151, 230, 231, 232, 233, 234, 235, 236, 237, 238, 239, 248, 249, 250, 251, 252, 253, 254, 240, 241, 242, 243, 244, 245, 246, 255, 256, 257, 258] (by decide +kernel) (by decide +kernel)
set_option maxRecDepth 20000 in
theorem gX10_digest_X10_ofPersonNow : GoodIn wsX10_digest (wsV RX10 178 RX10 yX10_ofPersonNow wsX10_ofPersonNow) := goodIn_app (goodIn_of _ (by decide +kernel)) ggX10_digest_X10_ofPersonNow
set_option maxRecDepth 20000 in
theorem ggX10_digest_X10_weights : GoodIn wsX10_digest wsX10_weights := goodIn_r _ [155, 5, 156, 6, 57, 157, 22, 23, 24, 25, 26, 27, 35, 36, 37, 38, 39, 40, 41, 42, 43, 44, 45, 46, 47, 48, 49, 50, 51, 158, 159, 160, 14, 161, 162, 163, 164, 165, 166, 167, 168, 169, 33, 34, 108, 109, 110, 111, 3, 56, 16, 170, 171, 172, 173, 19, 230, 231, 232, 233, 234, 235, 236, 237, 238, 239, 240, 241, 242, 243, 244, 245, 246, 252, 253, 254, 248, 249, 250, 251] (by decide +kernel) (by decide +kernel)
set_option maxRecDepth 20000 in
theorem gX10_digest_X10_weights : GoodIn wsX10_digest (wsV RX10 235 RX10 yX10_weights wsX10_weights) := goodIn_app (goodIn_of _ (by decide +kernel)) ggX10_digest_X10_weights
set_option maxRecDepth 20000 in
theorem ggX10_digest_Jx4a65c_iterator_32c93 : GoodIn wsX10_digest wsJx4a65c_iterator_32c93 := goodIn_r _ [61, 62, 63, 64, 65, 66, 67, 68, 69, 70, 71, 72, 73, 74, 75, 255, 256, 257, 258, 252, 253, 254] (by decide +kernel) (by decide +kernel)
set_option maxRecDepth 20000 in
theorem gX10_digest_Jx4a65c_iterator_32c93 : GoodIn wsX10_digest (wsV RX10 109 RJx4a65c yJx4a65c_iterator_32c93 wsJx4a65c_iterator_32c93) := goodIn_app (goodIn_of _ (by decide +kernel)) ggX10_digest_Jx4a65c_iterator_32c93
set_option maxRecDepth 20000 in
theorem ggX10_digest_Jx35411_hasNext_aae02 : GoodIn wsX10_digest wsJx35411_hasNext_aae02 := goodIn_r _ [79, 80, 68, 255, 256, 257, 258, 252, 253, 254] (by decide +kernel) (by decide +kernel)
set_option maxRecDepth 20000 in
theorem gX10_digest_Jx35411_hasNext_aae02_f113Jx35411 : GoodIn wsX10_digest (va_wsF RX10 113 RJx35411 ⟨"java/util/Iterator", "hasNext", "()Z"⟩ yJx35411_hasNext_aae02 wsJx35411_hasNext_aae02) := goodIn_app (goodIn_of _ (by decide +kernel)) ggX10_digest_Jx35411_hasNext_aae02
set_option maxRecDepth 20000 in
theorem ggX10_digest_Jx35411_next_0502b : GoodIn wsX10_digest wsJx35411_next_0502b := goodIn_r _ [84, 80, 68, 85, 72, 86, 87, 88, 64, 89, 73, 74, 75, 255, 256, 257, 258, 252, 253, 254] (by decide +kernel) (by decide +kernel)
set_option maxRecDepth 20000 in
theorem gX10_digest_Jx35411_next_0502b_f118Jx35411 : GoodIn wsX10_digest (va_wsF RX10 118 RJx35411 ⟨"java/util/Iterator", "next", "()Ljava/lang/Object;"⟩ yJx35411_next_0502b wsJx35411_next_0502b) := goodIn_app (goodIn_of _ (by decide +kernel)) ggX10_digest_Jx35411_next_0502b
set_option maxRecDepth 20000 in
theorem ggX10_digest_X10_ofInterviewNow : GoodIn wsX10_digest wsX10_ofInterviewNow := goodIn_r _ [176, 18, 56, 57, 177, 178, 179, 151, 95, 96, 97, 98, 99, 100, 101, 102, 103, 104, 105, 106, 107, 240, 241, 242, 243, 244, 245, 246] (by decide +kernel) (by decide +kernel)
set_option maxRecDepth 20000 in
theorem gX10_digest_X10_ofInterviewNow : GoodIn wsX10_digest (va_wsS RX10 248 yX10_ofInterviewNow wsX10_ofInterviewNow) := goodIn_app (goodIn_of _ (by decide +kernel)) ggX10_digest_X10_ofInterviewNow
set_option maxRecDepth 20000 in
theorem ggX10_digest_Jx4a65c_get_915e3 : GoodIn wsX10_digest wsJx4a65c_get_915e3 := goodIn_r _ [38, 27, 39, 40, 41, 42, 43, 44, 45, 46, 47, 48, 49, 25, 50, 51, 252, 253, 254] (by decide +kernel) (by decide +kernel)
set_option maxRecDepth 20000 in
theorem gX10_digest_Jx4a65c_get_915e3 : GoodIn wsX10_digest (wsV RX10 53 RJx4a65c yJx4a65c_get_915e3 wsJx4a65c_get_915e3) := goodIn_app (goodIn_of _ (by decide +kernel)) ggX10_digest_Jx4a65c_get_915e3
set_option maxRecDepth 20000 in
theorem ggX10_digest_X10_shareNow : GoodIn wsX10_digest wsX10_shareNow := goodIn_r _ [183, 5, 6, 8, 184, 35, 36, 37, 25, 38, 27, 39, 40, 41, 42, 43, 44, 45, 46, 47, 48, 49, 50, 51, 166, 167, 168, 14, 169, 33, 34, 108, 109, 110, 111, 3, 56, 16, 230, 231, 232, 233, 234, 235, 236, 237, 238, 239, 240, 241, 242, 243, 244, 245, 246, 252, 253, 254, 248, 249, 250, 251] (by decide +kernel) (by decide +kernel)
set_option maxRecDepth 20000 in
theorem gX10_digest_X10_shareNow : GoodIn wsX10_digest (wsV RX10 270 RX10 yX10_shareNow wsX10_shareNow) := goodIn_app (goodIn_of _ (by decide +kernel)) ggX10_digest_X10_shareNow
set_option maxRecDepth 20000 in
theorem ggX10_digest_X10_shortestNow : GoodIn wsX10_digest wsX10_shortestNow := goodIn_r _ [188, 7, 18, 9, 10, 189, 190, 191, 192, 22, 23, 24, 25, 26, 27, 35, 36, 37, 38, 39, 40, 41, 42, 43, 44, 45, 46, 47, 48, 49, 50, 51, 193, 194, 195, 14, 196, 197, 198, 199, 200, 230, 231, 232, 233, 234, 235, 236, 237, 238, 239, 247, 252, 253, 254] (by decide +kernel) (by decide +kernel)
set_option maxRecDepth 20000 in
theorem gX10_digest_X10_shortestNow : GoodIn wsX10_digest (wsV RX10 283 RX10 yX10_shortestNow wsX10_shortestNow) := goodIn_app (goodIn_of _ (by decide +kernel)) ggX10_digest_X10_shortestNow
set_option maxRecDepth 20000 in
theorem ggX10_digest_X10_nextNow : GoodIn wsX10_digest wsX10_nextNow := goodIn_r _ [204, 3, 16, 32, 205, 206, 191, 207, 22, 23, 24, 25, 26, 27, 28, 29, 30, 14, 31, 33, 34, 35, 36, 37, 38, 39, 40, 41, 42, 43, 44, 45, 46, 47, 48, 49, 50, 51, 52, 53, 54, 55, 5, 6, 56, 57, 58, 59, 60, 61, 62, 63, 64, 65, 66, 67, 68, 69, 70, 71, 72, 73, 74, 75, 76, 77, 78, 79, 80, 81, 82, 83, 84, 85, 86, 87, 88, 89, 90, 91, 92, 93, 94, 18, 95, 96, 97, 98, 99, 100, 101, 102, 103, 104, 105, 106, 107, 108, 109, 110, 111, 112, 113, 114, 115, 19, 116, 117, 118, 119, 208, 209, 210, 211, 230, 231, 232, 233, 234, 235, 236, 237, 238, 239, 248, 249, 250, 251, 252, 253, 254, 240, 241, 242, 243, 244, 245, 246, 255, 256, 257, 258] (by decide +kernel) (by decide +kernel)
set_option maxRecDepth 20000 in
theorem gX10_digest_X10_nextNow : GoodIn wsX10_digest (wsV RX10 190 RX10 yX10_nextNow wsX10_nextNow) := goodIn_app (goodIn_of _ (by decide +kernel)) ggX10_digest_X10_nextNow
set_option maxRecDepth 20000 in
theorem ggX10_digest_X10_offNow : GoodIn wsX10_digest wsX10_offNow := goodIn_r _ [215, 216, 217, 191, 218, 219, 220, 221, 152, 153, 154, 14, 155, 5, 156, 6, 57, 157, 22, 23, 24, 25, 26, 27, 35, 36, 37, 38, 39, 40, 41, 42, 43, 44, 45, 46, 47, 48, 49, 50, 51, 158, 159, 160, 161, 162, 163, 164, 165, 166, 167, 168, 169, 33, 34, 108, 109, 110, 111, 3, 56, 16, 170, 171, 172, 173, 19, 230, 231, 232, 233, 234, 235, 236, 237, 238, 239, 240, 241, 242, 243, 244, 245, 246, 252, 253, 254, 248, 249, 250, 251] (by decide +kernel) (by decide +kernel)
set_option maxRecDepth 20000 in
theorem gX10_digest_X10_offNow : GoodIn wsX10_digest (wsV RX10 267 RX10 yX10_offNow wsX10_offNow) := goodIn_app (goodIn_of _ (by decide +kernel)) ggX10_digest_X10_offNow
set_option maxRecDepth 20000 in
theorem ggX10_digest_X10_cleanedNow : GoodIn wsX10_digest wsX10_cleanedNow := goodIn_r _ [225, 226, 227, 228, 14, 229, 5, 6, 58, 59, 60, 25, 61, 62, 63, 64, 65, 66, 67, 68, 69, 70, 71, 72, 73, 74, 75, 76, 77, 78, 79, 80, 81, 82, 83, 84, 85, 86, 87, 88, 89, 95, 96, 97, 98, 99, 100, 101, 102, 103, 104, 105, 106, 107, 90, 91, 92, 93, 94, 18, 57, 33, 34, 108, 109, 110, 111, 3, 56, 16, 35, 36, 37, 38, 27, 39, 40, 41, 42, 43, 44, 45, 46, 47, 48, 49, 50, 51, 112, 113, 114, 115, 19, 116, 117, 118, 119, 230, 231, 232, 233, 234, 235, 236, 237, 238, 239, 255, 256, 257, 258, 252, 253, 254, 240, 241, 242, 243, 244, 245, 246, 248, 249, 250, 251] (by decide +kernel) (by decide +kernel)
set_option maxRecDepth 20000 in
theorem gX10_digest_X10_cleanedNow : GoodIn wsX10_digest (wsV RX10 280 RX10 yX10_cleanedNow wsX10_cleanedNow) := goodIn_app (goodIn_of _ (by decide +kernel)) ggX10_digest_X10_cleanedNow
set_option maxRecDepth 20000 in
theorem ggJxc12de_init_da8c8_Jxa1e45_init_da8c8 : GoodIn wsJxc12de_init_da8c8 wsJxa1e45_init_da8c8 := goodIn_r _ [5, 6, 7, 8] (by decide +kernel) (by decide +kernel)
set_option maxRecDepth 20000 in
theorem gJxc12de_init_da8c8_Jxa1e45_init_da8c8 : GoodIn wsJxc12de_init_da8c8 (wsJxa1e45_init_da8c8) := ggJxc12de_init_da8c8_Jxa1e45_init_da8c8
set_option maxRecDepth 20000 in
theorem ggJx35411_next_0502b_Jx35411_checkForComodification_da8c8 : GoodIn wsJx35411_next_0502b wsJx35411_checkForComodification_da8c8 := goodIn_r _ [9, 2, 10, 11, 12, 13, 14, 15, 16, 17, 18, 19] (by decide +kernel) (by decide +kernel)
set_option maxRecDepth 20000 in
theorem gJx35411_next_0502b_Jx35411_checkForComodification_da8c8 : GoodIn wsJx35411_next_0502b (wsV RJx35411 31 RJx35411 yJx35411_checkForComodification_da8c8 wsJx35411_checkForComodification_da8c8) := goodIn_app (goodIn_of _ (by decide +kernel)) ggJx35411_next_0502b_Jx35411_checkForComodification_da8c8
set_option maxRecDepth 20000 in
theorem ggJx4a65c_init_da8c8_Jxc12de_init_da8c8 : GoodIn wsJx4a65c_init_da8c8 wsJxc12de_init_da8c8 := goodIn_r _ [6, 7, 8, 9, 10, 11, 12, 13, 14, 15, 16, 17] (by decide +kernel) (by decide +kernel)
set_option maxRecDepth 20000 in
theorem gJx4a65c_init_da8c8_Jxc12de_init_da8c8 : GoodIn wsJx4a65c_init_da8c8 (wsJxc12de_init_da8c8) := ggJx4a65c_init_da8c8_Jxc12de_init_da8c8
set_option maxRecDepth 20000 in
theorem ggJx4a65c_grow_92f84_J8_newLength_cabcc : GoodIn wsJx4a65c_grow_92f84 wsJ8_newLength_cabcc := goodIn_r _ [11, 12, 4, 5, 6, 13, 14, 15, 10, 16] (by decide +kernel) (by decide +kernel)
set_option maxRecDepth 20000 in
theorem gJx4a65c_grow_92f84_J8_newLength_cabcc : GoodIn wsJx4a65c_grow_92f84 (va_wsS RJx4a65c 73 yJ8_newLength_cabcc wsJ8_newLength_cabcc) := goodIn_app (goodIn_of _ (by decide +kernel)) ggJx4a65c_grow_92f84_J8_newLength_cabcc
set_option maxRecDepth 20000 in
theorem ggJx4a65c_grow_92f84_J7_copyOf_1904c : GoodIn wsJx4a65c_grow_92f84 wsJ7_copyOf_1904c := goodIn_r _ [20, 21, 22, 23, 24, 25, 26, 19, 27, 28, 29, 30, 31, 5, 32, 33, 34, 35, 36] (by decide +kernel) (by decide +kernel)
set_option maxRecDepth 20000 in
theorem gJx4a65c_grow_92f84_J7_copyOf_1904c : GoodIn wsJx4a65c_grow_92f84 (va_wsS RJx4a65c 66 yJ7_copyOf_1904c wsJ7_copyOf_1904c) := goodIn_app (goodIn_of _ (by decide +kernel)) ggJx4a65c_grow_92f84_J7_copyOf_1904c
set_option maxRecDepth 20000 in
theorem ggJx4a65c_grow_d5877_Jx4a65c_grow_92f84 : GoodIn wsJx4a65c_grow_d5877 wsJx4a65c_grow_92f84 := goodIn_r _ [6, 7, 8, 9, 10, 11, 12, 13, 14, 15, 16, 17, 18, 19, 20, 21, 22, 23, 24, 25, 26, 27, 28, 29, 30, 31, 32, 33, 34, 35, 36, 37, 38, 39, 40, 41, 42, 43, 44, 45] (by decide +kernel) (by decide +kernel)
set_option maxRecDepth 20000 in
theorem gJx4a65c_grow_d5877_Jx4a65c_grow_92f84 : GoodIn wsJx4a65c_grow_d5877 (wsV RJx4a65c 69 RJx4a65c yJx4a65c_grow_92f84 wsJx4a65c_grow_92f84) := goodIn_app (goodIn_of _ (by decide +kernel)) ggJx4a65c_grow_d5877_Jx4a65c_grow_92f84
set_option maxRecDepth 20000 in
theorem ggJx4a65c_get_915e3_J15_checkIndex_7cf53 : GoodIn wsJx4a65c_get_915e3 wsJ15_checkIndex_7cf53 := goodIn_r _ [5, 6, 7, 8, 9] (by decide +kernel) (by decide +kernel)
set_option maxRecDepth 20000 in
theorem gJx4a65c_get_915e3_J15_checkIndex_7cf53 : GoodIn wsJx4a65c_get_915e3 (va_wsS RJx4a65c 118 yJ15_checkIndex_7cf53 wsJ15_checkIndex_7cf53) := goodIn_app (goodIn_of _ (by decide +kernel)) ggJx4a65c_get_915e3_J15_checkIndex_7cf53
set_option maxRecDepth 20000 in
theorem ggJx4a65c_get_915e3_Jx4a65c_elementData_915e3 : GoodIn wsJx4a65c_get_915e3 wsJx4a65c_elementData_915e3 := goodIn_r _ [14, 15, 16, 17, 18] (by decide +kernel) (by decide +kernel)
set_option maxRecDepth 20000 in
theorem gJx4a65c_get_915e3_Jx4a65c_elementData_915e3 : GoodIn wsJx4a65c_get_915e3 (wsV RJx4a65c 123 RJx4a65c yJx4a65c_elementData_915e3 wsJx4a65c_elementData_915e3) := goodIn_app (goodIn_of _ (by decide +kernel)) ggJx4a65c_get_915e3_Jx4a65c_elementData_915e3
set_option maxRecDepth 20000 in
theorem ggJx4a65c_add_72be8_Jx4a65c_grow_d5877 : GoodIn wsJx4a65c_add_72be8 wsJx4a65c_grow_d5877 := goodIn_r _ [6, 1, 7, 8, 9, 5, 10, 11, 12, 13, 14, 15, 16, 17, 18, 19, 20, 21, 22, 23, 24, 25, 26, 27, 28, 29, 30, 31, 32, 33, 34, 35, 36, 37, 38, 39, 40, 41, 42, 43, 44, 45, 46, 47, 48, 49] (by decide +kernel) (by decide +kernel)
set_option maxRecDepth 20000 in
theorem gJx4a65c_add_72be8_Jx4a65c_grow_d5877 : GoodIn wsJx4a65c_add_72be8 (wsV RJx4a65c 129 RJx4a65c yJx4a65c_grow_d5877 wsJx4a65c_grow_d5877) := goodIn_app (goodIn_of _ (by decide +kernel)) ggJx4a65c_add_72be8_Jx4a65c_grow_d5877
set_option maxRecDepth 20000 in
theorem ggJx4a65c_add_9ea2d_Jx4a65c_add_72be8 : GoodIn wsJx4a65c_add_9ea2d wsJx4a65c_add_72be8 := goodIn_r _ [9, 4, 10, 11, 12, 8, 13, 14, 15, 16, 17, 3, 18, 19, 20, 21, 22, 23, 24, 25, 26, 27, 28, 29, 30, 31, 32, 33, 34, 35, 36, 37, 38, 39, 40, 41, 42, 43, 44, 45, 46, 47, 48, 49, 50, 51, 52, 53, 54, 55] (by decide +kernel) (by decide +kernel)
set_option maxRecDepth 20000 in
theorem gJx4a65c_add_9ea2d_Jx4a65c_add_72be8 : GoodIn wsJx4a65c_add_9ea2d (wsV RJx4a65c 131 RJx4a65c yJx4a65c_add_72be8 wsJx4a65c_add_72be8) := goodIn_app (goodIn_of _ (by decide +kernel)) ggJx4a65c_add_9ea2d_Jx4a65c_add_72be8
set_option maxRecDepth 20000 in
theorem ggJx4a65c_iterator_32c93_Jx35411_init_45d68 : GoodIn wsJx4a65c_iterator_32c93 wsJx35411_init_45d68 := goodIn_r _ [6, 7, 8, 9, 10, 11, 12, 13, 14, 15, 16, 17, 18, 19, 20, 21] (by decide +kernel) (by decide +kernel)
set_option maxRecDepth 20000 in
theorem gJx4a65c_iterator_32c93_Jx35411_init_45d68 : GoodIn wsJx4a65c_iterator_32c93 (wsJx35411_init_45d68) := ggJx4a65c_iterator_32c93_Jx35411_init_45d68
set_option maxRecDepth 20000 in
theorem ggJ7_copyOf_1904c_J7_copyOf_6403c : GoodIn wsJ7_copyOf_1904c wsJ7_copyOf_6403c := goodIn_r _ [8, 9, 10, 11, 12, 13, 14, 15, 16, 17, 18] (by decide +kernel) (by decide +kernel)
set_option maxRecDepth 20000 in
theorem gJ7_copyOf_1904c_J7_copyOf_6403c : GoodIn wsJ7_copyOf_1904c (va_wsS RJ7 300 yJ7_copyOf_6403c wsJ7_copyOf_6403c) := goodIn_app (goodIn_of _ (by decide +kernel)) ggJ7_copyOf_1904c_J7_copyOf_6403c
set_option maxRecDepth 20000 in
theorem ggJ15_checkIndex_7cf53_J3_checkIndex_8e157 : GoodIn wsJ15_checkIndex_7cf53 wsJ3_checkIndex_8e157 := goodIn_r _ [4] (by decide +kernel) (by decide +kernel)
set_option maxRecDepth 20000 in
theorem gJ15_checkIndex_7cf53_J3_checkIndex_8e157 : GoodIn wsJ15_checkIndex_7cf53 (va_wsS RJ15 105 yJ3_checkIndex_8e157 wsJ3_checkIndex_8e157) := goodIn_app (goodIn_of _ (by decide +kernel)) ggJ15_checkIndex_7cf53_J3_checkIndex_8e157
set_option maxRecDepth 20000 in
theorem ggJ8_newLength_cabcc_J8_hugeLength_7cf53 : GoodIn wsJ8_newLength_cabcc wsJ8_hugeLength_7cf53 := goodIn_r _ [9, 5] (by decide +kernel) (by decide +kernel)
set_option maxRecDepth 20000 in
theorem gJ8_newLength_cabcc_J8_hugeLength_7cf53 : GoodIn wsJ8_newLength_cabcc (va_wsS RJ8 201 yJ8_hugeLength_7cf53 wsJ8_hugeLength_7cf53) := goodIn_app (goodIn_of _ (by decide +kernel)) ggJ8_newLength_cabcc_J8_hugeLength_7cf53
