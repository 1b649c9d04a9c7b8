set_option maxRecDepth 20000 in
theorem ggX0_init_Jx4a65c_init_da8c8 : GoodIn wsX0_init wsJx4a65c_init_da8c8 := goodIn_r _ [11, 12, 13, 14, 15, 16, 17, 18, 19, 20, 21, 22, 23, 2, 3, 24, 25, 26] (by decide +kernel) (by decide +kernel)
set_option maxRecDepth 20000 in
theorem gX0_init_Jx4a65c_init_da8c8 : GoodIn wsX0_init (wsJx4a65c_init_da8c8) := ggX0_init_Jx4a65c_init_da8c8
set_option maxRecDepth 20000 in
theorem ggX0_isFull_Jx4a65c_size_8abf5 : GoodIn wsX0_isFull wsJx4a65c_size_8abf5 := goodIn_r _ [6, 7, 13, 14, 15] (by decide +kernel) (by decide +kernel)
set_option maxRecDepth 20000 in
theorem gX0_isFull_Jx4a65c_size_8abf5 : GoodIn wsX0_isFull (wsV RX0 21 RJx4a65c yJx4a65c_size_8abf5 wsJx4a65c_size_8abf5) := goodIn_app (goodIn_of _ (by decide +kernel)) ggX0_isFull_Jx4a65c_size_8abf5
set_option maxRecDepth 20000 in
theorem ggX0_append_Jx4a65c_add_9ea2d : GoodIn wsX0_append wsJx4a65c_add_9ea2d := goodIn_r _ [6, 7, 8, 9, 10, 11, 12, 13, 5, 14, 15, 16, 17, 18, 19, 20, 21, 22, 23, 24, 25, 26, 27, 28, 29, 30, 31, 32, 33, 34, 35, 36, 37, 38, 39, 40, 41, 42, 43, 44, 45, 46, 47, 48, 49, 50, 51, 52, 53, 54, 55, 56, 57, 67, 68, 69] (by decide +kernel) (by decide +kernel)
set_option maxRecDepth 20000 in
theorem gX0_append_Jx4a65c_add_9ea2d : GoodIn wsX0_append (wsV RX0 25 RJx4a65c yJx4a65c_add_9ea2d wsJx4a65c_add_9ea2d) := goodIn_app (goodIn_of _ (by decide +kernel)) ggX0_append_Jx4a65c_add_9ea2d
set_option maxRecDepth 20000 in
theorem ggX0_append_Jx4a65c_size_8abf5 : GoodIn wsX0_append wsJx4a65c_size_8abf5 := goodIn_r _ [61, 10, 67, 68, 69] (by decide +kernel) (by decide +kernel)
set_option maxRecDepth 20000 in
theorem gX0_append_Jx4a65c_size_8abf5 : GoodIn wsX0_append (wsV RX0 21 RJx4a65c yJx4a65c_size_8abf5 wsJx4a65c_size_8abf5) := goodIn_app (goodIn_of _ (by decide +kernel)) ggX0_append_Jx4a65c_size_8abf5
set_option maxRecDepth 20000 in
theorem ggX0_drop_Jx4a65c_size_8abf5 : GoodIn wsX0_drop wsJx4a65c_size_8abf5 := goodIn_r _ [6, 7, 36, 37, 38] (by decide +kernel) (by decide +kernel)
set_option maxRecDepth 20000 in
theorem gX0_drop_Jx4a65c_size_8abf5 : GoodIn wsX0_drop (wsV RX0 21 RJx4a65c yJx4a65c_size_8abf5 wsJx4a65c_size_8abf5) := goodIn_app (goodIn_of _ (by decide +kernel)) ggX0_drop_Jx4a65c_size_8abf5
set_option maxRecDepth 20000 in
theorem ggX0_drop_Jx4a65c_remove_915e3 : GoodIn wsX0_drop wsJx4a65c_remove_915e3 := goodIn_r _ [11, 7, 12, 13, 14, 15, 16, 17, 18, 19, 20, 21, 22, 23, 5, 24, 25, 26, 27, 28, 29, 30, 36, 37, 38] (by decide +kernel) (by decide +kernel)
set_option maxRecDepth 20000 in
theorem gX0_drop_Jx4a65c_remove_915e3 : GoodIn wsX0_drop (wsV RX0 29 RJx4a65c yJx4a65c_remove_915e3 wsJx4a65c_remove_915e3) := goodIn_app (goodIn_of _ (by decide +kernel)) ggX0_drop_Jx4a65c_remove_915e3
set_option maxRecDepth 20000 in
theorem ggX0_hiderOf_Jx4a65c_size_8abf5 : GoodIn wsX0_hiderOf wsJx4a65c_size_8abf5 := goodIn_r _ [7, 8, 45, 46, 47] (by decide +kernel) (by decide +kernel)
set_option maxRecDepth 20000 in
theorem gX0_hiderOf_Jx4a65c_size_8abf5 : GoodIn wsX0_hiderOf (wsV RX0 21 RJx4a65c yJx4a65c_size_8abf5 wsJx4a65c_size_8abf5) := goodIn_app (goodIn_of _ (by decide +kernel)) ggX0_hiderOf_Jx4a65c_size_8abf5
set_option maxRecDepth 20000 in
theorem ggX0_hiderOf_Jx4a65c_get_915e3 : GoodIn wsX0_hiderOf wsJx4a65c_get_915e3 := goodIn_r _ [12, 8, 13, 14, 15, 16, 17, 18, 19, 20, 21, 22, 23, 6, 24, 25, 45, 46, 47] (by decide +kernel) (by decide +kernel)
set_option maxRecDepth 20000 in
theorem gX0_hiderOf_Jx4a65c_get_915e3 : GoodIn wsX0_hiderOf (wsV RX0 33 RJx4a65c yJx4a65c_get_915e3 wsJx4a65c_get_915e3) := goodIn_app (goodIn_of _ (by decide +kernel)) ggX0_hiderOf_Jx4a65c_get_915e3
set_option maxRecDepth 20000 in
theorem ggX0_hiderOf_X3_canNeverMatch : GoodIn wsX0_hiderOf wsX3_canNeverMatch := goodIn_r _ [30, 31, 32, 33, 48, 49, 50, 51, 52] (by decide +kernel) (by decide +kernel)
set_option maxRecDepth 20000 in
theorem gX0_hiderOf_X3_canNeverMatch : GoodIn wsX0_hiderOf (wsV RX0 38 RX3 yX3_canNeverMatch wsX3_canNeverMatch) := goodIn_app (goodIn_of _ (by decide +kernel)) ggX0_hiderOf_X3_canNeverMatch
set_option maxRecDepth 20000 in
theorem ggX0_hiderOf_X3_covers : GoodIn wsX0_hiderOf wsX3_covers := goodIn_r _ [37, 38, 32, 31, 39, 33, 48, 49, 50, 51, 52] (by decide +kernel) (by decide +kernel)
set_option maxRecDepth 20000 in
theorem gX0_hiderOf_X3_covers : GoodIn wsX0_hiderOf (wsV RX0 42 RX3 yX3_covers wsX3_covers) := goodIn_app (goodIn_of _ (by decide +kernel)) ggX0_hiderOf_X3_covers
set_option maxRecDepth 20000 in
theorem ggX0_planTree_X0_gatherReached : GoodIn wsX0_planTree wsX0_gatherReached := goodIn_r _ [7, 8, 9, 10, 11, 12, 13, 14, 15, 16, 17, 18, 19, 20, 21, 22, 23, 24, 25, 26, 6, 27, 28, 29, 30, 31, 32, 33, 34, 35, 36, 37, 38, 39, 40, 41, 42, 43, 44, 45, 46, 47, 48, 49, 50, 51, 52, 53, 54, 55, 56, 57, 58, 59, 60, 61, 62, 63, 64, 65, 66, 67, 68, 69, 70, 71, 72, 73, 74, 75, 76, 77, 78, 79, 80, 81, 82, 83, 84, 85, 86, 87, 88, 89, 90, 91, 92, 93, 94, 95, 96, 97, 98, 99, 100, 101, 102, 103, 104, 105, 106, 107, 108, 167, 168, 169, 170, 171, 172, 173, 174, 175, 176, 177, 178, 179] (by decide +kernel) (by decide +kernel)
set_option maxRecDepth 20000 in
theorem gX0_planTree_X0_gatherReached : GoodIn wsX0_planTree (wsV RX0 46 RX0 yX0_gatherReached wsX0_gatherReached) := goodIn_app (goodIn_of _ (by decide +kernel)) ggX0_planTree_X0_gatherReached
set_option maxRecDepth 20000 in
theorem ggX0_planTree_X2_startAnew : GoodIn wsX0_planTree wsX2_startAnew := goodIn_r _ [113, 114, 180, 181, 182, 183, 184] (by decide +kernel) (by decide +kernel)
set_option maxRecDepth 20000 in
theorem gX0_planTree_X2_startAnew : GoodIn wsX0_planTree (wsV RX0 49 RX2 yX2_startAnew wsX2_startAnew) := goodIn_app (goodIn_of _ (by decide +kernel)) ggX0_planTree_X2_startAnew
set_option maxRecDepth 20000 in
theorem ggX0_planTree_X0_isReached : GoodIn wsX0_planTree wsX0_isReached := goodIn_r _ [118, 8, 10, 20, 21, 22, 14, 23, 19, 28, 29, 30, 31, 32, 33, 34, 35, 36, 37, 38, 39, 40, 41, 42, 43, 18, 167, 168, 169, 170, 171, 175, 176, 177, 178, 179, 172, 173, 174] (by decide +kernel) (by decide +kernel)
set_option maxRecDepth 20000 in
theorem gX0_planTree_X0_isReached : GoodIn wsX0_planTree (wsV RX0 54 RX0 yX0_isReached wsX0_isReached) := goodIn_app (goodIn_of _ (by decide +kernel)) ggX0_planTree_X0_isReached
set_option maxRecDepth 20000 in
theorem ggX0_planTree_X2_take : GoodIn wsX0_planTree wsX2_take := goodIn_r _ [122, 114, 123, 124, 180, 181, 182, 183, 184] (by decide +kernel) (by decide +kernel)
set_option maxRecDepth 20000 in
theorem gX0_planTree_X2_take : GoodIn wsX0_planTree (wsV RX0 58 RX2 yX2_take wsX2_take) := goodIn_app (goodIn_of _ (by decide +kernel)) ggX0_planTree_X2_take
set_option maxRecDepth 20000 in
theorem ggX0_planTree_X2_weighAllTrees : GoodIn wsX0_planTree wsX2_weighAllTrees := goodIn_r _ [128, 114, 129, 130, 131, 112, 132, 133, 134, 135, 136, 137, 138, 139, 140, 141, 142, 124, 180, 181, 182, 183, 184] (by decide +kernel) (by decide +kernel)
set_option maxRecDepth 20000 in
theorem gX0_planTree_X2_weighAllTrees : GoodIn wsX0_planTree (wsV RX0 62 RX2 yX2_weighAllTrees wsX2_weighAllTrees) := goodIn_app (goodIn_of _ (by decide +kernel)) ggX0_planTree_X2_weighAllTrees
set_option maxRecDepth 20000 in
theorem ggX0_planTree_X2_bestTree : GoodIn wsX0_planTree wsX2_bestTree := goodIn_r _ [146, 114, 147, 148, 112, 149, 133, 150, 151, 152, 123, 153, 154, 155, 156, 157, 158, 159, 160, 161, 162, 180, 181, 182, 183, 184, 185, 186, 187, 188] (by decide +kernel) (by decide +kernel)
set_option maxRecDepth 20000 in
theorem gX0_planTree_X2_bestTree : GoodIn wsX0_planTree (wsV RX0 65 RX2 yX2_bestTree wsX2_bestTree) := goodIn_app (goodIn_of _ (by decide +kernel)) ggX0_planTree_X2_bestTree
set_option maxRecDepth 20000 in
theorem ggX0_planTree_X2_leastCost : GoodIn wsX0_planTree wsX2_leastCost := goodIn_r _ [166, 134, 114, 180, 181, 182, 183, 184] (by decide +kernel) (by decide +kernel)
set_option maxRecDepth 20000 in
theorem gX0_planTree_X2_leastCost : GoodIn wsX0_planTree (wsV RX0 73 RX2 yX2_leastCost wsX2_leastCost) := goodIn_app (goodIn_of _ (by decide +kernel)) ggX0_planTree_X2_leastCost
set_option maxRecDepth 20000 in
theorem ggX0_gatherReached_Jx4a65c_clear_da8c8 : GoodIn wsX0_gatherReached wsJx4a65c_clear_da8c8 := goodIn_r _ [8, 9, 10, 11, 12, 108, 109, 110] (by decide +kernel) (by decide +kernel)
set_option maxRecDepth 20000 in
theorem gX0_gatherReached_Jx4a65c_clear_da8c8 : GoodIn wsX0_gatherReached (wsV RX0 80 RJx4a65c yJx4a65c_clear_da8c8 wsJx4a65c_clear_da8c8) := goodIn_app (goodIn_of _ (by decide +kernel)) ggX0_gatherReached_Jx4a65c_clear_da8c8
set_option maxRecDepth 20000 in
theorem ggX0_gatherReached_Jx4a65c_size_8abf5 : GoodIn wsX0_gatherReached wsJx4a65c_size_8abf5 := goodIn_r _ [16, 12, 108, 109, 110] (by decide +kernel) (by decide +kernel)
set_option maxRecDepth 20000 in
theorem gX0_gatherReached_Jx4a65c_size_8abf5 : GoodIn wsX0_gatherReached (wsV RX0 21 RJx4a65c yJx4a65c_size_8abf5 wsJx4a65c_size_8abf5) := goodIn_app (goodIn_of _ (by decide +kernel)) ggX0_gatherReached_Jx4a65c_size_8abf5
set_option maxRecDepth 20000 in
theorem ggX0_gatherReached_X0_hiderOf : GoodIn wsX0_gatherReached wsX0_hiderOf := goodIn_r _ [21, 2, 3, 13, 14, 15, 7, 16, 12, 22, 23, 24, 25, 26, 27, 28, 29, 30, 31, 32, 33, 34, 35, 36, 37, 11, 38, 39, 40, 41, 42, 43, 44, 45, 46, 47, 48, 49, 50, 51, 103, 104, 105, 106, 107, 108, 109, 110, 111, 112, 113, 114, 115] (by decide +kernel) (by decide +kernel)
set_option maxRecDepth 20000 in
theorem gX0_gatherReached_X0_hiderOf : GoodIn wsX0_gatherReached (wsV RX0 83 RX0 yX0_hiderOf wsX0_hiderOf) := goodIn_app (goodIn_of _ (by decide +kernel)) ggX0_gatherReached_X0_hiderOf
set_option maxRecDepth 20000 in
theorem ggX0_gatherReached_Jx4a65c_get_915e3 : GoodIn wsX0_gatherReached wsJx4a65c_get_915e3 := goodIn_r _ [25, 12, 26, 27, 28, 29, 30, 31, 32, 33, 34, 35, 36, 7, 37, 11, 108, 109, 110] (by decide +kernel) (by decide +kernel)
set_option maxRecDepth 20000 in
theorem gX0_gatherReached_Jx4a65c_get_915e3 : GoodIn wsX0_gatherReached (wsV RX0 33 RJx4a65c yJx4a65c_get_915e3 wsJx4a65c_get_915e3) := goodIn_app (goodIn_of _ (by decide +kernel)) ggX0_gatherReached_Jx4a65c_get_915e3
set_option maxRecDepth 20000 in
theorem ggX0_gatherReached_Jx4a65c_add_9ea2d : GoodIn wsX0_gatherReached wsJx4a65c_add_9ea2d := goodIn_r _ [55, 9, 10, 11, 12, 56, 57, 58, 7, 59, 60, 61, 62, 63, 64, 65, 66, 67, 68, 69, 70, 71, 72, 73, 74, 75, 76, 77, 78, 79, 80, 81, 82, 83, 84, 85, 86, 87, 88, 89, 90, 91, 92, 93, 94, 95, 96, 97, 98, 99, 100, 101, 102, 108, 109, 110] (by decide +kernel) (by decide +kernel)
set_option maxRecDepth 20000 in
theorem gX0_gatherReached_Jx4a65c_add_9ea2d : GoodIn wsX0_gatherReached (wsV RX0 25 RJx4a65c yJx4a65c_add_9ea2d wsJx4a65c_add_9ea2d) := goodIn_app (goodIn_of _ (by decide +kernel)) ggX0_gatherReached_Jx4a65c_add_9ea2d
set_option maxRecDepth 20000 in
theorem ggX0_isReached_Jx4a65c_size_8abf5 : GoodIn wsX0_isReached wsJx4a65c_size_8abf5 := goodIn_r _ [7, 8, 36, 37, 38] (by decide +kernel) (by decide +kernel)
set_option maxRecDepth 20000 in
theorem gX0_isReached_Jx4a65c_size_8abf5 : GoodIn wsX0_isReached (wsV RX0 21 RJx4a65c yJx4a65c_size_8abf5 wsJx4a65c_size_8abf5) := goodIn_app (goodIn_of _ (by decide +kernel)) ggX0_isReached_Jx4a65c_size_8abf5
set_option maxRecDepth 20000 in
theorem ggX0_isReached_Jx4a65c_get_915e3 : GoodIn wsX0_isReached wsJx4a65c_get_915e3 := goodIn_r _ [12, 8, 13, 14, 15, 16, 17, 18, 19, 20, 21, 22, 23, 6, 24, 25, 36, 37, 38] (by decide +kernel) (by decide +kernel)
set_option maxRecDepth 20000 in
theorem gX0_isReached_Jx4a65c_get_915e3 : GoodIn wsX0_isReached (wsV RX0 33 RJx4a65c yJx4a65c_get_915e3 wsJx4a65c_get_915e3) := goodIn_app (goodIn_of _ (by decide +kernel)) ggX0_isReached_Jx4a65c_get_915e3
set_option maxRecDepth 20000 in
theorem ggX0_worstPath_X0_numberTests : GoodIn wsX0_worstPath wsX0_numberTests := goodIn_r _ [9, 10, 11, 12, 8, 13, 14, 15, 16, 17, 18, 19, 20, 21, 22, 68, 69, 70, 71, 72, 73, 74, 75, 76] (by decide +kernel) (by decide +kernel)
set_option maxRecDepth 20000 in
theorem gX0_worstPath_X0_numberTests : GoodIn wsX0_worstPath (wsV RX0 99 RX0 yX0_numberTests wsX0_numberTests) := goodIn_app (goodIn_of _ (by decide +kernel)) ggX0_worstPath_X0_numberTests
set_option maxRecDepth 20000 in
theorem ggX0_worstPath_X0_mostRuleTests : GoodIn wsX0_worstPath wsX0_mostRuleTests := goodIn_r _ [26, 27, 28, 29, 30, 31, 32, 33, 34, 35, 36, 37, 38, 39, 40, 41, 42, 43, 44, 45, 46, 47, 48, 49, 50, 51, 52, 53, 54, 55, 56, 57, 58, 59, 60, 61, 62, 63, 64, 65, 66, 67, 72, 73, 74, 75, 76, 77, 78, 79, 80, 81, 82, 83, 84] (by decide +kernel) (by decide +kernel)
set_option maxRecDepth 20000 in
theorem gX0_worstPath_X0_mostRuleTests : GoodIn wsX0_worstPath (wsV RX0 102 RX0 yX0_mostRuleTests wsX0_mostRuleTests) := goodIn_app (goodIn_of _ (by decide +kernel)) ggX0_worstPath_X0_mostRuleTests
set_option maxRecDepth 20000 in
theorem ggX0_pathOf_X0_numberTests : GoodIn wsX0_pathOf wsX0_numberTests := goodIn_r _ [7, 8, 9, 10, 6, 11, 12, 13, 14, 15, 16, 17, 18, 19, 20, 84, 85, 86, 87, 74, 75, 76, 77, 78] (by decide +kernel) (by decide +kernel)
set_option maxRecDepth 20000 in
theorem gX0_pathOf_X0_numberTests : GoodIn wsX0_pathOf (wsV RX0 99 RX0 yX0_numberTests wsX0_numberTests) := goodIn_app (goodIn_of _ (by decide +kernel)) ggX0_pathOf_X0_numberTests
set_option maxRecDepth 20000 in
theorem ggX0_pathOf_Jx4a65c_size_8abf5 : GoodIn wsX0_pathOf wsJx4a65c_size_8abf5 := goodIn_r _ [25, 26, 88, 89, 90] (by decide +kernel) (by decide +kernel)
set_option maxRecDepth 20000 in
theorem gX0_pathOf_Jx4a65c_size_8abf5 : GoodIn wsX0_pathOf (wsV RX0 21 RJx4a65c yJx4a65c_size_8abf5 wsJx4a65c_size_8abf5) := goodIn_app (goodIn_of _ (by decide +kernel)) ggX0_pathOf_Jx4a65c_size_8abf5
set_option maxRecDepth 20000 in
theorem ggX0_pathOf_Jx4a65c_get_915e3 : GoodIn wsX0_pathOf wsJx4a65c_get_915e3 := goodIn_r _ [30, 26, 31, 32, 33, 34, 35, 36, 37, 38, 39, 40, 41, 24, 42, 43, 88, 89, 90] (by decide +kernel) (by decide +kernel)
set_option maxRecDepth 20000 in
theorem gX0_pathOf_Jx4a65c_get_915e3 : GoodIn wsX0_pathOf (wsV RX0 33 RJx4a65c yJx4a65c_get_915e3 wsJx4a65c_get_915e3) := goodIn_app (goodIn_of _ (by decide +kernel)) ggX0_pathOf_Jx4a65c_get_915e3
set_option maxRecDepth 20000 in
theorem ggX0_pathOf_X3_testsFor : GoodIn wsX0_pathOf wsX3_testsFor := goodIn_r _ [48, 49, 50, 51, 52, 53, 54, 47, 55, 56, 57, 58, 59, 60, 61, 62, 63, 64, 65, 66, 67, 68, 69, 79, 80, 81, 82, 83] (by decide +kernel) (by decide +kernel)
set_option maxRecDepth 20000 in
theorem gX0_pathOf_X3_testsFor : GoodIn wsX0_pathOf (wsV RX0 111 RX3 yX3_testsFor wsX3_testsFor) := goodIn_app (goodIn_of _ (by decide +kernel)) ggX0_pathOf_X3_testsFor
