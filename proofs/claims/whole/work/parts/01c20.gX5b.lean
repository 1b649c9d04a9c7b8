set_option maxRecDepth 20000 in
theorem ggX5_worstOf_X5_lay : GoodIn wsX5_worstOf wsX5_lay := goodIn_r _ [5, 6, 7, 8, 9, 10, 4, 11, 12, 13, 14, 15, 16, 17, 18, 19, 20, 21, 22, 23, 24, 25, 26, 27, 28, 29, 30, 31, 32, 33, 34, 35, 36, 49, 50, 51, 52, 53, 54, 55, 56, 57, 58, 59, 60, 61, 62] (by decide +kernel) (by decide +kernel)
set_option maxRecDepth 20000 in
theorem gX5_worstOf_X5_lay : GoodIn wsX5_worstOf (wsV RX5 98 RX5 yX5_lay wsX5_lay) := goodIn_app (goodIn_of _ (by decide +kernel)) ggX5_worstOf_X5_lay
set_option maxRecDepth 20000 in
theorem ggX5_worstOf_X5_testsOf : GoodIn wsX5_worstOf wsX5_testsOf := goodIn_r _ [40, 6, 31, 7, 49, 50, 51, 52, 53, 54, 55, 56, 57, 58, 59, 60, 61, 62] (by decide +kernel) (by decide +kernel)
set_option maxRecDepth 20000 in
theorem gX5_worstOf_X5_testsOf : GoodIn wsX5_worstOf (wsV RX5 102 RX5 yX5_testsOf wsX5_testsOf) := goodIn_app (goodIn_of _ (by decide +kernel)) ggX5_worstOf_X5_testsOf
set_option maxRecDepth 20000 in
theorem ggX5_worstOf_X5_halves : GoodIn wsX5_worstOf wsX5_halves := goodIn_r _ [44, 12, 13, 19, 14, 15, 16, 4, 17, 18, 20, 21, 22, 23, 24, 25, 45, 46, 47, 48, 49, 50, 51, 52, 53, 54, 55, 56, 57, 58, 59, 60, 61, 62] (by decide +kernel) (by decide +kernel)
set_option maxRecDepth 20000 in
theorem gX5_worstOf_X5_halves : GoodIn wsX5_worstOf (wsV RX5 106 RX5 yX5_halves wsX5_halves) := goodIn_app (goodIn_of _ (by decide +kernel)) ggX5_worstOf_X5_halves
set_option maxRecDepth 20000 in
theorem ggX5_compile_X5_in : GoodIn wsX5_compile wsX5_in := goodIn_r _ [5] (by decide +kernel) (by decide +kernel)
set_option maxRecDepth 20000 in
theorem gX5_compile_X5_in : GoodIn wsX5_compile (va_wsS RX5 48 yX5_in wsX5_in) := goodIn_app (goodIn_of _ (by decide +kernel)) ggX5_compile_X5_in
set_option maxRecDepth 20000 in
theorem ggX5_compile_X5_goesWell : GoodIn wsX5_compile wsX5_goesWell := goodIn_r _ [9, 10, 62, 63, 64, 65, 66, 67, 68, 69, 70, 71, 72, 73, 74, 75] (by decide +kernel) (by decide +kernel)
set_option maxRecDepth 20000 in
theorem gX5_compile_X5_goesWell : GoodIn wsX5_compile (wsV RX5 59 RX5 yX5_goesWell wsX5_goesWell) := goodIn_app (goodIn_of _ (by decide +kernel)) ggX5_compile_X5_goesWell
set_option maxRecDepth 20000 in
theorem ggX5_compile_X5_worstOf : GoodIn wsX5_compile wsX5_worstOf := goodIn_r _ [14, 15, 16, 17, 4, 18, 19, 20, 21, 22, 23, 24, 25, 26, 27, 28, 29, 30, 31, 32, 33, 34, 35, 36, 37, 38, 39, 40, 41, 42, 43, 44, 45, 46, 47, 48, 49, 50, 51, 52, 53, 54, 55, 56, 57, 58, 59, 60, 61, 62, 63, 64, 65, 66, 67, 68, 69, 70, 71, 72, 73, 74, 75] (by decide +kernel) (by decide +kernel)
set_option maxRecDepth 20000 in
theorem gX5_compile_X5_worstOf : GoodIn wsX5_compile (wsV RX5 109 RX5 yX5_worstOf wsX5_worstOf) := goodIn_app (goodIn_of _ (by decide +kernel)) ggX5_compile_X5_worstOf
set_option maxRecDepth 20000 in
theorem ggX5_test_X5_isFilter : GoodIn wsX5_test wsX5_isFilter := goodIn_r _ [8, 9, 10, 7, 11] (by decide +kernel) (by decide +kernel)
set_option maxRecDepth 20000 in
theorem gX5_test_X5_isFilter : GoodIn wsX5_test (va_wsS RX5 52 yX5_isFilter wsX5_isFilter) := goodIn_app (goodIn_of _ (by decide +kernel)) ggX5_test_X5_isFilter
set_option maxRecDepth 20000 in
theorem ggX5_test_X5_goesWell : GoodIn wsX5_test wsX5_goesWell := goodIn_r _ [15, 16, 49, 50, 51, 52, 53, 54, 55, 56, 57, 58, 59, 60, 61, 62] (by decide +kernel) (by decide +kernel)
set_option maxRecDepth 20000 in
theorem gX5_test_X5_goesWell : GoodIn wsX5_test (wsV RX5 59 RX5 yX5_goesWell wsX5_goesWell) := goodIn_app (goodIn_of _ (by decide +kernel)) ggX5_test_X5_goesWell
set_option maxRecDepth 20000 in
theorem ggX5_test_X5_lay : GoodIn wsX5_test wsX5_lay := goodIn_r _ [20, 2, 4, 21, 22, 23, 7, 24, 25, 26, 27, 28, 29, 30, 31, 32, 33, 34, 35, 36, 37, 38, 39, 40, 41, 42, 43, 3, 44, 45, 46, 47, 48, 49, 50, 51, 52, 53, 54, 55, 56, 57, 58, 59, 60, 61, 62] (by decide +kernel) (by decide +kernel)
set_option maxRecDepth 20000 in
theorem gX5_test_X5_lay : GoodIn wsX5_test (wsV RX5 98 RX5 yX5_lay wsX5_lay) := goodIn_app (goodIn_of _ (by decide +kernel)) ggX5_test_X5_lay
set_option maxRecDepth 20000 in
theorem ggX5_cost_X5_isFilter : GoodIn wsX5_cost wsX5_isFilter := goodIn_r _ [6, 7, 8, 5, 9] (by decide +kernel) (by decide +kernel)
set_option maxRecDepth 20000 in
theorem gX5_cost_X5_isFilter : GoodIn wsX5_cost (va_wsS RX5 52 yX5_isFilter wsX5_isFilter) := goodIn_app (goodIn_of _ (by decide +kernel)) ggX5_cost_X5_isFilter
set_option maxRecDepth 20000 in
theorem ggX5_cost_X5_goesWell : GoodIn wsX5_cost wsX5_goesWell := goodIn_r _ [13, 14, 49, 50, 51, 52, 53, 54, 55, 56, 57, 58, 59, 60, 61, 62] (by decide +kernel) (by decide +kernel)
set_option maxRecDepth 20000 in
theorem gX5_cost_X5_goesWell : GoodIn wsX5_cost (wsV RX5 59 RX5 yX5_goesWell wsX5_goesWell) := goodIn_app (goodIn_of _ (by decide +kernel)) ggX5_cost_X5_goesWell
set_option maxRecDepth 20000 in
theorem ggX5_cost_X5_lay : GoodIn wsX5_cost wsX5_lay := goodIn_r _ [18, 2, 19, 20, 21, 22, 5, 23, 24, 25, 26, 27, 28, 29, 30, 31, 32, 33, 34, 35, 36, 37, 38, 39, 40, 41, 42, 43, 44, 45, 46, 47, 48, 49, 50, 51, 52, 53, 54, 55, 56, 57, 58, 59, 60, 61, 62] (by decide +kernel) (by decide +kernel)
set_option maxRecDepth 20000 in
theorem gX5_cost_X5_lay : GoodIn wsX5_cost (wsV RX5 98 RX5 yX5_lay wsX5_lay) := goodIn_app (goodIn_of _ (by decide +kernel)) ggX5_cost_X5_lay
set_option maxRecDepth 20000 in
theorem ggX5_cost_X5_costOf : GoodIn wsX5_cost wsX5_costOf := goodIn_r _ [48, 44, 49, 50, 51, 52, 53, 54, 55, 56, 57, 58, 59, 60, 61, 62] (by decide +kernel) (by decide +kernel)
set_option maxRecDepth 20000 in
theorem gX5_cost_X5_costOf : GoodIn wsX5_cost (wsV RX5 89 RX5 yX5_costOf wsX5_costOf) := goodIn_app (goodIn_of _ (by decide +kernel)) ggX5_cost_X5_costOf
set_option maxRecDepth 20000 in
theorem ggX5_worst_X5_isFilter : GoodIn wsX5_worst wsX5_isFilter := goodIn_r _ [5, 6, 7, 4, 8] (by decide +kernel) (by decide +kernel)
set_option maxRecDepth 20000 in
theorem gX5_worst_X5_isFilter : GoodIn wsX5_worst (va_wsS RX5 52 yX5_isFilter wsX5_isFilter) := goodIn_app (goodIn_of _ (by decide +kernel)) ggX5_worst_X5_isFilter
set_option maxRecDepth 20000 in
theorem ggX5_worst_X5_goesWell : GoodIn wsX5_worst wsX5_goesWell := goodIn_r _ [12, 13, 65, 66, 67, 68, 69, 70, 71, 72, 73, 74, 75, 76, 77, 78] (by decide +kernel) (by decide +kernel)
set_option maxRecDepth 20000 in
theorem gX5_worst_X5_goesWell : GoodIn wsX5_worst (wsV RX5 59 RX5 yX5_goesWell wsX5_goesWell) := goodIn_app (goodIn_of _ (by decide +kernel)) ggX5_worst_X5_goesWell
set_option maxRecDepth 20000 in
theorem ggX5_worst_X5_worstOf : GoodIn wsX5_worst wsX5_worstOf := goodIn_r _ [17, 18, 19, 20, 4, 21, 22, 23, 24, 25, 26, 27, 28, 29, 30, 31, 32, 33, 34, 35, 36, 37, 38, 39, 40, 41, 42, 43, 44, 45, 46, 47, 48, 49, 50, 51, 52, 53, 54, 55, 56, 57, 58, 59, 60, 61, 62, 63, 64, 65, 66, 67, 68, 69, 70, 71, 72, 73, 74, 75, 76, 77, 78] (by decide +kernel) (by decide +kernel)
set_option maxRecDepth 20000 in
theorem gX5_worst_X5_worstOf : GoodIn wsX5_worst (wsV RX5 109 RX5 yX5_worstOf wsX5_worstOf) := goodIn_app (goodIn_of _ (by decide +kernel)) ggX5_worst_X5_worstOf
set_option maxRecDepth 20000 in
theorem ggX5_judgeBy_X5_matches : GoodIn wsX5_judgeBy wsX5_matches := goodIn_r _ [8, 9, 10, 11, 12, 13, 14, 15, 16, 17, 18, 19, 20, 21, 22, 23, 24, 25, 26] (by decide +kernel) (by decide +kernel)
set_option maxRecDepth 20000 in
theorem gX5_judgeBy_X5_matches : GoodIn wsX5_judgeBy (wsV RX5 112 RX5 yX5_matches wsX5_matches) := goodIn_app (goodIn_of _ (by decide +kernel)) ggX5_judgeBy_X5_matches
set_option maxRecDepth 20000 in
theorem ggX5_strictest_X5_judgeBy : GoodIn wsX5_strictest wsX5_judgeBy := goodIn_r _ [5, 6, 7, 8, 9, 10, 11, 4, 12, 13, 14, 15, 16, 17, 18, 19, 20, 21, 22, 23, 24, 25, 26, 27, 28, 29, 30] (by decide +kernel) (by decide +kernel)
set_option maxRecDepth 20000 in
theorem gX5_strictest_X5_judgeBy : GoodIn wsX5_strictest (wsV RX5 116 RX5 yX5_judgeBy wsX5_judgeBy) := goodIn_app (goodIn_of _ (by decide +kernel)) ggX5_strictest_X5_judgeBy
set_option maxRecDepth 20000 in
theorem ggX5_judge_X5_isNumber : GoodIn wsX5_judge wsX5_isNumber := goodIn_r _ [5, 6, 7, 4, 8] (by decide +kernel) (by decide +kernel)
set_option maxRecDepth 20000 in
theorem gX5_judge_X5_isNumber : GoodIn wsX5_judge (va_wsS RX5 56 yX5_isNumber wsX5_isNumber) := goodIn_app (goodIn_of _ (by decide +kernel)) ggX5_judge_X5_isNumber
set_option maxRecDepth 20000 in
theorem ggX5_judge_X5_goesWell : GoodIn wsX5_judge wsX5_goesWell := goodIn_r _ [12, 13, 33, 34, 35, 36, 37, 38, 39, 40, 41, 42, 43, 44, 45, 46] (by decide +kernel) (by decide +kernel)
set_option maxRecDepth 20000 in
theorem gX5_judge_X5_goesWell : GoodIn wsX5_judge (wsV RX5 59 RX5 yX5_goesWell wsX5_goesWell) := goodIn_app (goodIn_of _ (by decide +kernel)) ggX5_judge_X5_goesWell
set_option maxRecDepth 20000 in
theorem ggX5_judge_X5_strictest : GoodIn wsX5_judge wsX5_strictest := goodIn_r _ [17, 18, 19, 20, 4, 21, 22, 23, 24, 25, 26, 27, 28, 29, 30, 31, 32, 33, 34, 35, 36, 37, 38, 39, 40, 41, 42, 43, 44, 45, 46] (by decide +kernel) (by decide +kernel)
set_option maxRecDepth 20000 in
theorem gX5_judge_X5_strictest : GoodIn wsX5_judge (wsV RX5 120 RX5 yX5_strictest wsX5_strictest) := goodIn_app (goodIn_of _ (by decide +kernel)) ggX5_judge_X5_strictest
set_option maxRecDepth 20000 in
theorem ggX5_judgeByRules_X5_isNumber : GoodIn wsX5_judgeByRules wsX5_isNumber := goodIn_r _ [4, 5, 6, 3, 7] (by decide +kernel) (by decide +kernel)
set_option maxRecDepth 20000 in
theorem gX5_judgeByRules_X5_isNumber : GoodIn wsX5_judgeByRules (va_wsS RX5 56 yX5_isNumber wsX5_isNumber) := goodIn_app (goodIn_of _ (by decide +kernel)) ggX5_judgeByRules_X5_isNumber
set_option maxRecDepth 20000 in
theorem ggX5_judgeByRules_X5_goesWell : GoodIn wsX5_judgeByRules wsX5_goesWell := goodIn_r _ [11, 12, 32, 33, 34, 35, 36, 37, 38, 39, 40, 41, 42, 43, 44, 45] (by decide +kernel) (by decide +kernel)
set_option maxRecDepth 20000 in
theorem gX5_judgeByRules_X5_goesWell : GoodIn wsX5_judgeByRules (wsV RX5 59 RX5 yX5_goesWell wsX5_goesWell) := goodIn_app (goodIn_of _ (by decide +kernel)) ggX5_judgeByRules_X5_goesWell
set_option maxRecDepth 20000 in
theorem ggX5_judgeByRules_X5_strictest : GoodIn wsX5_judgeByRules wsX5_strictest := goodIn_r _ [16, 17, 18, 19, 3, 20, 21, 22, 23, 24, 25, 26, 27, 28, 29, 30, 31, 32, 33, 34, 35, 36, 37, 38, 39, 40, 41, 42, 43, 44, 45] (by decide +kernel) (by decide +kernel)
set_option maxRecDepth 20000 in
theorem gX5_judgeByRules_X5_strictest : GoodIn wsX5_judgeByRules (wsV RX5 120 RX5 yX5_strictest wsX5_strictest) := goodIn_app (goodIn_of _ (by decide +kernel)) ggX5_judgeByRules_X5_strictest
set_option maxRecDepth 20000 in
theorem ggX5_halvesMade_X5_hiderOf : GoodIn wsX5_halvesMade wsX5_hiderOf := goodIn_r _ [11, 5, 4, 12, 13, 14, 15, 10, 16, 2, 3, 20, 21, 22, 23, 24, 25, 26, 27, 28, 29, 30, 31, 32, 33] (by decide +kernel) (by decide +kernel)
set_option maxRecDepth 20000 in
theorem gX5_halvesMade_X5_hiderOf : GoodIn wsX5_halvesMade (wsV RX5 75 RX5 yX5_hiderOf wsX5_hiderOf) := goodIn_app (goodIn_of _ (by decide +kernel)) ggX5_halvesMade_X5_hiderOf
set_option maxRecDepth 20000 in
theorem ggX5_halvesMade_X5_halvesOf : GoodIn wsX5_halvesMade wsX5_halvesOf := goodIn_r _ [19, 6] (by decide +kernel) (by decide +kernel)
set_option maxRecDepth 20000 in
theorem gX5_halvesMade_X5_halvesOf : GoodIn wsX5_halvesMade (va_wsS RX5 94 yX5_halvesOf wsX5_halvesOf) := goodIn_app (goodIn_of _ (by decide +kernel)) ggX5_halvesMade_X5_halvesOf
set_option maxRecDepth 20000 in
theorem ggX5_path_X5_isNumber : GoodIn wsX5_path wsX5_isNumber := goodIn_r _ [5, 6, 7, 4, 8] (by decide +kernel) (by decide +kernel)
set_option maxRecDepth 20000 in
theorem gX5_path_X5_isNumber : GoodIn wsX5_path (va_wsS RX5 56 yX5_isNumber wsX5_isNumber) := goodIn_app (goodIn_of _ (by decide +kernel)) ggX5_path_X5_isNumber
set_option maxRecDepth 20000 in
theorem ggX5_path_X5_goesWell : GoodIn wsX5_path wsX5_goesWell := goodIn_r _ [12, 13, 61, 62, 63, 64, 65, 66, 67, 68, 69, 70, 71, 72, 73, 74] (by decide +kernel) (by decide +kernel)
set_option maxRecDepth 20000 in
theorem gX5_path_X5_goesWell : GoodIn wsX5_path (wsV RX5 59 RX5 yX5_goesWell wsX5_goesWell) := goodIn_app (goodIn_of _ (by decide +kernel)) ggX5_path_X5_goesWell
set_option maxRecDepth 20000 in
theorem ggX5_path_X5_lay : GoodIn wsX5_path wsX5_lay := goodIn_r _ [17, 18, 19, 20, 21, 22, 4, 23, 24, 25, 26, 27, 28, 29, 30, 31, 32, 33, 34, 35, 36, 37, 38, 39, 40, 41, 42, 43, 44, 45, 46, 47, 48, 61, 62, 63, 64, 65, 66, 67, 68, 69, 70, 71, 72, 73, 74] (by decide +kernel) (by decide +kernel)
set_option maxRecDepth 20000 in
theorem gX5_path_X5_lay : GoodIn wsX5_path (wsV RX5 98 RX5 yX5_lay wsX5_lay) := goodIn_app (goodIn_of _ (by decide +kernel)) ggX5_path_X5_lay
set_option maxRecDepth 20000 in
theorem ggX5_path_X5_testsOf : GoodIn wsX5_path wsX5_testsOf := goodIn_r _ [52, 18, 43, 19, 61, 62, 63, 64, 65, 66, 67, 68, 69, 70, 71, 72, 73, 74] (by decide +kernel) (by decide +kernel)
set_option maxRecDepth 20000 in
theorem gX5_path_X5_testsOf : GoodIn wsX5_path (wsV RX5 102 RX5 yX5_testsOf wsX5_testsOf) := goodIn_app (goodIn_of _ (by decide +kernel)) ggX5_path_X5_testsOf
