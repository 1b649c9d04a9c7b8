set_option maxRecDepth 20000 in
theorem ggX4_judge_X4_requireCompiled : GoodIn wsX4_judge wsX4_requireCompiled := goodIn_ca (goodIn_r _ [15, 16, 17, 18, 79, 80, 81, 82] (by decide +kernel) (by decide +kernel)) (goodIn_sub (fun _ h => List.mem_cons_of_mem _ (List.mem_append_right _ h)) (by decide +kernel))
set_option maxRecDepth 20000 in
theorem gX4_judge_X4_requireCompiled : GoodIn wsX4_judge (wsV RX4 103 RX4 yX4_requireCompiled wsX4_requireCompiled) := goodIn_app (goodIn_of _ (by decide +kernel)) ggX4_judge_X4_requireCompiled
set_option maxRecDepth 20000 in
theorem ggX4_judge_X0_actionByTree : GoodIn wsX4_judge wsX0_actionByTree := goodIn_r _ [23, 24, 25, 26, 27, 28, 22, 29, 30, 31, 32, 33, 34, 35, 36, 37, 38, 39, 40, 41, 42, 43, 44, 45, 46, 47, 48, 49, 50, 51, 52, 53, 54, 55, 56, 57, 58, 59, 60, 61, 62, 63, 64, 65, 66, 67, 68, 69, 70, 71, 72, 73, 74, 75, 76, 77, 78, 83, 84, 85, 86, 87, 88, 89, 90, 91, 92, 93, 94, 95, 96, 97, 98, 99] (by decide +kernel) (by decide +kernel)
set_option maxRecDepth 20000 in
theorem gX4_judge_X0_actionByTree : GoodIn wsX4_judge (wsV RX4 115 RX0 yX0_actionByTree wsX0_actionByTree) := goodIn_app (goodIn_of _ (by decide +kernel)) ggX4_judge_X0_actionByTree
set_option maxRecDepth 20000 in
theorem ggX4_judgeByRules_X4_requireNumber : GoodIn wsX4_judgeByRules wsX4_requireNumber := goodIn_ca (goodIn_r _ [9, 10, 11] (by decide +kernel) (by decide +kernel)) (goodIn_sub (fun _ h => List.mem_cons_of_mem _ (List.mem_append_right _ h)) (by decide +kernel))
set_option maxRecDepth 20000 in
theorem gX4_judgeByRules_X4_requireNumber : GoodIn wsX4_judgeByRules (va_wsS RX4 31 yX4_requireNumber wsX4_requireNumber) := goodIn_app (goodIn_of _ (by decide +kernel)) ggX4_judgeByRules_X4_requireNumber
set_option maxRecDepth 20000 in
theorem ggX4_judgeByRules_X0_actionByRules : GoodIn wsX4_judgeByRules wsX0_actionByRules := goodIn_r _ [16, 17, 18, 19, 20, 15, 21, 22, 23, 24, 25, 26, 27, 28, 29, 30, 31, 32, 33, 34, 35, 36, 37, 38, 39, 40, 41, 42, 43, 44, 45, 46, 47, 48, 49, 50, 51, 52, 53, 54, 55, 56, 57, 58, 63, 64, 65, 66, 67, 68, 69, 70, 71, 72, 73, 74, 75] (by decide +kernel) (by decide +kernel)
set_option maxRecDepth 20000 in
theorem gX4_judgeByRules_X0_actionByRules : GoodIn wsX4_judgeByRules (wsV RX4 125 RX0 yX0_actionByRules wsX0_actionByRules) := goodIn_app (goodIn_of _ (by decide +kernel)) ggX4_judgeByRules_X0_actionByRules
set_option maxRecDepth 20000 in
theorem ggX4_path_X4_requireNumber : GoodIn wsX4_path wsX4_requireNumber := goodIn_ca (goodIn_r _ [5, 6, 7] (by decide +kernel) (by decide +kernel)) (goodIn_sub (fun _ h => List.mem_cons_of_mem _ (List.mem_append_left _ (List.mem_append_right _ h))) (by decide +kernel))
set_option maxRecDepth 20000 in
theorem gX4_path_X4_requireNumber : GoodIn wsX4_path (va_wsS RX4 31 yX4_requireNumber wsX4_requireNumber) := goodIn_app (goodIn_of _ (by decide +kernel)) ggX4_path_X4_requireNumber
set_option maxRecDepth 20000 in
theorem ggX4_path_X4_requireCompiled : GoodIn wsX4_path wsX4_requireCompiled := goodIn_ca (goodIn_r _ [11, 12, 13, 14, 92, 93, 94, 95] (by decide +kernel) (by decide +kernel)) (goodIn_sub (fun _ h => List.mem_cons_of_mem _ (List.mem_append_right _ h)) (by decide +kernel))
set_option maxRecDepth 20000 in
theorem gX4_path_X4_requireCompiled : GoodIn wsX4_path (wsV RX4 103 RX4 yX4_requireCompiled wsX4_requireCompiled) := goodIn_app (goodIn_of _ (by decide +kernel)) ggX4_path_X4_requireCompiled
set_option maxRecDepth 20000 in
theorem ggX4_path_X0_pathOf : GoodIn wsX4_path wsX0_pathOf := goodIn_r _ [19, 20, 21, 22, 23, 24, 18, 25, 26, 27, 28, 29, 30, 31, 32, 33, 34, 35, 36, 37, 38, 39, 40, 41, 42, 43, 44, 45, 46, 47, 48, 49, 50, 51, 52, 53, 54, 55, 56, 57, 58, 59, 60, 61, 62, 63, 64, 65, 66, 67, 68, 69, 70, 71, 72, 73, 74, 75, 76, 77, 78, 79, 80, 81, 82, 83, 84, 85, 86, 87, 88, 89, 90, 91, 96, 97, 98, 99, 100, 101, 102, 103, 104, 105, 106, 107, 108, 109, 110, 111, 112] (by decide +kernel) (by decide +kernel)
set_option maxRecDepth 20000 in
theorem gX4_path_X0_pathOf : GoodIn wsX4_path (wsV RX4 128 RX0 yX0_pathOf wsX0_pathOf) := goodIn_app (goodIn_of _ (by decide +kernel)) ggX4_path_X0_pathOf
set_option maxRecDepth 20000 in
theorem ggX4_actionOf_X4_requireFilter : GoodIn wsX4_actionOf wsX4_requireFilter := goodIn_ca (goodIn_r _ [5, 6, 7] (by decide +kernel) (by decide +kernel)) (goodIn_sub (fun _ h => List.mem_cons_of_mem _ (List.mem_append_right _ h)) (by decide +kernel))
set_option maxRecDepth 20000 in
theorem gX4_actionOf_X4_requireFilter : GoodIn wsX4_actionOf (va_wsS RX4 27 yX4_requireFilter wsX4_requireFilter) := goodIn_app (goodIn_of _ (by decide +kernel)) ggX4_actionOf_X4_requireFilter
set_option maxRecDepth 20000 in
theorem ggX4_actionOf_X4_requireNumber : GoodIn wsX4_actionOf wsX4_requireNumber := goodIn_ca (goodIn_r _ [10, 6, 7] (by decide +kernel) (by decide +kernel)) (goodIn_sub (fun _ h => List.mem_cons_of_mem _ (List.mem_append_right _ h)) (by decide +kernel))
set_option maxRecDepth 20000 in
theorem gX4_actionOf_X4_requireNumber : GoodIn wsX4_actionOf (va_wsS RX4 31 yX4_requireNumber wsX4_requireNumber) := goodIn_app (goodIn_of _ (by decide +kernel)) ggX4_actionOf_X4_requireNumber
set_option maxRecDepth 20000 in
theorem ggX4_actionOf_X0_actionByRules : GoodIn wsX4_actionOf wsX0_actionByRules := goodIn_r _ [15, 16, 17, 18, 19, 14, 20, 21, 22, 23, 24, 25, 26, 27, 28, 29, 30, 31, 32, 33, 34, 35, 36, 37, 38, 39, 40, 41, 42, 43, 44, 45, 46, 47, 48, 49, 50, 51, 52, 53, 54, 55, 56, 57, 62, 63, 64, 65, 66, 67, 68, 69, 70, 71, 72, 73, 74] (by decide +kernel) (by decide +kernel)
set_option maxRecDepth 20000 in
theorem gX4_actionOf_X0_actionByRules : GoodIn wsX4_actionOf (wsV RX4 125 RX0 yX0_actionByRules wsX0_actionByRules) := goodIn_app (goodIn_of _ (by decide +kernel)) ggX4_actionOf_X0_actionByRules
set_option maxRecDepth 20000 in
theorem ggX4_planTrees_X0_planTree : GoodIn wsX4_planTrees wsX0_planTree := goodIn_r _ [8, 9, 10, 11, 12, 13, 7, 14, 15, 16, 17, 18, 19, 20, 21, 22, 23, 24, 25, 26, 27, 28, 29, 30, 31, 32, 33, 34, 35, 36, 37, 38, 39, 40, 41, 42, 43, 44, 45, 46, 47, 48, 49, 50, 51, 52, 53, 54, 55, 56, 57, 58, 59, 60, 61, 62, 63, 64, 65, 66, 67, 68, 69, 70, 71, 72, 73, 74, 75, 76, 77, 78, 79, 80, 81, 82, 83, 84, 85, 86, 87, 88, 89, 90, 91, 92, 93, 94, 95, 96, 97, 98, 99, 100, 101, 102, 103, 104, 105, 106, 107, 108, 109, 110, 111, 112, 113, 114, 115, 116, 117, 118, 119, 120, 121, 122, 123, 124, 125, 126, 127, 128, 129, 130, 131, 132, 133, 134, 135, 136, 137, 138, 139, 140, 141, 142, 143, 144, 145, 146, 147, 148, 149, 150, 151, 152, 153, 154, 155, 156, 157, 158, 159, 160, 161, 162, 163, 164, 165, 166, 167, 168, 169, 170, 171, 172, 173, 178, 179, 180, 181, 182, 183, 184, 185, 186, 187, 188, 189, 190, 191, 192, 193, 194, 195, 196, 197, 198, 199] (by decide +kernel) (by decide +kernel)
set_option maxRecDepth 20000 in
theorem gX4_planTrees_X0_planTree : GoodIn wsX4_planTrees (wsV RX4 131 RX0 yX0_planTree wsX0_planTree) := goodIn_app (goodIn_of _ (by decide +kernel)) ggX4_planTrees_X0_planTree
set_option maxRecDepth 20000 in
theorem ggX4_worstPathOfAll_X0_worstPath : GoodIn wsX4_worstPathOfAll wsX0_worstPath := goodIn_r _ [6, 7, 8, 9, 10, 11, 12, 13, 5, 14, 15, 16, 17, 18, 19, 20, 21, 22, 23, 24, 25, 26, 27, 28, 29, 30, 31, 32, 33, 34, 35, 36, 37, 38, 39, 40, 41, 42, 43, 44, 45, 46, 47, 48, 49, 50, 51, 52, 53, 54, 55, 56, 57, 58, 59, 60, 61, 62, 63, 64, 65, 66, 67, 68, 69, 70, 71, 72, 77, 78, 79, 80, 81, 82, 83, 84, 85, 86, 87, 88, 89, 90, 91, 92, 93] (by decide +kernel) (by decide +kernel)
set_option maxRecDepth 20000 in
theorem gX4_worstPathOfAll_X0_worstPath : GoodIn wsX4_worstPathOfAll (wsV RX4 112 RX0 yX0_worstPath wsX0_worstPath) := goodIn_app (goodIn_of _ (by decide +kernel)) ggX4_worstPathOfAll_X0_worstPath
set_option maxRecDepth 20000 in
theorem ggX4_requireRule_Jx4a65c_size_8abf5 : GoodIn wsX4_requireRule wsJx4a65c_size_8abf5 := goodIn_r _ [8, 9, 19, 20, 21] (by decide +kernel) (by decide +kernel)
set_option maxRecDepth 20000 in
theorem gX4_requireRule_Jx4a65c_size_8abf5 : GoodIn wsX4_requireRule (wsV RX4 84 RJx4a65c yJx4a65c_size_8abf5 wsJx4a65c_size_8abf5) := goodIn_app (goodIn_of _ (by decide +kernel)) ggX4_requireRule_Jx4a65c_size_8abf5
