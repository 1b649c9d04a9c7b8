set_option maxRecDepth 20000 in
theorem ggX4_init_X2_init : GoodIn wsX4_init wsX2_init := goodIn_r _ [15, 16, 2, 3, 6, 17, 18, 19, 20, 21, 49, 50, 51, 52, 53] (by decide +kernel) (by decide +kernel)
set_option maxRecDepth 20000 in
theorem gX4_init_X2_init_n21 : GoodIn wsX4_init (wsX2_init) := ggX4_init_X2_init
set_option maxRecDepth 20000 in
theorem ggX4_init_X0_init : GoodIn wsX4_init wsX0_init := goodIn_r _ [23, 24, 2, 3, 25, 26, 27, 28, 29, 30, 31, 32, 33, 34, 35, 36, 37, 38, 39, 40, 41, 42, 43, 44, 59, 60, 61, 54, 55, 56, 57, 58] (by decide +kernel) (by decide +kernel)
set_option maxRecDepth 20000 in
theorem gX4_init_X0_init_n26 : GoodIn wsX4_init (wsX0_init) := ggX4_init_X0_init
set_option maxRecDepth 20000 in
theorem ggX4_add_X4_requireFilter : GoodIn wsX4_add wsX4_requireFilter := goodIn_ca (goodIn_r _ [13, 1, 2] (by decide +kernel) (by decide +kernel)) (goodIn_sub (fun _ h => List.mem_cons_of_mem _ (List.mem_append_left _ (List.mem_append_right _ h))) (by decide +kernel))
set_option maxRecDepth 20000 in
theorem gX4_add_X4_requireFilter : GoodIn wsX4_add (va_wsS RX4 27 yX4_requireFilter wsX4_requireFilter) := goodIn_app (goodIn_of _ (by decide +kernel)) ggX4_add_X4_requireFilter
set_option maxRecDepth 20000 in
theorem ggX4_add_X4_requireNumber : GoodIn wsX4_add wsX4_requireNumber := goodIn_ca (goodIn_r _ [16, 1, 2] (by decide +kernel) (by decide +kernel)) (goodIn_sub (fun _ h => List.mem_cons_of_mem _ (List.mem_append_left _ (List.mem_append_right _ h))) (by decide +kernel))
set_option maxRecDepth 20000 in
theorem gX4_add_X4_requireNumber : GoodIn wsX4_add (va_wsS RX4 31 yX4_requireNumber wsX4_requireNumber) := goodIn_app (goodIn_of _ (by decide +kernel)) ggX4_add_X4_requireNumber
set_option maxRecDepth 20000 in
theorem ggX4_add_X4_requireAction : GoodIn wsX4_add wsX4_requireAction := goodIn_ca (goodIn_r _ [19, 1, 2] (by decide +kernel) (by decide +kernel)) (goodIn_sub (fun _ h => List.mem_cons_of_mem _ (List.mem_append_left _ (List.mem_append_right _ h))) (by decide +kernel))
set_option maxRecDepth 20000 in
theorem gX4_add_X4_requireAction : GoodIn wsX4_add (va_wsS RX4 41 yX4_requireAction wsX4_requireAction) := goodIn_app (goodIn_of _ (by decide +kernel)) ggX4_add_X4_requireAction
set_option maxRecDepth 20000 in
theorem ggX4_add_X0_isFull : GoodIn wsX4_add wsX0_isFull := goodIn_r _ [24, 25, 26, 27, 28, 29, 30, 31, 110, 111, 112, 113, 114, 115, 116, 117] (by decide +kernel) (by decide +kernel)
set_option maxRecDepth 20000 in
theorem gX4_add_X0_isFull : GoodIn wsX4_add (wsV RX4 44 RX0 yX0_isFull wsX0_isFull) := goodIn_app (goodIn_of _ (by decide +kernel)) ggX4_add_X0_isFull
set_option maxRecDepth 20000 in
theorem ggX4_add_X3_init : GoodIn wsX4_add wsX3_init := goodIn_r _ [34, 35, 36, 37, 38, 39, 40, 41, 42, 105, 106, 107, 108, 109] (by decide +kernel) (by decide +kernel)
set_option maxRecDepth 20000 in
theorem gX4_add_X3_init : GoodIn wsX4_add (wsX3_init) := ggX4_add_X3_init
set_option maxRecDepth 20000 in
theorem ggX4_add_X0_append : GoodIn wsX4_add wsX0_append := goodIn_r _ [46, 25, 47, 48, 49, 29, 50, 51, 52, 53, 31, 54, 55, 56, 57, 58, 59, 60, 61, 62, 63, 64, 65, 66, 67, 68, 69, 70, 71, 72, 73, 74, 75, 76, 77, 78, 79, 80, 81, 82, 83, 84, 85, 86, 87, 88, 89, 90, 91, 92, 93, 94, 95, 96, 97, 98, 99, 100, 26, 27, 28, 30, 110, 111, 112, 113, 114, 115, 116, 117] (by decide +kernel) (by decide +kernel)
set_option maxRecDepth 20000 in
theorem gX4_add_X0_append : GoodIn wsX4_add (wsV RX4 62 RX0 yX0_append wsX0_append) := goodIn_app (goodIn_of _ (by decide +kernel)) ggX4_add_X0_append
set_option maxRecDepth 20000 in
theorem ggX4_remove_X4_requireFilter : GoodIn wsX4_remove wsX4_requireFilter := goodIn_ca (goodIn_r _ [6, 7, 8] (by decide +kernel) (by decide +kernel)) (goodIn_sub (fun _ h => List.mem_cons_of_mem _ (List.mem_append_left _ (List.mem_append_right _ h))) (by decide +kernel))
set_option maxRecDepth 20000 in
theorem gX4_remove_X4_requireFilter : GoodIn wsX4_remove (va_wsS RX4 27 yX4_requireFilter wsX4_requireFilter) := goodIn_app (goodIn_of _ (by decide +kernel)) ggX4_remove_X4_requireFilter
set_option maxRecDepth 20000 in
theorem ggX4_remove_X4_requireRule : GoodIn wsX4_remove wsX4_requireRule := goodIn_ca (goodIn_r _ [12, 13, 14, 2, 15, 16, 17, 18, 19, 20, 51, 52, 53, 54, 55, 56, 57, 58, 59, 60, 61, 62] (by decide +kernel) (by decide +kernel)) (goodIn_sub (fun _ h => List.mem_cons_of_mem _ (List.mem_append_right _ h)) (by decide +kernel))
set_option maxRecDepth 20000 in
theorem gX4_remove_X4_requireRule : GoodIn wsX4_remove (wsV RX4 66 RX4 yX4_requireRule wsX4_requireRule) := goodIn_app (goodIn_of _ (by decide +kernel)) ggX4_remove_X4_requireRule
set_option maxRecDepth 20000 in
theorem ggX4_remove_X0_drop : GoodIn wsX4_remove wsX0_drop := goodIn_r _ [25, 26, 27, 16, 17, 18, 19, 20, 28, 29, 30, 31, 32, 33, 34, 35, 36, 37, 38, 39, 40, 41, 42, 43, 44, 45, 46, 47, 48, 49, 50, 55, 56, 57, 58, 59, 60, 61, 62] (by decide +kernel) (by decide +kernel)
set_option maxRecDepth 20000 in
theorem gX4_remove_X0_drop : GoodIn wsX4_remove (wsV RX4 70 RX0 yX0_drop wsX0_drop) := goodIn_app (goodIn_of _ (by decide +kernel)) ggX4_remove_X0_drop
set_option maxRecDepth 20000 in
theorem ggX4_setDefault_X4_requireFilter : GoodIn wsX4_setDefault wsX4_requireFilter := goodIn_ca (goodIn_r _ [6, 7, 8] (by decide +kernel) (by decide +kernel)) (goodIn_sub (fun _ h => List.mem_cons_of_mem _ (List.mem_append_right _ h)) (by decide +kernel))
set_option maxRecDepth 20000 in
theorem gX4_setDefault_X4_requireFilter : GoodIn wsX4_setDefault (va_wsS RX4 27 yX4_requireFilter wsX4_requireFilter) := goodIn_app (goodIn_of _ (by decide +kernel)) ggX4_setDefault_X4_requireFilter
set_option maxRecDepth 20000 in
theorem ggX4_setDefault_X4_requireAction : GoodIn wsX4_setDefault wsX4_requireAction := goodIn_ca (goodIn_r _ [11, 7, 8] (by decide +kernel) (by decide +kernel)) (goodIn_sub (fun _ h => List.mem_cons_of_mem _ (List.mem_append_right _ h)) (by decide +kernel))
set_option maxRecDepth 20000 in
theorem gX4_setDefault_X4_requireAction : GoodIn wsX4_setDefault (va_wsS RX4 41 yX4_requireAction wsX4_requireAction) := goodIn_app (goodIn_of _ (by decide +kernel)) ggX4_setDefault_X4_requireAction
set_option maxRecDepth 20000 in
theorem ggX4_setFrequency_X4_requireNumber : GoodIn wsX4_setFrequency wsX4_requireNumber := goodIn_ca (goodIn_r _ [8, 1, 2] (by decide +kernel) (by decide +kernel)) (goodIn_sub (fun _ h => List.mem_cons_of_mem _ (List.mem_append_right _ h)) (by decide +kernel))
set_option maxRecDepth 20000 in
theorem gX4_setFrequency_X4_requireNumber : GoodIn wsX4_setFrequency (va_wsS RX4 31 yX4_requireNumber wsX4_requireNumber) := goodIn_app (goodIn_of _ (by decide +kernel)) ggX4_setFrequency_X4_requireNumber
set_option maxRecDepth 20000 in
theorem ggX4_rules_X4_requireFilter : GoodIn wsX4_rules wsX4_requireFilter := goodIn_ca (goodIn_r _ [5, 6, 7] (by decide +kernel) (by decide +kernel)) (goodIn_sub (fun _ h => List.mem_cons_of_mem _ (List.mem_append_right _ h)) (by decide +kernel))
set_option maxRecDepth 20000 in
theorem gX4_rules_X4_requireFilter : GoodIn wsX4_rules (va_wsS RX4 27 yX4_requireFilter wsX4_requireFilter) := goodIn_app (goodIn_of _ (by decide +kernel)) ggX4_rules_X4_requireFilter
set_option maxRecDepth 20000 in
theorem ggX4_rules_Jx4a65c_size_8abf5 : GoodIn wsX4_rules wsJx4a65c_size_8abf5 := goodIn_r _ [12, 13, 23, 24, 25] (by decide +kernel) (by decide +kernel)
set_option maxRecDepth 20000 in
theorem gX4_rules_Jx4a65c_size_8abf5 : GoodIn wsX4_rules (wsV RX4 84 RJx4a65c yJx4a65c_size_8abf5 wsJx4a65c_size_8abf5) := goodIn_app (goodIn_of _ (by decide +kernel)) ggX4_rules_Jx4a65c_size_8abf5
set_option maxRecDepth 20000 in
theorem ggX4_hider_X4_requireFilter : GoodIn wsX4_hider wsX4_requireFilter := goodIn_ca (goodIn_r _ [5, 6, 7] (by decide +kernel) (by decide +kernel)) (goodIn_sub (fun _ h => List.mem_cons_of_mem _ (List.mem_append_left _ (List.mem_append_right _ h))) (by decide +kernel))
set_option maxRecDepth 20000 in
theorem gX4_hider_X4_requireFilter : GoodIn wsX4_hider (va_wsS RX4 27 yX4_requireFilter wsX4_requireFilter) := goodIn_app (goodIn_of _ (by decide +kernel)) ggX4_hider_X4_requireFilter
set_option maxRecDepth 20000 in
theorem ggX4_hider_X4_requireRule : GoodIn wsX4_hider wsX4_requireRule := goodIn_ca (goodIn_r _ [11, 12, 13, 1, 14, 15, 16, 17, 18, 19, 59, 60, 61, 62, 63, 64, 65, 66, 67, 68, 69, 70] (by decide +kernel) (by decide +kernel)) (goodIn_sub (fun _ h => List.mem_cons_of_mem _ (List.mem_append_right _ h)) (by decide +kernel))
set_option maxRecDepth 20000 in
theorem gX4_hider_X4_requireRule : GoodIn wsX4_hider (wsV RX4 66 RX4 yX4_requireRule wsX4_requireRule) := goodIn_app (goodIn_of _ (by decide +kernel)) ggX4_hider_X4_requireRule
set_option maxRecDepth 20000 in
theorem ggX4_hider_X0_hiderOf : GoodIn wsX4_hider wsX0_hiderOf := goodIn_r _ [24, 25, 26, 27, 15, 16, 17, 18, 19, 28, 29, 30, 31, 32, 33, 34, 35, 36, 37, 38, 39, 40, 41, 42, 43, 44, 45, 46, 47, 48, 49, 50, 51, 52, 53, 54, 55, 56, 57, 58, 63, 64, 65, 66, 67, 68, 69, 70, 71, 72, 73, 74, 75] (by decide +kernel) (by decide +kernel)
set_option maxRecDepth 20000 in
theorem gX4_hider_X0_hiderOf : GoodIn wsX4_hider (wsV RX4 90 RX0 yX0_hiderOf wsX0_hiderOf) := goodIn_app (goodIn_of _ (by decide +kernel)) ggX4_hider_X0_hiderOf
set_option maxRecDepth 20000 in
theorem ggX4_compile_X4_planTrees : GoodIn wsX4_compile wsX4_planTrees := goodIn_r _ [8, 9, 10, 11, 12, 13, 14, 15, 16, 17, 18, 19, 20, 21, 22, 23, 24, 25, 26, 27, 28, 29, 30, 31, 32, 33, 34, 35, 36, 37, 38, 39, 40, 41, 42, 43, 44, 45, 46, 47, 48, 49, 50, 51, 52, 53, 54, 55, 56, 57, 58, 59, 60, 61, 62, 63, 64, 65, 66, 67, 68, 69, 70, 71, 72, 73, 74, 75, 76, 77, 78, 79, 80, 81, 82, 83, 84, 85, 86, 87, 88, 89, 90, 91, 92, 93, 94, 95, 96, 97, 98, 99, 100, 101, 102, 103, 104, 105, 106, 107, 108, 109, 110, 111, 112, 113, 114, 115, 116, 117, 118, 119, 120, 121, 122, 123, 124, 125, 126, 127, 128, 129, 130, 131, 132, 133, 134, 135, 136, 137, 138, 139, 140, 141, 142, 143, 144, 145, 146, 147, 148, 149, 150, 151, 152, 153, 154, 155, 156, 157, 158, 159, 160, 161, 162, 163, 164, 165, 166, 167, 168, 169, 170, 171, 172, 173, 174, 175, 176, 177, 178, 179, 180, 181, 221, 222, 223, 224, 225, 226, 227, 228, 229, 230, 231, 232, 233, 234, 235, 236, 237, 238, 239, 240, 241, 242, 243, 244, 245, 246] (by decide +kernel) (by decide +kernel)
set_option maxRecDepth 20000 in
theorem gX4_compile_X4_planTrees : GoodIn wsX4_compile (wsV RX4 95 RX4 yX4_planTrees wsX4_planTrees) := goodIn_app (goodIn_of _ (by decide +kernel)) ggX4_compile_X4_planTrees
set_option maxRecDepth 20000 in
theorem ggX4_compile_X4_worstPathOfAll : GoodIn wsX4_compile wsX4_worstPathOfAll := goodIn_r _ [185, 9, 186, 187, 188, 15, 189, 190, 91, 92, 93, 191, 192, 193, 194, 195, 196, 197, 198, 17, 199, 200, 201, 167, 202, 174, 176, 177, 203, 204, 205, 206, 23, 25, 35, 36, 37, 29, 38, 34, 43, 44, 45, 46, 47, 48, 49, 50, 51, 52, 53, 54, 55, 56, 57, 58, 33, 207, 208, 209, 62, 210, 211, 212, 213, 214, 65, 215, 216, 217, 218, 219, 220, 221, 222, 223, 224, 243, 244, 245, 246, 225, 226, 227, 228, 229, 233, 234, 235, 236, 237, 230, 231, 232] (by decide +kernel) (by decide +kernel)
set_option maxRecDepth 20000 in
theorem gX4_compile_X4_worstPathOfAll : GoodIn wsX4_compile (wsV RX4 98 RX4 yX4_worstPathOfAll wsX4_worstPathOfAll) := goodIn_app (goodIn_of _ (by decide +kernel)) ggX4_compile_X4_worstPathOfAll
set_option maxRecDepth 20000 in
theorem ggX4_worst_X4_requireFilter : GoodIn wsX4_worst wsX4_requireFilter := goodIn_ca (goodIn_r _ [5, 6, 7] (by decide +kernel) (by decide +kernel)) (goodIn_sub (fun _ h => List.mem_cons_of_mem _ (List.mem_append_left _ (List.mem_append_right _ h))) (by decide +kernel))
set_option maxRecDepth 20000 in
theorem gX4_worst_X4_requireFilter : GoodIn wsX4_worst (va_wsS RX4 27 yX4_requireFilter wsX4_requireFilter) := goodIn_app (goodIn_of _ (by decide +kernel)) ggX4_worst_X4_requireFilter
set_option maxRecDepth 20000 in
theorem ggX4_worst_X4_requireCompiled : GoodIn wsX4_worst wsX4_requireCompiled := goodIn_ca (goodIn_r _ [11, 12, 13, 14, 86, 87, 88, 89] (by decide +kernel) (by decide +kernel)) (goodIn_sub (fun _ h => List.mem_cons_of_mem _ (List.mem_append_right _ h)) (by decide +kernel))
set_option maxRecDepth 20000 in
theorem gX4_worst_X4_requireCompiled : GoodIn wsX4_worst (wsV RX4 103 RX4 yX4_requireCompiled wsX4_requireCompiled) := goodIn_app (goodIn_of _ (by decide +kernel)) ggX4_worst_X4_requireCompiled
set_option maxRecDepth 20000 in
theorem ggX4_worst_X0_worstPath : GoodIn wsX4_worst wsX0_worstPath := goodIn_r _ [19, 20, 21, 22, 23, 24, 25, 26, 18, 27, 28, 29, 30, 31, 32, 33, 34, 35, 36, 37, 38, 39, 40, 41, 42, 43, 44, 45, 46, 47, 48, 49, 50, 51, 52, 53, 54, 55, 56, 57, 58, 59, 60, 61, 62, 63, 64, 65, 66, 67, 68, 69, 70, 71, 72, 73, 74, 75, 76, 77, 78, 79, 80, 81, 82, 83, 84, 85, 90, 91, 92, 93, 94, 95, 96, 97, 98, 99, 100, 101, 102, 103, 104, 105, 106] (by decide +kernel) (by decide +kernel)
set_option maxRecDepth 20000 in
theorem gX4_worst_X0_worstPath : GoodIn wsX4_worst (wsV RX4 112 RX0 yX0_worstPath wsX0_worstPath) := goodIn_app (goodIn_of _ (by decide +kernel)) ggX4_worst_X0_worstPath
set_option maxRecDepth 20000 in
theorem ggX4_judge_X4_requireNumber : GoodIn wsX4_judge wsX4_requireNumber := goodIn_ca (goodIn_r _ [9, 10, 11] (by decide +kernel) (by decide +kernel)) (goodIn_sub (fun _ h => List.mem_cons_of_mem _ (List.mem_append_left _ (List.mem_append_right _ h))) (by decide +kernel))
set_option maxRecDepth 20000 in
theorem gX4_judge_X4_requireNumber : GoodIn wsX4_judge (va_wsS RX4 31 yX4_requireNumber wsX4_requireNumber) := goodIn_app (goodIn_of _ (by decide +kernel)) ggX4_judge_X4_requireNumber
