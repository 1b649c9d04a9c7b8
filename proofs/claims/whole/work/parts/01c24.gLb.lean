set_option maxRecDepth 20000 in
theorem ggL_law_X5_compile : GoodIn wsL_law wsX5_compile := goodIn_r _ [432, 175, 179, 180, 5, 181, 185, 186, 187, 188, 189, 433, 434, 435, 436, 437, 438, 439, 440, 441, 67, 442, 443, 444, 445, 64, 59, 304, 305, 306, 307, 62, 61, 308, 309, 310, 311, 312, 60, 446, 447, 448, 449, 66, 69, 68, 450, 451, 452, 453, 454, 455, 456, 457, 458, 459, 460, 461, 462, 463, 464, 465, 610, 611, 612, 613, 614, 615, 616, 617, 618, 619, 620, 621, 622, 623] (by decide +kernel) (by decide +kernel)
set_option maxRecDepth 20000 in
theorem gL_law_X5_compile : GoodIn wsL_law (wsV RL 97 RX5 yX5_compile wsX5_compile) := goodIn_app (goodIn_of _ (by decide +kernel)) ggL_law_X5_compile
set_option maxRecDepth 20000 in
theorem ggL_law_X4_isCompiled : GoodIn wsL_law wsX4_isCompiled := goodIn_r _ [469, 84, 606, 607, 608, 609] (by decide +kernel) (by decide +kernel)
set_option maxRecDepth 20000 in
theorem gL_law_X4_isCompiled : GoodIn wsL_law (wsV RL 98 RX4 yX4_isCompiled wsX4_isCompiled) := goodIn_app (goodIn_of _ (by decide +kernel)) ggL_law_X4_isCompiled
set_option maxRecDepth 20000 in
theorem ggL_law_X5_isCompiled : GoodIn wsL_law wsX5_isCompiled := goodIn_r _ [473, 189, 175, 610, 611, 612, 613, 614, 615, 616, 617, 618, 619, 620, 621, 622, 623] (by decide +kernel) (by decide +kernel)
set_option maxRecDepth 20000 in
theorem gL_law_X5_isCompiled : GoodIn wsL_law (wsV RL 102 RX5 yX5_isCompiled wsX5_isCompiled) := goodIn_app (goodIn_of _ (by decide +kernel)) ggL_law_X5_isCompiled
set_option maxRecDepth 20000 in
theorem ggL_law_L_test : GoodIn wsL_law wsL_test := goodIn_ca (goodIn_ca (goodIn_r _ [476, 74, 75, 477, 478, 479, 2, 480, 80, 81, 15, 88, 89, 90, 481, 482, 483, 484, 82, 83, 84, 485, 486, 487, 23, 488, 328, 606, 607, 608, 609, 629, 630, 631, 632, 633, 642, 643, 644, 645] (by decide +kernel) (by decide +kernel)) (goodIn_sub (fun _ h => List.mem_append_left _ (List.mem_append_left _ (List.mem_append_right _ h))) (by decide +kernel))) (goodIn_sub (fun _ h => List.mem_append_left _ (List.mem_append_right _ h)) (by decide +kernel))
set_option maxRecDepth 20000 in
theorem gL_law_L_test : GoodIn wsL_law (va_wsS RL 103 yL_test wsL_test) := goodIn_app (goodIn_of _ (by decide +kernel)) ggL_law_L_test
set_option maxRecDepth 20000 in
theorem ggL_law_X5_test : GoodIn wsL_law wsX5_test := goodIn_r _ [492, 175, 441, 69, 67, 176, 177, 5, 178, 179, 180, 181, 185, 186, 187, 188, 189, 437, 438, 439, 440, 442, 443, 444, 445, 64, 59, 304, 305, 306, 307, 62, 61, 308, 309, 310, 311, 312, 60, 446, 447, 448, 449, 66, 68, 450, 451, 452, 453, 610, 611, 612, 613, 614, 615, 616, 617, 618, 619, 620, 621, 622, 623] (by decide +kernel) (by decide +kernel)
set_option maxRecDepth 20000 in
theorem gL_law_X5_test : GoodIn wsL_law (wsV RL 105 RX5 yX5_test wsX5_test) := goodIn_app (goodIn_of _ (by decide +kernel)) ggL_law_X5_test
set_option maxRecDepth 20000 in
theorem ggL_law_L_cost : GoodIn wsL_law wsL_cost := goodIn_ca (goodIn_ca (goodIn_r _ [495, 74, 75, 496, 497, 498, 2, 499, 15, 88, 89, 90, 80, 81, 481, 482, 483, 484, 82, 83, 84, 606, 607, 608, 609, 629, 630, 631, 632, 633] (by decide +kernel) (by decide +kernel)) (goodIn_sub (fun _ h => List.mem_append_left _ (List.mem_append_left _ (List.mem_append_right _ h))) (by decide +kernel))) (goodIn_sub (fun _ h => List.mem_append_left _ (List.mem_append_right _ h)) (by decide +kernel))
set_option maxRecDepth 20000 in
theorem gL_law_L_cost : GoodIn wsL_law (va_wsS RL 106 yL_cost wsL_cost) := goodIn_app (goodIn_of _ (by decide +kernel)) ggL_law_L_cost
set_option maxRecDepth 20000 in
theorem ggL_law_X5_cost : GoodIn wsL_law wsX5_cost := goodIn_r _ [503, 175, 441, 176, 177, 5, 178, 179, 180, 181, 185, 186, 187, 188, 189, 437, 438, 439, 440, 67, 442, 443, 444, 445, 64, 59, 304, 305, 306, 307, 62, 61, 308, 309, 310, 311, 312, 60, 446, 447, 448, 449, 66, 69, 68, 450, 451, 452, 453, 610, 611, 612, 613, 614, 615, 616, 617, 618, 619, 620, 621, 622, 623] (by decide +kernel) (by decide +kernel)
set_option maxRecDepth 20000 in
theorem gL_law_X5_cost : GoodIn wsL_law (wsV RL 108 RX5 yX5_cost wsX5_cost) := goodIn_app (goodIn_of _ (by decide +kernel)) ggL_law_X5_cost
set_option maxRecDepth 20000 in
theorem ggL_law_L_worst : GoodIn wsL_law wsL_worst := goodIn_ca (goodIn_ca (goodIn_r _ [506, 74, 75, 507, 508, 509, 2, 510, 15, 88, 89, 90, 80, 81, 481, 482, 483, 484, 82, 83, 84, 394, 395, 396, 23, 397, 398, 138, 139, 140, 399, 400, 401, 402, 403, 404, 405, 406, 328, 407, 408, 409, 377, 410, 382, 384, 385, 411, 412, 413, 414, 39, 282, 101, 102, 103, 37, 104, 105, 283, 284, 285, 286, 217, 218, 219, 220, 221, 222, 223, 224, 287, 288, 289, 290, 44, 415, 416, 417, 87, 418, 419, 420, 421, 422, 112, 423, 424, 425, 426, 427, 428, 606, 607, 608, 609, 642, 643, 644, 645, 629, 630, 631, 632, 633, 637, 638, 639, 640, 641, 634, 635, 636] (by decide +kernel) (by decide +kernel)) (goodIn_sub (fun _ h => List.mem_append_left _ (List.mem_append_left _ (List.mem_append_right _ h))) (by decide +kernel))) (goodIn_sub (fun _ h => List.mem_append_left _ (List.mem_append_right _ h)) (by decide +kernel))
set_option maxRecDepth 20000 in
theorem gL_law_L_worst : GoodIn wsL_law (va_wsS RL 109 yL_worst wsL_worst) := goodIn_app (goodIn_of _ (by decide +kernel)) ggL_law_L_worst
set_option maxRecDepth 20000 in
theorem ggL_law_X5_worst : GoodIn wsL_law wsX5_worst := goodIn_r _ [514, 175, 176, 177, 5, 178, 179, 180, 181, 185, 186, 187, 188, 189, 433, 434, 435, 436, 437, 438, 439, 440, 441, 67, 442, 443, 444, 445, 64, 59, 304, 305, 306, 307, 62, 61, 308, 309, 310, 311, 312, 60, 446, 447, 448, 449, 66, 69, 68, 450, 451, 452, 453, 454, 455, 456, 457, 458, 459, 460, 461, 462, 463, 464, 465, 610, 611, 612, 613, 614, 615, 616, 617, 618, 619, 620, 621, 622, 623] (by decide +kernel) (by decide +kernel)
set_option maxRecDepth 20000 in
theorem gL_law_X5_worst : GoodIn wsL_law (wsV RL 111 RX5 yX5_worst wsX5_worst) := goodIn_app (goodIn_of _ (by decide +kernel)) ggL_law_X5_worst
set_option maxRecDepth 20000 in
theorem ggL_law_L_judge : GoodIn wsL_law wsL_judge := goodIn_ca (goodIn_ca (goodIn_r _ [517, 74, 75, 518, 519, 520, 2, 521, 15, 522, 138, 139, 140, 91, 92, 93, 80, 81, 481, 482, 483, 484, 82, 83, 84, 523, 524, 525, 23, 526, 527, 39, 403, 404, 405, 406, 328, 407, 408, 409, 377, 410, 382, 384, 385, 528, 529, 530, 531, 282, 101, 102, 103, 37, 104, 105, 283, 284, 285, 286, 217, 218, 219, 220, 221, 222, 223, 224, 287, 288, 289, 290, 44, 532, 533, 534, 87, 535, 112, 113, 536, 537, 538, 539, 111, 606, 607, 608, 609, 642, 643, 644, 645, 629, 630, 631, 632, 633, 637, 638, 639, 640, 641, 634, 635, 636] (by decide +kernel) (by decide +kernel)) (goodIn_sub (fun _ h => List.mem_append_left _ (List.mem_append_left _ (List.mem_append_right _ h))) (by decide +kernel))) (goodIn_sub (fun _ h => List.mem_append_left _ (List.mem_append_right _ h)) (by decide +kernel))
set_option maxRecDepth 20000 in
theorem gL_law_L_judge : GoodIn wsL_law (va_wsS RL 112 yL_judge wsL_judge) := goodIn_app (goodIn_of _ (by decide +kernel)) ggL_law_L_judge
set_option maxRecDepth 20000 in
theorem ggL_law_X5_judge : GoodIn wsL_law wsX5_judge := goodIn_r _ [543, 175, 182, 183, 5, 184, 179, 180, 181, 185, 186, 187, 188, 189, 544, 545, 546, 547, 548, 549, 550, 551, 64, 63, 65, 552, 553, 554, 555, 60, 59, 61, 62, 610, 611, 612, 613, 614, 615, 616, 617, 618, 619, 620, 621, 622, 623] (by decide +kernel) (by decide +kernel)
set_option maxRecDepth 20000 in
theorem gL_law_X5_judge : GoodIn wsL_law (wsV RL 115 RX5 yX5_judge wsX5_judge) := goodIn_app (goodIn_of _ (by decide +kernel)) ggL_law_X5_judge
set_option maxRecDepth 20000 in
theorem ggL_law_L_judgeByRules : GoodIn wsL_law wsL_judgeByRules := goodIn_ca (goodIn_r _ [558, 74, 559, 560, 561, 2, 562, 15, 522, 138, 139, 140, 91, 92, 93, 80, 81, 563, 564, 565, 23, 566, 38, 528, 529, 530, 531, 282, 527, 101, 102, 103, 37, 104, 105, 283, 284, 285, 286, 217, 218, 219, 220, 221, 222, 223, 224, 287, 288, 289, 290, 44, 532, 533, 534, 87, 535, 112, 113, 536, 537, 538, 539, 111, 606, 607, 608, 609, 629, 630, 631, 632, 633, 637, 638, 639, 640, 641, 634, 635, 636] (by decide +kernel) (by decide +kernel)) (goodIn_sub (fun _ h => List.mem_append_left _ (List.mem_append_left _ (List.mem_append_right _ h))) (by decide +kernel))
set_option maxRecDepth 20000 in
theorem gL_law_L_judgeByRules : GoodIn wsL_law (va_wsS RL 116 yL_judgeByRules wsL_judgeByRules) := goodIn_app (goodIn_of _ (by decide +kernel)) ggL_law_L_judgeByRules
set_option maxRecDepth 20000 in
theorem ggL_law_X5_judgeByRules : GoodIn wsL_law wsX5_judgeByRules := goodIn_r _ [570, 182, 183, 5, 184, 179, 180, 181, 185, 186, 187, 188, 189, 544, 545, 546, 547, 548, 549, 550, 551, 64, 63, 65, 552, 553, 554, 555, 60, 59, 61, 62, 610, 611, 612, 613, 614, 615, 616, 617, 618, 619, 620, 621, 622, 623] (by decide +kernel) (by decide +kernel)
set_option maxRecDepth 20000 in
theorem gL_law_X5_judgeByRules : GoodIn wsL_law (wsV RL 118 RX5 yX5_judgeByRules wsX5_judgeByRules) := goodIn_app (goodIn_of _ (by decide +kernel)) ggL_law_X5_judgeByRules
set_option maxRecDepth 20000 in
theorem ggL_law_L_path : GoodIn wsL_law wsL_path := goodIn_ca (goodIn_ca (goodIn_r _ [573, 74, 75, 574, 575, 576, 2, 577, 15, 91, 92, 93, 80, 81, 481, 482, 483, 484, 82, 83, 84, 578, 579, 580, 23, 581, 39, 282, 399, 400, 401, 402, 403, 404, 405, 406, 328, 407, 408, 409, 377, 410, 382, 384, 385, 101, 102, 103, 37, 104, 105, 283, 284, 285, 286, 217, 218, 219, 220, 221, 222, 223, 224, 287, 288, 289, 290, 44, 582, 583, 584, 87, 585, 112, 113, 423, 536, 537, 538, 539, 111, 419, 420, 421, 422, 586, 416, 417, 418, 424, 425, 426, 427, 428, 532, 533, 534, 535, 606, 607, 608, 609, 629, 630, 631, 632, 633, 637, 638, 639, 640, 641, 642, 643, 644, 645, 634, 635, 636] (by decide +kernel) (by decide +kernel)) (goodIn_sub (fun _ h => List.mem_append_left _ (List.mem_append_left _ (List.mem_append_right _ h))) (by decide +kernel))) (goodIn_sub (fun _ h => List.mem_append_left _ (List.mem_append_right _ h)) (by decide +kernel))
set_option maxRecDepth 20000 in
theorem gL_law_L_path : GoodIn wsL_law (va_wsS RL 119 yL_path wsL_path) := goodIn_app (goodIn_of _ (by decide +kernel)) ggL_law_L_path
set_option maxRecDepth 20000 in
theorem ggL_law_X5_path : GoodIn wsL_law wsX5_path := goodIn_r _ [590, 175, 182, 183, 5, 184, 179, 180, 181, 185, 186, 187, 188, 189, 437, 438, 439, 440, 441, 67, 442, 443, 444, 445, 64, 59, 304, 305, 306, 307, 62, 61, 308, 309, 310, 311, 312, 60, 446, 447, 448, 449, 66, 69, 68, 450, 451, 452, 453, 454, 455, 456, 457, 591, 592, 593, 594, 465, 462, 463, 464, 610, 611, 612, 613, 614, 615, 616, 617, 618, 619, 620, 621, 622, 623] (by decide +kernel) (by decide +kernel)
set_option maxRecDepth 20000 in
theorem gL_law_X5_path : GoodIn wsL_law (wsV RL 121 RX5 yX5_path wsX5_path) := goodIn_app (goodIn_of _ (by decide +kernel)) ggL_law_X5_path
set_option maxRecDepth 20000 in
theorem ggL_law_L_actionOf : GoodIn wsL_law wsL_actionOf := goodIn_ca (goodIn_r _ [597, 74, 598, 599, 600, 2, 601, 15, 88, 89, 90, 80, 81, 91, 92, 93, 563, 564, 565, 23, 566, 38, 528, 529, 530, 531, 282, 527, 101, 102, 103, 37, 104, 105, 283, 284, 285, 286, 217, 218, 219, 220, 221, 222, 223, 224, 287, 288, 289, 290, 44, 532, 533, 534, 87, 535, 112, 113, 536, 537, 538, 539, 111, 606, 607, 608, 609, 629, 630, 631, 632, 633, 637, 638, 639, 640, 641, 634, 635, 636] (by decide +kernel) (by decide +kernel)) (goodIn_sub (fun _ h => List.mem_append_left _ (List.mem_append_left _ (List.mem_append_right _ h))) (by decide +kernel))
set_option maxRecDepth 20000 in
theorem gL_law_L_actionOf : GoodIn wsL_law (va_wsS RL 122 yL_actionOf wsL_actionOf) := goodIn_app (goodIn_of _ (by decide +kernel)) ggL_law_L_actionOf
set_option maxRecDepth 20000 in
theorem ggL_law_X5_actionOf : GoodIn wsL_law wsX5_actionOf := goodIn_r _ [605, 176, 177, 5, 178, 179, 180, 181, 182, 183, 184, 185, 186, 187, 188, 189, 548, 549, 550, 551, 64, 63, 65, 552, 553, 554, 555, 60, 59, 61, 62, 610, 611, 612, 613, 614, 615, 616, 617, 618, 619, 620, 621, 622, 623] (by decide +kernel) (by decide +kernel)
set_option maxRecDepth 20000 in
theorem gL_law_X5_actionOf : GoodIn wsL_law (wsV RL 125 RX5 yX5_actionOf wsX5_actionOf) := goodIn_app (goodIn_of _ (by decide +kernel)) ggL_law_X5_actionOf
