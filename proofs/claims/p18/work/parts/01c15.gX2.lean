set_option maxRecDepth 20000 in
theorem ggX2_weighAllTrees_X2_weighTrees : GoodIn wsX2_weighAllTrees wsX2_weighTrees := goodIn_r _ [6, 7, 8, 9, 10, 11, 5, 12, 13, 14, 15, 16, 17, 18, 19, 20, 21, 22] (by decide +kernel) (by decide +kernel)
set_option maxRecDepth 20000 in
theorem gX2_weighAllTrees_X2_weighTrees : GoodIn wsX2_weighAllTrees (wsV RX2 30 RX2 yX2_weighTrees wsX2_weighTrees) := goodIn_app (goodIn_of _ (by decide +kernel)) ggX2_weighAllTrees_X2_weighTrees
set_option maxRecDepth 20000 in
theorem ggX2_weighTrees_X2_costBelow : GoodIn wsX2_weighTrees wsX2_costBelow := goodIn_r _ [7, 2, 13, 14, 15, 16, 17] (by decide +kernel) (by decide +kernel)
set_option maxRecDepth 20000 in
theorem gX2_weighTrees_X2_costBelow : GoodIn wsX2_weighTrees (wsV RX2 34 RX2 yX2_costBelow wsX2_costBelow) := goodIn_app (goodIn_of _ (by decide +kernel)) ggX2_weighTrees_X2_costBelow
set_option maxRecDepth 20000 in
theorem ggX2_weighTrees_X2_weightOf : GoodIn wsX2_weighTrees wsX2_weightOf := goodIn_r _ [11, 12, 13, 14, 15, 16, 17] (by decide +kernel) (by decide +kernel)
set_option maxRecDepth 20000 in
theorem gX2_weighTrees_X2_weightOf : GoodIn wsX2_weighTrees (wsV RX2 38 RX2 yX2_weightOf wsX2_weightOf) := goodIn_app (goodIn_of _ (by decide +kernel)) ggX2_weighTrees_X2_weightOf
set_option maxRecDepth 20000 in
theorem ggX2_bestTree_X2_grow : GoodIn wsX2_bestTree wsX2_grow := goodIn_r _ [5, 6, 7, 8, 9, 10, 2, 3, 4, 11, 12, 13, 14, 15, 16, 17, 18, 19, 20, 21, 22, 23, 24, 25, 26, 27, 28, 29] (by decide +kernel) (by decide +kernel)
set_option maxRecDepth 20000 in
theorem gX2_bestTree_X2_grow : GoodIn wsX2_bestTree (va_wsS RX2 42 yX2_grow wsX2_grow) := goodIn_app (goodIn_of _ (by decide +kernel)) ggX2_bestTree_X2_grow
set_option maxRecDepth 20000 in
theorem ggX2_grow_X2_grow : GoodIn wsX2_grow wsX2_grow := goodIn_r _ [0, 1, 2, 3, 4, 5, 6, 7, 8, 9, 10, 11, 12, 13, 14, 15, 16, 17, 18, 19, 20, 21, 22, 23, 24, 25, 26, 27] (by decide +kernel) (by decide +kernel)
set_option maxRecDepth 20000 in
theorem gX2_grow_X2_grow : GoodIn wsX2_grow (va_wsS RX2 42 yX2_grow wsX2_grow) := goodIn_app (goodIn_of _ (by decide +kernel)) ggX2_grow_X2_grow
set_option maxRecDepth 20000 in
theorem ggX2_grow_X1_init : GoodIn wsX2_grow wsX1_init := goodIn_r _ [11, 12, 13, 14, 15, 16, 17, 18, 24, 25, 26, 27] (by decide +kernel) (by decide +kernel)
set_option maxRecDepth 20000 in
theorem gX2_grow_X1_init : GoodIn wsX2_grow (wsX1_init) := ggX2_grow_X1_init
