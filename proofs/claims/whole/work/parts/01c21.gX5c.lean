set_option maxRecDepth 20000 in
theorem ggX5_path_X5_halvesMade : GoodIn wsX5_path wsX5_halvesMade := goodIn_r _ [56, 24, 25, 37, 31, 30, 57, 26, 27, 28, 4, 29, 32, 33, 34, 35, 36, 58, 59, 60, 61, 62, 63, 64, 65, 66, 67, 68, 69, 70, 71, 72, 73, 74] (by decide +kernel) (by decide +kernel)
set_option maxRecDepth 20000 in
theorem gX5_path_X5_halvesMade : GoodIn wsX5_path (wsV RX5 124 RX5 yX5_halvesMade wsX5_halvesMade) := goodIn_app (goodIn_of _ (by decide +kernel)) ggX5_path_X5_halvesMade
set_option maxRecDepth 20000 in
theorem ggX5_actionOf_X5_isFilter : GoodIn wsX5_actionOf wsX5_isFilter := goodIn_r _ [4, 5, 6, 3, 7] (by decide +kernel) (by decide +kernel)
set_option maxRecDepth 20000 in
theorem gX5_actionOf_X5_isFilter : GoodIn wsX5_actionOf (va_wsS RX5 52 yX5_isFilter wsX5_isFilter) := goodIn_app (goodIn_of _ (by decide +kernel)) ggX5_actionOf_X5_isFilter
set_option maxRecDepth 20000 in
theorem ggX5_actionOf_X5_isNumber : GoodIn wsX5_actionOf wsX5_isNumber := goodIn_r _ [10, 5, 6, 3, 7] (by decide +kernel) (by decide +kernel)
set_option maxRecDepth 20000 in
theorem gX5_actionOf_X5_isNumber : GoodIn wsX5_actionOf (va_wsS RX5 56 yX5_isNumber wsX5_isNumber) := goodIn_app (goodIn_of _ (by decide +kernel)) ggX5_actionOf_X5_isNumber
set_option maxRecDepth 20000 in
theorem ggX5_actionOf_X5_goesWell : GoodIn wsX5_actionOf wsX5_goesWell := goodIn_r _ [14, 15, 31, 32, 33, 34, 35, 36, 37, 38, 39, 40, 41, 42, 43, 44] (by decide +kernel) (by decide +kernel)
set_option maxRecDepth 20000 in
theorem gX5_actionOf_X5_goesWell : GoodIn wsX5_actionOf (wsV RX5 59 RX5 yX5_goesWell wsX5_goesWell) := goodIn_app (goodIn_of _ (by decide +kernel)) ggX5_actionOf_X5_goesWell
set_option maxRecDepth 20000 in
theorem ggX5_actionOf_X5_judgeBy : GoodIn wsX5_actionOf wsX5_judgeBy := goodIn_r _ [19, 20, 21, 22, 23, 24, 25, 3, 26, 27, 28, 29, 30, 31, 32, 33, 34, 35, 36, 37, 38, 39, 40, 41, 42, 43, 44] (by decide +kernel) (by decide +kernel)
set_option maxRecDepth 20000 in
theorem gX5_actionOf_X5_judgeBy : GoodIn wsX5_actionOf (wsV RX5 116 RX5 yX5_judgeBy wsX5_judgeBy) := goodIn_app (goodIn_of _ (by decide +kernel)) ggX5_actionOf_X5_judgeBy
