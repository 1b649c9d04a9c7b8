set_option maxRecDepth 20000 in
theorem ggX5_isFilter_X5_in : GoodIn wsX5_isFilter wsX5_in := goodIn_r _ [4] (by decide +kernel) (by decide +kernel)
set_option maxRecDepth 20000 in
theorem gX5_isFilter_X5_in : GoodIn wsX5_isFilter (va_wsS RX5 48 yX5_in wsX5_in) := goodIn_app (goodIn_of _ (by decide +kernel)) ggX5_isFilter_X5_in
set_option maxRecDepth 20000 in
theorem ggX5_isNumber_X5_in : GoodIn wsX5_isNumber wsX5_in := goodIn_r _ [4] (by decide +kernel) (by decide +kernel)
set_option maxRecDepth 20000 in
theorem gX5_isNumber_X5_in : GoodIn wsX5_isNumber (va_wsS RX5 48 yX5_in wsX5_in) := goodIn_app (goodIn_of _ (by decide +kernel)) ggX5_isNumber_X5_in
set_option maxRecDepth 20000 in
theorem ggX5_isRule_X5_isFilter : GoodIn wsX5_isRule wsX5_isFilter := goodIn_r _ [5, 6, 7, 4, 8] (by decide +kernel) (by decide +kernel)
set_option maxRecDepth 20000 in
theorem gX5_isRule_X5_isFilter : GoodIn wsX5_isRule (va_wsS RX5 52 yX5_isFilter wsX5_isFilter) := goodIn_app (goodIn_of _ (by decide +kernel)) ggX5_isRule_X5_isFilter
set_option maxRecDepth 20000 in
theorem ggX5_isRule_X5_in : GoodIn wsX5_isRule wsX5_in := goodIn_r _ [8] (by decide +kernel) (by decide +kernel)
set_option maxRecDepth 20000 in
theorem gX5_isRule_X5_in : GoodIn wsX5_isRule (va_wsS RX5 48 yX5_in wsX5_in) := goodIn_app (goodIn_of _ (by decide +kernel)) ggX5_isRule_X5_in
set_option maxRecDepth 20000 in
theorem ggX5_add_X5_isFilter : GoodIn wsX5_add wsX5_isFilter := goodIn_r _ [11, 12, 13, 10, 14] (by decide +kernel) (by decide +kernel)
set_option maxRecDepth 20000 in
theorem gX5_add_X5_isFilter : GoodIn wsX5_add (va_wsS RX5 52 yX5_isFilter wsX5_isFilter) := goodIn_app (goodIn_of _ (by decide +kernel)) ggX5_add_X5_isFilter
set_option maxRecDepth 20000 in
theorem ggX5_add_X5_isNumber : GoodIn wsX5_add wsX5_isNumber := goodIn_r _ [17, 12, 13, 10, 14] (by decide +kernel) (by decide +kernel)
set_option maxRecDepth 20000 in
theorem gX5_add_X5_isNumber : GoodIn wsX5_add (va_wsS RX5 56 yX5_isNumber wsX5_isNumber) := goodIn_app (goodIn_of _ (by decide +kernel)) ggX5_add_X5_isNumber
set_option maxRecDepth 20000 in
theorem ggX5_add_X5_in : GoodIn wsX5_add wsX5_in := goodIn_r _ [14] (by decide +kernel) (by decide +kernel)
set_option maxRecDepth 20000 in
theorem gX5_add_X5_in : GoodIn wsX5_add (va_wsS RX5 48 yX5_in wsX5_in) := goodIn_app (goodIn_of _ (by decide +kernel)) ggX5_add_X5_in
set_option maxRecDepth 20000 in
theorem ggX5_add_X5_goesWell : GoodIn wsX5_add wsX5_goesWell := goodIn_r _ [21, 22, 23, 24, 25, 26, 27, 28, 29, 30, 31, 32, 33, 34, 35, 36] (by decide +kernel) (by decide +kernel)
set_option maxRecDepth 20000 in
theorem gX5_add_X5_goesWell : GoodIn wsX5_add (wsV RX5 59 RX5 yX5_goesWell wsX5_goesWell) := goodIn_app (goodIn_of _ (by decide +kernel)) ggX5_add_X5_goesWell
set_option maxRecDepth 20000 in
theorem ggX5_remove_X5_isFilter : GoodIn wsX5_remove wsX5_isFilter := goodIn_r _ [11, 12, 13, 10, 14] (by decide +kernel) (by decide +kernel)
set_option maxRecDepth 20000 in
theorem gX5_remove_X5_isFilter : GoodIn wsX5_remove (va_wsS RX5 52 yX5_isFilter wsX5_isFilter) := goodIn_app (goodIn_of _ (by decide +kernel)) ggX5_remove_X5_isFilter
set_option maxRecDepth 20000 in
theorem ggX5_remove_X5_isRule : GoodIn wsX5_remove wsX5_isRule := goodIn_r _ [18, 1, 8, 9, 10, 11, 12, 13, 14, 24, 25, 26, 27, 28, 29, 30, 31, 32, 33, 34, 35, 36, 37] (by decide +kernel) (by decide +kernel)
set_option maxRecDepth 20000 in
theorem gX5_remove_X5_isRule : GoodIn wsX5_remove (wsV RX5 66 RX5 yX5_isRule wsX5_isRule) := goodIn_app (goodIn_of _ (by decide +kernel)) ggX5_remove_X5_isRule
set_option maxRecDepth 20000 in
theorem ggX5_remove_X5_goesWell : GoodIn wsX5_remove wsX5_goesWell := goodIn_r _ [22, 23, 24, 25, 26, 27, 28, 29, 30, 31, 32, 33, 34, 35, 36, 37] (by decide +kernel) (by decide +kernel)
set_option maxRecDepth 20000 in
theorem gX5_remove_X5_goesWell : GoodIn wsX5_remove (wsV RX5 59 RX5 yX5_goesWell wsX5_goesWell) := goodIn_app (goodIn_of _ (by decide +kernel)) ggX5_remove_X5_goesWell
set_option maxRecDepth 20000 in
theorem ggX5_setDefault_X5_isFilter : GoodIn wsX5_setDefault wsX5_isFilter := goodIn_r _ [6, 7, 8, 5, 9] (by decide +kernel) (by decide +kernel)
set_option maxRecDepth 20000 in
theorem gX5_setDefault_X5_isFilter : GoodIn wsX5_setDefault (va_wsS RX5 52 yX5_isFilter wsX5_isFilter) := goodIn_app (goodIn_of _ (by decide +kernel)) ggX5_setDefault_X5_isFilter
set_option maxRecDepth 20000 in
theorem ggX5_setDefault_X5_in : GoodIn wsX5_setDefault wsX5_in := goodIn_r _ [9] (by decide +kernel) (by decide +kernel)
set_option maxRecDepth 20000 in
theorem gX5_setDefault_X5_in : GoodIn wsX5_setDefault (va_wsS RX5 48 yX5_in wsX5_in) := goodIn_app (goodIn_of _ (by decide +kernel)) ggX5_setDefault_X5_in
set_option maxRecDepth 20000 in
theorem ggX5_setDefault_X5_goesWell : GoodIn wsX5_setDefault wsX5_goesWell := goodIn_r _ [13, 14, 15, 16, 17, 18, 19, 20, 21, 22, 23, 24, 25, 26, 27, 28] (by decide +kernel) (by decide +kernel)
set_option maxRecDepth 20000 in
theorem gX5_setDefault_X5_goesWell : GoodIn wsX5_setDefault (wsV RX5 59 RX5 yX5_goesWell wsX5_goesWell) := goodIn_app (goodIn_of _ (by decide +kernel)) ggX5_setDefault_X5_goesWell
set_option maxRecDepth 20000 in
theorem ggX5_setFrequency_X5_isNumber : GoodIn wsX5_setFrequency wsX5_isNumber := goodIn_r _ [6, 7, 8, 5, 9] (by decide +kernel) (by decide +kernel)
set_option maxRecDepth 20000 in
theorem gX5_setFrequency_X5_isNumber : GoodIn wsX5_setFrequency (va_wsS RX5 56 yX5_isNumber wsX5_isNumber) := goodIn_app (goodIn_of _ (by decide +kernel)) ggX5_setFrequency_X5_isNumber
set_option maxRecDepth 20000 in
theorem ggX5_setFrequency_X5_in : GoodIn wsX5_setFrequency wsX5_in := goodIn_r _ [9] (by decide +kernel) (by decide +kernel)
set_option maxRecDepth 20000 in
theorem gX5_setFrequency_X5_in : GoodIn wsX5_setFrequency (va_wsS RX5 48 yX5_in wsX5_in) := goodIn_app (goodIn_of _ (by decide +kernel)) ggX5_setFrequency_X5_in
set_option maxRecDepth 20000 in
theorem ggX5_setFrequency_X5_goesWell : GoodIn wsX5_setFrequency wsX5_goesWell := goodIn_r _ [13, 14, 15, 16, 17, 18, 19, 20, 21, 22, 23, 24, 25, 26, 27, 28] (by decide +kernel) (by decide +kernel)
set_option maxRecDepth 20000 in
theorem gX5_setFrequency_X5_goesWell : GoodIn wsX5_setFrequency (wsV RX5 59 RX5 yX5_goesWell wsX5_goesWell) := goodIn_app (goodIn_of _ (by decide +kernel)) ggX5_setFrequency_X5_goesWell
set_option maxRecDepth 20000 in
theorem ggX5_rules_X5_isFilter : GoodIn wsX5_rules wsX5_isFilter := goodIn_r _ [5, 6, 7, 4, 8] (by decide +kernel) (by decide +kernel)
set_option maxRecDepth 20000 in
theorem gX5_rules_X5_isFilter : GoodIn wsX5_rules (va_wsS RX5 52 yX5_isFilter wsX5_isFilter) := goodIn_app (goodIn_of _ (by decide +kernel)) ggX5_rules_X5_isFilter
set_option maxRecDepth 20000 in
theorem ggX5_rules_X5_goesWell : GoodIn wsX5_rules wsX5_goesWell := goodIn_r _ [12, 13, 14, 15, 16, 17, 18, 19, 20, 21, 22, 23, 24, 25, 26, 27] (by decide +kernel) (by decide +kernel)
set_option maxRecDepth 20000 in
theorem gX5_rules_X5_goesWell : GoodIn wsX5_rules (wsV RX5 59 RX5 yX5_goesWell wsX5_goesWell) := goodIn_app (goodIn_of _ (by decide +kernel)) ggX5_rules_X5_goesWell
set_option maxRecDepth 20000 in
theorem ggX5_hiderOf_X5_hides : GoodIn wsX5_hiderOf wsX5_hides := goodIn_r _ [8, 9, 2, 1, 3, 10, 11, 12, 13, 14, 15, 16, 17, 18, 19, 20, 21, 22, 23, 24] (by decide +kernel) (by decide +kernel)
set_option maxRecDepth 20000 in
theorem gX5_hiderOf_X5_hides : GoodIn wsX5_hiderOf (wsV RX5 72 RX5 yX5_hides wsX5_hides) := goodIn_app (goodIn_of _ (by decide +kernel)) ggX5_hiderOf_X5_hides
set_option maxRecDepth 20000 in
theorem ggX5_hider_X5_isFilter : GoodIn wsX5_hider wsX5_isFilter := goodIn_r _ [4, 5, 6, 3, 7] (by decide +kernel) (by decide +kernel)
set_option maxRecDepth 20000 in
theorem gX5_hider_X5_isFilter : GoodIn wsX5_hider (va_wsS RX5 52 yX5_isFilter wsX5_isFilter) := goodIn_app (goodIn_of _ (by decide +kernel)) ggX5_hider_X5_isFilter
set_option maxRecDepth 20000 in
theorem ggX5_hider_X5_isRule : GoodIn wsX5_hider wsX5_isRule := goodIn_r _ [11, 12, 1, 2, 3, 4, 5, 6, 7, 31, 32, 33, 34, 35, 36, 37, 38, 39, 40, 41, 42, 43, 44] (by decide +kernel) (by decide +kernel)
set_option maxRecDepth 20000 in
theorem gX5_hider_X5_isRule : GoodIn wsX5_hider (wsV RX5 66 RX5 yX5_isRule wsX5_isRule) := goodIn_app (goodIn_of _ (by decide +kernel)) ggX5_hider_X5_isRule
set_option maxRecDepth 20000 in
theorem ggX5_hider_X5_goesWell : GoodIn wsX5_hider wsX5_goesWell := goodIn_r _ [16, 17, 31, 32, 33, 34, 35, 36, 37, 38, 39, 40, 41, 42, 43, 44] (by decide +kernel) (by decide +kernel)
set_option maxRecDepth 20000 in
theorem gX5_hider_X5_goesWell : GoodIn wsX5_hider (wsV RX5 59 RX5 yX5_goesWell wsX5_goesWell) := goodIn_app (goodIn_of _ (by decide +kernel)) ggX5_hider_X5_goesWell
set_option maxRecDepth 20000 in
theorem ggX5_hider_X5_hiderOf : GoodIn wsX5_hider wsX5_hiderOf := goodIn_r _ [21, 22, 23, 24, 25, 26, 27, 3, 28, 29, 30, 31, 32, 33, 34, 35, 36, 37, 38, 39, 40, 41, 42, 43, 44] (by decide +kernel) (by decide +kernel)
set_option maxRecDepth 20000 in
theorem gX5_hider_X5_hiderOf : GoodIn wsX5_hider (wsV RX5 75 RX5 yX5_hiderOf wsX5_hiderOf) := goodIn_app (goodIn_of _ (by decide +kernel)) ggX5_hider_X5_hiderOf
set_option maxRecDepth 20000 in
theorem ggX5_hasNumber_X5_hiderOf : GoodIn wsX5_hasNumber wsX5_hiderOf := goodIn_r _ [7, 8, 9, 10, 11, 12, 13, 6, 14, 2, 15, 16, 17, 18, 19, 20, 21, 22, 23, 24, 25, 26, 27, 28, 29] (by decide +kernel) (by decide +kernel)
set_option maxRecDepth 20000 in
theorem gX5_hasNumber_X5_hiderOf : GoodIn wsX5_hasNumber (wsV RX5 75 RX5 yX5_hiderOf wsX5_hiderOf) := goodIn_app (goodIn_of _ (by decide +kernel)) ggX5_hasNumber_X5_hiderOf
set_option maxRecDepth 20000 in
theorem ggX5_lay_X5_hasNumber : GoodIn wsX5_lay wsX5_hasNumber := goodIn_r _ [7, 8, 9, 10, 11, 12, 6, 13, 14, 15, 16, 17, 18, 19, 20, 21, 33, 34, 35, 36, 37, 38, 39, 40, 41, 42, 43, 44, 45, 46] (by decide +kernel) (by decide +kernel)
set_option maxRecDepth 20000 in
theorem gX5_lay_X5_hasNumber : GoodIn wsX5_lay (wsV RX5 82 RX5 yX5_hasNumber wsX5_hasNumber) := goodIn_app (goodIn_of _ (by decide +kernel)) ggX5_lay_X5_hasNumber
set_option maxRecDepth 20000 in
theorem ggX5_lay_X5_layPart : GoodIn wsX5_lay wsX5_layPart := goodIn_r _ [25, 26, 2, 27, 28, 29, 30, 31, 6, 32, 33, 34, 35, 36, 37, 38, 39, 40, 41, 42, 43, 44, 45, 46] (by decide +kernel) (by decide +kernel)
set_option maxRecDepth 20000 in
theorem gX5_lay_X5_layPart : GoodIn wsX5_lay (wsV RX5 85 RX5 yX5_layPart wsX5_layPart) := goodIn_app (goodIn_of _ (by decide +kernel)) ggX5_lay_X5_layPart
set_option maxRecDepth 20000 in
theorem ggX5_layPart_X5_costOf : GoodIn wsX5_layPart wsX5_costOf := goodIn_r _ [9, 4, 10, 11, 12, 13, 14, 15, 16, 17, 18, 19, 20, 21, 22, 23] (by decide +kernel) (by decide +kernel)
set_option maxRecDepth 20000 in
theorem gX5_layPart_X5_costOf : GoodIn wsX5_layPart (wsV RX5 89 RX5 yX5_costOf wsX5_costOf) := goodIn_app (goodIn_of _ (by decide +kernel)) ggX5_layPart_X5_costOf
set_option maxRecDepth 20000 in
theorem ggX5_halves_X5_hiderOf : GoodIn wsX5_halves wsX5_hiderOf := goodIn_r _ [8, 9, 3, 10, 11, 12, 13, 7, 14, 2, 15, 20, 21, 22, 23, 24, 25, 26, 27, 28, 29, 30, 31, 32, 33] (by decide +kernel) (by decide +kernel)
set_option maxRecDepth 20000 in
theorem gX5_halves_X5_hiderOf : GoodIn wsX5_halves (wsV RX5 75 RX5 yX5_hiderOf wsX5_hiderOf) := goodIn_app (goodIn_of _ (by decide +kernel)) ggX5_halves_X5_hiderOf
set_option maxRecDepth 20000 in
theorem ggX5_halves_X5_halvesOf : GoodIn wsX5_halves wsX5_halvesOf := goodIn_r _ [18, 19] (by decide +kernel) (by decide +kernel)
set_option maxRecDepth 20000 in
theorem gX5_halves_X5_halvesOf : GoodIn wsX5_halves (va_wsS RX5 94 yX5_halvesOf wsX5_halvesOf) := goodIn_app (goodIn_of _ (by decide +kernel)) ggX5_halves_X5_halvesOf
