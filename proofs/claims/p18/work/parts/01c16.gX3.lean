set_option maxRecDepth 20000 in
theorem ggX3_matches_X3_argumentOf : GoodIn wsX3_matches wsX3_argumentOf := goodIn_r _ [7, 8, 9, 10, 11, 12, 13] (by decide +kernel) (by decide +kernel)
set_option maxRecDepth 20000 in
theorem gX3_matches_X3_argumentOf : GoodIn wsX3_matches (wsV RX3 28 RX3 yX3_argumentOf wsX3_argumentOf) := goodIn_app (goodIn_of _ (by decide +kernel)) ggX3_matches_X3_argumentOf
set_option maxRecDepth 20000 in
theorem ggX3_testsFor_X3_argumentOf : GoodIn wsX3_testsFor wsX3_argumentOf := goodIn_r _ [8, 9, 23, 24, 25, 26, 27] (by decide +kernel) (by decide +kernel)
set_option maxRecDepth 20000 in
theorem gX3_testsFor_X3_argumentOf : GoodIn wsX3_testsFor (wsV RX3 28 RX3 yX3_argumentOf wsX3_argumentOf) := goodIn_app (goodIn_of _ (by decide +kernel)) ggX3_testsFor_X3_argumentOf
set_option maxRecDepth 20000 in
theorem ggX3_testsFor_X3_lowerTests : GoodIn wsX3_testsFor wsX3_lowerTests := goodIn_r _ [13, 1, 3, 23, 24, 25, 26, 27] (by decide +kernel) (by decide +kernel)
set_option maxRecDepth 20000 in
theorem gX3_testsFor_X3_lowerTests : GoodIn wsX3_testsFor (wsV RX3 36 RX3 yX3_lowerTests wsX3_lowerTests) := goodIn_app (goodIn_of _ (by decide +kernel)) ggX3_testsFor_X3_lowerTests
set_option maxRecDepth 20000 in
theorem ggX3_testsFor_X3_mostTests : GoodIn wsX3_testsFor wsX3_mostTests := goodIn_r _ [17, 10, 11, 12, 7, 13, 1, 3, 18, 19, 20, 21, 22, 23, 24, 25, 26, 27] (by decide +kernel) (by decide +kernel)
set_option maxRecDepth 20000 in
theorem gX3_testsFor_X3_mostTests : GoodIn wsX3_testsFor (wsV RX3 40 RX3 yX3_mostTests wsX3_mostTests) := goodIn_app (goodIn_of _ (by decide +kernel)) ggX3_testsFor_X3_mostTests
set_option maxRecDepth 20000 in
theorem ggX3_mostTests_X3_lowerTests : GoodIn wsX3_mostTests wsX3_lowerTests := goodIn_r _ [5, 6, 7, 13, 14, 15, 16, 17] (by decide +kernel) (by decide +kernel)
set_option maxRecDepth 20000 in
theorem gX3_mostTests_X3_lowerTests : GoodIn wsX3_mostTests (wsV RX3 36 RX3 yX3_lowerTests wsX3_lowerTests) := goodIn_app (goodIn_of _ (by decide +kernel)) ggX3_mostTests_X3_lowerTests
set_option maxRecDepth 20000 in
theorem ggX3_mostTests_X3_upperTests : GoodIn wsX3_mostTests wsX3_upperTests := goodIn_r _ [11, 6, 12, 13, 14, 15, 16, 17] (by decide +kernel) (by decide +kernel)
set_option maxRecDepth 20000 in
theorem gX3_mostTests_X3_upperTests : GoodIn wsX3_mostTests (wsV RX3 43 RX3 yX3_upperTests wsX3_upperTests) := goodIn_app (goodIn_of _ (by decide +kernel)) ggX3_mostTests_X3_upperTests
