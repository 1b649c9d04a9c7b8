set_option maxRecDepth 20000 in
theorem ggX0_pathOf_X3_matches : GoodIn wsX0_pathOf wsX3_matches := goodIn_r _ [73, 49, 50, 52, 53, 54, 47, 55, 56, 79, 80, 81, 82, 83] (by decide +kernel) (by decide +kernel)
set_option maxRecDepth 20000 in
theorem gX0_pathOf_X3_matches : GoodIn wsX0_pathOf (wsV RX0 115 RX3 yX3_matches wsX3_matches) := goodIn_app (goodIn_of _ (by decide +kernel)) ggX0_pathOf_X3_matches
set_option maxRecDepth 20000 in
theorem ggX0_actionByTree_X0_lastTest : GoodIn wsX0_actionByTree wsX0_lastTest := goodIn_r _ [7, 8, 9, 10, 11, 12, 13, 14, 15, 16, 61, 62, 63, 64, 65, 57, 58, 59, 60] (by decide +kernel) (by decide +kernel)
set_option maxRecDepth 20000 in
theorem gX0_actionByTree_X0_lastTest : GoodIn wsX0_actionByTree (wsV RX0 119 RX0 yX0_lastTest wsX0_lastTest) := goodIn_app (goodIn_of _ (by decide +kernel)) ggX0_actionByTree_X0_lastTest
set_option maxRecDepth 20000 in
theorem ggX0_actionByTree_X0_actionOfFirstMatch : GoodIn wsX0_actionByTree wsX0_actionOfFirstMatch := goodIn_r _ [20, 21, 1, 22, 23, 24, 25, 26, 27, 28, 29, 30, 31, 32, 33, 34, 35, 36, 37, 38, 39, 40, 41, 42, 43, 44, 45, 46, 47, 48, 49, 50, 51, 52, 53, 54, 55, 56, 66, 67, 68, 69, 70, 61, 62, 63, 64, 65, 71, 72, 73] (by decide +kernel) (by decide +kernel)
set_option maxRecDepth 20000 in
theorem gX0_actionByTree_X0_actionOfFirstMatch : GoodIn wsX0_actionByTree (wsV RX0 126 RX0 yX0_actionOfFirstMatch wsX0_actionOfFirstMatch) := goodIn_app (goodIn_of _ (by decide +kernel)) ggX0_actionByTree_X0_actionOfFirstMatch
set_option maxRecDepth 20000 in
theorem ggX0_actionByRules_X0_actionOfFirstMatch : GoodIn wsX0_actionByRules wsX0_actionOfFirstMatch := goodIn_r _ [6, 7, 8, 9, 10, 11, 12, 13, 14, 15, 16, 17, 18, 19, 20, 21, 22, 23, 24, 25, 26, 27, 28, 29, 30, 31, 32, 33, 34, 35, 36, 37, 38, 39, 40, 41, 42, 43, 49, 50, 51, 52, 53, 44, 45, 46, 47, 48, 54, 55, 56] (by decide +kernel) (by decide +kernel)
set_option maxRecDepth 20000 in
theorem gX0_actionByRules_X0_actionOfFirstMatch : GoodIn wsX0_actionByRules (wsV RX0 126 RX0 yX0_actionOfFirstMatch wsX0_actionOfFirstMatch) := goodIn_app (goodIn_of _ (by decide +kernel)) ggX0_actionByRules_X0_actionOfFirstMatch
set_option maxRecDepth 20000 in
theorem ggX0_actionOfFirstMatch_Jx4a65c_size_8abf5 : GoodIn wsX0_actionOfFirstMatch wsJx4a65c_size_8abf5 := goodIn_r _ [7, 8, 48, 49, 50] (by decide +kernel) (by decide +kernel)
set_option maxRecDepth 20000 in
theorem gX0_actionOfFirstMatch_Jx4a65c_size_8abf5 : GoodIn wsX0_actionOfFirstMatch (wsV RX0 21 RJx4a65c yJx4a65c_size_8abf5 wsJx4a65c_size_8abf5) := goodIn_app (goodIn_of _ (by decide +kernel)) ggX0_actionOfFirstMatch_Jx4a65c_size_8abf5
set_option maxRecDepth 20000 in
theorem ggX0_actionOfFirstMatch_Jx4a65c_get_915e3 : GoodIn wsX0_actionOfFirstMatch wsJx4a65c_get_915e3 := goodIn_r _ [12, 8, 13, 14, 15, 16, 17, 18, 19, 20, 21, 22, 23, 6, 24, 25, 48, 49, 50] (by decide +kernel) (by decide +kernel)
set_option maxRecDepth 20000 in
theorem gX0_actionOfFirstMatch_Jx4a65c_get_915e3 : GoodIn wsX0_actionOfFirstMatch (wsV RX0 33 RJx4a65c yJx4a65c_get_915e3 wsJx4a65c_get_915e3) := goodIn_app (goodIn_of _ (by decide +kernel)) ggX0_actionOfFirstMatch_Jx4a65c_get_915e3
set_option maxRecDepth 20000 in
theorem ggX0_actionOfFirstMatch_X3_matches : GoodIn wsX0_actionOfFirstMatch wsX3_matches := goodIn_r _ [30, 31, 32, 33, 34, 35, 29, 36, 37, 38, 39, 40, 41, 42] (by decide +kernel) (by decide +kernel)
set_option maxRecDepth 20000 in
theorem gX0_actionOfFirstMatch_X3_matches : GoodIn wsX0_actionOfFirstMatch (wsV RX0 115 RX3 yX3_matches wsX3_matches) := goodIn_app (goodIn_of _ (by decide +kernel)) ggX0_actionOfFirstMatch_X3_matches
set_option maxRecDepth 20000 in
theorem ggX0_numberTests_X0_lastTest : GoodIn wsX0_numberTests wsX0_lastTest := goodIn_r _ [5, 6, 7, 8, 9, 10, 11, 12, 13, 14, 19, 20, 21, 22, 23, 15, 16, 17, 18] (by decide +kernel) (by decide +kernel)
set_option maxRecDepth 20000 in
theorem gX0_numberTests_X0_lastTest : GoodIn wsX0_numberTests (wsV RX0 119 RX0 yX0_lastTest wsX0_lastTest) := goodIn_app (goodIn_of _ (by decide +kernel)) ggX0_numberTests_X0_lastTest
set_option maxRecDepth 20000 in
theorem ggX0_mostRuleTests_Jx4a65c_size_8abf5 : GoodIn wsX0_mostRuleTests wsJx4a65c_size_8abf5 := goodIn_r _ [7, 8, 52, 53, 54] (by decide +kernel) (by decide +kernel)
set_option maxRecDepth 20000 in
theorem gX0_mostRuleTests_Jx4a65c_size_8abf5 : GoodIn wsX0_mostRuleTests (wsV RX0 21 RJx4a65c yJx4a65c_size_8abf5 wsJx4a65c_size_8abf5) := goodIn_app (goodIn_of _ (by decide +kernel)) ggX0_mostRuleTests_Jx4a65c_size_8abf5
set_option maxRecDepth 20000 in
theorem ggX0_mostRuleTests_Jx4a65c_get_915e3 : GoodIn wsX0_mostRuleTests wsJx4a65c_get_915e3 := goodIn_r _ [12, 8, 13, 14, 15, 16, 17, 18, 19, 20, 21, 22, 23, 6, 24, 25, 52, 53, 54] (by decide +kernel) (by decide +kernel)
set_option maxRecDepth 20000 in
theorem gX0_mostRuleTests_Jx4a65c_get_915e3 : GoodIn wsX0_mostRuleTests (wsV RX0 33 RJx4a65c yJx4a65c_get_915e3 wsJx4a65c_get_915e3) := goodIn_app (goodIn_of _ (by decide +kernel)) ggX0_mostRuleTests_Jx4a65c_get_915e3
set_option maxRecDepth 20000 in
theorem ggX0_mostRuleTests_X3_mostTests : GoodIn wsX0_mostRuleTests wsX3_mostTests := goodIn_r _ [30, 31, 32, 33, 29, 34, 35, 36, 37, 38, 39, 40, 41, 47, 48, 49, 50, 51] (by decide +kernel) (by decide +kernel)
set_option maxRecDepth 20000 in
theorem gX0_mostRuleTests_X3_mostTests : GoodIn wsX0_mostRuleTests (wsV RX0 136 RX3 yX3_mostTests wsX3_mostTests) := goodIn_app (goodIn_of _ (by decide +kernel)) ggX0_mostRuleTests_X3_mostTests
set_option maxRecDepth 20000 in
theorem ggX0_lastTest_X1_towards : GoodIn wsX0_lastTest wsX1_towards := goodIn_r _ [6, 7, 8, 9, 15, 16, 17, 18] (by decide +kernel) (by decide +kernel)
set_option maxRecDepth 20000 in
theorem gX0_lastTest_X1_towards : GoodIn wsX0_lastTest (wsV RX0 139 RX1 yX1_towards wsX1_towards) := goodIn_app (goodIn_of _ (by decide +kernel)) ggX0_lastTest_X1_towards
