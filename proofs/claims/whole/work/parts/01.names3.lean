set_option maxRecDepth 20000 in
theorem ggX12_tell_X12_noTrade : GoodIn wsX12_tell wsX12_noTrade := goodIn_r _ [13, 14, 8, 9, 5, 10] rfl (by decide +kernel)
set_option maxRecDepth 20000 in
theorem gX12_tell_X12_noTrade : GoodIn wsX12_tell (va_wsS RX12 140 yX12_noTrade wsX12_noTrade) := goodIn_app (goodIn_of _ (by decide +kernel)) ggX12_tell_X12_noTrade
set_option maxRecDepth 20000 in
theorem ggX12_term_X12_in : GoodIn wsX12_term wsX12_in := goodIn_r _ [12] rfl (by decide +kernel)
set_option maxRecDepth 20000 in
theorem gX12_term_X12_in : GoodIn wsX12_term (va_wsS RX12 120 yX12_in wsX12_in) := goodIn_app (goodIn_of _ (by decide +kernel)) ggX12_term_X12_in
set_option maxRecDepth 20000 in
theorem ggX12_knows_X12_noPerson : GoodIn wsX12_knows wsX12_noPerson := goodIn_r _ [5, 6, 7, 8, 4, 9] rfl (by decide +kernel)
set_option maxRecDepth 20000 in
theorem gX12_knows_X12_noPerson : GoodIn wsX12_knows (va_wsS RX12 137 yX12_noPerson wsX12_noPerson) := goodIn_app (goodIn_of _ (by decide +kernel)) ggX12_knows_X12_noPerson
set_option maxRecDepth 20000 in
theorem ggX12_knows_X12_noTrade : GoodIn wsX12_knows wsX12_noTrade := goodIn_r _ [12, 13, 7, 8, 4, 9] rfl (by decide +kernel)
set_option maxRecDepth 20000 in
theorem gX12_knows_X12_noTrade : GoodIn wsX12_knows (va_wsS RX12 140 yX12_noTrade wsX12_noTrade) := goodIn_app (goodIn_of _ (by decide +kernel)) ggX12_knows_X12_noTrade
set_option maxRecDepth 20000 in
theorem ggX12_knows_X12_isKnowing : GoodIn wsX12_knows wsX12_isKnowing := goodIn_r _ [17, 18, 19, 20, 21, 22, 23, 24, 25, 26, 27, 28, 29, 30, 31, 32, 33, 34, 35, 36, 37, 38, 39, 40, 41, 42, 43, 44, 45, 46, 47, 48, 49, 50, 51, 52, 53, 54, 55, 56, 57, 58, 59, 60, 61, 62, 63, 64, 65, 66] rfl (by decide +kernel)
set_option maxRecDepth 20000 in
theorem gX12_knows_X12_isKnowing : GoodIn wsX12_knows (wsV RX12 152 RX12 yX12_isKnowing wsX12_isKnowing) := goodIn_app (goodIn_of _ (by decide +kernel)) ggX12_knows_X12_isKnowing
set_option maxRecDepth 20000 in
theorem ggX12_before_X12_noPerson : GoodIn wsX12_before wsX12_noPerson := goodIn_r _ [5, 6, 7, 8, 4, 9] rfl (by decide +kernel)
set_option maxRecDepth 20000 in
theorem gX12_before_X12_noPerson : GoodIn wsX12_before (va_wsS RX12 137 yX12_noPerson wsX12_noPerson) := goodIn_app (goodIn_of _ (by decide +kernel)) ggX12_before_X12_noPerson
set_option maxRecDepth 20000 in
theorem ggX12_before_X12_noGap : GoodIn wsX12_before wsX12_noGap := goodIn_r _ [12, 13, 7, 8, 4, 9] rfl (by decide +kernel)
set_option maxRecDepth 20000 in
theorem gX12_before_X12_noGap : GoodIn wsX12_before (va_wsS RX12 133 yX12_noGap wsX12_noGap) := goodIn_app (goodIn_of _ (by decide +kernel)) ggX12_before_X12_noGap
set_option maxRecDepth 20000 in
theorem ggX12_before_X12_beforeOf : GoodIn wsX12_before wsX12_beforeOf := goodIn_r _ [17, 18, 19, 20, 21, 22, 23, 24, 25, 26, 27, 28, 29, 30, 31, 32, 33, 34, 35, 36, 37, 38, 39, 40, 41, 42, 43, 44, 45, 46, 47, 48, 49, 50, 51, 52, 53, 54, 55, 56, 57, 58, 59, 60, 61, 62, 63, 64, 65, 66] rfl (by decide +kernel)
set_option maxRecDepth 20000 in
theorem gX12_before_X12_beforeOf : GoodIn wsX12_before (wsV RX12 156 RX12 yX12_beforeOf wsX12_beforeOf) := goodIn_app (goodIn_of _ (by decide +kernel)) ggX12_before_X12_beforeOf
set_option maxRecDepth 20000 in
theorem ggX12_customOf_X12_many : GoodIn wsX12_customOf wsX12_many := goodIn_r _ [7, 8, 9, 10, 11, 12, 13, 14, 15, 16, 17, 18, 19, 20, 21, 22, 23, 24, 25, 26, 27, 28, 29, 30, 31, 32, 33, 34, 35, 36, 37, 38, 39, 40, 41, 42, 43, 44, 45, 46, 47, 48, 49, 50, 51, 52, 53, 54, 55] rfl (by decide +kernel)
set_option maxRecDepth 20000 in
theorem gX12_customOf_X12_many : GoodIn wsX12_customOf (wsV RX12 160 RX12 yX12_many wsX12_many) := goodIn_app (goodIn_of _ (by decide +kernel)) ggX12_customOf_X12_many
set_option maxRecDepth 20000 in
theorem ggX12_custom_X12_noTrade : GoodIn wsX12_custom wsX12_noTrade := goodIn_r _ [5, 6, 7, 8, 4, 9] rfl (by decide +kernel)
set_option maxRecDepth 20000 in
theorem gX12_custom_X12_noTrade : GoodIn wsX12_custom (va_wsS RX12 140 yX12_noTrade wsX12_noTrade) := goodIn_app (goodIn_of _ (by decide +kernel)) ggX12_custom_X12_noTrade
set_option maxRecDepth 20000 in
theorem ggX12_custom_X12_noGap : GoodIn wsX12_custom wsX12_noGap := goodIn_r _ [12, 13, 7, 8, 4, 9] rfl (by decide +kernel)
set_option maxRecDepth 20000 in
theorem gX12_custom_X12_noGap : GoodIn wsX12_custom (va_wsS RX12 133 yX12_noGap wsX12_noGap) := goodIn_app (goodIn_of _ (by decide +kernel)) ggX12_custom_X12_noGap
set_option maxRecDepth 20000 in
theorem ggX12_custom_X12_customOf : GoodIn wsX12_custom wsX12_customOf := goodIn_r _ [17, 18, 19, 20, 21, 22, 4, 23, 24, 25, 26, 27, 28, 29, 30, 31, 32, 33, 34, 35, 36, 37, 38, 39, 40, 41, 42, 43, 44, 45, 46, 47, 48, 49, 50, 51, 52, 53, 54, 55, 56, 57, 58, 59, 60, 61, 62, 63, 64, 65, 66, 67, 68, 69, 70, 71] rfl (by decide +kernel)
set_option maxRecDepth 20000 in
theorem gX12_custom_X12_customOf : GoodIn wsX12_custom (wsV RX12 163 RX12 yX12_customOf wsX12_customOf) := goodIn_app (goodIn_of _ (by decide +kernel)) ggX12_custom_X12_customOf
set_option maxRecDepth 20000 in
theorem ggX12_lacks_X12_noTrade : GoodIn wsX12_lacks wsX12_noTrade := goodIn_r _ [8, 9, 10, 11, 7, 12] rfl (by decide +kernel)
set_option maxRecDepth 20000 in
theorem gX12_lacks_X12_noTrade : GoodIn wsX12_lacks (va_wsS RX12 140 yX12_noTrade wsX12_noTrade) := goodIn_app (goodIn_of _ (by decide +kernel)) ggX12_lacks_X12_noTrade
set_option maxRecDepth 20000 in
theorem ggX12_lacks_X12_noGap : GoodIn wsX12_lacks wsX12_noGap := goodIn_r _ [15, 2, 10, 11, 7, 12] rfl (by decide +kernel)
set_option maxRecDepth 20000 in
theorem gX12_lacks_X12_noGap : GoodIn wsX12_lacks (va_wsS RX12 133 yX12_noGap wsX12_noGap) := goodIn_app (goodIn_of _ (by decide +kernel)) ggX12_lacks_X12_noGap
set_option maxRecDepth 20000 in
theorem ggX12_lacks_X12_in : GoodIn wsX12_lacks wsX12_in := goodIn_r _ [12] rfl (by decide +kernel)
set_option maxRecDepth 20000 in
theorem gX12_lacks_X12_in : GoodIn wsX12_lacks (va_wsS RX12 120 yX12_in wsX12_in) := goodIn_app (goodIn_of _ (by decide +kernel)) ggX12_lacks_X12_in
set_option maxRecDepth 20000 in
theorem ggX12_lacks_X12_many : GoodIn wsX12_lacks wsX12_many := goodIn_r _ [19, 20, 21, 22, 23, 24, 25, 26, 27, 28, 29, 30, 31, 32, 33, 34, 35, 36, 37, 38, 39, 40, 41, 42, 43, 44, 45, 46, 47, 48, 49, 50, 51, 52, 53, 54, 55, 56, 57, 58, 59, 60, 61, 62, 63, 64, 65, 66, 67] rfl (by decide +kernel)
set_option maxRecDepth 20000 in
theorem gX12_lacks_X12_many : GoodIn wsX12_lacks (wsV RX12 160 RX12 yX12_many wsX12_many) := goodIn_app (goodIn_of _ (by decide +kernel)) ggX12_lacks_X12_many
set_option maxRecDepth 20000 in
theorem ggX12_write_X12_in : GoodIn wsX12_write wsX12_in := goodIn_r _ [8] rfl (by decide +kernel)
set_option maxRecDepth 20000 in
theorem gX12_write_X12_in : GoodIn wsX12_write (va_wsS RX12 120 yX12_in wsX12_in) := goodIn_app (goodIn_of _ (by decide +kernel)) ggX12_write_X12_in
set_option maxRecDepth 20000 in
theorem ggX12_figure_X12_in : GoodIn wsX12_figure wsX12_in := goodIn_r _ [7] rfl (by decide +kernel)
set_option maxRecDepth 20000 in
theorem gX12_figure_X12_in : GoodIn wsX12_figure (va_wsS RX12 120 yX12_in wsX12_in) := goodIn_app (goodIn_of _ (by decide +kernel)) ggX12_figure_X12_in
set_option maxRecDepth 20000 in
theorem ggX12_readPair_X12_figure : GoodIn wsX12_readPair wsX12_figure := goodIn_r _ [6, 7, 8, 9, 10, 11, 5, 12, 17, 18, 19, 20, 21, 22, 23, 24, 25, 26, 27, 28, 29, 30, 31, 32, 33, 34, 35, 36, 37, 38, 39, 40, 41, 42, 43, 44, 45, 46, 47, 48, 49, 50, 51, 52, 53, 54, 55, 56, 57, 58, 59, 60, 61, 62] rfl (by decide +kernel)
set_option maxRecDepth 20000 in
theorem gX12_readPair_X12_figure : GoodIn wsX12_readPair (wsV RX12 175 RX12 yX12_figure wsX12_figure) := goodIn_app (goodIn_of _ (by decide +kernel)) ggX12_readPair_X12_figure
set_option maxRecDepth 20000 in
theorem ggX12_readPair_X12_sign : GoodIn wsX12_readPair wsX12_sign := goodIn_r _ [16, 7, 8, 9, 17, 18, 19, 20, 21, 22, 23, 24, 25, 26, 27, 28, 29, 30, 31, 32, 33, 34, 35, 36, 37, 38, 39, 40, 41, 42, 43, 44, 45, 46, 47, 48, 49, 50, 51, 52, 53, 54, 55, 56, 57, 58, 59, 60, 61, 62] rfl (by decide +kernel)
set_option maxRecDepth 20000 in
theorem gX12_readPair_X12_sign : GoodIn wsX12_readPair (wsV RX12 178 RX12 yX12_sign wsX12_sign) := goodIn_app (goodIn_of _ (by decide +kernel)) ggX12_readPair_X12_sign
set_option maxRecDepth 20000 in
theorem ggX12_readRule_X12_sign : GoodIn wsX12_readRule wsX12_sign := goodIn_r _ [8, 1, 3, 9, 21, 22, 23, 24, 25, 26, 27, 28, 29, 30, 31, 32, 33, 34, 35, 36, 37, 38, 39, 40, 41, 42, 43, 44, 45, 46, 47, 48, 49, 50, 51, 52, 53, 54, 55, 56, 57, 58, 59, 60, 61, 62, 63, 64, 65, 66] rfl (by decide +kernel)
set_option maxRecDepth 20000 in
theorem gX12_readRule_X12_sign : GoodIn wsX12_readRule (wsV RX12 178 RX12 yX12_sign wsX12_sign) := goodIn_app (goodIn_of _ (by decide +kernel)) ggX12_readRule_X12_sign
set_option maxRecDepth 20000 in
theorem ggX12_readRule_X12_readPair : GoodIn wsX12_readRule wsX12_readPair := goodIn_r _ [13, 2, 14, 15, 16, 7, 17, 1, 3, 9, 18, 19, 20, 4, 5, 6, 8, 21, 22, 23, 24, 25, 26, 27, 28, 29, 30, 31, 32, 33, 34, 35, 36, 37, 38, 39, 40, 41, 42, 43, 44, 45, 46, 47, 48, 49, 50, 51, 52, 53, 54, 55, 56, 57, 58, 59, 60, 61, 62, 63, 64, 65, 66] rfl (by decide +kernel)
set_option maxRecDepth 20000 in
theorem gX12_readRule_X12_readPair : GoodIn wsX12_readRule (wsV RX12 181 RX12 yX12_readPair wsX12_readPair) := goodIn_app (goodIn_of _ (by decide +kernel)) ggX12_readRule_X12_readPair
set_option maxRecDepth 20000 in
theorem ggX12_readRule_X12_figure : GoodIn wsX12_readRule wsX12_figure := goodIn_r _ [17, 1, 3, 9, 18, 19, 7, 20, 21, 22, 23, 24, 25, 26, 27, 28, 29, 30, 31, 32, 33, 34, 35, 36, 37, 38, 39, 40, 41, 42, 43, 44, 45, 46, 47, 48, 49, 50, 51, 52, 53, 54, 55, 56, 57, 58, 59, 60, 61, 62, 63, 64, 65, 66] rfl (by decide +kernel)
set_option maxRecDepth 20000 in
theorem gX12_readRule_X12_figure : GoodIn wsX12_readRule (wsV RX12 175 RX12 yX12_figure wsX12_figure) := goodIn_app (goodIn_of _ (by decide +kernel)) ggX12_readRule_X12_figure
set_option maxRecDepth 20000 in
theorem ggX12_readOrder_X12_letterOf : GoodIn wsX12_readOrder wsX12_letterOf := goodIn_r _ [7] rfl (by decide +kernel)
set_option maxRecDepth 20000 in
theorem gX12_readOrder_X12_letterOf : GoodIn wsX12_readOrder (va_wsS RX12 184 yX12_letterOf wsX12_letterOf) := goodIn_app (goodIn_of _ (by decide +kernel)) ggX12_readOrder_X12_letterOf
set_option maxRecDepth 20000 in
theorem ggX12_readWords_X12_letterOf : GoodIn wsX12_readWords wsX12_letterOf := goodIn_r _ [10] rfl (by decide +kernel)
set_option maxRecDepth 20000 in
theorem gX12_readWords_X12_letterOf : GoodIn wsX12_readWords (va_wsS RX12 184 yX12_letterOf wsX12_letterOf) := goodIn_app (goodIn_of _ (by decide +kernel)) ggX12_readWords_X12_letterOf
set_option maxRecDepth 20000 in
theorem ggX12_readWords_X12_in : GoodIn wsX12_readWords wsX12_in := goodIn_r _ [13] rfl (by decide +kernel)
set_option maxRecDepth 20000 in
theorem gX12_readWords_X12_in : GoodIn wsX12_readWords (va_wsS RX12 120 yX12_in wsX12_in) := goodIn_app (goodIn_of _ (by decide +kernel)) ggX12_readWords_X12_in
set_option maxRecDepth 20000 in
theorem ggX12_readWords_X12_figure : GoodIn wsX12_readWords wsX12_figure := goodIn_r _ [17, 3, 4, 5, 11, 12, 9, 13, 22, 23, 24, 25, 26, 27, 28, 29, 30, 31, 32, 33, 34, 35, 36, 37, 38, 39, 40, 41, 42, 43, 44, 45, 46, 47, 48, 49, 50, 51, 52, 53, 54, 55, 56, 57, 58, 59, 60, 61, 62, 63, 64, 65, 66, 67] rfl (by decide +kernel)
set_option maxRecDepth 20000 in
theorem gX12_readWords_X12_figure : GoodIn wsX12_readWords (wsV RX12 175 RX12 yX12_figure wsX12_figure) := goodIn_app (goodIn_of _ (by decide +kernel)) ggX12_readWords_X12_figure
set_option maxRecDepth 20000 in
theorem ggX12_readWords_X12_sign : GoodIn wsX12_readWords wsX12_sign := goodIn_r _ [21, 3, 4, 5, 22, 23, 24, 25, 26, 27, 28, 29, 30, 31, 32, 33, 34, 35, 36, 37, 38, 39, 40, 41, 42, 43, 44, 45, 46, 47, 48, 49, 50, 51, 52, 53, 54, 55, 56, 57, 58, 59, 60, 61, 62, 63, 64, 65, 66, 67] rfl (by decide +kernel)
set_option maxRecDepth 20000 in
theorem gX12_readWords_X12_sign : GoodIn wsX12_readWords (wsV RX12 178 RX12 yX12_sign wsX12_sign) := goodIn_app (goodIn_of _ (by decide +kernel)) ggX12_readWords_X12_sign
set_option maxRecDepth 20000 in
theorem ggX12_fault_X12_readRule : GoodIn wsX12_fault wsX12_readRule := goodIn_r _ [6, 7, 8, 9, 10, 11, 12, 5, 13, 14, 15, 16, 17, 18, 19, 20, 21, 22, 23, 24, 25, 40, 41, 42, 43, 44, 45, 46, 47, 48, 49, 50, 51, 52, 53, 54, 55, 56, 57, 58, 59, 60, 61, 62, 63, 64, 65, 66, 67, 68, 69, 70, 71, 72, 73, 74, 75, 76, 77, 78, 79, 80, 81, 82, 83, 84, 85] rfl (by decide +kernel)
set_option maxRecDepth 20000 in
theorem gX12_fault_X12_readRule : GoodIn wsX12_fault (wsV RX12 191 RX12 yX12_readRule wsX12_readRule) := goodIn_app (goodIn_of _ (by decide +kernel)) ggX12_fault_X12_readRule
set_option maxRecDepth 20000 in
theorem ggX12_fault_X12_readOrder : GoodIn wsX12_fault wsX12_readOrder := goodIn_r _ [29, 7, 9, 14, 30, 31, 5, 32, 40, 41, 42, 43, 44, 45, 46, 47, 48, 49, 50, 51, 52, 53, 54, 55, 56, 57, 58, 59, 60, 61, 62, 63, 64, 65, 66, 67, 68, 69, 70, 71, 72, 73, 74, 75, 76, 77, 78, 79, 80, 81, 82, 83, 84, 85] rfl (by decide +kernel)
set_option maxRecDepth 20000 in
theorem gX12_fault_X12_readOrder : GoodIn wsX12_fault (wsV RX12 195 RX12 yX12_readOrder wsX12_readOrder) := goodIn_app (goodIn_of _ (by decide +kernel)) ggX12_fault_X12_readOrder
set_option maxRecDepth 20000 in
theorem ggX12_fault_X12_readWords : GoodIn wsX12_fault wsX12_readWords := goodIn_r _ [36, 37, 38, 7, 9, 14, 39, 30, 31, 5, 32, 23, 24, 25, 19, 20, 21, 22, 10, 11, 12, 13, 40, 41, 42, 43, 44, 45, 46, 47, 48, 49, 50, 51, 52, 53, 54, 55, 56, 57, 58, 59, 60, 61, 62, 63, 64, 65, 66, 67, 68, 69, 70, 71, 72, 73, 74, 75, 76, 77, 78, 79, 80, 81, 82, 83, 84, 85] rfl (by decide +kernel)
set_option maxRecDepth 20000 in
theorem gX12_fault_X12_readWords : GoodIn wsX12_fault (wsV RX12 198 RX12 yX12_readWords wsX12_readWords) := goodIn_app (goodIn_of _ (by decide +kernel)) ggX12_fault_X12_readWords
set_option maxRecDepth 20000 in
theorem ggX12_rule_X12_readRule : GoodIn wsX12_rule wsX12_readRule := goodIn_r _ [9, 10, 4, 11, 12, 13, 14, 8, 15, 16, 17, 18, 19, 20, 21, 22, 23, 24, 25, 26, 27, 28, 29, 30, 31, 32, 33, 34, 35, 36, 37, 38, 39, 40, 41, 42, 43, 44, 45, 46, 47, 48, 49, 50, 51, 52, 53, 54, 55, 56, 57, 58, 59, 60, 61, 62, 63, 64, 65, 66, 67, 68, 69, 70, 71, 72, 73] rfl (by decide +kernel)
set_option maxRecDepth 20000 in
theorem gX12_rule_X12_readRule : GoodIn wsX12_rule (wsV RX12 191 RX12 yX12_readRule wsX12_readRule) := goodIn_app (goodIn_of _ (by decide +kernel)) ggX12_rule_X12_readRule
set_option maxRecDepth 20000 in
theorem ggX12_unrule_X12_in : GoodIn wsX12_unrule wsX12_in := goodIn_r _ [7] rfl (by decide +kernel)
set_option maxRecDepth 20000 in
theorem gX12_unrule_X12_in : GoodIn wsX12_unrule (va_wsS RX12 120 yX12_in wsX12_in) := goodIn_app (goodIn_of _ (by decide +kernel)) ggX12_unrule_X12_in
set_option maxRecDepth 20000 in
theorem ggX12_ruled_X12_in : GoodIn wsX12_ruled wsX12_in := goodIn_r _ [8] rfl (by decide +kernel)
set_option maxRecDepth 20000 in
theorem gX12_ruled_X12_in : GoodIn wsX12_ruled (va_wsS RX12 120 yX12_in wsX12_in) := goodIn_app (goodIn_of _ (by decide +kernel)) ggX12_ruled_X12_in
set_option maxRecDepth 20000 in
theorem ggX12_order_X12_noOrder : GoodIn wsX12_order wsX12_noOrder := goodIn_r _ [9, 10, 11, 12, 8, 13] rfl (by decide +kernel)
set_option maxRecDepth 20000 in
theorem gX12_order_X12_noOrder : GoodIn wsX12_order (va_wsS RX12 204 yX12_noOrder wsX12_noOrder) := goodIn_app (goodIn_of _ (by decide +kernel)) ggX12_order_X12_noOrder
set_option maxRecDepth 20000 in
theorem ggX12_order_X12_readOrder : GoodIn wsX12_order wsX12_readOrder := goodIn_r _ [17, 18, 2, 4, 19, 20, 8, 21, 22, 23, 24, 25, 26, 27, 28, 29, 30, 31, 32, 33, 34, 35, 36, 37, 38, 39, 40, 41, 42, 43, 44, 45, 46, 47, 48, 49, 50, 51, 52, 53, 54, 55, 56, 57, 58, 59, 60, 61, 62, 63, 64, 65, 66, 67] rfl (by decide +kernel)
set_option maxRecDepth 20000 in
theorem gX12_order_X12_readOrder : GoodIn wsX12_order (wsV RX12 195 RX12 yX12_readOrder wsX12_readOrder) := goodIn_app (goodIn_of _ (by decide +kernel)) ggX12_order_X12_readOrder
set_option maxRecDepth 20000 in
theorem ggX12_order_X12_letterOf : GoodIn wsX12_order wsX12_letterOf := goodIn_r _ [21] rfl (by decide +kernel)
set_option maxRecDepth 20000 in
theorem gX12_order_X12_letterOf : GoodIn wsX12_order (va_wsS RX12 184 yX12_letterOf wsX12_letterOf) := goodIn_app (goodIn_of _ (by decide +kernel)) ggX12_order_X12_letterOf
set_option maxRecDepth 20000 in
theorem ggX12_ordered_X12_noOrder : GoodIn wsX12_ordered wsX12_noOrder := goodIn_r _ [7, 8, 9, 10, 6, 11] rfl (by decide +kernel)
set_option maxRecDepth 20000 in
theorem gX12_ordered_X12_noOrder : GoodIn wsX12_ordered (va_wsS RX12 204 yX12_noOrder wsX12_noOrder) := goodIn_app (goodIn_of _ (by decide +kernel)) ggX12_ordered_X12_noOrder
set_option maxRecDepth 20000 in
theorem ggX12_ordered_X12_in : GoodIn wsX12_ordered wsX12_in := goodIn_r _ [11] rfl (by decide +kernel)
set_option maxRecDepth 20000 in
theorem gX12_ordered_X12_in : GoodIn wsX12_ordered (va_wsS RX12 120 yX12_in wsX12_in) := goodIn_app (goodIn_of _ (by decide +kernel)) ggX12_ordered_X12_in
set_option maxRecDepth 20000 in
theorem ggX12_bargain_X12_noPerson : GoodIn wsX12_bargain wsX12_noPerson := goodIn_r _ [9, 10, 11, 12, 8, 13] rfl (by decide +kernel)
set_option maxRecDepth 20000 in
theorem gX12_bargain_X12_noPerson : GoodIn wsX12_bargain (va_wsS RX12 137 yX12_noPerson wsX12_noPerson) := goodIn_app (goodIn_of _ (by decide +kernel)) ggX12_bargain_X12_noPerson
set_option maxRecDepth 20000 in
theorem ggX12_bargain_X12_noTrade : GoodIn wsX12_bargain wsX12_noTrade := goodIn_r _ [16, 17, 11, 12, 8, 13] rfl (by decide +kernel)
set_option maxRecDepth 20000 in
theorem gX12_bargain_X12_noTrade : GoodIn wsX12_bargain (va_wsS RX12 140 yX12_noTrade wsX12_noTrade) := goodIn_app (goodIn_of _ (by decide +kernel)) ggX12_bargain_X12_noTrade
set_option maxRecDepth 20000 in
theorem ggX12_bargain_X12_readWords : GoodIn wsX12_bargain wsX12_readWords := goodIn_r _ [21, 22, 23, 24, 25, 26, 27, 28, 29, 8, 30, 11, 12, 13, 31, 32, 33, 34, 35, 36, 37, 38, 45, 46, 47, 48, 49, 50, 51, 52, 53, 54, 55, 56, 57, 58, 59, 60, 61, 62, 63, 64, 65, 66, 67, 68, 69, 70, 71, 72, 73, 74, 75, 76, 77, 78, 79, 80, 81, 82, 83, 84, 85, 86, 87, 88, 89, 90] rfl (by decide +kernel)
set_option maxRecDepth 20000 in
theorem gX12_bargain_X12_readWords : GoodIn wsX12_bargain (wsV RX12 198 RX12 yX12_readWords wsX12_readWords) := goodIn_app (goodIn_of _ (by decide +kernel)) ggX12_bargain_X12_readWords
set_option maxRecDepth 20000 in
theorem ggX12_bargain_X12_putWords : GoodIn wsX12_bargain wsX12_putWords := goodIn_r _ [42, 43, 23, 44, 22, 45, 46, 47, 48, 49, 50, 51, 52, 53, 54, 55, 56, 57, 58, 59, 60, 61, 62, 63, 64, 65, 66, 67, 68, 69, 70, 71, 72, 73, 74, 75, 76, 77, 78, 79, 80, 81, 82, 83, 84, 85, 86, 87, 88, 89, 90] rfl (by decide +kernel)
set_option maxRecDepth 20000 in
theorem gX12_bargain_X12_putWords : GoodIn wsX12_bargain (wsV RX12 207 RX12 yX12_putWords wsX12_putWords) := goodIn_app (goodIn_of _ (by decide +kernel)) ggX12_bargain_X12_putWords
set_option maxRecDepth 20000 in
theorem ggX12_reword_X12_noBargain : GoodIn wsX12_reword wsX12_noBargain := goodIn_r _ [6, 7, 8, 9, 5, 10, 38, 39, 40, 41, 42, 43, 44, 45, 46, 47, 48, 49, 50, 51, 52, 53, 54, 55, 56, 57, 58, 59, 60, 61, 62, 63, 64, 65, 66, 67, 68, 69, 70, 71, 72, 73, 74, 75, 76, 77, 78, 79, 80, 81, 82, 83] rfl (by decide +kernel)
set_option maxRecDepth 20000 in
theorem gX12_reword_X12_noBargain : GoodIn wsX12_reword (wsV RX12 210 RX12 yX12_noBargain wsX12_noBargain) := goodIn_app (goodIn_of _ (by decide +kernel)) ggX12_reword_X12_noBargain
set_option maxRecDepth 20000 in
theorem ggX12_reword_X12_readWords : GoodIn wsX12_reword wsX12_readWords := goodIn_r _ [14, 15, 16, 17, 18, 19, 20, 21, 22, 5, 23, 8, 9, 10, 24, 25, 26, 27, 28, 29, 30, 31, 38, 39, 40, 41, 42, 43, 44, 45, 46, 47, 48, 49, 50, 51, 52, 53, 54, 55, 56, 57, 58, 59, 60, 61, 62, 63, 64, 65, 66, 67, 68, 69, 70, 71, 72, 73, 74, 75, 76, 77, 78, 79, 80, 81, 82, 83] rfl (by decide +kernel)
set_option maxRecDepth 20000 in
theorem gX12_reword_X12_readWords : GoodIn wsX12_reword (wsV RX12 198 RX12 yX12_readWords wsX12_readWords) := goodIn_app (goodIn_of _ (by decide +kernel)) ggX12_reword_X12_readWords
set_option maxRecDepth 20000 in
theorem ggX12_reword_X12_putWords : GoodIn wsX12_reword wsX12_putWords := goodIn_r _ [35, 36, 16, 37, 15, 38, 39, 40, 41, 42, 43, 44, 45, 46, 47, 48, 49, 50, 51, 52, 53, 54, 55, 56, 57, 58, 59, 60, 61, 62, 63, 64, 65, 66, 67, 68, 69, 70, 71, 72, 73, 74, 75, 76, 77, 78, 79, 80, 81, 82, 83] rfl (by decide +kernel)
set_option maxRecDepth 20000 in
theorem gX12_reword_X12_putWords : GoodIn wsX12_reword (wsV RX12 207 RX12 yX12_putWords wsX12_putWords) := goodIn_app (goodIn_of _ (by decide +kernel)) ggX12_reword_X12_putWords
set_option maxRecDepth 20000 in
theorem ggX12_said_X12_noBargain : GoodIn wsX12_said wsX12_noBargain := goodIn_r _ [7, 8, 9, 10, 6, 11, 16, 17, 18, 19, 20, 21, 22, 23, 24, 25, 26, 27, 28, 29, 30, 31, 32, 33, 34, 35, 36, 37, 38, 39, 40, 41, 42, 43, 44, 45, 46, 47, 48, 49, 50, 51, 52, 53, 54, 55, 56, 57, 58, 59, 60, 61] rfl (by decide +kernel)
set_option maxRecDepth 20000 in
theorem gX12_said_X12_noBargain : GoodIn wsX12_said (wsV RX12 210 RX12 yX12_noBargain wsX12_noBargain) := goodIn_app (goodIn_of _ (by decide +kernel)) ggX12_said_X12_noBargain
set_option maxRecDepth 20000 in
theorem ggX12_said_X12_noGap : GoodIn wsX12_said wsX12_noGap := goodIn_r _ [14, 15, 9, 10, 6, 11] rfl (by decide +kernel)
set_option maxRecDepth 20000 in
theorem gX12_said_X12_noGap : GoodIn wsX12_said (va_wsS RX12 133 yX12_noGap wsX12_noGap) := goodIn_app (goodIn_of _ (by decide +kernel)) ggX12_said_X12_noGap
set_option maxRecDepth 20000 in
theorem ggX12_isThere_X12_in : GoodIn wsX12_isThere wsX12_in := goodIn_r _ [5] rfl (by decide +kernel)
set_option maxRecDepth 20000 in
theorem gX12_isThere_X12_in : GoodIn wsX12_isThere (va_wsS RX12 120 yX12_in wsX12_in) := goodIn_app (goodIn_of _ (by decide +kernel)) ggX12_isThere_X12_in
set_option maxRecDepth 20000 in
theorem ggX12_ruleFor_X12_isThere : GoodIn wsX12_ruleFor wsX12_isThere := goodIn_r _ [9, 10, 11, 12, 8, 13, 14, 15, 16, 17, 18, 19, 20, 21, 22, 23, 24, 25, 26, 27, 28, 29, 30, 31, 32, 33, 34, 35, 36, 37, 38, 39, 40, 41, 42, 43, 44, 45, 46, 47, 48, 49, 50, 51, 52, 53, 54, 55, 56, 57, 58, 59] rfl (by decide +kernel)
set_option maxRecDepth 20000 in
theorem gX12_ruleFor_X12_isThere : GoodIn wsX12_ruleFor (wsV RX12 213 RX12 yX12_isThere wsX12_isThere) := goodIn_app (goodIn_of _ (by decide +kernel)) ggX12_ruleFor_X12_isThere
set_option maxRecDepth 20000 in
theorem ggX12_filledBy_X12_isThere : GoodIn wsX12_filledBy wsX12_isThere := goodIn_r _ [14, 15, 16, 17, 13, 18, 47, 48, 49, 50, 51, 52, 53, 54, 55, 56, 57, 58, 59, 60, 61, 62, 63, 64, 65, 66, 67, 68, 69, 70, 71, 72, 73, 74, 75, 76, 77, 78, 79, 80, 81, 82, 83, 84, 85, 86, 87, 88, 89, 90, 91, 92] rfl (by decide +kernel)
set_option maxRecDepth 20000 in
theorem gX12_filledBy_X12_isThere : GoodIn wsX12_filledBy (wsV RX12 213 RX12 yX12_isThere wsX12_isThere) := goodIn_app (goodIn_of _ (by decide +kernel)) ggX12_filledBy_X12_isThere
set_option maxRecDepth 20000 in
theorem ggX12_filledBy_X12_isKnowing : GoodIn wsX12_filledBy wsX12_isKnowing := goodIn_r _ [22, 23, 24, 25, 47, 48, 49, 50, 51, 52, 53, 54, 55, 56, 57, 58, 59, 60, 61, 62, 63, 64, 65, 66, 67, 68, 69, 70, 71, 72, 73, 74, 75, 76, 77, 78, 79, 80, 81, 82, 83, 84, 85, 86, 87, 88, 89, 90, 91, 92] rfl (by decide +kernel)
set_option maxRecDepth 20000 in
theorem gX12_filledBy_X12_isKnowing : GoodIn wsX12_filledBy (wsV RX12 152 RX12 yX12_isKnowing wsX12_isKnowing) := goodIn_app (goodIn_of _ (by decide +kernel)) ggX12_filledBy_X12_isKnowing
set_option maxRecDepth 20000 in
theorem ggX12_filledBy_X12_beforeOf : GoodIn wsX12_filledBy wsX12_beforeOf := goodIn_r _ [29, 30, 24, 25, 47, 48, 49, 50, 51, 52, 53, 54, 55, 56, 57, 58, 59, 60, 61, 62, 63, 64, 65, 66, 67, 68, 69, 70, 71, 72, 73, 74, 75, 76, 77, 78, 79, 80, 81, 82, 83, 84, 85, 86, 87, 88, 89, 90, 91, 92] rfl (by decide +kernel)
set_option maxRecDepth 20000 in
theorem gX12_filledBy_X12_beforeOf : GoodIn wsX12_filledBy (wsV RX12 156 RX12 yX12_beforeOf wsX12_beforeOf) := goodIn_app (goodIn_of _ (by decide +kernel)) ggX12_filledBy_X12_beforeOf
set_option maxRecDepth 20000 in
theorem ggX12_filledBy_X12_customOf : GoodIn wsX12_filledBy wsX12_customOf := goodIn_r _ [34, 35, 36, 37, 38, 39, 13, 40, 24, 25, 47, 48, 49, 50, 51, 52, 53, 54, 55, 56, 57, 58, 59, 60, 61, 62, 63, 64, 65, 66, 67, 68, 69, 70, 71, 72, 73, 74, 75, 76, 77, 78, 79, 80, 81, 82, 83, 84, 85, 86, 87, 88, 89, 90, 91, 92] rfl (by decide +kernel)
set_option maxRecDepth 20000 in
theorem gX12_filledBy_X12_customOf : GoodIn wsX12_filledBy (wsV RX12 163 RX12 yX12_customOf wsX12_customOf) := goodIn_app (goodIn_of _ (by decide +kernel)) ggX12_filledBy_X12_customOf
set_option maxRecDepth 20000 in
theorem ggX12_filledBy_X12_ruleFor : GoodIn wsX12_filledBy wsX12_ruleFor := goodIn_r _ [44, 45, 9, 5, 46, 10, 11, 12, 13, 14, 15, 16, 17, 18, 47, 48, 49, 50, 51, 52, 53, 54, 55, 56, 57, 58, 59, 60, 61, 62, 63, 64, 65, 66, 67, 68, 69, 70, 71, 72, 73, 74, 75, 76, 77, 78, 79, 80, 81, 82, 83, 84, 85, 86, 87, 88, 89, 90, 91, 92] rfl (by decide +kernel)
set_option maxRecDepth 20000 in
theorem gX12_filledBy_X12_ruleFor : GoodIn wsX12_filledBy (wsV RX12 219 RX12 yX12_ruleFor wsX12_ruleFor) := goodIn_app (goodIn_of _ (by decide +kernel)) ggX12_filledBy_X12_ruleFor
set_option maxRecDepth 20000 in
theorem ggX12_go_X12_isAsked : GoodIn wsX12_go wsX12_isAsked := goodIn_r _ [10, 11, 12, 13, 14, 60, 61, 62, 63, 64, 65, 66, 67, 68, 69, 70, 71, 72, 73, 74, 75, 76, 77, 78, 79, 80, 81, 82, 83, 84, 85, 86, 87, 88, 89, 90, 91, 92, 93, 94, 95, 96, 97, 98, 99, 100, 101, 102, 103, 104, 105] rfl (by decide +kernel)
set_option maxRecDepth 20000 in
theorem gX12_go_X12_isAsked : GoodIn wsX12_go (wsV RX12 222 RX12 yX12_isAsked wsX12_isAsked) := goodIn_app (goodIn_of _ (by decide +kernel)) ggX12_go_X12_isAsked
set_option maxRecDepth 20000 in
theorem ggX12_go_X12_ruleFor : GoodIn wsX12_go wsX12_ruleFor := goodIn_r _ [18, 19, 2, 20, 13, 21, 22, 23, 9, 24, 11, 25, 26, 27, 60, 61, 62, 63, 64, 65, 66, 67, 68, 69, 70, 71, 72, 73, 74, 75, 76, 77, 78, 79, 80, 81, 82, 83, 84, 85, 86, 87, 88, 89, 90, 91, 92, 93, 94, 95, 96, 97, 98, 99, 100, 101, 102, 103, 104, 105] rfl (by decide +kernel)
set_option maxRecDepth 20000 in
theorem gX12_go_X12_ruleFor : GoodIn wsX12_go (wsV RX12 219 RX12 yX12_ruleFor wsX12_ruleFor) := goodIn_app (goodIn_of _ (by decide +kernel)) ggX12_go_X12_ruleFor
set_option maxRecDepth 20000 in
theorem ggX12_go_X12_filledBy : GoodIn wsX12_go wsX12_filledBy := goodIn_r _ [31, 3, 32, 33, 34, 20, 35, 36, 37, 2, 21, 22, 23, 9, 24, 11, 25, 26, 27, 38, 39, 40, 41, 42, 43, 44, 45, 46, 47, 48, 49, 50, 51, 52, 53, 54, 55, 56, 57, 58, 59, 15, 16, 17, 18, 19, 13, 60, 61, 62, 63, 64, 65, 66, 67, 68, 69, 70, 71, 72, 73, 74, 75, 76, 77, 78, 79, 80, 81, 82, 83, 84, 85, 86, 87, 88, 89, 90, 91, 92, 93, 94, 95, 96, 97, 98, 99, 100, 101, 102, 103, 104, 105] rfl (by decide +kernel)
set_option maxRecDepth 20000 in
theorem gX12_go_X12_filledBy : GoodIn wsX12_go (wsV RX12 225 RX12 yX12_filledBy wsX12_filledBy) := goodIn_app (goodIn_of _ (by decide +kernel)) ggX12_go_X12_filledBy
set_option maxRecDepth 20000 in
theorem ggX12_nextOf_X12_lay : GoodIn wsX12_nextOf wsX12_lay := goodIn_r _ [5, 6, 68, 69, 70, 71, 72, 73, 74, 75, 76, 77, 78, 79, 80, 81, 82, 83, 84, 85, 86, 87, 88, 89, 90, 91, 92, 93, 94, 95, 96, 97, 98, 99, 100, 101, 102, 103, 104, 105, 106, 107, 108, 109, 110, 111, 112, 113] rfl (by decide +kernel)
set_option maxRecDepth 20000 in
theorem gX12_nextOf_X12_lay : GoodIn wsX12_nextOf (wsV RX12 228 RX12 yX12_lay wsX12_lay) := goodIn_app (goodIn_of _ (by decide +kernel)) ggX12_nextOf_X12_lay
set_option maxRecDepth 20000 in
theorem ggX12_nextOf_X12_go : GoodIn wsX12_nextOf wsX12_go := goodIn_r _ [10, 11, 12, 13, 14, 15, 16, 17, 18, 4, 19, 20, 21, 6, 22, 23, 24, 25, 26, 27, 28, 29, 30, 31, 32, 33, 34, 35, 36, 37, 38, 39, 40, 41, 42, 43, 44, 45, 46, 47, 48, 49, 50, 51, 52, 53, 54, 55, 56, 57, 58, 59, 60, 61, 62, 63, 64, 65, 66, 67, 68, 69, 70, 71, 72, 73, 74, 75, 76, 77, 78, 79, 80, 81, 82, 83, 84, 85, 86, 87, 88, 89, 90, 91, 92, 93, 94, 95, 96, 97, 98, 99, 100, 101, 102, 103, 104, 105, 106, 107, 108, 109, 110, 111, 112, 113] rfl (by decide +kernel)
set_option maxRecDepth 20000 in
theorem gX12_nextOf_X12_go : GoodIn wsX12_nextOf (wsV RX12 232 RX12 yX12_go wsX12_go) := goodIn_app (goodIn_of _ (by decide +kernel)) ggX12_nextOf_X12_go
set_option maxRecDepth 20000 in
theorem ggX12_readIt_X12_nextOf : GoodIn wsX12_readIt wsX12_nextOf := goodIn_r _ [14, 15, 16, 17, 13, 18, 7, 19, 20, 21, 22, 23, 24, 25, 26, 27, 28, 29, 30, 31, 32, 33, 34, 35, 36, 37, 38, 39, 40, 41, 42, 43, 44, 45, 46, 47, 48, 49, 50, 51, 52, 53, 54, 55, 56, 57, 58, 59, 60, 61, 62, 63, 64, 65, 66, 67, 68, 69, 70, 71, 72, 73, 74, 75, 76, 77, 78, 79, 80, 81, 82, 83, 84, 85, 86, 87, 88, 89, 90, 91, 92, 93, 94, 95, 96, 97, 98, 99, 100, 101, 102, 103, 104, 105, 106, 107, 108, 109, 110, 111, 112, 113, 114, 115, 116, 117, 118, 119, 120, 121, 122, 123, 124, 125] rfl (by decide +kernel)
set_option maxRecDepth 20000 in
theorem gX12_readIt_X12_nextOf : GoodIn wsX12_readIt (wsV RX12 238 RX12 yX12_nextOf wsX12_nextOf) := goodIn_app (goodIn_of _ (by decide +kernel)) ggX12_readIt_X12_nextOf
set_option maxRecDepth 20000 in
theorem ggX12_readIt_X12_lay : GoodIn wsX12_readIt wsX12_lay := goodIn_r _ [18, 7, 80, 81, 82, 83, 84, 85, 86, 87, 88, 89, 90, 91, 92, 93, 94, 95, 96, 97, 98, 99, 100, 101, 102, 103, 104, 105, 106, 107, 108, 109, 110, 111, 112, 113, 114, 115, 116, 117, 118, 119, 120, 121, 122, 123, 124, 125] rfl (by decide +kernel)
set_option maxRecDepth 20000 in
theorem gX12_readIt_X12_lay : GoodIn wsX12_readIt (wsV RX12 228 RX12 yX12_lay wsX12_lay) := goodIn_app (goodIn_of _ (by decide +kernel)) ggX12_readIt_X12_lay
set_option maxRecDepth 20000 in
theorem ggX12_noReading_X12_noBargain : GoodIn wsX12_noReading wsX12_noBargain := goodIn_r _ [5, 6, 7, 8, 4, 9, 14, 15, 16, 17, 18, 19, 20, 21, 22, 23, 24, 25, 26, 27, 28, 29, 30, 31, 32, 33, 34, 35, 36, 37, 38, 39, 40, 41, 42, 43, 44, 45, 46, 47, 48, 49, 50, 51, 52, 53, 54, 55, 56, 57, 58, 59] rfl (by decide +kernel)
set_option maxRecDepth 20000 in
theorem gX12_noReading_X12_noBargain : GoodIn wsX12_noReading (wsV RX12 210 RX12 yX12_noBargain wsX12_noBargain) := goodIn_app (goodIn_of _ (by decide +kernel)) ggX12_noReading_X12_noBargain
set_option maxRecDepth 20000 in
theorem ggX12_noReading_X12_noOrder : GoodIn wsX12_noReading wsX12_noOrder := goodIn_r _ [12, 13, 7, 8, 4, 9] rfl (by decide +kernel)
set_option maxRecDepth 20000 in
theorem gX12_noReading_X12_noOrder : GoodIn wsX12_noReading (va_wsS RX12 204 yX12_noOrder wsX12_noOrder) := goodIn_app (goodIn_of _ (by decide +kernel)) ggX12_noReading_X12_noOrder
set_option maxRecDepth 20000 in
theorem ggX12_next_X12_noReading : GoodIn wsX12_next wsX12_noReading := goodIn_r _ [7, 8, 9, 10, 6, 11, 12, 13, 14, 15, 16, 17, 18, 19, 87, 88, 89, 90, 91, 92, 93, 94, 95, 96, 97, 98, 99, 100, 101, 102, 103, 104, 105, 106, 107, 108, 109, 110, 111, 112, 113, 114, 115, 116, 117, 118, 119, 120, 121, 122, 123, 124, 125, 126, 127, 128, 129, 130, 131, 132] rfl (by decide +kernel)
set_option maxRecDepth 20000 in
theorem gX12_next_X12_noReading : GoodIn wsX12_next (wsV RX12 250 RX12 yX12_noReading wsX12_noReading) := goodIn_app (goodIn_of _ (by decide +kernel)) ggX12_next_X12_noReading
set_option maxRecDepth 20000 in
theorem ggX12_next_X12_in : GoodIn wsX12_next wsX12_in := goodIn_r _ [15] rfl (by decide +kernel)
set_option maxRecDepth 20000 in
theorem gX12_next_X12_in : GoodIn wsX12_next (va_wsS RX12 120 yX12_in wsX12_in) := goodIn_app (goodIn_of _ (by decide +kernel)) ggX12_next_X12_in
set_option maxRecDepth 20000 in
theorem ggX12_next_X12_nextOf : GoodIn wsX12_next wsX12_nextOf := goodIn_r _ [23, 24, 25, 26, 6, 27, 28, 29, 30, 31, 32, 33, 34, 35, 36, 37, 38, 39, 40, 41, 42, 43, 44, 45, 46, 47, 48, 49, 50, 51, 52, 53, 54, 13, 14, 15, 55, 56, 57, 58, 59, 60, 61, 62, 63, 64, 65, 66, 67, 68, 69, 70, 71, 72, 73, 74, 75, 76, 77, 78, 79, 80, 81, 82, 83, 84, 85, 86, 87, 88, 89, 90, 91, 92, 93, 94, 95, 96, 97, 98, 99, 100, 101, 102, 103, 104, 105, 106, 107, 108, 109, 110, 111, 112, 113, 114, 115, 116, 117, 118, 119, 120, 121, 122, 123, 124, 125, 126, 127, 128, 129, 130, 131, 132] rfl (by decide +kernel)
set_option maxRecDepth 20000 in
theorem gX12_next_X12_nextOf : GoodIn wsX12_next (wsV RX12 238 RX12 yX12_nextOf wsX12_nextOf) := goodIn_app (goodIn_of _ (by decide +kernel)) ggX12_next_X12_nextOf
set_option maxRecDepth 20000 in
theorem ggX12_rounds_X12_noReading : GoodIn wsX12_rounds wsX12_noReading := goodIn_r _ [8, 9, 10, 11, 7, 12, 13, 14, 15, 16, 17, 18, 19, 20, 98, 99, 100, 101, 102, 103, 104, 105, 106, 107, 108, 109, 110, 111, 112, 113, 114, 115, 116, 117, 118, 119, 120, 121, 122, 123, 124, 125, 126, 127, 128, 129, 130, 131, 132, 133, 134, 135, 136, 137, 138, 139, 140, 141, 142, 143] rfl (by decide +kernel)
set_option maxRecDepth 20000 in
theorem gX12_rounds_X12_noReading : GoodIn wsX12_rounds (wsV RX12 250 RX12 yX12_noReading wsX12_noReading) := goodIn_app (goodIn_of _ (by decide +kernel)) ggX12_rounds_X12_noReading
set_option maxRecDepth 20000 in
theorem ggX12_rounds_X12_readIt : GoodIn wsX12_rounds wsX12_readIt := goodIn_r _ [24, 25, 26, 27, 3, 2, 28, 29, 30, 31, 32, 33, 34, 7, 35, 36, 37, 38, 39, 40, 41, 42, 43, 44, 45, 46, 47, 48, 49, 50, 51, 52, 53, 54, 55, 56, 57, 58, 59, 60, 61, 62, 63, 64, 65, 14, 15, 16, 66, 67, 68, 69, 70, 71, 72, 73, 74, 75, 76, 77, 78, 79, 80, 81, 82, 83, 84, 85, 86, 87, 88, 89, 90, 91, 92, 93, 94, 95, 96, 97, 98, 99, 100, 101, 102, 103, 104, 105, 106, 107, 108, 109, 110, 111, 112, 113, 114, 115, 116, 117, 118, 119, 120, 121, 122, 123, 124, 125, 126, 127, 128, 129, 130, 131, 132, 133, 134, 135, 136, 137, 138, 139, 140, 141, 142, 143] rfl (by decide +kernel)
set_option maxRecDepth 20000 in
theorem gX12_rounds_X12_readIt : GoodIn wsX12_rounds (wsV RX12 255 RX12 yX12_readIt wsX12_readIt) := goodIn_app (goodIn_of _ (by decide +kernel)) ggX12_rounds_X12_readIt
set_option maxRecDepth 20000 in
theorem ggX12_answer_X12_noReading : GoodIn wsX12_answer wsX12_noReading := goodIn_r _ [6, 7, 8, 9, 5, 10, 11, 12, 13, 14, 15, 16, 17, 18, 102, 103, 104, 105, 106, 107, 108, 109, 110, 111, 112, 113, 114, 115, 116, 117, 118, 119, 120, 121, 122, 123, 124, 125, 126, 127, 128, 129, 130, 131, 132, 133, 134, 135, 136, 137, 138, 139, 140, 141, 142, 143, 144, 145, 146, 147] rfl (by decide +kernel)
set_option maxRecDepth 20000 in
theorem gX12_answer_X12_noReading : GoodIn wsX12_answer (wsV RX12 250 RX12 yX12_noReading wsX12_noReading) := goodIn_app (goodIn_of _ (by decide +kernel)) ggX12_answer_X12_noReading
set_option maxRecDepth 20000 in
theorem ggX12_answer_X12_readIt : GoodIn wsX12_answer wsX12_readIt := goodIn_r _ [22, 23, 24, 25, 26, 27, 28, 29, 30, 31, 32, 33, 34, 5, 35, 36, 37, 38, 39, 40, 41, 42, 43, 44, 45, 46, 47, 48, 49, 50, 51, 52, 53, 54, 55, 56, 57, 58, 59, 60, 61, 62, 63, 64, 65, 12, 13, 14, 66, 67, 68, 69, 70, 71, 72, 73, 74, 75, 76, 77, 78, 79, 80, 81, 82, 83, 84, 85, 86, 87, 88, 89, 90, 91, 92, 93, 94, 95, 96, 97, 102, 103, 104, 105, 106, 107, 108, 109, 110, 111, 112, 113, 114, 115, 116, 117, 118, 119, 120, 121, 122, 123, 124, 125, 126, 127, 128, 129, 130, 131, 132, 133, 134, 135, 136, 137, 138, 139, 140, 141, 142, 143, 144, 145, 146, 147] rfl (by decide +kernel)
set_option maxRecDepth 20000 in
theorem gX12_answer_X12_readIt : GoodIn wsX12_answer (wsV RX12 255 RX12 yX12_readIt wsX12_readIt) := goodIn_app (goodIn_of _ (by decide +kernel)) ggX12_answer_X12_readIt
set_option maxRecDepth 20000 in
theorem ggX12_answer_X12_answerNumber : GoodIn wsX12_answer wsX12_answerNumber := goodIn_r _ [101, 28, 102, 103, 104, 105, 106, 107, 108, 109, 110, 111, 112, 113, 114, 115, 116, 117, 118, 119, 120, 121, 122, 123, 124, 125, 126, 127, 128, 129, 130, 131, 132, 133, 134, 135, 136, 137, 138, 139, 140, 141, 142, 143, 144, 145, 146, 147] rfl (by decide +kernel)
set_option maxRecDepth 20000 in
theorem gX12_answer_X12_answerNumber : GoodIn wsX12_answer (wsV RX12 259 RX12 yX12_answerNumber wsX12_answerNumber) := goodIn_app (goodIn_of _ (by decide +kernel)) ggX12_answer_X12_answerNumber
set_option maxRecDepth 20000 in
theorem ggX12_fills_X12_noReading : GoodIn wsX12_fills wsX12_noReading := goodIn_r _ [7, 8, 9, 10, 6, 11, 12, 13, 14, 15, 16, 17, 18, 19, 102, 103, 104, 105, 106, 107, 108, 109, 110, 111, 112, 113, 114, 115, 116, 117, 118, 119, 120, 121, 122, 123, 124, 125, 126, 127, 128, 129, 130, 131, 132, 133, 134, 135, 136, 137, 138, 139, 140, 141, 142, 143, 144, 145, 146, 147] rfl (by decide +kernel)
set_option maxRecDepth 20000 in
theorem gX12_fills_X12_noReading : GoodIn wsX12_fills (wsV RX12 250 RX12 yX12_noReading wsX12_noReading) := goodIn_app (goodIn_of _ (by decide +kernel)) ggX12_fills_X12_noReading
set_option maxRecDepth 20000 in
theorem ggX12_fills_X12_noGap : GoodIn wsX12_fills wsX12_noGap := goodIn_r _ [22, 23, 13, 14, 6, 15] rfl (by decide +kernel)
set_option maxRecDepth 20000 in
theorem gX12_fills_X12_noGap : GoodIn wsX12_fills (va_wsS RX12 133 yX12_noGap wsX12_noGap) := goodIn_app (goodIn_of _ (by decide +kernel)) ggX12_fills_X12_noGap
set_option maxRecDepth 20000 in
theorem ggX12_fills_X12_readIt : GoodIn wsX12_fills wsX12_readIt := goodIn_r _ [27, 28, 29, 30, 31, 32, 2, 33, 34, 35, 36, 37, 38, 6, 39, 40, 41, 42, 43, 44, 45, 46, 47, 48, 49, 50, 51, 52, 53, 54, 55, 56, 57, 58, 59, 60, 61, 62, 63, 64, 65, 66, 67, 68, 69, 13, 14, 15, 70, 71, 72, 73, 74, 75, 76, 77, 78, 79, 80, 81, 82, 83, 84, 85, 86, 87, 88, 89, 90, 91, 92, 93, 94, 95, 96, 97, 98, 99, 100, 101, 102, 103, 104, 105, 106, 107, 108, 109, 110, 111, 112, 113, 114, 115, 116, 117, 118, 119, 120, 121, 122, 123, 124, 125, 126, 127, 128, 129, 130, 131, 132, 133, 134, 135, 136, 137, 138, 139, 140, 141, 142, 143, 144, 145, 146, 147] rfl (by decide +kernel)
set_option maxRecDepth 20000 in
theorem gX12_fills_X12_readIt : GoodIn wsX12_fills (wsV RX12 255 RX12 yX12_readIt wsX12_readIt) := goodIn_app (goodIn_of _ (by decide +kernel)) ggX12_fills_X12_readIt
set_option maxRecDepth 20000 in
theorem ggX12_reason_X12_noReading : GoodIn wsX12_reason wsX12_noReading := goodIn_r _ [9, 10, 11, 12, 8, 13, 14, 15, 16, 17, 18, 19, 20, 21, 102, 103, 104, 105, 106, 107, 108, 109, 110, 111, 112, 113, 114, 115, 116, 117, 118, 119, 120, 121, 122, 123, 124, 125, 126, 127, 128, 129, 130, 131, 132, 133, 134, 135, 136, 137, 138, 139, 140, 141, 142, 143, 144, 145, 146, 147] rfl (by decide +kernel)
set_option maxRecDepth 20000 in
theorem gX12_reason_X12_noReading : GoodIn wsX12_reason (wsV RX12 250 RX12 yX12_noReading wsX12_noReading) := goodIn_app (goodIn_of _ (by decide +kernel)) ggX12_reason_X12_noReading
set_option maxRecDepth 20000 in
theorem ggX12_reason_X12_noGap : GoodIn wsX12_reason wsX12_noGap := goodIn_r _ [24, 25, 15, 16, 8, 17] rfl (by decide +kernel)
set_option maxRecDepth 20000 in
theorem gX12_reason_X12_noGap : GoodIn wsX12_reason (va_wsS RX12 133 yX12_noGap wsX12_noGap) := goodIn_app (goodIn_of _ (by decide +kernel)) ggX12_reason_X12_noGap
set_option maxRecDepth 20000 in
theorem ggX12_reason_X12_readIt : GoodIn wsX12_reason wsX12_readIt := goodIn_r _ [29, 30, 31, 32, 33, 34, 35, 36, 3, 2, 37, 38, 39, 8, 40, 41, 42, 43, 44, 45, 46, 47, 48, 49, 50, 4, 51, 52, 53, 54, 55, 56, 57, 58, 59, 60, 61, 62, 63, 64, 65, 66, 67, 68, 69, 15, 16, 17, 70, 71, 72, 73, 74, 75, 76, 77, 78, 79, 80, 81, 82, 83, 84, 85, 86, 87, 88, 89, 90, 91, 92, 93, 94, 95, 96, 97, 98, 99, 100, 101, 102, 103, 104, 105, 106, 107, 108, 109, 110, 111, 112, 113, 114, 115, 116, 117, 118, 119, 120, 121, 122, 123, 124, 125, 126, 127, 128, 129, 130, 131, 132, 133, 134, 135, 136, 137, 138, 139, 140, 141, 142, 143, 144, 145, 146, 147] rfl (by decide +kernel)
set_option maxRecDepth 20000 in
theorem gX12_reason_X12_readIt : GoodIn wsX12_reason (wsV RX12 255 RX12 yX12_readIt wsX12_readIt) := goodIn_app (goodIn_of _ (by decide +kernel)) ggX12_reason_X12_readIt
set_option maxRecDepth 20000 in
theorem ggX12_reason_X12_nextOf : GoodIn wsX12_reason wsX12_nextOf := goodIn_r _ [40, 41, 42, 43, 8, 44, 36, 45, 46, 47, 48, 49, 50, 4, 51, 52, 53, 54, 55, 56, 57, 58, 59, 60, 61, 62, 63, 64, 65, 66, 67, 68, 69, 15, 16, 17, 70, 71, 72, 73, 74, 75, 76, 77, 78, 79, 80, 81, 82, 83, 84, 85, 86, 87, 88, 89, 90, 91, 92, 93, 94, 95, 96, 97, 98, 99, 100, 101, 102, 103, 104, 105, 106, 107, 108, 109, 110, 111, 112, 113, 114, 115, 116, 117, 118, 119, 120, 121, 122, 123, 124, 125, 126, 127, 128, 129, 130, 131, 132, 133, 134, 135, 136, 137, 138, 139, 140, 141, 142, 143, 144, 145, 146, 147] rfl (by decide +kernel)
set_option maxRecDepth 20000 in
theorem gX12_reason_X12_nextOf : GoodIn wsX12_reason (wsV RX12 238 RX12 yX12_nextOf wsX12_nextOf) := goodIn_app (goodIn_of _ (by decide +kernel)) ggX12_reason_X12_nextOf
set_option maxRecDepth 20000 in
theorem ggX12_opens_X12_answerNumber : GoodIn wsX12_opens wsX12_answerNumber := goodIn_r _ [7, 2, 20, 21, 22, 23, 24, 25, 26, 27, 28, 29, 30, 31, 32, 33, 34, 35, 36, 37, 38, 39, 40, 41, 42, 43, 44, 45, 46, 47, 48, 49, 50, 51, 52, 53, 54, 55, 56, 57, 58, 59, 60, 61, 62, 63, 64, 65] rfl (by decide +kernel)
set_option maxRecDepth 20000 in
theorem gX12_opens_X12_answerNumber : GoodIn wsX12_opens (wsV RX12 259 RX12 yX12_answerNumber wsX12_answerNumber) := goodIn_app (goodIn_of _ (by decide +kernel)) ggX12_opens_X12_answerNumber
set_option maxRecDepth 20000 in
theorem ggX12_opens_X12_lay : GoodIn wsX12_opens wsX12_lay := goodIn_r _ [11, 12, 20, 21, 22, 23, 24, 25, 26, 27, 28, 29, 30, 31, 32, 33, 34, 35, 36, 37, 38, 39, 40, 41, 42, 43, 44, 45, 46, 47, 48, 49, 50, 51, 52, 53, 54, 55, 56, 57, 58, 59, 60, 61, 62, 63, 64, 65] rfl (by decide +kernel)
set_option maxRecDepth 20000 in
theorem gX12_opens_X12_lay : GoodIn wsX12_opens (wsV RX12 228 RX12 yX12_lay wsX12_lay) := goodIn_app (goodIn_of _ (by decide +kernel)) ggX12_opens_X12_lay
set_option maxRecDepth 20000 in
theorem ggX12_opens_X12_isAsked : GoodIn wsX12_opens wsX12_isAsked := goodIn_r _ [16, 17, 18, 12, 19, 20, 21, 22, 23, 24, 25, 26, 27, 28, 29, 30, 31, 32, 33, 34, 35, 36, 37, 38, 39, 40, 41, 42, 43, 44, 45, 46, 47, 48, 49, 50, 51, 52, 53, 54, 55, 56, 57, 58, 59, 60, 61, 62, 63, 64, 65] rfl (by decide +kernel)
