theorem inJ11 : ∀ w ∈ wsJ110, w ∈ lw_tbl := by decide +kernel
theorem inJx8e188 : ∀ w ∈ wsJx8e1880, w ∈ lw_tbl := by decide +kernel
theorem inJ6 : ∀ w ∈ wsJ60, w ∈ lw_tbl := by decide +kernel
theorem inJ9 : ∀ w ∈ wsJ90, w ∈ lw_tbl := by decide +kernel
theorem inJ0 : ∀ w ∈ wsJ00, w ∈ lw_tbl := by decide +kernel
theorem inJ1 : ∀ w ∈ wsJ10, w ∈ lw_tbl := by decide +kernel
theorem inJ2 : ∀ w ∈ wsJ20, w ∈ lw_tbl := by decide +kernel
theorem inJ10 : ∀ w ∈ wsJ100, w ∈ lw_tbl := by decide +kernel
theorem inJ3 : ∀ w ∈ wsJ30, w ∈ lw_tbl := by decide +kernel
set_option maxRecDepth 20000 in
theorem ggX0_init_X8_init : GoodIn wsX0_init wsX8_init := goodIn_r _ [15, 12, 16, 17, 18, 19, 20, 21, 22, 2, 3, 28, 29, 30] rfl (by decide +kernel)
set_option maxRecDepth 20000 in
theorem gX0_init_X8_init_n23 : GoodIn wsX0_init (wsX8_init) := ggX0_init_X8_init
set_option maxRecDepth 20000 in
theorem ggX0_strike_X8_copy : GoodIn wsX0_strike wsX8_copy := goodIn_r _ [9, 10, 11, 12, 13, 14, 15, 21, 22, 23] rfl (by decide +kernel)
set_option maxRecDepth 20000 in
theorem gX0_strike_X8_copy : GoodIn wsX0_strike (wsV RX0 33 RX8 yX8_copy wsX8_copy) := goodIn_app (goodIn_of _ (by decide +kernel)) ggX0_strike_X8_copy
set_option maxRecDepth 20000 in
theorem ggX0_farFrom_X11_valueAt : GoodIn wsX0_farFrom wsX11_valueAt := goodIn_r _ [4] rfl (by decide +kernel)
set_option maxRecDepth 20000 in
theorem gX0_farFrom_X11_valueAt_n37 : GoodIn wsX0_farFrom (wsX11_valueAt) := ggX0_farFrom_X11_valueAt
set_option maxRecDepth 20000 in
theorem ggX0_sayable_X0_commonThought : GoodIn wsX0_sayable wsX0_commonThought := goodIn_r _ [7, 8, 9, 10, 11, 12, 13] rfl (by decide +kernel)
set_option maxRecDepth 20000 in
theorem gX0_sayable_X0_commonThought : GoodIn wsX0_sayable (wsV RX0 45 RX0 yX0_commonThought wsX0_commonThought) := goodIn_app (goodIn_of _ (by decide +kernel)) ggX0_sayable_X0_commonThought
set_option maxRecDepth 20000 in
theorem ggX1_isKnown_X11_bit : GoodIn wsX1_isKnown wsX11_bit := goodIn_r _ [8] rfl (by decide +kernel)
set_option maxRecDepth 20000 in
theorem gX1_isKnown_X11_bit_n47 : GoodIn wsX1_isKnown (wsX11_bit) := ggX1_isKnown_X11_bit
set_option maxRecDepth 20000 in
theorem ggX1_valueBefore_X1_isOfTwo : GoodIn wsX1_valueBefore wsX1_isOfTwo := goodIn_r _ [9, 10, 11, 12, 13, 14, 15, 16, 17, 18, 19, 20] rfl (by decide +kernel)
set_option maxRecDepth 20000 in
theorem gX1_valueBefore_X1_isOfTwo : GoodIn wsX1_valueBefore (wsV RX1 51 RX1 yX1_isOfTwo wsX1_isOfTwo) := goodIn_app (goodIn_of _ (by decide +kernel)) ggX1_valueBefore_X1_isOfTwo
set_option maxRecDepth 20000 in
theorem ggX1_customOf_X1_tallyUp : GoodIn wsX1_customOf wsX1_tallyUp := goodIn_r _ [6, 1, 7, 8, 9, 10, 11, 15, 16, 17, 18, 19, 20, 21, 22, 23] rfl (by decide +kernel)
set_option maxRecDepth 20000 in
theorem gX1_customOf_X1_tallyUp : GoodIn wsX1_customOf (wsV RX1 55 RX1 yX1_tallyUp wsX1_tallyUp) := goodIn_app (goodIn_of _ (by decide +kernel)) ggX1_customOf_X1_tallyUp
set_option maxRecDepth 20000 in
theorem ggX1_customOf_X1_isCustom : GoodIn wsX1_customOf wsX1_isCustom := goodIn_r _ [14] rfl (by decide +kernel)
set_option maxRecDepth 20000 in
theorem gX1_customOf_X1_isCustom : GoodIn wsX1_customOf (va_wsS RX1 58 yX1_isCustom wsX1_isCustom) := goodIn_app (goodIn_of _ (by decide +kernel)) ggX1_customOf_X1_isCustom
set_option maxRecDepth 20000 in
theorem ggX1_lacking_X1_tallyUp : GoodIn wsX1_lacking wsX1_tallyUp := goodIn_r _ [6, 1, 7, 8, 9, 10, 11, 15, 16, 17, 18, 19, 20, 21, 22, 23] rfl (by decide +kernel)
set_option maxRecDepth 20000 in
theorem gX1_lacking_X1_tallyUp : GoodIn wsX1_lacking (wsV RX1 55 RX1 yX1_tallyUp wsX1_tallyUp) := goodIn_app (goodIn_of _ (by decide +kernel)) ggX1_lacking_X1_tallyUp
set_option maxRecDepth 20000 in
theorem ggX1_lacking_X1_isCustom : GoodIn wsX1_lacking wsX1_isCustom := goodIn_r _ [14] rfl (by decide +kernel)
set_option maxRecDepth 20000 in
theorem gX1_lacking_X1_isCustom : GoodIn wsX1_lacking (va_wsS RX1 58 yX1_isCustom wsX1_isCustom) := goodIn_app (goodIn_of _ (by decide +kernel)) ggX1_lacking_X1_isCustom
set_option maxRecDepth 20000 in
theorem ggX2_first_X11_isGap : GoodIn wsX2_first wsX11_isGap := goodIn_r _ [6] rfl (by decide +kernel)
set_option maxRecDepth 20000 in
theorem gX2_first_X11_isGap_n28 : GoodIn wsX2_first (wsX11_isGap) := ggX2_first_X11_isGap
set_option maxRecDepth 20000 in
theorem ggX3_isAsked_X11_isGap : GoodIn wsX3_isAsked wsX11_isGap := goodIn_r _ [6] rfl (by decide +kernel)
set_option maxRecDepth 20000 in
theorem gX3_isAsked_X11_isGap_n25 : GoodIn wsX3_isAsked (wsX11_isGap) := ggX3_isAsked_X11_isGap
set_option maxRecDepth 20000 in
theorem ggX4_init_X10_init : GoodIn wsX4_init wsX10_init := goodIn_r _ [6, 7, 8, 9] rfl (by decide +kernel)
set_option maxRecDepth 20000 in
theorem gX4_init_X10_init_n3 : GoodIn wsX4_init (wsX10_init) := ggX4_init_X10_init
set_option maxRecDepth 20000 in
theorem ggX4_init_J0_length_8abf5 : GoodIn wsX4_init wsJ0_length_8abf5 := goodIn_r _ [14, 15, 16, 17, 18, 13, 19, 20, 21] rfl (by decide +kernel)
set_option maxRecDepth 20000 in
theorem gX4_init_J0_length_8abf5 : GoodIn wsX4_init (wsV RX4 11 RJ0 yJ0_length_8abf5 wsJ0_length_8abf5) := goodIn_app (goodIn_of _ (by decide +kernel)) ggX4_init_J0_length_8abf5
set_option maxRecDepth 20000 in
theorem ggX4_accept_J0_indexOf_0f7a4 : GoodIn wsX4_accept wsJ0_indexOf_0f7a4 := goodIn_r _ [7, 8, 9, 10, 6, 11, 12, 13, 14, 15, 16, 17, 18, 19, 20, 21, 22, 23, 24, 25, 26, 27, 28, 29, 30, 31, 32, 33, 34, 35, 36, 37, 38, 39, 40, 41, 42, 43, 44, 45, 46, 47, 48, 49, 50, 51, 52, 53, 54, 55, 56, 57, 58, 59, 60, 61, 62, 63, 64, 65, 66, 67, 68, 69, 70, 71, 72, 73, 74, 75, 76, 77, 78, 79, 80, 81, 82, 83, 84, 85, 86, 87, 88, 89, 90, 91] rfl (by decide +kernel)
set_option maxRecDepth 20000 in
theorem gX4_accept_J0_indexOf_0f7a4 : GoodIn wsX4_accept (wsV RX4 27 RJ0 yJ0_indexOf_0f7a4 wsJ0_indexOf_0f7a4) := goodIn_app (goodIn_of _ (by decide +kernel)) ggX4_accept_J0_indexOf_0f7a4
set_option maxRecDepth 20000 in
theorem ggX4_accept_X4_has : GoodIn wsX4_accept wsX4_has := goodIn_r _ [96, 1, 2, 97, 98] rfl (by decide +kernel)
set_option maxRecDepth 20000 in
theorem gX4_accept_X4_has : GoodIn wsX4_accept (wsV RX4 31 RX4 yX4_has wsX4_has) := goodIn_app (goodIn_of _ (by decide +kernel)) ggX4_accept_X4_has
set_option maxRecDepth 20000 in
theorem ggX5_init_X2_init : GoodIn wsX5_init wsX2_init := goodIn_r _ [26, 27, 2, 3, 28, 8, 29, 30, 31, 32, 50, 51, 52, 53, 54] rfl (by decide +kernel)
set_option maxRecDepth 20000 in
theorem gX5_init_X2_init_n69 : GoodIn wsX5_init (wsX2_init) := ggX5_init_X2_init
set_option maxRecDepth 20000 in
theorem ggX5_take_X1_isKnown : GoodIn wsX5_take wsX1_isKnown := goodIn_r _ [17, 18, 19, 20, 21, 22, 23, 24, 25, 74, 75, 76, 77, 78, 79, 80, 81, 82] rfl (by decide +kernel)
set_option maxRecDepth 20000 in
theorem gX5_take_X1_isKnown : GoodIn wsX5_take (wsV RX5 83 RX1 yX1_isKnown wsX1_isKnown) := goodIn_app (goodIn_of _ (by decide +kernel)) ggX5_take_X1_isKnown
set_option maxRecDepth 20000 in
theorem ggX5_take_X1_valueBefore : GoodIn wsX5_take wsX1_valueBefore := goodIn_r _ [29, 19, 30, 31, 32, 33, 34, 35, 16, 36, 21, 22, 74, 75, 76, 77, 78, 79, 80, 81, 82] rfl (by decide +kernel)
set_option maxRecDepth 20000 in
theorem gX5_take_X1_valueBefore : GoodIn wsX5_take (wsV RX5 95 RX1 yX1_valueBefore wsX1_valueBefore) := goodIn_app (goodIn_of _ (by decide +kernel)) ggX5_take_X1_valueBefore
set_option maxRecDepth 20000 in
theorem ggX5_take_X1_customOf : GoodIn wsX5_take wsX1_customOf := goodIn_r _ [40, 41, 42, 43, 44, 16, 45, 19, 20, 30, 32, 31, 46, 47, 48, 74, 75, 76, 77, 78, 79, 80, 81, 82] rfl (by decide +kernel)
set_option maxRecDepth 20000 in
theorem gX5_take_X1_customOf : GoodIn wsX5_take (wsV RX5 99 RX1 yX1_customOf wsX1_customOf) := goodIn_app (goodIn_of _ (by decide +kernel)) ggX5_take_X1_customOf
set_option maxRecDepth 20000 in
theorem ggX5_sayToo_X11_bit : GoodIn wsX5_sayToo wsX11_bit := goodIn_r _ [6] rfl (by decide +kernel)
set_option maxRecDepth 20000 in
theorem gX5_sayToo_X11_bit_n103 : GoodIn wsX5_sayToo (wsX11_bit) := ggX5_sayToo_X11_bit
set_option maxRecDepth 20000 in
theorem ggX5_sayToo_X0_commonThought : GoodIn wsX5_sayToo wsX0_commonThought := goodIn_r _ [11, 12, 30, 31, 32, 33, 34] rfl (by decide +kernel)
set_option maxRecDepth 20000 in
theorem gX5_sayToo_X0_commonThought : GoodIn wsX5_sayToo (wsV RX5 107 RX0 yX0_commonThought wsX0_commonThought) := goodIn_app (goodIn_of _ (by decide +kernel)) ggX5_sayToo_X0_commonThought
set_option maxRecDepth 20000 in
theorem ggX5_plan_X2_clear : GoodIn wsX5_plan wsX2_clear := goodIn_r _ [8, 9, 81, 82, 83, 84, 85] rfl (by decide +kernel)
set_option maxRecDepth 20000 in
theorem gX5_plan_X2_clear : GoodIn wsX5_plan (wsV RX5 111 RX2 yX2_clear wsX2_clear) := goodIn_app (goodIn_of _ (by decide +kernel)) ggX5_plan_X2_clear
set_option maxRecDepth 20000 in
theorem ggX5_plan_X5_planRules : GoodIn wsX5_plan wsX5_planRules := goodIn_r _ [14, 15, 16, 17, 18, 19, 20, 21, 22, 1, 23, 24, 25, 26, 27, 13, 28, 29, 30, 31, 32, 33, 7, 34, 9, 35, 36, 37, 38, 62, 63, 64, 65, 66, 67, 68, 69, 70, 71, 72, 73, 74, 75, 76, 77, 78, 86, 87, 88, 89, 90, 91, 92, 93, 94, 95, 96, 97, 81, 82, 83, 84, 85] rfl (by decide +kernel)
set_option maxRecDepth 20000 in
theorem gX5_plan_X5_planRules : GoodIn wsX5_plan (wsV RX5 114 RX5 yX5_planRules wsX5_planRules) := goodIn_app (goodIn_of _ (by decide +kernel)) ggX5_plan_X5_planRules
set_option maxRecDepth 20000 in
theorem ggX5_plan_X5_planLetter : GoodIn wsX5_plan wsX5_planLetter := goodIn_r _ [42, 43, 44, 45, 46, 47, 48, 49, 50, 51, 52, 13, 53, 1, 25, 26, 27, 28, 29, 30, 31, 32, 33, 7, 34, 9, 35, 36, 37, 38, 54, 55, 56, 57, 58, 59, 60, 61, 10, 11, 12, 14, 15, 16, 17, 18, 19, 20, 21, 22, 23, 24, 62, 63, 64, 65, 66, 67, 68, 69, 70, 71, 72, 73, 74, 75, 76, 77, 78, 94, 95, 96, 97, 81, 82, 83, 84, 85, 86, 87, 88, 89, 90, 91, 92, 93] rfl (by decide +kernel)
set_option maxRecDepth 20000 in
theorem gX5_plan_X5_planLetter : GoodIn wsX5_plan (wsV RX5 126 RX5 yX5_planLetter wsX5_planLetter) := goodIn_app (goodIn_of _ (by decide +kernel)) ggX5_plan_X5_planLetter
set_option maxRecDepth 20000 in
theorem ggX5_planLetter_X11_bit : GoodIn wsX5_planLetter wsX11_bit := goodIn_r _ [7] rfl (by decide +kernel)
set_option maxRecDepth 20000 in
theorem gX5_planLetter_X11_bit_n103 : GoodIn wsX5_planLetter (wsX11_bit) := ggX5_planLetter_X11_bit
set_option maxRecDepth 20000 in
theorem ggX5_planLetter_X5_planRow : GoodIn wsX5_planLetter wsX5_planRow := goodIn_r _ [12, 13, 14, 15, 16, 11, 17, 18, 19, 20, 21, 22, 23, 24, 25, 26, 27, 28, 29, 52, 53, 54, 55, 56, 57, 58, 59, 60, 61, 62, 63, 64, 65, 66, 67, 68, 69, 70, 71, 72, 73, 74, 75, 76, 77] rfl (by decide +kernel)
set_option maxRecDepth 20000 in
theorem gX5_planLetter_X5_planRow : GoodIn wsX5_planLetter (wsV RX5 129 RX5 yX5_planRow wsX5_planRow) := goodIn_app (goodIn_of _ (by decide +kernel)) ggX5_planLetter_X5_planRow
set_option maxRecDepth 20000 in
theorem ggX5_planLetter_X5_planLawAhead : GoodIn wsX5_planLetter wsX5_planLawAhead := goodIn_r _ [33, 34, 35, 13, 36, 6, 37, 14, 15, 16, 11, 17, 18, 19, 20, 21, 22, 23, 24, 25, 26, 27, 28, 29, 52, 53, 54, 55, 56, 57, 58, 59, 60, 61, 62, 63, 64, 65, 66, 67, 68, 69, 70, 71, 72, 73, 74, 75, 76, 77] rfl (by decide +kernel)
set_option maxRecDepth 20000 in
theorem gX5_planLetter_X5_planLawAhead : GoodIn wsX5_planLetter (wsV RX5 133 RX5 yX5_planLawAhead wsX5_planLawAhead) := goodIn_app (goodIn_of _ (by decide +kernel)) ggX5_planLetter_X5_planLawAhead
set_option maxRecDepth 20000 in
theorem ggX5_planLetter_X5_planRules : GoodIn wsX5_planLetter wsX5_planRules := goodIn_r _ [41, 42, 43, 44, 45, 46, 47, 48, 49, 13, 50, 51, 14, 15, 16, 11, 17, 18, 19, 20, 21, 22, 23, 24, 25, 26, 27, 28, 29, 52, 53, 54, 55, 56, 57, 58, 59, 60, 61, 62, 63, 64, 65, 66, 67, 68, 78, 79, 80, 81, 82, 83, 84, 85, 69, 70, 71, 72, 73, 74, 75, 76, 77] rfl (by decide +kernel)
set_option maxRecDepth 20000 in
theorem gX5_planLetter_X5_planRules : GoodIn wsX5_planLetter (wsV RX5 114 RX5 yX5_planRules wsX5_planRules) := goodIn_app (goodIn_of _ (by decide +kernel)) ggX5_planLetter_X5_planRules
set_option maxRecDepth 20000 in
theorem ggX5_planRow_X5_isThere : GoodIn wsX5_planRow wsX5_isThere := goodIn_r _ [6, 7, 8, 19, 20, 21, 22, 23, 24, 25, 26, 27, 28, 29, 30, 31, 32, 33, 34, 35, 36, 37, 38, 39] rfl (by decide +kernel)
set_option maxRecDepth 20000 in
theorem gX5_planRow_X5_isThere : GoodIn wsX5_planRow (wsV RX5 136 RX5 yX5_isThere wsX5_isThere) := goodIn_app (goodIn_of _ (by decide +kernel)) ggX5_planRow_X5_isThere
set_option maxRecDepth 20000 in
theorem ggX5_planRow_X2_add : GoodIn wsX5_planRow wsX2_add := goodIn_r _ [13, 14, 15, 16, 17, 18, 40, 41, 42, 43, 44] rfl (by decide +kernel)
set_option maxRecDepth 20000 in
theorem gX5_planRow_X2_add : GoodIn wsX5_planRow (wsV RX5 139 RX2 yX2_add wsX2_add) := goodIn_app (goodIn_of _ (by decide +kernel)) ggX5_planRow_X2_add
set_option maxRecDepth 20000 in
theorem ggX5_planLawAhead_X11_isGap : GoodIn wsX5_planLawAhead wsX11_isGap := goodIn_r _ [6] rfl (by decide +kernel)
set_option maxRecDepth 20000 in
theorem gX5_planLawAhead_X11_isGap_n143 : GoodIn wsX5_planLawAhead (wsX11_isGap) := ggX5_planLawAhead_X11_isGap
set_option maxRecDepth 20000 in
theorem ggX5_planLawAhead_X5_isThere : GoodIn wsX5_planLawAhead wsX5_isThere := goodIn_r _ [11, 12, 13, 24, 25, 26, 27, 28, 29, 30, 31, 32, 33, 34, 35, 36, 37, 38, 39, 40, 41, 42, 43, 44] rfl (by decide +kernel)
set_option maxRecDepth 20000 in
theorem gX5_planLawAhead_X5_isThere : GoodIn wsX5_planLawAhead (wsV RX5 136 RX5 yX5_isThere wsX5_isThere) := goodIn_app (goodIn_of _ (by decide +kernel)) ggX5_planLawAhead_X5_isThere
set_option maxRecDepth 20000 in
theorem ggX5_planLawAhead_X2_add : GoodIn wsX5_planLawAhead wsX2_add := goodIn_r _ [18, 19, 20, 21, 22, 23, 45, 46, 47, 48, 49] rfl (by decide +kernel)
set_option maxRecDepth 20000 in
theorem gX5_planLawAhead_X2_add : GoodIn wsX5_planLawAhead (wsV RX5 139 RX2 yX2_add wsX2_add) := goodIn_app (goodIn_of _ (by decide +kernel)) ggX5_planLawAhead_X2_add
set_option maxRecDepth 20000 in
theorem ggX5_planRules_X5_isThere : GoodIn wsX5_planRules wsX5_isThere := goodIn_r _ [16, 17, 18, 29, 30, 31, 32, 33, 34, 35, 36, 37, 38, 39, 40, 41, 42, 43, 44, 45, 54, 55, 56, 57] rfl (by decide +kernel)
set_option maxRecDepth 20000 in
theorem gX5_planRules_X5_isThere : GoodIn wsX5_planRules (wsV RX5 136 RX5 yX5_isThere wsX5_isThere) := goodIn_app (goodIn_of _ (by decide +kernel)) ggX5_planRules_X5_isThere
set_option maxRecDepth 20000 in
theorem ggX5_planRules_X2_add : GoodIn wsX5_planRules wsX2_add := goodIn_r _ [23, 24, 25, 26, 27, 28, 58, 59, 60, 61, 62] rfl (by decide +kernel)
set_option maxRecDepth 20000 in
theorem gX5_planRules_X2_add : GoodIn wsX5_planRules (wsV RX5 139 RX2 yX2_add wsX2_add) := goodIn_app (goodIn_of _ (by decide +kernel)) ggX5_planRules_X2_add
set_option maxRecDepth 20000 in
theorem ggX5_follow_X11_spread : GoodIn wsX5_follow wsX11_spread := goodIn_r _ [6] rfl (by decide +kernel)
set_option maxRecDepth 20000 in
theorem gX5_follow_X11_spread_n175 : GoodIn wsX5_follow (wsX11_spread) := ggX5_follow_X11_spread
set_option maxRecDepth 20000 in
theorem ggX5_follow_X3_isAsked : GoodIn wsX5_follow wsX3_isAsked := goodIn_r _ [11, 12, 13, 14, 15, 5, 16, 47, 48, 49, 50] rfl (by decide +kernel)
set_option maxRecDepth 20000 in
theorem gX5_follow_X3_isAsked : GoodIn wsX5_follow (wsV RX5 179 RX3 yX3_isAsked wsX3_isAsked) := goodIn_app (goodIn_of _ (by decide +kernel)) ggX5_follow_X3_isAsked
set_option maxRecDepth 20000 in
theorem ggX5_follow_X2_first : GoodIn wsX5_follow wsX2_first := goodIn_r _ [21, 22, 23, 24, 15, 5, 16, 51, 52, 53, 54, 55] rfl (by decide +kernel)
set_option maxRecDepth 20000 in
theorem gX5_follow_X2_first : GoodIn wsX5_follow (wsV RX5 183 RX2 yX2_first wsX2_first) := goodIn_app (goodIn_of _ (by decide +kernel)) ggX5_follow_X2_first
set_option maxRecDepth 20000 in
theorem ggX5_follow_X2_valueOf : GoodIn wsX5_follow wsX2_valueOf := goodIn_r _ [28, 22, 29, 51, 52, 53, 54, 55] rfl (by decide +kernel)
set_option maxRecDepth 20000 in
theorem gX5_follow_X2_valueOf : GoodIn wsX5_follow (wsV RX5 187 RX2 yX2_valueOf wsX2_valueOf) := goodIn_app (goodIn_of _ (by decide +kernel)) ggX5_follow_X2_valueOf
set_option maxRecDepth 20000 in
theorem ggX5_read_X5_plan : GoodIn wsX5_read wsX5_plan := goodIn_r _ [9, 10, 11, 12, 13, 14, 15, 16, 17, 18, 19, 20, 21, 8, 22, 23, 24, 25, 26, 27, 28, 29, 30, 31, 32, 33, 34, 35, 36, 37, 38, 39, 40, 41, 42, 43, 44, 45, 46, 47, 48, 49, 50, 51, 52, 53, 54, 55, 56, 57, 58, 59, 60, 61, 62, 63, 64, 65, 66, 67, 68, 69, 109, 110, 111, 112, 113, 114, 115, 116, 117, 118, 119, 120, 121, 122, 123, 124, 125, 126, 127, 128, 129, 130, 131, 132, 133, 134, 135, 136, 137, 138, 139, 140, 141, 142, 143, 144] rfl (by decide +kernel)
set_option maxRecDepth 20000 in
theorem gX5_read_X5_plan : GoodIn wsX5_read (wsV RX5 190 RX5 yX5_plan wsX5_plan) := goodIn_app (goodIn_of _ (by decide +kernel)) ggX5_read_X5_plan
set_option maxRecDepth 20000 in
theorem ggX5_read_X5_findRing : GoodIn wsX5_read wsX5_findRing := goodIn_r _ [73, 3, 74, 75, 76, 77, 8, 78, 79, 37, 10, 80, 56, 81, 82, 83, 84, 85, 86, 87, 88, 89, 68, 69, 90, 91, 92, 16, 93, 18, 45, 46, 94, 95, 96, 97, 43, 109, 110, 111, 112, 113, 114, 115, 116, 117, 118, 119, 120, 121, 122, 123, 124, 125, 141, 142, 143, 144, 128, 129, 130, 131, 132] rfl (by decide +kernel)
set_option maxRecDepth 20000 in
theorem gX5_read_X5_findRing : GoodIn wsX5_read (wsV RX5 194 RX5 yX5_findRing wsX5_findRing) := goodIn_app (goodIn_of _ (by decide +kernel)) ggX5_read_X5_findRing
set_option maxRecDepth 20000 in
theorem ggX5_read_X5_findRounds : GoodIn wsX5_read wsX5_findRounds := goodIn_r _ [101, 3, 102, 74, 75, 76, 77, 8, 78, 79, 37, 10, 80, 56, 81, 82, 83, 84, 85, 86, 87, 88, 89, 68, 69, 90, 91, 92, 16, 93, 18, 45, 46, 94, 95, 96, 97, 43, 109, 110, 111, 112, 113, 114, 115, 116, 117, 118, 119, 120, 121, 122, 123, 124, 125, 141, 142, 143, 144, 128, 129, 130, 131, 132] rfl (by decide +kernel)
set_option maxRecDepth 20000 in
theorem gX5_read_X5_findRounds : GoodIn wsX5_read (wsV RX5 197 RX5 yX5_findRounds wsX5_findRounds) := goodIn_app (goodIn_of _ (by decide +kernel)) ggX5_read_X5_findRounds
set_option maxRecDepth 20000 in
theorem ggX5_read_X5_follow : GoodIn wsX5_read wsX5_follow := goodIn_r _ [78, 79, 37, 10, 80, 56, 81, 82, 83, 84, 85, 86, 87, 88, 89, 68, 69, 90, 91, 92, 16, 93, 18, 45, 46, 94, 95, 96, 97, 43, 109, 110, 111, 112, 113, 114, 115, 116, 117, 118, 119, 120, 121, 122, 123, 124, 125, 141, 142, 143, 144, 128, 129, 130, 131, 132] rfl (by decide +kernel)
set_option maxRecDepth 20000 in
theorem gX5_read_X5_follow : GoodIn wsX5_read (wsV RX5 201 RX5 yX5_follow wsX5_follow) := goodIn_app (goodIn_of _ (by decide +kernel)) ggX5_read_X5_follow
set_option maxRecDepth 20000 in
theorem ggX5_read_X11_unlike : GoodIn wsX5_read wsX11_unlike := goodIn_r _ [104] rfl (by decide +kernel)
set_option maxRecDepth 20000 in
theorem gX5_read_X11_unlike_n204 : GoodIn wsX5_read (wsX11_unlike) := ggX5_read_X11_unlike
set_option maxRecDepth 20000 in
theorem ggX5_read_X5_without : GoodIn wsX5_read wsX5_without := goodIn_r _ [108, 79, 80, 56, 81, 55, 57, 109, 110, 111, 112, 113, 114, 115, 116, 117, 118, 119, 120, 121, 122, 123, 124, 125] rfl (by decide +kernel)
set_option maxRecDepth 20000 in
theorem gX5_read_X5_without : GoodIn wsX5_read (wsV RX5 207 RX5 yX5_without wsX5_without) := goodIn_app (goodIn_of _ (by decide +kernel)) ggX5_read_X5_without
set_option maxRecDepth 20000 in
theorem ggX5_findRing_X5_follow : GoodIn wsX5_findRing wsX5_follow := goodIn_r _ [7, 8, 9, 10, 11, 12, 13, 14, 15, 16, 17, 18, 19, 20, 21, 22, 23, 24, 25, 26, 27, 28, 29, 30, 31, 32, 33, 34, 35, 36, 37, 38, 39, 40, 41, 42, 43, 44, 45, 46, 47, 48, 49, 50, 51, 52, 53, 54, 55, 56, 57, 58, 59, 60, 61, 62] rfl (by decide +kernel)
set_option maxRecDepth 20000 in
theorem gX5_findRing_X5_follow : GoodIn wsX5_findRing (wsV RX5 201 RX5 yX5_follow wsX5_follow) := goodIn_app (goodIn_of _ (by decide +kernel)) ggX5_findRing_X5_follow
set_option maxRecDepth 20000 in
theorem ggX5_findRounds_X5_follow : GoodIn wsX5_findRounds wsX5_follow := goodIn_r _ [8, 9, 10, 11, 12, 13, 14, 15, 16, 17, 18, 19, 20, 21, 22, 23, 24, 25, 26, 27, 28, 29, 30, 31, 32, 33, 34, 35, 36, 37, 38, 39, 40, 41, 42, 43, 44, 45, 46, 47, 48, 49, 50, 51, 52, 53, 54, 55, 56, 57, 58, 59, 60, 61, 62, 63] rfl (by decide +kernel)
set_option maxRecDepth 20000 in
theorem gX5_findRounds_X5_follow : GoodIn wsX5_findRounds (wsV RX5 201 RX5 yX5_follow wsX5_follow) := goodIn_app (goodIn_of _ (by decide +kernel)) ggX5_findRounds_X5_follow
set_option maxRecDepth 20000 in
theorem ggX5_without_X11_spread : GoodIn wsX5_without wsX11_spread := goodIn_r _ [4] rfl (by decide +kernel)
set_option maxRecDepth 20000 in
theorem gX5_without_X11_spread_n175 : GoodIn wsX5_without (wsX11_spread) := ggX5_without_X11_spread
set_option maxRecDepth 20000 in
theorem ggX5_without_X11_bit : GoodIn wsX5_without wsX11_bit := goodIn_r _ [6] rfl (by decide +kernel)
set_option maxRecDepth 20000 in
theorem gX5_without_X11_bit_n103 : GoodIn wsX5_without (wsX11_bit) := ggX5_without_X11_bit
set_option maxRecDepth 20000 in
theorem ggX5_reasonOf_X11_bit : GoodIn wsX5_reasonOf wsX11_bit := goodIn_r _ [8] rfl (by decide +kernel)
set_option maxRecDepth 20000 in
theorem gX5_reasonOf_X11_bit_n103 : GoodIn wsX5_reasonOf (wsX11_bit) := ggX5_reasonOf_X11_bit
set_option maxRecDepth 20000 in
theorem ggX5_reasonOf_X11_spread : GoodIn wsX5_reasonOf wsX11_spread := goodIn_r _ [10] rfl (by decide +kernel)
set_option maxRecDepth 20000 in
theorem gX5_reasonOf_X11_spread_n175 : GoodIn wsX5_reasonOf (wsX11_spread) := ggX5_reasonOf_X11_spread
set_option maxRecDepth 20000 in
theorem ggX5_reasonOf_X3_isAsked : GoodIn wsX5_reasonOf wsX3_isAsked := goodIn_r _ [15, 16, 17, 18, 19, 7, 20, 51, 52, 53, 54] rfl (by decide +kernel)
set_option maxRecDepth 20000 in
theorem gX5_reasonOf_X3_isAsked : GoodIn wsX5_reasonOf (wsV RX5 179 RX3 yX3_isAsked wsX3_isAsked) := goodIn_app (goodIn_of _ (by decide +kernel)) ggX5_reasonOf_X3_isAsked
set_option maxRecDepth 20000 in
theorem ggX5_reasonOf_X2_first : GoodIn wsX5_reasonOf wsX2_first := goodIn_r _ [25, 26, 27, 28, 19, 7, 20, 55, 56, 57, 58, 59] rfl (by decide +kernel)
set_option maxRecDepth 20000 in
theorem gX5_reasonOf_X2_first : GoodIn wsX5_reasonOf (wsV RX5 183 RX2 yX2_first wsX2_first) := goodIn_app (goodIn_of _ (by decide +kernel)) ggX5_reasonOf_X2_first
set_option maxRecDepth 20000 in
theorem ggX5_reasonOf_X2_reasonOf : GoodIn wsX5_reasonOf wsX2_reasonOf := goodIn_r _ [32, 26, 33, 55, 56, 57, 58, 59] rfl (by decide +kernel)
set_option maxRecDepth 20000 in
theorem gX5_reasonOf_X2_reasonOf : GoodIn wsX5_reasonOf (wsV RX5 211 RX2 yX2_reasonOf wsX2_reasonOf) := goodIn_app (goodIn_of _ (by decide +kernel)) ggX5_reasonOf_X2_reasonOf
set_option maxRecDepth 20000 in
theorem ggX5_stillOpen_X11_spread : GoodIn wsX5_stillOpen wsX11_spread := goodIn_r _ [6] rfl (by decide +kernel)
set_option maxRecDepth 20000 in
theorem gX5_stillOpen_X11_spread_n175 : GoodIn wsX5_stillOpen (wsX11_spread) := ggX5_stillOpen_X11_spread
set_option maxRecDepth 20000 in
theorem ggX5_stillOpen_X3_isAsked : GoodIn wsX5_stillOpen wsX3_isAsked := goodIn_r _ [11, 12, 13, 14, 15, 5, 16, 34, 35, 36, 37] rfl (by decide +kernel)
set_option maxRecDepth 20000 in
theorem gX5_stillOpen_X3_isAsked : GoodIn wsX5_stillOpen (wsV RX5 179 RX3 yX3_isAsked wsX3_isAsked) := goodIn_app (goodIn_of _ (by decide +kernel)) ggX5_stillOpen_X3_isAsked
set_option maxRecDepth 20000 in
theorem ggX6_init_X10_init : GoodIn wsX6_init wsX10_init := goodIn_r _ [9, 10, 11, 12] rfl (by decide +kernel)
set_option maxRecDepth 20000 in
theorem gX6_init_X10_init_n3 : GoodIn wsX6_init (wsX10_init) := ggX6_init_X10_init
set_option maxRecDepth 20000 in
theorem ggX6_accept_J0_indexOf_0f7a4 : GoodIn wsX6_accept wsJ0_indexOf_0f7a4 := goodIn_r _ [11, 12, 13, 14, 10, 15, 16, 17, 18, 19, 20, 21, 22, 23, 24, 25, 26, 27, 28, 29, 30, 31, 32, 33, 34, 35, 36, 37, 38, 39, 40, 41, 42, 43, 44, 45, 46, 47, 48, 49, 50, 51, 52, 53, 54, 55, 56, 57, 58, 59, 60, 61, 62, 63, 64, 65, 66, 67, 68, 69, 70, 71, 72, 73, 74, 75, 76, 77, 78, 79, 80, 81, 82, 83, 84, 85, 86, 87, 88, 89, 90, 91, 92, 93, 94, 95] rfl (by decide +kernel)
set_option maxRecDepth 20000 in
theorem gX6_accept_J0_indexOf_0f7a4 : GoodIn wsX6_accept (wsV RX6 32 RJ0 yJ0_indexOf_0f7a4 wsJ0_indexOf_0f7a4) := goodIn_app (goodIn_of _ (by decide +kernel)) ggX6_accept_J0_indexOf_0f7a4
set_option maxRecDepth 20000 in
theorem ggX6_accept_X11_figure : GoodIn wsX6_accept wsX11_figure := goodIn_r _ [98] rfl (by decide +kernel)
set_option maxRecDepth 20000 in
theorem gX6_accept_X11_figure_n38 : GoodIn wsX6_accept (wsX11_figure) := ggX6_accept_X11_figure
set_option maxRecDepth 20000 in
theorem ggX6_accept_X6_acceptBehindIf : GoodIn wsX6_accept wsX6_acceptBehindIf := goodIn_r _ [102] rfl (by decide +kernel)
set_option maxRecDepth 20000 in
theorem gX6_accept_X6_acceptBehindIf : GoodIn wsX6_accept (va_wsS RX6 42 yX6_acceptBehindIf wsX6_acceptBehindIf) := goodIn_app (goodIn_of _ (by decide +kernel)) ggX6_accept_X6_acceptBehindIf
set_option maxRecDepth 20000 in
theorem ggX7_init_X6_init : GoodIn wsX7_init wsX6_init := goodIn_r _ [10, 11, 12, 13, 14, 15, 16, 17, 18, 19, 20, 2, 3, 23, 24, 25, 26, 27, 28] rfl (by decide +kernel)
set_option maxRecDepth 20000 in
theorem gX7_init_X6_init_n21 : GoodIn wsX7_init (wsX6_init) := ggX7_init_X6_init
set_option maxRecDepth 20000 in
theorem ggX8_init_X10_init : GoodIn wsX8_init wsX10_init := goodIn_r _ [7, 8, 9, 10] rfl (by decide +kernel)
set_option maxRecDepth 20000 in
theorem gX8_init_X10_init_n3 : GoodIn wsX8_init (wsX10_init) := ggX8_init_X10_init
set_option maxRecDepth 20000 in
theorem ggX8_accept_X8_acceptItem : GoodIn wsX8_accept wsX8_acceptItem := goodIn_r _ [5, 6, 7, 8, 9, 10, 11, 111, 112, 113] rfl (by decide +kernel)
set_option maxRecDepth 20000 in
theorem gX8_accept_X8_acceptItem : GoodIn wsX8_accept (wsV RX8 22 RX8 yX8_acceptItem wsX8_acceptItem) := goodIn_app (goodIn_of _ (by decide +kernel)) ggX8_accept_X8_acceptItem
set_option maxRecDepth 20000 in
theorem ggX8_accept_X8_acceptValue : GoodIn wsX8_accept wsX8_acceptValue := goodIn_r _ [15, 7, 8, 9, 10, 11, 111, 112, 113] rfl (by decide +kernel)
set_option maxRecDepth 20000 in
theorem gX8_accept_X8_acceptValue : GoodIn wsX8_accept (wsV RX8 26 RX8 yX8_acceptValue wsX8_acceptValue) := goodIn_app (goodIn_of _ (by decide +kernel)) ggX8_accept_X8_acceptValue
set_option maxRecDepth 20000 in
theorem ggX8_accept_X8_acceptCrossed : GoodIn wsX8_accept wsX8_acceptCrossed := goodIn_r _ [19, 6, 20, 21, 22, 23, 24, 25, 26, 27, 28, 29, 30, 31, 32, 33, 34, 35, 36, 37, 38, 39, 40, 41, 42, 43, 44, 45, 46, 47, 48, 49, 50, 51, 52, 53, 54, 55, 56, 57, 58, 59, 60, 61, 62, 63, 64, 65, 66, 67, 68, 69, 70, 71, 72, 73, 74, 75, 76, 77, 78, 79, 80, 81, 82, 83, 84, 85, 86, 87, 88, 89, 90, 91, 92, 93, 94, 95, 96, 97, 98, 99, 100, 101, 102, 103, 104, 105, 106, 107, 108, 109, 10, 110, 111, 112, 113] rfl (by decide +kernel)
set_option maxRecDepth 20000 in
theorem gX8_accept_X8_acceptCrossed : GoodIn wsX8_accept (wsV RX8 29 RX8 yX8_acceptCrossed wsX8_acceptCrossed) := goodIn_app (goodIn_of _ (by decide +kernel)) ggX8_accept_X8_acceptCrossed
set_option maxRecDepth 20000 in
theorem ggX8_acceptItem_X11_figure : GoodIn wsX8_acceptItem wsX11_figure := goodIn_r _ [6] rfl (by decide +kernel)
set_option maxRecDepth 20000 in
theorem gX8_acceptItem_X11_figure_n32 : GoodIn wsX8_acceptItem (wsX11_figure) := ggX8_acceptItem_X11_figure
set_option maxRecDepth 20000 in
theorem ggX8_acceptValue_X11_figure : GoodIn wsX8_acceptValue wsX11_figure := goodIn_r _ [5] rfl (by decide +kernel)
set_option maxRecDepth 20000 in
theorem gX8_acceptValue_X11_figure_n32 : GoodIn wsX8_acceptValue (wsX11_figure) := ggX8_acceptValue_X11_figure
set_option maxRecDepth 20000 in
theorem ggX8_acceptCrossed_J0_indexOf_0f7a4 : GoodIn wsX8_acceptCrossed wsJ0_indexOf_0f7a4 := goodIn_r _ [6, 7, 8, 9, 5, 10, 11, 12, 13, 14, 15, 16, 17, 18, 19, 20, 21, 22, 23, 24, 25, 26, 27, 28, 29, 30, 31, 32, 33, 34, 35, 36, 37, 38, 39, 40, 41, 42, 43, 44, 45, 46, 47, 48, 49, 50, 51, 52, 53, 54, 55, 56, 57, 58, 59, 60, 61, 62, 63, 64, 65, 66, 67, 68, 69, 70, 71, 72, 73, 74, 75, 76, 77, 78, 79, 80, 81, 82, 83, 84, 85, 86, 87, 88, 89, 90] rfl (by decide +kernel)
set_option maxRecDepth 20000 in
theorem gX8_acceptCrossed_J0_indexOf_0f7a4 : GoodIn wsX8_acceptCrossed (wsV RX8 38 RJ0 yJ0_indexOf_0f7a4 wsJ0_indexOf_0f7a4) := goodIn_app (goodIn_of _ (by decide +kernel)) ggX8_acceptCrossed_J0_indexOf_0f7a4
set_option maxRecDepth 20000 in
theorem ggX8_acceptCrossed_X11_bit : GoodIn wsX8_acceptCrossed wsX11_bit := goodIn_r _ [93] rfl (by decide +kernel)
set_option maxRecDepth 20000 in
theorem gX8_acceptCrossed_X11_bit_n44 : GoodIn wsX8_acceptCrossed (wsX11_bit) := ggX8_acceptCrossed_X11_bit
set_option maxRecDepth 20000 in
theorem ggX10_readFrom_X4_clear : GoodIn wsX10_readFrom wsX4_clear := goodIn_r _ [8, 9, 167, 168] rfl (by decide +kernel)
set_option maxRecDepth 20000 in
theorem gX10_readFrom_X4_clear_u9X4 : GoodIn wsX10_readFrom (va_wsU RX10 9 RX4 "LeftOut$Written" ⟨"LeftOut$Written", "clear", "()V"⟩ yX4_clear wsX4_clear) := goodIn_app (goodIn_of _ (by decide +kernel)) ggX10_readFrom_X4_clear
set_option maxRecDepth 20000 in
theorem ggX10_readFrom_X6_clear : GoodIn wsX10_readFrom wsX6_clear := goodIn_r _ [13, 14, 15, 16, 169, 170, 171, 172, 173, 174] rfl (by decide +kernel)
set_option maxRecDepth 20000 in
theorem gX10_readFrom_X6_clear_u9X6 : GoodIn wsX10_readFrom (va_wsU RX10 9 RX6 "LeftOut$Written" ⟨"LeftOut$Written", "clear", "()V"⟩ yX6_clear wsX6_clear) := goodIn_app (goodIn_of _ (by decide +kernel)) ggX10_readFrom_X6_clear
set_option maxRecDepth 20000 in
theorem ggX10_readFrom_X8_clear : GoodIn wsX10_readFrom wsX8_clear := goodIn_r _ [20, 21, 22, 175, 176, 177] rfl (by decide +kernel)
set_option maxRecDepth 20000 in
theorem gX10_readFrom_X8_clear_u9X8 : GoodIn wsX10_readFrom (va_wsU RX10 9 RX8 "LeftOut$Written" ⟨"LeftOut$Written", "clear", "()V"⟩ yX8_clear wsX8_clear) := goodIn_app (goodIn_of _ (by decide +kernel)) ggX10_readFrom_X8_clear
set_option maxRecDepth 20000 in
theorem ggX10_readFrom_X4_accept : GoodIn wsX10_readFrom wsX4_accept := goodIn_r _ [27, 9, 28, 29, 30, 31, 32, 33, 34, 35, 36, 37, 38, 39, 40, 41, 42, 43, 44, 45, 46, 47, 48, 49, 50, 51, 52, 53, 54, 55, 56, 57, 58, 59, 60, 61, 62, 63, 64, 65, 66, 67, 68, 69, 70, 71, 72, 73, 74, 75, 76, 77, 78, 79, 80, 81, 82, 83, 84, 85, 86, 87, 88, 89, 90, 91, 92, 93, 94, 95, 96, 97, 98, 99, 100, 101, 102, 103, 104, 105, 106, 107, 108, 109, 110, 111, 112, 113, 114, 115, 116, 117, 118, 119, 120, 7, 121, 167, 168] rfl (by decide +kernel)
set_option maxRecDepth 20000 in
theorem gX10_readFrom_X4_accept_u24X4 : GoodIn wsX10_readFrom (va_wsU RX10 24 RX4 "LeftOut$Written" ⟨"LeftOut$Written", "accept", "(IC)I"⟩ yX4_accept wsX4_accept) := goodIn_app (goodIn_of _ (by decide +kernel)) ggX10_readFrom_X4_accept
set_option maxRecDepth 20000 in
theorem ggX10_readFrom_X6_accept : GoodIn wsX10_readFrom wsX6_accept := goodIn_r _ [124, 125, 126, 127, 14, 15, 16, 128, 30, 31, 32, 33, 34, 35, 36, 37, 38, 39, 40, 41, 42, 43, 44, 45, 46, 47, 48, 49, 50, 51, 52, 53, 54, 55, 56, 57, 58, 59, 60, 61, 62, 63, 64, 65, 66, 67, 68, 69, 70, 71, 72, 73, 74, 75, 76, 77, 78, 79, 80, 81, 82, 83, 84, 85, 86, 87, 88, 89, 90, 91, 92, 93, 94, 95, 96, 97, 98, 99, 100, 101, 102, 103, 104, 105, 106, 107, 108, 109, 110, 111, 112, 113, 114, 115, 116, 117, 129, 130, 131, 132, 133, 12, 134, 169, 170, 171, 172, 173, 174] rfl (by decide +kernel)
set_option maxRecDepth 20000 in
theorem gX10_readFrom_X6_accept_u24X6 : GoodIn wsX10_readFrom (va_wsU RX10 24 RX6 "LeftOut$Written" ⟨"LeftOut$Written", "accept", "(IC)I"⟩ yX6_accept wsX6_accept) := goodIn_app (goodIn_of _ (by decide +kernel)) ggX10_readFrom_X6_accept
set_option maxRecDepth 20000 in
theorem ggX10_readFrom_X8_accept : GoodIn wsX10_readFrom wsX8_accept := goodIn_r _ [137, 138, 139, 140, 19, 141, 22, 21, 142, 129, 130, 131, 143, 144, 145, 146, 147, 148, 149, 150, 151, 30, 31, 32, 33, 34, 35, 36, 37, 38, 39, 40, 41, 42, 43, 44, 45, 46, 47, 48, 49, 50, 51, 52, 53, 54, 55, 56, 57, 58, 59, 60, 61, 62, 63, 64, 65, 66, 67, 68, 69, 70, 71, 72, 73, 74, 75, 76, 77, 78, 79, 80, 81, 82, 83, 84, 85, 86, 87, 88, 89, 90, 91, 92, 93, 94, 95, 96, 97, 98, 99, 100, 101, 102, 103, 104, 105, 106, 107, 108, 109, 110, 111, 112, 113, 114, 115, 116, 117, 152, 153, 175, 176, 177] rfl (by decide +kernel)
set_option maxRecDepth 20000 in
theorem gX10_readFrom_X8_accept_u24X8 : GoodIn wsX10_readFrom (va_wsU RX10 24 RX8 "LeftOut$Written" ⟨"LeftOut$Written", "accept", "(IC)I"⟩ yX8_accept wsX8_accept) := goodIn_app (goodIn_of _ (by decide +kernel)) ggX10_readFrom_X8_accept
set_option maxRecDepth 20000 in
theorem ggX10_readFrom_X4_isWhole : GoodIn wsX10_readFrom wsX4_isWhole := goodIn_r _ [158, 9, 167, 168] rfl (by decide +kernel)
set_option maxRecDepth 20000 in
theorem gX10_readFrom_X4_isWhole_u28X4 : GoodIn wsX10_readFrom (va_wsU RX10 28 RX4 "LeftOut$Written" ⟨"LeftOut$Written", "isWhole", "(I)Z"⟩ yX4_isWhole wsX4_isWhole) := goodIn_app (goodIn_of _ (by decide +kernel)) ggX10_readFrom_X4_isWhole
set_option maxRecDepth 20000 in
theorem ggX10_readFrom_X6_isWhole : GoodIn wsX10_readFrom wsX6_isWhole := goodIn_r _ [161] rfl (by decide +kernel)
set_option maxRecDepth 20000 in
theorem gX10_readFrom_X6_isWhole_u28X6 : GoodIn wsX10_readFrom (va_wsU RX10 28 RX6 "LeftOut$Written" ⟨"LeftOut$Written", "isWhole", "(I)Z"⟩ yX6_isWhole wsX6_isWhole) := goodIn_app (goodIn_of _ (by decide +kernel)) ggX10_readFrom_X6_isWhole
set_option maxRecDepth 20000 in
theorem ggX10_readFrom_X8_isWhole : GoodIn wsX10_readFrom wsX8_isWhole := goodIn_r _ [164] rfl (by decide +kernel)
