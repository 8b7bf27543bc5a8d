set_option maxRecDepth 20000 in
theorem gX10_readFrom_X8_isWhole_u28X8 : GoodIn wsX10_readFrom (va_wsU RX10 28 RX8 "LeftOut$Written" ⟨"LeftOut$Written", "isWhole", "(I)Z"⟩ yX8_isWhole wsX8_isWhole) := goodIn_app (goodIn_of _ (by decide +kernel)) ggX10_readFrom_X8_isWhole
set_option maxRecDepth 20000 in
theorem ggX11_init_X3_init : GoodIn wsX11_init wsX3_init := goodIn_r _ [51, 52, 2, 3, 53, 54, 55, 56, 57, 161, 162, 163, 164] rfl (by decide +kernel)
set_option maxRecDepth 20000 in
theorem gX11_init_X3_init : GoodIn wsX11_init (wsX3_init) := ggX11_init_X3_init
set_option maxRecDepth 20000 in
theorem ggX11_init_X1_init : GoodIn wsX11_init wsX1_init := goodIn_r _ [59, 60, 2, 3, 53, 61, 62, 63, 64, 65, 21, 66, 67, 68, 69, 178, 179, 180, 181, 182, 183, 184, 185, 186] rfl (by decide +kernel)
set_option maxRecDepth 20000 in
theorem gX11_init_X1_init_n30 : GoodIn wsX11_init (wsX1_init) := ggX11_init_X1_init
set_option maxRecDepth 20000 in
theorem ggX11_init_X9_init : GoodIn wsX11_init wsX9_init := goodIn_r _ [71, 72, 2, 3, 73, 74, 75, 187, 188] rfl (by decide +kernel)
set_option maxRecDepth 20000 in
theorem gX11_init_X9_init_n45 : GoodIn wsX11_init (wsX9_init) := ggX11_init_X9_init
set_option maxRecDepth 20000 in
theorem ggX11_init_X7_init : GoodIn wsX11_init wsX7_init := goodIn_r _ [78, 79, 2, 3, 80, 81, 82, 83, 84, 85, 86, 87, 88, 89, 90, 91, 92, 93, 94, 95, 96, 189, 190, 218, 219, 220, 221, 222, 223] rfl (by decide +kernel)
set_option maxRecDepth 20000 in
theorem gX11_init_X7_init : GoodIn wsX11_init (wsX7_init) := ggX11_init_X7_init
set_option maxRecDepth 20000 in
theorem ggX11_init_X4_init : GoodIn wsX11_init wsX4_init := goodIn_r _ [99, 53, 100, 101, 93, 94, 95, 96, 2, 3, 102, 103, 104, 105, 106, 107, 108, 109, 110, 111, 112, 113, 191, 192] rfl (by decide +kernel)
set_option maxRecDepth 20000 in
theorem gX11_init_X4_init : GoodIn wsX11_init (wsX4_init) := ggX11_init_X4_init
set_option maxRecDepth 20000 in
theorem ggX11_init_X8_init : GoodIn wsX11_init wsX8_init := goodIn_r _ [115, 53, 116, 117, 118, 93, 94, 95, 96, 2, 3, 193, 194, 195] rfl (by decide +kernel)
set_option maxRecDepth 20000 in
theorem gX11_init_X8_init_n80 : GoodIn wsX11_init (wsX8_init) := ggX11_init_X8_init
set_option maxRecDepth 20000 in
theorem ggX11_init_X5_init : GoodIn wsX11_init wsX5_init := goodIn_r _ [121, 122, 2, 3, 123, 124, 125, 126, 53, 127, 128, 129, 130, 131, 132, 133, 134, 135, 136, 137, 138, 139, 140, 141, 142, 143, 144, 145, 146, 147, 148, 149, 150, 196, 197, 198, 199, 200, 201, 202, 203, 204, 205, 206, 207, 208, 209, 210, 211, 212, 224, 225, 226, 227, 228] rfl (by decide +kernel)
set_option maxRecDepth 20000 in
theorem gX11_init_X5_init : GoodIn wsX11_init (wsX5_init) := ggX11_init_X5_init
set_option maxRecDepth 20000 in
theorem ggX11_init_X0_init : GoodIn wsX11_init wsX0_init := goodIn_r _ [152, 153, 2, 3, 154, 155, 156, 157, 40, 41, 158, 159, 53, 160, 114, 115, 116, 117, 118, 93, 94, 95, 96, 213, 214, 215, 216, 217, 193, 194, 195] rfl (by decide +kernel)
set_option maxRecDepth 20000 in
theorem gX11_init_X0_init_n94 : GoodIn wsX11_init (wsX0_init) := ggX11_init_X0_init
set_option maxRecDepth 20000 in
theorem ggX11_gap_X11_isGap : GoodIn wsX11_gap wsX11_isGap := goodIn_r _ [6] rfl (by decide +kernel)
set_option maxRecDepth 20000 in
theorem gX11_gap_X11_isGap : GoodIn wsX11_gap (va_wsS RX11 95 yX11_isGap wsX11_isGap) := goodIn_app (goodIn_of _ (by decide +kernel)) ggX11_gap_X11_isGap
set_option maxRecDepth 20000 in
theorem ggX11_need_X11_isGap : GoodIn wsX11_need wsX11_isGap := goodIn_r _ [6] rfl (by decide +kernel)
set_option maxRecDepth 20000 in
theorem gX11_need_X11_isGap : GoodIn wsX11_need (va_wsS RX11 95 yX11_isGap wsX11_isGap) := goodIn_app (goodIn_of _ (by decide +kernel)) ggX11_need_X11_isGap
set_option maxRecDepth 20000 in
theorem ggX11_need_X11_bit : GoodIn wsX11_need wsX11_bit := goodIn_r _ [9] rfl (by decide +kernel)
set_option maxRecDepth 20000 in
theorem gX11_need_X11_bit : GoodIn wsX11_need (va_wsS RX11 105 yX11_bit wsX11_bit) := goodIn_app (goodIn_of _ (by decide +kernel)) ggX11_need_X11_bit
set_option maxRecDepth 20000 in
theorem ggX11_need_X11_withBit : GoodIn wsX11_need wsX11_withBit := goodIn_r _ [12] rfl (by decide +kernel)
set_option maxRecDepth 20000 in
theorem gX11_need_X11_withBit : GoodIn wsX11_need (va_wsS RX11 109 yX11_withBit wsX11_withBit) := goodIn_app (goodIn_of _ (by decide +kernel)) ggX11_need_X11_withBit
set_option maxRecDepth 20000 in
theorem ggX11_hang_X11_isGap : GoodIn wsX11_hang wsX11_isGap := goodIn_r _ [7] rfl (by decide +kernel)
set_option maxRecDepth 20000 in
theorem gX11_hang_X11_isGap : GoodIn wsX11_hang (va_wsS RX11 95 yX11_isGap wsX11_isGap) := goodIn_app (goodIn_of _ (by decide +kernel)) ggX11_hang_X11_isGap
set_option maxRecDepth 20000 in
theorem ggX11_hang_X11_isValue : GoodIn wsX11_hang wsX11_isValue := goodIn_r _ [10] rfl (by decide +kernel)
set_option maxRecDepth 20000 in
theorem gX11_hang_X11_isValue : GoodIn wsX11_hang (va_wsS RX11 113 yX11_isValue wsX11_isValue) := goodIn_app (goodIn_of _ (by decide +kernel)) ggX11_hang_X11_isValue
set_option maxRecDepth 20000 in
theorem ggX11_doing_X11_isPerson : GoodIn wsX11_doing wsX11_isPerson := goodIn_r _ [6] rfl (by decide +kernel)
set_option maxRecDepth 20000 in
theorem gX11_doing_X11_isPerson : GoodIn wsX11_doing (va_wsS RX11 122 yX11_isPerson wsX11_isPerson) := goodIn_app (goodIn_of _ (by decide +kernel)) ggX11_doing_X11_isPerson
set_option maxRecDepth 20000 in
theorem ggX11_doing_X11_isTrade : GoodIn wsX11_doing wsX11_isTrade := goodIn_r _ [9] rfl (by decide +kernel)
set_option maxRecDepth 20000 in
theorem gX11_doing_X11_isTrade : GoodIn wsX11_doing (va_wsS RX11 125 yX11_isTrade wsX11_isTrade) := goodIn_app (goodIn_of _ (by decide +kernel)) ggX11_doing_X11_isTrade
set_option maxRecDepth 20000 in
theorem ggX11_doing_X11_isGap : GoodIn wsX11_doing wsX11_isGap := goodIn_r _ [12] rfl (by decide +kernel)
set_option maxRecDepth 20000 in
theorem gX11_doing_X11_isGap : GoodIn wsX11_doing (va_wsS RX11 95 yX11_isGap wsX11_isGap) := goodIn_app (goodIn_of _ (by decide +kernel)) ggX11_doing_X11_isGap
set_option maxRecDepth 20000 in
theorem ggX11_doing_X11_isValue : GoodIn wsX11_doing wsX11_isValue := goodIn_r _ [15] rfl (by decide +kernel)
set_option maxRecDepth 20000 in
theorem gX11_doing_X11_isValue : GoodIn wsX11_doing (va_wsS RX11 113 yX11_isValue wsX11_isValue) := goodIn_app (goodIn_of _ (by decide +kernel)) ggX11_doing_X11_isValue
set_option maxRecDepth 20000 in
theorem ggX11_doing_X1_add : GoodIn wsX11_doing wsX1_add := goodIn_r _ [20, 21, 22, 23, 24, 25, 26, 27, 41, 42, 43, 44, 45, 46, 47, 48, 49] rfl (by decide +kernel)
set_option maxRecDepth 20000 in
theorem gX11_doing_X1_add : GoodIn wsX11_doing (wsV RX11 131 RX1 yX1_add wsX1_add) := goodIn_app (goodIn_of _ (by decide +kernel)) ggX11_doing_X1_add
set_option maxRecDepth 20000 in
theorem ggX11_tell_X11_isPerson : GoodIn wsX11_tell wsX11_isPerson := goodIn_r _ [6] rfl (by decide +kernel)
set_option maxRecDepth 20000 in
theorem gX11_tell_X11_isPerson : GoodIn wsX11_tell (va_wsS RX11 122 yX11_isPerson wsX11_isPerson) := goodIn_app (goodIn_of _ (by decide +kernel)) ggX11_tell_X11_isPerson
set_option maxRecDepth 20000 in
theorem ggX11_tell_X11_isTrade : GoodIn wsX11_tell wsX11_isTrade := goodIn_r _ [9] rfl (by decide +kernel)
set_option maxRecDepth 20000 in
theorem gX11_tell_X11_isTrade : GoodIn wsX11_tell (va_wsS RX11 125 yX11_isTrade wsX11_isTrade) := goodIn_app (goodIn_of _ (by decide +kernel)) ggX11_tell_X11_isTrade
set_option maxRecDepth 20000 in
theorem ggX11_tell_X11_bit : GoodIn wsX11_tell wsX11_bit := goodIn_r _ [12] rfl (by decide +kernel)
set_option maxRecDepth 20000 in
theorem gX11_tell_X11_bit : GoodIn wsX11_tell (va_wsS RX11 105 yX11_bit wsX11_bit) := goodIn_app (goodIn_of _ (by decide +kernel)) ggX11_tell_X11_bit
set_option maxRecDepth 20000 in
theorem ggX11_tell_X11_withBit : GoodIn wsX11_tell wsX11_withBit := goodIn_r _ [15] rfl (by decide +kernel)
set_option maxRecDepth 20000 in
theorem gX11_tell_X11_withBit : GoodIn wsX11_tell (va_wsS RX11 109 yX11_withBit wsX11_withBit) := goodIn_app (goodIn_of _ (by decide +kernel)) ggX11_tell_X11_withBit
set_option maxRecDepth 20000 in
theorem ggX11_knows_X11_isPerson : GoodIn wsX11_knows wsX11_isPerson := goodIn_r _ [5] rfl (by decide +kernel)
set_option maxRecDepth 20000 in
theorem gX11_knows_X11_isPerson : GoodIn wsX11_knows (va_wsS RX11 122 yX11_isPerson wsX11_isPerson) := goodIn_app (goodIn_of _ (by decide +kernel)) ggX11_knows_X11_isPerson
set_option maxRecDepth 20000 in
theorem ggX11_knows_X11_isTrade : GoodIn wsX11_knows wsX11_isTrade := goodIn_r _ [8] rfl (by decide +kernel)
set_option maxRecDepth 20000 in
theorem gX11_knows_X11_isTrade : GoodIn wsX11_knows (va_wsS RX11 125 yX11_isTrade wsX11_isTrade) := goodIn_app (goodIn_of _ (by decide +kernel)) ggX11_knows_X11_isTrade
set_option maxRecDepth 20000 in
theorem ggX11_knows_X1_isKnown : GoodIn wsX11_knows wsX1_isKnown := goodIn_r _ [13, 14, 15, 16, 17, 18, 19, 4, 20, 34, 35, 36, 37, 38, 39, 40, 41, 42] rfl (by decide +kernel)
set_option maxRecDepth 20000 in
theorem gX11_knows_X1_isKnown : GoodIn wsX11_knows (wsV RX11 144 RX1 yX1_isKnown wsX1_isKnown) := goodIn_app (goodIn_of _ (by decide +kernel)) ggX11_knows_X1_isKnown
set_option maxRecDepth 20000 in
theorem ggX11_before_X11_isPerson : GoodIn wsX11_before wsX11_isPerson := goodIn_r _ [6] rfl (by decide +kernel)
set_option maxRecDepth 20000 in
theorem gX11_before_X11_isPerson : GoodIn wsX11_before (va_wsS RX11 122 yX11_isPerson wsX11_isPerson) := goodIn_app (goodIn_of _ (by decide +kernel)) ggX11_before_X11_isPerson
set_option maxRecDepth 20000 in
theorem ggX11_before_X11_isGap : GoodIn wsX11_before wsX11_isGap := goodIn_r _ [9] rfl (by decide +kernel)
set_option maxRecDepth 20000 in
theorem gX11_before_X11_isGap : GoodIn wsX11_before (va_wsS RX11 95 yX11_isGap wsX11_isGap) := goodIn_app (goodIn_of _ (by decide +kernel)) ggX11_before_X11_isGap
set_option maxRecDepth 20000 in
theorem ggX11_before_X1_valueBefore : GoodIn wsX11_before wsX1_valueBefore := goodIn_r _ [14, 15, 16, 17, 18, 19, 20, 21, 13, 22, 23, 24, 38, 39, 40, 41, 42, 43, 44, 45, 46] rfl (by decide +kernel)
set_option maxRecDepth 20000 in
theorem gX11_before_X1_valueBefore : GoodIn wsX11_before (wsV RX11 148 RX1 yX1_valueBefore wsX1_valueBefore) := goodIn_app (goodIn_of _ (by decide +kernel)) ggX11_before_X1_valueBefore
set_option maxRecDepth 20000 in
theorem ggX11_custom_X11_isTrade : GoodIn wsX11_custom wsX11_isTrade := goodIn_r _ [6] rfl (by decide +kernel)
set_option maxRecDepth 20000 in
theorem gX11_custom_X11_isTrade : GoodIn wsX11_custom (va_wsS RX11 125 yX11_isTrade wsX11_isTrade) := goodIn_app (goodIn_of _ (by decide +kernel)) ggX11_custom_X11_isTrade
set_option maxRecDepth 20000 in
theorem ggX11_custom_X11_isGap : GoodIn wsX11_custom wsX11_isGap := goodIn_r _ [9] rfl (by decide +kernel)
set_option maxRecDepth 20000 in
theorem gX11_custom_X11_isGap : GoodIn wsX11_custom (va_wsS RX11 95 yX11_isGap wsX11_isGap) := goodIn_app (goodIn_of _ (by decide +kernel)) ggX11_custom_X11_isGap
set_option maxRecDepth 20000 in
theorem ggX11_custom_X1_customOf : GoodIn wsX11_custom wsX1_customOf := goodIn_r _ [14, 15, 16, 17, 18, 13, 19, 20, 21, 22, 23, 24, 25, 26, 27, 41, 42, 43, 44, 45, 46, 47, 48, 49] rfl (by decide +kernel)
set_option maxRecDepth 20000 in
theorem gX11_custom_X1_customOf : GoodIn wsX11_custom (wsV RX11 152 RX1 yX1_customOf wsX1_customOf) := goodIn_app (goodIn_of _ (by decide +kernel)) ggX11_custom_X1_customOf
set_option maxRecDepth 20000 in
theorem ggX11_lacks_X11_isTrade : GoodIn wsX11_lacks wsX11_isTrade := goodIn_r _ [6] rfl (by decide +kernel)
set_option maxRecDepth 20000 in
theorem gX11_lacks_X11_isTrade : GoodIn wsX11_lacks (va_wsS RX11 125 yX11_isTrade wsX11_isTrade) := goodIn_app (goodIn_of _ (by decide +kernel)) ggX11_lacks_X11_isTrade
set_option maxRecDepth 20000 in
theorem ggX11_lacks_X11_isGap : GoodIn wsX11_lacks wsX11_isGap := goodIn_r _ [9] rfl (by decide +kernel)
set_option maxRecDepth 20000 in
theorem gX11_lacks_X11_isGap : GoodIn wsX11_lacks (va_wsS RX11 95 yX11_isGap wsX11_isGap) := goodIn_app (goodIn_of _ (by decide +kernel)) ggX11_lacks_X11_isGap
set_option maxRecDepth 20000 in
theorem ggX11_lacks_X11_isValue : GoodIn wsX11_lacks wsX11_isValue := goodIn_r _ [12] rfl (by decide +kernel)
set_option maxRecDepth 20000 in
theorem gX11_lacks_X11_isValue : GoodIn wsX11_lacks (va_wsS RX11 113 yX11_isValue wsX11_isValue) := goodIn_app (goodIn_of _ (by decide +kernel)) ggX11_lacks_X11_isValue
set_option maxRecDepth 20000 in
theorem ggX11_lacks_X1_lacking : GoodIn wsX11_lacks wsX1_lacking := goodIn_r _ [17, 18, 19, 20, 21, 16, 22, 23, 24, 25, 26, 27, 28, 29, 30, 44, 45, 46, 47, 48, 49, 50, 51, 52] rfl (by decide +kernel)
set_option maxRecDepth 20000 in
theorem gX11_lacks_X1_lacking : GoodIn wsX11_lacks (wsV RX11 156 RX1 yX1_lacking wsX1_lacking) := goodIn_app (goodIn_of _ (by decide +kernel)) ggX11_lacks_X1_lacking
set_option maxRecDepth 20000 in
theorem ggX11_write_X9_append : GoodIn wsX11_write wsX9_append := goodIn_r _ [7, 8, 9, 10, 24, 25] rfl (by decide +kernel)
set_option maxRecDepth 20000 in
theorem gX11_write_X9_append : GoodIn wsX11_write (wsV RX11 163 RX9 yX9_append wsX9_append) := goodIn_app (goodIn_of _ (by decide +kernel)) ggX11_write_X9_append
set_option maxRecDepth 20000 in
theorem ggX11_fault_X7_spare : GoodIn wsX11_fault wsX7_spare := goodIn_r _ [9, 10, 11, 201, 202] rfl (by decide +kernel)
set_option maxRecDepth 20000 in
theorem gX11_fault_X7_spare : GoodIn wsX11_fault (wsV RX11 167 RX7 yX7_spare wsX7_spare) := goodIn_app (goodIn_of _ (by decide +kernel)) ggX11_fault_X7_spare
set_option maxRecDepth 20000 in
theorem ggX11_fault_X10_readFrom : GoodIn wsX11_fault wsX10_readFrom := goodIn_r _ [17, 18, 19, 20, 21, 22, 23, 24, 25, 26, 27, 28, 29, 30, 31, 32, 33, 34, 35, 36, 37, 38, 39, 40, 41, 42, 43, 44, 45, 46, 47, 48, 49, 50, 51, 52, 53, 54, 55, 56, 57, 58, 59, 60, 61, 62, 63, 64, 65, 66, 67, 68, 69, 70, 71, 72, 73, 74, 75, 76, 77, 78, 79, 80, 81, 82, 83, 84, 85, 86, 87, 88, 89, 90, 91, 92, 93, 94, 95, 96, 97, 98, 99, 100, 101, 102, 103, 104, 105, 106, 107, 108, 109, 110, 111, 112, 113, 114, 115, 116, 117, 118, 119, 120, 121, 122, 123, 124, 125, 126, 127, 128, 129, 130, 131, 132, 133, 134, 135, 136, 137, 138, 139, 140, 141, 142, 143, 144, 145, 146, 147, 148, 149, 150, 151, 152, 153, 154, 155, 156, 157, 158, 159, 160, 161, 162, 163, 164, 165, 166, 167, 168, 169, 170, 171, 172, 173, 174, 175, 176, 177, 178, 179, 180, 181, 203, 204, 205, 206, 207, 208, 209, 210, 211, 212, 213, 214, 215] rfl (by decide +kernel)
set_option maxRecDepth 20000 in
theorem gX11_fault_X10_readFrom_u171X6 : GoodIn wsX11_fault (va_wsU RX11 171 RX6 "LeftOut$Written" ⟨"LeftOut$Rule", "readFrom", "(LLeftOut$Text;)I"⟩ yX10_readFrom wsX10_readFrom) := goodIn_app (goodIn_of _ (by decide +kernel)) ggX11_fault_X10_readFrom
set_option maxRecDepth 20000 in
theorem gX11_fault_X10_readFrom_u177X4 : GoodIn wsX11_fault (va_wsU RX11 177 RX4 "LeftOut$Written" ⟨"LeftOut$Order", "readFrom", "(LLeftOut$Text;)I"⟩ yX10_readFrom wsX10_readFrom) := goodIn_app (goodIn_of _ (by decide +kernel)) ggX11_fault_X10_readFrom
set_option maxRecDepth 20000 in
theorem gX11_fault_X10_readFrom_u178X8 : GoodIn wsX11_fault (va_wsU RX11 178 RX8 "LeftOut$Written" ⟨"LeftOut$Sayings", "readFrom", "(LLeftOut$Text;)I"⟩ yX10_readFrom wsX10_readFrom) := goodIn_app (goodIn_of _ (by decide +kernel)) ggX11_fault_X10_readFrom
set_option maxRecDepth 20000 in
theorem ggX11_rule_X7_spare : GoodIn wsX11_rule wsX7_spare := goodIn_r _ [8, 9, 10, 194, 195] rfl (by decide +kernel)
set_option maxRecDepth 20000 in
theorem gX11_rule_X7_spare : GoodIn wsX11_rule (wsV RX11 167 RX7 yX7_spare wsX7_spare) := goodIn_app (goodIn_of _ (by decide +kernel)) ggX11_rule_X7_spare
set_option maxRecDepth 20000 in
theorem ggX11_rule_X10_readFrom : GoodIn wsX11_rule wsX10_readFrom := goodIn_r _ [16, 17, 18, 19, 20, 21, 22, 23, 24, 25, 26, 27, 28, 29, 30, 31, 32, 33, 34, 35, 36, 37, 38, 39, 40, 41, 42, 43, 44, 45, 46, 47, 48, 49, 50, 51, 52, 53, 54, 55, 56, 57, 58, 59, 60, 61, 62, 63, 64, 65, 66, 67, 68, 69, 70, 71, 72, 73, 74, 75, 76, 77, 78, 79, 80, 81, 82, 83, 84, 85, 86, 87, 88, 89, 90, 91, 92, 93, 94, 95, 96, 97, 98, 99, 100, 101, 102, 103, 104, 105, 106, 107, 108, 109, 110, 111, 112, 113, 114, 115, 116, 117, 118, 119, 120, 121, 122, 123, 124, 125, 126, 127, 128, 129, 130, 131, 132, 133, 134, 135, 136, 137, 138, 139, 140, 141, 142, 143, 144, 145, 146, 147, 148, 149, 150, 151, 152, 153, 154, 155, 156, 157, 158, 159, 160, 161, 162, 163, 164, 165, 166, 167, 168, 169, 170, 171, 172, 173, 174, 175, 176, 177, 178, 179, 180, 196, 197, 198, 199, 200, 201, 202, 203, 204, 205, 206, 207, 208] rfl (by decide +kernel)
set_option maxRecDepth 20000 in
theorem gX11_rule_X10_readFrom_u171X6 : GoodIn wsX11_rule (va_wsU RX11 171 RX6 "LeftOut$Written" ⟨"LeftOut$Rule", "readFrom", "(LLeftOut$Text;)I"⟩ yX10_readFrom wsX10_readFrom) := goodIn_app (goodIn_of _ (by decide +kernel)) ggX11_rule_X10_readFrom
set_option maxRecDepth 20000 in
theorem ggX11_unrule_X11_isRule : GoodIn wsX11_unrule wsX11_isRule := goodIn_r _ [7, 1, 2, 15, 16, 17, 18, 19, 20, 21, 22, 23, 24, 25, 26, 27, 28, 29] rfl (by decide +kernel)
set_option maxRecDepth 20000 in
theorem gX11_unrule_X11_isRule : GoodIn wsX11_unrule (wsV RX11 180 RX11 yX11_isRule wsX11_isRule) := goodIn_app (goodIn_of _ (by decide +kernel)) ggX11_unrule_X11_isRule
set_option maxRecDepth 20000 in
theorem ggX11_unrule_X7_remove : GoodIn wsX11_unrule wsX7_remove := goodIn_r _ [12, 13, 14, 28, 29] rfl (by decide +kernel)
set_option maxRecDepth 20000 in
theorem gX11_unrule_X7_remove : GoodIn wsX11_unrule (wsV RX11 183 RX7 yX7_remove wsX7_remove) := goodIn_app (goodIn_of _ (by decide +kernel)) ggX11_unrule_X7_remove
set_option maxRecDepth 20000 in
theorem ggX11_ruled_X11_isRule : GoodIn wsX11_ruled wsX11_isRule := goodIn_r _ [7, 1, 8, 20, 21, 22, 23, 24, 25, 26, 27, 28, 29, 30, 31, 32, 33, 34] rfl (by decide +kernel)
set_option maxRecDepth 20000 in
theorem gX11_ruled_X11_isRule : GoodIn wsX11_ruled (wsV RX11 180 RX11 yX11_isRule wsX11_isRule) := goodIn_app (goodIn_of _ (by decide +kernel)) ggX11_ruled_X11_isRule
set_option maxRecDepth 20000 in
theorem ggX11_ruled_X6_tells : GoodIn wsX11_ruled wsX6_tells := goodIn_r _ [13, 14, 15, 16, 17, 18, 19, 35, 36, 37, 38, 39, 40] rfl (by decide +kernel)
set_option maxRecDepth 20000 in
theorem gX11_ruled_X6_tells : GoodIn wsX11_ruled (wsV RX11 191 RX6 yX6_tells wsX6_tells) := goodIn_app (goodIn_of _ (by decide +kernel)) ggX11_ruled_X6_tells
set_option maxRecDepth 20000 in
theorem ggX11_order_X11_isOrder : GoodIn wsX11_order wsX11_isOrder := goodIn_r _ [8] rfl (by decide +kernel)
set_option maxRecDepth 20000 in
theorem gX11_order_X11_isOrder : GoodIn wsX11_order (va_wsS RX11 195 yX11_isOrder wsX11_isOrder) := goodIn_app (goodIn_of _ (by decide +kernel)) ggX11_order_X11_isOrder
set_option maxRecDepth 20000 in
theorem ggX11_order_X10_readFrom : GoodIn wsX11_order wsX10_readFrom := goodIn_r _ [14, 15, 16, 17, 18, 19, 20, 21, 22, 23, 24, 25, 26, 27, 28, 29, 30, 31, 32, 33, 34, 35, 36, 37, 38, 39, 40, 41, 42, 43, 44, 45, 46, 47, 48, 49, 50, 51, 52, 53, 54, 55, 56, 57, 58, 59, 60, 61, 62, 63, 64, 65, 66, 67, 68, 69, 70, 71, 72, 73, 74, 75, 76, 77, 78, 79, 80, 81, 82, 83, 84, 85, 86, 87, 88, 89, 90, 91, 92, 93, 94, 95, 96, 97, 98, 99, 100, 101, 102, 103, 104, 105, 106, 107, 108, 109, 110, 111, 112, 113, 114, 115, 116, 117, 118, 119, 120, 121, 122, 123, 124, 125, 126, 127, 128, 129, 130, 131, 132, 133, 134, 135, 136, 137, 138, 139, 140, 141, 142, 143, 7, 144, 145, 146, 147, 148, 149, 150, 151, 152, 153, 154, 155, 156, 157, 158, 159, 160, 161, 162, 163, 164, 165, 166, 167, 168, 169, 170, 171, 172, 173, 174, 175, 176, 177, 201, 202, 199, 200, 203, 204, 205, 206, 207, 208, 209, 210, 211] rfl (by decide +kernel)
set_option maxRecDepth 20000 in
theorem gX11_order_X10_readFrom_u177X4 : GoodIn wsX11_order (va_wsU RX11 177 RX4 "LeftOut$Written" ⟨"LeftOut$Order", "readFrom", "(LLeftOut$Text;)I"⟩ yX10_readFrom wsX10_readFrom) := goodIn_app (goodIn_of _ (by decide +kernel)) ggX11_order_X10_readFrom
set_option maxRecDepth 20000 in
theorem ggX11_order_X4_copy : GoodIn wsX11_order wsX4_copy := goodIn_r _ [181, 42, 182, 183, 184, 185, 23, 199, 200] rfl (by decide +kernel)
set_option maxRecDepth 20000 in
theorem gX11_order_X4_copy : GoodIn wsX11_order (wsV RX11 198 RX4 yX4_copy wsX4_copy) := goodIn_app (goodIn_of _ (by decide +kernel)) ggX11_order_X4_copy
set_option maxRecDepth 20000 in
theorem ggX11_ordered_X11_isOrder : GoodIn wsX11_ordered wsX11_isOrder := goodIn_r _ [7] rfl (by decide +kernel)
set_option maxRecDepth 20000 in
theorem gX11_ordered_X11_isOrder : GoodIn wsX11_ordered (va_wsS RX11 195 yX11_isOrder wsX11_isOrder) := goodIn_app (goodIn_of _ (by decide +kernel)) ggX11_ordered_X11_isOrder
set_option maxRecDepth 20000 in
theorem ggX11_bargain_X11_isPerson : GoodIn wsX11_bargain wsX11_isPerson := goodIn_r _ [8] rfl (by decide +kernel)
set_option maxRecDepth 20000 in
theorem gX11_bargain_X11_isPerson : GoodIn wsX11_bargain (va_wsS RX11 122 yX11_isPerson wsX11_isPerson) := goodIn_app (goodIn_of _ (by decide +kernel)) ggX11_bargain_X11_isPerson
set_option maxRecDepth 20000 in
theorem ggX11_bargain_X11_isTrade : GoodIn wsX11_bargain wsX11_isTrade := goodIn_r _ [11] rfl (by decide +kernel)
set_option maxRecDepth 20000 in
theorem gX11_bargain_X11_isTrade : GoodIn wsX11_bargain (va_wsS RX11 125 yX11_isTrade wsX11_isTrade) := goodIn_app (goodIn_of _ (by decide +kernel)) ggX11_bargain_X11_isTrade
set_option maxRecDepth 20000 in
theorem ggX11_bargain_X10_readFrom : GoodIn wsX11_bargain wsX10_readFrom := goodIn_r _ [17, 18, 19, 20, 21, 22, 23, 24, 25, 26, 27, 28, 29, 30, 31, 32, 33, 34, 35, 36, 37, 38, 39, 40, 41, 42, 43, 44, 45, 46, 47, 48, 49, 50, 51, 52, 53, 54, 55, 56, 57, 58, 59, 60, 61, 62, 63, 64, 65, 66, 67, 68, 69, 70, 71, 72, 73, 74, 75, 76, 77, 78, 79, 80, 81, 82, 83, 84, 85, 86, 87, 88, 89, 90, 91, 92, 93, 94, 95, 96, 97, 98, 99, 100, 101, 102, 103, 104, 105, 106, 107, 108, 109, 110, 111, 112, 113, 114, 115, 116, 117, 118, 119, 120, 121, 122, 123, 124, 125, 126, 127, 128, 129, 130, 131, 132, 133, 134, 135, 136, 137, 138, 139, 140, 141, 142, 143, 144, 145, 146, 7, 147, 148, 149, 150, 151, 152, 153, 154, 155, 156, 157, 158, 159, 160, 161, 162, 163, 164, 165, 166, 167, 168, 169, 170, 171, 172, 173, 174, 175, 176, 177, 178, 179, 180, 211, 212, 213, 214, 215, 216, 217, 218, 219, 220, 221, 222, 223] rfl (by decide +kernel)
set_option maxRecDepth 20000 in
theorem gX11_bargain_X10_readFrom_u178X8 : GoodIn wsX11_bargain (va_wsU RX11 178 RX8 "LeftOut$Written" ⟨"LeftOut$Sayings", "readFrom", "(LLeftOut$Text;)I"⟩ yX10_readFrom wsX10_readFrom) := goodIn_app (goodIn_of _ (by decide +kernel)) ggX11_bargain_X10_readFrom
set_option maxRecDepth 20000 in
theorem ggX11_bargain_X0_strike : GoodIn wsX11_bargain wsX0_strike := goodIn_r _ [185, 186, 187, 188, 189, 190, 191, 192, 36, 193, 38, 194, 195, 196, 197, 39, 224, 225, 226, 227, 228, 221, 222, 223] rfl (by decide +kernel)
set_option maxRecDepth 20000 in
theorem gX11_bargain_X0_strike : GoodIn wsX11_bargain (wsV RX11 206 RX0 yX0_strike wsX0_strike) := goodIn_app (goodIn_of _ (by decide +kernel)) ggX11_bargain_X0_strike
set_option maxRecDepth 20000 in
theorem ggX11_reword_X11_isBargain : GoodIn wsX11_reword wsX11_isBargain := goodIn_r _ [9, 10, 192, 193, 194, 195, 196, 197, 198, 199, 200, 201, 202, 203, 204] rfl (by decide +kernel)
set_option maxRecDepth 20000 in
theorem gX11_reword_X11_isBargain : GoodIn wsX11_reword (wsV RX11 210 RX11 yX11_isBargain wsX11_isBargain) := goodIn_app (goodIn_of _ (by decide +kernel)) ggX11_reword_X11_isBargain
set_option maxRecDepth 20000 in
theorem ggX11_reword_X10_readFrom : GoodIn wsX11_reword wsX10_readFrom := goodIn_r _ [16, 17, 18, 19, 20, 21, 22, 23, 24, 25, 26, 27, 28, 29, 30, 31, 32, 33, 34, 35, 36, 37, 38, 39, 40, 41, 42, 43, 44, 45, 46, 47, 48, 49, 50, 51, 52, 53, 54, 55, 56, 57, 58, 59, 60, 61, 62, 63, 64, 65, 66, 67, 68, 69, 70, 71, 72, 73, 74, 75, 76, 77, 78, 79, 80, 81, 82, 83, 84, 85, 86, 87, 88, 89, 90, 91, 92, 93, 94, 95, 96, 97, 98, 99, 100, 101, 102, 103, 104, 105, 106, 107, 108, 109, 110, 111, 112, 113, 114, 115, 116, 117, 118, 119, 120, 121, 122, 123, 124, 125, 126, 127, 128, 129, 130, 131, 132, 133, 134, 135, 136, 137, 138, 139, 140, 141, 142, 143, 144, 145, 8, 146, 147, 148, 149, 150, 151, 152, 153, 154, 155, 156, 157, 158, 159, 160, 161, 162, 163, 164, 165, 166, 167, 168, 169, 170, 171, 172, 173, 174, 175, 176, 177, 178, 179, 210, 211, 212, 213, 214, 215, 216, 217, 218, 219, 220, 221, 222] rfl (by decide +kernel)
set_option maxRecDepth 20000 in
theorem gX11_reword_X10_readFrom_u178X8 : GoodIn wsX11_reword (va_wsU RX11 178 RX8 "LeftOut$Written" ⟨"LeftOut$Sayings", "readFrom", "(LLeftOut$Text;)I"⟩ yX10_readFrom wsX10_readFrom) := goodIn_app (goodIn_of _ (by decide +kernel)) ggX11_reword_X10_readFrom
set_option maxRecDepth 20000 in
theorem ggX11_reword_X8_copy : GoodIn wsX11_reword wsX8_copy := goodIn_r _ [183, 37, 184, 185, 186, 187, 38, 220, 221, 222] rfl (by decide +kernel)
set_option maxRecDepth 20000 in
theorem gX11_reword_X8_copy : GoodIn wsX11_reword (wsV RX11 216 RX8 yX8_copy wsX8_copy) := goodIn_app (goodIn_of _ (by decide +kernel)) ggX11_reword_X8_copy
set_option maxRecDepth 20000 in
theorem ggX11_reword_X8_gapCount : GoodIn wsX11_reword wsX8_gapCount := goodIn_r _ [191, 37, 220, 221, 222] rfl (by decide +kernel)
set_option maxRecDepth 20000 in
theorem gX11_reword_X8_gapCount : GoodIn wsX11_reword (wsV RX11 219 RX8 yX8_gapCount wsX8_gapCount) := goodIn_app (goodIn_of _ (by decide +kernel)) ggX11_reword_X8_gapCount
set_option maxRecDepth 20000 in
theorem ggX11_said_X11_isBargain : GoodIn wsX11_said wsX11_isBargain := goodIn_r _ [8, 9, 13, 14, 15, 16, 17, 18, 19, 20, 21, 22, 23, 24, 25] rfl (by decide +kernel)
set_option maxRecDepth 20000 in
theorem gX11_said_X11_isBargain : GoodIn wsX11_said (wsV RX11 210 RX11 yX11_isBargain wsX11_isBargain) := goodIn_app (goodIn_of _ (by decide +kernel)) ggX11_said_X11_isBargain
set_option maxRecDepth 20000 in
theorem ggX11_said_X11_isGap : GoodIn wsX11_said wsX11_isGap := goodIn_r _ [12] rfl (by decide +kernel)
set_option maxRecDepth 20000 in
theorem gX11_said_X11_isGap : GoodIn wsX11_said (va_wsS RX11 95 yX11_isGap wsX11_isGap) := goodIn_app (goodIn_of _ (by decide +kernel)) ggX11_said_X11_isGap
set_option maxRecDepth 20000 in
theorem ggX11_next_X11_canRead : GoodIn wsX11_next wsX11_canRead := goodIn_r _ [9, 10, 11, 12, 8, 13, 14, 15, 16, 17, 153, 154, 155, 156, 157, 158, 159, 160, 161, 162, 163, 164, 165] rfl (by decide +kernel)
set_option maxRecDepth 20000 in
theorem gX11_next_X11_canRead : GoodIn wsX11_next (wsV RX11 224 RX11 yX11_canRead wsX11_canRead) := goodIn_app (goodIn_of _ (by decide +kernel)) ggX11_next_X11_canRead
set_option maxRecDepth 20000 in
theorem ggX11_next_X11_isFilling : GoodIn wsX11_next wsX11_isFilling := goodIn_r _ [20, 21] rfl (by decide +kernel)
set_option maxRecDepth 20000 in
theorem gX11_next_X11_isFilling : GoodIn wsX11_next (va_wsS RX11 227 yX11_isFilling wsX11_isFilling) := goodIn_app (goodIn_of _ (by decide +kernel)) ggX11_next_X11_isFilling
set_option maxRecDepth 20000 in
theorem ggX11_next_X5_take : GoodIn wsX11_next wsX5_take := goodIn_r _ [26, 27, 28, 29, 30, 31, 32, 33, 34, 35, 36, 37, 38, 39, 40, 41, 42, 43, 44, 45, 46, 47, 48, 49, 8, 50, 51, 52, 53, 54, 55, 56, 57, 58, 59, 60, 61, 62, 63, 64, 65, 66, 67, 68, 69, 70, 71, 72, 73, 166, 167, 168, 169, 170, 171, 172, 173, 174, 175, 176, 177, 178, 179, 180, 181, 182, 183, 184, 185, 186, 187, 188, 189, 190, 191, 192, 193, 194, 195, 196, 197, 198, 199] rfl (by decide +kernel)
set_option maxRecDepth 20000 in
theorem gX11_next_X5_take : GoodIn wsX11_next (wsV RX11 230 RX5 yX5_take wsX5_take) := goodIn_app (goodIn_of _ (by decide +kernel)) ggX11_next_X5_take
set_option maxRecDepth 20000 in
theorem ggX11_next_X5_plan : GoodIn wsX11_next wsX5_plan := goodIn_r _ [77, 78, 79, 80, 81, 82, 83, 84, 85, 86, 87, 88, 89, 25, 90, 91, 92, 93, 94, 95, 28, 96, 97, 98, 99, 100, 101, 102, 103, 104, 105, 106, 107, 108, 109, 110, 111, 112, 113, 114, 115, 116, 117, 31, 34, 36, 38, 49, 8, 50, 118, 119, 120, 121, 122, 123, 124, 125, 126, 127, 128, 129, 171, 172, 173, 174, 175, 176, 177, 178, 179, 180, 181, 182, 183, 184, 185, 186, 187, 200, 201, 202, 203, 204, 205, 206, 207, 208, 209, 210, 211, 212, 213, 214, 215, 216, 217, 218] rfl (by decide +kernel)
set_option maxRecDepth 20000 in
theorem gX11_next_X5_plan : GoodIn wsX11_next (wsV RX11 234 RX5 yX5_plan wsX5_plan) := goodIn_app (goodIn_of _ (by decide +kernel)) ggX11_next_X5_plan
set_option maxRecDepth 20000 in
theorem ggX11_next_X5_follow : GoodIn wsX11_next wsX5_follow := goodIn_r _ [133, 134, 104, 78, 135, 8, 136, 137, 138, 139, 140, 141, 142, 143, 144, 128, 129, 145, 146, 147, 84, 148, 86, 112, 113, 149, 150, 151, 152, 110, 171, 172, 173, 174, 175, 176, 177, 178, 179, 180, 181, 182, 183, 184, 185, 186, 187, 215, 216, 217, 218, 202, 203, 204, 205, 206] rfl (by decide +kernel)
set_option maxRecDepth 20000 in
theorem gX11_next_X5_follow : GoodIn wsX11_next (wsV RX11 237 RX5 yX5_follow wsX5_follow) := goodIn_app (goodIn_of _ (by decide +kernel)) ggX11_next_X5_follow
set_option maxRecDepth 20000 in
theorem ggX11_rounds_X11_canRead : GoodIn wsX11_rounds wsX11_canRead := goodIn_r _ [8, 9, 10, 11, 7, 12, 13, 14, 15, 16, 179, 180, 181, 182, 183, 184, 185, 186, 187, 188, 189, 190, 191] rfl (by decide +kernel)
set_option maxRecDepth 20000 in
theorem gX11_rounds_X11_canRead : GoodIn wsX11_rounds (wsV RX11 224 RX11 yX11_canRead wsX11_canRead) := goodIn_app (goodIn_of _ (by decide +kernel)) ggX11_rounds_X11_canRead
set_option maxRecDepth 20000 in
theorem ggX11_rounds_X11_read : GoodIn wsX11_rounds wsX11_read := goodIn_r _ [20, 1, 21, 22, 23, 24, 25, 26, 27, 28, 29, 30, 31, 32, 33, 34, 35, 36, 37, 38, 39, 40, 41, 42, 43, 44, 45, 46, 47, 48, 49, 50, 51, 7, 52, 53, 54, 55, 56, 57, 58, 59, 60, 61, 62, 63, 64, 65, 66, 67, 68, 69, 70, 71, 72, 73, 74, 75, 76, 77, 78, 79, 80, 81, 82, 83, 84, 85, 86, 87, 88, 89, 90, 91, 92, 93, 94, 95, 96, 97, 98, 99, 100, 101, 102, 103, 104, 105, 106, 107, 108, 109, 110, 111, 112, 113, 114, 115, 116, 117, 118, 119, 120, 121, 122, 123, 124, 125, 126, 127, 128, 129, 130, 131, 132, 133, 134, 135, 136, 137, 138, 139, 140, 141, 142, 143, 144, 145, 146, 147, 148, 149, 150, 151, 152, 153, 154, 155, 156, 157, 158, 159, 160, 161, 162, 163, 164, 165, 166, 167, 168, 169, 170, 171, 172, 173, 174, 175, 176, 177, 178, 179, 180, 181, 182, 183, 184, 185, 186, 187, 188, 189, 190, 191, 209, 210, 211, 212, 213, 192, 193, 194, 195, 196, 197, 198, 199, 200, 201, 202, 203, 204, 205, 206, 207, 208, 214, 215, 216, 217, 218, 219, 220, 221, 222, 223, 224, 225, 226, 227, 228, 229, 230, 231, 232, 233, 234, 235, 236, 237, 238, 239, 240, 241, 242, 243, 244] rfl (by decide +kernel)
set_option maxRecDepth 20000 in
theorem gX11_rounds_X11_read : GoodIn wsX11_rounds (wsV RX11 240 RX11 yX11_read wsX11_read) := goodIn_app (goodIn_of _ (by decide +kernel)) ggX11_rounds_X11_read
set_option maxRecDepth 20000 in
theorem ggX11_answer_X11_canRead : GoodIn wsX11_answer wsX11_canRead := goodIn_r _ [7, 8, 9, 10, 6, 11, 12, 13, 14, 15, 178, 179, 180, 181, 182, 183, 184, 185, 186, 187, 188, 189, 190] rfl (by decide +kernel)
set_option maxRecDepth 20000 in
theorem gX11_answer_X11_canRead : GoodIn wsX11_answer (wsV RX11 224 RX11 yX11_canRead wsX11_canRead) := goodIn_app (goodIn_of _ (by decide +kernel)) ggX11_answer_X11_canRead
set_option maxRecDepth 20000 in
theorem ggX11_answer_X11_read : GoodIn wsX11_answer wsX11_read := goodIn_r _ [19, 1, 20, 21, 22, 23, 24, 25, 26, 27, 28, 29, 30, 31, 32, 33, 34, 35, 36, 37, 38, 39, 40, 41, 42, 43, 44, 45, 46, 47, 48, 49, 50, 6, 51, 52, 53, 54, 55, 56, 57, 58, 59, 60, 61, 62, 63, 64, 65, 66, 67, 68, 69, 70, 71, 72, 73, 74, 75, 76, 77, 78, 79, 80, 81, 82, 83, 84, 85, 86, 87, 88, 89, 90, 91, 92, 93, 94, 95, 96, 97, 98, 99, 100, 101, 102, 103, 104, 105, 106, 107, 108, 109, 110, 111, 112, 113, 114, 115, 116, 117, 118, 119, 120, 121, 122, 123, 124, 125, 126, 127, 128, 129, 130, 131, 132, 133, 134, 135, 136, 137, 138, 139, 140, 141, 142, 143, 144, 145, 146, 147, 148, 149, 150, 151, 152, 153, 154, 155, 156, 157, 158, 159, 160, 161, 162, 163, 164, 165, 166, 167, 168, 169, 170, 171, 172, 173, 174, 175, 176, 177, 178, 179, 180, 181, 182, 183, 184, 185, 186, 187, 188, 189, 190, 208, 209, 210, 211, 212, 191, 192, 193, 194, 195, 196, 197, 198, 199, 200, 201, 202, 203, 204, 205, 206, 207, 213, 214, 215, 216, 217, 218, 219, 220, 221, 222, 223, 224, 225, 226, 227, 228, 229, 230, 231, 232, 233, 234, 235, 236, 237, 238, 239, 240, 241, 242, 243] rfl (by decide +kernel)
set_option maxRecDepth 20000 in
theorem gX11_answer_X11_read : GoodIn wsX11_answer (wsV RX11 240 RX11 yX11_read wsX11_read) := goodIn_app (goodIn_of _ (by decide +kernel)) ggX11_answer_X11_read
set_option maxRecDepth 20000 in
theorem ggX11_fills_X11_canRead : GoodIn wsX11_fills wsX11_canRead := goodIn_r _ [7, 8, 9, 10, 6, 11, 12, 13, 14, 15, 182, 183, 184, 185, 186, 187, 188, 189, 190, 191, 192, 193, 194] rfl (by decide +kernel)
set_option maxRecDepth 20000 in
theorem gX11_fills_X11_canRead : GoodIn wsX11_fills (wsV RX11 224 RX11 yX11_canRead wsX11_canRead) := goodIn_app (goodIn_of _ (by decide +kernel)) ggX11_fills_X11_canRead
set_option maxRecDepth 20000 in
theorem ggX11_fills_X11_isGap : GoodIn wsX11_fills wsX11_isGap := goodIn_r _ [18] rfl (by decide +kernel)
set_option maxRecDepth 20000 in
theorem gX11_fills_X11_isGap : GoodIn wsX11_fills (va_wsS RX11 95 yX11_isGap wsX11_isGap) := goodIn_app (goodIn_of _ (by decide +kernel)) ggX11_fills_X11_isGap
set_option maxRecDepth 20000 in
theorem ggX11_fills_X11_read : GoodIn wsX11_fills wsX11_read := goodIn_r _ [22, 1, 23, 24, 25, 26, 27, 28, 29, 30, 31, 32, 33, 34, 35, 36, 37, 38, 39, 40, 41, 42, 43, 44, 45, 46, 47, 48, 49, 50, 51, 52, 53, 6, 54, 55, 56, 57, 58, 59, 60, 61, 62, 63, 64, 65, 66, 67, 68, 69, 70, 71, 72, 73, 74, 75, 76, 77, 78, 79, 80, 81, 82, 83, 84, 85, 86, 87, 88, 89, 90, 91, 92, 93, 94, 95, 96, 97, 98, 99, 100, 101, 102, 103, 104, 105, 106, 107, 108, 109, 110, 111, 112, 113, 114, 115, 116, 117, 118, 119, 120, 121, 122, 123, 124, 125, 126, 127, 128, 129, 130, 131, 132, 133, 134, 135, 136, 137, 138, 139, 17, 18, 140, 141, 142, 143, 144, 145, 146, 147, 148, 149, 150, 151, 152, 153, 154, 155, 156, 157, 158, 159, 160, 161, 162, 163, 164, 165, 166, 167, 168, 169, 170, 171, 172, 173, 174, 175, 176, 177, 178, 182, 183, 184, 185, 186, 187, 188, 189, 190, 191, 192, 193, 194, 212, 213, 214, 215, 216, 195, 196, 197, 198, 199, 200, 201, 202, 203, 204, 205, 206, 207, 208, 209, 210, 211, 217, 218, 219, 220, 221, 222, 223, 224, 225, 226, 227, 228, 229, 230, 231, 232, 233, 234, 235, 236, 237, 238, 239, 240, 241, 242, 243, 244, 245, 246, 247] rfl (by decide +kernel)
set_option maxRecDepth 20000 in
theorem gX11_fills_X11_read : GoodIn wsX11_fills (wsV RX11 240 RX11 yX11_read wsX11_read) := goodIn_app (goodIn_of _ (by decide +kernel)) ggX11_fills_X11_read
set_option maxRecDepth 20000 in
theorem ggX11_fills_X11_valueAt : GoodIn wsX11_fills wsX11_valueAt := goodIn_r _ [181] rfl (by decide +kernel)
set_option maxRecDepth 20000 in
theorem gX11_fills_X11_valueAt : GoodIn wsX11_fills (va_wsS RX11 253 yX11_valueAt wsX11_valueAt) := goodIn_app (goodIn_of _ (by decide +kernel)) ggX11_fills_X11_valueAt
set_option maxRecDepth 20000 in
theorem ggX11_reason_X11_canRead : GoodIn wsX11_reason wsX11_canRead := goodIn_r _ [6, 7, 8, 9, 5, 10, 11, 12, 13, 14, 186, 187, 188, 189, 190, 191, 192, 193, 194, 195, 196, 197, 198] rfl (by decide +kernel)
set_option maxRecDepth 20000 in
theorem gX11_reason_X11_canRead : GoodIn wsX11_reason (wsV RX11 224 RX11 yX11_canRead wsX11_canRead) := goodIn_app (goodIn_of _ (by decide +kernel)) ggX11_reason_X11_canRead
set_option maxRecDepth 20000 in
theorem ggX11_reason_X11_isGap : GoodIn wsX11_reason wsX11_isGap := goodIn_r _ [17] rfl (by decide +kernel)
set_option maxRecDepth 20000 in
theorem gX11_reason_X11_isGap : GoodIn wsX11_reason (va_wsS RX11 95 yX11_isGap wsX11_isGap) := goodIn_app (goodIn_of _ (by decide +kernel)) ggX11_reason_X11_isGap
set_option maxRecDepth 20000 in
theorem ggX11_reason_X11_read : GoodIn wsX11_reason wsX11_read := goodIn_r _ [21, 1, 22, 23, 24, 25, 26, 27, 28, 29, 30, 31, 32, 33, 34, 35, 36, 37, 38, 39, 40, 41, 42, 43, 44, 45, 46, 47, 48, 49, 50, 51, 52, 5, 53, 54, 55, 56, 57, 58, 59, 60, 61, 62, 63, 64, 65, 66, 67, 68, 69, 70, 71, 72, 73, 74, 75, 76, 77, 78, 79, 80, 81, 82, 83, 84, 85, 86, 87, 88, 89, 90, 91, 92, 93, 94, 95, 96, 97, 98, 99, 100, 101, 102, 103, 104, 105, 106, 107, 108, 109, 110, 111, 112, 113, 114, 115, 116, 117, 118, 119, 120, 121, 122, 123, 124, 125, 126, 127, 128, 129, 130, 131, 132, 133, 134, 135, 136, 137, 138, 16, 17, 139, 140, 141, 142, 143, 144, 145, 146, 147, 148, 149, 150, 151, 152, 153, 154, 155, 156, 157, 158, 159, 160, 161, 162, 163, 164, 165, 166, 167, 168, 169, 170, 171, 172, 173, 174, 175, 176, 177, 186, 187, 188, 189, 190, 191, 192, 193, 194, 195, 196, 197, 198, 199, 200, 201, 202, 203, 204, 205, 206, 207, 208, 209, 210, 211, 212, 213, 214, 215, 216, 217, 218, 219, 220, 221, 222, 223, 224, 225, 226, 227, 228, 229, 230, 231, 232, 233, 234, 235, 236, 237, 238, 239, 240, 241, 242, 243, 244, 245, 246, 247, 248, 249, 250, 251] rfl (by decide +kernel)
set_option maxRecDepth 20000 in
theorem gX11_reason_X11_read : GoodIn wsX11_reason (wsV RX11 240 RX11 yX11_read wsX11_read) := goodIn_app (goodIn_of _ (by decide +kernel)) ggX11_reason_X11_read
set_option maxRecDepth 20000 in
theorem ggX11_reason_X5_reasonOf : GoodIn wsX11_reason wsX5_reasonOf := goodIn_r _ [181, 81, 82, 148, 115, 89, 52, 5, 53, 149, 150, 151, 152, 153, 154, 155, 156, 157, 158, 16, 17, 159, 160, 161, 95, 162, 97, 123, 124, 182, 183, 184, 185, 122, 204, 205, 206, 207, 208, 209, 210, 211, 212, 213, 214, 215, 216, 217, 218, 219, 220, 248, 249, 250, 251, 235, 236, 237, 238, 239] rfl (by decide +kernel)
set_option maxRecDepth 20000 in
theorem gX11_reason_X5_reasonOf : GoodIn wsX11_reason (wsV RX11 256 RX5 yX5_reasonOf wsX5_reasonOf) := goodIn_app (goodIn_of _ (by decide +kernel)) ggX11_reason_X5_reasonOf
set_option maxRecDepth 20000 in
theorem ggX11_open_X11_canRead : GoodIn wsX11_open wsX11_canRead := goodIn_r _ [7, 8, 9, 10, 6, 11, 12, 13, 14, 15, 182, 183, 184, 185, 186, 187, 188, 189, 190, 191, 192, 193, 194] rfl (by decide +kernel)
set_option maxRecDepth 20000 in
theorem gX11_open_X11_canRead : GoodIn wsX11_open (wsV RX11 224 RX11 yX11_canRead wsX11_canRead) := goodIn_app (goodIn_of _ (by decide +kernel)) ggX11_open_X11_canRead
set_option maxRecDepth 20000 in
theorem ggX11_open_X11_read : GoodIn wsX11_open wsX11_read := goodIn_r _ [19, 1, 20, 21, 22, 23, 24, 25, 26, 27, 28, 29, 30, 31, 32, 33, 34, 35, 36, 37, 38, 39, 40, 41, 42, 43, 44, 45, 46, 47, 48, 49, 50, 6, 51, 52, 53, 54, 55, 56, 57, 58, 59, 60, 61, 62, 63, 64, 65, 66, 67, 68, 69, 70, 71, 72, 73, 74, 75, 76, 77, 78, 79, 80, 81, 82, 83, 84, 85, 86, 87, 88, 89, 90, 91, 92, 93, 94, 95, 96, 97, 98, 99, 100, 101, 102, 103, 104, 105, 106, 107, 108, 109, 110, 111, 112, 113, 114, 115, 116, 117, 118, 119, 120, 121, 122, 123, 124, 125, 126, 127, 128, 129, 130, 131, 132, 133, 134, 135, 136, 137, 138, 139, 140, 141, 142, 143, 144, 145, 146, 147, 148, 149, 150, 151, 152, 153, 154, 155, 156, 157, 158, 159, 160, 161, 162, 163, 164, 165, 166, 167, 168, 169, 170, 171, 172, 173, 174, 175, 176, 177, 182, 183, 184, 185, 186, 187, 188, 189, 190, 191, 192, 193, 194, 212, 213, 214, 215, 216, 195, 196, 197, 198, 199, 200, 201, 202, 203, 204, 205, 206, 207, 208, 209, 210, 211, 217, 218, 219, 220, 221, 222, 223, 224, 225, 226, 227, 228, 229, 230, 231, 232, 233, 234, 235, 236, 237, 238, 239, 240, 241, 242, 243, 244, 245, 246, 247] rfl (by decide +kernel)
set_option maxRecDepth 20000 in
theorem gX11_open_X11_read : GoodIn wsX11_open (wsV RX11 240 RX11 yX11_read wsX11_read) := goodIn_app (goodIn_of _ (by decide +kernel)) ggX11_open_X11_read
set_option maxRecDepth 20000 in
theorem ggX11_open_X5_stillOpen : GoodIn wsX11_open wsX5_stillOpen := goodIn_r _ [181, 82, 148, 113, 149, 6, 150, 151, 152, 153, 154, 155, 156, 157, 158, 137, 138, 195, 196, 197, 198, 199, 200, 201, 202, 203, 204, 205, 206, 207, 208, 209, 210, 211, 244, 245, 246, 247] rfl (by decide +kernel)
set_option maxRecDepth 20000 in
theorem gX11_open_X5_stillOpen : GoodIn wsX11_open (wsV RX11 262 RX5 yX5_stillOpen wsX5_stillOpen) := goodIn_app (goodIn_of _ (by decide +kernel)) ggX11_open_X5_stillOpen
set_option maxRecDepth 20000 in
theorem ggX11_holds_X11_canRead : GoodIn wsX11_holds wsX11_canRead := goodIn_r _ [9, 10, 11, 12, 8, 13, 14, 15, 16, 17, 184, 185, 186, 187, 188, 189, 190, 191, 192, 193, 194, 195, 196] rfl (by decide +kernel)
set_option maxRecDepth 20000 in
theorem gX11_holds_X11_canRead : GoodIn wsX11_holds (wsV RX11 224 RX11 yX11_canRead wsX11_canRead) := goodIn_app (goodIn_of _ (by decide +kernel)) ggX11_holds_X11_canRead
set_option maxRecDepth 20000 in
theorem ggX11_holds_X11_read : GoodIn wsX11_holds wsX11_read := goodIn_r _ [21, 1, 22, 23, 24, 25, 26, 27, 28, 29, 30, 31, 32, 33, 34, 35, 36, 37, 38, 39, 40, 41, 42, 43, 44, 45, 46, 47, 48, 49, 50, 51, 52, 8, 53, 54, 55, 56, 57, 58, 59, 60, 61, 62, 63, 64, 65, 66, 67, 68, 69, 70, 71, 72, 73, 74, 75, 76, 77, 78, 79, 80, 81, 82, 83, 84, 85, 86, 87, 88, 89, 90, 91, 92, 93, 94, 95, 96, 97, 98, 99, 100, 101, 102, 103, 104, 105, 106, 107, 108, 109, 110, 111, 112, 113, 114, 115, 116, 117, 118, 119, 120, 121, 122, 123, 124, 125, 126, 127, 128, 129, 130, 131, 132, 133, 134, 135, 136, 137, 138, 139, 140, 141, 142, 143, 144, 145, 146, 147, 148, 149, 150, 151, 152, 153, 154, 155, 156, 157, 158, 159, 160, 161, 162, 163, 164, 165, 166, 167, 168, 169, 170, 171, 172, 173, 174, 175, 176, 177, 178, 179, 184, 185, 186, 187, 188, 189, 190, 191, 192, 193, 194, 195, 196, 218, 219, 220, 221, 222, 197, 198, 199, 200, 201, 202, 203, 204, 205, 206, 207, 208, 209, 210, 211, 212, 213, 223, 224, 225, 226, 227, 228, 229, 230, 231, 232, 233, 234, 235, 236, 237, 238, 239, 240, 241, 242, 243, 244, 245, 246, 247, 248, 249, 214, 215, 216, 217] rfl (by decide +kernel)
