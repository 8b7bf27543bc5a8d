set_option maxRecDepth 20000 in
theorem gX11_holds_X11_read : GoodIn wsX11_holds (wsV RX11 240 RX11 yX11_read wsX11_read) := goodIn_app (goodIn_of _ (by decide +kernel)) ggX11_holds_X11_read
set_option maxRecDepth 20000 in
theorem ggX11_holds_X5_stillOpen : GoodIn wsX11_holds wsX5_stillOpen := goodIn_r _ [183, 84, 150, 115, 151, 8, 152, 153, 154, 155, 156, 157, 158, 159, 160, 139, 140, 197, 198, 199, 200, 201, 202, 203, 204, 205, 206, 207, 208, 209, 210, 211, 212, 213, 214, 215, 216, 217] rfl (by decide +kernel)
set_option maxRecDepth 20000 in
theorem gX11_holds_X5_stillOpen : GoodIn wsX11_holds (wsV RX11 262 RX5 yX5_stillOpen wsX5_stillOpen) := goodIn_app (goodIn_of _ (by decide +kernel)) ggX11_holds_X5_stillOpen
set_option maxRecDepth 20000 in
theorem ggX11_judge_X11_canRead : GoodIn wsX11_judge wsX11_canRead := goodIn_r _ [7, 8, 9, 10, 6, 11, 12, 13, 14, 15, 188, 189, 190, 191, 192, 193, 194, 195, 196, 197, 198, 199, 200] rfl (by decide +kernel)
set_option maxRecDepth 20000 in
theorem gX11_judge_X11_canRead : GoodIn wsX11_judge (wsV RX11 224 RX11 yX11_canRead wsX11_canRead) := goodIn_app (goodIn_of _ (by decide +kernel)) ggX11_judge_X11_canRead
set_option maxRecDepth 20000 in
theorem ggX11_judge_X11_isFilling : GoodIn wsX11_judge wsX11_isFilling := goodIn_r _ [18, 19] rfl (by decide +kernel)
set_option maxRecDepth 20000 in
theorem gX11_judge_X11_isFilling : GoodIn wsX11_judge (va_wsS RX11 227 yX11_isFilling wsX11_isFilling) := goodIn_app (goodIn_of _ (by decide +kernel)) ggX11_judge_X11_isFilling
set_option maxRecDepth 20000 in
theorem ggX11_judge_X11_read : GoodIn wsX11_judge wsX11_read := goodIn_r _ [23, 1, 24, 25, 26, 27, 28, 29, 30, 31, 32, 33, 34, 35, 36, 37, 38, 39, 40, 41, 42, 43, 44, 45, 46, 47, 48, 49, 50, 51, 52, 53, 54, 6, 55, 56, 57, 58, 59, 60, 61, 62, 63, 64, 65, 66, 67, 68, 69, 70, 71, 72, 73, 74, 75, 76, 77, 78, 79, 80, 81, 82, 83, 84, 85, 86, 87, 88, 89, 90, 91, 92, 93, 94, 95, 96, 97, 98, 99, 100, 101, 102, 103, 104, 105, 106, 107, 108, 109, 110, 111, 112, 113, 114, 115, 116, 117, 118, 119, 120, 121, 122, 123, 124, 125, 126, 127, 128, 129, 130, 131, 132, 133, 134, 135, 136, 137, 138, 139, 140, 141, 142, 143, 144, 145, 146, 147, 148, 149, 150, 151, 152, 153, 154, 155, 156, 157, 158, 159, 160, 161, 162, 163, 164, 165, 166, 167, 168, 169, 170, 171, 172, 173, 174, 175, 176, 177, 178, 179, 180, 181, 188, 189, 190, 191, 192, 193, 194, 195, 196, 197, 198, 199, 200, 218, 219, 220, 221, 222, 201, 202, 203, 204, 205, 206, 207, 208, 209, 210, 211, 212, 213, 214, 215, 216, 217, 223, 224, 225, 226, 227, 228, 229, 230, 231, 232, 233, 234, 235, 236, 237, 238, 239, 240, 241, 242, 243, 244, 245, 246, 247, 248, 249, 250, 251, 252, 253] rfl (by decide +kernel)
set_option maxRecDepth 20000 in
theorem gX11_judge_X11_read : GoodIn wsX11_judge (wsV RX11 240 RX11 yX11_read wsX11_read) := goodIn_app (goodIn_of _ (by decide +kernel)) ggX11_judge_X11_read
set_option maxRecDepth 20000 in
theorem ggX11_judge_X11_unlike : GoodIn wsX11_judge wsX11_unlike := goodIn_r _ [177] rfl (by decide +kernel)
set_option maxRecDepth 20000 in
theorem gX11_judge_X11_unlike : GoodIn wsX11_judge (va_wsS RX11 265 yX11_unlike wsX11_unlike) := goodIn_app (goodIn_of _ (by decide +kernel)) ggX11_judge_X11_unlike
set_option maxRecDepth 20000 in
theorem ggX11_judge_J6_numberOfTrailingZeros_0f7a4 : GoodIn wsX11_judge wsJ6_numberOfTrailingZeros_0f7a4 := goodIn_r _ [186, 187] rfl (by decide +kernel)
set_option maxRecDepth 20000 in
theorem gX11_judge_J6_numberOfTrailingZeros_0f7a4 : GoodIn wsX11_judge (va_wsS RX11 268 yJ6_numberOfTrailingZeros_0f7a4 wsJ6_numberOfTrailingZeros_0f7a4) := goodIn_app (goodIn_of _ (by decide +kernel)) ggX11_judge_J6_numberOfTrailingZeros_0f7a4
set_option maxRecDepth 20000 in
theorem ggX11_differ_X11_canRead : GoodIn wsX11_differ wsX11_canRead := goodIn_r _ [8, 9, 10, 11, 7, 12, 13, 14, 15, 16, 179, 180, 181, 182, 183, 184, 185, 186, 187, 188, 189, 190, 191] rfl (by decide +kernel)
set_option maxRecDepth 20000 in
theorem gX11_differ_X11_canRead : GoodIn wsX11_differ (wsV RX11 224 RX11 yX11_canRead wsX11_canRead) := goodIn_app (goodIn_of _ (by decide +kernel)) ggX11_differ_X11_canRead
set_option maxRecDepth 20000 in
theorem ggX11_differ_X11_isOrder : GoodIn wsX11_differ wsX11_isOrder := goodIn_r _ [16] rfl (by decide +kernel)
set_option maxRecDepth 20000 in
theorem gX11_differ_X11_isOrder : GoodIn wsX11_differ (va_wsS RX11 195 yX11_isOrder wsX11_isOrder) := goodIn_app (goodIn_of _ (by decide +kernel)) ggX11_differ_X11_isOrder
set_option maxRecDepth 20000 in
theorem ggX11_differ_X11_read : GoodIn wsX11_differ wsX11_read := goodIn_r _ [20, 1, 21, 22, 3, 23, 24, 25, 26, 27, 28, 29, 30, 31, 32, 33, 34, 35, 36, 37, 38, 39, 40, 41, 42, 43, 44, 45, 46, 47, 48, 49, 50, 7, 51, 52, 53, 54, 55, 56, 57, 58, 59, 60, 61, 62, 63, 64, 65, 66, 67, 68, 69, 70, 71, 72, 73, 74, 75, 76, 77, 78, 79, 80, 81, 82, 83, 84, 85, 86, 87, 88, 89, 90, 91, 92, 93, 94, 95, 96, 97, 98, 99, 100, 101, 102, 103, 104, 105, 106, 107, 108, 109, 110, 111, 112, 113, 114, 115, 116, 117, 118, 119, 120, 121, 122, 123, 124, 125, 126, 127, 128, 129, 130, 131, 132, 133, 134, 135, 136, 137, 138, 139, 140, 141, 142, 143, 144, 145, 146, 147, 148, 149, 150, 151, 152, 153, 154, 155, 156, 157, 158, 159, 160, 161, 162, 163, 164, 165, 166, 167, 168, 169, 170, 171, 172, 173, 174, 175, 176, 177, 179, 180, 181, 182, 183, 184, 185, 186, 187, 188, 189, 190, 191, 209, 210, 211, 212, 213, 192, 193, 194, 195, 196, 197, 198, 199, 200, 201, 202, 203, 204, 205, 206, 207, 208, 214, 215, 216, 217, 218, 219, 220, 221, 222, 223, 224, 225, 226, 227, 228, 229, 230, 231, 232, 233, 234, 235, 236, 237, 238, 239, 240, 241, 242, 243, 244] rfl (by decide +kernel)
set_option maxRecDepth 20000 in
theorem gX11_differ_X11_read : GoodIn wsX11_differ (wsV RX11 240 RX11 yX11_read wsX11_read) := goodIn_app (goodIn_of _ (by decide +kernel)) ggX11_differ_X11_read
set_option maxRecDepth 20000 in
theorem ggX11_differ_X5_read : GoodIn wsX11_differ wsX5_read := goodIn_r _ [78, 79, 80, 81, 82, 83, 84, 85, 26, 86, 87, 88, 89, 90, 91, 92, 93, 94, 95, 96, 97, 98, 99, 100, 101, 102, 103, 104, 29, 105, 106, 107, 108, 109, 110, 111, 112, 113, 114, 115, 116, 117, 118, 119, 120, 121, 122, 123, 124, 125, 126, 32, 35, 37, 39, 50, 7, 51, 127, 128, 129, 130, 131, 132, 133, 134, 135, 136, 137, 138, 139, 140, 141, 142, 143, 144, 145, 146, 147, 148, 149, 150, 151, 152, 153, 154, 155, 156, 157, 158, 159, 160, 161, 162, 163, 164, 165, 166, 167, 168, 169, 170, 171, 172, 173, 174, 175, 176, 177, 192, 193, 194, 195, 196, 197, 198, 199, 200, 201, 202, 203, 204, 205, 206, 207, 208, 226, 227, 228, 229, 230, 231, 232, 233, 234, 235, 236, 237, 238, 239, 240, 241, 242, 243, 244] rfl (by decide +kernel)
set_option maxRecDepth 20000 in
theorem gX11_differ_X5_read : GoodIn wsX11_differ (wsV RX11 273 RX5 yX5_read wsX5_read) := goodIn_app (goodIn_of _ (by decide +kernel)) ggX11_differ_X5_read
set_option maxRecDepth 20000 in
theorem ggX11_differ_X11_unlike : GoodIn wsX11_differ wsX11_unlike := goodIn_r _ [173] rfl (by decide +kernel)
set_option maxRecDepth 20000 in
theorem gX11_differ_X11_unlike : GoodIn wsX11_differ (va_wsS RX11 265 yX11_unlike wsX11_unlike) := goodIn_app (goodIn_of _ (by decide +kernel)) ggX11_differ_X11_unlike
set_option maxRecDepth 20000 in
theorem ggX11_step_X11_canRead : GoodIn wsX11_step wsX11_canRead := goodIn_r _ [9, 10, 11, 12, 8, 13, 14, 15, 16, 17, 207, 208, 209, 210, 211, 212, 213, 214, 215, 216, 217, 218, 219] rfl (by decide +kernel)
set_option maxRecDepth 20000 in
theorem gX11_step_X11_canRead : GoodIn wsX11_step (wsV RX11 224 RX11 yX11_canRead wsX11_canRead) := goodIn_app (goodIn_of _ (by decide +kernel)) ggX11_step_X11_canRead
set_option maxRecDepth 20000 in
theorem ggX11_step_X11_read : GoodIn wsX11_step wsX11_read := goodIn_r _ [21, 1, 22, 23, 3, 24, 25, 26, 27, 28, 29, 30, 31, 32, 33, 34, 35, 36, 37, 38, 39, 40, 41, 42, 43, 44, 45, 46, 47, 48, 49, 50, 51, 8, 52, 53, 54, 55, 56, 57, 58, 59, 60, 61, 62, 63, 64, 65, 66, 67, 68, 69, 70, 71, 72, 73, 74, 75, 76, 77, 78, 79, 80, 81, 82, 83, 84, 85, 86, 87, 88, 89, 90, 91, 92, 93, 94, 95, 96, 97, 98, 99, 100, 101, 102, 103, 104, 105, 106, 107, 108, 109, 110, 111, 112, 113, 114, 115, 116, 117, 118, 119, 120, 121, 122, 123, 124, 125, 126, 127, 128, 129, 130, 131, 132, 133, 134, 135, 136, 137, 138, 139, 140, 141, 142, 143, 144, 145, 146, 147, 148, 149, 150, 151, 152, 153, 154, 155, 156, 157, 158, 159, 160, 161, 162, 163, 164, 165, 166, 167, 168, 169, 170, 171, 172, 173, 174, 175, 176, 177, 178, 207, 208, 209, 210, 211, 212, 213, 214, 215, 216, 217, 218, 219, 239, 240, 241, 242, 243, 220, 221, 222, 223, 224, 225, 226, 227, 228, 229, 230, 231, 232, 233, 234, 235, 236, 244, 245, 246, 247, 248, 249, 250, 251, 252, 253, 254, 255, 237, 238, 256, 257, 258, 259, 260, 261, 262, 263, 264, 265, 266, 267, 268, 269, 270, 271, 272] rfl (by decide +kernel)
set_option maxRecDepth 20000 in
theorem gX11_step_X11_read : GoodIn wsX11_step (wsV RX11 240 RX11 yX11_read wsX11_read) := goodIn_app (goodIn_of _ (by decide +kernel)) ggX11_step_X11_read
set_option maxRecDepth 20000 in
theorem ggX11_step_X11_movedBy : GoodIn wsX11_step wsX11_movedBy := goodIn_r _ [182, 183, 1, 2, 184, 185, 186, 187, 188, 189, 190, 191, 192, 193, 194, 195, 196, 197, 198, 76, 77, 78, 27, 79, 80, 81, 82, 83, 84, 85, 86, 87, 88, 89, 90, 91, 92, 93, 94, 95, 96, 97, 98, 99, 100, 101, 102, 103, 104, 105, 30, 106, 107, 108, 109, 110, 111, 112, 113, 114, 115, 116, 117, 118, 119, 120, 121, 122, 123, 124, 125, 126, 127, 33, 36, 38, 40, 51, 8, 52, 128, 129, 130, 131, 132, 133, 134, 135, 136, 137, 138, 139, 140, 141, 142, 143, 144, 145, 146, 147, 148, 149, 150, 151, 152, 153, 154, 155, 156, 157, 158, 159, 160, 161, 162, 163, 164, 165, 166, 167, 168, 169, 170, 171, 172, 173, 174, 175, 176, 177, 178, 199, 200, 201, 202, 203, 204, 205, 206, 207, 208, 209, 210, 211, 212, 213, 214, 215, 216, 217, 218, 219, 220, 221, 222, 223, 224, 225, 226, 227, 228, 229, 230, 231, 232, 233, 234, 235, 236, 237, 238, 256, 257, 258, 259, 260, 261, 262, 263, 264, 265, 266, 267, 268, 269, 270, 271, 272] rfl (by decide +kernel)
set_option maxRecDepth 20000 in
theorem gX11_step_X11_movedBy : GoodIn wsX11_step (wsV RX11 275 RX11 yX11_movedBy wsX11_movedBy) := goodIn_app (goodIn_of _ (by decide +kernel)) ggX11_step_X11_movedBy
set_option maxRecDepth 20000 in
theorem ggX11_moves_X11_canRead : GoodIn wsX11_moves wsX11_canRead := goodIn_r _ [13, 14, 15, 16, 12, 17, 18, 19, 20, 21, 211, 212, 213, 214, 215, 216, 217, 218, 219, 220, 221, 222, 223] rfl (by decide +kernel)
set_option maxRecDepth 20000 in
theorem gX11_moves_X11_canRead : GoodIn wsX11_moves (wsV RX11 224 RX11 yX11_canRead wsX11_canRead) := goodIn_app (goodIn_of _ (by decide +kernel)) ggX11_moves_X11_canRead
set_option maxRecDepth 20000 in
theorem ggX11_moves_X11_read : GoodIn wsX11_moves wsX11_read := goodIn_r _ [25, 1, 26, 27, 3, 28, 29, 30, 31, 32, 33, 34, 35, 36, 37, 38, 39, 40, 41, 42, 43, 44, 45, 46, 47, 48, 49, 50, 51, 52, 53, 54, 55, 12, 56, 57, 58, 59, 60, 61, 62, 63, 64, 65, 66, 67, 68, 69, 70, 71, 72, 73, 74, 75, 76, 77, 78, 79, 80, 81, 82, 83, 84, 85, 86, 87, 88, 89, 90, 91, 92, 93, 94, 95, 96, 97, 98, 99, 100, 101, 102, 103, 104, 105, 106, 107, 108, 109, 110, 111, 112, 113, 114, 115, 116, 117, 118, 119, 120, 121, 122, 123, 124, 125, 126, 127, 128, 129, 130, 131, 132, 133, 134, 135, 136, 137, 138, 139, 140, 141, 142, 143, 144, 145, 146, 147, 148, 149, 150, 151, 152, 153, 154, 155, 156, 157, 158, 159, 160, 161, 162, 163, 164, 165, 166, 167, 168, 169, 170, 171, 172, 173, 174, 175, 176, 177, 178, 179, 180, 181, 182, 211, 212, 213, 214, 215, 216, 217, 218, 219, 220, 221, 222, 223, 243, 244, 245, 246, 247, 224, 225, 226, 227, 228, 229, 230, 231, 232, 233, 234, 235, 236, 237, 238, 239, 240, 248, 249, 250, 251, 252, 253, 254, 255, 256, 257, 258, 259, 241, 242, 260, 261, 262, 263, 264, 265, 266, 267, 268, 269, 270, 271, 272, 273, 274, 275, 276] rfl (by decide +kernel)
set_option maxRecDepth 20000 in
theorem gX11_moves_X11_read : GoodIn wsX11_moves (wsV RX11 240 RX11 yX11_read wsX11_read) := goodIn_app (goodIn_of _ (by decide +kernel)) ggX11_moves_X11_read
set_option maxRecDepth 20000 in
theorem ggX11_moves_X11_movedBy : GoodIn wsX11_moves wsX11_movedBy := goodIn_r _ [186, 187, 1, 2, 188, 189, 190, 191, 192, 193, 194, 195, 196, 197, 198, 199, 200, 201, 202, 80, 81, 82, 31, 83, 84, 85, 86, 87, 88, 89, 90, 91, 92, 93, 94, 95, 96, 97, 98, 99, 100, 101, 102, 103, 104, 105, 106, 107, 108, 109, 34, 110, 111, 112, 113, 114, 115, 116, 117, 118, 119, 120, 121, 122, 123, 124, 125, 126, 127, 128, 129, 130, 131, 37, 40, 42, 44, 55, 12, 56, 132, 133, 134, 135, 136, 137, 138, 139, 140, 141, 142, 143, 144, 145, 146, 147, 148, 149, 150, 151, 152, 153, 154, 155, 156, 157, 158, 159, 160, 161, 162, 163, 164, 165, 166, 167, 168, 169, 170, 171, 172, 173, 174, 175, 176, 177, 178, 179, 180, 181, 182, 203, 204, 205, 206, 207, 208, 209, 210, 211, 212, 213, 214, 215, 216, 217, 218, 219, 220, 221, 222, 223, 224, 225, 226, 227, 228, 229, 230, 231, 232, 233, 234, 235, 236, 237, 238, 239, 240, 241, 242, 260, 261, 262, 263, 264, 265, 266, 267, 268, 269, 270, 271, 272, 273, 274, 275, 276] rfl (by decide +kernel)
set_option maxRecDepth 20000 in
theorem gX11_moves_X11_movedBy : GoodIn wsX11_moves (wsV RX11 275 RX11 yX11_movedBy wsX11_movedBy) := goodIn_app (goodIn_of _ (by decide +kernel)) ggX11_moves_X11_movedBy
set_option maxRecDepth 20000 in
theorem ggX11_think_X11_isBargain : GoodIn wsX11_think wsX11_isBargain := goodIn_r _ [7, 8, 15, 16, 17, 18, 19, 20, 21, 22, 23, 24, 25, 26, 27] rfl (by decide +kernel)
set_option maxRecDepth 20000 in
theorem gX11_think_X11_isBargain : GoodIn wsX11_think (wsV RX11 210 RX11 yX11_isBargain wsX11_isBargain) := goodIn_app (goodIn_of _ (by decide +kernel)) ggX11_think_X11_isBargain
set_option maxRecDepth 20000 in
theorem ggX11_think_X11_isGap : GoodIn wsX11_think wsX11_isGap := goodIn_r _ [11] rfl (by decide +kernel)
set_option maxRecDepth 20000 in
theorem gX11_think_X11_isGap : GoodIn wsX11_think (va_wsS RX11 95 yX11_isGap wsX11_isGap) := goodIn_app (goodIn_of _ (by decide +kernel)) ggX11_think_X11_isGap
set_option maxRecDepth 20000 in
theorem ggX11_think_X11_isSide : GoodIn wsX11_think wsX11_isSide := goodIn_r _ [14] rfl (by decide +kernel)
set_option maxRecDepth 20000 in
theorem gX11_think_X11_isSide : GoodIn wsX11_think (va_wsS RX11 284 yX11_isSide wsX11_isSide) := goodIn_app (goodIn_of _ (by decide +kernel)) ggX11_think_X11_isSide
set_option maxRecDepth 20000 in
theorem ggX11_part_X11_isBargain : GoodIn wsX11_part wsX11_isBargain := goodIn_r _ [6, 7, 14, 15, 16, 17, 18, 19, 20, 21, 22, 23, 24, 25, 26] rfl (by decide +kernel)
set_option maxRecDepth 20000 in
theorem gX11_part_X11_isBargain : GoodIn wsX11_part (wsV RX11 210 RX11 yX11_isBargain wsX11_isBargain) := goodIn_app (goodIn_of _ (by decide +kernel)) ggX11_part_X11_isBargain
set_option maxRecDepth 20000 in
theorem ggX11_part_X0_parted : GoodIn wsX11_part wsX0_parted := goodIn_r _ [12, 13, 27, 28, 29, 30, 31] rfl (by decide +kernel)
set_option maxRecDepth 20000 in
theorem gX11_part_X0_parted : GoodIn wsX11_part (wsV RX11 291 RX0 yX0_parted wsX0_parted) := goodIn_app (goodIn_of _ (by decide +kernel)) ggX11_part_X0_parted
set_option maxRecDepth 20000 in
theorem ggX11_far_X11_canRead : GoodIn wsX11_far wsX11_canRead := goodIn_r _ [8, 9, 10, 11, 7, 12, 13, 14, 15, 16, 189, 190, 191, 192, 193, 194, 195, 196, 197, 198, 199, 200, 201] rfl (by decide +kernel)
set_option maxRecDepth 20000 in
theorem gX11_far_X11_canRead : GoodIn wsX11_far (wsV RX11 224 RX11 yX11_canRead wsX11_canRead) := goodIn_app (goodIn_of _ (by decide +kernel)) ggX11_far_X11_canRead
set_option maxRecDepth 20000 in
theorem ggX11_far_X11_isSide : GoodIn wsX11_far wsX11_isSide := goodIn_r _ [19] rfl (by decide +kernel)
set_option maxRecDepth 20000 in
theorem gX11_far_X11_isSide : GoodIn wsX11_far (va_wsS RX11 284 yX11_isSide wsX11_isSide) := goodIn_app (goodIn_of _ (by decide +kernel)) ggX11_far_X11_isSide
set_option maxRecDepth 20000 in
theorem ggX11_far_X11_read : GoodIn wsX11_far wsX11_read := goodIn_r _ [23, 2, 1, 24, 25, 26, 27, 28, 29, 30, 31, 32, 33, 34, 35, 36, 37, 38, 39, 40, 41, 42, 43, 44, 45, 46, 47, 48, 49, 50, 51, 52, 53, 7, 54, 55, 56, 57, 58, 59, 60, 61, 62, 63, 64, 65, 66, 67, 68, 69, 70, 71, 72, 73, 74, 75, 76, 77, 78, 79, 80, 81, 82, 83, 84, 85, 86, 87, 88, 89, 90, 91, 92, 93, 94, 95, 96, 97, 98, 99, 100, 101, 102, 103, 104, 105, 106, 107, 108, 109, 110, 111, 112, 113, 114, 115, 116, 117, 118, 119, 120, 121, 122, 123, 124, 125, 126, 127, 128, 129, 130, 131, 132, 133, 134, 135, 136, 137, 138, 139, 140, 141, 142, 143, 144, 145, 146, 147, 148, 149, 150, 151, 152, 153, 154, 155, 156, 157, 158, 159, 160, 161, 162, 163, 164, 165, 166, 167, 168, 169, 170, 171, 172, 173, 174, 175, 176, 177, 178, 179, 180, 189, 190, 191, 192, 193, 194, 195, 196, 197, 198, 199, 200, 201, 219, 220, 221, 222, 223, 202, 203, 204, 205, 206, 207, 208, 209, 210, 211, 212, 213, 214, 215, 216, 217, 218, 224, 225, 226, 227, 228, 229, 230, 231, 232, 233, 234, 235, 236, 237, 238, 239, 240, 241, 242, 243, 244, 245, 246, 247, 248, 249, 250, 251, 252, 253, 254] rfl (by decide +kernel)
set_option maxRecDepth 20000 in
theorem gX11_far_X11_read : GoodIn wsX11_far (wsV RX11 240 RX11 yX11_read wsX11_read) := goodIn_app (goodIn_of _ (by decide +kernel)) ggX11_far_X11_read
set_option maxRecDepth 20000 in
theorem ggX11_far_X0_farFrom : GoodIn wsX11_far wsX0_farFrom := goodIn_r _ [185, 186, 187, 7, 188, 219, 220, 221, 222, 223] rfl (by decide +kernel)
set_option maxRecDepth 20000 in
theorem gX11_far_X0_farFrom : GoodIn wsX11_far (wsV RX11 294 RX0 yX0_farFrom wsX0_farFrom) := goodIn_app (goodIn_of _ (by decide +kernel)) ggX11_far_X0_farFrom
set_option maxRecDepth 20000 in
theorem ggX11_words_X11_isBargain : GoodIn wsX11_words wsX11_isBargain := goodIn_r _ [8, 9, 202, 203, 204, 205, 206, 207, 208, 209, 210, 211, 212, 213, 214] rfl (by decide +kernel)
set_option maxRecDepth 20000 in
theorem gX11_words_X11_isBargain : GoodIn wsX11_words (wsV RX11 210 RX11 yX11_isBargain wsX11_isBargain) := goodIn_app (goodIn_of _ (by decide +kernel)) ggX11_words_X11_isBargain
set_option maxRecDepth 20000 in
theorem ggX11_words_X5_take : GoodIn wsX11_words wsX5_take := goodIn_r _ [14, 15, 16, 17, 18, 19, 20, 21, 22, 23, 24, 25, 26, 27, 28, 29, 30, 31, 32, 33, 34, 35, 36, 37, 7, 38, 39, 40, 41, 42, 43, 44, 45, 46, 47, 48, 49, 50, 51, 52, 53, 54, 55, 56, 57, 58, 59, 60, 61, 215, 216, 217, 218, 219, 220, 221, 222, 223, 224, 225, 226, 227, 228, 229, 230, 231, 232, 233, 234, 235, 236, 237, 238, 239, 240, 241, 242, 243, 244, 245, 246, 247, 248] rfl (by decide +kernel)
set_option maxRecDepth 20000 in
theorem gX11_words_X5_take : GoodIn wsX11_words (wsV RX11 230 RX5 yX5_take wsX5_take) := goodIn_app (goodIn_of _ (by decide +kernel)) ggX11_words_X5_take
set_option maxRecDepth 20000 in
theorem ggX11_words_X0_sayable : GoodIn wsX11_words wsX0_sayable := goodIn_r _ [66, 67, 68, 69, 70, 71, 65, 72, 73, 215, 216, 217, 218, 219, 237, 238, 239] rfl (by decide +kernel)
set_option maxRecDepth 20000 in
theorem gX11_words_X0_sayable : GoodIn wsX11_words (wsV RX11 297 RX0 yX0_sayable wsX0_sayable) := goodIn_app (goodIn_of _ (by decide +kernel)) ggX11_words_X0_sayable
set_option maxRecDepth 20000 in
theorem ggX11_words_J6_bitCount_0f7a4 : GoodIn wsX11_words wsJ6_bitCount_0f7a4 := goodIn_r _ [77, 78, 79, 80] rfl (by decide +kernel)
set_option maxRecDepth 20000 in
theorem gX11_words_J6_bitCount_0f7a4 : GoodIn wsX11_words (va_wsS RX11 300 yJ6_bitCount_0f7a4 wsJ6_bitCount_0f7a4) := goodIn_app (goodIn_of _ (by decide +kernel)) ggX11_words_J6_bitCount_0f7a4
set_option maxRecDepth 20000 in
theorem ggX11_words_X11_isAsThought : GoodIn wsX11_words wsX11_isAsThought := goodIn_r _ [84, 1, 85, 86, 87, 88, 89, 13, 90, 22, 17, 23, 37, 7, 38, 91, 70, 71, 65, 72, 73, 92, 93, 94, 95, 96, 97, 98, 99, 100, 101, 102, 103, 104, 105, 106, 107, 108, 109, 110, 111, 112, 113, 114, 115, 116, 117, 118, 119, 120, 121, 122, 16, 123, 124, 125, 126, 127, 128, 129, 130, 131, 132, 133, 134, 135, 136, 137, 138, 139, 140, 141, 142, 143, 144, 19, 24, 26, 145, 146, 147, 148, 149, 150, 151, 152, 153, 154, 155, 156, 157, 158, 159, 160, 161, 162, 163, 164, 165, 166, 167, 168, 169, 170, 171, 172, 173, 174, 175, 176, 177, 178, 179, 180, 181, 182, 183, 184, 185, 186, 187, 188, 189, 190, 191, 192, 193, 194, 195, 196, 197, 198, 199, 200, 201, 202, 203, 204, 205, 206, 207, 208, 209, 210, 211, 212, 213, 214, 220, 221, 222, 223, 224, 225, 226, 227, 228, 229, 230, 231, 232, 233, 234, 235, 236, 215, 216, 217, 218, 219, 237, 238, 239, 249, 250, 251, 252, 253, 254, 255, 256, 257, 258, 259, 260, 261, 262, 263, 264, 265, 266, 267] rfl (by decide +kernel)
set_option maxRecDepth 20000 in
theorem gX11_words_X11_isAsThought : GoodIn wsX11_words (wsV RX11 303 RX11 yX11_isAsThought wsX11_isAsThought) := goodIn_app (goodIn_of _ (by decide +kernel)) ggX11_words_X11_isAsThought
set_option maxRecDepth 20000 in
theorem ggX11_worth_X11_isOrder : GoodIn wsX11_worth wsX11_isOrder := goodIn_r _ [4] rfl (by decide +kernel)
set_option maxRecDepth 20000 in
theorem gX11_worth_X11_isOrder : GoodIn wsX11_worth (va_wsS RX11 195 yX11_isOrder wsX11_isOrder) := goodIn_app (goodIn_of _ (by decide +kernel)) ggX11_worth_X11_isOrder
set_option maxRecDepth 20000 in
theorem ggX11_worth_X11_isGap : GoodIn wsX11_worth wsX11_isGap := goodIn_r _ [7] rfl (by decide +kernel)
set_option maxRecDepth 20000 in
theorem gX11_worth_X11_isGap : GoodIn wsX11_worth (va_wsS RX11 95 yX11_isGap wsX11_isGap) := goodIn_app (goodIn_of _ (by decide +kernel)) ggX11_worth_X11_isGap
set_option maxRecDepth 20000 in
theorem ggX11_worth_X11_isValue : GoodIn wsX11_worth wsX11_isValue := goodIn_r _ [10] rfl (by decide +kernel)
set_option maxRecDepth 20000 in
theorem gX11_worth_X11_isValue : GoodIn wsX11_worth (va_wsS RX11 113 yX11_isValue wsX11_isValue) := goodIn_app (goodIn_of _ (by decide +kernel)) ggX11_worth_X11_isValue
set_option maxRecDepth 20000 in
theorem ggX11_worth_X11_worthOf : GoodIn wsX11_worth wsX11_worthOf := goodIn_r _ [14, 15, 16, 17, 18, 19, 20, 21, 22, 23, 24, 25, 26, 27, 28, 29, 30, 31, 32, 33, 34, 35, 36, 37, 38, 39, 40, 41, 42, 43, 44, 45, 46, 47, 48, 49, 50, 51, 52, 53, 54, 55, 56, 3, 57, 58, 59, 60, 61, 62, 63, 64, 65, 66, 67, 68, 69, 70, 71, 72, 73, 74, 75, 76, 77, 78, 79, 80, 81, 82, 83, 84, 85, 86, 87, 88, 89, 90, 91, 92, 93, 94, 95, 96, 97, 98, 99, 100, 101, 102, 103, 104, 105, 106, 107, 108, 109, 110, 111, 112, 113, 114, 115, 116, 117, 118, 119, 120, 121, 122, 123, 124, 125, 126, 127, 128, 129, 130, 131, 132, 133, 134, 135, 136, 137, 138, 139, 140, 141, 142, 6, 7, 143, 144, 145, 146, 147, 148, 149, 150, 151, 152, 153, 154, 155, 156, 157, 158, 159, 160, 161, 162, 163, 164, 165, 166, 167, 168, 169, 170, 171, 172, 173, 174, 175, 176, 177, 178, 179, 180, 181, 182, 183, 184, 185, 186, 187, 188, 189, 190, 191, 192, 193, 194, 195, 196, 197, 198, 199, 200, 201, 202, 203, 204, 205, 206, 207, 208, 209, 210, 211, 212, 213, 214, 215, 216, 217, 218, 219, 220, 221, 222, 223, 224, 225, 226, 227, 228, 229, 230, 231, 232, 233, 234, 235, 236, 237, 238, 239, 240, 241, 242, 243, 244, 245, 246, 247, 248, 249, 250] rfl (by decide +kernel)
set_option maxRecDepth 20000 in
theorem gX11_worth_X11_worthOf : GoodIn wsX11_worth (wsV RX11 307 RX11 yX11_worthOf wsX11_worthOf) := goodIn_app (goodIn_of _ (by decide +kernel)) ggX11_worth_X11_worthOf
set_option maxRecDepth 20000 in
theorem ggX11_best_X11_isOrder : GoodIn wsX11_best wsX11_isOrder := goodIn_r _ [6] rfl (by decide +kernel)
set_option maxRecDepth 20000 in
theorem gX11_best_X11_isOrder : GoodIn wsX11_best (va_wsS RX11 195 yX11_isOrder wsX11_isOrder) := goodIn_app (goodIn_of _ (by decide +kernel)) ggX11_best_X11_isOrder
set_option maxRecDepth 20000 in
theorem ggX11_best_X11_isGap : GoodIn wsX11_best wsX11_isGap := goodIn_r _ [9] rfl (by decide +kernel)
set_option maxRecDepth 20000 in
theorem gX11_best_X11_isGap : GoodIn wsX11_best (va_wsS RX11 95 yX11_isGap wsX11_isGap) := goodIn_app (goodIn_of _ (by decide +kernel)) ggX11_best_X11_isGap
set_option maxRecDepth 20000 in
theorem ggX11_best_X11_worthOf : GoodIn wsX11_best wsX11_worthOf := goodIn_r _ [13, 14, 15, 16, 17, 18, 19, 20, 21, 22, 23, 24, 25, 26, 27, 28, 29, 30, 31, 32, 33, 34, 35, 36, 37, 38, 39, 40, 41, 42, 43, 44, 45, 46, 47, 48, 49, 50, 51, 52, 53, 54, 55, 5, 56, 57, 58, 59, 60, 61, 62, 63, 64, 65, 66, 67, 68, 69, 70, 71, 72, 73, 74, 75, 76, 77, 78, 79, 80, 81, 82, 83, 84, 85, 86, 87, 88, 89, 90, 91, 92, 93, 94, 95, 96, 97, 98, 99, 100, 101, 102, 103, 104, 105, 106, 107, 108, 109, 110, 111, 112, 113, 114, 115, 116, 117, 118, 119, 120, 121, 122, 123, 124, 125, 126, 127, 128, 129, 130, 131, 132, 133, 134, 135, 136, 137, 138, 139, 140, 141, 8, 9, 142, 143, 144, 145, 146, 147, 148, 149, 150, 151, 152, 153, 154, 155, 156, 157, 158, 159, 160, 161, 162, 163, 164, 165, 166, 167, 168, 169, 170, 171, 172, 173, 174, 175, 176, 177, 178, 179, 180, 181, 182, 183, 184, 185, 186, 187, 188, 189, 190, 191, 192, 193, 194, 195, 196, 201, 202, 203, 204, 205, 206, 207, 208, 209, 210, 211, 212, 213, 214, 215, 216, 217, 218, 219, 220, 221, 222, 223, 224, 225, 226, 227, 228, 229, 230, 231, 232, 233, 234, 235, 236, 237, 238, 239, 240, 241, 242, 243, 244, 245, 246, 247, 248, 249, 197, 198, 199, 200] rfl (by decide +kernel)
set_option maxRecDepth 20000 in
theorem gX11_best_X11_worthOf : GoodIn wsX11_best (wsV RX11 307 RX11 yX11_worthOf wsX11_worthOf) := goodIn_app (goodIn_of _ (by decide +kernel)) ggX11_best_X11_worthOf
set_option maxRecDepth 20000 in
theorem ggX11_keep_X11_isSlot : GoodIn wsX11_keep wsX11_isSlot := goodIn_r _ [8] rfl (by decide +kernel)
set_option maxRecDepth 20000 in
theorem gX11_keep_X11_isSlot : GoodIn wsX11_keep (va_wsS RX11 311 yX11_isSlot wsX11_isSlot) := goodIn_app (goodIn_of _ (by decide +kernel)) ggX11_keep_X11_isSlot
set_option maxRecDepth 20000 in
theorem ggX11_keep_X1_copy : GoodIn wsX11_keep wsX1_copy := goodIn_r _ [13, 14, 15, 16, 17, 18, 19, 20, 21, 22, 23, 24, 25, 39, 40, 41, 42, 43, 44, 45, 46, 47] rfl (by decide +kernel)
set_option maxRecDepth 20000 in
theorem gX11_keep_X1_copy : GoodIn wsX11_keep (wsV RX11 314 RX1 yX1_copy wsX1_copy) := goodIn_app (goodIn_of _ (by decide +kernel)) ggX11_keep_X1_copy
set_option maxRecDepth 20000 in
theorem ggX11_again_X11_isSlot : GoodIn wsX11_again wsX11_isSlot := goodIn_r _ [8] rfl (by decide +kernel)
set_option maxRecDepth 20000 in
theorem gX11_again_X11_isSlot : GoodIn wsX11_again (va_wsS RX11 311 yX11_isSlot wsX11_isSlot) := goodIn_app (goodIn_of _ (by decide +kernel)) ggX11_again_X11_isSlot
set_option maxRecDepth 20000 in
theorem ggX11_again_X1_copy : GoodIn wsX11_again wsX1_copy := goodIn_r _ [13, 14, 15, 16, 17, 18, 19, 20, 21, 22, 23, 24, 25, 39, 40, 41, 42, 43, 44, 45, 46, 47] rfl (by decide +kernel)
set_option maxRecDepth 20000 in
theorem gX11_again_X1_copy : GoodIn wsX11_again (wsV RX11 314 RX1 yX1_copy wsX1_copy) := goodIn_app (goodIn_of _ (by decide +kernel)) ggX11_again_X1_copy
set_option maxRecDepth 20000 in
theorem ggX11_since_X11_isOrder : GoodIn wsX11_since wsX11_isOrder := goodIn_r _ [11] rfl (by decide +kernel)
set_option maxRecDepth 20000 in
theorem gX11_since_X11_isOrder : GoodIn wsX11_since (va_wsS RX11 195 yX11_isOrder wsX11_isOrder) := goodIn_app (goodIn_of _ (by decide +kernel)) ggX11_since_X11_isOrder
set_option maxRecDepth 20000 in
theorem ggX11_since_X11_isSlot : GoodIn wsX11_since wsX11_isSlot := goodIn_r _ [14] rfl (by decide +kernel)
set_option maxRecDepth 20000 in
theorem gX11_since_X11_isSlot : GoodIn wsX11_since (va_wsS RX11 311 yX11_isSlot wsX11_isSlot) := goodIn_app (goodIn_of _ (by decide +kernel)) ggX11_since_X11_isSlot
set_option maxRecDepth 20000 in
theorem ggX11_since_X11_read : GoodIn wsX11_since wsX11_read := goodIn_r _ [18, 3, 5, 19, 7, 20, 21, 22, 23, 24, 25, 26, 27, 28, 29, 30, 31, 32, 33, 34, 35, 36, 37, 38, 39, 40, 41, 42, 43, 44, 45, 46, 47, 10, 48, 49, 50, 51, 52, 53, 54, 55, 56, 57, 58, 59, 60, 61, 62, 63, 64, 65, 66, 67, 68, 69, 70, 71, 72, 73, 74, 75, 76, 77, 78, 79, 80, 81, 82, 83, 84, 85, 86, 87, 88, 89, 90, 91, 92, 93, 94, 95, 96, 97, 98, 99, 100, 101, 102, 103, 104, 105, 106, 107, 108, 109, 110, 111, 112, 113, 114, 115, 116, 117, 118, 119, 120, 121, 122, 123, 124, 125, 126, 127, 128, 129, 130, 131, 132, 133, 134, 135, 136, 137, 138, 139, 140, 141, 142, 143, 144, 145, 146, 147, 148, 149, 150, 151, 152, 153, 154, 155, 156, 157, 158, 159, 160, 161, 162, 163, 164, 165, 166, 167, 168, 169, 170, 171, 172, 173, 174, 175, 176, 177, 178, 179, 180, 181, 182, 183, 184, 185, 186, 187, 205, 206, 207, 208, 209, 188, 189, 190, 191, 192, 193, 194, 195, 196, 197, 198, 199, 200, 201, 202, 203, 204, 210, 211, 212, 213, 214, 215, 216, 217, 218, 219, 220, 221, 222, 223, 224, 225, 226, 227, 228, 229, 230, 231, 232, 233, 234, 235, 236, 237, 238, 239, 240] rfl (by decide +kernel)
set_option maxRecDepth 20000 in
theorem gX11_since_X11_read : GoodIn wsX11_since (wsV RX11 240 RX11 yX11_read wsX11_read) := goodIn_app (goodIn_of _ (by decide +kernel)) ggX11_since_X11_read
set_option maxRecDepth 20000 in
theorem ggX11_since_X5_take : GoodIn wsX11_since wsX5_take := goodIn_r _ [24, 25, 26, 27, 28, 29, 30, 31, 32, 33, 34, 35, 36, 37, 38, 39, 40, 41, 42, 43, 44, 45, 46, 47, 10, 48, 49, 50, 51, 52, 53, 54, 55, 56, 57, 58, 59, 60, 61, 62, 63, 64, 65, 66, 67, 68, 69, 70, 71, 205, 206, 207, 208, 209, 188, 189, 190, 191, 192, 193, 194, 195, 196, 197, 198, 199, 200, 201, 202, 203, 204, 210, 211, 212, 213, 214, 215, 216, 217, 218, 219, 220, 221] rfl (by decide +kernel)
set_option maxRecDepth 20000 in
theorem gX11_since_X5_take : GoodIn wsX11_since (wsV RX11 230 RX5 yX5_take wsX5_take) := goodIn_app (goodIn_of _ (by decide +kernel)) ggX11_since_X5_take
set_option maxRecDepth 20000 in
theorem ggX11_since_X5_read : GoodIn wsX11_since wsX5_read := goodIn_r _ [75, 76, 77, 78, 79, 80, 81, 82, 23, 83, 84, 85, 86, 87, 88, 89, 90, 91, 92, 93, 94, 95, 96, 97, 98, 99, 100, 101, 26, 102, 103, 104, 105, 106, 107, 108, 109, 110, 111, 112, 113, 114, 115, 116, 117, 118, 119, 120, 121, 122, 123, 29, 32, 34, 36, 47, 10, 48, 124, 125, 126, 127, 128, 129, 130, 131, 132, 133, 134, 135, 136, 137, 138, 139, 140, 141, 142, 143, 144, 145, 146, 147, 148, 149, 150, 151, 152, 153, 154, 155, 156, 157, 158, 159, 160, 161, 162, 163, 164, 165, 166, 167, 168, 169, 170, 171, 172, 173, 174, 188, 189, 190, 191, 192, 193, 194, 195, 196, 197, 198, 199, 200, 201, 202, 203, 204, 222, 223, 224, 225, 226, 227, 228, 229, 230, 231, 232, 233, 234, 235, 236, 237, 238, 239, 240] rfl (by decide +kernel)
set_option maxRecDepth 20000 in
theorem gX11_since_X5_read : GoodIn wsX11_since (wsV RX11 273 RX5 yX5_read wsX5_read) := goodIn_app (goodIn_of _ (by decide +kernel)) ggX11_since_X5_read
set_option maxRecDepth 20000 in
theorem ggX11_count_X3_present : GoodIn wsX11_count wsX3_present := goodIn_r _ [13, 14, 41, 42, 43, 44] rfl (by decide +kernel)
set_option maxRecDepth 20000 in
theorem gX11_count_X3_present : GoodIn wsX11_count (wsV RX11 317 RX3 yX3_present wsX3_present) := goodIn_app (goodIn_of _ (by decide +kernel)) ggX11_count_X3_present
set_option maxRecDepth 20000 in
theorem ggX11_read_X5_take : GoodIn wsX11_read wsX5_take := goodIn_r _ [9, 10, 11, 12, 13, 14, 15, 16, 17, 18, 19, 20, 21, 22, 23, 24, 25, 26, 27, 28, 29, 30, 31, 32, 33, 34, 35, 36, 37, 38, 39, 40, 41, 42, 43, 44, 45, 46, 47, 48, 49, 50, 51, 52, 53, 54, 55, 56, 57, 174, 175, 176, 177, 178, 179, 180, 181, 182, 183, 184, 185, 186, 187, 188, 189, 190, 191, 192, 193, 194, 195, 196, 197, 198, 199, 200, 201, 202, 203, 204, 205, 206, 207] rfl (by decide +kernel)
set_option maxRecDepth 20000 in
theorem gX11_read_X5_take : GoodIn wsX11_read (wsV RX11 230 RX5 yX5_take wsX5_take) := goodIn_app (goodIn_of _ (by decide +kernel)) ggX11_read_X5_take
set_option maxRecDepth 20000 in
theorem ggX11_read_X5_read : GoodIn wsX11_read wsX5_read := goodIn_r _ [61, 62, 63, 64, 65, 66, 67, 68, 8, 69, 70, 71, 72, 73, 74, 75, 76, 77, 78, 79, 80, 81, 82, 83, 84, 85, 86, 87, 11, 88, 89, 90, 91, 92, 93, 94, 95, 96, 97, 98, 99, 100, 101, 102, 103, 104, 105, 106, 107, 108, 109, 14, 17, 19, 21, 32, 33, 34, 110, 111, 112, 113, 114, 115, 116, 117, 118, 119, 120, 121, 122, 123, 124, 125, 126, 127, 128, 129, 130, 131, 132, 133, 134, 135, 136, 137, 138, 139, 140, 141, 142, 143, 144, 145, 146, 147, 148, 149, 150, 151, 152, 153, 154, 155, 156, 157, 158, 159, 160, 179, 180, 181, 182, 183, 184, 185, 186, 187, 188, 189, 190, 191, 192, 193, 194, 195, 208, 209, 210, 211, 212, 213, 214, 215, 216, 217, 218, 219, 220, 221, 222, 223, 224, 225, 226] rfl (by decide +kernel)
set_option maxRecDepth 20000 in
theorem gX11_read_X5_read : GoodIn wsX11_read (wsV RX11 273 RX5 yX5_read wsX5_read) := goodIn_app (goodIn_of _ (by decide +kernel)) ggX11_read_X5_read
set_option maxRecDepth 20000 in
theorem ggX11_movedBy_X4_copy : GoodIn wsX11_movedBy wsX4_copy := goodIn_r _ [8, 9, 10, 11, 12, 13, 14, 169, 170] rfl (by decide +kernel)
set_option maxRecDepth 20000 in
theorem gX11_movedBy_X4_copy : GoodIn wsX11_movedBy (wsV RX11 198 RX4 yX4_copy wsX4_copy) := goodIn_app (goodIn_of _ (by decide +kernel)) ggX11_movedBy_X4_copy
set_option maxRecDepth 20000 in
theorem ggX11_movedBy_X4_swap : GoodIn wsX11_movedBy wsX4_swap := goodIn_r _ [18, 14, 9, 169, 170] rfl (by decide +kernel)
set_option maxRecDepth 20000 in
theorem gX11_movedBy_X4_swap : GoodIn wsX11_movedBy (wsV RX11 320 RX4 yX4_swap wsX4_swap) := goodIn_app (goodIn_of _ (by decide +kernel)) ggX11_movedBy_X4_swap
set_option maxRecDepth 20000 in
theorem ggX11_movedBy_X5_read : GoodIn wsX11_movedBy wsX5_read := goodIn_r _ [23, 24, 25, 26, 27, 28, 29, 30, 22, 31, 32, 33, 34, 35, 36, 37, 38, 39, 40, 41, 42, 43, 44, 45, 46, 47, 48, 49, 50, 51, 52, 53, 54, 55, 56, 57, 58, 59, 60, 61, 62, 63, 64, 65, 66, 67, 68, 69, 70, 71, 72, 73, 74, 75, 76, 77, 78, 79, 80, 81, 82, 83, 84, 85, 86, 87, 88, 89, 90, 91, 92, 93, 94, 95, 96, 97, 98, 99, 100, 101, 102, 103, 104, 105, 106, 107, 108, 109, 110, 111, 112, 113, 114, 115, 116, 117, 118, 119, 120, 121, 122, 123, 124, 125, 126, 127, 128, 129, 130, 152, 153, 154, 155, 156, 157, 158, 159, 160, 161, 162, 163, 164, 165, 166, 167, 168, 169, 170, 171, 172, 173, 174, 175, 176, 177, 178, 179, 180, 181, 182, 183, 184, 185, 186, 187] rfl (by decide +kernel)
set_option maxRecDepth 20000 in
theorem gX11_movedBy_X5_read : GoodIn wsX11_movedBy (wsV RX11 273 RX5 yX5_read wsX5_read) := goodIn_app (goodIn_of _ (by decide +kernel)) ggX11_movedBy_X5_read
set_option maxRecDepth 20000 in
theorem ggX11_movedBy_X11_unlike : GoodIn wsX11_movedBy wsX11_unlike := goodIn_r _ [126] rfl (by decide +kernel)
set_option maxRecDepth 20000 in
theorem gX11_movedBy_X11_unlike : GoodIn wsX11_movedBy (va_wsS RX11 265 yX11_unlike wsX11_unlike) := goodIn_app (goodIn_of _ (by decide +kernel)) ggX11_movedBy_X11_unlike
set_option maxRecDepth 20000 in
theorem ggX11_movedBy_J6_bitCount_0f7a4 : GoodIn wsX11_movedBy wsJ6_bitCount_0f7a4 := goodIn_r _ [135, 136, 137, 138] rfl (by decide +kernel)
set_option maxRecDepth 20000 in
theorem gX11_movedBy_J6_bitCount_0f7a4 : GoodIn wsX11_movedBy (va_wsS RX11 300 yJ6_bitCount_0f7a4 wsJ6_bitCount_0f7a4) := goodIn_app (goodIn_of _ (by decide +kernel)) ggX11_movedBy_J6_bitCount_0f7a4
set_option maxRecDepth 20000 in
theorem ggX11_isAsThought_X5_sayToo : GoodIn wsX11_isAsThought wsX5_sayToo := goodIn_r _ [8, 9, 10, 11, 12, 13, 14, 15, 16, 17, 18, 19, 20, 148, 149, 150, 151, 152, 153, 154, 155, 156, 157, 158, 159, 160, 161, 162, 163, 164, 165, 166, 167, 168, 169, 170, 171, 172] rfl (by decide +kernel)
set_option maxRecDepth 20000 in
theorem gX11_isAsThought_X5_sayToo : GoodIn wsX11_isAsThought (wsV RX11 323 RX5 yX5_sayToo wsX5_sayToo) := goodIn_app (goodIn_of _ (by decide +kernel)) ggX11_isAsThought_X5_sayToo
set_option maxRecDepth 20000 in
theorem ggX11_isAsThought_X11_bit : GoodIn wsX11_isAsThought wsX11_bit := goodIn_r _ [14] rfl (by decide +kernel)
set_option maxRecDepth 20000 in
theorem gX11_isAsThought_X11_bit : GoodIn wsX11_isAsThought (va_wsS RX11 105 yX11_bit wsX11_bit) := goodIn_app (goodIn_of _ (by decide +kernel)) ggX11_isAsThought_X11_bit
set_option maxRecDepth 20000 in
theorem ggX11_isAsThought_X5_read : GoodIn wsX11_isAsThought wsX5_read := goodIn_r _ [25, 26, 27, 28, 29, 30, 31, 32, 7, 33, 34, 35, 36, 37, 38, 39, 40, 41, 42, 43, 44, 45, 46, 47, 48, 49, 50, 51, 52, 53, 54, 55, 56, 57, 58, 59, 60, 61, 62, 63, 64, 65, 66, 67, 68, 69, 70, 71, 72, 73, 74, 75, 9, 76, 77, 12, 13, 14, 78, 79, 80, 81, 82, 83, 84, 85, 86, 87, 88, 89, 90, 91, 92, 93, 94, 95, 96, 97, 98, 99, 100, 101, 102, 103, 104, 105, 106, 107, 108, 109, 110, 111, 112, 113, 114, 115, 116, 117, 118, 119, 120, 121, 122, 123, 124, 125, 126, 127, 128, 148, 149, 150, 151, 152, 153, 154, 155, 156, 157, 158, 159, 160, 161, 162, 163, 164, 173, 174, 175, 176, 177, 178, 179, 180, 181, 182, 183, 184, 185, 186, 187, 188, 189, 190, 191] rfl (by decide +kernel)
set_option maxRecDepth 20000 in
theorem gX11_isAsThought_X5_read : GoodIn wsX11_isAsThought (wsV RX11 273 RX5 yX5_read wsX5_read) := goodIn_app (goodIn_of _ (by decide +kernel)) ggX11_isAsThought_X5_read
set_option maxRecDepth 20000 in
theorem ggX11_isAsThought_X0_farFrom : GoodIn wsX11_isAsThought wsX0_farFrom := goodIn_r _ [132, 20, 133, 13, 134, 165, 166, 167, 168, 169] rfl (by decide +kernel)
set_option maxRecDepth 20000 in
theorem gX11_isAsThought_X0_farFrom : GoodIn wsX11_isAsThought (wsV RX11 294 RX0 yX0_farFrom wsX0_farFrom) := goodIn_app (goodIn_of _ (by decide +kernel)) ggX11_isAsThought_X0_farFrom
set_option maxRecDepth 20000 in
theorem ggX11_worthOf_X0_commonThought : GoodIn wsX11_worthOf wsX0_commonThought := goodIn_r _ [13, 14, 204, 205, 206, 207, 208] rfl (by decide +kernel)
set_option maxRecDepth 20000 in
theorem gX11_worthOf_X0_commonThought : GoodIn wsX11_worthOf (wsV RX11 333 RX0 yX0_commonThought wsX0_commonThought) := goodIn_app (goodIn_of _ (by decide +kernel)) ggX11_worthOf_X0_commonThought
set_option maxRecDepth 20000 in
theorem ggX11_worthOf_X5_take : GoodIn wsX11_worthOf wsX5_take := goodIn_r _ [19, 20, 21, 22, 23, 24, 25, 26, 27, 28, 29, 30, 31, 32, 33, 34, 35, 36, 37, 38, 39, 40, 41, 42, 43, 44, 45, 46, 47, 48, 49, 50, 51, 52, 53, 54, 55, 56, 57, 58, 59, 60, 61, 62, 63, 64, 65, 66, 67, 204, 205, 206, 207, 208, 187, 188, 189, 190, 191, 192, 193, 194, 195, 196, 197, 198, 199, 200, 201, 202, 203, 209, 210, 211, 212, 213, 214, 215, 216, 217, 218, 219, 220] rfl (by decide +kernel)
set_option maxRecDepth 20000 in
theorem gX11_worthOf_X5_take : GoodIn wsX11_worthOf (wsV RX11 230 RX5 yX5_take wsX5_take) := goodIn_app (goodIn_of _ (by decide +kernel)) ggX11_worthOf_X5_take
set_option maxRecDepth 20000 in
theorem ggX11_worthOf_X5_read : GoodIn wsX11_worthOf wsX5_read := goodIn_r _ [71, 72, 73, 74, 75, 76, 77, 78, 18, 79, 80, 81, 82, 83, 84, 85, 86, 87, 88, 89, 90, 91, 92, 93, 94, 95, 96, 97, 21, 98, 99, 100, 101, 102, 103, 104, 105, 106, 107, 108, 109, 110, 111, 112, 113, 114, 115, 116, 117, 118, 119, 24, 27, 29, 31, 42, 43, 44, 120, 121, 122, 123, 124, 125, 126, 127, 128, 129, 130, 131, 132, 133, 134, 135, 136, 137, 138, 139, 140, 141, 142, 143, 144, 145, 146, 147, 148, 149, 150, 151, 152, 153, 154, 155, 156, 157, 158, 159, 160, 161, 162, 163, 164, 165, 166, 167, 168, 169, 170, 187, 188, 189, 190, 191, 192, 193, 194, 195, 196, 197, 198, 199, 200, 201, 202, 203, 221, 222, 223, 224, 225, 226, 227, 228, 229, 230, 231, 232, 233, 234, 235, 236, 237, 238, 239] rfl (by decide +kernel)
set_option maxRecDepth 20000 in
theorem gX11_worthOf_X5_read : GoodIn wsX11_worthOf (wsV RX11 273 RX5 yX5_read wsX5_read) := goodIn_app (goodIn_of _ (by decide +kernel)) ggX11_worthOf_X5_read
set_option maxRecDepth 20000 in
theorem ggX11_worthOf_X11_valueAt : GoodIn wsX11_worthOf wsX11_valueAt := goodIn_r _ [173] rfl (by decide +kernel)
set_option maxRecDepth 20000 in
theorem gX11_worthOf_X11_valueAt : GoodIn wsX11_worthOf (va_wsS RX11 253 yX11_valueAt wsX11_valueAt) := goodIn_app (goodIn_of _ (by decide +kernel)) ggX11_worthOf_X11_valueAt
set_option maxRecDepth 20000 in
theorem ggX11_canRead_X11_isBargain : GoodIn wsX11_canRead wsX11_isBargain := goodIn_r _ [5, 6, 10, 11, 12, 13, 14, 15, 16, 17, 18, 19, 20, 21, 22] rfl (by decide +kernel)
set_option maxRecDepth 20000 in
theorem gX11_canRead_X11_isBargain : GoodIn wsX11_canRead (wsV RX11 210 RX11 yX11_isBargain wsX11_isBargain) := goodIn_app (goodIn_of _ (by decide +kernel)) ggX11_canRead_X11_isBargain
set_option maxRecDepth 20000 in
theorem ggX11_canRead_X11_isOrder : GoodIn wsX11_canRead wsX11_isOrder := goodIn_r _ [9] rfl (by decide +kernel)
set_option maxRecDepth 20000 in
theorem gX11_canRead_X11_isOrder : GoodIn wsX11_canRead (va_wsS RX11 195 yX11_isOrder wsX11_isOrder) := goodIn_app (goodIn_of _ (by decide +kernel)) ggX11_canRead_X11_isOrder
set_option maxRecDepth 20000 in
theorem ggX12_noGap_X12_in : GoodIn wsX12_noGap wsX12_in := goodIn_r _ [5] rfl (by decide +kernel)
set_option maxRecDepth 20000 in
theorem gX12_noGap_X12_in : GoodIn wsX12_noGap (va_wsS RX12 120 yX12_in wsX12_in) := goodIn_app (goodIn_of _ (by decide +kernel)) ggX12_noGap_X12_in
set_option maxRecDepth 20000 in
theorem ggX12_noPerson_X12_in : GoodIn wsX12_noPerson wsX12_in := goodIn_r _ [5] rfl (by decide +kernel)
set_option maxRecDepth 20000 in
theorem gX12_noPerson_X12_in : GoodIn wsX12_noPerson (va_wsS RX12 120 yX12_in wsX12_in) := goodIn_app (goodIn_of _ (by decide +kernel)) ggX12_noPerson_X12_in
set_option maxRecDepth 20000 in
theorem ggX12_noTrade_X12_in : GoodIn wsX12_noTrade wsX12_in := goodIn_r _ [5] rfl (by decide +kernel)
set_option maxRecDepth 20000 in
theorem gX12_noTrade_X12_in : GoodIn wsX12_noTrade (va_wsS RX12 120 yX12_in wsX12_in) := goodIn_app (goodIn_of _ (by decide +kernel)) ggX12_noTrade_X12_in
set_option maxRecDepth 20000 in
theorem ggX12_noOrder_X12_in : GoodIn wsX12_noOrder wsX12_in := goodIn_r _ [5] rfl (by decide +kernel)
set_option maxRecDepth 20000 in
theorem gX12_noOrder_X12_in : GoodIn wsX12_noOrder (va_wsS RX12 120 yX12_in wsX12_in) := goodIn_app (goodIn_of _ (by decide +kernel)) ggX12_noOrder_X12_in
set_option maxRecDepth 20000 in
theorem ggX12_noBargain_X12_in : GoodIn wsX12_noBargain wsX12_in := goodIn_r _ [5] rfl (by decide +kernel)
set_option maxRecDepth 20000 in
theorem gX12_noBargain_X12_in : GoodIn wsX12_noBargain (va_wsS RX12 120 yX12_in wsX12_in) := goodIn_app (goodIn_of _ (by decide +kernel)) ggX12_noBargain_X12_in
set_option maxRecDepth 20000 in
theorem ggX12_gap_X12_noGap : GoodIn wsX12_gap wsX12_noGap := goodIn_r _ [7, 2, 8, 9, 6, 10] rfl (by decide +kernel)
set_option maxRecDepth 20000 in
theorem gX12_gap_X12_noGap : GoodIn wsX12_gap (va_wsS RX12 133 yX12_noGap wsX12_noGap) := goodIn_app (goodIn_of _ (by decide +kernel)) ggX12_gap_X12_noGap
set_option maxRecDepth 20000 in
theorem ggX12_gap_X12_in : GoodIn wsX12_gap wsX12_in := goodIn_r _ [10] rfl (by decide +kernel)
set_option maxRecDepth 20000 in
theorem gX12_gap_X12_in : GoodIn wsX12_gap (va_wsS RX12 120 yX12_in wsX12_in) := goodIn_app (goodIn_of _ (by decide +kernel)) ggX12_gap_X12_in
set_option maxRecDepth 20000 in
theorem ggX12_need_X12_noGap : GoodIn wsX12_need wsX12_noGap := goodIn_r _ [6, 7, 8, 9, 5, 10] rfl (by decide +kernel)
set_option maxRecDepth 20000 in
theorem gX12_need_X12_noGap : GoodIn wsX12_need (va_wsS RX12 133 yX12_noGap wsX12_noGap) := goodIn_app (goodIn_of _ (by decide +kernel)) ggX12_need_X12_noGap
set_option maxRecDepth 20000 in
theorem ggX12_hang_X12_noGap : GoodIn wsX12_hang wsX12_noGap := goodIn_r _ [8, 2, 9, 10, 7, 11] rfl (by decide +kernel)
set_option maxRecDepth 20000 in
theorem gX12_hang_X12_noGap : GoodIn wsX12_hang (va_wsS RX12 133 yX12_noGap wsX12_noGap) := goodIn_app (goodIn_of _ (by decide +kernel)) ggX12_hang_X12_noGap
set_option maxRecDepth 20000 in
theorem ggX12_hang_X12_in : GoodIn wsX12_hang wsX12_in := goodIn_r _ [11] rfl (by decide +kernel)
set_option maxRecDepth 20000 in
theorem gX12_hang_X12_in : GoodIn wsX12_hang (va_wsS RX12 120 yX12_in wsX12_in) := goodIn_app (goodIn_of _ (by decide +kernel)) ggX12_hang_X12_in
set_option maxRecDepth 20000 in
theorem ggX12_doing_X12_noPerson : GoodIn wsX12_doing wsX12_noPerson := goodIn_r _ [8, 9, 10, 11, 7, 12] rfl (by decide +kernel)
set_option maxRecDepth 20000 in
theorem gX12_doing_X12_noPerson : GoodIn wsX12_doing (va_wsS RX12 137 yX12_noPerson wsX12_noPerson) := goodIn_app (goodIn_of _ (by decide +kernel)) ggX12_doing_X12_noPerson
set_option maxRecDepth 20000 in
theorem ggX12_doing_X12_noTrade : GoodIn wsX12_doing wsX12_noTrade := goodIn_r _ [15, 16, 10, 11, 7, 12] rfl (by decide +kernel)
set_option maxRecDepth 20000 in
theorem gX12_doing_X12_noTrade : GoodIn wsX12_doing (va_wsS RX12 140 yX12_noTrade wsX12_noTrade) := goodIn_app (goodIn_of _ (by decide +kernel)) ggX12_doing_X12_noTrade
set_option maxRecDepth 20000 in
theorem ggX12_doing_X12_noGap : GoodIn wsX12_doing wsX12_noGap := goodIn_r _ [19, 2, 10, 11, 7, 12] rfl (by decide +kernel)
set_option maxRecDepth 20000 in
theorem gX12_doing_X12_noGap : GoodIn wsX12_doing (va_wsS RX12 133 yX12_noGap wsX12_noGap) := goodIn_app (goodIn_of _ (by decide +kernel)) ggX12_doing_X12_noGap
set_option maxRecDepth 20000 in
theorem ggX12_doing_X12_in : GoodIn wsX12_doing wsX12_in := goodIn_r _ [12] rfl (by decide +kernel)
set_option maxRecDepth 20000 in
theorem gX12_doing_X12_in : GoodIn wsX12_doing (va_wsS RX12 120 yX12_in wsX12_in) := goodIn_app (goodIn_of _ (by decide +kernel)) ggX12_doing_X12_in
set_option maxRecDepth 20000 in
theorem ggX12_tell_X12_noPerson : GoodIn wsX12_tell wsX12_noPerson := goodIn_r _ [6, 7, 8, 9, 5, 10] rfl (by decide +kernel)
set_option maxRecDepth 20000 in
theorem gX12_tell_X12_noPerson : GoodIn wsX12_tell (va_wsS RX12 137 yX12_noPerson wsX12_noPerson) := goodIn_app (goodIn_of _ (by decide +kernel)) ggX12_tell_X12_noPerson
