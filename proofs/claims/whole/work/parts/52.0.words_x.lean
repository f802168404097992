/-! written by wip/gen/mknames.py -/
set_option maxRecDepth 20000 in
theorem ggX11_change_X2_has : GoodIn wsX11_change wsX2_has := goodIn_r _ [8] (by rfl) (by decide +kernel)
set_option maxRecDepth 20000 in
theorem gX11_change_X2_has : GoodIn wsX11_change (wsV RX11 58 RX2 yX2_has wsX2_has) := goodIn_app (goodIn_of _ (by decide +kernel)) ggX11_change_X2_has
set_option maxRecDepth 20000 in
theorem ggX11_change_X2_bring : GoodIn wsX11_change wsX2_bring := goodIn_r _ [12, 13, 14, 5, 6, 7, 8, 15, 16, 17, 18, 19, 20, 21, 22, 23, 24, 25, 26, 27, 28, 29, 30, 31, 32, 33, 34, 35, 36, 37, 38, 39, 40, 41, 42, 43, 44, 45, 46, 47, 48, 49, 50, 51, 52, 53, 54, 55, 56, 64, 65, 66, 67, 68, 69, 70, 71, 72, 73, 74] (by rfl) (by decide +kernel)
set_option maxRecDepth 20000 in
theorem gX11_change_X2_bring : GoodIn wsX11_change (wsV RX11 71 RX2 yX2_bring wsX2_bring) := goodIn_app (goodIn_of _ (by decide +kernel)) ggX11_change_X2_bring
set_option maxRecDepth 20000 in
theorem ggX11_point_X2_has : GoodIn wsX11_point wsX2_has := goodIn_r _ [8] (by rfl) (by decide +kernel)
set_option maxRecDepth 20000 in
theorem gX11_point_X2_has : GoodIn wsX11_point (wsV RX11 58 RX2 yX2_has wsX2_has) := goodIn_app (goodIn_of _ (by decide +kernel)) ggX11_point_X2_has
set_option maxRecDepth 20000 in
theorem ggX11_point_X2_valueOf : GoodIn wsX11_point wsX2_valueOf := goodIn_r _ [12, 13, 5, 6, 7, 8, 14, 15, 16, 17, 18, 19, 20, 28, 29, 30, 31, 32, 33, 34] (by rfl) (by decide +kernel)
set_option maxRecDepth 20000 in
theorem gX11_point_X2_valueOf : GoodIn wsX11_point (wsV RX11 75 RX2 yX2_valueOf wsX2_valueOf) := goodIn_app (goodIn_of _ (by decide +kernel)) ggX11_point_X2_valueOf
set_option maxRecDepth 20000 in
theorem ggX11_events_X2_eventsOf : GoodIn wsX11_events wsX2_eventsOf := goodIn_r _ [8, 9, 10, 24, 25, 26, 27, 28, 29, 30] (by rfl) (by decide +kernel)
set_option maxRecDepth 20000 in
theorem gX11_events_X2_eventsOf : GoodIn wsX11_events (wsV RX11 81 RX2 yX2_eventsOf wsX2_eventsOf) := goodIn_app (goodIn_of _ (by decide +kernel)) ggX11_events_X2_eventsOf
set_option maxRecDepth 20000 in
theorem ggX11_events_X1_size : GoodIn wsX11_events wsX1_size := goodIn_r _ [15, 16, 31, 32, 33, 34] (by rfl) (by decide +kernel)
set_option maxRecDepth 20000 in
theorem gX11_events_X1_size : GoodIn wsX11_events (wsV RX11 85 RX1 yX1_size wsX1_size) := goodIn_app (goodIn_of _ (by decide +kernel)) ggX11_events_X1_size
set_option maxRecDepth 20000 in
theorem ggX11_hear_X11_byteOf : GoodIn wsX11_hear wsX11_byteOf := goodIn_r _ [11] (by rfl) (by decide +kernel)
set_option maxRecDepth 20000 in
theorem gX11_hear_X11_byteOf : GoodIn wsX11_hear (va_wsS RX11 93 yX11_byteOf wsX11_byteOf) := goodIn_app (goodIn_of _ (by decide +kernel)) ggX11_hear_X11_byteOf
set_option maxRecDepth 20000 in
theorem ggX11_hear_X3_bring : GoodIn wsX11_hear wsX3_bring := goodIn_r _ [16, 17, 18, 19, 20, 21, 22, 23, 24, 379, 380, 381, 382, 383] (by rfl) (by decide +kernel)
set_option maxRecDepth 20000 in
theorem gX11_hear_X3_bring : GoodIn wsX11_hear (wsV RX11 97 RX3 yX3_bring wsX3_bring) := goodIn_app (goodIn_of _ (by decide +kernel)) ggX11_hear_X3_bring
set_option maxRecDepth 20000 in
theorem ggX11_hear_X3_findFrame : GoodIn wsX11_hear wsX3_findFrame := goodIn_r _ [28, 17, 29, 30, 31, 32, 21, 33, 23, 34, 35, 36, 15, 37, 38, 39, 40, 41, 42, 43, 44, 45, 24, 46, 47, 48, 49, 50, 51, 52, 53, 54, 55, 56, 57, 58, 59, 60, 61, 62, 63, 64, 65, 66, 67, 68, 69, 70, 71, 72, 73, 74, 75, 76, 77, 78, 79, 80, 81, 82, 83, 84, 85, 86, 87, 88, 89, 90, 379, 380, 381, 382, 383, 384] (by rfl) (by decide +kernel)
set_option maxRecDepth 20000 in
theorem gX11_hear_X3_findFrame : GoodIn wsX11_hear (wsV RX11 100 RX3 yX3_findFrame wsX3_findFrame) := goodIn_app (goodIn_of _ (by decide +kernel)) ggX11_hear_X3_findFrame
set_option maxRecDepth 20000 in
theorem ggX11_hear_X3_isForThis : GoodIn wsX11_hear wsX3_isForThis := goodIn_r _ [94, 17, 42, 43, 44, 21, 45, 23, 24, 379, 380, 381, 382, 383] (by rfl) (by decide +kernel)
set_option maxRecDepth 20000 in
theorem gX11_hear_X3_isForThis : GoodIn wsX11_hear (wsV RX11 104 RX3 yX3_isForThis wsX3_isForThis) := goodIn_app (goodIn_of _ (by decide +kernel)) ggX11_hear_X3_isForThis
set_option maxRecDepth 20000 in
theorem ggX11_hear_X4_take : GoodIn wsX11_hear wsX4_take := goodIn_r _ [99, 100, 101, 102, 103, 104, 105, 106, 15, 107, 17, 42, 43, 44, 21, 45, 23, 24, 108, 109, 110, 111, 112, 113, 114, 98, 115, 116, 117, 118, 119, 120, 76, 77, 78, 121, 122, 123, 124, 125, 19, 20, 22, 385, 386, 387, 388, 379, 380, 381, 382, 383] (by rfl) (by decide +kernel)
set_option maxRecDepth 20000 in
theorem gX11_hear_X4_take : GoodIn wsX11_hear (wsV RX11 107 RX4 yX4_take wsX4_take) := goodIn_app (goodIn_of _ (by decide +kernel)) ggX11_hear_X4_take
set_option maxRecDepth 20000 in
theorem ggX11_hear_X4_fragment : GoodIn wsX11_hear wsX4_fragment := goodIn_r _ [129, 100, 385, 386, 387, 388] (by rfl) (by decide +kernel)
set_option maxRecDepth 20000 in
theorem gX11_hear_X4_fragment : GoodIn wsX11_hear (wsV RX11 111 RX4 yX4_fragment wsX4_fragment) := goodIn_app (goodIn_of _ (by decide +kernel)) ggX11_hear_X4_fragment
set_option maxRecDepth 20000 in
theorem ggX11_hear_X7_handle : GoodIn wsX11_hear wsX7_handle := goodIn_r _ [134, 135, 136, 137, 138, 43, 44, 21, 45, 23, 24, 139, 31, 32, 33, 140, 141, 142, 133, 143, 144, 145, 146, 147, 148, 149, 150, 151, 152, 153, 154, 155, 156, 157, 158, 159, 160, 161, 162, 163, 164, 84, 73, 85, 165, 166, 72, 74, 167, 168, 88, 89, 90, 169, 170, 171, 172, 173, 174, 175, 176, 177, 178, 179, 180, 181, 182, 183, 184, 185, 186, 187, 188, 109, 110, 111, 189, 19, 20, 22, 190, 191, 192, 193, 194, 195, 196, 197, 198, 199, 200, 201, 202, 203, 204, 205, 206, 207, 208, 209, 210, 211, 212, 213, 214, 122, 123, 124, 215, 216, 217, 218, 219, 220, 221, 222, 223, 224, 225, 226, 227, 228, 229, 230, 231, 232, 233, 234, 235, 236, 237, 238, 239, 240, 241, 242, 243, 244, 245, 246, 247, 248, 249, 250, 251, 252, 253, 254, 255, 256, 257, 258, 259, 260, 261, 262, 263, 264, 265, 266, 267, 268, 269, 270, 271, 272, 273, 274, 275, 276, 277, 278, 279, 280, 281, 282, 283, 284, 285, 286, 287, 288, 289, 290, 291, 292, 293, 294, 295, 296, 297, 298, 299, 300, 301, 302, 303, 304, 305, 306, 307, 308, 309, 310, 311, 312, 313, 314, 315, 316, 317, 318, 319, 389, 390, 391, 392, 393, 382, 383, 394, 395, 396, 397, 398, 399, 400, 401, 402, 403, 404, 405, 406, 407, 408, 409] (by rfl) (by decide +kernel)
set_option maxRecDepth 20000 in
theorem gX11_hear_X7_handle : GoodIn wsX11_hear (wsV RX11 115 RX7 yX7_handle wsX7_handle) := goodIn_app (goodIn_of _ (by decide +kernel)) ggX11_hear_X7_handle
set_option maxRecDepth 20000 in
theorem ggX11_hear_X7_answer : GoodIn wsX11_hear wsX7_answer := goodIn_r _ [323, 137, 389, 390, 391, 392, 393] (by rfl) (by decide +kernel)
set_option maxRecDepth 20000 in
theorem gX11_hear_X7_answer : GoodIn wsX11_hear (wsV RX11 119 RX7 yX7_answer wsX7_answer) := goodIn_app (goodIn_of _ (by decide +kernel)) ggX11_hear_X7_answer
set_option maxRecDepth 20000 in
theorem ggX11_hear_X4_from : GoodIn wsX11_hear wsX4_from := goodIn_r _ [327, 103, 385, 386, 387, 388] (by rfl) (by decide +kernel)
set_option maxRecDepth 20000 in
theorem gX11_hear_X4_from : GoodIn wsX11_hear (wsV RX11 122 RX4 yX4_from wsX4_from) := goodIn_app (goodIn_of _ (by decide +kernel)) ggX11_hear_X4_from
set_option maxRecDepth 20000 in
theorem ggX11_hear_X9_sendAnswer : GoodIn wsX11_hear wsX9_sendAnswer := goodIn_r _ [332, 333, 72, 73, 74, 334, 31, 32, 21, 33, 23, 335, 336, 337, 331, 338, 339, 340, 52, 53, 54, 55, 56, 341, 342, 343, 344, 345, 58, 59, 60, 61, 346, 347, 348, 349, 350, 351, 352, 353, 354, 355, 356, 357, 63, 64, 65, 66, 358, 359, 360, 361, 362, 363, 43, 44, 45, 24, 382, 383, 410, 411, 412, 413, 414, 384] (by rfl) (by decide +kernel)
set_option maxRecDepth 20000 in
theorem gX11_hear_X9_sendAnswer : GoodIn wsX11_hear (wsV RX11 125 RX9 yX9_sendAnswer wsX9_sendAnswer) := goodIn_app (goodIn_of _ (by decide +kernel)) ggX11_hear_X9_sendAnswer
set_option maxRecDepth 20000 in
theorem ggX11_hear_X3_dropFrame : GoodIn wsX11_hear wsX3_dropFrame := goodIn_r _ [367, 17, 29, 79, 80, 81, 21, 82, 83, 84, 73, 85, 23, 86, 72, 74, 24, 87, 88, 89, 90, 379, 380, 381, 382, 383] (by rfl) (by decide +kernel)
set_option maxRecDepth 20000 in
theorem gX11_hear_X3_dropFrame : GoodIn wsX11_hear (wsV RX11 129 RX3 yX3_dropFrame wsX3_dropFrame) := goodIn_app (goodIn_of _ (by decide +kernel)) ggX11_hear_X3_dropFrame
set_option maxRecDepth 20000 in
theorem ggX11_hear_X3_length : GoodIn wsX11_hear wsX3_length := goodIn_r _ [371, 17, 30, 31, 32, 21, 33, 23, 379, 380, 381, 382, 383] (by rfl) (by decide +kernel)
set_option maxRecDepth 20000 in
theorem gX11_hear_X3_length : GoodIn wsX11_hear (wsV RX11 132 RX3 yX3_length wsX3_length) := goodIn_app (goodIn_of _ (by decide +kernel)) ggX11_hear_X3_length
set_option maxRecDepth 20000 in
theorem ggX11_pass_X7_letPass : GoodIn wsX11_pass wsX7_letPass := goodIn_r _ [8, 9, 10, 11, 12, 13, 14, 15, 16, 17, 18, 19, 27, 28, 29, 30, 31, 32, 33, 34, 35, 36] (by rfl) (by decide +kernel)
set_option maxRecDepth 20000 in
theorem gX11_pass_X7_letPass : GoodIn wsX11_pass (wsV RX11 137 RX7 yX7_letPass wsX7_letPass) := goodIn_app (goodIn_of _ (by decide +kernel)) ggX11_pass_X7_letPass
set_option maxRecDepth 20000 in
theorem ggX11_sent_X9_total : GoodIn wsX11_sent wsX9_total := goodIn_r _ [8, 9, 28, 29, 30, 31, 32] (by rfl) (by decide +kernel)
set_option maxRecDepth 20000 in
theorem gX11_sent_X9_total : GoodIn wsX11_sent (wsV RX11 140 RX9 yX9_total wsX9_total) := goodIn_app (goodIn_of _ (by decide +kernel)) ggX11_sent_X9_total
set_option maxRecDepth 20000 in
theorem ggX11_sent_X9_keeps : GoodIn wsX11_sent wsX9_keeps := goodIn_r _ [13, 9, 28, 29, 30, 31, 32] (by rfl) (by decide +kernel)
set_option maxRecDepth 20000 in
theorem gX11_sent_X9_keeps : GoodIn wsX11_sent (wsV RX11 143 RX9 yX9_keeps wsX9_keeps) := goodIn_app (goodIn_of _ (by decide +kernel)) ggX11_sent_X9_keeps
set_option maxRecDepth 20000 in
theorem ggX11_sent_X9_latest : GoodIn wsX11_sent wsX9_latest := goodIn_r _ [17, 18, 19, 20, 11, 12, 7, 13, 9, 28, 29, 30, 31, 32] (by rfl) (by decide +kernel)
set_option maxRecDepth 20000 in
theorem gX11_sent_X9_latest : GoodIn wsX11_sent (wsV RX11 152 RX9 yX9_latest wsX9_latest) := goodIn_app (goodIn_of _ (by decide +kernel)) ggX11_sent_X9_latest
set_option maxRecDepth 20000 in
theorem ggX11_sum_X10_clear : GoodIn wsX11_sum wsX10_clear := goodIn_r _ [8, 9, 31] (by rfl) (by decide +kernel)
set_option maxRecDepth 20000 in
theorem gX11_sum_X10_clear : GoodIn wsX11_sum (wsV RX11 158 RX10 yX10_clear wsX10_clear) := goodIn_app (goodIn_of _ (by decide +kernel)) ggX11_sum_X10_clear
set_option maxRecDepth 20000 in
theorem ggX11_sum_X11_byteOf : GoodIn wsX11_sum wsX11_byteOf := goodIn_r _ [13] (by rfl) (by decide +kernel)
set_option maxRecDepth 20000 in
theorem gX11_sum_X11_byteOf : GoodIn wsX11_sum (va_wsS RX11 93 yX11_byteOf wsX11_byteOf) := goodIn_app (goodIn_of _ (by decide +kernel)) ggX11_sum_X11_byteOf
set_option maxRecDepth 20000 in
theorem ggX11_sum_X10_add : GoodIn wsX11_sum wsX10_add := goodIn_r _ [17, 9, 18, 31] (by rfl) (by decide +kernel)
set_option maxRecDepth 20000 in
theorem gX11_sum_X10_add : GoodIn wsX11_sum (wsV RX11 161 RX10 yX10_add wsX10_add) := goodIn_app (goodIn_of _ (by decide +kernel)) ggX11_sum_X10_add
set_option maxRecDepth 20000 in
theorem ggX11_sum_X10_value : GoodIn wsX11_sum wsX10_value := goodIn_r _ [22, 23, 9, 31] (by rfl) (by decide +kernel)
set_option maxRecDepth 20000 in
theorem gX11_sum_X10_value : GoodIn wsX11_sum (wsV RX11 164 RX10 yX10_value wsX10_value) := goodIn_app (goodIn_of _ (by decide +kernel)) ggX11_sum_X10_value
set_option maxRecDepth 20000 in
theorem ggX11_ask_X5_take : GoodIn wsX11_ask wsX5_take := goodIn_r _ [9, 10, 11, 12, 13, 14, 15, 16, 17, 18, 19, 20, 21, 22, 23, 8, 24, 25, 26, 27, 28, 29, 30, 31, 32, 33, 34, 35, 36, 37, 38, 39, 40, 41, 42, 43, 44, 45, 46, 47, 48, 49, 50, 51, 52, 53, 54, 55, 56, 57, 73, 74, 75, 76, 77, 78, 79, 80, 81, 82] (by rfl) (by decide +kernel)
set_option maxRecDepth 20000 in
theorem gX11_ask_X5_take : GoodIn wsX11_ask (wsV RX11 167 RX5 yX5_take wsX5_take) := goodIn_app (goodIn_of _ (by decide +kernel)) ggX11_ask_X5_take
set_option maxRecDepth 20000 in
theorem ggX11_ask_X5_latest : GoodIn wsX11_ask wsX5_latest := goodIn_r _ [61, 10, 73] (by rfl) (by decide +kernel)
set_option maxRecDepth 20000 in
theorem gX11_ask_X5_latest : GoodIn wsX11_ask (wsV RX11 170 RX5 yX5_latest wsX5_latest) := goodIn_app (goodIn_of _ (by decide +kernel)) ggX11_ask_X5_latest
set_option maxRecDepth 20000 in
theorem ggX11_ask_X0_length : GoodIn wsX11_ask wsX0_length := goodIn_r _ [65, 17, 74, 75] (by rfl) (by decide +kernel)
set_option maxRecDepth 20000 in
theorem gX11_ask_X0_length : GoodIn wsX11_ask (wsV RX11 172 RX0 yX0_length wsX0_length) := goodIn_app (goodIn_of _ (by decide +kernel)) ggX11_ask_X0_length
set_option maxRecDepth 20000 in
theorem ggX11_told_X5_latest : GoodIn wsX11_told wsX5_latest := goodIn_r _ [8, 9, 28] (by rfl) (by decide +kernel)
set_option maxRecDepth 20000 in
theorem gX11_told_X5_latest : GoodIn wsX11_told (wsV RX11 170 RX5 yX5_latest wsX5_latest) := goodIn_app (goodIn_of _ (by decide +kernel)) ggX11_told_X5_latest
set_option maxRecDepth 20000 in
theorem ggX11_told_X0_length : GoodIn wsX11_told wsX0_length := goodIn_r _ [14, 15, 29, 30] (by rfl) (by decide +kernel)
set_option maxRecDepth 20000 in
theorem gX11_told_X0_length : GoodIn wsX11_told (wsV RX11 172 RX0 yX0_length wsX0_length) := goodIn_app (goodIn_of _ (by decide +kernel)) ggX11_told_X0_length
set_option maxRecDepth 20000 in
theorem ggX11_told_X0_at : GoodIn wsX11_told wsX0_at := goodIn_r _ [19, 15, 20, 29, 30] (by rfl) (by decide +kernel)
set_option maxRecDepth 20000 in
theorem gX11_told_X0_at : GoodIn wsX11_told (wsV RX11 177 RX0 yX0_at wsX0_at) := goodIn_app (goodIn_of _ (by decide +kernel)) ggX11_told_X0_at
