set_option maxRecDepth 20000 in
theorem ggX12_change_X12_out : GoodIn wsX12_change wsX12_out := goodIn_r _ [9] (by rfl) (by decide +kernel)
set_option maxRecDepth 20000 in
theorem gX12_change_X12_out : GoodIn wsX12_change (va_wsS RX12 61 yX12_out wsX12_out) := goodIn_app (goodIn_of _ (by decide +kernel)) ggX12_change_X12_out
set_option maxRecDepth 20000 in
theorem ggX12_change_X12_throwing : GoodIn wsX12_change wsX12_throwing := goodIn_r _ [13, 14, 20, 21, 22, 23, 24, 25, 26, 27, 28, 29, 30, 31, 32, 33, 34, 35, 36, 37, 38, 39, 40, 41, 42, 43, 44, 45, 46, 47, 48, 49, 50, 51] (by rfl) (by decide +kernel)
set_option maxRecDepth 20000 in
theorem gX12_change_X12_throwing : GoodIn wsX12_change (wsV RX12 65 RX12 yX12_throwing wsX12_throwing) := goodIn_app (goodIn_of _ (by decide +kernel)) ggX12_change_X12_throwing
set_option maxRecDepth 20000 in
theorem ggX12_change_X12_forget : GoodIn wsX12_change wsX12_forget := goodIn_r _ [18, 2, 4, 5, 19, 20, 21, 22, 23, 24, 25, 26, 27, 28, 29, 30, 31, 32, 33, 34, 35, 36, 37, 38, 39, 40, 41, 42, 43, 44, 45, 46, 47, 48, 49, 50, 51] (by rfl) (by decide +kernel)
set_option maxRecDepth 20000 in
theorem gX12_change_X12_forget : GoodIn wsX12_change (wsV RX12 69 RX12 yX12_forget wsX12_forget) := goodIn_app (goodIn_of _ (by decide +kernel)) ggX12_change_X12_forget
set_option maxRecDepth 20000 in
theorem ggX12_point_X12_out : GoodIn wsX12_point wsX12_out := goodIn_r _ [6] (by rfl) (by decide +kernel)
set_option maxRecDepth 20000 in
theorem gX12_point_X12_out : GoodIn wsX12_point (va_wsS RX12 61 yX12_out wsX12_out) := goodIn_app (goodIn_of _ (by decide +kernel)) ggX12_point_X12_out
set_option maxRecDepth 20000 in
theorem ggX12_point_X12_throwing : GoodIn wsX12_point wsX12_throwing := goodIn_r _ [10, 11, 12, 13, 14, 15, 16, 17, 18, 19, 20, 21, 22, 23, 24, 25, 26, 27, 28, 29, 30, 31, 32, 33, 34, 35, 36, 37, 38, 39, 40, 41, 42, 43] (by rfl) (by decide +kernel)
set_option maxRecDepth 20000 in
theorem gX12_point_X12_throwing : GoodIn wsX12_point (wsV RX12 65 RX12 yX12_throwing wsX12_throwing) := goodIn_app (goodIn_of _ (by decide +kernel)) ggX12_point_X12_throwing
set_option maxRecDepth 20000 in
theorem ggX12_events_X12_out : GoodIn wsX12_events wsX12_out := goodIn_r _ [5] (by rfl) (by decide +kernel)
set_option maxRecDepth 20000 in
theorem gX12_events_X12_out : GoodIn wsX12_events (va_wsS RX12 61 yX12_out wsX12_out) := goodIn_app (goodIn_of _ (by decide +kernel)) ggX12_events_X12_out
set_option maxRecDepth 20000 in
theorem ggX12_events_X12_throwing : GoodIn wsX12_events wsX12_throwing := goodIn_r _ [9, 10, 11, 12, 13, 14, 15, 16, 17, 18, 19, 20, 21, 22, 23, 24, 25, 26, 27, 28, 29, 30, 31, 32, 33, 34, 35, 36, 37, 38, 39, 40, 41, 42] (by rfl) (by decide +kernel)
set_option maxRecDepth 20000 in
theorem gX12_events_X12_throwing : GoodIn wsX12_events (wsV RX12 65 RX12 yX12_throwing wsX12_throwing) := goodIn_app (goodIn_of _ (by decide +kernel)) ggX12_events_X12_throwing
set_option maxRecDepth 20000 in
theorem ggX12_pass_X12_out : GoodIn wsX12_pass wsX12_out := goodIn_r _ [5] (by rfl) (by decide +kernel)
set_option maxRecDepth 20000 in
theorem gX12_pass_X12_out : GoodIn wsX12_pass (va_wsS RX12 61 yX12_out wsX12_out) := goodIn_app (goodIn_of _ (by decide +kernel)) ggX12_pass_X12_out
set_option maxRecDepth 20000 in
theorem ggX12_pass_X12_throwing : GoodIn wsX12_pass wsX12_throwing := goodIn_r _ [9, 10, 11, 12, 13, 14, 15, 16, 17, 18, 19, 20, 21, 22, 23, 24, 25, 26, 27, 28, 29, 30, 31, 32, 33, 34, 35, 36, 37, 38, 39, 40, 41, 42] (by rfl) (by decide +kernel)
set_option maxRecDepth 20000 in
theorem gX12_pass_X12_throwing : GoodIn wsX12_pass (wsV RX12 65 RX12 yX12_throwing wsX12_throwing) := goodIn_app (goodIn_of _ (by decide +kernel)) ggX12_pass_X12_throwing
set_option maxRecDepth 20000 in
theorem ggX12_sum_X12_throwing : GoodIn wsX12_sum wsX12_throwing := goodIn_r _ [7, 8, 13, 14, 15, 16, 17, 18, 19, 20, 21, 22, 23, 24, 25, 26, 27, 28, 29, 30, 31, 32, 33, 34, 35, 36, 37, 38, 39, 40, 41, 42, 43, 44] (by rfl) (by decide +kernel)
set_option maxRecDepth 20000 in
theorem gX12_sum_X12_throwing : GoodIn wsX12_sum (wsV RX12 65 RX12 yX12_throwing wsX12_throwing) := goodIn_app (goodIn_of _ (by decide +kernel)) ggX12_sum_X12_throwing
set_option maxRecDepth 20000 in
theorem ggX12_sum_X12_mixed : GoodIn wsX12_sum wsX12_mixed := goodIn_r _ [11, 12] (by rfl) (by decide +kernel)
set_option maxRecDepth 20000 in
theorem gX12_sum_X12_mixed : GoodIn wsX12_sum (va_wsS RX12 79 yX12_mixed wsX12_mixed) := goodIn_app (goodIn_of _ (by decide +kernel)) ggX12_sum_X12_mixed
set_option maxRecDepth 20000 in
theorem ggX12_isWrong_X12_mixed : GoodIn wsX12_isWrong wsX12_mixed := goodIn_r _ [7, 8] (by rfl) (by decide +kernel)
set_option maxRecDepth 20000 in
theorem gX12_isWrong_X12_mixed : GoodIn wsX12_isWrong (va_wsS RX12 79 yX12_mixed wsX12_mixed) := goodIn_app (goodIn_of _ (by decide +kernel)) ggX12_isWrong_X12_mixed
set_option maxRecDepth 20000 in
theorem ggX12_isSpoilt_X12_out : GoodIn wsX12_isSpoilt wsX12_out := goodIn_r _ [6] (by rfl) (by decide +kernel)
set_option maxRecDepth 20000 in
theorem gX12_isSpoilt_X12_out : GoodIn wsX12_isSpoilt (va_wsS RX12 61 yX12_out wsX12_out) := goodIn_app (goodIn_of _ (by decide +kernel)) ggX12_isSpoilt_X12_out
set_option maxRecDepth 20000 in
theorem ggX12_isSpoilt_X12_isWrong : GoodIn wsX12_isSpoilt wsX12_isWrong := goodIn_r _ [10, 1, 2, 11, 12, 13, 5, 14, 15, 16, 17, 18, 19, 20, 21, 22, 23, 24, 25, 26, 27, 28, 29, 30, 31, 32, 33, 34, 35, 36, 37, 38, 39, 40, 41, 42, 43, 44, 45, 46, 47] (by rfl) (by decide +kernel)
set_option maxRecDepth 20000 in
theorem gX12_isSpoilt_X12_isWrong : GoodIn wsX12_isSpoilt (wsV RX12 87 RX12 yX12_isWrong wsX12_isWrong) := goodIn_app (goodIn_of _ (by decide +kernel)) ggX12_isSpoilt_X12_isWrong
set_option maxRecDepth 20000 in
theorem ggX12_took_X12_isSpoilt : GoodIn wsX12_took wsX12_isSpoilt := goodIn_r _ [7, 1, 2, 8, 9, 6, 10, 11, 12, 13, 14, 15, 16, 17, 18, 19, 122, 123, 124, 125, 126, 127, 128, 129, 130, 131, 132, 133, 134, 135, 136, 137, 138, 139, 140, 141, 142, 143, 144, 145, 146, 147, 148, 149, 150, 151, 152, 153] (by rfl) (by decide +kernel)
set_option maxRecDepth 20000 in
theorem gX12_took_X12_isSpoilt : GoodIn wsX12_took (wsV RX12 90 RX12 yX12_isSpoilt wsX12_isSpoilt) := goodIn_app (goodIn_of _ (by decide +kernel)) ggX12_took_X12_isSpoilt
set_option maxRecDepth 20000 in
theorem ggX12_took_X12_drop : GoodIn wsX12_took wsX12_drop := goodIn_r _ [23, 1, 2, 122, 123, 124, 125, 126, 127, 128, 129, 130, 131, 132, 133, 134, 135, 136, 137, 138, 139, 140, 141, 142, 143, 144, 145, 146, 147, 148, 149, 150, 151, 152, 153] (by rfl) (by decide +kernel)
set_option maxRecDepth 20000 in
theorem gX12_took_X12_drop : GoodIn wsX12_took (wsV RX12 94 RX12 yX12_drop wsX12_drop) := goodIn_app (goodIn_of _ (by decide +kernel)) ggX12_took_X12_drop
set_option maxRecDepth 20000 in
theorem ggX12_took_X12_takePart : GoodIn wsX12_took wsX12_takePart := goodIn_r _ [27, 28, 29, 30, 31, 32, 33, 34, 35, 6, 36, 2, 37, 38, 39, 40, 41, 42, 43, 44, 45, 46, 47, 48, 49, 50, 8, 9, 10, 51, 52, 53, 54, 55, 56, 57, 58, 59, 60, 61, 62, 63, 64, 65, 66, 67, 68, 69, 70, 71, 72, 73, 74, 75, 76, 77, 78, 79, 80, 81, 82, 83, 84, 85, 86, 87, 88, 89, 90, 91, 92, 93, 94, 95, 96, 97, 98, 99, 100, 101, 102, 103, 104, 105, 106, 107, 108, 109, 110, 111, 112, 113, 114, 115, 116, 117, 16, 17, 18, 19, 118, 119, 120, 121, 15, 122, 123, 124, 125, 126, 127, 128, 129, 130, 131, 132, 133, 134, 135, 136, 137, 138, 139, 140, 141, 142, 143, 144, 145, 146, 147, 148, 149, 150, 151, 152, 153] (by rfl) (by decide +kernel)
set_option maxRecDepth 20000 in
theorem gX12_took_X12_takePart : GoodIn wsX12_took (wsV RX12 98 RX12 yX12_takePart wsX12_takePart) := goodIn_app (goodIn_of _ (by decide +kernel)) ggX12_took_X12_takePart
set_option maxRecDepth 20000 in
theorem ggX12_takePart_X12_payloadAt : GoodIn wsX12_takePart wsX12_payloadAt := goodIn_r _ [10, 11, 105, 106, 107, 108, 109, 110, 111, 112, 113, 114, 115, 116, 117, 118, 119, 120, 121, 122, 123, 124, 125, 126, 127, 128, 129, 130, 131, 132, 133, 134, 135, 136] (by rfl) (by decide +kernel)
set_option maxRecDepth 20000 in
theorem gX12_takePart_X12_payloadAt : GoodIn wsX12_takePart (wsV RX12 101 RX12 yX12_payloadAt wsX12_payloadAt) := goodIn_app (goodIn_of _ (by decide +kernel)) ggX12_takePart_X12_payloadAt
set_option maxRecDepth 20000 in
theorem ggX12_takePart_X12_request : GoodIn wsX12_takePart wsX12_request := goodIn_r _ [15, 4, 5, 16, 17, 18, 19, 20, 21, 22, 23, 24, 25, 26, 27, 9, 28, 29, 30, 31, 32, 33, 34, 35, 36, 37, 38, 39, 40, 41, 42, 43, 44, 45, 46, 47, 48, 49, 50, 51, 52, 53, 54, 55, 56, 57, 58, 59, 60, 61, 62, 63, 64, 65, 66, 67, 68, 69, 70, 71, 72, 73, 74, 75, 76, 77, 78, 79, 80, 81, 82, 83, 84, 85, 86, 87, 2, 88, 89, 90, 91, 92, 93, 94, 95, 96, 97, 98, 99, 100, 101, 102, 103, 104, 105, 106, 107, 108, 109, 110, 111, 112, 113, 114, 115, 116, 117, 118, 119, 120, 121, 122, 123, 124, 125, 126, 127, 128, 129, 130, 131, 132, 133, 134, 135, 136] (by rfl) (by decide +kernel)
set_option maxRecDepth 20000 in
theorem gX12_takePart_X12_request : GoodIn wsX12_takePart (wsV RX12 117 RX12 yX12_request wsX12_request) := goodIn_app (goodIn_of _ (by decide +kernel)) ggX12_takePart_X12_request
set_option maxRecDepth 20000 in
theorem ggX12_hear_X12_throwing : GoodIn wsX12_hear wsX12_throwing := goodIn_r _ [8, 9, 132, 133, 134, 135, 136, 137, 138, 139, 140, 141, 142, 143, 144, 145, 146, 147, 148, 149, 150, 151, 152, 153, 154, 155, 156, 157, 158, 159, 160, 161, 162, 163] (by rfl) (by decide +kernel)
set_option maxRecDepth 20000 in
theorem gX12_hear_X12_throwing : GoodIn wsX12_hear (wsV RX12 65 RX12 yX12_throwing wsX12_throwing) := goodIn_app (goodIn_of _ (by decide +kernel)) ggX12_hear_X12_throwing
set_option maxRecDepth 20000 in
theorem ggX12_hear_X12_took : GoodIn wsX12_hear wsX12_took := goodIn_r _ [13, 2, 1, 14, 15, 16, 7, 17, 18, 19, 20, 21, 22, 23, 24, 25, 26, 27, 28, 29, 30, 31, 32, 33, 34, 35, 36, 37, 38, 39, 40, 41, 42, 43, 44, 45, 46, 47, 48, 49, 50, 51, 52, 53, 54, 55, 56, 57, 58, 59, 60, 61, 62, 63, 64, 65, 66, 67, 68, 69, 70, 71, 72, 73, 74, 75, 76, 77, 78, 79, 80, 81, 82, 83, 84, 85, 86, 87, 88, 89, 90, 91, 92, 93, 94, 95, 96, 97, 98, 99, 100, 101, 102, 103, 104, 105, 106, 107, 108, 109, 110, 111, 112, 113, 114, 115, 116, 117, 118, 119, 120, 121, 122, 123, 124, 125, 126, 127, 128, 129, 130, 131, 132, 133, 134, 135, 136, 137, 138, 139, 140, 141, 142, 143, 144, 145, 146, 147, 148, 149, 150, 151, 152, 153, 154, 155, 156, 157, 158, 159, 160, 161, 162, 163] (by rfl) (by decide +kernel)
set_option maxRecDepth 20000 in
theorem gX12_hear_X12_took : GoodIn wsX12_hear (wsV RX12 120 RX12 yX12_took wsX12_took) := goodIn_app (goodIn_of _ (by decide +kernel)) ggX12_hear_X12_took
set_option maxRecDepth 20000 in
theorem ggX12_request_X12_out : GoodIn wsX12_request wsX12_out := goodIn_r _ [16] (by rfl) (by decide +kernel)
set_option maxRecDepth 20000 in
theorem gX12_request_X12_out : GoodIn wsX12_request (va_wsS RX12 61 yX12_out wsX12_out) := goodIn_app (goodIn_of _ (by decide +kernel)) ggX12_request_X12_out
set_option maxRecDepth 20000 in
theorem ggX12_request_X12_confirmed : GoodIn wsX12_request wsX12_confirmed := goodIn_r _ [20, 3, 5, 9, 21, 22, 23, 15, 24, 11, 25, 26, 94, 95, 96, 97, 98, 99, 100, 101, 102, 103, 104, 105, 106, 107, 108, 109, 110, 111, 112, 113, 114, 115, 116, 117, 118, 119, 120, 121, 122, 123, 124, 125] (by rfl) (by decide +kernel)
set_option maxRecDepth 20000 in
theorem gX12_request_X12_confirmed : GoodIn wsX12_request (wsV RX12 126 RX12 yX12_confirmed wsX12_confirmed) := goodIn_app (goodIn_of _ (by decide +kernel)) ggX12_request_X12_confirmed
set_option maxRecDepth 20000 in
theorem ggX12_request_X12_add : GoodIn wsX12_request wsX12_add := goodIn_r _ [30, 8, 6, 94, 95, 96, 97, 98, 99, 100, 101, 102, 103, 104, 105, 106, 107, 108, 109, 110, 111, 112, 113, 114, 115, 116, 117, 118, 119, 120, 121, 122, 123, 124, 125] (by rfl) (by decide +kernel)
set_option maxRecDepth 20000 in
theorem gX12_request_X12_add : GoodIn wsX12_request (wsV RX12 132 RX12 yX12_add wsX12_add) := goodIn_app (goodIn_of _ (by decide +kernel)) ggX12_request_X12_add
set_option maxRecDepth 20000 in
theorem ggX12_request_X12_read : GoodIn wsX12_request wsX12_read := goodIn_r _ [34, 1, 4, 2, 35, 36, 37, 15, 38, 39, 40, 41, 42, 43, 44, 45, 6, 46, 47, 48, 49, 50, 27, 28, 29, 30, 8, 51, 52, 53, 54, 55, 56, 57, 58, 5, 11, 25, 26, 94, 95, 96, 97, 98, 99, 100, 101, 102, 103, 104, 105, 106, 107, 108, 109, 110, 111, 112, 113, 114, 115, 116, 117, 118, 119, 120, 121, 122, 123, 124, 125] (by rfl) (by decide +kernel)
set_option maxRecDepth 20000 in
theorem gX12_request_X12_read : GoodIn wsX12_request (wsV RX12 135 RX12 yX12_read wsX12_read) := goodIn_app (goodIn_of _ (by decide +kernel)) ggX12_request_X12_read
set_option maxRecDepth 20000 in
theorem ggX12_request_X12_write : GoodIn wsX12_request wsX12_write := goodIn_r _ [62, 1, 2, 12, 4, 94, 95, 96, 97, 98, 99, 100, 101, 102, 103, 104, 105, 106, 107, 108, 109, 110, 111, 112, 113, 114, 115, 116, 117, 118, 119, 120, 121, 122, 123, 124, 125] (by rfl) (by decide +kernel)
set_option maxRecDepth 20000 in
theorem gX12_request_X12_write : GoodIn wsX12_request (wsV RX12 138 RX12 yX12_write wsX12_write) := goodIn_app (goodIn_of _ (by decide +kernel)) ggX12_request_X12_write
set_option maxRecDepth 20000 in
theorem ggX12_request_X12_control : GoodIn wsX12_request wsX12_control := goodIn_r _ [66, 1, 2, 7, 4, 67, 68, 69, 70, 71, 27, 28, 29, 15, 30, 8, 6, 94, 95, 96, 97, 98, 99, 100, 101, 102, 103, 104, 105, 106, 107, 108, 109, 110, 111, 112, 113, 114, 115, 116, 117, 118, 119, 120, 121, 122, 123, 124, 125] (by rfl) (by decide +kernel)
set_option maxRecDepth 20000 in
theorem gX12_request_X12_control : GoodIn wsX12_request (wsV RX12 141 RX12 yX12_control wsX12_control) := goodIn_app (goodIn_of _ (by decide +kernel)) ggX12_request_X12_control
set_option maxRecDepth 20000 in
theorem ggX12_request_X12_send : GoodIn wsX12_request wsX12_send := goodIn_r _ [75, 6, 76, 77, 8, 78, 79, 80, 15, 81, 82, 83, 84, 85, 86, 87, 88, 89, 90, 91, 92, 93, 94, 95, 96, 97, 98, 99, 100, 101, 102, 103, 104, 105, 106, 107, 108, 109, 110, 111, 112, 113, 114, 115, 116, 117, 118, 119, 120, 121, 122, 123, 124, 125] (by rfl) (by decide +kernel)
set_option maxRecDepth 20000 in
theorem gX12_request_X12_send : GoodIn wsX12_request (wsV RX12 147 RX12 yX12_send wsX12_send) := goodIn_app (goodIn_of _ (by decide +kernel)) ggX12_request_X12_send
set_option maxRecDepth 20000 in
theorem ggX12_confirmed_X12_forget : GoodIn wsX12_confirmed wsX12_forget := goodIn_r _ [8, 9, 10, 11, 2, 12, 13, 14, 15, 16, 17, 18, 19, 20, 21, 22, 23, 24, 25, 26, 27, 28, 29, 30, 31, 32, 33, 34, 35, 36, 37, 38, 39, 40, 41, 42, 43] (by rfl) (by decide +kernel)
set_option maxRecDepth 20000 in
theorem gX12_confirmed_X12_forget : GoodIn wsX12_confirmed (wsV RX12 69 RX12 yX12_forget wsX12_forget) := goodIn_app (goodIn_of _ (by decide +kernel)) ggX12_confirmed_X12_forget
set_option maxRecDepth 20000 in
theorem ggX12_addValue_X12_add : GoodIn wsX12_addValue wsX12_add := goodIn_r _ [5, 6, 7, 8, 9, 10, 11, 12, 13, 14, 15, 16, 17, 18, 19, 20, 21, 22, 23, 24, 25, 26, 27, 28, 29, 30, 31, 32, 33, 34, 35, 36, 37, 38, 39] (by rfl) (by decide +kernel)
set_option maxRecDepth 20000 in
theorem gX12_addValue_X12_add : GoodIn wsX12_addValue (wsV RX12 132 RX12 yX12_add wsX12_add) := goodIn_app (goodIn_of _ (by decide +kernel)) ggX12_addValue_X12_add
set_option maxRecDepth 20000 in
theorem ggX12_addPoints_X12_add : GoodIn wsX12_addPoints wsX12_add := goodIn_r _ [6, 7, 8, 13, 14, 15, 16, 17, 18, 19, 20, 21, 22, 23, 24, 25, 26, 27, 28, 29, 30, 31, 32, 33, 34, 35, 36, 37, 38, 39, 40, 41, 42, 43, 44] (by rfl) (by decide +kernel)
set_option maxRecDepth 20000 in
theorem gX12_addPoints_X12_add : GoodIn wsX12_addPoints (wsV RX12 132 RX12 yX12_add wsX12_add) := goodIn_app (goodIn_of _ (by decide +kernel)) ggX12_addPoints_X12_add
set_option maxRecDepth 20000 in
theorem ggX12_addPoints_X12_addValue : GoodIn wsX12_addPoints wsX12_addValue := goodIn_r _ [12, 2, 3, 4, 5, 6, 7, 8, 13, 14, 15, 16, 17, 18, 19, 20, 21, 22, 23, 24, 25, 26, 27, 28, 29, 30, 31, 32, 33, 34, 35, 36, 37, 38, 39, 40, 41, 42, 43, 44] (by rfl) (by decide +kernel)
set_option maxRecDepth 20000 in
theorem gX12_addPoints_X12_addValue : GoodIn wsX12_addPoints (wsV RX12 150 RX12 yX12_addValue wsX12_addValue) := goodIn_app (goodIn_of _ (by decide +kernel)) ggX12_addPoints_X12_addValue
set_option maxRecDepth 20000 in
theorem ggX12_addEvents_X12_room : GoodIn wsX12_addEvents wsX12_room := goodIn_r _ [9, 10, 20, 21, 22, 23, 24, 25, 26, 27, 28, 29, 30, 31, 32, 33, 34, 35, 36, 37, 38, 39, 40, 41, 42, 43, 44, 45, 46, 47, 48, 49, 50, 51] (by rfl) (by decide +kernel)
set_option maxRecDepth 20000 in
theorem gX12_addEvents_X12_room : GoodIn wsX12_addEvents (wsV RX12 153 RX12 yX12_room wsX12_room) := goodIn_app (goodIn_of _ (by decide +kernel)) ggX12_addEvents_X12_room
set_option maxRecDepth 20000 in
theorem ggX12_addEvents_X12_add : GoodIn wsX12_addEvents wsX12_add := goodIn_r _ [14, 15, 10, 20, 21, 22, 23, 24, 25, 26, 27, 28, 29, 30, 31, 32, 33, 34, 35, 36, 37, 38, 39, 40, 41, 42, 43, 44, 45, 46, 47, 48, 49, 50, 51] (by rfl) (by decide +kernel)
set_option maxRecDepth 20000 in
theorem gX12_addEvents_X12_add : GoodIn wsX12_addEvents (wsV RX12 132 RX12 yX12_add wsX12_add) := goodIn_app (goodIn_of _ (by decide +kernel)) ggX12_addEvents_X12_add
set_option maxRecDepth 20000 in
theorem ggX12_addEvents_X12_addValue : GoodIn wsX12_addEvents wsX12_addValue := goodIn_r _ [19, 11, 12, 13, 8, 14, 15, 10, 20, 21, 22, 23, 24, 25, 26, 27, 28, 29, 30, 31, 32, 33, 34, 35, 36, 37, 38, 39, 40, 41, 42, 43, 44, 45, 46, 47, 48, 49, 50, 51] (by rfl) (by decide +kernel)
set_option maxRecDepth 20000 in
theorem gX12_addEvents_X12_addValue : GoodIn wsX12_addEvents (wsV RX12 150 RX12 yX12_addValue wsX12_addValue) := goodIn_app (goodIn_of _ (by decide +kernel)) ggX12_addEvents_X12_addValue
set_option maxRecDepth 20000 in
theorem ggX12_readOne_X12_pointsSize : GoodIn wsX12_readOne wsX12_pointsSize := goodIn_r _ [5] (by rfl) (by decide +kernel)
set_option maxRecDepth 20000 in
theorem gX12_readOne_X12_pointsSize : GoodIn wsX12_readOne (va_wsS RX12 157 yX12_pointsSize wsX12_pointsSize) := goodIn_app (goodIn_of _ (by decide +kernel)) ggX12_readOne_X12_pointsSize
set_option maxRecDepth 20000 in
theorem ggX12_readOne_X12_room : GoodIn wsX12_readOne wsX12_room := goodIn_r _ [9, 10, 33, 34, 35, 36, 37, 38, 39, 40, 41, 42, 43, 44, 45, 46, 47, 48, 49, 50, 51, 52, 53, 54, 55, 56, 57, 58, 59, 60, 61, 62, 63, 64] (by rfl) (by decide +kernel)
set_option maxRecDepth 20000 in
theorem gX12_readOne_X12_room : GoodIn wsX12_readOne (wsV RX12 153 RX12 yX12_room wsX12_room) := goodIn_app (goodIn_of _ (by decide +kernel)) ggX12_readOne_X12_room
set_option maxRecDepth 20000 in
theorem ggX12_readOne_X12_addPoints : GoodIn wsX12_readOne wsX12_addPoints := goodIn_r _ [14, 15, 16, 17, 18, 4, 19, 20, 10, 21, 22, 23, 24, 33, 34, 35, 36, 37, 38, 39, 40, 41, 42, 43, 44, 45, 46, 47, 48, 49, 50, 51, 52, 53, 54, 55, 56, 57, 58, 59, 60, 61, 62, 63, 64] (by rfl) (by decide +kernel)
set_option maxRecDepth 20000 in
theorem gX12_readOne_X12_addPoints : GoodIn wsX12_readOne (wsV RX12 160 RX12 yX12_addPoints wsX12_addPoints) := goodIn_app (goodIn_of _ (by decide +kernel)) ggX12_readOne_X12_addPoints
set_option maxRecDepth 20000 in
theorem ggX12_readOne_X12_addEvents : GoodIn wsX12_readOne wsX12_addEvents := goodIn_r _ [28, 29, 30, 31, 32, 6, 7, 8, 4, 9, 10, 16, 17, 18, 19, 20, 21, 22, 23, 24, 33, 34, 35, 36, 37, 38, 39, 40, 41, 42, 43, 44, 45, 46, 47, 48, 49, 50, 51, 52, 53, 54, 55, 56, 57, 58, 59, 60, 61, 62, 63, 64] (by rfl) (by decide +kernel)
set_option maxRecDepth 20000 in
theorem gX12_readOne_X12_addEvents : GoodIn wsX12_readOne (wsV RX12 164 RX12 yX12_addEvents wsX12_addEvents) := goodIn_app (goodIn_of _ (by decide +kernel)) ggX12_readOne_X12_addEvents
set_option maxRecDepth 20000 in
theorem ggX12_read_X12_readOne : GoodIn wsX12_read wsX12_readOne := goodIn_r _ [8, 2, 9, 10, 7, 11, 12, 13, 14, 15, 16, 17, 18, 19, 20, 21, 22, 23, 24, 25, 26, 27, 28, 29, 30, 31, 32, 33, 34, 35, 36, 37, 38, 39, 40, 41, 42, 43, 44, 45, 46, 47, 48, 49, 50, 51, 52, 53, 54, 55, 56, 57, 58, 59, 60, 61, 62, 63, 64, 65, 66, 67, 68, 69, 70] (by rfl) (by decide +kernel)
set_option maxRecDepth 20000 in
theorem gX12_read_X12_readOne : GoodIn wsX12_read (wsV RX12 167 RX12 yX12_readOne wsX12_readOne) := goodIn_app (goodIn_of _ (by decide +kernel)) ggX12_read_X12_readOne
set_option maxRecDepth 20000 in
theorem ggX12_control_X12_add : GoodIn wsX12_control wsX12_add := goodIn_r _ [14, 15, 16, 17, 18, 19, 20, 21, 22, 23, 24, 25, 26, 27, 28, 29, 30, 31, 32, 33, 34, 35, 36, 37, 38, 39, 40, 41, 42, 43, 44, 45, 46, 47, 48] (by rfl) (by decide +kernel)
set_option maxRecDepth 20000 in
theorem gX12_control_X12_add : GoodIn wsX12_control (wsV RX12 132 RX12 yX12_add wsX12_add) := goodIn_app (goodIn_of _ (by decide +kernel)) ggX12_control_X12_add
set_option maxRecDepth 20000 in
theorem ggX12_put_X12_mixed : GoodIn wsX12_put wsX12_mixed := goodIn_r _ [7, 8] (by rfl) (by decide +kernel)
set_option maxRecDepth 20000 in
theorem gX12_put_X12_mixed : GoodIn wsX12_put (va_wsS RX12 79 yX12_mixed wsX12_mixed) := goodIn_app (goodIn_of _ (by decide +kernel)) ggX12_put_X12_mixed
set_option maxRecDepth 20000 in
theorem ggX12_putSum_X12_put : GoodIn wsX12_putSum wsX12_put := goodIn_r _ [7, 8, 9, 2, 10, 11, 6, 12, 13, 14, 15, 16, 17, 18, 19, 20, 21, 22, 23, 24, 25, 26, 27, 28, 29, 30, 31, 32, 33, 34, 35, 36, 37, 38, 39, 40, 41, 42, 43, 44, 45] (by rfl) (by decide +kernel)
set_option maxRecDepth 20000 in
theorem gX12_putSum_X12_put : GoodIn wsX12_putSum (wsV RX12 186 RX12 yX12_put wsX12_put) := goodIn_app (goodIn_of _ (by decide +kernel)) ggX12_putSum_X12_put
set_option maxRecDepth 20000 in
theorem ggX12_send_X12_put : GoodIn wsX12_send wsX12_put := goodIn_r _ [9, 10, 11, 12, 13, 14, 8, 15, 16, 22, 23, 24, 25, 26, 27, 28, 29, 30, 31, 32, 33, 34, 35, 36, 37, 38, 39, 40, 41, 42, 43, 44, 45, 46, 47, 48, 49, 50, 51, 52, 53] (by rfl) (by decide +kernel)
set_option maxRecDepth 20000 in
theorem gX12_send_X12_put : GoodIn wsX12_send (wsV RX12 186 RX12 yX12_put wsX12_put) := goodIn_app (goodIn_of _ (by decide +kernel)) ggX12_send_X12_put
set_option maxRecDepth 20000 in
theorem ggX12_send_X12_putSum : GoodIn wsX12_send wsX12_putSum := goodIn_r _ [20, 21, 12, 5, 6, 7, 8, 9, 10, 11, 13, 14, 15, 16, 22, 23, 24, 25, 26, 27, 28, 29, 30, 31, 32, 33, 34, 35, 36, 37, 38, 39, 40, 41, 42, 43, 44, 45, 46, 47, 48, 49, 50, 51, 52, 53] (by rfl) (by decide +kernel)
set_option maxRecDepth 20000 in
theorem gX12_send_X12_putSum : GoodIn wsX12_send (wsV RX12 189 RX12 yX12_putSum wsX12_putSum) := goodIn_app (goodIn_of _ (by decide +kernel)) ggX12_send_X12_putSum
set_option maxRecDepth 20000 in
theorem ggX12_sent_X12_throwing : GoodIn wsX12_sent wsX12_throwing := goodIn_r _ [7, 8, 9, 10, 11, 12, 13, 14, 15, 16, 17, 18, 19, 20, 21, 22, 23, 24, 25, 26, 27, 28, 29, 30, 31, 32, 33, 34, 35, 36, 37, 38, 39, 40] (by rfl) (by decide +kernel)
set_option maxRecDepth 20000 in
theorem gX12_sent_X12_throwing : GoodIn wsX12_sent (wsV RX12 65 RX12 yX12_throwing wsX12_throwing) := goodIn_app (goodIn_of _ (by decide +kernel)) ggX12_sent_X12_throwing
set_option maxRecDepth 20000 in
theorem ggX12_ask_X12_throwing : GoodIn wsX12_ask wsX12_throwing := goodIn_r _ [10, 11, 19, 20, 21, 22, 23, 24, 25, 26, 27, 28, 29, 30, 31, 32, 33, 34, 35, 36, 37, 38, 39, 40, 41, 42, 43, 44, 45, 46, 47, 48, 49, 50] (by rfl) (by decide +kernel)
set_option maxRecDepth 20000 in
theorem gX12_ask_X12_throwing : GoodIn wsX12_ask (wsV RX12 65 RX12 yX12_throwing wsX12_throwing) := goodIn_app (goodIn_of _ (by decide +kernel)) ggX12_ask_X12_throwing
set_option maxRecDepth 20000 in
theorem ggX12_ask_X12_refuse : GoodIn wsX12_ask wsX12_refuse := goodIn_r _ [15, 3, 5, 19, 20, 21, 22, 23, 24, 25, 26, 27, 28, 29, 30, 31, 32, 33, 34, 35, 36, 37, 38, 39, 40, 41, 42, 43, 44, 45, 46, 47, 48, 49, 50] (by rfl) (by decide +kernel)
set_option maxRecDepth 20000 in
theorem gX12_ask_X12_refuse : GoodIn wsX12_ask (wsV RX12 200 RX12 yX12_refuse wsX12_refuse) := goodIn_app (goodIn_of _ (by decide +kernel)) ggX12_ask_X12_refuse
set_option maxRecDepth 20000 in
theorem ggX12_ask_X12_out : GoodIn wsX12_ask wsX12_out := goodIn_r _ [18] (by rfl) (by decide +kernel)
set_option maxRecDepth 20000 in
theorem gX12_ask_X12_out : GoodIn wsX12_ask (va_wsS RX12 61 yX12_out wsX12_out) := goodIn_app (goodIn_of _ (by decide +kernel)) ggX12_ask_X12_out
set_option maxRecDepth 20000 in
theorem ggX12_told_X12_out : GoodIn wsX12_told wsX12_out := goodIn_r _ [6] (by rfl) (by decide +kernel)
set_option maxRecDepth 20000 in
theorem gX12_told_X12_out : GoodIn wsX12_told (va_wsS RX12 61 yX12_out wsX12_out) := goodIn_app (goodIn_of _ (by decide +kernel)) ggX12_told_X12_out
set_option maxRecDepth 20000 in
theorem ggX12_told_X12_throwing : GoodIn wsX12_told wsX12_throwing := goodIn_r _ [10, 11, 12, 13, 14, 15, 16, 17, 18, 19, 20, 21, 22, 23, 24, 25, 26, 27, 28, 29, 30, 31, 32, 33, 34, 35, 36, 37, 38, 39, 40, 41, 42, 43] (by rfl) (by decide +kernel)
set_option maxRecDepth 20000 in
theorem gX12_told_X12_throwing : GoodIn wsX12_told (wsV RX12 65 RX12 yX12_throwing wsX12_throwing) := goodIn_app (goodIn_of _ (by decide +kernel)) ggX12_told_X12_throwing
