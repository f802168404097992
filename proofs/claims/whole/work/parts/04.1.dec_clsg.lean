set_option maxRecDepth 20000 in
theorem ggX0_addValue_X0_add : GoodIn wsX0_addValue wsX0_add := goodIn_r _ [5, 6, 7, 8, 9] (by rfl) (by decide +kernel)
set_option maxRecDepth 20000 in
theorem gX0_addValue_X0_add : GoodIn wsX0_addValue (wsV RX0 19 RX0 yX0_add wsX0_add) := goodIn_app (goodIn_of _ (by decide +kernel)) ggX0_addValue_X0_add
set_option maxRecDepth 20000 in
theorem ggX1_append_X1_isFull : GoodIn wsX1_append wsX1_isFull := goodIn_r _ [8, 1, 25, 26, 27, 28] (by rfl) (by decide +kernel)
set_option maxRecDepth 20000 in
theorem gX1_append_X1_isFull : GoodIn wsX1_append (wsV RX1 25 RX1 yX1_isFull wsX1_isFull) := goodIn_app (goodIn_of _ (by decide +kernel)) ggX1_append_X1_isFull
set_option maxRecDepth 20000 in
theorem ggX1_append_X1_dropFirst : GoodIn wsX1_append wsX1_dropFirst := goodIn_r _ [12, 13, 14, 15, 16, 1, 17, 18, 19, 2, 20, 21, 22, 23, 3, 24, 25, 26, 27, 28] (by rfl) (by decide +kernel)
set_option maxRecDepth 20000 in
theorem gX1_append_X1_dropFirst : GoodIn wsX1_append (wsV RX1 29 RX1 yX1_dropFirst wsX1_dropFirst) := goodIn_app (goodIn_of _ (by decide +kernel)) ggX1_append_X1_dropFirst
set_option maxRecDepth 20000 in
theorem ggX1_dropAnswered_X1_dropFirst : GoodIn wsX1_dropAnswered wsX1_dropFirst := goodIn_r _ [6, 7, 8, 9, 10, 11, 12, 13, 14, 15, 16, 17, 18, 19, 20, 1, 21, 22, 23, 24] (by rfl) (by decide +kernel)
set_option maxRecDepth 20000 in
theorem gX1_dropAnswered_X1_dropFirst : GoodIn wsX1_dropAnswered (wsV RX1 29 RX1 yX1_dropFirst wsX1_dropFirst) := goodIn_app (goodIn_of _ (by decide +kernel)) ggX1_dropAnswered_X1_dropFirst
set_option maxRecDepth 20000 in
theorem ggX2_init_X1_init : GoodIn wsX2_init wsX1_init := goodIn_r _ [16, 17, 2, 3, 4, 18, 19, 27, 28, 29, 30] (by rfl) (by decide +kernel)
set_option maxRecDepth 20000 in
theorem gX2_init_X1_init_n23 : GoodIn wsX2_init (wsX1_init) := ggX2_init_X1_init
set_option maxRecDepth 20000 in
theorem ggX2_valueOf_X2_has : GoodIn wsX2_valueOf wsX2_has := goodIn_r _ [5] (by rfl) (by decide +kernel)
set_option maxRecDepth 20000 in
theorem gX2_valueOf_X2_has : GoodIn wsX2_valueOf (wsV RX2 38 RX2 yX2_has wsX2_has) := goodIn_app (goodIn_of _ (by decide +kernel)) ggX2_valueOf_X2_has
set_option maxRecDepth 20000 in
theorem ggX2_valueOf_X2_valuesOf : GoodIn wsX2_valueOf wsX2_valuesOf := goodIn_r _ [9, 10, 11, 12, 13, 14, 15, 16, 17, 18, 19] (by rfl) (by decide +kernel)
set_option maxRecDepth 20000 in
theorem gX2_valueOf_X2_valuesOf : GoodIn wsX2_valueOf (wsV RX2 42 RX2 yX2_valuesOf wsX2_valuesOf) := goodIn_app (goodIn_of _ (by decide +kernel)) ggX2_valueOf_X2_valuesOf
set_option maxRecDepth 20000 in
theorem ggX2_bring_X2_has : GoodIn wsX2_bring wsX2_has := goodIn_r _ [6] (by rfl) (by decide +kernel)
set_option maxRecDepth 20000 in
theorem gX2_bring_X2_has : GoodIn wsX2_bring (wsV RX2 38 RX2 yX2_has wsX2_has) := goodIn_app (goodIn_of _ (by decide +kernel)) ggX2_bring_X2_has
set_option maxRecDepth 20000 in
theorem ggX2_bring_X2_valuesOf : GoodIn wsX2_bring wsX2_valuesOf := goodIn_r _ [10, 11, 12, 13, 49, 50, 51, 52, 53, 54, 55] (by rfl) (by decide +kernel)
set_option maxRecDepth 20000 in
theorem gX2_bring_X2_valuesOf : GoodIn wsX2_bring (wsV RX2 42 RX2 yX2_valuesOf wsX2_valuesOf) := goodIn_app (goodIn_of _ (by decide +kernel)) ggX2_bring_X2_valuesOf
set_option maxRecDepth 20000 in
theorem ggX2_bring_X2_eventsOf : GoodIn wsX2_bring wsX2_eventsOf := goodIn_r _ [17, 18, 19, 49, 50, 51, 52, 53, 54, 55] (by rfl) (by decide +kernel)
set_option maxRecDepth 20000 in
theorem gX2_bring_X2_eventsOf : GoodIn wsX2_bring (wsV RX2 46 RX2 yX2_eventsOf wsX2_eventsOf) := goodIn_app (goodIn_of _ (by decide +kernel)) ggX2_bring_X2_eventsOf
set_option maxRecDepth 20000 in
theorem ggX2_bring_X1_isFull : GoodIn wsX2_bring wsX1_isFull := goodIn_r _ [24, 25, 56, 57, 58, 59] (by rfl) (by decide +kernel)
set_option maxRecDepth 20000 in
theorem gX2_bring_X1_isFull : GoodIn wsX2_bring (wsV RX2 50 RX1 yX1_isFull wsX1_isFull) := goodIn_app (goodIn_of _ (by decide +kernel)) ggX2_bring_X1_isFull
set_option maxRecDepth 20000 in
theorem ggX2_bring_X1_append : GoodIn wsX2_bring wsX1_append := goodIn_r _ [29, 25, 30, 31, 32, 21, 22, 23, 24, 33, 34, 35, 36, 37, 38, 39, 40, 41, 42, 43, 44, 45, 46, 47, 48, 56, 57, 58, 59] (by rfl) (by decide +kernel)
set_option maxRecDepth 20000 in
theorem gX2_bring_X1_append : GoodIn wsX2_bring (wsV RX2 54 RX1 yX1_append wsX1_append) := goodIn_app (goodIn_of _ (by decide +kernel)) ggX2_bring_X1_append
set_option maxRecDepth 20000 in
theorem ggX2_setOutput_X2_has : GoodIn wsX2_setOutput wsX2_has := goodIn_r _ [6] (by rfl) (by decide +kernel)
set_option maxRecDepth 20000 in
theorem gX2_setOutput_X2_has : GoodIn wsX2_setOutput (wsV RX2 38 RX2 yX2_has wsX2_has) := goodIn_app (goodIn_of _ (by decide +kernel)) ggX2_setOutput_X2_has
set_option maxRecDepth 20000 in
theorem ggX2_forgetAnswered_X1_forgetAnswered : GoodIn wsX2_forgetAnswered wsX1_forgetAnswered := goodIn_r _ [7, 8, 16, 17, 18, 19] (by rfl) (by decide +kernel)
set_option maxRecDepth 20000 in
theorem gX2_forgetAnswered_X1_forgetAnswered : GoodIn wsX2_forgetAnswered (wsV RX2 58 RX1 yX1_forgetAnswered wsX1_forgetAnswered) := goodIn_app (goodIn_of _ (by decide +kernel)) ggX2_forgetAnswered_X1_forgetAnswered
set_option maxRecDepth 20000 in
theorem ggX2_anyAnswered_X1_answered : GoodIn wsX2_anyAnswered wsX1_answered := goodIn_r _ [7, 8, 16, 17, 18, 19] (by rfl) (by decide +kernel)
set_option maxRecDepth 20000 in
theorem gX2_anyAnswered_X1_answered : GoodIn wsX2_anyAnswered (wsV RX2 61 RX1 yX1_answered wsX1_answered) := goodIn_app (goodIn_of _ (by decide +kernel)) ggX2_anyAnswered_X1_answered
set_option maxRecDepth 20000 in
theorem ggX2_confirmAnswered_X1_dropAnswered : GoodIn wsX2_confirmAnswered wsX1_dropAnswered := goodIn_r _ [8, 9, 10, 11, 12, 7, 13, 14, 15, 16, 17, 18, 19, 20, 21, 22, 23, 24, 25, 26, 27, 35, 36, 37, 38] (by rfl) (by decide +kernel)
set_option maxRecDepth 20000 in
theorem gX2_confirmAnswered_X1_dropAnswered : GoodIn wsX2_confirmAnswered (wsV RX2 65 RX1 yX1_dropAnswered wsX1_dropAnswered) := goodIn_app (goodIn_of _ (by decide +kernel)) ggX2_confirmAnswered_X1_dropAnswered
set_option maxRecDepth 20000 in
theorem ggX2_firstSigns_X1_size : GoodIn wsX2_firstSigns wsX1_size := goodIn_r _ [8, 9, 17, 18, 19, 20] (by rfl) (by decide +kernel)
set_option maxRecDepth 20000 in
theorem gX2_firstSigns_X1_size : GoodIn wsX2_firstSigns (wsV RX2 68 RX1 yX1_size wsX1_size) := goodIn_app (goodIn_of _ (by decide +kernel)) ggX2_firstSigns_X1_size
set_option maxRecDepth 20000 in
theorem ggX3_init_X0_init : GoodIn wsX3_init wsX0_init := goodIn_r _ [15, 16, 2, 3, 17, 18, 22, 23] (by rfl) (by decide +kernel)
set_option maxRecDepth 20000 in
theorem gX3_init_X0_init : GoodIn wsX3_init (wsX0_init) := ggX3_init_X0_init
set_option maxRecDepth 20000 in
theorem ggX3_init_X10_init : GoodIn wsX3_init wsX10_init := goodIn_r _ [20, 21, 2, 3] (by rfl) (by decide +kernel)
set_option maxRecDepth 20000 in
theorem gX3_init_X10_init_n22 : GoodIn wsX3_init (wsX10_init) := ggX3_init_X10_init
set_option maxRecDepth 20000 in
theorem ggX3_length_X0_length : GoodIn wsX3_length wsX0_length := goodIn_r _ [6, 7, 11, 12] (by rfl) (by decide +kernel)
set_option maxRecDepth 20000 in
theorem gX3_length_X0_length : GoodIn wsX3_length (wsV RX3 31 RX0 yX0_length wsX0_length) := goodIn_app (goodIn_of _ (by decide +kernel)) ggX3_length_X0_length
set_option maxRecDepth 20000 in
theorem ggX3_bring_X0_add : GoodIn wsX3_bring wsX0_add := goodIn_r _ [6, 7, 8, 12, 13] (by rfl) (by decide +kernel)
set_option maxRecDepth 20000 in
theorem gX3_bring_X0_add : GoodIn wsX3_bring (wsV RX3 35 RX0 yX0_add wsX0_add) := goodIn_app (goodIn_of _ (by decide +kernel)) ggX3_bring_X0_add
set_option maxRecDepth 20000 in
theorem ggX3_findFrame_X0_length : GoodIn wsX3_findFrame wsX0_length := goodIn_r _ [7, 8, 71, 72] (by rfl) (by decide +kernel)
set_option maxRecDepth 20000 in
theorem gX3_findFrame_X0_length : GoodIn wsX3_findFrame (wsV RX3 31 RX0 yX0_length wsX0_length) := goodIn_app (goodIn_of _ (by decide +kernel)) ggX3_findFrame_X0_length
set_option maxRecDepth 20000 in
theorem ggX3_findFrame_X3_state : GoodIn wsX3_findFrame wsX3_state := goodIn_r _ [13, 2, 1, 14, 15, 16, 12, 17, 18, 19, 20, 6, 21, 8, 22, 3, 4, 5, 7, 23, 24, 25, 26, 27, 28, 29, 30, 31, 32, 33, 34, 35, 36, 37, 38, 39, 40, 41, 42, 43, 44, 45, 46, 47, 48, 49, 50, 51, 52, 53, 54, 55, 68, 69, 70, 71, 72, 73] (by rfl) (by decide +kernel)
set_option maxRecDepth 20000 in
theorem gX3_findFrame_X3_state : GoodIn wsX3_findFrame (wsV RX3 38 RX3 yX3_state wsX3_state) := goodIn_app (goodIn_of _ (by decide +kernel)) ggX3_findFrame_X3_state
set_option maxRecDepth 20000 in
theorem ggX3_findFrame_X0_dropFirst : GoodIn wsX3_findFrame wsX0_dropFirst := goodIn_r _ [59, 60, 61, 50, 62, 8, 63, 49, 51, 22, 64, 65, 66, 67, 71, 72] (by rfl) (by decide +kernel)
set_option maxRecDepth 20000 in
theorem gX3_findFrame_X0_dropFirst : GoodIn wsX3_findFrame (wsV RX3 41 RX0 yX0_dropFirst wsX0_dropFirst) := goodIn_app (goodIn_of _ (by decide +kernel)) ggX3_findFrame_X0_dropFirst
set_option maxRecDepth 20000 in
theorem ggX3_state_X3_beginsOtherwise : GoodIn wsX3_state wsX3_beginsOtherwise := goodIn_r _ [7, 2, 8, 9, 10, 11, 12, 13, 14, 15, 16, 17, 18, 52, 53, 54, 55, 56] (by rfl) (by decide +kernel)
set_option maxRecDepth 20000 in
theorem gX3_state_X3_beginsOtherwise : GoodIn wsX3_state (wsV RX3 44 RX3 yX3_beginsOtherwise wsX3_beginsOtherwise) := goodIn_app (goodIn_of _ (by decide +kernel)) ggX3_state_X3_beginsOtherwise
set_option maxRecDepth 20000 in
theorem ggX3_state_X0_length : GoodIn wsX3_state wsX0_length := goodIn_r _ [18, 13, 55, 56] (by rfl) (by decide +kernel)
set_option maxRecDepth 20000 in
theorem gX3_state_X0_length : GoodIn wsX3_state (wsV RX3 31 RX0 yX0_length wsX0_length) := goodIn_app (goodIn_of _ (by decide +kernel)) ggX3_state_X0_length
set_option maxRecDepth 20000 in
theorem ggX3_state_X3_sumIsRight : GoodIn wsX3_state wsX3_sumIsRight := goodIn_r _ [22, 23, 2, 24, 25, 26, 27, 28, 29, 8, 9, 10, 11, 12, 13, 14, 30, 31, 32, 33, 34, 35, 36, 37, 38, 39, 52, 53, 54, 57, 55, 56] (by rfl) (by decide +kernel)
set_option maxRecDepth 20000 in
theorem gX3_state_X3_sumIsRight : GoodIn wsX3_state (wsV RX3 48 RX3 yX3_sumIsRight wsX3_sumIsRight) := goodIn_app (goodIn_of _ (by decide +kernel)) ggX3_state_X3_sumIsRight
set_option maxRecDepth 20000 in
theorem ggX3_state_X3_stateOfBlocks : GoodIn wsX3_state wsX3_stateOfBlocks := goodIn_r _ [43, 1, 44, 45, 46, 47, 2, 48, 49, 50, 6, 51, 8, 9, 10, 11, 12, 13, 14, 15, 16, 17, 18, 19, 20, 21, 22, 23, 24, 25, 26, 27, 28, 29, 30, 31, 32, 33, 34, 35, 36, 37, 38, 39, 52, 53, 54, 55, 56, 57] (by rfl) (by decide +kernel)
set_option maxRecDepth 20000 in
theorem gX3_state_X3_stateOfBlocks : GoodIn wsX3_state (wsV RX3 52 RX3 yX3_stateOfBlocks wsX3_stateOfBlocks) := goodIn_app (goodIn_of _ (by decide +kernel)) ggX3_state_X3_stateOfBlocks
set_option maxRecDepth 20000 in
theorem ggX3_isForThis_X0_at : GoodIn wsX3_isForThis wsX0_at := goodIn_r _ [6, 7, 8, 12, 13] (by rfl) (by decide +kernel)
set_option maxRecDepth 20000 in
theorem gX3_isForThis_X0_at : GoodIn wsX3_isForThis (wsV RX3 55 RX0 yX0_at wsX0_at) := goodIn_app (goodIn_of _ (by decide +kernel)) ggX3_isForThis_X0_at
set_option maxRecDepth 20000 in
theorem ggX3_from_X0_at : GoodIn wsX3_from wsX0_at := goodIn_r _ [6, 7, 8, 12, 13] (by rfl) (by decide +kernel)
set_option maxRecDepth 20000 in
theorem gX3_from_X0_at : GoodIn wsX3_from (wsV RX3 55 RX0 yX0_at wsX0_at) := goodIn_app (goodIn_of _ (by decide +kernel)) ggX3_from_X0_at
set_option maxRecDepth 20000 in
theorem ggX3_payloadLength_X0_at : GoodIn wsX3_payloadLength wsX0_at := goodIn_r _ [6, 7, 8, 12, 13] (by rfl) (by decide +kernel)
set_option maxRecDepth 20000 in
theorem gX3_payloadLength_X0_at : GoodIn wsX3_payloadLength (wsV RX3 55 RX0 yX0_at wsX0_at) := goodIn_app (goodIn_of _ (by decide +kernel)) ggX3_payloadLength_X0_at
set_option maxRecDepth 20000 in
theorem ggX3_payloadAt_X0_at : GoodIn wsX3_payloadAt wsX0_at := goodIn_r _ [6, 7, 8, 12, 13] (by rfl) (by decide +kernel)
set_option maxRecDepth 20000 in
theorem gX3_payloadAt_X0_at : GoodIn wsX3_payloadAt (wsV RX3 55 RX0 yX0_at wsX0_at) := goodIn_app (goodIn_of _ (by decide +kernel)) ggX3_payloadAt_X0_at
set_option maxRecDepth 20000 in
theorem ggX3_dropFrame_X0_dropFirst : GoodIn wsX3_dropFrame wsX0_dropFirst := goodIn_r _ [7, 8, 9, 10, 11, 12, 13, 14, 15, 16, 17, 18, 19, 20, 24, 25] (by rfl) (by decide +kernel)
set_option maxRecDepth 20000 in
theorem gX3_dropFrame_X0_dropFirst : GoodIn wsX3_dropFrame (wsV RX3 41 RX0 yX0_dropFirst wsX0_dropFirst) := goodIn_app (goodIn_of _ (by decide +kernel)) ggX3_dropFrame_X0_dropFirst
set_option maxRecDepth 20000 in
theorem ggX3_beginsOtherwise_X0_at : GoodIn wsX3_beginsOtherwise wsX0_at := goodIn_r _ [6, 7, 8, 16, 17] (by rfl) (by decide +kernel)
set_option maxRecDepth 20000 in
theorem gX3_beginsOtherwise_X0_at : GoodIn wsX3_beginsOtherwise (wsV RX3 55 RX0 yX0_at wsX0_at) := goodIn_app (goodIn_of _ (by decide +kernel)) ggX3_beginsOtherwise_X0_at
set_option maxRecDepth 20000 in
theorem ggX3_beginsOtherwise_X0_length : GoodIn wsX3_beginsOtherwise wsX0_length := goodIn_r _ [12, 7, 16, 17] (by rfl) (by decide +kernel)
set_option maxRecDepth 20000 in
theorem gX3_beginsOtherwise_X0_length : GoodIn wsX3_beginsOtherwise (wsV RX3 31 RX0 yX0_length wsX0_length) := goodIn_app (goodIn_of _ (by decide +kernel)) ggX3_beginsOtherwise_X0_length
set_option maxRecDepth 20000 in
theorem ggX3_stateOfBlocks_X3_payloadLength : GoodIn wsX3_stateOfBlocks wsX3_payloadLength := goodIn_r _ [11, 6, 12, 13, 14, 15, 16, 17, 18, 44, 45, 46, 47, 48] (by rfl) (by decide +kernel)
set_option maxRecDepth 20000 in
theorem gX3_stateOfBlocks_X3_payloadLength : GoodIn wsX3_stateOfBlocks (wsV RX3 59 RX3 yX3_payloadLength wsX3_payloadLength) := goodIn_app (goodIn_of _ (by decide +kernel)) ggX3_stateOfBlocks_X3_payloadLength
set_option maxRecDepth 20000 in
theorem ggX3_stateOfBlocks_X0_length : GoodIn wsX3_stateOfBlocks wsX0_length := goodIn_r _ [22, 17, 47, 48] (by rfl) (by decide +kernel)
set_option maxRecDepth 20000 in
theorem gX3_stateOfBlocks_X0_length : GoodIn wsX3_stateOfBlocks (wsV RX3 31 RX0 yX0_length wsX0_length) := goodIn_app (goodIn_of _ (by decide +kernel)) ggX3_stateOfBlocks_X0_length
set_option maxRecDepth 20000 in
theorem ggX3_stateOfBlocks_X3_sumIsRight : GoodIn wsX3_stateOfBlocks wsX3_sumIsRight := goodIn_r _ [26, 27, 6, 28, 29, 30, 31, 32, 33, 12, 13, 14, 15, 16, 17, 18, 34, 35, 36, 37, 38, 39, 40, 41, 42, 43, 44, 45, 46, 49, 47, 48] (by rfl) (by decide +kernel)
set_option maxRecDepth 20000 in
theorem gX3_stateOfBlocks_X3_sumIsRight : GoodIn wsX3_stateOfBlocks (wsV RX3 48 RX3 yX3_sumIsRight wsX3_sumIsRight) := goodIn_app (goodIn_of _ (by decide +kernel)) ggX3_stateOfBlocks_X3_sumIsRight
set_option maxRecDepth 20000 in
theorem ggX3_sumIsRight_X10_clear : GoodIn wsX3_sumIsRight wsX10_clear := goodIn_r _ [7, 8, 29] (by rfl) (by decide +kernel)
set_option maxRecDepth 20000 in
theorem gX3_sumIsRight_X10_clear : GoodIn wsX3_sumIsRight (wsV RX3 68 RX10 yX10_clear wsX10_clear) := goodIn_app (goodIn_of _ (by decide +kernel)) ggX3_sumIsRight_X10_clear
set_option maxRecDepth 20000 in
theorem ggX3_sumIsRight_X0_at : GoodIn wsX3_sumIsRight wsX0_at := goodIn_r _ [13, 14, 15, 30, 31] (by rfl) (by decide +kernel)
set_option maxRecDepth 20000 in
theorem gX3_sumIsRight_X0_at : GoodIn wsX3_sumIsRight (wsV RX3 55 RX0 yX0_at wsX0_at) := goodIn_app (goodIn_of _ (by decide +kernel)) ggX3_sumIsRight_X0_at
set_option maxRecDepth 20000 in
theorem ggX3_sumIsRight_X10_add : GoodIn wsX3_sumIsRight wsX10_add := goodIn_r _ [19, 8, 20, 29] (by rfl) (by decide +kernel)
set_option maxRecDepth 20000 in
theorem gX3_sumIsRight_X10_add : GoodIn wsX3_sumIsRight (wsV RX3 71 RX10 yX10_add wsX10_add) := goodIn_app (goodIn_of _ (by decide +kernel)) ggX3_sumIsRight_X10_add
set_option maxRecDepth 20000 in
theorem ggX3_sumIsRight_X10_value : GoodIn wsX3_sumIsRight wsX10_value := goodIn_r _ [24, 25, 8, 29] (by rfl) (by decide +kernel)
set_option maxRecDepth 20000 in
theorem gX3_sumIsRight_X10_value : GoodIn wsX3_sumIsRight (wsV RX3 72 RX10 yX10_value wsX10_value) := goodIn_app (goodIn_of _ (by decide +kernel)) ggX3_sumIsRight_X10_value
set_option maxRecDepth 20000 in
theorem ggX4_init_X0_init : GoodIn wsX4_init wsX0_init := goodIn_r _ [13, 14, 2, 3, 15, 16, 17, 18] (by rfl) (by decide +kernel)
set_option maxRecDepth 20000 in
theorem gX4_init_X0_init : GoodIn wsX4_init (wsX0_init) := ggX4_init_X0_init
set_option maxRecDepth 20000 in
theorem ggX4_take_X3_payloadAt : GoodIn wsX4_take wsX3_payloadAt := goodIn_r _ [9, 10, 11, 12, 13, 14, 15, 16, 17, 47, 48, 49, 50, 51] (by rfl) (by decide +kernel)
set_option maxRecDepth 20000 in
theorem gX4_take_X3_payloadAt : GoodIn wsX4_take (wsV RX4 31 RX3 yX3_payloadAt wsX3_payloadAt) := goodIn_app (goodIn_of _ (by decide +kernel)) ggX4_take_X3_payloadAt
set_option maxRecDepth 20000 in
theorem ggX4_take_X0_clear : GoodIn wsX4_take wsX0_clear := goodIn_r _ [21, 16, 50, 51] (by rfl) (by decide +kernel)
set_option maxRecDepth 20000 in
theorem gX4_take_X0_clear : GoodIn wsX4_take (wsV RX4 37 RX0 yX0_clear wsX0_clear) := goodIn_app (goodIn_of _ (by decide +kernel)) ggX4_take_X0_clear
set_option maxRecDepth 20000 in
theorem ggX4_take_X4_goesOn : GoodIn wsX4_take wsX4_goesOn := goodIn_r _ [26, 2, 4, 3, 1, 27, 28, 29, 8, 30, 10, 11, 12, 13, 14, 15, 16, 17, 31, 32, 33, 34, 35, 36, 37, 38, 43, 44, 45, 46, 47, 48, 49, 50, 51] (by rfl) (by decide +kernel)
set_option maxRecDepth 20000 in
theorem gX4_take_X4_goesOn : GoodIn wsX4_take (wsV RX4 40 RX4 yX4_goesOn wsX4_goesOn) := goodIn_app (goodIn_of _ (by decide +kernel)) ggX4_take_X4_goesOn
set_option maxRecDepth 20000 in
theorem ggX4_take_X3_from : GoodIn wsX4_take wsX3_from := goodIn_r _ [30, 10, 11, 12, 13, 14, 15, 16, 17, 47, 48, 49, 50, 51] (by rfl) (by decide +kernel)
set_option maxRecDepth 20000 in
theorem gX4_take_X3_from : GoodIn wsX4_take (wsV RX4 44 RX3 yX3_from wsX3_from) := goodIn_app (goodIn_of _ (by decide +kernel)) ggX4_take_X3_from
set_option maxRecDepth 20000 in
theorem ggX4_take_X3_payloadLength : GoodIn wsX4_take wsX3_payloadLength := goodIn_r _ [34, 10, 11, 12, 13, 14, 15, 16, 17, 47, 48, 49, 50, 51] (by rfl) (by decide +kernel)
set_option maxRecDepth 20000 in
theorem gX4_take_X3_payloadLength : GoodIn wsX4_take (wsV RX4 47 RX3 yX3_payloadLength wsX3_payloadLength) := goodIn_app (goodIn_of _ (by decide +kernel)) ggX4_take_X3_payloadLength
set_option maxRecDepth 20000 in
theorem ggX4_take_X0_add : GoodIn wsX4_take wsX0_add := goodIn_r _ [42, 16, 17, 50, 51] (by rfl) (by decide +kernel)
set_option maxRecDepth 20000 in
theorem gX4_take_X0_add : GoodIn wsX4_take (wsV RX4 50 RX0 yX0_add wsX0_add) := goodIn_app (goodIn_of _ (by decide +kernel)) ggX4_take_X0_add
set_option maxRecDepth 20000 in
theorem ggX4_goesOn_X3_from : GoodIn wsX4_goesOn wsX3_from := goodIn_r _ [9, 10, 11, 12, 13, 14, 15, 16, 17, 30, 31, 32, 33, 34] (by rfl) (by decide +kernel)
set_option maxRecDepth 20000 in
theorem gX4_goesOn_X3_from : GoodIn wsX4_goesOn (wsV RX4 44 RX3 yX3_from wsX3_from) := goodIn_app (goodIn_of _ (by decide +kernel)) ggX4_goesOn_X3_from
set_option maxRecDepth 20000 in
theorem ggX4_goesOn_X3_payloadLength : GoodIn wsX4_goesOn wsX3_payloadLength := goodIn_r _ [21, 10, 11, 12, 13, 14, 15, 16, 17, 30, 31, 32, 33, 34] (by rfl) (by decide +kernel)
set_option maxRecDepth 20000 in
theorem gX4_goesOn_X3_payloadLength : GoodIn wsX4_goesOn (wsV RX4 47 RX3 yX3_payloadLength wsX3_payloadLength) := goodIn_app (goodIn_of _ (by decide +kernel)) ggX4_goesOn_X3_payloadLength
set_option maxRecDepth 20000 in
theorem ggX4_goesOn_X0_room : GoodIn wsX4_goesOn wsX0_room := goodIn_r _ [25, 17, 16, 33, 34] (by rfl) (by decide +kernel)
set_option maxRecDepth 20000 in
theorem gX4_goesOn_X0_room : GoodIn wsX4_goesOn (wsV RX4 53 RX0 yX0_room wsX0_room) := goodIn_app (goodIn_of _ (by decide +kernel)) ggX4_goesOn_X0_room
set_option maxRecDepth 20000 in
theorem ggX5_init_X0_init : GoodIn wsX5_init wsX0_init := goodIn_r _ [10, 11, 2, 3, 12, 13, 14, 15] (by rfl) (by decide +kernel)
set_option maxRecDepth 20000 in
theorem gX5_init_X0_init : GoodIn wsX5_init (wsX0_init) := ggX5_init_X0_init
set_option maxRecDepth 20000 in
theorem ggX5_take_X0_clear : GoodIn wsX5_take wsX0_clear := goodIn_r _ [7, 8, 51, 52] (by rfl) (by decide +kernel)
set_option maxRecDepth 20000 in
theorem gX5_take_X0_clear : GoodIn wsX5_take (wsV RX5 20 RX0 yX0_clear wsX0_clear) := goodIn_app (goodIn_of _ (by decide +kernel)) ggX5_take_X0_clear
set_option maxRecDepth 20000 in
theorem ggX5_take_X11_byteOf : GoodIn wsX5_take wsX11_byteOf := goodIn_r _ [11] (by rfl) (by decide +kernel)
set_option maxRecDepth 20000 in
theorem gX5_take_X11_byteOf_n23 : GoodIn wsX5_take (wsX11_byteOf) := ggX5_take_X11_byteOf
set_option maxRecDepth 20000 in
theorem ggX5_take_X5_refuse : GoodIn wsX5_take wsX5_refuse := goodIn_r _ [16, 1, 17, 18, 19, 6, 20, 8, 21, 50, 51, 52] (by rfl) (by decide +kernel)
set_option maxRecDepth 20000 in
theorem gX5_take_X5_refuse : GoodIn wsX5_take (wsV RX5 27 RX5 yX5_refuse wsX5_refuse) := goodIn_app (goodIn_of _ (by decide +kernel)) ggX5_take_X5_refuse
set_option maxRecDepth 20000 in
theorem ggX5_take_X5_answer : GoodIn wsX5_take wsX5_answer := goodIn_r _ [25, 12, 13, 14, 15, 16, 1, 17, 18, 19, 6, 20, 8, 21, 26, 27, 28, 29, 30, 31, 32, 33, 34, 35, 36, 37, 38, 39, 40, 41, 42, 43, 44, 45, 46, 47, 48, 49, 2, 50, 51, 52, 53, 54, 55, 56, 57, 58, 59] (by rfl) (by decide +kernel)
set_option maxRecDepth 20000 in
theorem gX5_take_X5_answer : GoodIn wsX5_take (wsV RX5 32 RX5 yX5_answer wsX5_answer) := goodIn_app (goodIn_of _ (by decide +kernel)) ggX5_take_X5_answer
set_option maxRecDepth 20000 in
theorem ggX5_refuse_X0_add : GoodIn wsX5_refuse wsX0_add := goodIn_r _ [6, 7, 8, 10, 11] (by rfl) (by decide +kernel)
set_option maxRecDepth 20000 in
theorem gX5_refuse_X0_add : GoodIn wsX5_refuse (wsV RX5 36 RX0 yX0_add wsX0_add) := goodIn_app (goodIn_of _ (by decide +kernel)) ggX5_refuse_X0_add
set_option maxRecDepth 20000 in
theorem ggX5_answer_X5_refuse : GoodIn wsX5_answer wsX5_refuse := goodIn_r _ [5, 6, 7, 8, 9, 10, 11, 12, 13, 39, 40, 41] (by rfl) (by decide +kernel)
set_option maxRecDepth 20000 in
theorem gX5_answer_X5_refuse : GoodIn wsX5_answer (wsV RX5 27 RX5 yX5_refuse wsX5_refuse) := goodIn_app (goodIn_of _ (by decide +kernel)) ggX5_answer_X5_refuse
set_option maxRecDepth 20000 in
theorem ggX5_answer_X5_tellBits : GoodIn wsX5_answer wsX5_tellBits := goodIn_r _ [17, 6, 18, 19, 20, 21, 22, 23, 24, 25, 26, 27, 28, 29, 30, 31, 32, 33, 7, 8, 9, 10, 11, 12, 13, 39, 42, 43, 44, 45, 46, 47, 48, 40, 41] (by rfl) (by decide +kernel)
set_option maxRecDepth 20000 in
theorem gX5_answer_X5_tellBits : GoodIn wsX5_answer (wsV RX5 39 RX5 yX5_tellBits wsX5_tellBits) := goodIn_app (goodIn_of _ (by decide +kernel)) ggX5_answer_X5_tellBits
set_option maxRecDepth 20000 in
theorem ggX5_answer_X5_tellWords : GoodIn wsX5_answer wsX5_tellWords := goodIn_r _ [37, 6, 38, 7, 8, 9, 10, 11, 12, 13, 18, 19, 20, 21, 22, 23, 24, 25, 26, 27, 28, 29, 30, 31, 32, 33, 39, 40, 41, 42, 43, 44, 45, 46, 47, 48] (by rfl) (by decide +kernel)
set_option maxRecDepth 20000 in
theorem gX5_answer_X5_tellWords : GoodIn wsX5_answer (wsV RX5 43 RX5 yX5_tellWords wsX5_tellWords) := goodIn_app (goodIn_of _ (by decide +kernel)) ggX5_answer_X5_tellWords
set_option maxRecDepth 20000 in
theorem ggX5_tellBits_X2_valueOf : GoodIn wsX5_tellBits wsX2_valueOf := goodIn_r _ [6, 7, 8, 9, 5, 10, 11, 12, 13, 14, 15, 16, 17, 26, 27, 28, 29, 30, 31, 32] (by rfl) (by decide +kernel)
set_option maxRecDepth 20000 in
theorem gX5_tellBits_X2_valueOf : GoodIn wsX5_tellBits (wsV RX5 46 RX2 yX2_valueOf wsX2_valueOf) := goodIn_app (goodIn_of _ (by decide +kernel)) ggX5_tellBits_X2_valueOf
set_option maxRecDepth 20000 in
theorem ggX5_tellBits_X0_add : GoodIn wsX5_tellBits wsX0_add := goodIn_r _ [22, 23, 24, 33, 34] (by rfl) (by decide +kernel)
set_option maxRecDepth 20000 in
theorem gX5_tellBits_X0_add : GoodIn wsX5_tellBits (wsV RX5 36 RX0 yX0_add wsX0_add) := goodIn_app (goodIn_of _ (by decide +kernel)) ggX5_tellBits_X0_add
set_option maxRecDepth 20000 in
theorem ggX5_tellWords_X0_add : GoodIn wsX5_tellWords wsX0_add := goodIn_r _ [7, 8, 9, 27, 28] (by rfl) (by decide +kernel)
set_option maxRecDepth 20000 in
theorem gX5_tellWords_X0_add : GoodIn wsX5_tellWords (wsV RX5 36 RX0 yX0_add wsX0_add) := goodIn_app (goodIn_of _ (by decide +kernel)) ggX5_tellWords_X0_add
set_option maxRecDepth 20000 in
theorem ggX5_tellWords_X2_valueOf : GoodIn wsX5_tellWords wsX2_valueOf := goodIn_r _ [14, 15, 16, 17, 13, 18, 19, 20, 21, 22, 23, 24, 25, 29, 30, 31, 32, 33, 34, 35] (by rfl) (by decide +kernel)
set_option maxRecDepth 20000 in
theorem gX5_tellWords_X2_valueOf : GoodIn wsX5_tellWords (wsV RX5 46 RX2 yX2_valueOf wsX2_valueOf) := goodIn_app (goodIn_of _ (by decide +kernel)) ggX5_tellWords_X2_valueOf
set_option maxRecDepth 20000 in
theorem ggX6_readAll_X0_length : GoodIn wsX6_readAll wsX0_length := goodIn_r _ [5, 6, 105, 106] (by rfl) (by decide +kernel)
set_option maxRecDepth 20000 in
theorem gX6_readAll_X0_length : GoodIn wsX6_readAll (wsV RX6 9 RX0 yX0_length wsX0_length) := goodIn_app (goodIn_of _ (by decide +kernel)) ggX6_readAll_X0_length
set_option maxRecDepth 20000 in
theorem ggX6_readAll_X6_readHeader : GoodIn wsX6_readAll wsX6_readHeader := goodIn_r _ [11, 12, 13, 14, 4, 15, 6, 16, 17, 18, 10, 19, 1, 2, 3, 5, 20, 21, 22, 23, 24, 25, 26, 27, 28, 29, 30, 31, 32, 33, 34, 35, 36, 37, 38, 39, 40, 41, 42, 43, 44, 45, 46, 47, 48, 49, 50, 51, 52, 53, 54, 55, 56, 57, 58, 59, 60, 61, 62, 63, 64, 65, 66, 67, 68, 69, 70, 71, 72, 73, 74, 75, 76, 77, 78, 79, 80, 81, 82, 83, 84, 85, 86, 87, 88, 89, 90, 91, 92, 93, 94, 95, 96, 97, 98, 99, 100, 101, 102, 103, 104, 105, 106, 107, 108, 109, 110, 111, 112, 113, 114, 115, 116, 117] (by rfl) (by decide +kernel)
set_option maxRecDepth 20000 in
theorem gX6_readAll_X6_readHeader : GoodIn wsX6_readAll (wsV RX6 17 RX6 yX6_readHeader wsX6_readHeader) := goodIn_app (goodIn_of _ (by decide +kernel)) ggX6_readAll_X6_readHeader
set_option maxRecDepth 20000 in
theorem ggX6_readAll_X0_at : GoodIn wsX6_readAll wsX0_at := goodIn_r _ [15, 6, 16, 105, 106] (by rfl) (by decide +kernel)
set_option maxRecDepth 20000 in
theorem gX6_readAll_X0_at : GoodIn wsX6_readAll (wsV RX6 21 RX0 yX0_at wsX0_at) := goodIn_app (goodIn_of _ (by decide +kernel)) ggX6_readAll_X0_at
set_option maxRecDepth 20000 in
theorem ggX6_readAll_X6_bytesBehind : GoodIn wsX6_readAll wsX6_bytesBehind := goodIn_r _ [19] (by rfl) (by decide +kernel)
set_option maxRecDepth 20000 in
theorem gX6_readAll_X6_bytesBehind : GoodIn wsX6_readAll (va_wsS RX6 25 yX6_bytesBehind wsX6_bytesBehind) := goodIn_app (goodIn_of _ (by decide +kernel)) ggX6_readAll_X6_bytesBehind
set_option maxRecDepth 20000 in
theorem ggX6_readHeader_X0_at : GoodIn wsX6_readHeader wsX0_at := goodIn_r _ [5, 6, 7, 101, 102] (by rfl) (by decide +kernel)
set_option maxRecDepth 20000 in
theorem gX6_readHeader_X0_at : GoodIn wsX6_readHeader (wsV RX6 21 RX0 yX0_at wsX0_at) := goodIn_app (goodIn_of _ (by decide +kernel)) ggX6_readHeader_X0_at
set_option maxRecDepth 20000 in
theorem ggX6_readHeader_X6_bytesBehind : GoodIn wsX6_readHeader wsX6_bytesBehind := goodIn_r _ [11] (by rfl) (by decide +kernel)
set_option maxRecDepth 20000 in
theorem gX6_readHeader_X6_bytesBehind : GoodIn wsX6_readHeader (va_wsS RX6 25 yX6_bytesBehind wsX6_bytesBehind) := goodIn_app (goodIn_of _ (by decide +kernel)) ggX6_readHeader_X6_bytesBehind
set_option maxRecDepth 20000 in
theorem ggX6_readHeader_X0_length : GoodIn wsX6_readHeader wsX0_length := goodIn_r _ [15, 6, 101, 102] (by rfl) (by decide +kernel)
set_option maxRecDepth 20000 in
theorem gX6_readHeader_X0_length : GoodIn wsX6_readHeader (wsV RX6 9 RX0 yX0_length wsX0_length) := goodIn_app (goodIn_of _ (by decide +kernel)) ggX6_readHeader_X0_length
set_option maxRecDepth 20000 in
theorem ggX6_readHeader_X6_kindOfPoints : GoodIn wsX6_readHeader wsX6_kindOfPoints := goodIn_r _ [18] (by rfl) (by decide +kernel)
set_option maxRecDepth 20000 in
theorem gX6_readHeader_X6_kindOfPoints : GoodIn wsX6_readHeader (va_wsS RX6 28 yX6_kindOfPoints wsX6_kindOfPoints) := goodIn_app (goodIn_of _ (by decide +kernel)) ggX6_readHeader_X6_kindOfPoints
set_option maxRecDepth 20000 in
theorem ggX6_readHeader_X6_givePoints : GoodIn wsX6_readHeader wsX6_givePoints := goodIn_r _ [22, 23, 24, 10, 25, 26, 27, 28, 4, 29, 7, 6, 30, 31, 32, 33, 34, 35, 36, 37, 38, 39, 40, 41, 42, 43, 44, 45, 46, 47, 48, 49, 50, 51, 52, 53, 54, 101, 102, 103, 104, 105, 106, 107, 108, 109] (by rfl) (by decide +kernel)
set_option maxRecDepth 20000 in
theorem gX6_readHeader_X6_givePoints : GoodIn wsX6_readHeader (wsV RX6 32 RX6 yX6_givePoints wsX6_givePoints) := goodIn_app (goodIn_of _ (by decide +kernel)) ggX6_readHeader_X6_givePoints
set_option maxRecDepth 20000 in
theorem ggX6_readHeader_X6_lengthOfPoints : GoodIn wsX6_readHeader wsX6_lengthOfPoints := goodIn_r _ [25] (by rfl) (by decide +kernel)
set_option maxRecDepth 20000 in
theorem gX6_readHeader_X6_lengthOfPoints : GoodIn wsX6_readHeader (va_wsS RX6 36 yX6_lengthOfPoints wsX6_lengthOfPoints) := goodIn_app (goodIn_of _ (by decide +kernel)) ggX6_readHeader_X6_lengthOfPoints
set_option maxRecDepth 20000 in
theorem ggX6_readHeader_X0_room : GoodIn wsX6_readHeader wsX0_room := goodIn_r _ [29, 7, 6, 101, 102] (by rfl) (by decide +kernel)
set_option maxRecDepth 20000 in
theorem gX6_readHeader_X0_room : GoodIn wsX6_readHeader (wsV RX6 39 RX0 yX0_room wsX0_room) := goodIn_app (goodIn_of _ (by decide +kernel)) ggX6_readHeader_X0_room
set_option maxRecDepth 20000 in
theorem ggX6_readHeader_X6_kindOfEvents : GoodIn wsX6_readHeader wsX6_kindOfEvents := goodIn_r _ [57] (by rfl) (by decide +kernel)
set_option maxRecDepth 20000 in
theorem gX6_readHeader_X6_kindOfEvents : GoodIn wsX6_readHeader (va_wsS RX6 42 yX6_kindOfEvents wsX6_kindOfEvents) := goodIn_app (goodIn_of _ (by decide +kernel)) ggX6_readHeader_X6_kindOfEvents
set_option maxRecDepth 20000 in
theorem ggX6_readHeader_X6_giveEvents : GoodIn wsX6_readHeader wsX6_giveEvents := goodIn_r _ [61, 62, 63, 64, 65, 66, 67, 68, 69, 70, 71, 37, 72, 73, 74, 75, 76, 77, 78, 79, 80, 26, 27, 28, 4, 29, 7, 6, 81, 82, 83, 84, 85, 30, 31, 32, 33, 86, 87, 88, 89, 90, 91, 92, 93, 94, 95, 50, 51, 52, 53, 54, 96, 97, 98, 99, 100, 103, 104, 105, 106, 107, 108, 109, 110, 111, 112, 113, 101, 102] (by rfl) (by decide +kernel)
set_option maxRecDepth 20000 in
theorem gX6_readHeader_X6_giveEvents : GoodIn wsX6_readHeader (wsV RX6 45 RX6 yX6_giveEvents wsX6_giveEvents) := goodIn_app (goodIn_of _ (by decide +kernel)) ggX6_readHeader_X6_giveEvents
set_option maxRecDepth 20000 in
theorem ggX6_givePoints_X6_lengthOfPoints : GoodIn wsX6_givePoints wsX6_lengthOfPoints := goodIn_r _ [4] (by rfl) (by decide +kernel)
set_option maxRecDepth 20000 in
theorem gX6_givePoints_X6_lengthOfPoints : GoodIn wsX6_givePoints (va_wsS RX6 36 yX6_lengthOfPoints wsX6_lengthOfPoints) := goodIn_app (goodIn_of _ (by decide +kernel)) ggX6_givePoints_X6_lengthOfPoints
set_option maxRecDepth 20000 in
theorem ggX6_givePoints_X0_room : GoodIn wsX6_givePoints wsX0_room := goodIn_r _ [9, 10, 11, 37, 38] (by rfl) (by decide +kernel)
set_option maxRecDepth 20000 in
theorem gX6_givePoints_X0_room : GoodIn wsX6_givePoints (wsV RX6 39 RX0 yX0_room wsX0_room) := goodIn_app (goodIn_of _ (by decide +kernel)) ggX6_givePoints_X0_room
set_option maxRecDepth 20000 in
theorem ggX6_givePoints_X0_add : GoodIn wsX6_givePoints wsX0_add := goodIn_r _ [15, 11, 10, 37, 38] (by rfl) (by decide +kernel)
set_option maxRecDepth 20000 in
theorem gX6_givePoints_X0_add : GoodIn wsX6_givePoints (wsV RX6 49 RX0 yX0_add wsX0_add) := goodIn_app (goodIn_of _ (by decide +kernel)) ggX6_givePoints_X0_add
set_option maxRecDepth 20000 in
theorem ggX6_givePoints_X2_valueOf : GoodIn wsX6_givePoints wsX2_valueOf := goodIn_r _ [20, 21, 22, 23, 19, 24, 25, 26, 27, 28, 29, 30, 31, 39, 40, 41, 42, 43, 44, 45] (by rfl) (by decide +kernel)
set_option maxRecDepth 20000 in
theorem gX6_givePoints_X2_valueOf : GoodIn wsX6_givePoints (wsV RX6 53 RX2 yX2_valueOf wsX2_valueOf) := goodIn_app (goodIn_of _ (by decide +kernel)) ggX6_givePoints_X2_valueOf
set_option maxRecDepth 20000 in
theorem ggX6_givePoints_X0_addValue : GoodIn wsX6_givePoints wsX0_addValue := goodIn_r _ [35, 36, 13, 14, 8, 15, 11, 10, 37, 38] (by rfl) (by decide +kernel)
set_option maxRecDepth 20000 in
theorem gX6_givePoints_X0_addValue : GoodIn wsX6_givePoints (wsV RX6 58 RX0 yX0_addValue wsX0_addValue) := goodIn_app (goodIn_of _ (by decide +kernel)) ggX6_givePoints_X0_addValue
set_option maxRecDepth 20000 in
theorem ggX6_giveEvents_X2_eventsOf : GoodIn wsX6_giveEvents wsX2_eventsOf := goodIn_r _ [12, 13, 14, 57, 58, 59, 60, 61, 62, 63] (by rfl) (by decide +kernel)
set_option maxRecDepth 20000 in
theorem gX6_giveEvents_X2_eventsOf : GoodIn wsX6_giveEvents (wsV RX6 62 RX2 yX2_eventsOf wsX2_eventsOf) := goodIn_app (goodIn_of _ (by decide +kernel)) ggX6_giveEvents_X2_eventsOf
set_option maxRecDepth 20000 in
theorem ggX6_giveEvents_X1_answered : GoodIn wsX6_giveEvents wsX1_answered := goodIn_r _ [19, 20, 64, 65, 66, 67] (by rfl) (by decide +kernel)
set_option maxRecDepth 20000 in
theorem gX6_giveEvents_X1_answered : GoodIn wsX6_giveEvents (wsV RX6 66 RX1 yX1_answered wsX1_answered) := goodIn_app (goodIn_of _ (by decide +kernel)) ggX6_giveEvents_X1_answered
set_option maxRecDepth 20000 in
theorem ggX6_giveEvents_X0_room : GoodIn wsX6_giveEvents wsX0_room := goodIn_r _ [25, 26, 27, 68, 69] (by rfl) (by decide +kernel)
set_option maxRecDepth 20000 in
theorem gX6_giveEvents_X0_room : GoodIn wsX6_giveEvents (wsV RX6 39 RX0 yX0_room wsX0_room) := goodIn_app (goodIn_of _ (by decide +kernel)) ggX6_giveEvents_X0_room
set_option maxRecDepth 20000 in
theorem ggX6_giveEvents_X1_size : GoodIn wsX6_giveEvents wsX1_size := goodIn_r _ [31, 32, 64, 65, 66, 67] (by rfl) (by decide +kernel)
set_option maxRecDepth 20000 in
theorem gX6_giveEvents_X1_size : GoodIn wsX6_giveEvents (wsV RX6 76 RX1 yX1_size wsX1_size) := goodIn_app (goodIn_of _ (by decide +kernel)) ggX6_giveEvents_X1_size
set_option maxRecDepth 20000 in
theorem ggX6_giveEvents_X0_add : GoodIn wsX6_giveEvents wsX0_add := goodIn_r _ [36, 27, 26, 68, 69] (by rfl) (by decide +kernel)
set_option maxRecDepth 20000 in
theorem gX6_giveEvents_X0_add : GoodIn wsX6_giveEvents (wsV RX6 49 RX0 yX0_add wsX0_add) := goodIn_app (goodIn_of _ (by decide +kernel)) ggX6_giveEvents_X0_add
set_option maxRecDepth 20000 in
theorem ggX6_giveEvents_X1_pointAt : GoodIn wsX6_giveEvents wsX1_pointAt := goodIn_r _ [40, 32, 41, 64, 65, 66, 67] (by rfl) (by decide +kernel)
set_option maxRecDepth 20000 in
theorem gX6_giveEvents_X1_pointAt : GoodIn wsX6_giveEvents (wsV RX6 82 RX1 yX1_pointAt wsX1_pointAt) := goodIn_app (goodIn_of _ (by decide +kernel)) ggX6_giveEvents_X1_pointAt
set_option maxRecDepth 20000 in
theorem ggX6_giveEvents_X1_valueAt : GoodIn wsX6_giveEvents wsX1_valueAt := goodIn_r _ [45, 32, 46, 64, 65, 66, 67] (by rfl) (by decide +kernel)
set_option maxRecDepth 20000 in
theorem gX6_giveEvents_X1_valueAt : GoodIn wsX6_giveEvents (wsV RX6 85 RX1 yX1_valueAt wsX1_valueAt) := goodIn_app (goodIn_of _ (by decide +kernel)) ggX6_giveEvents_X1_valueAt
set_option maxRecDepth 20000 in
theorem ggX6_giveEvents_X0_addValue : GoodIn wsX6_giveEvents wsX0_addValue := goodIn_r _ [50, 51, 34, 35, 24, 36, 27, 26, 68, 69] (by rfl) (by decide +kernel)
set_option maxRecDepth 20000 in
theorem gX6_giveEvents_X0_addValue : GoodIn wsX6_giveEvents (wsV RX6 58 RX0 yX0_addValue wsX0_addValue) := goodIn_app (goodIn_of _ (by decide +kernel)) ggX6_giveEvents_X0_addValue
set_option maxRecDepth 20000 in
theorem ggX6_giveEvents_X1_markAnswered : GoodIn wsX6_giveEvents wsX1_markAnswered := goodIn_r _ [55, 20, 32, 56, 6, 3, 7, 64, 65, 66, 67] (by rfl) (by decide +kernel)
set_option maxRecDepth 20000 in
theorem gX6_giveEvents_X1_markAnswered : GoodIn wsX6_giveEvents (wsV RX6 88 RX1 yX1_markAnswered wsX1_markAnswered) := goodIn_app (goodIn_of _ (by decide +kernel)) ggX6_giveEvents_X1_markAnswered
set_option maxRecDepth 20000 in
theorem ggX7_init_X0_init : GoodIn wsX7_init wsX0_init := goodIn_r _ [20, 21, 2, 3, 22, 23, 35, 36] (by rfl) (by decide +kernel)
set_option maxRecDepth 20000 in
theorem gX7_init_X0_init : GoodIn wsX7_init (wsX0_init) := ggX7_init_X0_init
set_option maxRecDepth 20000 in
theorem ggX7_init_X6_init : GoodIn wsX7_init wsX6_init := goodIn_r _ [25, 26, 2, 3] (by rfl) (by decide +kernel)
set_option maxRecDepth 20000 in
theorem gX7_init_X6_init_n22 : GoodIn wsX7_init (wsX6_init) := ggX7_init_X6_init
set_option maxRecDepth 20000 in
theorem ggX7_init_X8_init : GoodIn wsX7_init wsX8_init := goodIn_r _ [28, 29, 2, 3, 30, 31, 32, 33, 34, 42, 43, 44, 45, 46] (by rfl) (by decide +kernel)
set_option maxRecDepth 20000 in
theorem gX7_init_X8_init_n29 : GoodIn wsX7_init (wsX8_init) := ggX7_init_X8_init
set_option maxRecDepth 20000 in
theorem ggX7_letPass_X8_letPass : GoodIn wsX7_letPass wsX8_letPass := goodIn_r _ [6, 7, 8, 9, 10, 11, 17, 18, 19, 20, 21] (by rfl) (by decide +kernel)
set_option maxRecDepth 20000 in
theorem gX7_letPass_X8_letPass : GoodIn wsX7_letPass (wsV RX7 42 RX8 yX8_letPass wsX8_letPass) := goodIn_app (goodIn_of _ (by decide +kernel)) ggX7_letPass_X8_letPass
set_option maxRecDepth 20000 in
theorem ggX7_handle_X0_at : GoodIn wsX7_handle wsX0_at := goodIn_r _ [8, 9, 10, 218, 219] (by rfl) (by decide +kernel)
set_option maxRecDepth 20000 in
theorem gX7_handle_X0_at : GoodIn wsX7_handle (wsV RX7 45 RX0 yX0_at wsX0_at) := goodIn_app (goodIn_of _ (by decide +kernel)) ggX7_handle_X0_at
set_option maxRecDepth 20000 in
theorem ggX7_handle_X0_length : GoodIn wsX7_handle wsX0_length := goodIn_r _ [14, 9, 218, 219] (by rfl) (by decide +kernel)
set_option maxRecDepth 20000 in
theorem gX7_handle_X0_length : GoodIn wsX7_handle (wsV RX7 49 RX0 yX0_length wsX0_length) := goodIn_app (goodIn_of _ (by decide +kernel)) ggX7_handle_X0_length
set_option maxRecDepth 20000 in
theorem ggX7_handle_X7_confirm : GoodIn wsX7_handle wsX7_confirm := goodIn_r _ [19, 20, 21, 22, 23, 24, 25, 26, 27, 28, 29, 30, 31, 32, 33, 34, 35, 36, 37, 38, 39, 40, 41, 42, 43, 44, 45, 46, 47, 48, 49, 50, 51, 52, 53, 213, 214, 215, 216, 217, 220, 221, 222, 223, 224, 225, 226, 227, 228, 229, 230] (by rfl) (by decide +kernel)
set_option maxRecDepth 20000 in
theorem gX7_handle_X7_confirm : GoodIn wsX7_handle (wsV RX7 53 RX7 yX7_confirm wsX7_confirm) := goodIn_app (goodIn_of _ (by decide +kernel)) ggX7_handle_X7_confirm
set_option maxRecDepth 20000 in
theorem ggX7_handle_X2_forgetAnswered : GoodIn wsX7_handle wsX2_forgetAnswered := goodIn_r _ [57, 27, 28, 58, 59, 60, 33, 61, 35, 220, 221, 222, 223, 224, 225, 226, 227, 228, 229, 230] (by rfl) (by decide +kernel)
set_option maxRecDepth 20000 in
theorem gX7_handle_X2_forgetAnswered : GoodIn wsX7_handle (wsV RX7 57 RX2 yX2_forgetAnswered wsX2_forgetAnswered) := goodIn_app (goodIn_of _ (by decide +kernel)) ggX7_handle_X2_forgetAnswered
set_option maxRecDepth 20000 in
theorem ggX7_handle_X8_end : GoodIn wsX7_handle wsX8_end := goodIn_r _ [66, 67, 231, 232, 233, 234, 235] (by rfl) (by decide +kernel)
set_option maxRecDepth 20000 in
theorem gX7_handle_X8_end : GoodIn wsX7_handle (wsV RX7 62 RX8 yX8_end wsX8_end) := goodIn_app (goodIn_of _ (by decide +kernel)) ggX7_handle_X8_end
set_option maxRecDepth 20000 in
theorem ggX7_handle_X7_beginAnswer : GoodIn wsX7_handle wsX7_beginAnswer := goodIn_r _ [71, 3, 72, 73, 74, 7, 75, 9, 76, 77, 78, 79, 10, 213, 214, 215, 216, 217, 218, 219] (by rfl) (by decide +kernel)
set_option maxRecDepth 20000 in
theorem gX7_handle_X7_beginAnswer : GoodIn wsX7_handle (wsV RX7 65 RX7 yX7_beginAnswer wsX7_beginAnswer) := goodIn_app (goodIn_of _ (by decide +kernel)) ggX7_handle_X7_beginAnswer
set_option maxRecDepth 20000 in
theorem ggX7_handle_X6_readAll : GoodIn wsX7_handle wsX6_readAll := goodIn_r _ [84, 85, 12, 13, 7, 14, 9, 86, 87, 88, 83, 89, 90, 5, 6, 8, 10, 91, 92, 93, 94, 95, 96, 97, 98, 99, 100, 101, 102, 103, 104, 105, 106, 107, 108, 77, 78, 79, 109, 110, 111, 25, 112, 113, 114, 115, 116, 117, 118, 119, 120, 121, 122, 123, 124, 125, 126, 127, 128, 129, 130, 131, 132, 133, 134, 135, 136, 41, 42, 43, 137, 46, 47, 138, 139, 140, 141, 27, 28, 142, 143, 144, 33, 145, 35, 146, 147, 148, 149, 44, 150, 151, 152, 153, 48, 154, 155, 156, 157, 53, 158, 159, 160, 161, 45, 218, 219, 220, 221, 222, 223, 224, 225, 226, 227, 228, 229, 230] (by rfl) (by decide +kernel)
set_option maxRecDepth 20000 in
theorem gX7_handle_X6_readAll : GoodIn wsX7_handle (wsV RX7 68 RX6 yX6_readAll wsX6_readAll) := goodIn_app (goodIn_of _ (by decide +kernel)) ggX7_handle_X6_readAll
set_option maxRecDepth 20000 in
theorem ggX7_handle_X7_write : GoodIn wsX7_handle wsX7_write := goodIn_r _ [165, 11, 12, 13, 7, 14, 9, 4, 5, 6, 8, 10, 166, 167, 168, 25, 169, 170, 218, 219, 220, 221, 222, 223, 224, 225, 226] (by rfl) (by decide +kernel)
set_option maxRecDepth 20000 in
theorem gX7_handle_X7_write : GoodIn wsX7_handle (wsV RX7 72 RX7 yX7_write wsX7_write) := goodIn_app (goodIn_of _ (by decide +kernel)) ggX7_handle_X7_write
set_option maxRecDepth 20000 in
theorem ggX7_handle_X7_command : GoodIn wsX7_handle wsX7_command := goodIn_r _ [174, 1, 3, 11, 12, 13, 7, 14, 9, 4, 5, 6, 8, 10, 62, 63, 64, 65, 66, 67, 175, 176, 177, 178, 179, 180, 181, 182, 183, 184, 185, 186, 187, 188, 189, 25, 190, 123, 113, 114, 115, 116, 76, 77, 78, 79, 213, 214, 215, 216, 217, 218, 219, 231, 232, 233, 234, 235, 220, 221, 222, 223, 224, 225, 226] (by rfl) (by decide +kernel)
set_option maxRecDepth 20000 in
theorem gX7_handle_X7_command : GoodIn wsX7_handle (wsV RX7 76 RX7 yX7_command wsX7_command) := goodIn_app (goodIn_of _ (by decide +kernel)) ggX7_handle_X7_command
set_option maxRecDepth 20000 in
theorem ggX7_handle_X7_completeAnswer : GoodIn wsX7_handle wsX7_completeAnswer := goodIn_r _ [194, 20, 21, 3, 195, 196, 197, 25, 198, 27, 28, 199, 143, 144, 33, 145, 35, 200, 201, 202, 7, 203, 9, 10, 204, 205, 206, 207, 170, 208, 147, 148, 149, 44, 209, 210, 211, 212, 29, 213, 214, 215, 216, 217, 220, 221, 222, 223, 224, 225, 226, 227, 228, 229, 230, 218, 219] (by rfl) (by decide +kernel)
set_option maxRecDepth 20000 in
theorem gX7_handle_X7_completeAnswer : GoodIn wsX7_handle (wsV RX7 80 RX7 yX7_completeAnswer wsX7_completeAnswer) := goodIn_app (goodIn_of _ (by decide +kernel)) ggX7_handle_X7_completeAnswer
set_option maxRecDepth 20000 in
theorem ggX7_confirm_X2_confirmAnswered : GoodIn wsX7_confirm wsX2_confirmAnswered := goodIn_r _ [7, 8, 9, 10, 11, 12, 13, 14, 15, 16, 17, 18, 19, 20, 21, 22, 23, 24, 25, 26, 27, 28, 29, 30, 31, 32, 33, 34, 40, 41, 42, 43, 44, 45, 46, 47, 48, 49, 50] (by rfl) (by decide +kernel)
set_option maxRecDepth 20000 in
theorem gX7_confirm_X2_confirmAnswered : GoodIn wsX7_confirm (wsV RX7 84 RX2 yX2_confirmAnswered wsX2_confirmAnswered) := goodIn_app (goodIn_of _ (by decide +kernel)) ggX7_confirm_X2_confirmAnswered
set_option maxRecDepth 20000 in
theorem ggX7_beginAnswer_X0_clear : GoodIn wsX7_beginAnswer wsX0_clear := goodIn_r _ [6, 7, 18, 19] (by rfl) (by decide +kernel)
set_option maxRecDepth 20000 in
theorem gX7_beginAnswer_X0_clear : GoodIn wsX7_beginAnswer (wsV RX7 87 RX0 yX0_clear wsX0_clear) := goodIn_app (goodIn_of _ (by decide +kernel)) ggX7_beginAnswer_X0_clear
set_option maxRecDepth 20000 in
theorem ggX7_beginAnswer_X0_add : GoodIn wsX7_beginAnswer wsX0_add := goodIn_r _ [11, 7, 12, 18, 19] (by rfl) (by decide +kernel)
set_option maxRecDepth 20000 in
theorem gX7_beginAnswer_X0_add : GoodIn wsX7_beginAnswer (wsV RX7 90 RX0 yX0_add wsX0_add) := goodIn_app (goodIn_of _ (by decide +kernel)) ggX7_beginAnswer_X0_add
set_option maxRecDepth 20000 in
theorem ggX7_completeAnswer_X2_anyAnswered : GoodIn wsX7_completeAnswer wsX2_anyAnswered := goodIn_r _ [8, 9, 10, 11, 12, 13, 14, 15, 16, 44, 45, 46, 47, 48, 49, 50, 51, 52, 53, 54] (by rfl) (by decide +kernel)
set_option maxRecDepth 20000 in
theorem gX7_completeAnswer_X2_anyAnswered : GoodIn wsX7_completeAnswer (wsV RX7 93 RX2 yX2_anyAnswered wsX2_anyAnswered) := goodIn_app (goodIn_of _ (by decide +kernel)) ggX7_completeAnswer_X2_anyAnswered
set_option maxRecDepth 20000 in
theorem ggX7_completeAnswer_X0_replace : GoodIn wsX7_completeAnswer wsX0_replace := goodIn_r _ [21, 22, 23, 55, 56] (by rfl) (by decide +kernel)
set_option maxRecDepth 20000 in
theorem gX7_completeAnswer_X0_replace : GoodIn wsX7_completeAnswer (wsV RX7 97 RX0 yX0_replace wsX0_replace) := goodIn_app (goodIn_of _ (by decide +kernel)) ggX7_completeAnswer_X0_replace
set_option maxRecDepth 20000 in
theorem ggX7_completeAnswer_X2_firstSigns : GoodIn wsX7_completeAnswer wsX2_firstSigns := goodIn_r _ [27, 9, 10, 28, 29, 30, 31, 14, 32, 33, 44, 45, 46, 47, 48, 49, 50, 51, 52, 53, 54] (by rfl) (by decide +kernel)
set_option maxRecDepth 20000 in
theorem gX7_completeAnswer_X2_firstSigns : GoodIn wsX7_completeAnswer (wsV RX7 101 RX2 yX2_firstSigns wsX2_firstSigns) := goodIn_app (goodIn_of _ (by decide +kernel)) ggX7_completeAnswer_X2_firstSigns
set_option maxRecDepth 20000 in
theorem ggX7_completeAnswer_X2_overflowSign : GoodIn wsX7_completeAnswer wsX2_overflowSign := goodIn_r _ [37, 38, 44, 45, 46, 47, 48, 49, 50] (by rfl) (by decide +kernel)
set_option maxRecDepth 20000 in
theorem gX7_completeAnswer_X2_overflowSign : GoodIn wsX7_completeAnswer (wsV RX7 104 RX2 yX2_overflowSign wsX2_overflowSign) := goodIn_app (goodIn_of _ (by decide +kernel)) ggX7_completeAnswer_X2_overflowSign
set_option maxRecDepth 20000 in
theorem ggX7_write_X0_length : GoodIn wsX7_write wsX0_length := goodIn_r _ [5, 6, 18, 19] (by rfl) (by decide +kernel)
set_option maxRecDepth 20000 in
theorem gX7_write_X0_length : GoodIn wsX7_write (wsV RX7 49 RX0 yX0_length wsX0_length) := goodIn_app (goodIn_of _ (by decide +kernel)) ggX7_write_X0_length
set_option maxRecDepth 20000 in
theorem ggX7_write_X0_at : GoodIn wsX7_write wsX0_at := goodIn_r _ [10, 6, 11, 18, 19] (by rfl) (by decide +kernel)
set_option maxRecDepth 20000 in
theorem gX7_write_X0_at : GoodIn wsX7_write (wsV RX7 45 RX0 yX0_at wsX0_at) := goodIn_app (goodIn_of _ (by decide +kernel)) ggX7_write_X0_at
set_option maxRecDepth 20000 in
theorem ggX7_write_X2_endRestart : GoodIn wsX7_write wsX2_endRestart := goodIn_r _ [16, 17, 20, 21, 22, 23, 24, 25, 26] (by rfl) (by decide +kernel)
set_option maxRecDepth 20000 in
theorem gX7_write_X2_endRestart : GoodIn wsX7_write (wsV RX7 107 RX2 yX2_endRestart wsX2_endRestart) := goodIn_app (goodIn_of _ (by decide +kernel)) ggX7_write_X2_endRestart
set_option maxRecDepth 20000 in
theorem ggX7_command_X0_length : GoodIn wsX7_command wsX0_length := goodIn_r _ [7, 8, 51, 52] (by rfl) (by decide +kernel)
set_option maxRecDepth 20000 in
theorem gX7_command_X0_length : GoodIn wsX7_command (wsV RX7 49 RX0 yX0_length wsX0_length) := goodIn_app (goodIn_of _ (by decide +kernel)) ggX7_command_X0_length
set_option maxRecDepth 20000 in
theorem ggX7_command_X0_at : GoodIn wsX7_command wsX0_at := goodIn_r _ [12, 8, 13, 51, 52] (by rfl) (by decide +kernel)
set_option maxRecDepth 20000 in
theorem gX7_command_X0_at : GoodIn wsX7_command (wsV RX7 45 RX0 yX0_at wsX0_at) := goodIn_app (goodIn_of _ (by decide +kernel)) ggX7_command_X0_at
set_option maxRecDepth 20000 in
theorem ggX7_command_X8_end : GoodIn wsX7_command wsX8_end := goodIn_r _ [18, 19, 53, 54, 55, 56, 57] (by rfl) (by decide +kernel)
set_option maxRecDepth 20000 in
theorem gX7_command_X8_end : GoodIn wsX7_command (wsV RX7 62 RX8 yX8_end wsX8_end) := goodIn_app (goodIn_of _ (by decide +kernel)) ggX7_command_X8_end
set_option maxRecDepth 20000 in
theorem ggX7_command_X8_statusOf : GoodIn wsX7_command wsX8_statusOf := goodIn_r _ [23, 19, 24, 25, 26, 27, 53, 54, 55, 56, 57] (by rfl) (by decide +kernel)
set_option maxRecDepth 20000 in
theorem gX7_command_X8_statusOf : GoodIn wsX7_command (wsV RX7 110 RX8 yX8_statusOf wsX8_statusOf) := goodIn_app (goodIn_of _ (by decide +kernel)) ggX7_command_X8_statusOf
set_option maxRecDepth 20000 in
theorem ggX7_command_X8_begin : GoodIn wsX7_command wsX8_begin := goodIn_r _ [31, 19, 26, 24, 25, 27, 53, 54, 55, 56, 57] (by rfl) (by decide +kernel)
set_option maxRecDepth 20000 in
theorem gX7_command_X8_begin : GoodIn wsX7_command (wsV RX7 114 RX8 yX8_begin wsX8_begin) := goodIn_app (goodIn_of _ (by decide +kernel)) ggX7_command_X8_begin
set_option maxRecDepth 20000 in
theorem ggX7_command_X2_setOutput : GoodIn wsX7_command wsX2_setOutput := goodIn_r _ [36, 37, 38, 39, 40, 35, 41, 58, 59, 60, 61, 62, 63, 64] (by rfl) (by decide +kernel)
set_option maxRecDepth 20000 in
theorem gX7_command_X2_setOutput : GoodIn wsX7_command (wsV RX7 118 RX2 yX2_setOutput wsX2_setOutput) := goodIn_app (goodIn_of _ (by decide +kernel)) ggX7_command_X2_setOutput
set_option maxRecDepth 20000 in
theorem ggX7_command_X0_add : GoodIn wsX7_command wsX0_add := goodIn_r _ [45, 8, 13, 51, 52] (by rfl) (by decide +kernel)
set_option maxRecDepth 20000 in
theorem gX7_command_X0_add : GoodIn wsX7_command (wsV RX7 90 RX0 yX0_add wsX0_add) := goodIn_app (goodIn_of _ (by decide +kernel)) ggX7_command_X0_add
set_option maxRecDepth 20000 in
theorem ggX9_init_X10_init : GoodIn wsX9_init wsX10_init := goodIn_r _ [14, 15, 2, 3] (by rfl) (by decide +kernel)
set_option maxRecDepth 20000 in
theorem gX9_init_X10_init_n17 : GoodIn wsX9_init (wsX10_init) := ggX9_init_X10_init
set_option maxRecDepth 20000 in
theorem ggX9_latest_X9_keeps : GoodIn wsX9_latest wsX9_keeps := goodIn_r _ [7, 8, 9, 10, 11, 12, 13] (by rfl) (by decide +kernel)
set_option maxRecDepth 20000 in
theorem gX9_latest_X9_keeps : GoodIn wsX9_latest (wsV RX9 32 RX9 yX9_keeps wsX9_keeps) := goodIn_app (goodIn_of _ (by decide +kernel)) ggX9_latest_X9_keeps
set_option maxRecDepth 20000 in
theorem ggX9_sendAnswer_X0_length : GoodIn wsX9_sendAnswer wsX0_length := goodIn_r _ [9, 10, 58, 59] (by rfl) (by decide +kernel)
set_option maxRecDepth 20000 in
theorem gX9_sendAnswer_X0_length : GoodIn wsX9_sendAnswer (wsV RX9 36 RX0 yX0_length wsX0_length) := goodIn_app (goodIn_of _ (by decide +kernel)) ggX9_sendAnswer_X0_length
set_option maxRecDepth 20000 in
theorem ggX9_sendAnswer_X9_sendHead : GoodIn wsX9_sendAnswer wsX9_sendHead := goodIn_r _ [15, 16, 17, 18, 19, 20, 21, 22, 23, 24, 25, 14, 26, 27, 28, 29, 30, 31, 32, 33, 34, 35, 36, 37, 38, 39, 40, 41, 42, 43, 44, 45, 46, 47, 60, 61, 62, 63, 64, 65] (by rfl) (by decide +kernel)
set_option maxRecDepth 20000 in
theorem gX9_sendAnswer_X9_sendHead : GoodIn wsX9_sendAnswer (wsV RX9 48 RX9 yX9_sendHead wsX9_sendHead) := goodIn_app (goodIn_of _ (by decide +kernel)) ggX9_sendAnswer_X9_sendHead
set_option maxRecDepth 20000 in
theorem ggX9_sendAnswer_X9_sendPart : GoodIn wsX9_sendAnswer wsX9_sendPart := goodIn_r _ [51, 52, 5, 6, 7, 8, 9, 10, 23, 24, 25, 14, 26, 16, 27, 28, 29, 20, 30, 22, 31, 32, 33, 34, 35, 36, 37, 38, 39, 40, 41, 42, 43, 44, 45, 46, 47, 17, 18, 19, 21, 53, 54, 55, 56, 57, 60, 61, 62, 63, 64, 58, 59, 65] (by rfl) (by decide +kernel)
set_option maxRecDepth 20000 in
theorem gX9_sendAnswer_X9_sendPart : GoodIn wsX9_sendAnswer (wsV RX9 52 RX9 yX9_sendPart wsX9_sendPart) := goodIn_app (goodIn_of _ (by decide +kernel)) ggX9_sendAnswer_X9_sendPart
set_option maxRecDepth 20000 in
theorem ggX9_sendHead_X10_clear : GoodIn wsX9_sendHead wsX10_clear := goodIn_r _ [6, 7, 39] (by rfl) (by decide +kernel)
set_option maxRecDepth 20000 in
theorem gX9_sendHead_X10_clear : GoodIn wsX9_sendHead (wsV RX9 56 RX10 yX10_clear wsX10_clear) := goodIn_app (goodIn_of _ (by decide +kernel)) ggX9_sendHead_X10_clear
set_option maxRecDepth 20000 in
theorem ggX9_sendHead_X9_sendSummed : GoodIn wsX9_sendHead wsX9_sendSummed := goodIn_r _ [12, 1, 13, 14, 15, 5, 16, 7, 17, 18, 19, 20, 11, 21, 22, 23, 24, 34, 35, 36, 37, 38, 39] (by rfl) (by decide +kernel)
set_option maxRecDepth 20000 in
theorem gX9_sendHead_X9_sendSummed : GoodIn wsX9_sendHead (wsV RX9 59 RX9 yX9_sendSummed wsX9_sendSummed) := goodIn_app (goodIn_of _ (by decide +kernel)) ggX9_sendHead_X9_sendSummed
set_option maxRecDepth 20000 in
theorem ggX9_sendHead_X9_sendSum : GoodIn wsX9_sendHead wsX9_sendSum := goodIn_r _ [28, 1, 29, 30, 31, 5, 32, 33, 7, 18, 19, 20, 11, 21, 22, 23, 24, 2, 3, 4, 6, 34, 35, 36, 37, 38, 39] (by rfl) (by decide +kernel)
set_option maxRecDepth 20000 in
theorem gX9_sendHead_X9_sendSum : GoodIn wsX9_sendHead (wsV RX9 63 RX9 yX9_sendSum wsX9_sendSum) := goodIn_app (goodIn_of _ (by decide +kernel)) ggX9_sendHead_X9_sendSum
set_option maxRecDepth 20000 in
theorem ggX9_sendPart_X0_length : GoodIn wsX9_sendPart wsX0_length := goodIn_r _ [6, 7, 51, 52] (by rfl) (by decide +kernel)
set_option maxRecDepth 20000 in
theorem gX9_sendPart_X0_length : GoodIn wsX9_sendPart (wsV RX9 36 RX0 yX0_length wsX0_length) := goodIn_app (goodIn_of _ (by decide +kernel)) ggX9_sendPart_X0_length
set_option maxRecDepth 20000 in
theorem ggX9_sendPart_X9_sendSummed : GoodIn wsX9_sendPart wsX9_sendSummed := goodIn_r _ [12, 13, 14, 15, 16, 17, 18, 19, 20, 21, 22, 23, 11, 24, 25, 26, 27, 46, 47, 48, 49, 50, 53] (by rfl) (by decide +kernel)
set_option maxRecDepth 20000 in
theorem gX9_sendPart_X9_sendSummed : GoodIn wsX9_sendPart (wsV RX9 59 RX9 yX9_sendSummed wsX9_sendSummed) := goodIn_app (goodIn_of _ (by decide +kernel)) ggX9_sendPart_X9_sendSummed
set_option maxRecDepth 20000 in
theorem ggX9_sendPart_X9_sendSum : GoodIn wsX9_sendPart wsX9_sendSum := goodIn_r _ [31, 13, 32, 33, 34, 17, 35, 36, 19, 21, 22, 23, 11, 24, 25, 26, 27, 37, 38, 39, 40, 46, 47, 48, 49, 50, 53] (by rfl) (by decide +kernel)
set_option maxRecDepth 20000 in
theorem gX9_sendPart_X9_sendSum : GoodIn wsX9_sendPart (wsV RX9 63 RX9 yX9_sendSum wsX9_sendSum) := goodIn_app (goodIn_of _ (by decide +kernel)) ggX9_sendPart_X9_sendSum
set_option maxRecDepth 20000 in
theorem ggX9_sendPart_X0_at : GoodIn wsX9_sendPart wsX0_at := goodIn_r _ [44, 7, 45, 51, 52] (by rfl) (by decide +kernel)
set_option maxRecDepth 20000 in
theorem gX9_sendPart_X0_at : GoodIn wsX9_sendPart (wsV RX9 66 RX0 yX0_at wsX0_at) := goodIn_app (goodIn_of _ (by decide +kernel)) ggX9_sendPart_X0_at
set_option maxRecDepth 20000 in
theorem ggX9_sendSummed_X10_add : GoodIn wsX9_sendSummed wsX10_add := goodIn_r _ [6, 7, 8, 22] (by rfl) (by decide +kernel)
set_option maxRecDepth 20000 in
theorem gX9_sendSummed_X10_add : GoodIn wsX9_sendSummed (wsV RX9 70 RX10 yX10_add wsX10_add) := goodIn_app (goodIn_of _ (by decide +kernel)) ggX9_sendSummed_X10_add
set_option maxRecDepth 20000 in
theorem ggX9_sendSummed_X9_send : GoodIn wsX9_sendSummed wsX9_send := goodIn_r _ [13, 14, 15, 16, 17, 18, 19, 20, 21] (by rfl) (by decide +kernel)
set_option maxRecDepth 20000 in
theorem gX9_sendSummed_X9_send : GoodIn wsX9_sendSummed (wsV RX9 73 RX9 yX9_send wsX9_send) := goodIn_app (goodIn_of _ (by decide +kernel)) ggX9_sendSummed_X9_send
set_option maxRecDepth 20000 in
theorem ggX9_sendSum_X10_value : GoodIn wsX9_sendSum wsX10_value := goodIn_r _ [6, 7, 8, 26] (by rfl) (by decide +kernel)
set_option maxRecDepth 20000 in
theorem gX9_sendSum_X10_value : GoodIn wsX9_sendSum (wsV RX9 76 RX10 yX10_value wsX10_value) := goodIn_app (goodIn_of _ (by decide +kernel)) ggX9_sendSum_X10_value
set_option maxRecDepth 20000 in
theorem ggX9_sendSum_X9_send : GoodIn wsX9_sendSum wsX9_send := goodIn_r _ [13, 14, 15, 16, 21, 22, 23, 24, 25] (by rfl) (by decide +kernel)
set_option maxRecDepth 20000 in
theorem gX9_sendSum_X9_send : GoodIn wsX9_sendSum (wsV RX9 73 RX9 yX9_send wsX9_send) := goodIn_app (goodIn_of _ (by decide +kernel)) ggX9_sendSum_X9_send
set_option maxRecDepth 20000 in
theorem ggX9_sendSum_X10_clear : GoodIn wsX9_sendSum wsX10_clear := goodIn_r _ [20, 8, 26] (by rfl) (by decide +kernel)
set_option maxRecDepth 20000 in
theorem gX9_sendSum_X10_clear : GoodIn wsX9_sendSum (wsV RX9 56 RX10 yX10_clear wsX10_clear) := goodIn_app (goodIn_of _ (by decide +kernel)) ggX9_sendSum_X10_clear
