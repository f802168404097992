/-! OWN ROWS, written by wip/gen (walk.py, spec_n.py) -/
set_option maxHeartbeats 4000000 in
set_option maxRecDepth 100000 in
theorem c_X12_write (l : Launch) (D : va_G) (cyI cyZ : ClassId) (h0 : Nat) (m_thrown m_values m_eventPoint m_eventValue m_events m_told m_over m_lost m_outputs m_time m_heard m_heardSize m_begun m_master m_part m_selected m_wanted m_by m_since m_confirm m_answer m_answerSize m_sent m_sentCount m_sum m_number m_reply m_replySize : Value) (fr0 : Nat) (rq : List Nat) (rqf : Nat → Int32) (rst : Bool) (okq : okB 60 rq rqf) : Cv l D yX12_write wsX12_write ({ frames := 0, cells := 0, slots := 0, locals := 0 } : Room) [.ref h0] [(h0, .inr (12, [m_thrown, m_values, m_eventPoint, m_eventValue, m_events, m_told, m_over, m_lost, .int (bI (rst = true)), m_outputs, m_time, m_heard, m_heardSize, m_begun, m_master, m_part, .ref fr0, .int (nI rq.length), m_selected, m_wanted, m_by, m_since, m_confirm, m_answer, m_answerSize, .int (nI 0), m_sent, m_sentCount, m_sum, m_number, m_reply, m_replySize])), (fr0, .inl (cyI, 80, .inl rqf))] (tyL cyI cyZ) (fun u : Nat × Bool => match u with | (sg2, rst2) => sg2 = (if wrP rq then 0 else 4) ∧ rst2 = (if wrP rq then false else rst)) (fun u : Nat × Bool => match u with | (sg2, rst2) => [(h0, .inr (12, [m_thrown, m_values, m_eventPoint, m_eventValue, m_events, m_told, m_over, m_lost, .int (bI (rst2 = true)), m_outputs, m_time, m_heard, m_heardSize, m_begun, m_master, m_part, .ref fr0, .int (nI rq.length), m_selected, m_wanted, m_by, m_since, m_confirm, m_answer, m_answerSize, .int (nI sg2), m_sent, m_sentCount, m_sum, m_number, m_reply, m_replySize])), (fr0, .inl (cyI, 80, .inl rqf))]) 0 0 := by
  refine mk_Ct (cc := cX12_write) (maxL := 2) (ret := none) (by decide) rfl rfl ?_
  intro p e s m below meth c A Q ls hx hb hr hts hown hlocks hml hname hA hN hK hP hD hS hQ hl
  have hl : lv_has ls 2 [(0, .ref h0)] := hl
  have inX12_ : ∀ w ∈ u_ws RX12 TX12 32, w ∈ wsX12_write := fun w h => List.mem_cons_of_mem _ (List.mem_append_right _ h)
  have fl29 : (Cond.fieldLink RX12 29 "OutStationModel" "restart" "Z").before ([.ref h0] : List Value).toArray s = true := hts _ (by decide +kernel)
  have fl129 : (Cond.fieldLink RX12 129 "OutStationModel" "signs" "I").before ([.ref h0] : List Value).toArray s = true := hts _ (by decide +kernel)
  have fl114 : (Cond.fieldLink RX12 114 "OutStationModel" "size" "I").before ([.ref h0] : List Value).toArray s = true := hts _ (by decide +kernel)
  have fl39 : (Cond.fieldLink RX12 39 "OutStationModel" "fragment" "[I").before ([.ref h0] : List Value).toArray s = true := hts _ (by decide +kernel)
  have hown : s.vm.findClass RX12 = some m.cls := hown
  obtain ⟨H, eH9⟩ : ∃ H, H = s.heap := ⟨_, rfl⟩
  have hP : va_P D vwCl [(h0, .inr (12, [m_thrown, m_values, m_eventPoint, m_eventValue, m_events, m_told, m_over, m_lost, .int (bI (rst = true)), m_outputs, m_time, m_heard, m_heardSize, m_begun, m_master, m_part, .ref fr0, .int (nI rq.length), m_selected, m_wanted, m_by, m_since, m_confirm, m_answer, m_answerSize, .int (nI 0), m_sent, m_sentCount, m_sum, m_number, m_reply, m_replySize])), (fr0, .inl (cyI, 80, .inl rqf))] H := by rw [eH9]; exact hP
  have hS : va_S A s.heap H [] := by rw [eH9]; exact hS
  obtain ⟨locs, eL9⟩ : ∃ z : List Loc, z = [] := ⟨_, rfl⟩
  rw [← eH9, ← eL9]
  have hS : va_S A s.heap H locs := by rw [eL9]; exact hS
  obtain ⟨oq1, oq2, oq3, oq4⟩ := id okq
  have g2 := oq4 2
  have g3 := oq4 3
  have g4 := oq4 4
  have g5 := oq4 5
  have g6 := oq4 6
  have g7 := oq4 7
  have J77 : ∀ (gd : Bool), (gd = true ↔ wrP rq) → ∀ (H : Heap) (locs : List Loc) (ls : Array Slot), va_P D vwCl [(h0, .inr (12, [m_thrown, m_values, m_eventPoint, m_eventValue, m_events, m_told, m_over, m_lost, .int (bI (rst = true)), m_outputs, m_time, m_heard, m_heardSize, m_begun, m_master, m_part, .ref fr0, .int (nI rq.length), m_selected, m_wanted, m_by, m_since, m_confirm, m_answer, m_answerSize, .int (nI 0), m_sent, m_sentCount, m_sum, m_number, m_reply, m_replySize])), (fr0, .inl (cyI, 80, .inl rqf))] H → va_D A [(h0, .inr (12, [m_thrown, m_values, m_eventPoint, m_eventValue, m_events, m_told, m_over, m_lost, .int (bI (rst = true)), m_outputs, m_time, m_heard, m_heardSize, m_begun, m_master, m_part, .ref fr0, .int (nI rq.length), m_selected, m_wanted, m_by, m_since, m_confirm, m_answer, m_answerSize, .int (nI 0), m_sent, m_sentCount, m_sum, m_number, m_reply, m_replySize])), (fr0, .inl (cyI, 80, .inl rqf))] → va_S A s.heap H locs → lv_has ls 2 [(0, .ref h0)] → W p l e ({ frames := 0, cells := 0, slots := 0, locals := 0 } : Room) s m ([.ref h0] : List Value).toArray below meth c H locs 0 0 Q (F0 m 77 ls [.int (bI (gd = true))]) := by
    intro gd hgd H locs ls hP hD hS hl
    refine lv_istore_n (lv' := [(1, .int (bI (gd = true))), (0, .ref h0)]) hx hb dX12_write_77 rfl hl (by decide) rfl (fun ls hl => ?_)
    refine lv_aload_n hx hb dX12_write_78 rfl (lv_at hl 1 rfl) ?_
    refine lv_aload_n hx hb dX12_write_79 rfl (lv_at hl 1 rfl) ?_
    refine va_get (D := D) (ci := 12) (v := .int (bI (rst = true))) (C := RX12) (T := TX12) (N := 32) hx hb hts inX12_ hown hK hP 0 rfl rfl 8 (by decide) fl29 (fun _ h9 => h9) rfl dX12_write_80 ?_
    refine bv_if_eq (tgt := 94) hx hb dX12_write_83 (by decide) (fun c83 => ?_) (fun c83 => ?_)
    · skip
      refine lv_iconst (v := (nI 0)) hx hb dX12_write_94 (by decide) ?_
      refine va_put (D := D) (ci := 12) (v := .int (nI 0)) (ty := .boolean) (C := RX12) (T := TX12) (N := 32) hx hb hts inX12_ tyX12 tyX12_ok nmX12 hown hK hP hD hS 0 rfl rfl 8 (by decide) fl29 (fun _ h9 => h9) rfl (by decide +kernel) rfl rfl (Nat.le_of_ble_eq_true rfl) dX12_write_95 (fun H locs hP hD hS => ?_)
      have hP : va_P D vwCl [(h0, .inr (12, [m_thrown, m_values, m_eventPoint, m_eventValue, m_events, m_told, m_over, m_lost, .int (nI 0), m_outputs, m_time, m_heard, m_heardSize, m_begun, m_master, m_part, .ref fr0, .int (nI rq.length), m_selected, m_wanted, m_by, m_since, m_confirm, m_answer, m_answerSize, .int (nI 0), m_sent, m_sentCount, m_sum, m_number, m_reply, m_replySize])), (fr0, .inl (cyI, 80, .inl rqf))] H := hP
      have hD : va_D A [(h0, .inr (12, [m_thrown, m_values, m_eventPoint, m_eventValue, m_events, m_told, m_over, m_lost, .int (nI 0), m_outputs, m_time, m_heard, m_heardSize, m_begun, m_master, m_part, .ref fr0, .int (nI rq.length), m_selected, m_wanted, m_by, m_since, m_confirm, m_answer, m_answerSize, .int (nI 0), m_sent, m_sentCount, m_sum, m_number, m_reply, m_replySize])), (fr0, .inl (cyI, 80, .inl rqf))] := hD
      refine lv_aload_n hx hb dX12_write_98 rfl (lv_at hl 1 rfl) ?_
      refine lv_iload_n hx hb dX12_write_99 rfl (lv_at hl 0 rfl) ?_
      refine bv_if_eq (tgt := 107) hx hb dX12_write_100 (by decide) (fun c100 => ?_) (fun c100 => ?_)
      · skip
        refine lv_iconst (v := (nI 4)) hx hb dX12_write_107 (by decide) ?_
        refine va_put (D := D) (ci := 12) (v := .int (nI 4)) (ty := .int) (C := RX12) (T := TX12) (N := 32) hx hb hts inX12_ tyX12 tyX12_ok nmX12 hown hK hP hD hS 0 rfl rfl 25 (by decide) fl129 (fun _ h9 => h9) rfl (by decide +kernel) rfl rfl (Nat.le_of_ble_eq_true rfl) dX12_write_108 (fun H locs hP hD hS => ?_)
        have hP : va_P D vwCl [(h0, .inr (12, [m_thrown, m_values, m_eventPoint, m_eventValue, m_events, m_told, m_over, m_lost, .int (nI 0), m_outputs, m_time, m_heard, m_heardSize, m_begun, m_master, m_part, .ref fr0, .int (nI rq.length), m_selected, m_wanted, m_by, m_since, m_confirm, m_answer, m_answerSize, .int (nI 4), m_sent, m_sentCount, m_sum, m_number, m_reply, m_replySize])), (fr0, .inl (cyI, 80, .inl rqf))] H := hP
        have hD : va_D A [(h0, .inr (12, [m_thrown, m_values, m_eventPoint, m_eventValue, m_events, m_told, m_over, m_lost, .int (nI 0), m_outputs, m_time, m_heard, m_heardSize, m_begun, m_master, m_part, .ref fr0, .int (nI rq.length), m_selected, m_wanted, m_by, m_since, m_confirm, m_answer, m_answerSize, .int (nI 4), m_sent, m_sentCount, m_sum, m_number, m_reply, m_replySize])), (fr0, .inl (cyI, 80, .inl rqf))] := hD
        have ew9 : ([(h0, .inr (12, [m_thrown, m_values, m_eventPoint, m_eventValue, m_events, m_told, m_over, m_lost, .int (bI (false = true)), m_outputs, m_time, m_heard, m_heardSize, m_begun, m_master, m_part, .ref fr0, .int (nI rq.length), m_selected, m_wanted, m_by, m_since, m_confirm, m_answer, m_answerSize, .int (nI 4), m_sent, m_sentCount, m_sum, m_number, m_reply, m_replySize])), (fr0, .inl (cyI, 80, .inl rqf))] : va_W) = [(h0, .inr (12, [m_thrown, m_values, m_eventPoint, m_eventValue, m_events, m_told, m_over, m_lost, .int (nI 0), m_outputs, m_time, m_heard, m_heardSize, m_begun, m_master, m_part, .ref fr0, .int (nI rq.length), m_selected, m_wanted, m_by, m_since, m_confirm, m_answer, m_answerSize, .int (nI 4), m_sent, m_sentCount, m_sum, m_number, m_reply, m_replySize])), (fr0, .inl (cyI, 80, .inl rqf))] := by rfl
        have hP : va_P D vwCl [(h0, .inr (12, [m_thrown, m_values, m_eventPoint, m_eventValue, m_events, m_told, m_over, m_lost, .int (bI (false = true)), m_outputs, m_time, m_heard, m_heardSize, m_begun, m_master, m_part, .ref fr0, .int (nI rq.length), m_selected, m_wanted, m_by, m_since, m_confirm, m_answer, m_answerSize, .int (nI 4), m_sent, m_sentCount, m_sum, m_number, m_reply, m_replySize])), (fr0, .inl (cyI, 80, .inl rqf))] H := by rw [ew9]; exact hP
        have hD : va_D A [(h0, .inr (12, [m_thrown, m_values, m_eventPoint, m_eventValue, m_events, m_told, m_over, m_lost, .int (bI (false = true)), m_outputs, m_time, m_heard, m_heardSize, m_begun, m_master, m_part, .ref fr0, .int (nI rq.length), m_selected, m_wanted, m_by, m_since, m_confirm, m_answer, m_answerSize, .int (nI 4), m_sent, m_sentCount, m_sum, m_number, m_reply, m_replySize])), (fr0, .inl (cyI, 80, .inl rqf))] := by rw [ew9]; exact hD
        exact ret_v hQ hx hb hr hlocks dX12_write_111 hK hS (4, false) (by first | exact ⟨by rw [if_pos (hgd.mp c100)], by rw [if_pos (hgd.mp c100)]⟩ | exact ⟨by rw [if_neg (fun z => c100 (hgd.mpr z))], by rw [if_neg (fun z => c100 (hgd.mpr z))]; exact c83.symm⟩ | exact ⟨by rw [if_neg (fun z => c100 (hgd.mpr z))], by rw [if_neg (fun z => c100 (hgd.mpr z))]; exact (Bool.eq_false_iff.mpr c83).symm⟩) hP hD
      · skip
        refine lv_iconst (v := (nI 0)) hx hb dX12_write_103 (by decide) ?_
        refine lv_goto (tgt := 108) hx hb dX12_write_104 (by decide) ?_
        refine va_put (D := D) (ci := 12) (v := .int (nI 0)) (ty := .int) (C := RX12) (T := TX12) (N := 32) hx hb hts inX12_ tyX12 tyX12_ok nmX12 hown hK hP hD hS 0 rfl rfl 25 (by decide) fl129 (fun _ h9 => h9) rfl (by decide +kernel) rfl rfl (Nat.le_of_ble_eq_true rfl) dX12_write_108 (fun H locs hP hD hS => ?_)
        have hP : va_P D vwCl [(h0, .inr (12, [m_thrown, m_values, m_eventPoint, m_eventValue, m_events, m_told, m_over, m_lost, .int (nI 0), m_outputs, m_time, m_heard, m_heardSize, m_begun, m_master, m_part, .ref fr0, .int (nI rq.length), m_selected, m_wanted, m_by, m_since, m_confirm, m_answer, m_answerSize, .int (nI 0), m_sent, m_sentCount, m_sum, m_number, m_reply, m_replySize])), (fr0, .inl (cyI, 80, .inl rqf))] H := hP
        have hD : va_D A [(h0, .inr (12, [m_thrown, m_values, m_eventPoint, m_eventValue, m_events, m_told, m_over, m_lost, .int (nI 0), m_outputs, m_time, m_heard, m_heardSize, m_begun, m_master, m_part, .ref fr0, .int (nI rq.length), m_selected, m_wanted, m_by, m_since, m_confirm, m_answer, m_answerSize, .int (nI 0), m_sent, m_sentCount, m_sum, m_number, m_reply, m_replySize])), (fr0, .inl (cyI, 80, .inl rqf))] := hD
        have ew9 : ([(h0, .inr (12, [m_thrown, m_values, m_eventPoint, m_eventValue, m_events, m_told, m_over, m_lost, .int (bI (false = true)), m_outputs, m_time, m_heard, m_heardSize, m_begun, m_master, m_part, .ref fr0, .int (nI rq.length), m_selected, m_wanted, m_by, m_since, m_confirm, m_answer, m_answerSize, .int (nI 0), m_sent, m_sentCount, m_sum, m_number, m_reply, m_replySize])), (fr0, .inl (cyI, 80, .inl rqf))] : va_W) = [(h0, .inr (12, [m_thrown, m_values, m_eventPoint, m_eventValue, m_events, m_told, m_over, m_lost, .int (nI 0), m_outputs, m_time, m_heard, m_heardSize, m_begun, m_master, m_part, .ref fr0, .int (nI rq.length), m_selected, m_wanted, m_by, m_since, m_confirm, m_answer, m_answerSize, .int (nI 0), m_sent, m_sentCount, m_sum, m_number, m_reply, m_replySize])), (fr0, .inl (cyI, 80, .inl rqf))] := by rfl
        have hP : va_P D vwCl [(h0, .inr (12, [m_thrown, m_values, m_eventPoint, m_eventValue, m_events, m_told, m_over, m_lost, .int (bI (false = true)), m_outputs, m_time, m_heard, m_heardSize, m_begun, m_master, m_part, .ref fr0, .int (nI rq.length), m_selected, m_wanted, m_by, m_since, m_confirm, m_answer, m_answerSize, .int (nI 0), m_sent, m_sentCount, m_sum, m_number, m_reply, m_replySize])), (fr0, .inl (cyI, 80, .inl rqf))] H := by rw [ew9]; exact hP
        have hD : va_D A [(h0, .inr (12, [m_thrown, m_values, m_eventPoint, m_eventValue, m_events, m_told, m_over, m_lost, .int (bI (false = true)), m_outputs, m_time, m_heard, m_heardSize, m_begun, m_master, m_part, .ref fr0, .int (nI rq.length), m_selected, m_wanted, m_by, m_since, m_confirm, m_answer, m_answerSize, .int (nI 0), m_sent, m_sentCount, m_sum, m_number, m_reply, m_replySize])), (fr0, .inl (cyI, 80, .inl rqf))] := by rw [ew9]; exact hD
        exact ret_v hQ hx hb hr hlocks dX12_write_111 hK hS (0, false) (by first | exact ⟨by rw [if_pos (hgd.mp c100)], by rw [if_pos (hgd.mp c100)]⟩ | exact ⟨by rw [if_neg (fun z => c100 (hgd.mpr z))], by rw [if_neg (fun z => c100 (hgd.mpr z))]; exact c83.symm⟩ | exact ⟨by rw [if_neg (fun z => c100 (hgd.mpr z))], by rw [if_neg (fun z => c100 (hgd.mpr z))]; exact (Bool.eq_false_iff.mpr c83).symm⟩) hP hD
    · skip
      refine lv_iload_n hx hb dX12_write_86 rfl (lv_at hl 0 rfl) ?_
      refine bv_if_ne (tgt := 94) hx hb dX12_write_87 (by decide) (fun c87 => ?_) (fun c87 => ?_)
      · skip
        refine lv_iconst (v := (nI 0)) hx hb dX12_write_94 (by decide) ?_
        refine va_put (D := D) (ci := 12) (v := .int (nI 0)) (ty := .boolean) (C := RX12) (T := TX12) (N := 32) hx hb hts inX12_ tyX12 tyX12_ok nmX12 hown hK hP hD hS 0 rfl rfl 8 (by decide) fl29 (fun _ h9 => h9) rfl (by decide +kernel) rfl rfl (Nat.le_of_ble_eq_true rfl) dX12_write_95 (fun H locs hP hD hS => ?_)
        have hP : va_P D vwCl [(h0, .inr (12, [m_thrown, m_values, m_eventPoint, m_eventValue, m_events, m_told, m_over, m_lost, .int (nI 0), m_outputs, m_time, m_heard, m_heardSize, m_begun, m_master, m_part, .ref fr0, .int (nI rq.length), m_selected, m_wanted, m_by, m_since, m_confirm, m_answer, m_answerSize, .int (nI 0), m_sent, m_sentCount, m_sum, m_number, m_reply, m_replySize])), (fr0, .inl (cyI, 80, .inl rqf))] H := hP
        have hD : va_D A [(h0, .inr (12, [m_thrown, m_values, m_eventPoint, m_eventValue, m_events, m_told, m_over, m_lost, .int (nI 0), m_outputs, m_time, m_heard, m_heardSize, m_begun, m_master, m_part, .ref fr0, .int (nI rq.length), m_selected, m_wanted, m_by, m_since, m_confirm, m_answer, m_answerSize, .int (nI 0), m_sent, m_sentCount, m_sum, m_number, m_reply, m_replySize])), (fr0, .inl (cyI, 80, .inl rqf))] := hD
        refine lv_aload_n hx hb dX12_write_98 rfl (lv_at hl 1 rfl) ?_
        refine lv_iload_n hx hb dX12_write_99 rfl (lv_at hl 0 rfl) ?_
        refine bv_if_eq (tgt := 107) hx hb dX12_write_100 (by decide) (fun c100 => ?_) (fun c100 => ?_)
        · first | exact absurd c87 c100 | exact absurd c100 c87
        · skip
          refine lv_iconst (v := (nI 0)) hx hb dX12_write_103 (by decide) ?_
          refine lv_goto (tgt := 108) hx hb dX12_write_104 (by decide) ?_
          refine va_put (D := D) (ci := 12) (v := .int (nI 0)) (ty := .int) (C := RX12) (T := TX12) (N := 32) hx hb hts inX12_ tyX12 tyX12_ok nmX12 hown hK hP hD hS 0 rfl rfl 25 (by decide) fl129 (fun _ h9 => h9) rfl (by decide +kernel) rfl rfl (Nat.le_of_ble_eq_true rfl) dX12_write_108 (fun H locs hP hD hS => ?_)
          have hP : va_P D vwCl [(h0, .inr (12, [m_thrown, m_values, m_eventPoint, m_eventValue, m_events, m_told, m_over, m_lost, .int (nI 0), m_outputs, m_time, m_heard, m_heardSize, m_begun, m_master, m_part, .ref fr0, .int (nI rq.length), m_selected, m_wanted, m_by, m_since, m_confirm, m_answer, m_answerSize, .int (nI 0), m_sent, m_sentCount, m_sum, m_number, m_reply, m_replySize])), (fr0, .inl (cyI, 80, .inl rqf))] H := hP
          have hD : va_D A [(h0, .inr (12, [m_thrown, m_values, m_eventPoint, m_eventValue, m_events, m_told, m_over, m_lost, .int (nI 0), m_outputs, m_time, m_heard, m_heardSize, m_begun, m_master, m_part, .ref fr0, .int (nI rq.length), m_selected, m_wanted, m_by, m_since, m_confirm, m_answer, m_answerSize, .int (nI 0), m_sent, m_sentCount, m_sum, m_number, m_reply, m_replySize])), (fr0, .inl (cyI, 80, .inl rqf))] := hD
          have ew9 : ([(h0, .inr (12, [m_thrown, m_values, m_eventPoint, m_eventValue, m_events, m_told, m_over, m_lost, .int (bI (false = true)), m_outputs, m_time, m_heard, m_heardSize, m_begun, m_master, m_part, .ref fr0, .int (nI rq.length), m_selected, m_wanted, m_by, m_since, m_confirm, m_answer, m_answerSize, .int (nI 0), m_sent, m_sentCount, m_sum, m_number, m_reply, m_replySize])), (fr0, .inl (cyI, 80, .inl rqf))] : va_W) = [(h0, .inr (12, [m_thrown, m_values, m_eventPoint, m_eventValue, m_events, m_told, m_over, m_lost, .int (nI 0), m_outputs, m_time, m_heard, m_heardSize, m_begun, m_master, m_part, .ref fr0, .int (nI rq.length), m_selected, m_wanted, m_by, m_since, m_confirm, m_answer, m_answerSize, .int (nI 0), m_sent, m_sentCount, m_sum, m_number, m_reply, m_replySize])), (fr0, .inl (cyI, 80, .inl rqf))] := by rfl
          have hP : va_P D vwCl [(h0, .inr (12, [m_thrown, m_values, m_eventPoint, m_eventValue, m_events, m_told, m_over, m_lost, .int (bI (false = true)), m_outputs, m_time, m_heard, m_heardSize, m_begun, m_master, m_part, .ref fr0, .int (nI rq.length), m_selected, m_wanted, m_by, m_since, m_confirm, m_answer, m_answerSize, .int (nI 0), m_sent, m_sentCount, m_sum, m_number, m_reply, m_replySize])), (fr0, .inl (cyI, 80, .inl rqf))] H := by rw [ew9]; exact hP
          have hD : va_D A [(h0, .inr (12, [m_thrown, m_values, m_eventPoint, m_eventValue, m_events, m_told, m_over, m_lost, .int (bI (false = true)), m_outputs, m_time, m_heard, m_heardSize, m_begun, m_master, m_part, .ref fr0, .int (nI rq.length), m_selected, m_wanted, m_by, m_since, m_confirm, m_answer, m_answerSize, .int (nI 0), m_sent, m_sentCount, m_sum, m_number, m_reply, m_replySize])), (fr0, .inl (cyI, 80, .inl rqf))] := by rw [ew9]; exact hD
          exact ret_v hQ hx hb hr hlocks dX12_write_111 hK hS (0, false) (by first | exact ⟨by rw [if_pos (hgd.mp c100)], by rw [if_pos (hgd.mp c100)]⟩ | exact ⟨by rw [if_neg (fun z => c100 (hgd.mpr z))], by rw [if_neg (fun z => c100 (hgd.mpr z))]; exact c83.symm⟩ | exact ⟨by rw [if_neg (fun z => c100 (hgd.mpr z))], by rw [if_neg (fun z => c100 (hgd.mpr z))]; exact (Bool.eq_false_iff.mpr c83).symm⟩) hP hD
      · skip
        refine lv_iconst (v := (nI 1)) hx hb dX12_write_90 (by decide) ?_
        refine lv_goto (tgt := 95) hx hb dX12_write_91 (by decide) ?_
        refine va_put (D := D) (ci := 12) (v := .int (nI 1)) (ty := .boolean) (C := RX12) (T := TX12) (N := 32) hx hb hts inX12_ tyX12 tyX12_ok nmX12 hown hK hP hD hS 0 rfl rfl 8 (by decide) fl29 (fun _ h9 => h9) rfl (by decide +kernel) rfl rfl (Nat.le_of_ble_eq_true rfl) dX12_write_95 (fun H locs hP hD hS => ?_)
        have hP : va_P D vwCl [(h0, .inr (12, [m_thrown, m_values, m_eventPoint, m_eventValue, m_events, m_told, m_over, m_lost, .int (nI 1), m_outputs, m_time, m_heard, m_heardSize, m_begun, m_master, m_part, .ref fr0, .int (nI rq.length), m_selected, m_wanted, m_by, m_since, m_confirm, m_answer, m_answerSize, .int (nI 0), m_sent, m_sentCount, m_sum, m_number, m_reply, m_replySize])), (fr0, .inl (cyI, 80, .inl rqf))] H := hP
        have hD : va_D A [(h0, .inr (12, [m_thrown, m_values, m_eventPoint, m_eventValue, m_events, m_told, m_over, m_lost, .int (nI 1), m_outputs, m_time, m_heard, m_heardSize, m_begun, m_master, m_part, .ref fr0, .int (nI rq.length), m_selected, m_wanted, m_by, m_since, m_confirm, m_answer, m_answerSize, .int (nI 0), m_sent, m_sentCount, m_sum, m_number, m_reply, m_replySize])), (fr0, .inl (cyI, 80, .inl rqf))] := hD
        refine lv_aload_n hx hb dX12_write_98 rfl (lv_at hl 1 rfl) ?_
        refine lv_iload_n hx hb dX12_write_99 rfl (lv_at hl 0 rfl) ?_
        refine bv_if_eq (tgt := 107) hx hb dX12_write_100 (by decide) (fun c100 => ?_) (fun c100 => ?_)
        · skip
          refine lv_iconst (v := (nI 4)) hx hb dX12_write_107 (by decide) ?_
          refine va_put (D := D) (ci := 12) (v := .int (nI 4)) (ty := .int) (C := RX12) (T := TX12) (N := 32) hx hb hts inX12_ tyX12 tyX12_ok nmX12 hown hK hP hD hS 0 rfl rfl 25 (by decide) fl129 (fun _ h9 => h9) rfl (by decide +kernel) rfl rfl (Nat.le_of_ble_eq_true rfl) dX12_write_108 (fun H locs hP hD hS => ?_)
          have hP : va_P D vwCl [(h0, .inr (12, [m_thrown, m_values, m_eventPoint, m_eventValue, m_events, m_told, m_over, m_lost, .int (nI 1), m_outputs, m_time, m_heard, m_heardSize, m_begun, m_master, m_part, .ref fr0, .int (nI rq.length), m_selected, m_wanted, m_by, m_since, m_confirm, m_answer, m_answerSize, .int (nI 4), m_sent, m_sentCount, m_sum, m_number, m_reply, m_replySize])), (fr0, .inl (cyI, 80, .inl rqf))] H := hP
          have hD : va_D A [(h0, .inr (12, [m_thrown, m_values, m_eventPoint, m_eventValue, m_events, m_told, m_over, m_lost, .int (nI 1), m_outputs, m_time, m_heard, m_heardSize, m_begun, m_master, m_part, .ref fr0, .int (nI rq.length), m_selected, m_wanted, m_by, m_since, m_confirm, m_answer, m_answerSize, .int (nI 4), m_sent, m_sentCount, m_sum, m_number, m_reply, m_replySize])), (fr0, .inl (cyI, 80, .inl rqf))] := hD
          have ew9 : ([(h0, .inr (12, [m_thrown, m_values, m_eventPoint, m_eventValue, m_events, m_told, m_over, m_lost, .int (bI (true = true)), m_outputs, m_time, m_heard, m_heardSize, m_begun, m_master, m_part, .ref fr0, .int (nI rq.length), m_selected, m_wanted, m_by, m_since, m_confirm, m_answer, m_answerSize, .int (nI 4), m_sent, m_sentCount, m_sum, m_number, m_reply, m_replySize])), (fr0, .inl (cyI, 80, .inl rqf))] : va_W) = [(h0, .inr (12, [m_thrown, m_values, m_eventPoint, m_eventValue, m_events, m_told, m_over, m_lost, .int (nI 1), m_outputs, m_time, m_heard, m_heardSize, m_begun, m_master, m_part, .ref fr0, .int (nI rq.length), m_selected, m_wanted, m_by, m_since, m_confirm, m_answer, m_answerSize, .int (nI 4), m_sent, m_sentCount, m_sum, m_number, m_reply, m_replySize])), (fr0, .inl (cyI, 80, .inl rqf))] := by rfl
          have hP : va_P D vwCl [(h0, .inr (12, [m_thrown, m_values, m_eventPoint, m_eventValue, m_events, m_told, m_over, m_lost, .int (bI (true = true)), m_outputs, m_time, m_heard, m_heardSize, m_begun, m_master, m_part, .ref fr0, .int (nI rq.length), m_selected, m_wanted, m_by, m_since, m_confirm, m_answer, m_answerSize, .int (nI 4), m_sent, m_sentCount, m_sum, m_number, m_reply, m_replySize])), (fr0, .inl (cyI, 80, .inl rqf))] H := by rw [ew9]; exact hP
          have hD : va_D A [(h0, .inr (12, [m_thrown, m_values, m_eventPoint, m_eventValue, m_events, m_told, m_over, m_lost, .int (bI (true = true)), m_outputs, m_time, m_heard, m_heardSize, m_begun, m_master, m_part, .ref fr0, .int (nI rq.length), m_selected, m_wanted, m_by, m_since, m_confirm, m_answer, m_answerSize, .int (nI 4), m_sent, m_sentCount, m_sum, m_number, m_reply, m_replySize])), (fr0, .inl (cyI, 80, .inl rqf))] := by rw [ew9]; exact hD
          exact ret_v hQ hx hb hr hlocks dX12_write_111 hK hS (4, true) (by first | exact ⟨by rw [if_pos (hgd.mp c100)], by rw [if_pos (hgd.mp c100)]⟩ | exact ⟨by rw [if_neg (fun z => c100 (hgd.mpr z))], by rw [if_neg (fun z => c100 (hgd.mpr z))]; exact c83.symm⟩ | exact ⟨by rw [if_neg (fun z => c100 (hgd.mpr z))], by rw [if_neg (fun z => c100 (hgd.mpr z))]; exact (Bool.eq_false_iff.mpr c83).symm⟩) hP hD
        · first | exact absurd c87 c100 | exact absurd c100 c87
  refine lv_aload_n hx hb dX12_write_0 rfl (lv_at hl 0 rfl) ?_
  refine va_get (D := D) (ci := 12) (v := .int (nI rq.length)) (C := RX12) (T := TX12) (N := 32) hx hb hts inX12_ hown hK hP 0 rfl rfl 17 (by decide) fl114 (fun _ h9 => h9) rfl dX12_write_1 ?_
  refine lv_bipush (v := (nI 8)) hx hb dX12_write_4 (by decide) ?_
  refine nv_icmp_ne (tgt := 76) hx hb (by omega) (by omega) dX12_write_6 (by decide) (fun c6 => ?_) (fun c6 => ?_)
  · skip
    refine lv_iconst (v := (nI 0)) hx hb dX12_write_76 (by decide) ?_
    refine W.eq (g2 := F0 m 77 ls [.int (bI (false = true))]) (by rfl) ?_
    exact J77 false (by first | exact ⟨fun _ => by unfold wrP; omega, fun _ => rfl⟩ | exact ⟨fun z => absurd z (by decide), fun z => by unfold wrP at z; omega⟩) H locs ls hP hD hS (lv_sub hl [0] rfl)
  · skip
    refine lv_aload_n hx hb dX12_write_9 rfl (lv_at hl 0 rfl) ?_
    refine va_get (D := D) (ci := 12) (v := .ref fr0) (C := RX12) (T := TX12) (N := 32) hx hb hts inX12_ hown hK hP 0 rfl rfl 16 (by decide) fl39 (fun _ h9 => h9) rfl dX12_write_10 ?_
    refine lv_iconst (v := (nI 2)) hx hb dX12_write_13 (by decide) ?_
    refine nv_iald hx hb hK hP 1 0 rfl rfl (by omega) (by decide) dX12_write_14 ?_
    refine nv_top (y := (nI (rq.getD 2 0))) (oq3 _ (by omega)) ?_
    refine lv_bipush (v := (nI 80)) hx hb dX12_write_15 (by decide) ?_
    refine nv_icmp_ne (tgt := 76) hx hb (by omega) (by omega) dX12_write_17 (by decide) (fun c17 => ?_) (fun c17 => ?_)
    · skip
      refine lv_iconst (v := (nI 0)) hx hb dX12_write_76 (by decide) ?_
      refine W.eq (g2 := F0 m 77 ls [.int (bI (false = true))]) (by rfl) ?_
      exact J77 false (by first | exact ⟨fun _ => by unfold wrP; omega, fun _ => rfl⟩ | exact ⟨fun z => absurd z (by decide), fun z => by unfold wrP at z; omega⟩) H locs ls hP hD hS (lv_sub hl [0] rfl)
    · skip
      refine lv_aload_n hx hb dX12_write_20 rfl (lv_at hl 0 rfl) ?_
      refine va_get (D := D) (ci := 12) (v := .ref fr0) (C := RX12) (T := TX12) (N := 32) hx hb hts inX12_ hown hK hP 0 rfl rfl 16 (by decide) fl39 (fun _ h9 => h9) rfl dX12_write_21 ?_
      refine lv_iconst (v := (nI 3)) hx hb dX12_write_24 (by decide) ?_
      refine nv_iald hx hb hK hP 1 0 rfl rfl (by omega) (by decide) dX12_write_25 ?_
      refine nv_top (y := (nI (rq.getD 3 0))) (oq3 _ (by omega)) ?_
      refine lv_iconst (v := (nI 1)) hx hb dX12_write_26 (by decide) ?_
      refine nv_icmp_ne (tgt := 76) hx hb (by omega) (by omega) dX12_write_27 (by decide) (fun c27 => ?_) (fun c27 => ?_)
      · skip
        refine lv_iconst (v := (nI 0)) hx hb dX12_write_76 (by decide) ?_
        refine W.eq (g2 := F0 m 77 ls [.int (bI (false = true))]) (by rfl) ?_
        exact J77 false (by first | exact ⟨fun _ => by unfold wrP; omega, fun _ => rfl⟩ | exact ⟨fun z => absurd z (by decide), fun z => by unfold wrP at z; omega⟩) H locs ls hP hD hS (lv_sub hl [0] rfl)
      · skip
        refine lv_aload_n hx hb dX12_write_30 rfl (lv_at hl 0 rfl) ?_
        refine va_get (D := D) (ci := 12) (v := .ref fr0) (C := RX12) (T := TX12) (N := 32) hx hb hts inX12_ hown hK hP 0 rfl rfl 16 (by decide) fl39 (fun _ h9 => h9) rfl dX12_write_31 ?_
        refine lv_iconst (v := (nI 4)) hx hb dX12_write_34 (by decide) ?_
        refine nv_iald hx hb hK hP 1 0 rfl rfl (by omega) (by decide) dX12_write_35 ?_
        refine nv_top (y := (nI (rq.getD 4 0))) (oq3 _ (by omega)) ?_
        refine nv_if_ne (tgt := 76) hx hb (by omega) dX12_write_36 (by decide) (fun c36 => ?_) (fun c36 => ?_)
        · skip
          refine lv_iconst (v := (nI 0)) hx hb dX12_write_76 (by decide) ?_
          refine W.eq (g2 := F0 m 77 ls [.int (bI (false = true))]) (by rfl) ?_
          exact J77 false (by first | exact ⟨fun _ => by unfold wrP; omega, fun _ => rfl⟩ | exact ⟨fun z => absurd z (by decide), fun z => by unfold wrP at z; omega⟩) H locs ls hP hD hS (lv_sub hl [0] rfl)
        · skip
          refine lv_aload_n hx hb dX12_write_39 rfl (lv_at hl 0 rfl) ?_
          refine va_get (D := D) (ci := 12) (v := .ref fr0) (C := RX12) (T := TX12) (N := 32) hx hb hts inX12_ hown hK hP 0 rfl rfl 16 (by decide) fl39 (fun _ h9 => h9) rfl dX12_write_40 ?_
          refine lv_iconst (v := (nI 5)) hx hb dX12_write_43 (by decide) ?_
          refine nv_iald hx hb hK hP 1 0 rfl rfl (by omega) (by decide) dX12_write_44 ?_
          refine nv_top (y := (nI (rq.getD 5 0))) (oq3 _ (by omega)) ?_
          refine lv_bipush (v := (nI 7)) hx hb dX12_write_45 (by decide) ?_
          refine nv_icmp_ne (tgt := 76) hx hb (by omega) (by omega) dX12_write_47 (by decide) (fun c47 => ?_) (fun c47 => ?_)
          · skip
            refine lv_iconst (v := (nI 0)) hx hb dX12_write_76 (by decide) ?_
            refine W.eq (g2 := F0 m 77 ls [.int (bI (false = true))]) (by rfl) ?_
            exact J77 false (by first | exact ⟨fun _ => by unfold wrP; omega, fun _ => rfl⟩ | exact ⟨fun z => absurd z (by decide), fun z => by unfold wrP at z; omega⟩) H locs ls hP hD hS (lv_sub hl [0] rfl)
          · skip
            refine lv_aload_n hx hb dX12_write_50 rfl (lv_at hl 0 rfl) ?_
            refine va_get (D := D) (ci := 12) (v := .ref fr0) (C := RX12) (T := TX12) (N := 32) hx hb hts inX12_ hown hK hP 0 rfl rfl 16 (by decide) fl39 (fun _ h9 => h9) rfl dX12_write_51 ?_
            refine lv_bipush (v := (nI 6)) hx hb dX12_write_54 (by decide) ?_
            refine nv_iald hx hb hK hP 1 0 rfl rfl (by omega) (by decide) dX12_write_56 ?_
            refine nv_top (y := (nI (rq.getD 6 0))) (oq3 _ (by omega)) ?_
            refine lv_bipush (v := (nI 7)) hx hb dX12_write_57 (by decide) ?_
            refine nv_icmp_ne (tgt := 76) hx hb (by omega) (by omega) dX12_write_59 (by decide) (fun c59 => ?_) (fun c59 => ?_)
            · skip
              refine lv_iconst (v := (nI 0)) hx hb dX12_write_76 (by decide) ?_
              refine W.eq (g2 := F0 m 77 ls [.int (bI (false = true))]) (by rfl) ?_
              exact J77 false (by first | exact ⟨fun _ => by unfold wrP; omega, fun _ => rfl⟩ | exact ⟨fun z => absurd z (by decide), fun z => by unfold wrP at z; omega⟩) H locs ls hP hD hS (lv_sub hl [0] rfl)
            · skip
              refine lv_aload_n hx hb dX12_write_62 rfl (lv_at hl 0 rfl) ?_
              refine va_get (D := D) (ci := 12) (v := .ref fr0) (C := RX12) (T := TX12) (N := 32) hx hb hts inX12_ hown hK hP 0 rfl rfl 16 (by decide) fl39 (fun _ h9 => h9) rfl dX12_write_63 ?_
              refine lv_bipush (v := (nI 7)) hx hb dX12_write_66 (by decide) ?_
              refine nv_iald hx hb hK hP 1 0 rfl rfl (by omega) (by decide) dX12_write_68 ?_
              refine nv_top (y := (nI (rq.getD 7 0))) (oq3 _ (by omega)) ?_
              refine nv_if_ne (tgt := 76) hx hb (by omega) dX12_write_69 (by decide) (fun c69 => ?_) (fun c69 => ?_)
              · skip
                refine lv_iconst (v := (nI 0)) hx hb dX12_write_76 (by decide) ?_
                refine W.eq (g2 := F0 m 77 ls [.int (bI (false = true))]) (by rfl) ?_
                exact J77 false (by first | exact ⟨fun _ => by unfold wrP; omega, fun _ => rfl⟩ | exact ⟨fun z => absurd z (by decide), fun z => by unfold wrP at z; omega⟩) H locs ls hP hD hS (lv_sub hl [0] rfl)
              · skip
                refine lv_iconst (v := (nI 1)) hx hb dX12_write_72 (by decide) ?_
                refine lv_goto (tgt := 77) hx hb dX12_write_73 (by decide) ?_
                refine W.eq (g2 := F0 m 77 ls [.int (bI (true = true))]) (by rfl) ?_
                exact J77 true (by first | exact ⟨fun _ => by unfold wrP; omega, fun _ => rfl⟩ | exact ⟨fun z => absurd z (by decide), fun z => by unfold wrP at z; omega⟩) H locs ls hP hD hS (lv_sub hl [0] rfl)
set_option maxHeartbeats 4000000 in
set_option maxRecDepth 100000 in
theorem c_X12_control (l : Launch) (D : va_G) (cyI cyZ : ClassId) (h0 : Nat) (m_thrown m_values m_eventPoint m_eventValue m_events m_told m_over m_lost m_restart m_heard m_heardSize m_begun m_master m_part m_confirm m_sent m_sentCount m_sum m_number m_reply m_replySize : Value) (fr0 : Nat) (rq : List Nat) (rqf : Nat → Int32) (sl : Int32) (wt bn si ti ou0 : Nat) (fo : Nat → Int32) (an0 : Nat) (an : List Nat) (anf : Nat → Int32) (fn nr : Nat) (th : Bool) (nu ou vl ag : Nat) (okq : okB 60 rq rqf) (oka : okB 80 an anf) (h55 : an.length ≤ 55) (hfn : fn < 256) (hnr : nr < 16) (hsr : selR th nu ou vl ag sl wt bn si ti) : Cv l D yX12_control wsX12_control ({ frames := 1, cells := 0, slots := 0, locals := 30 } : Room) [.ref h0, .int (nI fn), .int (nI nr)] [(h0, .inr (12, [m_thrown, m_values, m_eventPoint, m_eventValue, m_events, m_told, m_over, m_lost, m_restart, .ref ou0, .int (nI ti), m_heard, m_heardSize, m_begun, m_master, m_part, .ref fr0, .int (nI rq.length), .int sl, .int (nI wt), .int (nI bn), .int (nI si), m_confirm, .ref an0, .int (nI an.length), .int (nI 0), m_sent, m_sentCount, m_sum, m_number, m_reply, m_replySize])), (fr0, .inl (cyI, 80, .inl rqf)), (ou0, .inl (cyI, 4, .inl fo)), (an0, .inl (cyI, 80, .inl anf))] (tyL cyI cyZ) (fun u : Nat × Bool × Nat × Nat × Nat × Nat × (Nat → Int32) × List Nat × (Nat → Int32) × Int32 × Nat × Nat × Nat => match u with | (sg2, th2, nu2, ou2, vl2, ag2, fo2, an2, anf2, sl2, wt2, bn2, si2) => (sg2, (th2, nu2, ou2, vl2, ag2), fo2, an2) = cmS rq fn nr (th, nu, ou, vl, ag) fo an ∧ okB 80 an2 anf2 ∧ an2.length ≤ an.length + 7 ∧ selR th2 nu2 ou2 vl2 ag2 sl2 wt2 bn2 si2 ti) (fun u : Nat × Bool × Nat × Nat × Nat × Nat × (Nat → Int32) × List Nat × (Nat → Int32) × Int32 × Nat × Nat × Nat => match u with | (sg2, th2, nu2, ou2, vl2, ag2, fo2, an2, anf2, sl2, wt2, bn2, si2) => [(h0, .inr (12, [m_thrown, m_values, m_eventPoint, m_eventValue, m_events, m_told, m_over, m_lost, m_restart, .ref ou0, .int (nI ti), m_heard, m_heardSize, m_begun, m_master, m_part, .ref fr0, .int (nI rq.length), .int sl2, .int (nI wt2), .int (nI bn2), .int (nI si2), m_confirm, .ref an0, .int (nI an2.length), .int (nI sg2), m_sent, m_sentCount, m_sum, m_number, m_reply, m_replySize])), (fr0, .inl (cyI, 80, .inl rqf)), (ou0, .inl (cyI, 4, .inl fo2)), (an0, .inl (cyI, 80, .inl anf2))]) 0 0 := by
  refine mk_Ct (cc := cX12_control) (maxL := 10) (ret := none) (by decide) rfl rfl ?_
  intro p e s m below meth c A Q ls hx hb hr hts hown hlocks hml hname hA hN hK hP hD hS hQ hl
  have hl : lv_has ls 10 [(0, .ref h0), (1, .int (nI fn)), (2, .int (nI nr))] := hl
  have inX12_ : ∀ w ∈ u_ws RX12 TX12 32, w ∈ wsX12_control := fun w h => List.mem_cons_of_mem _ (List.mem_append_right _ h)
  have fl42 : (Cond.fieldLink RX12 42 "OutStationModel" "selected" "I").before ([.ref h0, .int (nI fn), .int (nI nr)] : List Value).toArray s = true := hts _ (by decide +kernel)
  have fl39 : (Cond.fieldLink RX12 39 "OutStationModel" "fragment" "[I").before ([.ref h0, .int (nI fn), .int (nI nr)] : List Value).toArray s = true := hts _ (by decide +kernel)
  have fl171 : (Cond.fieldLink RX12 171 "OutStationModel" "wanted" "I").before ([.ref h0, .int (nI fn), .int (nI nr)] : List Value).toArray s = true := hts _ (by decide +kernel)
  have fl174 : (Cond.fieldLink RX12 174 "OutStationModel" "by" "I").before ([.ref h0, .int (nI fn), .int (nI nr)] : List Value).toArray s = true := hts _ (by decide +kernel)
  have fl73 : (Cond.fieldLink RX12 73 "OutStationModel" "time" "I").before ([.ref h0, .int (nI fn), .int (nI nr)] : List Value).toArray s = true := hts _ (by decide +kernel)
  have fl177 : (Cond.fieldLink RX12 177 "OutStationModel" "since" "I").before ([.ref h0, .int (nI fn), .int (nI nr)] : List Value).toArray s = true := hts _ (by decide +kernel)
  have fl33 : (Cond.fieldLink RX12 33 "OutStationModel" "outputs" "[I").before ([.ref h0, .int (nI fn), .int (nI nr)] : List Value).toArray s = true := hts _ (by decide +kernel)
  have fl129 : (Cond.fieldLink RX12 129 "OutStationModel" "signs" "I").before ([.ref h0, .int (nI fn), .int (nI nr)] : List Value).toArray s = true := hts _ (by decide +kernel)
  have fl114 : (Cond.fieldLink RX12 114 "OutStationModel" "size" "I").before ([.ref h0, .int (nI fn), .int (nI nr)] : List Value).toArray s = true := hts _ (by decide +kernel)
  have hown : s.vm.findClass RX12 = some m.cls := hown
  obtain ⟨H, eH9⟩ : ∃ H, H = s.heap := ⟨_, rfl⟩
  have hP : va_P D vwCl [(h0, .inr (12, [m_thrown, m_values, m_eventPoint, m_eventValue, m_events, m_told, m_over, m_lost, m_restart, .ref ou0, .int (nI ti), m_heard, m_heardSize, m_begun, m_master, m_part, .ref fr0, .int (nI rq.length), .int sl, .int (nI wt), .int (nI bn), .int (nI si), m_confirm, .ref an0, .int (nI an.length), .int (nI 0), m_sent, m_sentCount, m_sum, m_number, m_reply, m_replySize])), (fr0, .inl (cyI, 80, .inl rqf)), (ou0, .inl (cyI, 4, .inl fo)), (an0, .inl (cyI, 80, .inl anf))] H := by rw [eH9]; exact hP
  have hS : va_S A s.heap H [] := by rw [eH9]; exact hS
  obtain ⟨locs, eL9⟩ : ∃ z : List Loc, z = [] := ⟨_, rfl⟩
  rw [← eH9, ← eL9]
  have hS : va_S A s.heap H locs := by rw [eL9]; exact hS
  obtain ⟨oq1, oq2, oq3, oq4⟩ := id okq
  obtain ⟨oa1, oa2, oa3, oa4⟩ := id oka
  have g2 := oq4 2
  have g3 := oq4 3
  have g4 := oq4 4
  have g5 := oq4 5
  have g6 := oq4 6
  have g7 := oq4 7
  obtain ⟨s1, s2, s3, s4, s5, s6⟩ := id hsr
  have J56 : ∀ (gd : Bool), (gd = true ↔ cmP rq) → ∀ (H : Heap) (locs : List Loc) (ls : Array Slot), va_P D vwCl [(h0, .inr (12, [m_thrown, m_values, m_eventPoint, m_eventValue, m_events, m_told, m_over, m_lost, m_restart, .ref ou0, .int (nI ti), m_heard, m_heardSize, m_begun, m_master, m_part, .ref fr0, .int (nI rq.length), .int sl, .int (nI wt), .int (nI bn), .int (nI si), m_confirm, .ref an0, .int (nI an.length), .int (nI 0), m_sent, m_sentCount, m_sum, m_number, m_reply, m_replySize])), (fr0, .inl (cyI, 80, .inl rqf)), (ou0, .inl (cyI, 4, .inl fo)), (an0, .inl (cyI, 80, .inl anf))] H → va_D A [(h0, .inr (12, [m_thrown, m_values, m_eventPoint, m_eventValue, m_events, m_told, m_over, m_lost, m_restart, .ref ou0, .int (nI ti), m_heard, m_heardSize, m_begun, m_master, m_part, .ref fr0, .int (nI rq.length), .int sl, .int (nI wt), .int (nI bn), .int (nI si), m_confirm, .ref an0, .int (nI an.length), .int (nI 0), m_sent, m_sentCount, m_sum, m_number, m_reply, m_replySize])), (fr0, .inl (cyI, 80, .inl rqf)), (ou0, .inl (cyI, 4, .inl fo)), (an0, .inl (cyI, 80, .inl anf))] → va_S A s.heap H locs → lv_has ls 10 [(0, .ref h0), (1, .int (nI fn)), (2, .int (nI nr))] → W p l e ({ frames := 1, cells := 0, slots := 0, locals := 30 } : Room) s m ([.ref h0, .int (nI fn), .int (nI nr)] : List Value).toArray below meth c H locs 0 0 Q (F0 m 56 ls [.int (bI (gd = true))]) := by
    intro gd hgd H locs ls hP hD hS hl
    refine lv_istore_n (lv' := [(3, .int (bI (gd = true))), (0, .ref h0), (1, .int (nI fn)), (2, .int (nI nr))]) hx hb dX12_control_56 rfl hl (by decide) rfl (fun ls hl => ?_)
    refine lv_aload_n hx hb dX12_control_57 rfl (lv_at hl 1 rfl) ?_
    refine va_get (D := D) (ci := 12) (v := .int sl) (C := RX12) (T := TX12) (N := 32) hx hb hts inX12_ hown hK hP 0 rfl rfl 18 (by decide) fl42 (fun _ h9 => h9) rfl dX12_control_58 ?_
    refine lv_istore (lv' := [(4, .int sl), (3, .int (bI (gd = true))), (0, .ref h0), (1, .int (nI fn)), (2, .int (nI nr))]) hx hb dX12_control_61 hl (by decide) rfl (fun ls hl => ?_)
    refine lv_aload_n hx hb dX12_control_63 rfl (lv_at hl 2 rfl) ?_
    refine lv_iconst (v := (-1)) hx hb dX12_control_64 (by decide) ?_
    refine va_put (D := D) (ci := 12) (v := .int (-1)) (ty := .int) (C := RX12) (T := TX12) (N := 32) hx hb hts inX12_ tyX12 tyX12_ok nmX12 hown hK hP hD hS 0 rfl rfl 18 (by decide) fl42 (fun _ h9 => h9) rfl (by decide +kernel) rfl rfl (Nat.le_of_ble_eq_true rfl) dX12_control_65 (fun H locs hP hD hS => ?_)
    have hP : va_P D vwCl [(h0, .inr (12, [m_thrown, m_values, m_eventPoint, m_eventValue, m_events, m_told, m_over, m_lost, m_restart, .ref ou0, .int (nI ti), m_heard, m_heardSize, m_begun, m_master, m_part, .ref fr0, .int (nI rq.length), .int (-1), .int (nI wt), .int (nI bn), .int (nI si), m_confirm, .ref an0, .int (nI an.length), .int (nI 0), m_sent, m_sentCount, m_sum, m_number, m_reply, m_replySize])), (fr0, .inl (cyI, 80, .inl rqf)), (ou0, .inl (cyI, 4, .inl fo)), (an0, .inl (cyI, 80, .inl anf))] H := hP
    have hD : va_D A [(h0, .inr (12, [m_thrown, m_values, m_eventPoint, m_eventValue, m_events, m_told, m_over, m_lost, m_restart, .ref ou0, .int (nI ti), m_heard, m_heardSize, m_begun, m_master, m_part, .ref fr0, .int (nI rq.length), .int (-1), .int (nI wt), .int (nI bn), .int (nI si), m_confirm, .ref an0, .int (nI an.length), .int (nI 0), m_sent, m_sentCount, m_sum, m_number, m_reply, m_replySize])), (fr0, .inl (cyI, 80, .inl rqf)), (ou0, .inl (cyI, 4, .inl fo)), (an0, .inl (cyI, 80, .inl anf))] := hD
    refine lv_iload_n hx hb dX12_control_68 rfl (lv_at hl 1 rfl) ?_
    refine bv_if_ne (tgt := 78) hx hb dX12_control_69 (by decide) (fun c69 => ?_) (fun c69 => ?_)
    · skip
      have hcm := hgd.mp c69
      have hc8 := hcm.1
      refine lv_aload_n hx hb dX12_control_78 rfl (lv_at hl 2 rfl) ?_
      refine va_get (D := D) (ci := 12) (v := .ref fr0) (C := RX12) (T := TX12) (N := 32) hx hb hts inX12_ hown hK hP 0 rfl rfl 16 (by decide) fl39 (fun _ h9 => h9) rfl dX12_control_79 ?_
      refine lv_bipush (v := (nI 6)) hx hb dX12_control_82 (by decide) ?_
      refine nv_iald hx hb hK hP 1 0 rfl rfl (by omega) (by decide) dX12_control_84 ?_
      refine nv_top (y := (nI (rq.getD 6 0))) (oq3 _ (by omega)) ?_
      refine lv_istore (lv' := [(5, .int (nI (rq.getD 6 0))), (4, .int sl), (3, .int (bI (gd = true))), (0, .ref h0), (1, .int (nI fn)), (2, .int (nI nr))]) hx hb dX12_control_85 hl (by decide) rfl (fun ls hl => ?_)
      refine lv_aload_n hx hb dX12_control_87 rfl (lv_at hl 3 rfl) ?_
      refine va_get (D := D) (ci := 12) (v := .ref fr0) (C := RX12) (T := TX12) (N := 32) hx hb hts inX12_ hown hK hP 0 rfl rfl 16 (by decide) fl39 (fun _ h9 => h9) rfl dX12_control_88 ?_
      refine lv_bipush (v := (nI 7)) hx hb dX12_control_91 (by decide) ?_
      refine nv_iald hx hb hK hP 1 0 rfl rfl (by omega) (by decide) dX12_control_93 ?_
      refine nv_top (y := (nI (rq.getD 7 0))) (oq3 _ (by omega)) ?_
      refine lv_istore (lv' := [(6, .int (nI (rq.getD 7 0))), (5, .int (nI (rq.getD 6 0))), (4, .int sl), (3, .int (bI (gd = true))), (0, .ref h0), (1, .int (nI fn)), (2, .int (nI nr))]) hx hb dX12_control_94 hl (by decide) rfl (fun ls hl => ?_)
      have J130 : ∀ (ot : Bool), (ot = true ↔ (¬ sl = nI (rq.getD 6 0) ∨ ¬ wt = rq.getD 7 0 ∨ ¬ (bn + 1) % 16 = nr)) → ∀ (H : Heap) (locs : List Loc) (ls : Array Slot), va_P D vwCl [(h0, .inr (12, [m_thrown, m_values, m_eventPoint, m_eventValue, m_events, m_told, m_over, m_lost, m_restart, .ref ou0, .int (nI ti), m_heard, m_heardSize, m_begun, m_master, m_part, .ref fr0, .int (nI rq.length), .int (-1), .int (nI wt), .int (nI bn), .int (nI si), m_confirm, .ref an0, .int (nI an.length), .int (nI 0), m_sent, m_sentCount, m_sum, m_number, m_reply, m_replySize])), (fr0, .inl (cyI, 80, .inl rqf)), (ou0, .inl (cyI, 4, .inl fo)), (an0, .inl (cyI, 80, .inl anf))] H → va_D A [(h0, .inr (12, [m_thrown, m_values, m_eventPoint, m_eventValue, m_events, m_told, m_over, m_lost, m_restart, .ref ou0, .int (nI ti), m_heard, m_heardSize, m_begun, m_master, m_part, .ref fr0, .int (nI rq.length), .int (-1), .int (nI wt), .int (nI bn), .int (nI si), m_confirm, .ref an0, .int (nI an.length), .int (nI 0), m_sent, m_sentCount, m_sum, m_number, m_reply, m_replySize])), (fr0, .inl (cyI, 80, .inl rqf)), (ou0, .inl (cyI, 4, .inl fo)), (an0, .inl (cyI, 80, .inl anf))] → va_S A s.heap H locs → lv_has ls 10 [(0, .ref h0), (1, .int (nI fn)), (2, .int (nI nr)), (5, .int (nI (rq.getD 6 0))), (6, .int (nI (rq.getD 7 0)))] → W p l e ({ frames := 1, cells := 0, slots := 0, locals := 30 } : Room) s m ([.ref h0, .int (nI fn), .int (nI nr)] : List Value).toArray below meth c H locs 0 0 Q (F0 m 130 ls [.int (bI (ot = true))]) := by
        intro ot hot H locs ls hP hD hS hl
        have J195 : ∀ (sv : Nat), (sv = stSel th nu ou vl ag fn nr (rq.getD 6 0) (rq.getD 7 0)) → ∀ (H : Heap) (locs : List Loc) (ls : Array Slot), va_P D vwCl [(h0, .inr (12, [m_thrown, m_values, m_eventPoint, m_eventValue, m_events, m_told, m_over, m_lost, m_restart, .ref ou0, .int (nI ti), m_heard, m_heardSize, m_begun, m_master, m_part, .ref fr0, .int (nI rq.length), .int (-1), .int (nI wt), .int (nI bn), .int (nI si), m_confirm, .ref an0, .int (nI an.length), .int (nI 0), m_sent, m_sentCount, m_sum, m_number, m_reply, m_replySize])), (fr0, .inl (cyI, 80, .inl rqf)), (ou0, .inl (cyI, 4, .inl fo)), (an0, .inl (cyI, 80, .inl anf))] H → va_D A [(h0, .inr (12, [m_thrown, m_values, m_eventPoint, m_eventValue, m_events, m_told, m_over, m_lost, m_restart, .ref ou0, .int (nI ti), m_heard, m_heardSize, m_begun, m_master, m_part, .ref fr0, .int (nI rq.length), .int (-1), .int (nI wt), .int (nI bn), .int (nI si), m_confirm, .ref an0, .int (nI an.length), .int (nI 0), m_sent, m_sentCount, m_sum, m_number, m_reply, m_replySize])), (fr0, .inl (cyI, 80, .inl rqf)), (ou0, .inl (cyI, 4, .inl fo)), (an0, .inl (cyI, 80, .inl anf))] → va_S A s.heap H locs → lv_has ls 10 [(0, .ref h0), (1, .int (nI fn)), (2, .int (nI nr)), (5, .int (nI (rq.getD 6 0))), (6, .int (nI (rq.getD 7 0)))] → W p l e ({ frames := 1, cells := 0, slots := 0, locals := 30 } : Room) s m ([.ref h0, .int (nI fn), .int (nI nr)] : List Value).toArray below meth c H locs 0 0 Q (F0 m 195 ls [.int (nI sv)]) := by
          intro sv hsv H locs ls hP hD hS hl
          refine lv_istore (lv' := [(8, .int (nI sv)), (0, .ref h0), (1, .int (nI fn)), (2, .int (nI nr)), (5, .int (nI (rq.getD 6 0))), (6, .int (nI (rq.getD 7 0)))]) hx hb dX12_control_195 hl (by decide) rfl (fun ls hl => ?_)
          have hs4 : sv ≤ 4 := by rw [hsv]; exact stSel_le ..
          have hs0 : sv = 0 → rq.getD 6 0 < 4 := fun z => stSel_x (hsv.symm.trans z)
          have hs0v : sv = 0 → (rq.getD 7 0 = 3 ∨ rq.getD 7 0 = 4) := fun z => stSel_v (hsv.symm.trans z)
          refine lv_iload hx hb dX12_control_197 (lv_at hl 0 rfl) ?_
          have J253 : ∀ (sl1 : Int32) (wt1 bn1 si1 : Nat) (fo1 : Nat → Int32) (th1 : Bool) (nu1 ou1 vl1 ag1 : Nat), ((th1, nu1, ou1, vl1, ag1) = (if stSel th nu ou vl ag fn nr (rq.getD 6 0) (rq.getD 7 0) = 0 ∧ fn = 3 then (true, nr, rq.getD 6 0, rq.getD 7 0, 0) else (false, nu, ou, vl, ag))) → (fo1 = (if stSel th nu ou vl ag fn nr (rq.getD 6 0) (rq.getD 7 0) = 0 ∧ fn ≠ 3 then upd fo (rq.getD 6 0) (if rq.getD 7 0 = 3 then 1 else 0) else fo)) → (selR th1 nu1 ou1 vl1 ag1 sl1 wt1 bn1 si1 ti) → ∀ (H : Heap) (locs : List Loc) (ls : Array Slot), va_P D vwCl [(h0, .inr (12, [m_thrown, m_values, m_eventPoint, m_eventValue, m_events, m_told, m_over, m_lost, m_restart, .ref ou0, .int (nI ti), m_heard, m_heardSize, m_begun, m_master, m_part, .ref fr0, .int (nI rq.length), .int sl1, .int (nI wt1), .int (nI bn1), .int (nI si1), m_confirm, .ref an0, .int (nI an.length), .int (nI 0), m_sent, m_sentCount, m_sum, m_number, m_reply, m_replySize])), (fr0, .inl (cyI, 80, .inl rqf)), (ou0, .inl (cyI, 4, .inl fo1)), (an0, .inl (cyI, 80, .inl anf))] H → va_D A [(h0, .inr (12, [m_thrown, m_values, m_eventPoint, m_eventValue, m_events, m_told, m_over, m_lost, m_restart, .ref ou0, .int (nI ti), m_heard, m_heardSize, m_begun, m_master, m_part, .ref fr0, .int (nI rq.length), .int sl1, .int (nI wt1), .int (nI bn1), .int (nI si1), m_confirm, .ref an0, .int (nI an.length), .int (nI 0), m_sent, m_sentCount, m_sum, m_number, m_reply, m_replySize])), (fr0, .inl (cyI, 80, .inl rqf)), (ou0, .inl (cyI, 4, .inl fo1)), (an0, .inl (cyI, 80, .inl anf))] → va_S A s.heap H locs → lv_has ls 10 [(0, .ref h0), (8, .int (nI sv))] → W p l e ({ frames := 1, cells := 0, slots := 0, locals := 30 } : Room) s m ([.ref h0, .int (nI fn), .int (nI nr)] : List Value).toArray below meth c H locs 0 0 Q (F0 m 253 ls []) := by
            intro sl1 wt1 bn1 si1 fo1 th1 nu1 ou1 vl1 ag1 hcs hcf hs1 H locs ls hP hD hS hl
            refine lv_iconst (v := (nI 2)) hx hb dX12_control_253 (by decide) ?_
            refine lv_istore (lv' := [(9, .int (nI 2)), (0, .ref h0), (8, .int (nI sv))]) hx hb dX12_control_254 hl (by decide) rfl (fun ls hl => ?_)
            have L256 : ∀ (n9_256 : Nat) (i : Nat) (an1l : List Nat) (anf1 : Nat → Int32), (2 ≤ i) → (i ≤ 8) → (an1l = an ++ (List.range (i - 2)).map (fun z => rq.getD (z + 2) 0)) → (okB 80 an1l anf1) → (8 - i) < n9_256 → ∀ (H : Heap) (locs : List Loc) (ls : Array Slot), va_P D vwCl [(h0, .inr (12, [m_thrown, m_values, m_eventPoint, m_eventValue, m_events, m_told, m_over, m_lost, m_restart, .ref ou0, .int (nI ti), m_heard, m_heardSize, m_begun, m_master, m_part, .ref fr0, .int (nI rq.length), .int sl1, .int (nI wt1), .int (nI bn1), .int (nI si1), m_confirm, .ref an0, .int (nI an1l.length), .int (nI 0), m_sent, m_sentCount, m_sum, m_number, m_reply, m_replySize])), (fr0, .inl (cyI, 80, .inl rqf)), (ou0, .inl (cyI, 4, .inl fo1)), (an0, .inl (cyI, 80, .inl anf1))] H → va_D A [(h0, .inr (12, [m_thrown, m_values, m_eventPoint, m_eventValue, m_events, m_told, m_over, m_lost, m_restart, .ref ou0, .int (nI ti), m_heard, m_heardSize, m_begun, m_master, m_part, .ref fr0, .int (nI rq.length), .int sl1, .int (nI wt1), .int (nI bn1), .int (nI si1), m_confirm, .ref an0, .int (nI an1l.length), .int (nI 0), m_sent, m_sentCount, m_sum, m_number, m_reply, m_replySize])), (fr0, .inl (cyI, 80, .inl rqf)), (ou0, .inl (cyI, 4, .inl fo1)), (an0, .inl (cyI, 80, .inl anf1))] → va_S A s.heap H locs → lv_has ls 10 [(0, .ref h0), (8, .int (nI sv)), (9, .int (nI i))] → W p l e ({ frames := 1, cells := 0, slots := 0, locals := 30 } : Room) s m ([.ref h0, .int (nI fn), .int (nI nr)] : List Value).toArray below meth c H locs 0 0 Q (F0 m 256 ls []) := by
              intro n9_256
              induction n9_256 with
              | zero =>
                intro i an1l anf1 hi1 hi2 hal okl hm9
                exact absurd hm9 (Nat.not_lt_zero _)
              | succ n9_256 ih256 =>
                intro i an1l anf1 hi1 hi2 hal okl hm9_256 H locs ls hP hD hS hl
                have hl1 : an1l.length = an.length + (i - 2) := by rw [hal]; simp
                refine lv_iload hx hb dX12_control_256 (lv_at hl 2 rfl) ?_
                refine lv_bipush (v := (nI 8)) hx hb dX12_control_258 (by decide) ?_
                refine nv_icmp_ge (tgt := 280) hx hb (by omega) (by omega) dX12_control_260 (by decide) (fun c260 => ?_) (fun c260 => ?_)
                · skip
                  refine lv_aload_n hx hb dX12_control_280 rfl (lv_at hl 0 rfl) ?_
                  refine lv_iload hx hb dX12_control_281 (lv_at hl 1 rfl) ?_
                  refine res_v (wW := [(h0, .inr (12, [m_thrown, m_values, m_eventPoint, m_eventValue, m_events, m_told, m_over, m_lost, m_restart, .ref ou0, .int (nI ti), m_heard, m_heardSize, m_begun, m_master, m_part, .ref fr0, .int (nI rq.length), .int sl1, .int (nI wt1), .int (nI bn1), .int (nI si1), m_confirm, .ref an0, .int (nI an1l.length), .int (nI 0), m_sent, m_sentCount, m_sum, m_number, m_reply, m_replySize])), (fr0, .inl (cyI, 80, .inl rqf)), (ou0, .inl (cyI, 4, .inl fo1)), (an0, .inl (cyI, 80, .inl anf1))]) (Wc := [(h0, .inr (12, [m_thrown, m_values, m_eventPoint, m_eventValue, m_events, m_told, m_over, m_lost, m_restart, .ref ou0, .int (nI ti), m_heard, m_heardSize, m_begun, m_master, m_part, .ref fr0, .int (nI rq.length), .int sl1, .int (nI wt1), .int (nI bn1), .int (nI si1), m_confirm, .ref an0, .int (nI an1l.length), .int (nI 0), m_sent, m_sentCount, m_sum, m_number, m_reply, m_replySize])), (an0, .inl (cyI, 80, .inl anf1))]) (Wr := [(fr0, .inl (cyI, 80, .inl rqf)), (ou0, .inl (cyI, 4, .inl fo1))]) (run_V (QA := fun A => va_Qv _ (bw D _ (tyL cyI cyZ) A) A) (rmC := ({ frames := 0, cells := 0, slots := 0, locals := 0 } : Room)) (mc := 0) (ms := 0) (As := [.int (nI sv)]) (rest := []) (ci := 12) (wW := [(h0, .inr (12, [m_thrown, m_values, m_eventPoint, m_eventValue, m_events, m_told, m_over, m_lost, m_restart, .ref ou0, .int (nI ti), m_heard, m_heardSize, m_begun, m_master, m_part, .ref fr0, .int (nI rq.length), .int sl1, .int (nI wt1), .int (nI bn1), .int (nI si1), m_confirm, .ref an0, .int (nI an1l.length), .int (nI 0), m_sent, m_sentCount, m_sum, m_number, m_reply, m_replySize])), (fr0, .inl (cyI, 80, .inl rqf)), (ou0, .inl (cyI, 4, .inl fo1)), (an0, .inl (cyI, 80, .inl anf1))]) (Wc := [(h0, .inr (12, [m_thrown, m_values, m_eventPoint, m_eventValue, m_events, m_told, m_over, m_lost, m_restart, .ref ou0, .int (nI ti), m_heard, m_heardSize, m_begun, m_master, m_part, .ref fr0, .int (nI rq.length), .int sl1, .int (nI wt1), .int (nI bn1), .int (nI si1), m_confirm, .ref an0, .int (nI an1l.length), .int (nI 0), m_sent, m_sentCount, m_sum, m_number, m_reply, m_replySize])), (an0, .inl (cyI, 80, .inl anf1))]) ⟨hx, hb, hml, hown, hts⟩ (c_X12_add_N l D cyI cyZ h0 (m_thrown) (m_values) (m_eventPoint) (m_eventValue) (m_events) (m_told) (m_over) (m_lost) (m_restart) (.ref ou0) (.int (nI ti)) (m_heard) (m_heardSize) (m_begun) (m_master) (m_part) (.ref fr0) (.int (nI rq.length)) (.int sl1) (.int (nI wt1)) (.int (nI bn1)) (.int (nI si1)) (m_confirm) (.int (nI 0)) (m_sent) (m_sentCount) (m_sum) (m_number) (m_reply) (m_replySize) an0 an1l anf1 sv (okl) (by omega) (by omega)) (cwV 1 hts gX12_control_X12_add rfl rfl rfl (by decide +kernel) ⟨Nat.le_of_ble_eq_true rfl, Nat.le_of_ble_eq_true rfl⟩) hN hK hP hD [0, 3] rfl (by decide) 0 rfl rfl rfl hl.1 rfl rfl dX12_control_283 ⟨Nat.le_of_ble_eq_true rfl, Nat.le_of_ble_eq_true rfl⟩) hP hD hS hA [0, 3] [1, 2] rfl rfl (by decide) (by decide) (fun anf2_283 H locs w283 hP hD hS => ?_)
                  have w283 : okB 80 (an1l ++ [sv]) anf2_283 := w283
                  have hP : va_P D vwCl [(fr0, .inl (cyI, 80, .inl rqf)), (ou0, .inl (cyI, 4, .inl fo1)), (h0, .inr (12, [m_thrown, m_values, m_eventPoint, m_eventValue, m_events, m_told, m_over, m_lost, m_restart, .ref ou0, .int (nI ti), m_heard, m_heardSize, m_begun, m_master, m_part, .ref fr0, .int (nI rq.length), .int sl1, .int (nI wt1), .int (nI bn1), .int (nI si1), m_confirm, .ref an0, .int (nI ((an1l ++ [sv]).length)), .int (nI 0), m_sent, m_sentCount, m_sum, m_number, m_reply, m_replySize])), (an0, .inl (cyI, 80, .inl anf2_283))] H := hP
                  have hD : va_D A [(fr0, .inl (cyI, 80, .inl rqf)), (ou0, .inl (cyI, 4, .inl fo1)), (h0, .inr (12, [m_thrown, m_values, m_eventPoint, m_eventValue, m_events, m_told, m_over, m_lost, m_restart, .ref ou0, .int (nI ti), m_heard, m_heardSize, m_begun, m_master, m_part, .ref fr0, .int (nI rq.length), .int sl1, .int (nI wt1), .int (nI bn1), .int (nI si1), m_confirm, .ref an0, .int (nI ((an1l ++ [sv]).length)), .int (nI 0), m_sent, m_sentCount, m_sum, m_number, m_reply, m_replySize])), (an0, .inl (cyI, 80, .inl anf2_283))] := hD
                  have hP : va_P D vwCl [(h0, .inr (12, [m_thrown, m_values, m_eventPoint, m_eventValue, m_events, m_told, m_over, m_lost, m_restart, .ref ou0, .int (nI ti), m_heard, m_heardSize, m_begun, m_master, m_part, .ref fr0, .int (nI rq.length), .int sl1, .int (nI wt1), .int (nI bn1), .int (nI si1), m_confirm, .ref an0, .int (nI ((an1l ++ [sv]).length)), .int (nI 0), m_sent, m_sentCount, m_sum, m_number, m_reply, m_replySize])), (fr0, .inl (cyI, 80, .inl rqf)), (ou0, .inl (cyI, 4, .inl fo1)), (an0, .inl (cyI, 80, .inl anf2_283))] H := pickP hP [2, 0, 1, 3] rfl
                  have hD : va_D A [(h0, .inr (12, [m_thrown, m_values, m_eventPoint, m_eventValue, m_events, m_told, m_over, m_lost, m_restart, .ref ou0, .int (nI ti), m_heard, m_heardSize, m_begun, m_master, m_part, .ref fr0, .int (nI rq.length), .int sl1, .int (nI wt1), .int (nI bn1), .int (nI si1), m_confirm, .ref an0, .int (nI ((an1l ++ [sv]).length)), .int (nI 0), m_sent, m_sentCount, m_sum, m_number, m_reply, m_replySize])), (fr0, .inl (cyI, 80, .inl rqf)), (ou0, .inl (cyI, 4, .inl fo1)), (an0, .inl (cyI, 80, .inl anf2_283))] := hD.sub [2, 0, 1, 3] (by decide) rfl
                  exact ret_v hQ hx hb hr hlocks dX12_control_286 hK hS (0, th1, nu1, ou1, vl1, ag1, fo1, an1l ++ [sv], anf2_283, sl1, wt1, bn1, si1) (⟨by rw [cmS_y hcm, ← hcs, ← hcf, hal, show i - 2 = 6 by omega, ← hsv], w283, by rw [List.length_append, hl1]; simp only [List.length_cons, List.length_nil]; omega, hs1⟩) hP hD
                · skip
                  have gi := oq4 i
                  refine lv_aload_n hx hb dX12_control_263 rfl (lv_at hl 0 rfl) ?_
                  refine lv_aload_n hx hb dX12_control_264 rfl (lv_at hl 0 rfl) ?_
                  refine va_get (D := D) (ci := 12) (v := .ref fr0) (C := RX12) (T := TX12) (N := 32) hx hb hts inX12_ hown hK hP 0 rfl rfl 16 (by decide) fl39 (fun _ h9 => h9) rfl dX12_control_265 ?_
                  refine lv_iload hx hb dX12_control_268 (lv_at hl 2 rfl) ?_
                  refine nv_iald hx hb hK hP 1 0 rfl rfl (by omega) (by decide) dX12_control_270 ?_
                  refine nv_top (y := (nI (rq.getD i 0))) (oq3 _ (by omega)) ?_
                  refine res_v (wW := [(h0, .inr (12, [m_thrown, m_values, m_eventPoint, m_eventValue, m_events, m_told, m_over, m_lost, m_restart, .ref ou0, .int (nI ti), m_heard, m_heardSize, m_begun, m_master, m_part, .ref fr0, .int (nI rq.length), .int sl1, .int (nI wt1), .int (nI bn1), .int (nI si1), m_confirm, .ref an0, .int (nI an1l.length), .int (nI 0), m_sent, m_sentCount, m_sum, m_number, m_reply, m_replySize])), (fr0, .inl (cyI, 80, .inl rqf)), (ou0, .inl (cyI, 4, .inl fo1)), (an0, .inl (cyI, 80, .inl anf1))]) (Wc := [(h0, .inr (12, [m_thrown, m_values, m_eventPoint, m_eventValue, m_events, m_told, m_over, m_lost, m_restart, .ref ou0, .int (nI ti), m_heard, m_heardSize, m_begun, m_master, m_part, .ref fr0, .int (nI rq.length), .int sl1, .int (nI wt1), .int (nI bn1), .int (nI si1), m_confirm, .ref an0, .int (nI an1l.length), .int (nI 0), m_sent, m_sentCount, m_sum, m_number, m_reply, m_replySize])), (an0, .inl (cyI, 80, .inl anf1))]) (Wr := [(fr0, .inl (cyI, 80, .inl rqf)), (ou0, .inl (cyI, 4, .inl fo1))]) (run_V (QA := fun A => va_Qv _ (bw D _ (tyL cyI cyZ) A) A) (rmC := ({ frames := 0, cells := 0, slots := 0, locals := 0 } : Room)) (mc := 0) (ms := 0) (As := [.int (nI (rq.getD i 0))]) (rest := []) (ci := 12) (wW := [(h0, .inr (12, [m_thrown, m_values, m_eventPoint, m_eventValue, m_events, m_told, m_over, m_lost, m_restart, .ref ou0, .int (nI ti), m_heard, m_heardSize, m_begun, m_master, m_part, .ref fr0, .int (nI rq.length), .int sl1, .int (nI wt1), .int (nI bn1), .int (nI si1), m_confirm, .ref an0, .int (nI an1l.length), .int (nI 0), m_sent, m_sentCount, m_sum, m_number, m_reply, m_replySize])), (fr0, .inl (cyI, 80, .inl rqf)), (ou0, .inl (cyI, 4, .inl fo1)), (an0, .inl (cyI, 80, .inl anf1))]) (Wc := [(h0, .inr (12, [m_thrown, m_values, m_eventPoint, m_eventValue, m_events, m_told, m_over, m_lost, m_restart, .ref ou0, .int (nI ti), m_heard, m_heardSize, m_begun, m_master, m_part, .ref fr0, .int (nI rq.length), .int sl1, .int (nI wt1), .int (nI bn1), .int (nI si1), m_confirm, .ref an0, .int (nI an1l.length), .int (nI 0), m_sent, m_sentCount, m_sum, m_number, m_reply, m_replySize])), (an0, .inl (cyI, 80, .inl anf1))]) ⟨hx, hb, hml, hown, hts⟩ (c_X12_add_N l D cyI cyZ h0 (m_thrown) (m_values) (m_eventPoint) (m_eventValue) (m_events) (m_told) (m_over) (m_lost) (m_restart) (.ref ou0) (.int (nI ti)) (m_heard) (m_heardSize) (m_begun) (m_master) (m_part) (.ref fr0) (.int (nI rq.length)) (.int sl1) (.int (nI wt1)) (.int (nI bn1)) (.int (nI si1)) (m_confirm) (.int (nI 0)) (m_sent) (m_sentCount) (m_sum) (m_number) (m_reply) (m_replySize) an0 an1l anf1 (rq.getD i 0) (okl) (by omega) (gi)) (cwV 1 hts gX12_control_X12_add rfl rfl rfl (by decide +kernel) ⟨Nat.le_of_ble_eq_true rfl, Nat.le_of_ble_eq_true rfl⟩) hN hK hP hD [0, 3] rfl (by decide) 0 rfl rfl rfl hl.1 rfl rfl dX12_control_271 ⟨Nat.le_of_ble_eq_true rfl, Nat.le_of_ble_eq_true rfl⟩) hP hD hS hA [0, 3] [1, 2] rfl rfl (by decide) (by decide) (fun anf2_271 H locs w271 hP hD hS => ?_)
                  have w271 : okB 80 (an1l ++ [(rq.getD i 0)]) anf2_271 := w271
                  have hP : va_P D vwCl [(fr0, .inl (cyI, 80, .inl rqf)), (ou0, .inl (cyI, 4, .inl fo1)), (h0, .inr (12, [m_thrown, m_values, m_eventPoint, m_eventValue, m_events, m_told, m_over, m_lost, m_restart, .ref ou0, .int (nI ti), m_heard, m_heardSize, m_begun, m_master, m_part, .ref fr0, .int (nI rq.length), .int sl1, .int (nI wt1), .int (nI bn1), .int (nI si1), m_confirm, .ref an0, .int (nI ((an1l ++ [(rq.getD i 0)]).length)), .int (nI 0), m_sent, m_sentCount, m_sum, m_number, m_reply, m_replySize])), (an0, .inl (cyI, 80, .inl anf2_271))] H := hP
                  have hD : va_D A [(fr0, .inl (cyI, 80, .inl rqf)), (ou0, .inl (cyI, 4, .inl fo1)), (h0, .inr (12, [m_thrown, m_values, m_eventPoint, m_eventValue, m_events, m_told, m_over, m_lost, m_restart, .ref ou0, .int (nI ti), m_heard, m_heardSize, m_begun, m_master, m_part, .ref fr0, .int (nI rq.length), .int sl1, .int (nI wt1), .int (nI bn1), .int (nI si1), m_confirm, .ref an0, .int (nI ((an1l ++ [(rq.getD i 0)]).length)), .int (nI 0), m_sent, m_sentCount, m_sum, m_number, m_reply, m_replySize])), (an0, .inl (cyI, 80, .inl anf2_271))] := hD
                  refine lv_iinc (v := (nI (i + 1))) (lv' := [(9, .int (nI (i + 1))), (0, .ref h0), (8, .int (nI sv))]) hx hb dX12_control_274 hl (k := 2) rfl (nI_add _ _) (by decide) rfl (fun ls hl => ?_)
                  refine lv_goto (tgt := 256) hx hb dX12_control_277 (by decide) ?_
                  have hP : va_P D vwCl [(h0, .inr (12, [m_thrown, m_values, m_eventPoint, m_eventValue, m_events, m_told, m_over, m_lost, m_restart, .ref ou0, .int (nI ti), m_heard, m_heardSize, m_begun, m_master, m_part, .ref fr0, .int (nI rq.length), .int sl1, .int (nI wt1), .int (nI bn1), .int (nI si1), m_confirm, .ref an0, .int (nI ((an1l ++ [(rq.getD i 0)]).length)), .int (nI 0), m_sent, m_sentCount, m_sum, m_number, m_reply, m_replySize])), (fr0, .inl (cyI, 80, .inl rqf)), (ou0, .inl (cyI, 4, .inl fo1)), (an0, .inl (cyI, 80, .inl anf2_271))] H := pickP hP [2, 0, 1, 3] rfl
                  have hD : va_D A [(h0, .inr (12, [m_thrown, m_values, m_eventPoint, m_eventValue, m_events, m_told, m_over, m_lost, m_restart, .ref ou0, .int (nI ti), m_heard, m_heardSize, m_begun, m_master, m_part, .ref fr0, .int (nI rq.length), .int sl1, .int (nI wt1), .int (nI bn1), .int (nI si1), m_confirm, .ref an0, .int (nI ((an1l ++ [(rq.getD i 0)]).length)), .int (nI 0), m_sent, m_sentCount, m_sum, m_number, m_reply, m_replySize])), (fr0, .inl (cyI, 80, .inl rqf)), (ou0, .inl (cyI, 4, .inl fo1)), (an0, .inl (cyI, 80, .inl anf2_271))] := hD.sub [2, 0, 1, 3] (by decide) rfl
                  exact ih256 (i + 1) (an1l ++ [(rq.getD i 0)]) anf2_271 (by omega) (by omega) (by rw [hal, show i + 1 - 2 = (i - 2) + 1 by omega, List.range_succ]; simp [show i - 2 + 2 = i by omega]) (w271) (by omega) H locs ls hP hD hS (lv_sub hl [1, 2, 0] rfl)
            exact L256 _ 2 an anf (by omega) (by omega) (by simp) (oka) (Nat.lt_succ_self _) H locs ls hP hD hS (lv_sub hl [1, 2, 0] rfl)
          refine nv_if_ne (tgt := 218) hx hb (by omega) dX12_control_199 (by decide) (fun c199 => ?_) (fun c199 => ?_)
          · skip
            refine lv_iload hx hb dX12_control_218 (lv_at hl 0 rfl) ?_
            refine nv_if_ne (tgt := 253) hx hb (by omega) dX12_control_220 (by decide) (fun c220 => ?_) (fun c220 => ?_)
            · skip
              exact J253 (-1) wt bn si fo false nu ou vl ag (by rw [← hsv]; (repeat' split) <;> first | rfl | (exfalso; omega)) (by rw [← hsv]; (repeat' split) <;> first | rfl | exact upd_v (hs0v c199) | (exfalso; omega)) (selR_f hsr) H locs ls hP hD hS (lv_sub hl [1, 0] rfl)
            · exfalso; omega
          · skip
            refine lv_iload_n hx hb dX12_control_202 rfl (lv_at hl 2 rfl) ?_
            refine lv_iconst (v := (nI 3)) hx hb dX12_control_203 (by decide) ?_
            refine nv_icmp_eq (tgt := 218) hx hb (by omega) (by omega) dX12_control_204 (by decide) (fun c204 => ?_) (fun c204 => ?_)
            · skip
              refine lv_iload hx hb dX12_control_218 (lv_at hl 0 rfl) ?_
              refine nv_if_ne (tgt := 253) hx hb (by omega) dX12_control_220 (by decide) (fun c220 => ?_) (fun c220 => ?_)
              · exfalso; omega
              · skip
                refine lv_iload_n hx hb dX12_control_223 rfl (lv_at hl 2 rfl) ?_
                refine lv_iconst (v := (nI 3)) hx hb dX12_control_224 (by decide) ?_
                refine nv_icmp_ne (tgt := 253) hx hb (by omega) (by omega) dX12_control_225 (by decide) (fun c225 => ?_) (fun c225 => ?_)
                · exfalso; omega
                · skip
                  refine lv_aload_n hx hb dX12_control_228 rfl (lv_at hl 1 rfl) ?_
                  refine lv_iload hx hb dX12_control_229 (lv_at hl 4 rfl) ?_
                  refine va_put (D := D) (ci := 12) (v := .int (nI (rq.getD 6 0))) (ty := .int) (C := RX12) (T := TX12) (N := 32) hx hb hts inX12_ tyX12 tyX12_ok nmX12 hown hK hP hD hS 0 rfl rfl 18 (by decide) fl42 (fun _ h9 => h9) rfl (by decide +kernel) rfl rfl (Nat.le_of_ble_eq_true rfl) dX12_control_231 (fun H locs hP hD hS => ?_)
                  have hP : va_P D vwCl [(h0, .inr (12, [m_thrown, m_values, m_eventPoint, m_eventValue, m_events, m_told, m_over, m_lost, m_restart, .ref ou0, .int (nI ti), m_heard, m_heardSize, m_begun, m_master, m_part, .ref fr0, .int (nI rq.length), .int (nI (rq.getD 6 0)), .int (nI wt), .int (nI bn), .int (nI si), m_confirm, .ref an0, .int (nI an.length), .int (nI 0), m_sent, m_sentCount, m_sum, m_number, m_reply, m_replySize])), (fr0, .inl (cyI, 80, .inl rqf)), (ou0, .inl (cyI, 4, .inl fo)), (an0, .inl (cyI, 80, .inl anf))] H := hP
                  have hD : va_D A [(h0, .inr (12, [m_thrown, m_values, m_eventPoint, m_eventValue, m_events, m_told, m_over, m_lost, m_restart, .ref ou0, .int (nI ti), m_heard, m_heardSize, m_begun, m_master, m_part, .ref fr0, .int (nI rq.length), .int (nI (rq.getD 6 0)), .int (nI wt), .int (nI bn), .int (nI si), m_confirm, .ref an0, .int (nI an.length), .int (nI 0), m_sent, m_sentCount, m_sum, m_number, m_reply, m_replySize])), (fr0, .inl (cyI, 80, .inl rqf)), (ou0, .inl (cyI, 4, .inl fo)), (an0, .inl (cyI, 80, .inl anf))] := hD
                  refine lv_aload_n hx hb dX12_control_234 rfl (lv_at hl 1 rfl) ?_
                  refine lv_iload hx hb dX12_control_235 (lv_at hl 5 rfl) ?_
                  refine va_put (D := D) (ci := 12) (v := .int (nI (rq.getD 7 0))) (ty := .int) (C := RX12) (T := TX12) (N := 32) hx hb hts inX12_ tyX12 tyX12_ok nmX12 hown hK hP hD hS 0 rfl rfl 19 (by decide) fl171 (fun _ h9 => h9) rfl (by decide +kernel) rfl rfl (Nat.le_of_ble_eq_true rfl) dX12_control_237 (fun H locs hP hD hS => ?_)
                  have hP : va_P D vwCl [(h0, .inr (12, [m_thrown, m_values, m_eventPoint, m_eventValue, m_events, m_told, m_over, m_lost, m_restart, .ref ou0, .int (nI ti), m_heard, m_heardSize, m_begun, m_master, m_part, .ref fr0, .int (nI rq.length), .int (nI (rq.getD 6 0)), .int (nI (rq.getD 7 0)), .int (nI bn), .int (nI si), m_confirm, .ref an0, .int (nI an.length), .int (nI 0), m_sent, m_sentCount, m_sum, m_number, m_reply, m_replySize])), (fr0, .inl (cyI, 80, .inl rqf)), (ou0, .inl (cyI, 4, .inl fo)), (an0, .inl (cyI, 80, .inl anf))] H := hP
                  have hD : va_D A [(h0, .inr (12, [m_thrown, m_values, m_eventPoint, m_eventValue, m_events, m_told, m_over, m_lost, m_restart, .ref ou0, .int (nI ti), m_heard, m_heardSize, m_begun, m_master, m_part, .ref fr0, .int (nI rq.length), .int (nI (rq.getD 6 0)), .int (nI (rq.getD 7 0)), .int (nI bn), .int (nI si), m_confirm, .ref an0, .int (nI an.length), .int (nI 0), m_sent, m_sentCount, m_sum, m_number, m_reply, m_replySize])), (fr0, .inl (cyI, 80, .inl rqf)), (ou0, .inl (cyI, 4, .inl fo)), (an0, .inl (cyI, 80, .inl anf))] := hD
                  refine lv_aload_n hx hb dX12_control_240 rfl (lv_at hl 1 rfl) ?_
                  refine lv_iload_n hx hb dX12_control_241 rfl (lv_at hl 3 rfl) ?_
                  refine va_put (D := D) (ci := 12) (v := .int (nI nr)) (ty := .int) (C := RX12) (T := TX12) (N := 32) hx hb hts inX12_ tyX12 tyX12_ok nmX12 hown hK hP hD hS 0 rfl rfl 20 (by decide) fl174 (fun _ h9 => h9) rfl (by decide +kernel) rfl rfl (Nat.le_of_ble_eq_true rfl) dX12_control_242 (fun H locs hP hD hS => ?_)
                  have hP : va_P D vwCl [(h0, .inr (12, [m_thrown, m_values, m_eventPoint, m_eventValue, m_events, m_told, m_over, m_lost, m_restart, .ref ou0, .int (nI ti), m_heard, m_heardSize, m_begun, m_master, m_part, .ref fr0, .int (nI rq.length), .int (nI (rq.getD 6 0)), .int (nI (rq.getD 7 0)), .int (nI nr), .int (nI si), m_confirm, .ref an0, .int (nI an.length), .int (nI 0), m_sent, m_sentCount, m_sum, m_number, m_reply, m_replySize])), (fr0, .inl (cyI, 80, .inl rqf)), (ou0, .inl (cyI, 4, .inl fo)), (an0, .inl (cyI, 80, .inl anf))] H := hP
                  have hD : va_D A [(h0, .inr (12, [m_thrown, m_values, m_eventPoint, m_eventValue, m_events, m_told, m_over, m_lost, m_restart, .ref ou0, .int (nI ti), m_heard, m_heardSize, m_begun, m_master, m_part, .ref fr0, .int (nI rq.length), .int (nI (rq.getD 6 0)), .int (nI (rq.getD 7 0)), .int (nI nr), .int (nI si), m_confirm, .ref an0, .int (nI an.length), .int (nI 0), m_sent, m_sentCount, m_sum, m_number, m_reply, m_replySize])), (fr0, .inl (cyI, 80, .inl rqf)), (ou0, .inl (cyI, 4, .inl fo)), (an0, .inl (cyI, 80, .inl anf))] := hD
                  refine lv_aload_n hx hb dX12_control_245 rfl (lv_at hl 1 rfl) ?_
                  refine lv_aload_n hx hb dX12_control_246 rfl (lv_at hl 1 rfl) ?_
                  refine va_get (D := D) (ci := 12) (v := .int (nI ti)) (C := RX12) (T := TX12) (N := 32) hx hb hts inX12_ hown hK hP 0 rfl rfl 10 (by decide) fl73 (fun _ h9 => h9) rfl dX12_control_247 ?_
                  refine va_put (D := D) (ci := 12) (v := .int (nI ti)) (ty := .int) (C := RX12) (T := TX12) (N := 32) hx hb hts inX12_ tyX12 tyX12_ok nmX12 hown hK hP hD hS 0 rfl rfl 21 (by decide) fl177 (fun _ h9 => h9) rfl (by decide +kernel) rfl rfl (Nat.le_of_ble_eq_true rfl) dX12_control_250 (fun H locs hP hD hS => ?_)
                  have hP : va_P D vwCl [(h0, .inr (12, [m_thrown, m_values, m_eventPoint, m_eventValue, m_events, m_told, m_over, m_lost, m_restart, .ref ou0, .int (nI ti), m_heard, m_heardSize, m_begun, m_master, m_part, .ref fr0, .int (nI rq.length), .int (nI (rq.getD 6 0)), .int (nI (rq.getD 7 0)), .int (nI nr), .int (nI ti), m_confirm, .ref an0, .int (nI an.length), .int (nI 0), m_sent, m_sentCount, m_sum, m_number, m_reply, m_replySize])), (fr0, .inl (cyI, 80, .inl rqf)), (ou0, .inl (cyI, 4, .inl fo)), (an0, .inl (cyI, 80, .inl anf))] H := hP
                  have hD : va_D A [(h0, .inr (12, [m_thrown, m_values, m_eventPoint, m_eventValue, m_events, m_told, m_over, m_lost, m_restart, .ref ou0, .int (nI ti), m_heard, m_heardSize, m_begun, m_master, m_part, .ref fr0, .int (nI rq.length), .int (nI (rq.getD 6 0)), .int (nI (rq.getD 7 0)), .int (nI nr), .int (nI ti), m_confirm, .ref an0, .int (nI an.length), .int (nI 0), m_sent, m_sentCount, m_sum, m_number, m_reply, m_replySize])), (fr0, .inl (cyI, 80, .inl rqf)), (ou0, .inl (cyI, 4, .inl fo)), (an0, .inl (cyI, 80, .inl anf))] := hD
                  exact J253 (nI (rq.getD 6 0)) (rq.getD 7 0) nr ti fo true nr (rq.getD 6 0) (rq.getD 7 0) 0 (by rw [← hsv]; (repeat' split) <;> first | rfl | (exfalso; omega)) (by rw [← hsv]; (repeat' split) <;> first | rfl | exact upd_v (hs0v c199) | (exfalso; omega)) (selR_y hsr (by omega) (by omega) hnr) H locs ls hP hD hS (lv_sub hl [1, 0] rfl)
            · skip
              refine lv_aload_n hx hb dX12_control_207 rfl (lv_at hl 1 rfl) ?_
              refine va_get (D := D) (ci := 12) (v := .ref ou0) (C := RX12) (T := TX12) (N := 32) hx hb hts inX12_ hown hK hP 0 rfl rfl 9 (by decide) fl33 (fun _ h9 => h9) rfl dX12_control_208 ?_
              refine lv_iload hx hb dX12_control_211 (lv_at hl 4 rfl) ?_
              refine lv_iconst (v := (nI 4)) hx hb dX12_control_213 (by decide) ?_
              refine lv_iload hx hb dX12_control_214 (lv_at hl 5 rfl) ?_
              refine nv_isub hx hb (by have h9 := hs0v c199; omega) dX12_control_216 ?_
              refine nv_iast hx hb hK hP hD hS 2 0 rfl rfl (hs0 c199) (by decide) dX12_control_217 (fun H locs hP hD hS => ?_)
              have hP : va_P D vwCl [(h0, .inr (12, [m_thrown, m_values, m_eventPoint, m_eventValue, m_events, m_told, m_over, m_lost, m_restart, .ref ou0, .int (nI ti), m_heard, m_heardSize, m_begun, m_master, m_part, .ref fr0, .int (nI rq.length), .int (-1), .int (nI wt), .int (nI bn), .int (nI si), m_confirm, .ref an0, .int (nI an.length), .int (nI 0), m_sent, m_sentCount, m_sum, m_number, m_reply, m_replySize])), (fr0, .inl (cyI, 80, .inl rqf)), (ou0, .inl (cyI, 4, .inl (upd fo (rq.getD 6 0) (nI (4 - (rq.getD 7 0)))))), (an0, .inl (cyI, 80, .inl anf))] H := hP
              have hD : va_D A [(h0, .inr (12, [m_thrown, m_values, m_eventPoint, m_eventValue, m_events, m_told, m_over, m_lost, m_restart, .ref ou0, .int (nI ti), m_heard, m_heardSize, m_begun, m_master, m_part, .ref fr0, .int (nI rq.length), .int (-1), .int (nI wt), .int (nI bn), .int (nI si), m_confirm, .ref an0, .int (nI an.length), .int (nI 0), m_sent, m_sentCount, m_sum, m_number, m_reply, m_replySize])), (fr0, .inl (cyI, 80, .inl rqf)), (ou0, .inl (cyI, 4, .inl (upd fo (rq.getD 6 0) (nI (4 - (rq.getD 7 0)))))), (an0, .inl (cyI, 80, .inl anf))] := hD
              refine lv_iload hx hb dX12_control_218 (lv_at hl 0 rfl) ?_
              refine nv_if_ne (tgt := 253) hx hb (by omega) dX12_control_220 (by decide) (fun c220 => ?_) (fun c220 => ?_)
              · exfalso; omega
              · skip
                refine lv_iload_n hx hb dX12_control_223 rfl (lv_at hl 2 rfl) ?_
                refine lv_iconst (v := (nI 3)) hx hb dX12_control_224 (by decide) ?_
                refine nv_icmp_ne (tgt := 253) hx hb (by omega) (by omega) dX12_control_225 (by decide) (fun c225 => ?_) (fun c225 => ?_)
                · skip
                  exact J253 (-1) wt bn si (upd fo (rq.getD 6 0) (nI (4 - (rq.getD 7 0)))) false nu ou vl ag (by rw [← hsv]; (repeat' split) <;> first | rfl | (exfalso; omega)) (by rw [if_pos ⟨hsv.symm.trans c199, c204⟩]; exact upd_v (hs0v c199)) (selR_f hsr) H locs ls hP hD hS (lv_sub hl [1, 0] rfl)
                · exfalso; omega
        refine lv_istore (lv' := [(7, .int (bI (ot = true))), (0, .ref h0), (1, .int (nI fn)), (2, .int (nI nr)), (5, .int (nI (rq.getD 6 0))), (6, .int (nI (rq.getD 7 0)))]) hx hb dX12_control_130 hl (by decide) rfl (fun ls hl => ?_)
        refine lv_iload hx hb dX12_control_132 (lv_at hl 4 rfl) ?_
        refine lv_iconst (v := (nI 3)) hx hb dX12_control_134 (by decide) ?_
        refine nv_icmp_le (tgt := 142) hx hb (by omega) (by omega) dX12_control_135 (by decide) (fun c135 => ?_) (fun c135 => ?_)
        · skip
          refine lv_iload hx hb dX12_control_142 (lv_at hl 5 rfl) ?_
          refine lv_iconst (v := (nI 3)) hx hb dX12_control_144 (by decide) ?_
          refine nv_icmp_eq (tgt := 158) hx hb (by omega) (by omega) dX12_control_145 (by decide) (fun c145 => ?_) (fun c145 => ?_)
          · skip
            refine lv_iload_n hx hb dX12_control_158 rfl (lv_at hl 2 rfl) ?_
            refine lv_iconst (v := (nI 4)) hx hb dX12_control_159 (by decide) ?_
            refine nv_icmp_eq (tgt := 167) hx hb (by omega) (by omega) dX12_control_160 (by decide) (fun c160 => ?_) (fun c160 => ?_)
            · skip
              refine lv_iload hx hb dX12_control_167 (lv_at hl 0 rfl) ?_
              refine bv_if_eq (tgt := 176) hx hb dX12_control_169 (by decide) (fun c169 => ?_) (fun c169 => ?_)
              · skip
                refine lv_aload_n hx hb dX12_control_176 rfl (lv_at hl 1 rfl) ?_
                refine va_get (D := D) (ci := 12) (v := .int (nI ti)) (C := RX12) (T := TX12) (N := 32) hx hb hts inX12_ hown hK hP 0 rfl rfl 10 (by decide) fl73 (fun _ h9 => h9) rfl dX12_control_177 ?_
                refine lv_aload_n hx hb dX12_control_180 rfl (lv_at hl 1 rfl) ?_
                refine va_get (D := D) (ci := 12) (v := .int (nI si)) (C := RX12) (T := TX12) (N := 32) hx hb hts inX12_ hown hK hP 0 rfl rfl 21 (by decide) fl177 (fun _ h9 => h9) rfl dX12_control_181 ?_
                refine lv_bipush (v := (nI 10)) hx hb dX12_control_184 (by decide) ?_
                refine nv_iadd hx hb dX12_control_186 ?_
                refine nv_icmp_le (tgt := 194) hx hb (by omega) (by omega) dX12_control_187 (by decide) (fun c187 => ?_) (fun c187 => ?_)
                · skip
                  refine lv_iconst (v := (nI 0)) hx hb dX12_control_194 (by decide) ?_
                  exact J195 0 (by rw [stS hsr (by omega) hot]; clear hot hsr s1 hgd; (repeat' split) <;> first | rfl | contradiction | (exfalso; omega)) H locs ls hP hD hS (lv_sub hl [1, 2, 3, 4, 5] rfl)
                · skip
                  refine lv_iconst (v := (nI 1)) hx hb dX12_control_190 (by decide) ?_
                  refine lv_goto (tgt := 195) hx hb dX12_control_191 (by decide) ?_
                  exact J195 1 (by rw [stS hsr (by omega) hot]; clear hot hsr s1 hgd; (repeat' split) <;> first | rfl | contradiction | (exfalso; omega)) H locs ls hP hD hS (lv_sub hl [1, 2, 3, 4, 5] rfl)
              · skip
                refine lv_iconst (v := (nI 2)) hx hb dX12_control_172 (by decide) ?_
                refine lv_goto (tgt := 195) hx hb dX12_control_173 (by decide) ?_
                exact J195 2 (by rw [stS hsr (by omega) hot]; clear hot hsr s1 hgd; (repeat' split) <;> first | rfl | contradiction | (exfalso; omega)) H locs ls hP hD hS (lv_sub hl [1, 2, 3, 4, 5] rfl)
            · skip
              refine lv_iconst (v := (nI 0)) hx hb dX12_control_163 (by decide) ?_
              refine lv_goto (tgt := 195) hx hb dX12_control_164 (by decide) ?_
              exact J195 0 (by rw [stS hsr (by omega) hot]; clear hot hsr s1 hgd; (repeat' split) <;> first | rfl | contradiction | (exfalso; omega)) H locs ls hP hD hS (lv_sub hl [1, 2, 3, 4, 5] rfl)
          · skip
            refine lv_iload hx hb dX12_control_148 (lv_at hl 5 rfl) ?_
            refine lv_iconst (v := (nI 4)) hx hb dX12_control_150 (by decide) ?_
            refine nv_icmp_eq (tgt := 158) hx hb (by omega) (by omega) dX12_control_151 (by decide) (fun c151 => ?_) (fun c151 => ?_)
            · skip
              refine lv_iload_n hx hb dX12_control_158 rfl (lv_at hl 2 rfl) ?_
              refine lv_iconst (v := (nI 4)) hx hb dX12_control_159 (by decide) ?_
              refine nv_icmp_eq (tgt := 167) hx hb (by omega) (by omega) dX12_control_160 (by decide) (fun c160 => ?_) (fun c160 => ?_)
              · skip
                refine lv_iload hx hb dX12_control_167 (lv_at hl 0 rfl) ?_
                refine bv_if_eq (tgt := 176) hx hb dX12_control_169 (by decide) (fun c169 => ?_) (fun c169 => ?_)
                · skip
                  refine lv_aload_n hx hb dX12_control_176 rfl (lv_at hl 1 rfl) ?_
                  refine va_get (D := D) (ci := 12) (v := .int (nI ti)) (C := RX12) (T := TX12) (N := 32) hx hb hts inX12_ hown hK hP 0 rfl rfl 10 (by decide) fl73 (fun _ h9 => h9) rfl dX12_control_177 ?_
                  refine lv_aload_n hx hb dX12_control_180 rfl (lv_at hl 1 rfl) ?_
                  refine va_get (D := D) (ci := 12) (v := .int (nI si)) (C := RX12) (T := TX12) (N := 32) hx hb hts inX12_ hown hK hP 0 rfl rfl 21 (by decide) fl177 (fun _ h9 => h9) rfl dX12_control_181 ?_
                  refine lv_bipush (v := (nI 10)) hx hb dX12_control_184 (by decide) ?_
                  refine nv_iadd hx hb dX12_control_186 ?_
                  refine nv_icmp_le (tgt := 194) hx hb (by omega) (by omega) dX12_control_187 (by decide) (fun c187 => ?_) (fun c187 => ?_)
                  · skip
                    refine lv_iconst (v := (nI 0)) hx hb dX12_control_194 (by decide) ?_
                    exact J195 0 (by rw [stS hsr (by omega) hot]; clear hot hsr s1 hgd; (repeat' split) <;> first | rfl | contradiction | (exfalso; omega)) H locs ls hP hD hS (lv_sub hl [1, 2, 3, 4, 5] rfl)
                  · skip
                    refine lv_iconst (v := (nI 1)) hx hb dX12_control_190 (by decide) ?_
                    refine lv_goto (tgt := 195) hx hb dX12_control_191 (by decide) ?_
                    exact J195 1 (by rw [stS hsr (by omega) hot]; clear hot hsr s1 hgd; (repeat' split) <;> first | rfl | contradiction | (exfalso; omega)) H locs ls hP hD hS (lv_sub hl [1, 2, 3, 4, 5] rfl)
                · skip
                  refine lv_iconst (v := (nI 2)) hx hb dX12_control_172 (by decide) ?_
                  refine lv_goto (tgt := 195) hx hb dX12_control_173 (by decide) ?_
                  exact J195 2 (by rw [stS hsr (by omega) hot]; clear hot hsr s1 hgd; (repeat' split) <;> first | rfl | contradiction | (exfalso; omega)) H locs ls hP hD hS (lv_sub hl [1, 2, 3, 4, 5] rfl)
              · skip
                refine lv_iconst (v := (nI 0)) hx hb dX12_control_163 (by decide) ?_
                refine lv_goto (tgt := 195) hx hb dX12_control_164 (by decide) ?_
                exact J195 0 (by rw [stS hsr (by omega) hot]; clear hot hsr s1 hgd; (repeat' split) <;> first | rfl | contradiction | (exfalso; omega)) H locs ls hP hD hS (lv_sub hl [1, 2, 3, 4, 5] rfl)
            · skip
              refine lv_iconst (v := (nI 3)) hx hb dX12_control_154 (by decide) ?_
              refine lv_goto (tgt := 195) hx hb dX12_control_155 (by decide) ?_
              exact J195 3 (by rw [stS hsr (by omega) hot]; clear hot hsr s1 hgd; (repeat' split) <;> first | rfl | contradiction | (exfalso; omega)) H locs ls hP hD hS (lv_sub hl [1, 2, 3, 4, 5] rfl)
        · skip
          refine lv_iconst (v := (nI 4)) hx hb dX12_control_138 (by decide) ?_
          refine lv_goto (tgt := 195) hx hb dX12_control_139 (by decide) ?_
          exact J195 4 (by rw [stS hsr (by omega) hot]; clear hot hsr s1 hgd; (repeat' split) <;> first | rfl | contradiction | (exfalso; omega)) H locs ls hP hD hS (lv_sub hl [1, 2, 3, 4, 5] rfl)
      refine lv_iload hx hb dX12_control_96 (lv_at hl 2 rfl) ?_
      refine lv_iload hx hb dX12_control_98 (lv_at hl 1 rfl) ?_
      refine lv_icmp_ne (tgt := 125) hx hb dX12_control_100 (by decide) (fun c100 => ?_) (fun c100 => ?_)
      · skip
        refine lv_iconst (v := (nI 1)) hx hb dX12_control_125 (by decide) ?_
        refine lv_goto (tgt := 130) hx hb dX12_control_126 (by decide) ?_
        refine W.eq (g2 := F0 m 130 ls [.int (bI (true = true))]) (by rfl) ?_
        exact J130 true (by first | exact ⟨fun _ => Or.inl c100, fun _ => rfl⟩ | exact ⟨fun _ => Or.inr (Or.inl c109), fun _ => rfl⟩ | exact ⟨fun _ => Or.inr (Or.inr c122), fun _ => rfl⟩ | exact ⟨fun z => absurd z (by decide), fun z => z.elim (fun y => absurd c100 y) (fun y => y.elim (fun w => absurd c109 w) (fun w => absurd c122 w))⟩) H locs ls hP hD hS (lv_sub hl [4, 5, 6, 1, 0] rfl)
      · skip
        refine lv_aload_n hx hb dX12_control_103 rfl (lv_at hl 4 rfl) ?_
        refine va_get (D := D) (ci := 12) (v := .int (nI wt)) (C := RX12) (T := TX12) (N := 32) hx hb hts inX12_ hown hK hP 0 rfl rfl 19 (by decide) fl171 (fun _ h9 => h9) rfl dX12_control_104 ?_
        refine lv_iload hx hb dX12_control_107 (lv_at hl 0 rfl) ?_
        refine nv_icmp_ne (tgt := 125) hx hb (by omega) (by omega) dX12_control_109 (by decide) (fun c109 => ?_) (fun c109 => ?_)
        · skip
          refine lv_iconst (v := (nI 1)) hx hb dX12_control_125 (by decide) ?_
          refine lv_goto (tgt := 130) hx hb dX12_control_126 (by decide) ?_
          refine W.eq (g2 := F0 m 130 ls [.int (bI (true = true))]) (by rfl) ?_
          exact J130 true (by first | exact ⟨fun _ => Or.inl c100, fun _ => rfl⟩ | exact ⟨fun _ => Or.inr (Or.inl c109), fun _ => rfl⟩ | exact ⟨fun _ => Or.inr (Or.inr c122), fun _ => rfl⟩ | exact ⟨fun z => absurd z (by decide), fun z => z.elim (fun y => absurd c100 y) (fun y => y.elim (fun w => absurd c109 w) (fun w => absurd c122 w))⟩) H locs ls hP hD hS (lv_sub hl [4, 5, 6, 1, 0] rfl)
        · skip
          refine lv_aload_n hx hb dX12_control_112 rfl (lv_at hl 4 rfl) ?_
          refine va_get (D := D) (ci := 12) (v := .int (nI bn)) (C := RX12) (T := TX12) (N := 32) hx hb hts inX12_ hown hK hP 0 rfl rfl 20 (by decide) fl174 (fun _ h9 => h9) rfl dX12_control_113 ?_
          refine lv_iconst (v := (nI 1)) hx hb dX12_control_116 (by decide) ?_
          refine nv_iadd hx hb dX12_control_117 ?_
          refine lv_bipush (v := (nI 16)) hx hb dX12_control_118 (by decide) ?_
          refine nv_irem hx hb (by omega) (by decide) (by decide) dX12_control_120 ?_
          refine lv_iload_n hx hb dX12_control_121 rfl (lv_at hl 6 rfl) ?_
          refine nv_icmp_eq (tgt := 129) hx hb (by omega) (by omega) dX12_control_122 (by decide) (fun c122 => ?_) (fun c122 => ?_)
          · skip
            refine lv_iconst (v := (nI 0)) hx hb dX12_control_129 (by decide) ?_
            refine W.eq (g2 := F0 m 130 ls [.int (bI (false = true))]) (by rfl) ?_
            exact J130 false (by first | exact ⟨fun _ => Or.inl c100, fun _ => rfl⟩ | exact ⟨fun _ => Or.inr (Or.inl c109), fun _ => rfl⟩ | exact ⟨fun _ => Or.inr (Or.inr c122), fun _ => rfl⟩ | exact ⟨fun z => absurd z (by decide), fun z => z.elim (fun y => absurd c100 y) (fun y => y.elim (fun w => absurd c109 w) (fun w => absurd c122 w))⟩) H locs ls hP hD hS (lv_sub hl [4, 5, 6, 1, 0] rfl)
          · skip
            refine lv_iconst (v := (nI 1)) hx hb dX12_control_125 (by decide) ?_
            refine lv_goto (tgt := 130) hx hb dX12_control_126 (by decide) ?_
            refine W.eq (g2 := F0 m 130 ls [.int (bI (true = true))]) (by rfl) ?_
            exact J130 true (by first | exact ⟨fun _ => Or.inl c100, fun _ => rfl⟩ | exact ⟨fun _ => Or.inr (Or.inl c109), fun _ => rfl⟩ | exact ⟨fun _ => Or.inr (Or.inr c122), fun _ => rfl⟩ | exact ⟨fun z => absurd z (by decide), fun z => z.elim (fun y => absurd c100 y) (fun y => y.elim (fun w => absurd c109 w) (fun w => absurd c122 w))⟩) H locs ls hP hD hS (lv_sub hl [4, 5, 6, 1, 0] rfl)
    · skip
      refine lv_aload_n hx hb dX12_control_72 rfl (lv_at hl 2 rfl) ?_
      refine lv_iconst (v := (nI 4)) hx hb dX12_control_73 (by decide) ?_
      refine va_put (D := D) (ci := 12) (v := .int (nI 4)) (ty := .int) (C := RX12) (T := TX12) (N := 32) hx hb hts inX12_ tyX12 tyX12_ok nmX12 hown hK hP hD hS 0 rfl rfl 25 (by decide) fl129 (fun _ h9 => h9) rfl (by decide +kernel) rfl rfl (Nat.le_of_ble_eq_true rfl) dX12_control_74 (fun H locs hP hD hS => ?_)
      have hP : va_P D vwCl [(h0, .inr (12, [m_thrown, m_values, m_eventPoint, m_eventValue, m_events, m_told, m_over, m_lost, m_restart, .ref ou0, .int (nI ti), m_heard, m_heardSize, m_begun, m_master, m_part, .ref fr0, .int (nI rq.length), .int (-1), .int (nI wt), .int (nI bn), .int (nI si), m_confirm, .ref an0, .int (nI an.length), .int (nI 4), m_sent, m_sentCount, m_sum, m_number, m_reply, m_replySize])), (fr0, .inl (cyI, 80, .inl rqf)), (ou0, .inl (cyI, 4, .inl fo)), (an0, .inl (cyI, 80, .inl anf))] H := hP
      have hD : va_D A [(h0, .inr (12, [m_thrown, m_values, m_eventPoint, m_eventValue, m_events, m_told, m_over, m_lost, m_restart, .ref ou0, .int (nI ti), m_heard, m_heardSize, m_begun, m_master, m_part, .ref fr0, .int (nI rq.length), .int (-1), .int (nI wt), .int (nI bn), .int (nI si), m_confirm, .ref an0, .int (nI an.length), .int (nI 4), m_sent, m_sentCount, m_sum, m_number, m_reply, m_replySize])), (fr0, .inl (cyI, 80, .inl rqf)), (ou0, .inl (cyI, 4, .inl fo)), (an0, .inl (cyI, 80, .inl anf))] := hD
      exact ret_v hQ hx hb hr hlocks dX12_control_77 hK hS (4, false, nu, ou, vl, ag, fo, an, anf, (-1), wt, bn, si) (⟨(cmS_n (fun z => c69 (hgd.mpr z))).symm, oka, by omega, selR_f hsr⟩) hP hD
  refine lv_aload_n hx hb dX12_control_0 rfl (lv_at hl 0 rfl) ?_
  refine va_get (D := D) (ci := 12) (v := .int (nI rq.length)) (C := RX12) (T := TX12) (N := 32) hx hb hts inX12_ hown hK hP 0 rfl rfl 17 (by decide) fl114 (fun _ h9 => h9) rfl dX12_control_1 ?_
  refine lv_bipush (v := (nI 8)) hx hb dX12_control_4 (by decide) ?_
  refine nv_icmp_ne (tgt := 55) hx hb (by omega) (by omega) dX12_control_6 (by decide) (fun c6 => ?_) (fun c6 => ?_)
  · skip
    refine lv_iconst (v := (nI 0)) hx hb dX12_control_55 (by decide) ?_
    refine W.eq (g2 := F0 m 56 ls [.int (bI (false = true))]) (by rfl) ?_
    exact J56 false (by first | exact ⟨fun _ => by unfold cmP; omega, fun _ => rfl⟩ | exact ⟨fun z => absurd z (by decide), fun z => by unfold cmP at z; omega⟩) H locs ls hP hD hS (lv_sub hl [0, 1, 2] rfl)
  · skip
    refine lv_aload_n hx hb dX12_control_9 rfl (lv_at hl 0 rfl) ?_
    refine va_get (D := D) (ci := 12) (v := .ref fr0) (C := RX12) (T := TX12) (N := 32) hx hb hts inX12_ hown hK hP 0 rfl rfl 16 (by decide) fl39 (fun _ h9 => h9) rfl dX12_control_10 ?_
    refine lv_iconst (v := (nI 2)) hx hb dX12_control_13 (by decide) ?_
    refine nv_iald hx hb hK hP 1 0 rfl rfl (by omega) (by decide) dX12_control_14 ?_
    refine nv_top (y := (nI (rq.getD 2 0))) (oq3 _ (by omega)) ?_
    refine lv_bipush (v := (nI 12)) hx hb dX12_control_15 (by decide) ?_
    refine nv_icmp_ne (tgt := 55) hx hb (by omega) (by omega) dX12_control_17 (by decide) (fun c17 => ?_) (fun c17 => ?_)
    · skip
      refine lv_iconst (v := (nI 0)) hx hb dX12_control_55 (by decide) ?_
      refine W.eq (g2 := F0 m 56 ls [.int (bI (false = true))]) (by rfl) ?_
      exact J56 false (by first | exact ⟨fun _ => by unfold cmP; omega, fun _ => rfl⟩ | exact ⟨fun z => absurd z (by decide), fun z => by unfold cmP at z; omega⟩) H locs ls hP hD hS (lv_sub hl [0, 1, 2] rfl)
    · skip
      refine lv_aload_n hx hb dX12_control_20 rfl (lv_at hl 0 rfl) ?_
      refine va_get (D := D) (ci := 12) (v := .ref fr0) (C := RX12) (T := TX12) (N := 32) hx hb hts inX12_ hown hK hP 0 rfl rfl 16 (by decide) fl39 (fun _ h9 => h9) rfl dX12_control_21 ?_
      refine lv_iconst (v := (nI 3)) hx hb dX12_control_24 (by decide) ?_
      refine nv_iald hx hb hK hP 1 0 rfl rfl (by omega) (by decide) dX12_control_25 ?_
      refine nv_top (y := (nI (rq.getD 3 0))) (oq3 _ (by omega)) ?_
      refine lv_iconst (v := (nI 1)) hx hb dX12_control_26 (by decide) ?_
      refine nv_icmp_ne (tgt := 55) hx hb (by omega) (by omega) dX12_control_27 (by decide) (fun c27 => ?_) (fun c27 => ?_)
      · skip
        refine lv_iconst (v := (nI 0)) hx hb dX12_control_55 (by decide) ?_
        refine W.eq (g2 := F0 m 56 ls [.int (bI (false = true))]) (by rfl) ?_
        exact J56 false (by first | exact ⟨fun _ => by unfold cmP; omega, fun _ => rfl⟩ | exact ⟨fun z => absurd z (by decide), fun z => by unfold cmP at z; omega⟩) H locs ls hP hD hS (lv_sub hl [0, 1, 2] rfl)
      · skip
        refine lv_aload_n hx hb dX12_control_30 rfl (lv_at hl 0 rfl) ?_
        refine va_get (D := D) (ci := 12) (v := .ref fr0) (C := RX12) (T := TX12) (N := 32) hx hb hts inX12_ hown hK hP 0 rfl rfl 16 (by decide) fl39 (fun _ h9 => h9) rfl dX12_control_31 ?_
        refine lv_iconst (v := (nI 4)) hx hb dX12_control_34 (by decide) ?_
        refine nv_iald hx hb hK hP 1 0 rfl rfl (by omega) (by decide) dX12_control_35 ?_
        refine nv_top (y := (nI (rq.getD 4 0))) (oq3 _ (by omega)) ?_
        refine lv_bipush (v := (nI 23)) hx hb dX12_control_36 (by decide) ?_
        refine nv_icmp_ne (tgt := 55) hx hb (by omega) (by omega) dX12_control_38 (by decide) (fun c38 => ?_) (fun c38 => ?_)
        · skip
          refine lv_iconst (v := (nI 0)) hx hb dX12_control_55 (by decide) ?_
          refine W.eq (g2 := F0 m 56 ls [.int (bI (false = true))]) (by rfl) ?_
          exact J56 false (by first | exact ⟨fun _ => by unfold cmP; omega, fun _ => rfl⟩ | exact ⟨fun z => absurd z (by decide), fun z => by unfold cmP at z; omega⟩) H locs ls hP hD hS (lv_sub hl [0, 1, 2] rfl)
        · skip
          refine lv_aload_n hx hb dX12_control_41 rfl (lv_at hl 0 rfl) ?_
          refine va_get (D := D) (ci := 12) (v := .ref fr0) (C := RX12) (T := TX12) (N := 32) hx hb hts inX12_ hown hK hP 0 rfl rfl 16 (by decide) fl39 (fun _ h9 => h9) rfl dX12_control_42 ?_
          refine lv_iconst (v := (nI 5)) hx hb dX12_control_45 (by decide) ?_
          refine nv_iald hx hb hK hP 1 0 rfl rfl (by omega) (by decide) dX12_control_46 ?_
          refine nv_top (y := (nI (rq.getD 5 0))) (oq3 _ (by omega)) ?_
          refine lv_iconst (v := (nI 1)) hx hb dX12_control_47 (by decide) ?_
          refine nv_icmp_ne (tgt := 55) hx hb (by omega) (by omega) dX12_control_48 (by decide) (fun c48 => ?_) (fun c48 => ?_)
          · skip
            refine lv_iconst (v := (nI 0)) hx hb dX12_control_55 (by decide) ?_
            refine W.eq (g2 := F0 m 56 ls [.int (bI (false = true))]) (by rfl) ?_
            exact J56 false (by first | exact ⟨fun _ => by unfold cmP; omega, fun _ => rfl⟩ | exact ⟨fun z => absurd z (by decide), fun z => by unfold cmP at z; omega⟩) H locs ls hP hD hS (lv_sub hl [0, 1, 2] rfl)
          · skip
            refine lv_iconst (v := (nI 1)) hx hb dX12_control_51 (by decide) ?_
            refine lv_goto (tgt := 56) hx hb dX12_control_52 (by decide) ?_
            refine W.eq (g2 := F0 m 56 ls [.int (bI (true = true))]) (by rfl) ?_
            exact J56 true (by first | exact ⟨fun _ => by unfold cmP; omega, fun _ => rfl⟩ | exact ⟨fun z => absurd z (by decide), fun z => by unfold cmP at z; omega⟩) H locs ls hP hD hS (lv_sub hl [0, 1, 2] rfl)
