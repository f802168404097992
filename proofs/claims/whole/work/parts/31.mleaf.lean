/-! OWN ROWS, written by wip/gen (walk.py, spec_m.py) -/
set_option maxHeartbeats 4000000 in
set_option maxRecDepth 100000 in
theorem c_X12_thrown (l : Launch) (D : va_G) (cyI cyZ : ClassId) (h0 : Nat) (m_values m_eventPoint m_eventValue m_events m_told m_over m_lost m_restart m_outputs m_time m_heard m_heardSize m_begun m_master m_part m_fragment m_size m_selected m_wanted m_by m_since m_confirm m_answer m_answerSize m_signs m_sent m_sentCount m_sum m_number m_reply m_replySize : Value) (tn : Nat) : Ci l D yX12_thrown wsX12_thrown ({ frames := 0, cells := 0, slots := 0, locals := 0 } : Room) [.ref h0] [(h0, .inr (12, [.int (nI tn), m_values, m_eventPoint, m_eventValue, m_events, m_told, m_over, m_lost, m_restart, m_outputs, m_time, m_heard, m_heardSize, m_begun, m_master, m_part, m_fragment, m_size, m_selected, m_wanted, m_by, m_since, m_confirm, m_answer, m_answerSize, m_signs, m_sent, m_sentCount, m_sum, m_number, m_reply, m_replySize]))] (tyL cyI cyZ) (fun (r : Int32) (_ : Unit) => r = nI tn) (fun _ : Unit => [(h0, .inr (12, [.int (nI tn), m_values, m_eventPoint, m_eventValue, m_events, m_told, m_over, m_lost, m_restart, m_outputs, m_time, m_heard, m_heardSize, m_begun, m_master, m_part, m_fragment, m_size, m_selected, m_wanted, m_by, m_since, m_confirm, m_answer, m_answerSize, m_signs, m_sent, m_sentCount, m_sum, m_number, m_reply, m_replySize]))]) 0 0 := by
  refine mk_Ct (cc := cX12_thrown) (maxL := 1) (ret := (some .int)) (by decide) rfl rfl ?_
  intro p e s m below meth c A Q ls hx hb hr hts hown hlocks hml hname hA hN hK hP hD hS hQ hl
  have hl : lv_has ls 1 [(0, .ref h0)] := hl
  have inX12_ : ∀ w ∈ u_ws RX12 TX12 32, w ∈ wsX12_thrown := fun w h => List.mem_cons_of_mem _ (List.mem_append_right _ h)
  have fl58 : (Cond.fieldLink RX12 58 "OutStationModel" "thrown" "I").before ([.ref h0] : List Value).toArray s = true := hts _ (by decide +kernel)
  have hown : s.vm.findClass RX12 = some m.cls := hown
  obtain ⟨H, eH9⟩ : ∃ H, H = s.heap := ⟨_, rfl⟩
  have hP : va_P D vwCl [(h0, .inr (12, [.int (nI tn), m_values, m_eventPoint, m_eventValue, m_events, m_told, m_over, m_lost, m_restart, m_outputs, m_time, m_heard, m_heardSize, m_begun, m_master, m_part, m_fragment, m_size, m_selected, m_wanted, m_by, m_since, m_confirm, m_answer, m_answerSize, m_signs, m_sent, m_sentCount, m_sum, m_number, m_reply, m_replySize]))] H := by rw [eH9]; exact hP
  have hS : va_S A s.heap H [] := by rw [eH9]; exact hS
  obtain ⟨locs, eL9⟩ : ∃ z : List Loc, z = [] := ⟨_, rfl⟩
  rw [← eH9, ← eL9]
  have hS : va_S A s.heap H locs := by rw [eL9]; exact hS
  refine lv_aload_n hx hb dX12_thrown_0 rfl (lv_at hl 0 rfl) ?_
  refine va_get (D := D) (ci := 12) (v := .int (nI tn)) (C := RX12) (T := TX12) (N := 32) hx hb hts inX12_ hown hK hP 0 rfl rfl 0 (by decide) fl58 (fun _ h9 => h9) rfl dX12_thrown_1 ?_
  exact ret_i hQ hx hb hr hlocks dX12_thrown_4 hK hS () (by first | rfl | assumption | omega) hP hD
set_option maxHeartbeats 4000000 in
set_option maxRecDepth 100000 in
theorem c_X12_throwing (l : Launch) (D : va_G) (cyI cyZ : ClassId) (h0 : Nat) (m_thrown m_values m_eventPoint m_eventValue m_events m_told m_over m_lost m_restart m_outputs m_time m_heard m_heardSize m_begun m_master m_part m_fragment m_size m_selected m_wanted m_by m_since m_confirm m_answer m_answerSize m_signs m_sent m_sentCount m_sum m_number m_reply m_replySize : Value) (tb : Bool) : Ci l D yX12_throwing wsX12_throwing ({ frames := 0, cells := 0, slots := 0, locals := 0 } : Room) [.ref h0, .int (bI (tb = true))] [(h0, .inr (12, [m_thrown, m_values, m_eventPoint, m_eventValue, m_events, m_told, m_over, m_lost, m_restart, m_outputs, m_time, m_heard, m_heardSize, m_begun, m_master, m_part, m_fragment, m_size, m_selected, m_wanted, m_by, m_since, m_confirm, m_answer, m_answerSize, m_signs, m_sent, m_sentCount, m_sum, m_number, m_reply, m_replySize]))] (tyL cyI cyZ) (fun (r : Int32) (_ : Unit) => r = bI (tb = true)) (fun _ : Unit => [(h0, .inr (12, [.int (nI (if tb = true then 1 else 0)), m_values, m_eventPoint, m_eventValue, m_events, m_told, m_over, m_lost, m_restart, m_outputs, m_time, m_heard, m_heardSize, m_begun, m_master, m_part, m_fragment, m_size, m_selected, m_wanted, m_by, m_since, m_confirm, m_answer, m_answerSize, m_signs, m_sent, m_sentCount, m_sum, m_number, m_reply, m_replySize]))]) 0 0 := by
  refine mk_Ct (cc := cX12_throwing) (maxL := 2) (ret := (some .boolean)) (by decide) rfl rfl ?_
  intro p e s m below meth c A Q ls hx hb hr hts hown hlocks hml hname hA hN hK hP hD hS hQ hl
  have hl : lv_has ls 2 [(0, .ref h0), (1, .int (bI (tb = true)))] := hl
  have inX12_ : ∀ w ∈ u_ws RX12 TX12 32, w ∈ wsX12_throwing := fun w h => List.mem_cons_of_mem _ (List.mem_append_right _ h)
  have fl58 : (Cond.fieldLink RX12 58 "OutStationModel" "thrown" "I").before ([.ref h0, .int (bI (tb = true))] : List Value).toArray s = true := hts _ (by decide +kernel)
  have hown : s.vm.findClass RX12 = some m.cls := hown
  obtain ⟨H, eH9⟩ : ∃ H, H = s.heap := ⟨_, rfl⟩
  have hP : va_P D vwCl [(h0, .inr (12, [m_thrown, m_values, m_eventPoint, m_eventValue, m_events, m_told, m_over, m_lost, m_restart, m_outputs, m_time, m_heard, m_heardSize, m_begun, m_master, m_part, m_fragment, m_size, m_selected, m_wanted, m_by, m_since, m_confirm, m_answer, m_answerSize, m_signs, m_sent, m_sentCount, m_sum, m_number, m_reply, m_replySize]))] H := by rw [eH9]; exact hP
  have hS : va_S A s.heap H [] := by rw [eH9]; exact hS
  obtain ⟨locs, eL9⟩ : ∃ z : List Loc, z = [] := ⟨_, rfl⟩
  rw [← eH9, ← eL9]
  have hS : va_S A s.heap H locs := by rw [eL9]; exact hS
  refine lv_aload_n hx hb dX12_throwing_0 rfl (lv_at hl 0 rfl) ?_
  refine lv_iload_n hx hb dX12_throwing_1 rfl (lv_at hl 1 rfl) ?_
  refine bv_if_eq (tgt := 9) hx hb dX12_throwing_2 (by decide) (fun c2 => ?_) (fun c2 => ?_)
  · skip
    refine lv_iconst (v := (nI 0)) hx hb dX12_throwing_9 (by decide) ?_
    refine va_put (D := D) (ci := 12) (v := .int (nI 0)) (ty := .int) (C := RX12) (T := TX12) (N := 32) hx hb hts inX12_ tyX12 tyX12_ok nmX12 hown hK hP hD hS 0 rfl rfl 0 (by decide) fl58 (fun _ h9 => h9) rfl (by decide +kernel) rfl rfl (Nat.le_of_ble_eq_true rfl) dX12_throwing_10 (fun H locs hP hD hS => ?_)
    have hP : va_P D vwCl [(h0, .inr (12, [.int (nI 0), m_values, m_eventPoint, m_eventValue, m_events, m_told, m_over, m_lost, m_restart, m_outputs, m_time, m_heard, m_heardSize, m_begun, m_master, m_part, m_fragment, m_size, m_selected, m_wanted, m_by, m_since, m_confirm, m_answer, m_answerSize, m_signs, m_sent, m_sentCount, m_sum, m_number, m_reply, m_replySize]))] H := hP
    have hD : va_D A [(h0, .inr (12, [.int (nI 0), m_values, m_eventPoint, m_eventValue, m_events, m_told, m_over, m_lost, m_restart, m_outputs, m_time, m_heard, m_heardSize, m_begun, m_master, m_part, m_fragment, m_size, m_selected, m_wanted, m_by, m_since, m_confirm, m_answer, m_answerSize, m_signs, m_sent, m_sentCount, m_sum, m_number, m_reply, m_replySize]))] := hD
    refine lv_iload_n hx hb dX12_throwing_13 rfl (lv_at hl 1 rfl) ?_
    have ew9 : ([(h0, .inr (12, [.int (nI (if tb = true then 1 else 0)), m_values, m_eventPoint, m_eventValue, m_events, m_told, m_over, m_lost, m_restart, m_outputs, m_time, m_heard, m_heardSize, m_begun, m_master, m_part, m_fragment, m_size, m_selected, m_wanted, m_by, m_since, m_confirm, m_answer, m_answerSize, m_signs, m_sent, m_sentCount, m_sum, m_number, m_reply, m_replySize]))] : va_W) = [(h0, .inr (12, [.int (nI 0), m_values, m_eventPoint, m_eventValue, m_events, m_told, m_over, m_lost, m_restart, m_outputs, m_time, m_heard, m_heardSize, m_begun, m_master, m_part, m_fragment, m_size, m_selected, m_wanted, m_by, m_since, m_confirm, m_answer, m_answerSize, m_signs, m_sent, m_sentCount, m_sum, m_number, m_reply, m_replySize]))] := by rw [if_neg c2]
    have hP : va_P D vwCl [(h0, .inr (12, [.int (nI (if tb = true then 1 else 0)), m_values, m_eventPoint, m_eventValue, m_events, m_told, m_over, m_lost, m_restart, m_outputs, m_time, m_heard, m_heardSize, m_begun, m_master, m_part, m_fragment, m_size, m_selected, m_wanted, m_by, m_since, m_confirm, m_answer, m_answerSize, m_signs, m_sent, m_sentCount, m_sum, m_number, m_reply, m_replySize]))] H := by rw [ew9]; exact hP
    have hD : va_D A [(h0, .inr (12, [.int (nI (if tb = true then 1 else 0)), m_values, m_eventPoint, m_eventValue, m_events, m_told, m_over, m_lost, m_restart, m_outputs, m_time, m_heard, m_heardSize, m_begun, m_master, m_part, m_fragment, m_size, m_selected, m_wanted, m_by, m_since, m_confirm, m_answer, m_answerSize, m_signs, m_sent, m_sentCount, m_sum, m_number, m_reply, m_replySize]))] := by rw [ew9]; exact hD
    exact ret_z hQ hx hb hr hlocks dX12_throwing_14 hK hS (bI_narrow _) () (rfl) hP hD
  · skip
    refine lv_iconst (v := (nI 1)) hx hb dX12_throwing_5 (by decide) ?_
    refine lv_goto (tgt := 10) hx hb dX12_throwing_6 (by decide) ?_
    refine va_put (D := D) (ci := 12) (v := .int (nI 1)) (ty := .int) (C := RX12) (T := TX12) (N := 32) hx hb hts inX12_ tyX12 tyX12_ok nmX12 hown hK hP hD hS 0 rfl rfl 0 (by decide) fl58 (fun _ h9 => h9) rfl (by decide +kernel) rfl rfl (Nat.le_of_ble_eq_true rfl) dX12_throwing_10 (fun H locs hP hD hS => ?_)
    have hP : va_P D vwCl [(h0, .inr (12, [.int (nI 1), m_values, m_eventPoint, m_eventValue, m_events, m_told, m_over, m_lost, m_restart, m_outputs, m_time, m_heard, m_heardSize, m_begun, m_master, m_part, m_fragment, m_size, m_selected, m_wanted, m_by, m_since, m_confirm, m_answer, m_answerSize, m_signs, m_sent, m_sentCount, m_sum, m_number, m_reply, m_replySize]))] H := hP
    have hD : va_D A [(h0, .inr (12, [.int (nI 1), m_values, m_eventPoint, m_eventValue, m_events, m_told, m_over, m_lost, m_restart, m_outputs, m_time, m_heard, m_heardSize, m_begun, m_master, m_part, m_fragment, m_size, m_selected, m_wanted, m_by, m_since, m_confirm, m_answer, m_answerSize, m_signs, m_sent, m_sentCount, m_sum, m_number, m_reply, m_replySize]))] := hD
    refine lv_iload_n hx hb dX12_throwing_13 rfl (lv_at hl 1 rfl) ?_
    have ew9 : ([(h0, .inr (12, [.int (nI (if tb = true then 1 else 0)), m_values, m_eventPoint, m_eventValue, m_events, m_told, m_over, m_lost, m_restart, m_outputs, m_time, m_heard, m_heardSize, m_begun, m_master, m_part, m_fragment, m_size, m_selected, m_wanted, m_by, m_since, m_confirm, m_answer, m_answerSize, m_signs, m_sent, m_sentCount, m_sum, m_number, m_reply, m_replySize]))] : va_W) = [(h0, .inr (12, [.int (nI 1), m_values, m_eventPoint, m_eventValue, m_events, m_told, m_over, m_lost, m_restart, m_outputs, m_time, m_heard, m_heardSize, m_begun, m_master, m_part, m_fragment, m_size, m_selected, m_wanted, m_by, m_since, m_confirm, m_answer, m_answerSize, m_signs, m_sent, m_sentCount, m_sum, m_number, m_reply, m_replySize]))] := by rw [if_pos c2]
    have hP : va_P D vwCl [(h0, .inr (12, [.int (nI (if tb = true then 1 else 0)), m_values, m_eventPoint, m_eventValue, m_events, m_told, m_over, m_lost, m_restart, m_outputs, m_time, m_heard, m_heardSize, m_begun, m_master, m_part, m_fragment, m_size, m_selected, m_wanted, m_by, m_since, m_confirm, m_answer, m_answerSize, m_signs, m_sent, m_sentCount, m_sum, m_number, m_reply, m_replySize]))] H := by rw [ew9]; exact hP
    have hD : va_D A [(h0, .inr (12, [.int (nI (if tb = true then 1 else 0)), m_values, m_eventPoint, m_eventValue, m_events, m_told, m_over, m_lost, m_restart, m_outputs, m_time, m_heard, m_heardSize, m_begun, m_master, m_part, m_fragment, m_size, m_selected, m_wanted, m_by, m_since, m_confirm, m_answer, m_answerSize, m_signs, m_sent, m_sentCount, m_sum, m_number, m_reply, m_replySize]))] := by rw [ew9]; exact hD
    exact ret_z hQ hx hb hr hlocks dX12_throwing_14 hK hS (bI_narrow _) () (rfl) hP hD
set_option maxHeartbeats 4000000 in
set_option maxRecDepth 100000 in
theorem c_X12_out (l : Launch) (D : va_G) (cyI cyZ : ClassId) (k lim : Int32) : Ci l D yX12_out wsX12_out ({ frames := 0, cells := 0, slots := 0, locals := 0 } : Room) [.int k, .int lim] [] (tyL cyI cyZ) (fun (r : Int32) (_ : Unit) => r = bI (k < 0 ∨ lim ≤ k)) (fun _ : Unit => []) 0 0 := by
  refine mk_Ct (cc := cX12_out) (maxL := 2) (ret := (some .boolean)) (by decide) rfl rfl ?_
  intro p e s m below meth c A Q ls hx hb hr hts hown hlocks hml hname hA hN hK hP hD hS hQ hl
  have hl : lv_has ls 2 [(0, .int k), (1, .int lim)] := hl
  have hown : s.vm.findClass RX12 = some m.cls := hown
  obtain ⟨H, eH9⟩ : ∃ H, H = s.heap := ⟨_, rfl⟩
  have hP : va_P D vwCl [] H := by rw [eH9]; exact hP
  have hS : va_S A s.heap H [] := by rw [eH9]; exact hS
  obtain ⟨locs, eL9⟩ : ∃ z : List Loc, z = [] := ⟨_, rfl⟩
  rw [← eH9, ← eL9]
  have hS : va_S A s.heap H locs := by rw [eL9]; exact hS
  refine lv_iload_n hx hb dX12_out_0 rfl (lv_at hl 0 rfl) ?_
  refine lv_if_lt (tgt := 9) hx hb dX12_out_1 (by decide) (fun c1 => ?_) (fun c1 => ?_)
  · skip
    refine lv_iconst (v := (nI 1)) hx hb dX12_out_9 (by decide) ?_
    refine lv_goto (tgt := 14) hx hb dX12_out_10 (by decide) ?_
    exact ret_z hQ hx hb hr hlocks dX12_out_14 hK hS (rfl) () (by first | exact (bI_t (Or.inl c1)).symm | exact (bI_f (fun z => z.elim c1 (fun h => i32_le h c6))).symm | exact (bI_t (Or.inr (Int32.not_lt.mp c6))).symm) hP hD
  · skip
    refine lv_iload_n hx hb dX12_out_4 rfl (lv_at hl 0 rfl) ?_
    refine lv_iload_n hx hb dX12_out_5 rfl (lv_at hl 1 rfl) ?_
    refine lv_icmp_lt (tgt := 13) hx hb dX12_out_6 (by decide) (fun c6 => ?_) (fun c6 => ?_)
    · skip
      refine lv_iconst (v := (nI 0)) hx hb dX12_out_13 (by decide) ?_
      exact ret_z hQ hx hb hr hlocks dX12_out_14 hK hS (rfl) () (by first | exact (bI_t (Or.inl c1)).symm | exact (bI_f (fun z => z.elim c1 (fun h => i32_le h c6))).symm | exact (bI_t (Or.inr (Int32.not_lt.mp c6))).symm) hP hD
    · skip
      refine lv_iconst (v := (nI 1)) hx hb dX12_out_9 (by decide) ?_
      refine lv_goto (tgt := 14) hx hb dX12_out_10 (by decide) ?_
      exact ret_z hQ hx hb hr hlocks dX12_out_14 hK hS (rfl) () (by first | exact (bI_t (Or.inl c1)).symm | exact (bI_f (fun z => z.elim c1 (fun h => i32_le h c6))).symm | exact (bI_t (Or.inr (Int32.not_lt.mp c6))).symm) hP hD
set_option maxHeartbeats 4000000 in
set_option maxRecDepth 100000 in
theorem c_X12_mixed (l : Launch) (D : va_G) (cyI cyZ : ClassId) (cv b : Nat) (hc : cv < 65536) (hby : b < 256) : Ci l D yX12_mixed wsX12_mixed ({ frames := 0, cells := 0, slots := 0, locals := 0 } : Room) [.int (nI cv), .int (nI b)] [] (tyL cyI cyZ) (fun (r : Int32) (_ : Unit) => r = nI (mixB cv b) ∧ mixB cv b < 65536) (fun _ : Unit => []) 0 0 := by
  refine mk_Ct (cc := cX12_mixed) (maxL := 4) (ret := (some .int)) (by decide) rfl rfl ?_
  intro p e s m below meth c A Q ls hx hb hr hts hown hlocks hml hname hA hN hK hP hD hS hQ hl
  have hl : lv_has ls 4 [(0, .int (nI cv)), (1, .int (nI b))] := hl
  have kc76 : (Cond.constant RX12 76 (nI 42684)).before ([.int (nI cv), .int (nI b)] : List Value).toArray s = true := hts _ (by decide +kernel)
  have hown : s.vm.findClass RX12 = some m.cls := hown
  obtain ⟨H, eH9⟩ : ∃ H, H = s.heap := ⟨_, rfl⟩
  have hP : va_P D vwCl [] H := by rw [eH9]; exact hP
  have hS : va_S A s.heap H [] := by rw [eH9]; exact hS
  obtain ⟨locs, eL9⟩ : ∃ z : List Loc, z = [] := ⟨_, rfl⟩
  rw [← eH9, ← eL9]
  have hS : va_S A s.heap H locs := by rw [eL9]; exact hS
  refine lv_iload_n hx hb dX12_mixed_0 rfl (lv_at hl 0 rfl) ?_
  refine lv_iload_n hx hb dX12_mixed_1 rfl (lv_at hl 1 rfl) ?_
  refine lv_ixor hx hb dX12_mixed_2 ?_
  refine nv_top (y := (nI (cv ^^^ b))) (nx_xor _ _) ?_
  refine lv_istore_n (lv' := [(2, .int (nI (cv ^^^ b))), (0, .int (nI cv)), (1, .int (nI b))]) hx hb dX12_mixed_3 rfl hl (by decide) rfl (fun ls hl => ?_)
  refine lv_iconst (v := (nI 0)) hx hb dX12_mixed_4 (by decide) ?_
  refine lv_istore_n (lv' := [(3, .int (nI 0)), (2, .int (nI (cv ^^^ b))), (0, .int (nI cv)), (1, .int (nI b))]) hx hb dX12_mixed_5 rfl hl (by decide) rfl (fun ls hl => ?_)
  have L6 : ∀ (n9 : Nat) (i v : Nat), (i ≤ 8) → (v = mixk i (cv ^^^ b)) → (8 - i) < n9 → ∀ (H : Heap) (locs : List Loc) (ls : Array Slot), va_P D vwCl [] H → va_D A [] → va_S A s.heap H locs → lv_has ls 4 [(2, .int (nI v)), (3, .int (nI i))] → W p l e ({ frames := 0, cells := 0, slots := 0, locals := 0 } : Room) s m ([.int (nI cv), .int (nI b)] : List Value).toArray below meth c H locs 0 0 Q (F0 m 6 ls []) := by
    intro n9
    induction n9 with
    | zero =>
      intro i v hi hv hm9
      exact absurd hm9 (Nat.not_lt_zero _)
    | succ n9 ih =>
      intro i v hi hv hm9 H locs ls hP hD hS hl
      have hvl : v < 65536 := by rw [hv]; exact mixk_lt i (xor_lt16 hc (by omega))
      refine lv_iload_n hx hb dX12_mixed_6 rfl (lv_at hl 1 rfl) ?_
      refine lv_bipush (v := (nI 8)) hx hb dX12_mixed_7 (by decide) ?_
      refine nv_icmp_ge (tgt := 38) hx hb (by omega) (by omega) dX12_mixed_9 (by decide) (fun c9 => ?_) (fun c9 => ?_)
      · skip
        refine lv_iload_n hx hb dX12_mixed_38 rfl (lv_at hl 0 rfl) ?_
        exact ret_i hQ hx hb hr hlocks dX12_mixed_39 hK hS () (⟨by rw [hv, show i = 8 by omega]; rfl, mixB_lt hc hby⟩) hP hD
      · skip
        refine lv_iload_n hx hb dX12_mixed_12 rfl (lv_at hl 0 rfl) ?_
        refine lv_iconst (v := (nI 2)) hx hb dX12_mixed_13 (by decide) ?_
        refine nv_irem hx hb (by omega) (by decide) (by decide) dX12_mixed_14 ?_
        refine lv_iconst (v := (nI 1)) hx hb dX12_mixed_15 (by decide) ?_
        refine nv_icmp_ne (tgt := 28) hx hb (by omega) (by omega) dX12_mixed_16 (by decide) (fun c16 => ?_) (fun c16 => ?_)
        · skip
          refine lv_iload_n hx hb dX12_mixed_28 rfl (lv_at hl 0 rfl) ?_
          refine lv_iconst (v := (nI 2)) hx hb dX12_mixed_29 (by decide) ?_
          refine nv_idiv hx hb (by omega) (by decide) (by decide) dX12_mixed_30 ?_
          refine lv_istore_n (lv' := [(2, .int (nI (v / 2))), (3, .int (nI i))]) hx hb dX12_mixed_31 rfl hl (by decide) rfl (fun ls hl => ?_)
          refine lv_iinc (v := (nI (i + 1))) (lv' := [(3, .int (nI (i + 1))), (2, .int (nI (v / 2)))]) hx hb dX12_mixed_32 hl (k := 1) rfl (nI_add _ _) (by decide) rfl (fun ls hl => ?_)
          refine lv_goto (tgt := 6) hx hb dX12_mixed_35 (by decide) ?_
          exact ih (i + 1) (v / 2) (by omega) (by rw [mixk_succ', ← hv]; unfold mix1; rw [if_neg (by omega)]) (by omega) H locs ls hP hD hS (lv_sub hl [1, 0] rfl)
        · skip
          refine lv_iload_n hx hb dX12_mixed_19 rfl (lv_at hl 0 rfl) ?_
          refine lv_iconst (v := (nI 2)) hx hb dX12_mixed_20 (by decide) ?_
          refine nv_idiv hx hb (by omega) (by decide) (by decide) dX12_mixed_21 ?_
          refine lv_ldc (v := (nI 42684)) hx hb hown kc76 dX12_mixed_22 ?_
          refine lv_ixor hx hb dX12_mixed_24 ?_
          refine nv_top (y := (nI ((v / 2) ^^^ 42684))) (nx_xor _ _) ?_
          refine lv_goto (tgt := 31) hx hb dX12_mixed_25 (by decide) ?_
          refine lv_istore_n (lv' := [(2, .int (nI ((v / 2) ^^^ 42684))), (3, .int (nI i))]) hx hb dX12_mixed_31 rfl hl (by decide) rfl (fun ls hl => ?_)
          refine lv_iinc (v := (nI (i + 1))) (lv' := [(3, .int (nI (i + 1))), (2, .int (nI ((v / 2) ^^^ 42684)))]) hx hb dX12_mixed_32 hl (k := 1) rfl (nI_add _ _) (by decide) rfl (fun ls hl => ?_)
          refine lv_goto (tgt := 6) hx hb dX12_mixed_35 (by decide) ?_
          exact ih (i + 1) ((v / 2) ^^^ 42684) (by omega) (by rw [mixk_succ', ← hv]; unfold mix1; rw [if_pos (by omega)]) (by omega) H locs ls hP hD hS (lv_sub hl [1, 0] rfl)
  exact L6 _ 0 (cv ^^^ b) (by omega) (by rfl) (Nat.lt_succ_self _) H locs ls hP hD hS (lv_sub hl [1, 0] rfl)
set_option maxHeartbeats 4000000 in
set_option maxRecDepth 100000 in
theorem c_X12_add (l : Launch) (D : va_G) (cyI cyZ : ClassId) (h0 : Nat) (m_thrown m_values m_eventPoint m_eventValue m_events m_told m_over m_lost m_restart m_outputs m_time m_heard m_heardSize m_begun m_master m_part m_fragment m_size m_selected m_wanted m_by m_since m_confirm m_signs m_sent m_sentCount m_sum m_number m_reply m_replySize : Value) (an0 : Nat) (an : List Nat) (anf : Nat → Int32) (x : Int32) (oka : okB 80 an anf) (hlt : an.length < 80) : Cv l D yX12_add wsX12_add ({ frames := 0, cells := 0, slots := 0, locals := 0 } : Room) [.ref h0, .int x] [(h0, .inr (12, [m_thrown, m_values, m_eventPoint, m_eventValue, m_events, m_told, m_over, m_lost, m_restart, m_outputs, m_time, m_heard, m_heardSize, m_begun, m_master, m_part, m_fragment, m_size, m_selected, m_wanted, m_by, m_since, m_confirm, .ref an0, .int (nI an.length), m_signs, m_sent, m_sentCount, m_sum, m_number, m_reply, m_replySize])), (an0, .inl (cyI, 80, .inl anf))] (tyL cyI cyZ) (fun anf2 : (Nat → Int32) => okB 80 (an ++ [byte8 x]) anf2) (fun anf2 : (Nat → Int32) => [(h0, .inr (12, [m_thrown, m_values, m_eventPoint, m_eventValue, m_events, m_told, m_over, m_lost, m_restart, m_outputs, m_time, m_heard, m_heardSize, m_begun, m_master, m_part, m_fragment, m_size, m_selected, m_wanted, m_by, m_since, m_confirm, .ref an0, .int (nI ((an ++ [byte8 x]).length)), m_signs, m_sent, m_sentCount, m_sum, m_number, m_reply, m_replySize])), (an0, .inl (cyI, 80, .inl anf2))]) 0 0 := by
  refine mk_Ct (cc := cX12_add) (maxL := 2) (ret := none) (by decide) rfl rfl ?_
  intro p e s m below meth c A Q ls hx hb hr hts hown hlocks hml hname hA hN hK hP hD hS hQ hl
  have hl : lv_has ls 2 [(0, .ref h0), (1, .int x)] := hl
  have inX12_ : ∀ w ∈ u_ws RX12 TX12 32, w ∈ wsX12_add := fun w h => List.mem_cons_of_mem _ (List.mem_append_right _ h)
  have fl49 : (Cond.fieldLink RX12 49 "OutStationModel" "answer" "[I").before ([.ref h0, .int x] : List Value).toArray s = true := hts _ (by decide +kernel)
  have fl123 : (Cond.fieldLink RX12 123 "OutStationModel" "answerSize" "I").before ([.ref h0, .int x] : List Value).toArray s = true := hts _ (by decide +kernel)
  have hown : s.vm.findClass RX12 = some m.cls := hown
  obtain ⟨H, eH9⟩ : ∃ H, H = s.heap := ⟨_, rfl⟩
  have hP : va_P D vwCl [(h0, .inr (12, [m_thrown, m_values, m_eventPoint, m_eventValue, m_events, m_told, m_over, m_lost, m_restart, m_outputs, m_time, m_heard, m_heardSize, m_begun, m_master, m_part, m_fragment, m_size, m_selected, m_wanted, m_by, m_since, m_confirm, .ref an0, .int (nI an.length), m_signs, m_sent, m_sentCount, m_sum, m_number, m_reply, m_replySize])), (an0, .inl (cyI, 80, .inl anf))] H := by rw [eH9]; exact hP
  have hS : va_S A s.heap H [] := by rw [eH9]; exact hS
  obtain ⟨locs, eL9⟩ : ∃ z : List Loc, z = [] := ⟨_, rfl⟩
  rw [← eH9, ← eL9]
  have hS : va_S A s.heap H locs := by rw [eL9]; exact hS
  obtain ⟨oa1, oa2, oa3, oa4⟩ := id oka
  refine lv_aload_n hx hb dX12_add_0 rfl (lv_at hl 0 rfl) ?_
  refine va_get (D := D) (ci := 12) (v := .ref an0) (C := RX12) (T := TX12) (N := 32) hx hb hts inX12_ hown hK hP 0 rfl rfl 23 (by decide) fl49 (fun _ h9 => h9) rfl dX12_add_1 ?_
  refine lv_aload_n hx hb dX12_add_4 rfl (lv_at hl 0 rfl) ?_
  refine va_get (D := D) (ci := 12) (v := .int (nI an.length)) (C := RX12) (T := TX12) (N := 32) hx hb hts inX12_ hown hK hP 0 rfl rfl 24 (by decide) fl123 (fun _ h9 => h9) rfl dX12_add_5 ?_
  refine lv_iload_n hx hb dX12_add_8 rfl (lv_at hl 1 rfl) ?_
  refine lv_sipush (v := (nI 255)) hx hb dX12_add_9 (by decide) ?_
  refine lv_iand hx hb dX12_add_12 ?_
  refine nv_top (y := (nI (x.toBitVec.toNat % 256))) (pk_and _ 8 (by decide)) ?_
  refine nv_iast hx hb hK hP hD hS 1 0 rfl rfl (by omega) (by omega) dX12_add_13 (fun H locs hP hD hS => ?_)
  have hP : va_P D vwCl [(h0, .inr (12, [m_thrown, m_values, m_eventPoint, m_eventValue, m_events, m_told, m_over, m_lost, m_restart, m_outputs, m_time, m_heard, m_heardSize, m_begun, m_master, m_part, m_fragment, m_size, m_selected, m_wanted, m_by, m_since, m_confirm, .ref an0, .int (nI an.length), m_signs, m_sent, m_sentCount, m_sum, m_number, m_reply, m_replySize])), (an0, .inl (cyI, 80, .inl (upd anf an.length (nI (x.toBitVec.toNat % 256)))))] H := hP
  have hD : va_D A [(h0, .inr (12, [m_thrown, m_values, m_eventPoint, m_eventValue, m_events, m_told, m_over, m_lost, m_restart, m_outputs, m_time, m_heard, m_heardSize, m_begun, m_master, m_part, m_fragment, m_size, m_selected, m_wanted, m_by, m_since, m_confirm, .ref an0, .int (nI an.length), m_signs, m_sent, m_sentCount, m_sum, m_number, m_reply, m_replySize])), (an0, .inl (cyI, 80, .inl (upd anf an.length (nI (x.toBitVec.toNat % 256)))))] := hD
  refine lv_aload_n hx hb dX12_add_14 rfl (lv_at hl 0 rfl) ?_
  refine lv_dup hx hb dX12_add_15 rfl ?_
  refine va_get (D := D) (ci := 12) (v := .int (nI an.length)) (C := RX12) (T := TX12) (N := 32) hx hb hts inX12_ hown hK hP 0 rfl rfl 24 (by decide) fl123 (fun _ h9 => h9) rfl dX12_add_16 ?_
  refine lv_iconst (v := (nI 1)) hx hb dX12_add_19 (by decide) ?_
  refine nv_iadd hx hb dX12_add_20 ?_
  refine va_put (D := D) (ci := 12) (v := .int (nI (an.length + 1))) (ty := .int) (C := RX12) (T := TX12) (N := 32) hx hb hts inX12_ tyX12 tyX12_ok nmX12 hown hK hP hD hS 0 rfl rfl 24 (by decide) fl123 (fun _ h9 => h9) rfl (by decide +kernel) rfl rfl (Nat.le_of_ble_eq_true rfl) dX12_add_21 (fun H locs hP hD hS => ?_)
  have hP : va_P D vwCl [(h0, .inr (12, [m_thrown, m_values, m_eventPoint, m_eventValue, m_events, m_told, m_over, m_lost, m_restart, m_outputs, m_time, m_heard, m_heardSize, m_begun, m_master, m_part, m_fragment, m_size, m_selected, m_wanted, m_by, m_since, m_confirm, .ref an0, .int (nI (an.length + 1)), m_signs, m_sent, m_sentCount, m_sum, m_number, m_reply, m_replySize])), (an0, .inl (cyI, 80, .inl (upd anf an.length (nI (x.toBitVec.toNat % 256)))))] H := hP
  have hD : va_D A [(h0, .inr (12, [m_thrown, m_values, m_eventPoint, m_eventValue, m_events, m_told, m_over, m_lost, m_restart, m_outputs, m_time, m_heard, m_heardSize, m_begun, m_master, m_part, m_fragment, m_size, m_selected, m_wanted, m_by, m_since, m_confirm, .ref an0, .int (nI (an.length + 1)), m_signs, m_sent, m_sentCount, m_sum, m_number, m_reply, m_replySize])), (an0, .inl (cyI, 80, .inl (upd anf an.length (nI (x.toBitVec.toNat % 256)))))] := hD
  have ew9 : ([(h0, .inr (12, [m_thrown, m_values, m_eventPoint, m_eventValue, m_events, m_told, m_over, m_lost, m_restart, m_outputs, m_time, m_heard, m_heardSize, m_begun, m_master, m_part, m_fragment, m_size, m_selected, m_wanted, m_by, m_since, m_confirm, .ref an0, .int (nI ((an ++ [byte8 x]).length)), m_signs, m_sent, m_sentCount, m_sum, m_number, m_reply, m_replySize])), (an0, .inl (cyI, 80, .inl (upd anf an.length (nI (x.toBitVec.toNat % 256)))))] : va_W) = [(h0, .inr (12, [m_thrown, m_values, m_eventPoint, m_eventValue, m_events, m_told, m_over, m_lost, m_restart, m_outputs, m_time, m_heard, m_heardSize, m_begun, m_master, m_part, m_fragment, m_size, m_selected, m_wanted, m_by, m_since, m_confirm, .ref an0, .int (nI (an.length + 1)), m_signs, m_sent, m_sentCount, m_sum, m_number, m_reply, m_replySize])), (an0, .inl (cyI, 80, .inl (upd anf an.length (nI (x.toBitVec.toNat % 256)))))] := by simp
  have hP : va_P D vwCl [(h0, .inr (12, [m_thrown, m_values, m_eventPoint, m_eventValue, m_events, m_told, m_over, m_lost, m_restart, m_outputs, m_time, m_heard, m_heardSize, m_begun, m_master, m_part, m_fragment, m_size, m_selected, m_wanted, m_by, m_since, m_confirm, .ref an0, .int (nI ((an ++ [byte8 x]).length)), m_signs, m_sent, m_sentCount, m_sum, m_number, m_reply, m_replySize])), (an0, .inl (cyI, 80, .inl (upd anf an.length (nI (x.toBitVec.toNat % 256)))))] H := by rw [ew9]; exact hP
  have hD : va_D A [(h0, .inr (12, [m_thrown, m_values, m_eventPoint, m_eventValue, m_events, m_told, m_over, m_lost, m_restart, m_outputs, m_time, m_heard, m_heardSize, m_begun, m_master, m_part, m_fragment, m_size, m_selected, m_wanted, m_by, m_since, m_confirm, .ref an0, .int (nI ((an ++ [byte8 x]).length)), m_signs, m_sent, m_sentCount, m_sum, m_number, m_reply, m_replySize])), (an0, .inl (cyI, 80, .inl (upd anf an.length (nI (x.toBitVec.toNat % 256)))))] := by rw [ew9]; exact hD
  exact ret_v hQ hx hb hr hlocks dX12_add_24 hK hS (upd anf an.length (nI (x.toBitVec.toNat % 256))) (okB_push oka hlt (byte8_lt x)) hP hD
theorem c_X12_add_N (l : Launch) (D : va_G) (cyI cyZ : ClassId) (h0 : Nat) (m_thrown m_values m_eventPoint m_eventValue m_events m_told m_over m_lost m_restart m_outputs m_time m_heard m_heardSize m_begun m_master m_part m_fragment m_size m_selected m_wanted m_by m_since m_confirm m_signs m_sent m_sentCount m_sum m_number m_reply m_replySize : Value) (an0 : Nat) (an : List Nat) (anf : Nat → Int32) (b : Nat) (oka : okB 80 an anf) (hlt : an.length < 80) (hby : b < 256) : Cv l D yX12_add wsX12_add ({ frames := 0, cells := 0, slots := 0, locals := 0 } : Room) [.ref h0, .int (nI b)] [(h0, .inr (12, [m_thrown, m_values, m_eventPoint, m_eventValue, m_events, m_told, m_over, m_lost, m_restart, m_outputs, m_time, m_heard, m_heardSize, m_begun, m_master, m_part, m_fragment, m_size, m_selected, m_wanted, m_by, m_since, m_confirm, .ref an0, .int (nI an.length), m_signs, m_sent, m_sentCount, m_sum, m_number, m_reply, m_replySize])), (an0, .inl (cyI, 80, .inl anf))] (tyL cyI cyZ) (fun anf2 : (Nat → Int32) => okB 80 (an ++ [b]) anf2) (fun anf2 : (Nat → Int32) => [(h0, .inr (12, [m_thrown, m_values, m_eventPoint, m_eventValue, m_events, m_told, m_over, m_lost, m_restart, m_outputs, m_time, m_heard, m_heardSize, m_begun, m_master, m_part, m_fragment, m_size, m_selected, m_wanted, m_by, m_since, m_confirm, .ref an0, .int (nI ((an ++ [b]).length)), m_signs, m_sent, m_sentCount, m_sum, m_number, m_reply, m_replySize])), (an0, .inl (cyI, 80, .inl anf2))]) 0 0 := by have h := c_X12_add l D cyI cyZ h0 m_thrown m_values m_eventPoint m_eventValue m_events m_told m_over m_lost m_restart m_outputs m_time m_heard m_heardSize m_begun m_master m_part m_fragment m_size m_selected m_wanted m_by m_since m_confirm m_signs m_sent m_sentCount m_sum m_number m_reply m_replySize an0 an anf (nI b) oka hlt; rw [byte8_b hby] at h; exact h
set_option maxHeartbeats 4000000 in
set_option maxRecDepth 100000 in
theorem c_X12_room (l : Launch) (D : va_G) (cyI cyZ : ClassId) (h0 : Nat) (m_thrown m_values m_eventPoint m_eventValue m_events m_told m_over m_lost m_restart m_outputs m_time m_heard m_heardSize m_begun m_master m_part m_fragment m_size m_selected m_wanted m_by m_since m_confirm m_signs m_sent m_sentCount m_sum m_number m_reply m_replySize : Value) (an0 : Nat) (an : List Nat) (anf : Nat → Int32) (h62 : an.length ≤ 62) : Ci l D yX12_room wsX12_room ({ frames := 0, cells := 0, slots := 0, locals := 0 } : Room) [.ref h0] [(h0, .inr (12, [m_thrown, m_values, m_eventPoint, m_eventValue, m_events, m_told, m_over, m_lost, m_restart, m_outputs, m_time, m_heard, m_heardSize, m_begun, m_master, m_part, m_fragment, m_size, m_selected, m_wanted, m_by, m_since, m_confirm, .ref an0, .int (nI an.length), m_signs, m_sent, m_sentCount, m_sum, m_number, m_reply, m_replySize])), (an0, .inl (cyI, 80, .inl anf))] (tyL cyI cyZ) (fun (r : Int32) (_ : Unit) => r = nI (62 - an.length)) (fun _ : Unit => [(h0, .inr (12, [m_thrown, m_values, m_eventPoint, m_eventValue, m_events, m_told, m_over, m_lost, m_restart, m_outputs, m_time, m_heard, m_heardSize, m_begun, m_master, m_part, m_fragment, m_size, m_selected, m_wanted, m_by, m_since, m_confirm, .ref an0, .int (nI an.length), m_signs, m_sent, m_sentCount, m_sum, m_number, m_reply, m_replySize])), (an0, .inl (cyI, 80, .inl anf))]) 0 0 := by
  refine mk_Ct (cc := cX12_room) (maxL := 1) (ret := (some .int)) (by decide) rfl rfl ?_
  intro p e s m below meth c A Q ls hx hb hr hts hown hlocks hml hname hA hN hK hP hD hS hQ hl
  have hl : lv_has ls 1 [(0, .ref h0)] := hl
  have inX12_ : ∀ w ∈ u_ws RX12 TX12 32, w ∈ wsX12_room := fun w h => List.mem_cons_of_mem _ (List.mem_append_right _ h)
  have fl123 : (Cond.fieldLink RX12 123 "OutStationModel" "answerSize" "I").before ([.ref h0] : List Value).toArray s = true := hts _ (by decide +kernel)
  have hown : s.vm.findClass RX12 = some m.cls := hown
  obtain ⟨H, eH9⟩ : ∃ H, H = s.heap := ⟨_, rfl⟩
  have hP : va_P D vwCl [(h0, .inr (12, [m_thrown, m_values, m_eventPoint, m_eventValue, m_events, m_told, m_over, m_lost, m_restart, m_outputs, m_time, m_heard, m_heardSize, m_begun, m_master, m_part, m_fragment, m_size, m_selected, m_wanted, m_by, m_since, m_confirm, .ref an0, .int (nI an.length), m_signs, m_sent, m_sentCount, m_sum, m_number, m_reply, m_replySize])), (an0, .inl (cyI, 80, .inl anf))] H := by rw [eH9]; exact hP
  have hS : va_S A s.heap H [] := by rw [eH9]; exact hS
  obtain ⟨locs, eL9⟩ : ∃ z : List Loc, z = [] := ⟨_, rfl⟩
  rw [← eH9, ← eL9]
  have hS : va_S A s.heap H locs := by rw [eL9]; exact hS
  refine lv_bipush (v := (nI 62)) hx hb dX12_room_0 (by decide) ?_
  refine lv_aload_n hx hb dX12_room_2 rfl (lv_at hl 0 rfl) ?_
  refine va_get (D := D) (ci := 12) (v := .int (nI an.length)) (C := RX12) (T := TX12) (N := 32) hx hb hts inX12_ hown hK hP 0 rfl rfl 24 (by decide) fl123 (fun _ h9 => h9) rfl dX12_room_3 ?_
  refine nv_isub hx hb (by omega) dX12_room_6 ?_
  exact ret_i hQ hx hb hr hlocks dX12_room_7 hK hS () (by first | rfl | assumption | omega) hP hD
set_option maxHeartbeats 4000000 in
set_option maxRecDepth 100000 in
theorem c_X12_pointsSize_0 (l : Launch) (D : va_G) (cyI cyZ : ClassId) (n : Nat) : Ci l D yX12_pointsSize wsX12_pointsSize ({ frames := 0, cells := 0, slots := 0, locals := 0 } : Room) [.int (nI 0), .int (nI n)] [] (tyL cyI cyZ) (fun (r : Int32) (_ : Unit) => r = nI (5 + n)) (fun _ : Unit => []) 0 0 := by
  refine mk_Ct (cc := cX12_pointsSize) (maxL := 2) (ret := (some .int)) (by decide) rfl rfl ?_
  intro p e s m below meth c A Q ls hx hb hr hts hown hlocks hml hname hA hN hK hP hD hS hQ hl
  have hl : lv_has ls 2 [(0, .int (nI 0)), (1, .int (nI n))] := hl
  have hown : s.vm.findClass RX12 = some m.cls := hown
  obtain ⟨H, eH9⟩ : ∃ H, H = s.heap := ⟨_, rfl⟩
  have hP : va_P D vwCl [] H := by rw [eH9]; exact hP
  have hS : va_S A s.heap H [] := by rw [eH9]; exact hS
  obtain ⟨locs, eL9⟩ : ∃ z : List Loc, z = [] := ⟨_, rfl⟩
  rw [← eH9, ← eL9]
  have hS : va_S A s.heap H locs := by rw [eL9]; exact hS
  refine lv_iconst (v := (nI 5)) hx hb dX12_pointsSize_0 (by decide) ?_
  refine lv_iload_n hx hb dX12_pointsSize_1 rfl (lv_at hl 0 rfl) ?_
  refine nv_if_ne (tgt := 9) hx hb (by omega) dX12_pointsSize_2 (by decide) (fun c2 => ?_) (fun c2 => ?_)
  · exact absurd c2 (by decide)
  · skip
    refine lv_iload_n hx hb dX12_pointsSize_5 rfl (lv_at hl 1 rfl) ?_
    refine lv_goto (tgt := 12) hx hb dX12_pointsSize_6 (by decide) ?_
    refine nv_iadd hx hb dX12_pointsSize_12 ?_
    exact ret_i hQ hx hb hr hlocks dX12_pointsSize_13 hK hS () (by first | rfl | assumption | omega) hP hD
set_option maxHeartbeats 4000000 in
set_option maxRecDepth 100000 in
theorem c_X12_pointsSize_1 (l : Launch) (D : va_G) (cyI cyZ : ClassId) (n : Nat) : Ci l D yX12_pointsSize wsX12_pointsSize ({ frames := 0, cells := 0, slots := 0, locals := 0 } : Room) [.int (nI 1), .int (nI n)] [] (tyL cyI cyZ) (fun (r : Int32) (_ : Unit) => r = nI (5 + 5 * n)) (fun _ : Unit => []) 0 0 := by
  refine mk_Ct (cc := cX12_pointsSize) (maxL := 2) (ret := (some .int)) (by decide) rfl rfl ?_
  intro p e s m below meth c A Q ls hx hb hr hts hown hlocks hml hname hA hN hK hP hD hS hQ hl
  have hl : lv_has ls 2 [(0, .int (nI 1)), (1, .int (nI n))] := hl
  have hown : s.vm.findClass RX12 = some m.cls := hown
  obtain ⟨H, eH9⟩ : ∃ H, H = s.heap := ⟨_, rfl⟩
  have hP : va_P D vwCl [] H := by rw [eH9]; exact hP
  have hS : va_S A s.heap H [] := by rw [eH9]; exact hS
  obtain ⟨locs, eL9⟩ : ∃ z : List Loc, z = [] := ⟨_, rfl⟩
  rw [← eH9, ← eL9]
  have hS : va_S A s.heap H locs := by rw [eL9]; exact hS
  refine lv_iconst (v := (nI 5)) hx hb dX12_pointsSize_0 (by decide) ?_
  refine lv_iload_n hx hb dX12_pointsSize_1 rfl (lv_at hl 0 rfl) ?_
  refine nv_if_ne (tgt := 9) hx hb (by omega) dX12_pointsSize_2 (by decide) (fun c2 => ?_) (fun c2 => ?_)
  · skip
    refine lv_iconst (v := (nI 5)) hx hb dX12_pointsSize_9 (by decide) ?_
    refine lv_iload_n hx hb dX12_pointsSize_10 rfl (lv_at hl 1 rfl) ?_
    refine nv_imul hx hb dX12_pointsSize_11 ?_
    refine nv_iadd hx hb dX12_pointsSize_12 ?_
    exact ret_i hQ hx hb hr hlocks dX12_pointsSize_13 hK hS () (by first | rfl | assumption | omega) hP hD
  · exact absurd c2 (by decide)
set_option maxHeartbeats 4000000 in
set_option maxRecDepth 100000 in
theorem c_X12_addValue (l : Launch) (D : va_G) (cyI cyZ : ClassId) (h0 : Nat) (m_thrown m_values m_eventPoint m_eventValue m_events m_told m_over m_lost m_restart m_outputs m_time m_heard m_heardSize m_begun m_master m_part m_fragment m_size m_selected m_wanted m_by m_since m_confirm m_signs m_sent m_sentCount m_sum m_number m_reply m_replySize : Value) (an0 : Nat) (an : List Nat) (anf : Nat → Int32) (k : Nat) (v : Int32) (oka : okB 80 an anf) (hk : k < 2) (hlt5 : an.length + 5 ≤ 80) : Cv l D yX12_addValue wsX12_addValue ({ frames := 1, cells := 0, slots := 0, locals := 24 } : Room) [.ref h0, .int (nI k), .int v] [(h0, .inr (12, [m_thrown, m_values, m_eventPoint, m_eventValue, m_events, m_told, m_over, m_lost, m_restart, m_outputs, m_time, m_heard, m_heardSize, m_begun, m_master, m_part, m_fragment, m_size, m_selected, m_wanted, m_by, m_since, m_confirm, .ref an0, .int (nI an.length), m_signs, m_sent, m_sentCount, m_sum, m_number, m_reply, m_replySize])), (an0, .inl (cyI, 80, .inl anf))] (tyL cyI cyZ) (fun anf2 : (Nat → Int32) => okB 80 (an ++ valB k v) anf2) (fun anf2 : (Nat → Int32) => [(h0, .inr (12, [m_thrown, m_values, m_eventPoint, m_eventValue, m_events, m_told, m_over, m_lost, m_restart, m_outputs, m_time, m_heard, m_heardSize, m_begun, m_master, m_part, m_fragment, m_size, m_selected, m_wanted, m_by, m_since, m_confirm, .ref an0, .int (nI ((an ++ valB k v).length)), m_signs, m_sent, m_sentCount, m_sum, m_number, m_reply, m_replySize])), (an0, .inl (cyI, 80, .inl anf2))]) 0 0 := by
  refine mk_Ct (cc := cX12_addValue) (maxL := 4) (ret := none) (by decide) rfl rfl ?_
  intro p e s m below meth c A Q ls hx hb hr hts hown hlocks hml hname hA hN hK hP hD hS hQ hl
  have hl : lv_has ls 4 [(0, .ref h0), (1, .int (nI k)), (2, .int v)] := hl
  have hown : s.vm.findClass RX12 = some m.cls := hown
  obtain ⟨H, eH9⟩ : ∃ H, H = s.heap := ⟨_, rfl⟩
  have hP : va_P D vwCl [(h0, .inr (12, [m_thrown, m_values, m_eventPoint, m_eventValue, m_events, m_told, m_over, m_lost, m_restart, m_outputs, m_time, m_heard, m_heardSize, m_begun, m_master, m_part, m_fragment, m_size, m_selected, m_wanted, m_by, m_since, m_confirm, .ref an0, .int (nI an.length), m_signs, m_sent, m_sentCount, m_sum, m_number, m_reply, m_replySize])), (an0, .inl (cyI, 80, .inl anf))] H := by rw [eH9]; exact hP
  have hS : va_S A s.heap H [] := by rw [eH9]; exact hS
  obtain ⟨locs, eL9⟩ : ∃ z : List Loc, z = [] := ⟨_, rfl⟩
  rw [← eH9, ← eL9]
  have hS : va_S A s.heap H locs := by rw [eL9]; exact hS
  obtain ⟨oa1, oa2, oa3, oa4⟩ := id oka
  refine lv_aload_n hx hb dX12_addValue_0 rfl (lv_at hl 0 rfl) ?_
  refine lv_iload_n hx hb dX12_addValue_1 rfl (lv_at hl 1 rfl) ?_
  refine nv_if_ne (tgt := 15) hx hb (by omega) dX12_addValue_2 (by decide) (fun c2 => ?_) (fun c2 => ?_)
  · skip
    refine lv_iconst (v := (nI 1)) hx hb dX12_addValue_15 (by decide) ?_
    refine res_v (wW := [(h0, .inr (12, [m_thrown, m_values, m_eventPoint, m_eventValue, m_events, m_told, m_over, m_lost, m_restart, m_outputs, m_time, m_heard, m_heardSize, m_begun, m_master, m_part, m_fragment, m_size, m_selected, m_wanted, m_by, m_since, m_confirm, .ref an0, .int (nI an.length), m_signs, m_sent, m_sentCount, m_sum, m_number, m_reply, m_replySize])), (an0, .inl (cyI, 80, .inl anf))]) (Wc := [(h0, .inr (12, [m_thrown, m_values, m_eventPoint, m_eventValue, m_events, m_told, m_over, m_lost, m_restart, m_outputs, m_time, m_heard, m_heardSize, m_begun, m_master, m_part, m_fragment, m_size, m_selected, m_wanted, m_by, m_since, m_confirm, .ref an0, .int (nI an.length), m_signs, m_sent, m_sentCount, m_sum, m_number, m_reply, m_replySize])), (an0, .inl (cyI, 80, .inl anf))]) (Wr := []) (run_V (QA := fun A => va_Qv _ (bw D _ (tyL cyI cyZ) A) A) (rmC := ({ frames := 0, cells := 0, slots := 0, locals := 0 } : Room)) (mc := 0) (ms := 0) (As := [.int (nI 1)]) (rest := []) (ci := 12) (wW := [(h0, .inr (12, [m_thrown, m_values, m_eventPoint, m_eventValue, m_events, m_told, m_over, m_lost, m_restart, m_outputs, m_time, m_heard, m_heardSize, m_begun, m_master, m_part, m_fragment, m_size, m_selected, m_wanted, m_by, m_since, m_confirm, .ref an0, .int (nI an.length), m_signs, m_sent, m_sentCount, m_sum, m_number, m_reply, m_replySize])), (an0, .inl (cyI, 80, .inl anf))]) (Wc := [(h0, .inr (12, [m_thrown, m_values, m_eventPoint, m_eventValue, m_events, m_told, m_over, m_lost, m_restart, m_outputs, m_time, m_heard, m_heardSize, m_begun, m_master, m_part, m_fragment, m_size, m_selected, m_wanted, m_by, m_since, m_confirm, .ref an0, .int (nI an.length), m_signs, m_sent, m_sentCount, m_sum, m_number, m_reply, m_replySize])), (an0, .inl (cyI, 80, .inl anf))]) ⟨hx, hb, hml, hown, hts⟩ (c_X12_add_N l D cyI cyZ h0 (m_thrown) (m_values) (m_eventPoint) (m_eventValue) (m_events) (m_told) (m_over) (m_lost) (m_restart) (m_outputs) (m_time) (m_heard) (m_heardSize) (m_begun) (m_master) (m_part) (m_fragment) (m_size) (m_selected) (m_wanted) (m_by) (m_since) (m_confirm) (m_signs) (m_sent) (m_sentCount) (m_sum) (m_number) (m_reply) (m_replySize) an0 an anf 1 (by assumption) (by omega) (by omega)) (cwV 1 hts gX12_addValue_X12_add rfl rfl rfl (by decide +kernel) ⟨Nat.le_of_ble_eq_true rfl, Nat.le_of_ble_eq_true rfl⟩) hN hK hP hD [0, 1] rfl (by decide) 0 rfl rfl rfl hl.1 rfl rfl dX12_addValue_16 ⟨Nat.le_of_ble_eq_true rfl, Nat.le_of_ble_eq_true rfl⟩) hP hD hS hA [0, 1] [] rfl rfl (by decide) (by decide) (fun anf2_16 H locs w16 hP hD hS => ?_)
    have w16 : okB 80 (an ++ [1]) anf2_16 := w16
    have hP : va_P D vwCl [(h0, .inr (12, [m_thrown, m_values, m_eventPoint, m_eventValue, m_events, m_told, m_over, m_lost, m_restart, m_outputs, m_time, m_heard, m_heardSize, m_begun, m_master, m_part, m_fragment, m_size, m_selected, m_wanted, m_by, m_since, m_confirm, .ref an0, .int (nI ((an ++ [1]).length)), m_signs, m_sent, m_sentCount, m_sum, m_number, m_reply, m_replySize])), (an0, .inl (cyI, 80, .inl anf2_16))] H := hP
    have hD : va_D A [(h0, .inr (12, [m_thrown, m_values, m_eventPoint, m_eventValue, m_events, m_told, m_over, m_lost, m_restart, m_outputs, m_time, m_heard, m_heardSize, m_begun, m_master, m_part, m_fragment, m_size, m_selected, m_wanted, m_by, m_since, m_confirm, .ref an0, .int (nI ((an ++ [1]).length)), m_signs, m_sent, m_sentCount, m_sum, m_number, m_reply, m_replySize])), (an0, .inl (cyI, 80, .inl anf2_16))] := hD
    refine lv_iconst (v := (nI 0)) hx hb dX12_addValue_19 (by decide) ?_
    refine lv_istore_n (lv' := [(3, .int (nI 0)), (0, .ref h0), (1, .int (nI k)), (2, .int v)]) hx hb dX12_addValue_20 rfl hl (by decide) rfl (fun ls hl => ?_)
    have L21 : ∀ (n9 : Nat) (i : Nat) (al : List Nat) (anf1 : Nat → Int32), (i ≤ 4) → (al = an ++ ((if k = 0 then [byte8 (nI 1 + nI 128 * v)] else [1]) ++ (List.range i).map (sbv v))) → (okB 80 al anf1) → (k = 0 → i = 0) → (4 - i) < n9 → ∀ (H : Heap) (locs : List Loc) (ls : Array Slot), va_P D vwCl [(h0, .inr (12, [m_thrown, m_values, m_eventPoint, m_eventValue, m_events, m_told, m_over, m_lost, m_restart, m_outputs, m_time, m_heard, m_heardSize, m_begun, m_master, m_part, m_fragment, m_size, m_selected, m_wanted, m_by, m_since, m_confirm, .ref an0, .int (nI al.length), m_signs, m_sent, m_sentCount, m_sum, m_number, m_reply, m_replySize])), (an0, .inl (cyI, 80, .inl anf1))] H → va_D A [(h0, .inr (12, [m_thrown, m_values, m_eventPoint, m_eventValue, m_events, m_told, m_over, m_lost, m_restart, m_outputs, m_time, m_heard, m_heardSize, m_begun, m_master, m_part, m_fragment, m_size, m_selected, m_wanted, m_by, m_since, m_confirm, .ref an0, .int (nI al.length), m_signs, m_sent, m_sentCount, m_sum, m_number, m_reply, m_replySize])), (an0, .inl (cyI, 80, .inl anf1))] → va_S A s.heap H locs → lv_has ls 4 [(0, .ref h0), (1, .int (nI k)), (2, .int v), (3, .int (nI i))] → W p l e ({ frames := 1, cells := 0, slots := 0, locals := 24 } : Room) s m ([.ref h0, .int (nI k), .int v] : List Value).toArray below meth c H locs 0 0 Q (F0 m 21 ls []) := by
      intro n9
      induction n9 with
      | zero =>
        intro i al anf1 hi hal okl h0i hm9
        exact absurd hm9 (Nat.not_lt_zero _)
      | succ n9 ih =>
        intro i al anf1 hi hal okl h0i hm9 H locs ls hP hD hS hl
        have hl1 : al.length = an.length + 1 + i := by rw [hal]; split <;> simp <;> omega
        refine lv_iload_n hx hb dX12_addValue_21 rfl (lv_at hl 3 rfl) ?_
        refine lv_iconst (v := (nI 4)) hx hb dX12_addValue_22 (by decide) ?_
        refine nv_icmp_ge (tgt := 47) hx hb (by omega) (by omega) dX12_addValue_23 (by decide) (fun c23 => ?_) (fun c23 => ?_)
        · skip
          have ew9 : ([(h0, .inr (12, [m_thrown, m_values, m_eventPoint, m_eventValue, m_events, m_told, m_over, m_lost, m_restart, m_outputs, m_time, m_heard, m_heardSize, m_begun, m_master, m_part, m_fragment, m_size, m_selected, m_wanted, m_by, m_since, m_confirm, .ref an0, .int (nI ((an ++ valB k v).length)), m_signs, m_sent, m_sentCount, m_sum, m_number, m_reply, m_replySize])), (an0, .inl (cyI, 80, .inl anf1))] : va_W) = [(h0, .inr (12, [m_thrown, m_values, m_eventPoint, m_eventValue, m_events, m_told, m_over, m_lost, m_restart, m_outputs, m_time, m_heard, m_heardSize, m_begun, m_master, m_part, m_fragment, m_size, m_selected, m_wanted, m_by, m_since, m_confirm, .ref an0, .int (nI al.length), m_signs, m_sent, m_sentCount, m_sum, m_number, m_reply, m_replySize])), (an0, .inl (cyI, 80, .inl anf1))] := by rw [hal, valB_k hk h0i (by omega)]
          have hP : va_P D vwCl [(h0, .inr (12, [m_thrown, m_values, m_eventPoint, m_eventValue, m_events, m_told, m_over, m_lost, m_restart, m_outputs, m_time, m_heard, m_heardSize, m_begun, m_master, m_part, m_fragment, m_size, m_selected, m_wanted, m_by, m_since, m_confirm, .ref an0, .int (nI ((an ++ valB k v).length)), m_signs, m_sent, m_sentCount, m_sum, m_number, m_reply, m_replySize])), (an0, .inl (cyI, 80, .inl anf1))] H := by rw [ew9]; exact hP
          have hD : va_D A [(h0, .inr (12, [m_thrown, m_values, m_eventPoint, m_eventValue, m_events, m_told, m_over, m_lost, m_restart, m_outputs, m_time, m_heard, m_heardSize, m_begun, m_master, m_part, m_fragment, m_size, m_selected, m_wanted, m_by, m_since, m_confirm, .ref an0, .int (nI ((an ++ valB k v).length)), m_signs, m_sent, m_sentCount, m_sum, m_number, m_reply, m_replySize])), (an0, .inl (cyI, 80, .inl anf1))] := by rw [ew9]; exact hD
          exact ret_v hQ hx hb hr hlocks dX12_addValue_47 hK hS anf1 (by rw [hal, valB_k hk h0i (by omega)] at okl; exact okl) hP hD
        · skip
          refine lv_iload_n hx hb dX12_addValue_26 rfl (lv_at hl 1 rfl) ?_
          refine lv_iconst (v := (nI 1)) hx hb dX12_addValue_27 (by decide) ?_
          refine nv_icmp_ne (tgt := 47) hx hb (by omega) (by omega) dX12_addValue_28 (by decide) (fun c28 => ?_) (fun c28 => ?_)
          · skip
            have ew9 : ([(h0, .inr (12, [m_thrown, m_values, m_eventPoint, m_eventValue, m_events, m_told, m_over, m_lost, m_restart, m_outputs, m_time, m_heard, m_heardSize, m_begun, m_master, m_part, m_fragment, m_size, m_selected, m_wanted, m_by, m_since, m_confirm, .ref an0, .int (nI ((an ++ valB k v).length)), m_signs, m_sent, m_sentCount, m_sum, m_number, m_reply, m_replySize])), (an0, .inl (cyI, 80, .inl anf1))] : va_W) = [(h0, .inr (12, [m_thrown, m_values, m_eventPoint, m_eventValue, m_events, m_told, m_over, m_lost, m_restart, m_outputs, m_time, m_heard, m_heardSize, m_begun, m_master, m_part, m_fragment, m_size, m_selected, m_wanted, m_by, m_since, m_confirm, .ref an0, .int (nI al.length), m_signs, m_sent, m_sentCount, m_sum, m_number, m_reply, m_replySize])), (an0, .inl (cyI, 80, .inl anf1))] := by rw [hal, valB_k hk h0i (by omega)]
            have hP : va_P D vwCl [(h0, .inr (12, [m_thrown, m_values, m_eventPoint, m_eventValue, m_events, m_told, m_over, m_lost, m_restart, m_outputs, m_time, m_heard, m_heardSize, m_begun, m_master, m_part, m_fragment, m_size, m_selected, m_wanted, m_by, m_since, m_confirm, .ref an0, .int (nI ((an ++ valB k v).length)), m_signs, m_sent, m_sentCount, m_sum, m_number, m_reply, m_replySize])), (an0, .inl (cyI, 80, .inl anf1))] H := by rw [ew9]; exact hP
            have hD : va_D A [(h0, .inr (12, [m_thrown, m_values, m_eventPoint, m_eventValue, m_events, m_told, m_over, m_lost, m_restart, m_outputs, m_time, m_heard, m_heardSize, m_begun, m_master, m_part, m_fragment, m_size, m_selected, m_wanted, m_by, m_since, m_confirm, .ref an0, .int (nI ((an ++ valB k v).length)), m_signs, m_sent, m_sentCount, m_sum, m_number, m_reply, m_replySize])), (an0, .inl (cyI, 80, .inl anf1))] := by rw [ew9]; exact hD
            exact ret_v hQ hx hb hr hlocks dX12_addValue_47 hK hS anf1 (by rw [hal, valB_k hk h0i (by omega)] at okl; exact okl) hP hD
          · skip
            refine lv_aload_n hx hb dX12_addValue_31 rfl (lv_at hl 0 rfl) ?_
            refine lv_iload_n hx hb dX12_addValue_32 rfl (lv_at hl 2 rfl) ?_
            refine lv_bipush (v := (nI 8)) hx hb dX12_addValue_33 (by decide) ?_
            refine lv_iload_n hx hb dX12_addValue_35 rfl (lv_at hl 3 rfl) ?_
            refine nv_imul hx hb dX12_addValue_36 ?_
            refine lv_ishr hx hb dX12_addValue_37 ?_
            refine res_v (wW := [(h0, .inr (12, [m_thrown, m_values, m_eventPoint, m_eventValue, m_events, m_told, m_over, m_lost, m_restart, m_outputs, m_time, m_heard, m_heardSize, m_begun, m_master, m_part, m_fragment, m_size, m_selected, m_wanted, m_by, m_since, m_confirm, .ref an0, .int (nI al.length), m_signs, m_sent, m_sentCount, m_sum, m_number, m_reply, m_replySize])), (an0, .inl (cyI, 80, .inl anf1))]) (Wc := [(h0, .inr (12, [m_thrown, m_values, m_eventPoint, m_eventValue, m_events, m_told, m_over, m_lost, m_restart, m_outputs, m_time, m_heard, m_heardSize, m_begun, m_master, m_part, m_fragment, m_size, m_selected, m_wanted, m_by, m_since, m_confirm, .ref an0, .int (nI al.length), m_signs, m_sent, m_sentCount, m_sum, m_number, m_reply, m_replySize])), (an0, .inl (cyI, 80, .inl anf1))]) (Wr := []) (run_V (QA := fun A => va_Qv _ (bw D _ (tyL cyI cyZ) A) A) (rmC := ({ frames := 0, cells := 0, slots := 0, locals := 0 } : Room)) (mc := 0) (ms := 0) (As := [.int (v >>> ((nI (8 * i)) &&& 31))]) (rest := []) (ci := 12) (wW := [(h0, .inr (12, [m_thrown, m_values, m_eventPoint, m_eventValue, m_events, m_told, m_over, m_lost, m_restart, m_outputs, m_time, m_heard, m_heardSize, m_begun, m_master, m_part, m_fragment, m_size, m_selected, m_wanted, m_by, m_since, m_confirm, .ref an0, .int (nI al.length), m_signs, m_sent, m_sentCount, m_sum, m_number, m_reply, m_replySize])), (an0, .inl (cyI, 80, .inl anf1))]) (Wc := [(h0, .inr (12, [m_thrown, m_values, m_eventPoint, m_eventValue, m_events, m_told, m_over, m_lost, m_restart, m_outputs, m_time, m_heard, m_heardSize, m_begun, m_master, m_part, m_fragment, m_size, m_selected, m_wanted, m_by, m_since, m_confirm, .ref an0, .int (nI al.length), m_signs, m_sent, m_sentCount, m_sum, m_number, m_reply, m_replySize])), (an0, .inl (cyI, 80, .inl anf1))]) ⟨hx, hb, hml, hown, hts⟩ (c_X12_add l D cyI cyZ h0 (m_thrown) (m_values) (m_eventPoint) (m_eventValue) (m_events) (m_told) (m_over) (m_lost) (m_restart) (m_outputs) (m_time) (m_heard) (m_heardSize) (m_begun) (m_master) (m_part) (m_fragment) (m_size) (m_selected) (m_wanted) (m_by) (m_since) (m_confirm) (m_signs) (m_sent) (m_sentCount) (m_sum) (m_number) (m_reply) (m_replySize) an0 al anf1 (v >>> ((nI (8 * i)) &&& 31)) (okl) (by omega)) (cwV 1 hts gX12_addValue_X12_add rfl rfl rfl (by decide +kernel) ⟨Nat.le_of_ble_eq_true rfl, Nat.le_of_ble_eq_true rfl⟩) hN hK hP hD [0, 1] rfl (by decide) 0 rfl rfl rfl hl.1 rfl rfl dX12_addValue_38 ⟨Nat.le_of_ble_eq_true rfl, Nat.le_of_ble_eq_true rfl⟩) hP hD hS hA [0, 1] [] rfl rfl (by decide) (by decide) (fun anf2_38 H locs w38 hP hD hS => ?_)
            have w38 : okB 80 (al ++ [byte8 (v >>> ((nI (8 * i)) &&& 31))]) anf2_38 := w38
            have hP : va_P D vwCl [(h0, .inr (12, [m_thrown, m_values, m_eventPoint, m_eventValue, m_events, m_told, m_over, m_lost, m_restart, m_outputs, m_time, m_heard, m_heardSize, m_begun, m_master, m_part, m_fragment, m_size, m_selected, m_wanted, m_by, m_since, m_confirm, .ref an0, .int (nI ((al ++ [byte8 (v >>> ((nI (8 * i)) &&& 31))]).length)), m_signs, m_sent, m_sentCount, m_sum, m_number, m_reply, m_replySize])), (an0, .inl (cyI, 80, .inl anf2_38))] H := hP
            have hD : va_D A [(h0, .inr (12, [m_thrown, m_values, m_eventPoint, m_eventValue, m_events, m_told, m_over, m_lost, m_restart, m_outputs, m_time, m_heard, m_heardSize, m_begun, m_master, m_part, m_fragment, m_size, m_selected, m_wanted, m_by, m_since, m_confirm, .ref an0, .int (nI ((al ++ [byte8 (v >>> ((nI (8 * i)) &&& 31))]).length)), m_signs, m_sent, m_sentCount, m_sum, m_number, m_reply, m_replySize])), (an0, .inl (cyI, 80, .inl anf2_38))] := hD
            refine lv_iinc (v := (nI (i + 1))) (lv' := [(3, .int (nI (i + 1))), (0, .ref h0), (1, .int (nI k)), (2, .int v)]) hx hb dX12_addValue_41 hl (k := 3) rfl (nI_add _ _) (by decide) rfl (fun ls hl => ?_)
            refine lv_goto (tgt := 21) hx hb dX12_addValue_44 (by decide) ?_
            exact ih (i + 1) (al ++ [byte8 (v >>> ((nI (8 * i)) &&& 31))]) anf2_38 (by omega) (by rw [sbv_shr (by omega), hal, List.range_succ]; simp only [List.map_append, List.map_cons, List.map_nil, List.append_assoc]) (w38) (by omega) (by omega) H locs ls hP hD hS (lv_sub hl [1, 2, 3, 0] rfl)
    exact L21 _ 0 (an ++ [1]) anf2_16 (by omega) (by rw [if_neg c2]; rfl) (w16) (by omega) (Nat.lt_succ_self _) H locs ls hP hD hS (lv_sub hl [1, 2, 3, 0] rfl)
  · skip
    refine lv_iconst (v := (nI 1)) hx hb dX12_addValue_5 (by decide) ?_
    refine lv_sipush (v := (nI 128)) hx hb dX12_addValue_6 (by decide) ?_
    refine lv_iload_n hx hb dX12_addValue_9 rfl (lv_at hl 2 rfl) ?_
    refine lv_imul hx hb dX12_addValue_10 ?_
    refine lv_iadd hx hb dX12_addValue_11 ?_
    refine lv_goto (tgt := 16) hx hb dX12_addValue_12 (by decide) ?_
    refine res_v (wW := [(h0, .inr (12, [m_thrown, m_values, m_eventPoint, m_eventValue, m_events, m_told, m_over, m_lost, m_restart, m_outputs, m_time, m_heard, m_heardSize, m_begun, m_master, m_part, m_fragment, m_size, m_selected, m_wanted, m_by, m_since, m_confirm, .ref an0, .int (nI an.length), m_signs, m_sent, m_sentCount, m_sum, m_number, m_reply, m_replySize])), (an0, .inl (cyI, 80, .inl anf))]) (Wc := [(h0, .inr (12, [m_thrown, m_values, m_eventPoint, m_eventValue, m_events, m_told, m_over, m_lost, m_restart, m_outputs, m_time, m_heard, m_heardSize, m_begun, m_master, m_part, m_fragment, m_size, m_selected, m_wanted, m_by, m_since, m_confirm, .ref an0, .int (nI an.length), m_signs, m_sent, m_sentCount, m_sum, m_number, m_reply, m_replySize])), (an0, .inl (cyI, 80, .inl anf))]) (Wr := []) (run_V (QA := fun A => va_Qv _ (bw D _ (tyL cyI cyZ) A) A) (rmC := ({ frames := 0, cells := 0, slots := 0, locals := 0 } : Room)) (mc := 0) (ms := 0) (As := [.int ((nI 1) + ((nI 128) * v))]) (rest := []) (ci := 12) (wW := [(h0, .inr (12, [m_thrown, m_values, m_eventPoint, m_eventValue, m_events, m_told, m_over, m_lost, m_restart, m_outputs, m_time, m_heard, m_heardSize, m_begun, m_master, m_part, m_fragment, m_size, m_selected, m_wanted, m_by, m_since, m_confirm, .ref an0, .int (nI an.length), m_signs, m_sent, m_sentCount, m_sum, m_number, m_reply, m_replySize])), (an0, .inl (cyI, 80, .inl anf))]) (Wc := [(h0, .inr (12, [m_thrown, m_values, m_eventPoint, m_eventValue, m_events, m_told, m_over, m_lost, m_restart, m_outputs, m_time, m_heard, m_heardSize, m_begun, m_master, m_part, m_fragment, m_size, m_selected, m_wanted, m_by, m_since, m_confirm, .ref an0, .int (nI an.length), m_signs, m_sent, m_sentCount, m_sum, m_number, m_reply, m_replySize])), (an0, .inl (cyI, 80, .inl anf))]) ⟨hx, hb, hml, hown, hts⟩ (c_X12_add l D cyI cyZ h0 (m_thrown) (m_values) (m_eventPoint) (m_eventValue) (m_events) (m_told) (m_over) (m_lost) (m_restart) (m_outputs) (m_time) (m_heard) (m_heardSize) (m_begun) (m_master) (m_part) (m_fragment) (m_size) (m_selected) (m_wanted) (m_by) (m_since) (m_confirm) (m_signs) (m_sent) (m_sentCount) (m_sum) (m_number) (m_reply) (m_replySize) an0 an anf ((nI 1) + ((nI 128) * v)) (by assumption) (by omega)) (cwV 1 hts gX12_addValue_X12_add rfl rfl rfl (by decide +kernel) ⟨Nat.le_of_ble_eq_true rfl, Nat.le_of_ble_eq_true rfl⟩) hN hK hP hD [0, 1] rfl (by decide) 0 rfl rfl rfl hl.1 rfl rfl dX12_addValue_16 ⟨Nat.le_of_ble_eq_true rfl, Nat.le_of_ble_eq_true rfl⟩) hP hD hS hA [0, 1] [] rfl rfl (by decide) (by decide) (fun anf2_16_1 H locs w16 hP hD hS => ?_)
    have w16 : okB 80 (an ++ [byte8 ((nI 1) + ((nI 128) * v))]) anf2_16_1 := w16
    have hP : va_P D vwCl [(h0, .inr (12, [m_thrown, m_values, m_eventPoint, m_eventValue, m_events, m_told, m_over, m_lost, m_restart, m_outputs, m_time, m_heard, m_heardSize, m_begun, m_master, m_part, m_fragment, m_size, m_selected, m_wanted, m_by, m_since, m_confirm, .ref an0, .int (nI ((an ++ [byte8 ((nI 1) + ((nI 128) * v))]).length)), m_signs, m_sent, m_sentCount, m_sum, m_number, m_reply, m_replySize])), (an0, .inl (cyI, 80, .inl anf2_16_1))] H := hP
    have hD : va_D A [(h0, .inr (12, [m_thrown, m_values, m_eventPoint, m_eventValue, m_events, m_told, m_over, m_lost, m_restart, m_outputs, m_time, m_heard, m_heardSize, m_begun, m_master, m_part, m_fragment, m_size, m_selected, m_wanted, m_by, m_since, m_confirm, .ref an0, .int (nI ((an ++ [byte8 ((nI 1) + ((nI 128) * v))]).length)), m_signs, m_sent, m_sentCount, m_sum, m_number, m_reply, m_replySize])), (an0, .inl (cyI, 80, .inl anf2_16_1))] := hD
    refine lv_iconst (v := (nI 0)) hx hb dX12_addValue_19 (by decide) ?_
    refine lv_istore_n (lv' := [(3, .int (nI 0)), (0, .ref h0), (1, .int (nI k)), (2, .int v)]) hx hb dX12_addValue_20 rfl hl (by decide) rfl (fun ls hl => ?_)
    have L21 : ∀ (n9 : Nat) (i : Nat) (al : List Nat) (anf1 : Nat → Int32), (i ≤ 4) → (al = an ++ ((if k = 0 then [byte8 (nI 1 + nI 128 * v)] else [1]) ++ (List.range i).map (sbv v))) → (okB 80 al anf1) → (k = 0 → i = 0) → (4 - i) < n9 → ∀ (H : Heap) (locs : List Loc) (ls : Array Slot), va_P D vwCl [(h0, .inr (12, [m_thrown, m_values, m_eventPoint, m_eventValue, m_events, m_told, m_over, m_lost, m_restart, m_outputs, m_time, m_heard, m_heardSize, m_begun, m_master, m_part, m_fragment, m_size, m_selected, m_wanted, m_by, m_since, m_confirm, .ref an0, .int (nI al.length), m_signs, m_sent, m_sentCount, m_sum, m_number, m_reply, m_replySize])), (an0, .inl (cyI, 80, .inl anf1))] H → va_D A [(h0, .inr (12, [m_thrown, m_values, m_eventPoint, m_eventValue, m_events, m_told, m_over, m_lost, m_restart, m_outputs, m_time, m_heard, m_heardSize, m_begun, m_master, m_part, m_fragment, m_size, m_selected, m_wanted, m_by, m_since, m_confirm, .ref an0, .int (nI al.length), m_signs, m_sent, m_sentCount, m_sum, m_number, m_reply, m_replySize])), (an0, .inl (cyI, 80, .inl anf1))] → va_S A s.heap H locs → lv_has ls 4 [(0, .ref h0), (1, .int (nI k)), (2, .int v), (3, .int (nI i))] → W p l e ({ frames := 1, cells := 0, slots := 0, locals := 24 } : Room) s m ([.ref h0, .int (nI k), .int v] : List Value).toArray below meth c H locs 0 0 Q (F0 m 21 ls []) := by
      intro n9
      induction n9 with
      | zero =>
        intro i al anf1 hi hal okl h0i hm9
        exact absurd hm9 (Nat.not_lt_zero _)
      | succ n9 ih =>
        intro i al anf1 hi hal okl h0i hm9 H locs ls hP hD hS hl
        have hl1 : al.length = an.length + 1 + i := by rw [hal]; split <;> simp <;> omega
        refine lv_iload_n hx hb dX12_addValue_21 rfl (lv_at hl 3 rfl) ?_
        refine lv_iconst (v := (nI 4)) hx hb dX12_addValue_22 (by decide) ?_
        refine nv_icmp_ge (tgt := 47) hx hb (by omega) (by omega) dX12_addValue_23 (by decide) (fun c23 => ?_) (fun c23 => ?_)
        · skip
          have ew9 : ([(h0, .inr (12, [m_thrown, m_values, m_eventPoint, m_eventValue, m_events, m_told, m_over, m_lost, m_restart, m_outputs, m_time, m_heard, m_heardSize, m_begun, m_master, m_part, m_fragment, m_size, m_selected, m_wanted, m_by, m_since, m_confirm, .ref an0, .int (nI ((an ++ valB k v).length)), m_signs, m_sent, m_sentCount, m_sum, m_number, m_reply, m_replySize])), (an0, .inl (cyI, 80, .inl anf1))] : va_W) = [(h0, .inr (12, [m_thrown, m_values, m_eventPoint, m_eventValue, m_events, m_told, m_over, m_lost, m_restart, m_outputs, m_time, m_heard, m_heardSize, m_begun, m_master, m_part, m_fragment, m_size, m_selected, m_wanted, m_by, m_since, m_confirm, .ref an0, .int (nI al.length), m_signs, m_sent, m_sentCount, m_sum, m_number, m_reply, m_replySize])), (an0, .inl (cyI, 80, .inl anf1))] := by rw [hal, valB_k hk h0i (by omega)]
          have hP : va_P D vwCl [(h0, .inr (12, [m_thrown, m_values, m_eventPoint, m_eventValue, m_events, m_told, m_over, m_lost, m_restart, m_outputs, m_time, m_heard, m_heardSize, m_begun, m_master, m_part, m_fragment, m_size, m_selected, m_wanted, m_by, m_since, m_confirm, .ref an0, .int (nI ((an ++ valB k v).length)), m_signs, m_sent, m_sentCount, m_sum, m_number, m_reply, m_replySize])), (an0, .inl (cyI, 80, .inl anf1))] H := by rw [ew9]; exact hP
          have hD : va_D A [(h0, .inr (12, [m_thrown, m_values, m_eventPoint, m_eventValue, m_events, m_told, m_over, m_lost, m_restart, m_outputs, m_time, m_heard, m_heardSize, m_begun, m_master, m_part, m_fragment, m_size, m_selected, m_wanted, m_by, m_since, m_confirm, .ref an0, .int (nI ((an ++ valB k v).length)), m_signs, m_sent, m_sentCount, m_sum, m_number, m_reply, m_replySize])), (an0, .inl (cyI, 80, .inl anf1))] := by rw [ew9]; exact hD
          exact ret_v hQ hx hb hr hlocks dX12_addValue_47 hK hS anf1 (by rw [hal, valB_k hk h0i (by omega)] at okl; exact okl) hP hD
        · skip
          refine lv_iload_n hx hb dX12_addValue_26 rfl (lv_at hl 1 rfl) ?_
          refine lv_iconst (v := (nI 1)) hx hb dX12_addValue_27 (by decide) ?_
          refine nv_icmp_ne (tgt := 47) hx hb (by omega) (by omega) dX12_addValue_28 (by decide) (fun c28 => ?_) (fun c28 => ?_)
          · skip
            have ew9 : ([(h0, .inr (12, [m_thrown, m_values, m_eventPoint, m_eventValue, m_events, m_told, m_over, m_lost, m_restart, m_outputs, m_time, m_heard, m_heardSize, m_begun, m_master, m_part, m_fragment, m_size, m_selected, m_wanted, m_by, m_since, m_confirm, .ref an0, .int (nI ((an ++ valB k v).length)), m_signs, m_sent, m_sentCount, m_sum, m_number, m_reply, m_replySize])), (an0, .inl (cyI, 80, .inl anf1))] : va_W) = [(h0, .inr (12, [m_thrown, m_values, m_eventPoint, m_eventValue, m_events, m_told, m_over, m_lost, m_restart, m_outputs, m_time, m_heard, m_heardSize, m_begun, m_master, m_part, m_fragment, m_size, m_selected, m_wanted, m_by, m_since, m_confirm, .ref an0, .int (nI al.length), m_signs, m_sent, m_sentCount, m_sum, m_number, m_reply, m_replySize])), (an0, .inl (cyI, 80, .inl anf1))] := by rw [hal, valB_k hk h0i (by omega)]
            have hP : va_P D vwCl [(h0, .inr (12, [m_thrown, m_values, m_eventPoint, m_eventValue, m_events, m_told, m_over, m_lost, m_restart, m_outputs, m_time, m_heard, m_heardSize, m_begun, m_master, m_part, m_fragment, m_size, m_selected, m_wanted, m_by, m_since, m_confirm, .ref an0, .int (nI ((an ++ valB k v).length)), m_signs, m_sent, m_sentCount, m_sum, m_number, m_reply, m_replySize])), (an0, .inl (cyI, 80, .inl anf1))] H := by rw [ew9]; exact hP
            have hD : va_D A [(h0, .inr (12, [m_thrown, m_values, m_eventPoint, m_eventValue, m_events, m_told, m_over, m_lost, m_restart, m_outputs, m_time, m_heard, m_heardSize, m_begun, m_master, m_part, m_fragment, m_size, m_selected, m_wanted, m_by, m_since, m_confirm, .ref an0, .int (nI ((an ++ valB k v).length)), m_signs, m_sent, m_sentCount, m_sum, m_number, m_reply, m_replySize])), (an0, .inl (cyI, 80, .inl anf1))] := by rw [ew9]; exact hD
            exact ret_v hQ hx hb hr hlocks dX12_addValue_47 hK hS anf1 (by rw [hal, valB_k hk h0i (by omega)] at okl; exact okl) hP hD
          · skip
            refine lv_aload_n hx hb dX12_addValue_31 rfl (lv_at hl 0 rfl) ?_
            refine lv_iload_n hx hb dX12_addValue_32 rfl (lv_at hl 2 rfl) ?_
            refine lv_bipush (v := (nI 8)) hx hb dX12_addValue_33 (by decide) ?_
            refine lv_iload_n hx hb dX12_addValue_35 rfl (lv_at hl 3 rfl) ?_
            refine nv_imul hx hb dX12_addValue_36 ?_
            refine lv_ishr hx hb dX12_addValue_37 ?_
            refine res_v (wW := [(h0, .inr (12, [m_thrown, m_values, m_eventPoint, m_eventValue, m_events, m_told, m_over, m_lost, m_restart, m_outputs, m_time, m_heard, m_heardSize, m_begun, m_master, m_part, m_fragment, m_size, m_selected, m_wanted, m_by, m_since, m_confirm, .ref an0, .int (nI al.length), m_signs, m_sent, m_sentCount, m_sum, m_number, m_reply, m_replySize])), (an0, .inl (cyI, 80, .inl anf1))]) (Wc := [(h0, .inr (12, [m_thrown, m_values, m_eventPoint, m_eventValue, m_events, m_told, m_over, m_lost, m_restart, m_outputs, m_time, m_heard, m_heardSize, m_begun, m_master, m_part, m_fragment, m_size, m_selected, m_wanted, m_by, m_since, m_confirm, .ref an0, .int (nI al.length), m_signs, m_sent, m_sentCount, m_sum, m_number, m_reply, m_replySize])), (an0, .inl (cyI, 80, .inl anf1))]) (Wr := []) (run_V (QA := fun A => va_Qv _ (bw D _ (tyL cyI cyZ) A) A) (rmC := ({ frames := 0, cells := 0, slots := 0, locals := 0 } : Room)) (mc := 0) (ms := 0) (As := [.int (v >>> ((nI (8 * i)) &&& 31))]) (rest := []) (ci := 12) (wW := [(h0, .inr (12, [m_thrown, m_values, m_eventPoint, m_eventValue, m_events, m_told, m_over, m_lost, m_restart, m_outputs, m_time, m_heard, m_heardSize, m_begun, m_master, m_part, m_fragment, m_size, m_selected, m_wanted, m_by, m_since, m_confirm, .ref an0, .int (nI al.length), m_signs, m_sent, m_sentCount, m_sum, m_number, m_reply, m_replySize])), (an0, .inl (cyI, 80, .inl anf1))]) (Wc := [(h0, .inr (12, [m_thrown, m_values, m_eventPoint, m_eventValue, m_events, m_told, m_over, m_lost, m_restart, m_outputs, m_time, m_heard, m_heardSize, m_begun, m_master, m_part, m_fragment, m_size, m_selected, m_wanted, m_by, m_since, m_confirm, .ref an0, .int (nI al.length), m_signs, m_sent, m_sentCount, m_sum, m_number, m_reply, m_replySize])), (an0, .inl (cyI, 80, .inl anf1))]) ⟨hx, hb, hml, hown, hts⟩ (c_X12_add l D cyI cyZ h0 (m_thrown) (m_values) (m_eventPoint) (m_eventValue) (m_events) (m_told) (m_over) (m_lost) (m_restart) (m_outputs) (m_time) (m_heard) (m_heardSize) (m_begun) (m_master) (m_part) (m_fragment) (m_size) (m_selected) (m_wanted) (m_by) (m_since) (m_confirm) (m_signs) (m_sent) (m_sentCount) (m_sum) (m_number) (m_reply) (m_replySize) an0 al anf1 (v >>> ((nI (8 * i)) &&& 31)) (okl) (by omega)) (cwV 1 hts gX12_addValue_X12_add rfl rfl rfl (by decide +kernel) ⟨Nat.le_of_ble_eq_true rfl, Nat.le_of_ble_eq_true rfl⟩) hN hK hP hD [0, 1] rfl (by decide) 0 rfl rfl rfl hl.1 rfl rfl dX12_addValue_38 ⟨Nat.le_of_ble_eq_true rfl, Nat.le_of_ble_eq_true rfl⟩) hP hD hS hA [0, 1] [] rfl rfl (by decide) (by decide) (fun anf2_38_1 H locs w38 hP hD hS => ?_)
            have w38 : okB 80 (al ++ [byte8 (v >>> ((nI (8 * i)) &&& 31))]) anf2_38_1 := w38
            have hP : va_P D vwCl [(h0, .inr (12, [m_thrown, m_values, m_eventPoint, m_eventValue, m_events, m_told, m_over, m_lost, m_restart, m_outputs, m_time, m_heard, m_heardSize, m_begun, m_master, m_part, m_fragment, m_size, m_selected, m_wanted, m_by, m_since, m_confirm, .ref an0, .int (nI ((al ++ [byte8 (v >>> ((nI (8 * i)) &&& 31))]).length)), m_signs, m_sent, m_sentCount, m_sum, m_number, m_reply, m_replySize])), (an0, .inl (cyI, 80, .inl anf2_38_1))] H := hP
            have hD : va_D A [(h0, .inr (12, [m_thrown, m_values, m_eventPoint, m_eventValue, m_events, m_told, m_over, m_lost, m_restart, m_outputs, m_time, m_heard, m_heardSize, m_begun, m_master, m_part, m_fragment, m_size, m_selected, m_wanted, m_by, m_since, m_confirm, .ref an0, .int (nI ((al ++ [byte8 (v >>> ((nI (8 * i)) &&& 31))]).length)), m_signs, m_sent, m_sentCount, m_sum, m_number, m_reply, m_replySize])), (an0, .inl (cyI, 80, .inl anf2_38_1))] := hD
            refine lv_iinc (v := (nI (i + 1))) (lv' := [(3, .int (nI (i + 1))), (0, .ref h0), (1, .int (nI k)), (2, .int v)]) hx hb dX12_addValue_41 hl (k := 3) rfl (nI_add _ _) (by decide) rfl (fun ls hl => ?_)
            refine lv_goto (tgt := 21) hx hb dX12_addValue_44 (by decide) ?_
            exact ih (i + 1) (al ++ [byte8 (v >>> ((nI (8 * i)) &&& 31))]) anf2_38_1 (by omega) (by rw [sbv_shr (by omega), hal, List.range_succ]; simp only [List.map_append, List.map_cons, List.map_nil, List.append_assoc]) (w38) (by omega) (by omega) H locs ls hP hD hS (lv_sub hl [1, 2, 3, 0] rfl)
    exact L21 _ 0 (an ++ [byte8 ((nI 1) + ((nI 128) * v))]) anf2_16_1 (by omega) (by rw [if_pos c2]; rfl) (w16) (fun _ => rfl) (Nat.lt_succ_self _) H locs ls hP hD hS (lv_sub hl [1, 2, 3, 0] rfl)
