/-! OWN ROWS, written by wip/gen (walk.py, spec_m.py) -/
set_option maxHeartbeats 4000000 in
set_option maxRecDepth 100000 in
theorem c_X12_isWrong (l : Launch) (D : va_G) (cyI cyZ : ClassId) (h0 : Nat) (m_thrown m_values m_eventPoint m_eventValue m_events m_told m_over m_lost m_restart m_outputs m_time m_begun m_master m_part m_fragment m_size m_selected m_wanted m_by m_since m_confirm m_answer m_answerSize m_signs m_sent m_sentCount m_sum m_number m_reply m_replySize : Value) (hd0 : Nat) (bl : List Nat) (hf : Nat → Int32) (b0 n : Nat) (okh : okB 80 bl hf) (hbn : b0 + n < 1000) : Ci l D yX12_isWrong wsX12_isWrong ({ frames := 1, cells := 0, slots := 0, locals := 30 } : Room) [.ref h0, .int (nI b0), .int (nI n)] [(h0, .inr (12, [m_thrown, m_values, m_eventPoint, m_eventValue, m_events, m_told, m_over, m_lost, m_restart, m_outputs, m_time, .ref hd0, .int (nI bl.length), m_begun, m_master, m_part, m_fragment, m_size, m_selected, m_wanted, m_by, m_since, m_confirm, m_answer, m_answerSize, m_signs, m_sent, m_sentCount, m_sum, m_number, m_reply, m_replySize])), (hd0, .inl (cyI, 80, .inl hf))] (tyL cyI cyZ) (fun (r : Int32) (_ : Unit) => r = bI (isW bl b0 n)) (fun _ : Unit => [(h0, .inr (12, [m_thrown, m_values, m_eventPoint, m_eventValue, m_events, m_told, m_over, m_lost, m_restart, m_outputs, m_time, .ref hd0, .int (nI bl.length), m_begun, m_master, m_part, m_fragment, m_size, m_selected, m_wanted, m_by, m_since, m_confirm, m_answer, m_answerSize, m_signs, m_sent, m_sentCount, m_sum, m_number, m_reply, m_replySize])), (hd0, .inl (cyI, 80, .inl hf))]) 0 0 := by
  refine mk_Ct (cc := cX12_isWrong) (maxL := 5) (ret := (some .boolean)) (by decide) rfl rfl ?_
  intro p e s m below meth c A Q ls hx hb hr hts hown hlocks hml hname hA hN hK hP hD hS hQ hl
  have hl : lv_has ls 5 [(0, .ref h0), (1, .int (nI b0)), (2, .int (nI n))] := hl
  have inX12_ : ∀ w ∈ u_ws RX12 TX12 32, w ∈ wsX12_isWrong := fun w h => List.mem_cons_of_mem _ (List.mem_append_right _ h)
  have fl84 : (Cond.fieldLink RX12 84 "OutStationModel" "heardSize" "I").before ([.ref h0, .int (nI b0), .int (nI n)] : List Value).toArray s = true := hts _ (by decide +kernel)
  have fl36 : (Cond.fieldLink RX12 36 "OutStationModel" "heard" "[I").before ([.ref h0, .int (nI b0), .int (nI n)] : List Value).toArray s = true := hts _ (by decide +kernel)
  have kc83 : (Cond.constant RX12 83 (nI 65535)).before ([.ref h0, .int (nI b0), .int (nI n)] : List Value).toArray s = true := hts _ (by decide +kernel)
  have hown : s.vm.findClass RX12 = some m.cls := hown
  obtain ⟨H, eH9⟩ : ∃ H, H = s.heap := ⟨_, rfl⟩
  have hP : va_P D vwCl [(h0, .inr (12, [m_thrown, m_values, m_eventPoint, m_eventValue, m_events, m_told, m_over, m_lost, m_restart, m_outputs, m_time, .ref hd0, .int (nI bl.length), m_begun, m_master, m_part, m_fragment, m_size, m_selected, m_wanted, m_by, m_since, m_confirm, m_answer, m_answerSize, m_signs, m_sent, m_sentCount, m_sum, m_number, m_reply, m_replySize])), (hd0, .inl (cyI, 80, .inl hf))] H := by rw [eH9]; exact hP
  have hS : va_S A s.heap H [] := by rw [eH9]; exact hS
  obtain ⟨locs, eL9⟩ : ∃ z : List Loc, z = [] := ⟨_, rfl⟩
  rw [← eH9, ← eL9]
  have hS : va_S A s.heap H locs := by rw [eL9]; exact hS
  obtain ⟨oh1, oh2, oh3, oh4⟩ := id okh
  refine lv_iload_n hx hb dX12_isWrong_0 rfl (lv_at hl 1 rfl) ?_
  refine lv_iload_n hx hb dX12_isWrong_1 rfl (lv_at hl 2 rfl) ?_
  refine nv_iadd hx hb dX12_isWrong_2 ?_
  refine lv_iconst (v := (nI 2)) hx hb dX12_isWrong_3 (by decide) ?_
  refine nv_iadd hx hb dX12_isWrong_4 ?_
  refine lv_aload_n hx hb dX12_isWrong_5 rfl (lv_at hl 0 rfl) ?_
  refine va_get (D := D) (ci := 12) (v := .int (nI bl.length)) (C := RX12) (T := TX12) (N := 32) hx hb hts inX12_ hown hK hP 0 rfl rfl 12 (by decide) fl84 (fun _ h9 => h9) rfl dX12_isWrong_6 ?_
  refine nv_icmp_le (tgt := 14) hx hb (by omega) (by omega) dX12_isWrong_9 (by decide) (fun c9 => ?_) (fun c9 => ?_)
  · skip
    refine lv_iconst (v := (nI 0)) hx hb dX12_isWrong_14 (by decide) ?_
    refine lv_istore_n (lv' := [(3, .int (nI 0)), (0, .ref h0), (1, .int (nI b0)), (2, .int (nI n))]) hx hb dX12_isWrong_15 rfl hl (by decide) rfl (fun ls hl => ?_)
    refine lv_iconst (v := (nI 0)) hx hb dX12_isWrong_16 (by decide) ?_
    refine lv_istore (lv' := [(4, .int (nI 0)), (3, .int (nI 0)), (0, .ref h0), (1, .int (nI b0)), (2, .int (nI n))]) hx hb dX12_isWrong_17 hl (by decide) rfl (fun ls hl => ?_)
    have L19 : ∀ (n9_19 : Nat) (i : Nat), (i ≤ n) → (n - i) < n9_19 → ∀ (H : Heap) (locs : List Loc) (ls : Array Slot), va_P D vwCl [(h0, .inr (12, [m_thrown, m_values, m_eventPoint, m_eventValue, m_events, m_told, m_over, m_lost, m_restart, m_outputs, m_time, .ref hd0, .int (nI bl.length), m_begun, m_master, m_part, m_fragment, m_size, m_selected, m_wanted, m_by, m_since, m_confirm, m_answer, m_answerSize, m_signs, m_sent, m_sentCount, m_sum, m_number, m_reply, m_replySize])), (hd0, .inl (cyI, 80, .inl hf))] H → va_D A [(h0, .inr (12, [m_thrown, m_values, m_eventPoint, m_eventValue, m_events, m_told, m_over, m_lost, m_restart, m_outputs, m_time, .ref hd0, .int (nI bl.length), m_begun, m_master, m_part, m_fragment, m_size, m_selected, m_wanted, m_by, m_since, m_confirm, m_answer, m_answerSize, m_signs, m_sent, m_sentCount, m_sum, m_number, m_reply, m_replySize])), (hd0, .inl (cyI, 80, .inl hf))] → va_S A s.heap H locs → lv_has ls 5 [(0, .ref h0), (1, .int (nI b0)), (2, .int (nI n)), (3, .int (nI (crcR bl b0 i))), (4, .int (nI i))] → W p l e ({ frames := 1, cells := 0, slots := 0, locals := 30 } : Room) s m ([.ref h0, .int (nI b0), .int (nI n)] : List Value).toArray below meth c H locs 0 0 Q (F0 m 19 ls []) := by
      intro n9_19
      induction n9_19 with
      | zero =>
        intro i hi hm9
        exact absurd hm9 (Nat.not_lt_zero _)
      | succ n9_19 ih19 =>
        intro i hi hm9_19 H locs ls hP hD hS hl
        have hcl := crcR_lt oh4 b0 i
        have hb9 := oh4 (b0 + i)
        refine lv_iload hx hb dX12_isWrong_19 (lv_at hl 4 rfl) ?_
        refine lv_iload_n hx hb dX12_isWrong_21 rfl (lv_at hl 2 rfl) ?_
        refine nv_icmp_ge (tgt := 45) hx hb (by omega) (by omega) dX12_isWrong_22 (by decide) (fun c22 => ?_) (fun c22 => ?_)
        · skip
          have hb8 := oh4 (b0 + n)
          have hb7 := oh4 (b0 + n + 1)
          have hin : i = n := by omega
          refine lv_aload_n hx hb dX12_isWrong_45 rfl (lv_at hl 0 rfl) ?_
          refine va_get (D := D) (ci := 12) (v := .ref hd0) (C := RX12) (T := TX12) (N := 32) hx hb hts inX12_ hown hK hP 0 rfl rfl 11 (by decide) fl36 (fun _ h9 => h9) rfl dX12_isWrong_46 ?_
          refine lv_iload_n hx hb dX12_isWrong_49 rfl (lv_at hl 1 rfl) ?_
          refine lv_iload_n hx hb dX12_isWrong_50 rfl (lv_at hl 2 rfl) ?_
          refine nv_iadd hx hb dX12_isWrong_51 ?_
          refine nv_iald hx hb hK hP 1 0 rfl rfl (by omega) (by decide) dX12_isWrong_52 ?_
          refine nv_top (y := (nI (bl.getD (b0 + n) 0))) (oh3 _ (by omega)) ?_
          refine lv_sipush (v := (nI 256)) hx hb dX12_isWrong_53 (by decide) ?_
          refine lv_aload_n hx hb dX12_isWrong_56 rfl (lv_at hl 0 rfl) ?_
          refine va_get (D := D) (ci := 12) (v := .ref hd0) (C := RX12) (T := TX12) (N := 32) hx hb hts inX12_ hown hK hP 0 rfl rfl 11 (by decide) fl36 (fun _ h9 => h9) rfl dX12_isWrong_57 ?_
          refine lv_iload_n hx hb dX12_isWrong_60 rfl (lv_at hl 1 rfl) ?_
          refine lv_iload_n hx hb dX12_isWrong_61 rfl (lv_at hl 2 rfl) ?_
          refine nv_iadd hx hb dX12_isWrong_62 ?_
          refine lv_iconst (v := (nI 1)) hx hb dX12_isWrong_63 (by decide) ?_
          refine nv_iadd hx hb dX12_isWrong_64 ?_
          refine nv_iald hx hb hK hP 1 0 rfl rfl (by omega) (by decide) dX12_isWrong_65 ?_
          refine nv_top (y := (nI (bl.getD (b0 + n + 1) 0))) (oh3 _ (by omega)) ?_
          refine nv_imul hx hb dX12_isWrong_66 ?_
          refine nv_iadd hx hb dX12_isWrong_67 ?_
          refine lv_ldc (v := (nI 65535)) hx hb hown kc83 dX12_isWrong_68 ?_
          refine lv_iload_n hx hb dX12_isWrong_70 rfl (lv_at hl 3 rfl) ?_
          refine nv_isub hx hb (by omega) dX12_isWrong_71 ?_
          refine nv_icmp_eq (tgt := 79) hx hb (by omega) (by omega) dX12_isWrong_72 (by decide) (fun c72 => ?_) (fun c72 => ?_)
          · skip
            refine lv_iconst (v := (nI 0)) hx hb dX12_isWrong_79 (by decide) ?_
            exact ret_z hQ hx hb hr hlocks dX12_isWrong_80 hK hS (rfl) () (by first | exact (bI_f (P := isW bl b0 n) (fun z => z.2 (by show _ = 65535 - crcR bl b0 n; rw [show crcR bl b0 n = crcR bl b0 i by rw [hin]]; exact c72))).symm | exact (bI_t (P := isW bl b0 n) ⟨by omega, fun z => c72 (by rw [hin]; exact z)⟩).symm) hP hD
          · skip
            refine lv_iconst (v := (nI 1)) hx hb dX12_isWrong_75 (by decide) ?_
            refine lv_goto (tgt := 80) hx hb dX12_isWrong_76 (by decide) ?_
            exact ret_z hQ hx hb hr hlocks dX12_isWrong_80 hK hS (rfl) () (by first | exact (bI_f (P := isW bl b0 n) (fun z => z.2 (by show _ = 65535 - crcR bl b0 n; rw [show crcR bl b0 n = crcR bl b0 i by rw [hin]]; exact c72))).symm | exact (bI_t (P := isW bl b0 n) ⟨by omega, fun z => c72 (by rw [hin]; exact z)⟩).symm) hP hD
        · skip
          refine lv_iload_n hx hb dX12_isWrong_25 rfl (lv_at hl 3 rfl) ?_
          refine lv_aload_n hx hb dX12_isWrong_26 rfl (lv_at hl 0 rfl) ?_
          refine va_get (D := D) (ci := 12) (v := .ref hd0) (C := RX12) (T := TX12) (N := 32) hx hb hts inX12_ hown hK hP 0 rfl rfl 11 (by decide) fl36 (fun _ h9 => h9) rfl dX12_isWrong_27 ?_
          refine lv_iload_n hx hb dX12_isWrong_30 rfl (lv_at hl 1 rfl) ?_
          refine lv_iload hx hb dX12_isWrong_31 (lv_at hl 4 rfl) ?_
          refine nv_iadd hx hb dX12_isWrong_33 ?_
          refine nv_iald hx hb hK hP 1 0 rfl rfl (by omega) (by decide) dX12_isWrong_34 ?_
          refine nv_top (y := (nI (bl.getD (b0 + i) 0))) (oh3 _ (by omega)) ?_
          refine res_i (wW := [(h0, .inr (12, [m_thrown, m_values, m_eventPoint, m_eventValue, m_events, m_told, m_over, m_lost, m_restart, m_outputs, m_time, .ref hd0, .int (nI bl.length), m_begun, m_master, m_part, m_fragment, m_size, m_selected, m_wanted, m_by, m_since, m_confirm, m_answer, m_answerSize, m_signs, m_sent, m_sentCount, m_sum, m_number, m_reply, m_replySize])), (hd0, .inl (cyI, 80, .inl hf))]) (Wc := []) (Wr := [(h0, .inr (12, [m_thrown, m_values, m_eventPoint, m_eventValue, m_events, m_told, m_over, m_lost, m_restart, m_outputs, m_time, .ref hd0, .int (nI bl.length), m_begun, m_master, m_part, m_fragment, m_size, m_selected, m_wanted, m_by, m_since, m_confirm, m_answer, m_answerSize, m_signs, m_sent, m_sentCount, m_sum, m_number, m_reply, m_replySize])), (hd0, .inl (cyI, 80, .inl hf))]) (run_S (QA := fun A => va_Qi _ (bw D _ (tyL cyI cyZ) A) A) (rmC := ({ frames := 0, cells := 0, slots := 0, locals := 0 } : Room)) (mc := 0) (ms := 0) (As := [.int (nI (crcR bl b0 i)), .int (nI (bl.getD (b0 + i) 0))]) (rest := []) (wW := [(h0, .inr (12, [m_thrown, m_values, m_eventPoint, m_eventValue, m_events, m_told, m_over, m_lost, m_restart, m_outputs, m_time, .ref hd0, .int (nI bl.length), m_begun, m_master, m_part, m_fragment, m_size, m_selected, m_wanted, m_by, m_since, m_confirm, m_answer, m_answerSize, m_signs, m_sent, m_sentCount, m_sum, m_number, m_reply, m_replySize])), (hd0, .inl (cyI, 80, .inl hf))]) (Wc := []) ⟨hx, hb, hml, hown, hts⟩ (c_X12_mixed l D cyI cyZ (crcR bl b0 i) (bl.getD (b0 + i) 0) (by omega) (by omega)) (cwS 2 hts gX12_isWrong_X12_mixed rfl rfl rfl (by decide +kernel) ⟨Nat.le_of_ble_eq_true rfl, Nat.le_of_ble_eq_true rfl⟩) hN hK hP hD [] rfl (by decide) rfl hl.1 rfl rfl dX12_isWrong_35 ⟨Nat.le_of_ble_eq_true rfl, Nat.le_of_ble_eq_true rfl⟩) hP hD hS hA [] [0, 1] rfl rfl (by decide) (by decide) (fun r35 u9 H locs w35 hP hD hS => ?_)
          have w35 : r35 = nI (mixB (crcR bl b0 i) (bl.getD (b0 + i) 0)) ∧ mixB (crcR bl b0 i) (bl.getD (b0 + i) 0) < 65536 := w35
          have hP : va_P D vwCl [(h0, .inr (12, [m_thrown, m_values, m_eventPoint, m_eventValue, m_events, m_told, m_over, m_lost, m_restart, m_outputs, m_time, .ref hd0, .int (nI bl.length), m_begun, m_master, m_part, m_fragment, m_size, m_selected, m_wanted, m_by, m_since, m_confirm, m_answer, m_answerSize, m_signs, m_sent, m_sentCount, m_sum, m_number, m_reply, m_replySize])), (hd0, .inl (cyI, 80, .inl hf))] H := hP
          have hD : va_D A [(h0, .inr (12, [m_thrown, m_values, m_eventPoint, m_eventValue, m_events, m_told, m_over, m_lost, m_restart, m_outputs, m_time, .ref hd0, .int (nI bl.length), m_begun, m_master, m_part, m_fragment, m_size, m_selected, m_wanted, m_by, m_since, m_confirm, m_answer, m_answerSize, m_signs, m_sent, m_sentCount, m_sum, m_number, m_reply, m_replySize])), (hd0, .inl (cyI, 80, .inl hf))] := hD
          refine nv_top (y := (nI (mixB (crcR bl b0 i) (bl.getD (b0 + i) 0)))) (w35.1) ?_
          refine lv_istore_n (lv' := [(3, .int (nI (mixB (crcR bl b0 i) (bl.getD (b0 + i) 0)))), (0, .ref h0), (1, .int (nI b0)), (2, .int (nI n)), (4, .int (nI i))]) hx hb dX12_isWrong_38 rfl hl (by decide) rfl (fun ls hl => ?_)
          refine lv_iinc (v := (nI (i + 1))) (lv' := [(4, .int (nI (i + 1))), (3, .int (nI (mixB (crcR bl b0 i) (bl.getD (b0 + i) 0)))), (0, .ref h0), (1, .int (nI b0)), (2, .int (nI n))]) hx hb dX12_isWrong_39 hl (k := 4) rfl (nI_add _ _) (by decide) rfl (fun ls hl => ?_)
          refine lv_goto (tgt := 19) hx hb dX12_isWrong_42 (by decide) ?_
          have el9 : ([(0, .ref h0), (1, .int (nI b0)), (2, .int (nI n)), (3, .int (nI (crcR bl b0 (i + 1)))), (4, .int (nI (i + 1)))] : List (Nat × Value)) = [(0, .ref h0), (1, .int (nI b0)), (2, .int (nI n)), (3, .int (nI (mixB (crcR bl b0 i) (bl.getD (b0 + i) 0)))), (4, .int (nI (i + 1)))] := by first | rfl | simp only [nI_add, Nat.add_assoc]
          exact ih19 (i + 1) (by omega) (by omega) H locs ls hP hD hS (by rw [el9]; exact lv_sub hl [2, 3, 4, 1, 0] rfl)
    have el9 : ([(0, .ref h0), (1, .int (nI b0)), (2, .int (nI n)), (3, .int (nI (crcR bl b0 0))), (4, .int (nI 0))] : List (Nat × Value)) = [(0, .ref h0), (1, .int (nI b0)), (2, .int (nI n)), (3, .int (nI 0)), (4, .int (nI 0))] := by first | rfl | simp only [nI_add, Nat.add_assoc]
    exact L19 _ 0 (by omega) (Nat.lt_succ_self _) H locs ls hP hD hS (by rw [el9]; exact lv_sub hl [2, 3, 4, 1, 0] rfl)
  · skip
    refine lv_iconst (v := (nI 0)) hx hb dX12_isWrong_12 (by decide) ?_
    exact ret_z hQ hx hb hr hlocks dX12_isWrong_13 hK hS (rfl) () ((bI_f (fun z => by have := z.1; omega)).symm) hP hD
set_option maxHeartbeats 4000000 in
set_option maxRecDepth 100000 in
theorem c_X12_drop (l : Launch) (D : va_G) (cyI cyZ : ClassId) (h0 : Nat) (m_thrown m_values m_eventPoint m_eventValue m_events m_told m_over m_lost m_restart m_outputs m_time m_begun m_master m_part m_fragment m_size m_selected m_wanted m_by m_since m_confirm m_answer m_answerSize m_signs m_sent m_sentCount m_sum m_number m_reply m_replySize : Value) (hd0 : Nat) (bl : List Nat) (hf : Nat → Int32) (n : Nat) (okh : okB 80 bl hf) (hn : n ≤ bl.length) : Cv l D yX12_drop wsX12_drop ({ frames := 0, cells := 0, slots := 0, locals := 0 } : Room) [.ref h0, .int (nI n)] [(h0, .inr (12, [m_thrown, m_values, m_eventPoint, m_eventValue, m_events, m_told, m_over, m_lost, m_restart, m_outputs, m_time, .ref hd0, .int (nI bl.length), m_begun, m_master, m_part, m_fragment, m_size, m_selected, m_wanted, m_by, m_since, m_confirm, m_answer, m_answerSize, m_signs, m_sent, m_sentCount, m_sum, m_number, m_reply, m_replySize])), (hd0, .inl (cyI, 80, .inl hf))] (tyL cyI cyZ) (fun hf2 : (Nat → Int32) => okB 80 (bl.drop n) hf2) (fun hf2 : (Nat → Int32) => [(h0, .inr (12, [m_thrown, m_values, m_eventPoint, m_eventValue, m_events, m_told, m_over, m_lost, m_restart, m_outputs, m_time, .ref hd0, .int (nI ((bl.drop n).length)), m_begun, m_master, m_part, m_fragment, m_size, m_selected, m_wanted, m_by, m_since, m_confirm, m_answer, m_answerSize, m_signs, m_sent, m_sentCount, m_sum, m_number, m_reply, m_replySize])), (hd0, .inl (cyI, 80, .inl hf2))]) 0 0 := by
  refine mk_Ct (cc := cX12_drop) (maxL := 3) (ret := none) (by decide) rfl rfl ?_
  intro p e s m below meth c A Q ls hx hb hr hts hown hlocks hml hname hA hN hK hP hD hS hQ hl
  have hl : lv_has ls 3 [(0, .ref h0), (1, .int (nI n))] := hl
  have inX12_ : ∀ w ∈ u_ws RX12 TX12 32, w ∈ wsX12_drop := fun w h => List.mem_cons_of_mem _ (List.mem_append_right _ h)
  have fl84 : (Cond.fieldLink RX12 84 "OutStationModel" "heardSize" "I").before ([.ref h0, .int (nI n)] : List Value).toArray s = true := hts _ (by decide +kernel)
  have fl36 : (Cond.fieldLink RX12 36 "OutStationModel" "heard" "[I").before ([.ref h0, .int (nI n)] : List Value).toArray s = true := hts _ (by decide +kernel)
  have hown : s.vm.findClass RX12 = some m.cls := hown
  obtain ⟨H, eH9⟩ : ∃ H, H = s.heap := ⟨_, rfl⟩
  have hP : va_P D vwCl [(h0, .inr (12, [m_thrown, m_values, m_eventPoint, m_eventValue, m_events, m_told, m_over, m_lost, m_restart, m_outputs, m_time, .ref hd0, .int (nI bl.length), m_begun, m_master, m_part, m_fragment, m_size, m_selected, m_wanted, m_by, m_since, m_confirm, m_answer, m_answerSize, m_signs, m_sent, m_sentCount, m_sum, m_number, m_reply, m_replySize])), (hd0, .inl (cyI, 80, .inl hf))] H := by rw [eH9]; exact hP
  have hS : va_S A s.heap H [] := by rw [eH9]; exact hS
  obtain ⟨locs, eL9⟩ : ∃ z : List Loc, z = [] := ⟨_, rfl⟩
  rw [← eH9, ← eL9]
  have hS : va_S A s.heap H locs := by rw [eL9]; exact hS
  obtain ⟨oh1, oh2, oh3, oh4⟩ := id okh
  refine lv_iload_n hx hb dX12_drop_0 rfl (lv_at hl 1 rfl) ?_
  refine lv_istore_n (lv' := [(2, .int (nI n)), (0, .ref h0), (1, .int (nI n))]) hx hb dX12_drop_1 rfl hl (by decide) rfl (fun ls hl => ?_)
  have L2 : ∀ (n9_2 : Nat) (k : Nat) (hf1 : Nat → Int32), (n ≤ k) → (k ≤ bl.length) → (∀ j, j < k - n → hf1 j = nI (bl.getD (n + j) 0)) → (∀ j, k - n ≤ j → hf1 j = hf j) → (bl.length - k) < n9_2 → ∀ (H : Heap) (locs : List Loc) (ls : Array Slot), va_P D vwCl [(h0, .inr (12, [m_thrown, m_values, m_eventPoint, m_eventValue, m_events, m_told, m_over, m_lost, m_restart, m_outputs, m_time, .ref hd0, .int (nI bl.length), m_begun, m_master, m_part, m_fragment, m_size, m_selected, m_wanted, m_by, m_since, m_confirm, m_answer, m_answerSize, m_signs, m_sent, m_sentCount, m_sum, m_number, m_reply, m_replySize])), (hd0, .inl (cyI, 80, .inl hf1))] H → va_D A [(h0, .inr (12, [m_thrown, m_values, m_eventPoint, m_eventValue, m_events, m_told, m_over, m_lost, m_restart, m_outputs, m_time, .ref hd0, .int (nI bl.length), m_begun, m_master, m_part, m_fragment, m_size, m_selected, m_wanted, m_by, m_since, m_confirm, m_answer, m_answerSize, m_signs, m_sent, m_sentCount, m_sum, m_number, m_reply, m_replySize])), (hd0, .inl (cyI, 80, .inl hf1))] → va_S A s.heap H locs → lv_has ls 3 [(0, .ref h0), (1, .int (nI n)), (2, .int (nI k))] → W p l e ({ frames := 0, cells := 0, slots := 0, locals := 0 } : Room) s m ([.ref h0, .int (nI n)] : List Value).toArray below meth c H locs 0 0 Q (F0 m 2 ls []) := by
    intro n9_2
    induction n9_2 with
    | zero =>
      intro k hf1 hk1 hk2 hA1 hA2 hm9
      exact absurd hm9 (Nat.not_lt_zero _)
    | succ n9_2 ih2 =>
      intro k hf1 hk1 hk2 hA1 hA2 hm9_2 H locs ls hP hD hS hl
      refine lv_iload_n hx hb dX12_drop_2 rfl (lv_at hl 2 rfl) ?_
      refine lv_aload_n hx hb dX12_drop_3 rfl (lv_at hl 0 rfl) ?_
      refine va_get (D := D) (ci := 12) (v := .int (nI bl.length)) (C := RX12) (T := TX12) (N := 32) hx hb hts inX12_ hown hK hP 0 rfl rfl 12 (by decide) fl84 (fun _ h9 => h9) rfl dX12_drop_4 ?_
      refine nv_icmp_ge (tgt := 30) hx hb (by omega) (by omega) dX12_drop_7 (by decide) (fun c7 => ?_) (fun c7 => ?_)
      · skip
        refine lv_aload_n hx hb dX12_drop_30 rfl (lv_at hl 0 rfl) ?_
        refine lv_aload_n hx hb dX12_drop_31 rfl (lv_at hl 0 rfl) ?_
        refine va_get (D := D) (ci := 12) (v := .int (nI bl.length)) (C := RX12) (T := TX12) (N := 32) hx hb hts inX12_ hown hK hP 0 rfl rfl 12 (by decide) fl84 (fun _ h9 => h9) rfl dX12_drop_32 ?_
        refine lv_iload_n hx hb dX12_drop_35 rfl (lv_at hl 1 rfl) ?_
        refine nv_isub hx hb (by omega) dX12_drop_36 ?_
        refine va_put (D := D) (ci := 12) (v := .int (nI (bl.length - n))) (ty := .int) (C := RX12) (T := TX12) (N := 32) hx hb hts inX12_ tyX12 tyX12_ok nmX12 hown hK hP hD hS 0 rfl rfl 12 (by decide) fl84 (fun _ h9 => h9) rfl (by decide +kernel) rfl rfl (Nat.le_of_ble_eq_true rfl) dX12_drop_37 (fun H locs hP hD hS => ?_)
        have hP : va_P D vwCl [(h0, .inr (12, [m_thrown, m_values, m_eventPoint, m_eventValue, m_events, m_told, m_over, m_lost, m_restart, m_outputs, m_time, .ref hd0, .int (nI (bl.length - n)), m_begun, m_master, m_part, m_fragment, m_size, m_selected, m_wanted, m_by, m_since, m_confirm, m_answer, m_answerSize, m_signs, m_sent, m_sentCount, m_sum, m_number, m_reply, m_replySize])), (hd0, .inl (cyI, 80, .inl hf1))] H := hP
        have hD : va_D A [(h0, .inr (12, [m_thrown, m_values, m_eventPoint, m_eventValue, m_events, m_told, m_over, m_lost, m_restart, m_outputs, m_time, .ref hd0, .int (nI (bl.length - n)), m_begun, m_master, m_part, m_fragment, m_size, m_selected, m_wanted, m_by, m_since, m_confirm, m_answer, m_answerSize, m_signs, m_sent, m_sentCount, m_sum, m_number, m_reply, m_replySize])), (hd0, .inl (cyI, 80, .inl hf1))] := hD
        have ew9 : ([(h0, .inr (12, [m_thrown, m_values, m_eventPoint, m_eventValue, m_events, m_told, m_over, m_lost, m_restart, m_outputs, m_time, .ref hd0, .int (nI ((bl.drop n).length)), m_begun, m_master, m_part, m_fragment, m_size, m_selected, m_wanted, m_by, m_since, m_confirm, m_answer, m_answerSize, m_signs, m_sent, m_sentCount, m_sum, m_number, m_reply, m_replySize])), (hd0, .inl (cyI, 80, .inl hf1))] : va_W) = [(h0, .inr (12, [m_thrown, m_values, m_eventPoint, m_eventValue, m_events, m_told, m_over, m_lost, m_restart, m_outputs, m_time, .ref hd0, .int (nI (bl.length - n)), m_begun, m_master, m_part, m_fragment, m_size, m_selected, m_wanted, m_by, m_since, m_confirm, m_answer, m_answerSize, m_signs, m_sent, m_sentCount, m_sum, m_number, m_reply, m_replySize])), (hd0, .inl (cyI, 80, .inl hf1))] := by simp
        have hP : va_P D vwCl [(h0, .inr (12, [m_thrown, m_values, m_eventPoint, m_eventValue, m_events, m_told, m_over, m_lost, m_restart, m_outputs, m_time, .ref hd0, .int (nI ((bl.drop n).length)), m_begun, m_master, m_part, m_fragment, m_size, m_selected, m_wanted, m_by, m_since, m_confirm, m_answer, m_answerSize, m_signs, m_sent, m_sentCount, m_sum, m_number, m_reply, m_replySize])), (hd0, .inl (cyI, 80, .inl hf1))] H := by rw [ew9]; exact hP
        have hD : va_D A [(h0, .inr (12, [m_thrown, m_values, m_eventPoint, m_eventValue, m_events, m_told, m_over, m_lost, m_restart, m_outputs, m_time, .ref hd0, .int (nI ((bl.drop n).length)), m_begun, m_master, m_part, m_fragment, m_size, m_selected, m_wanted, m_by, m_since, m_confirm, m_answer, m_answerSize, m_signs, m_sent, m_sentCount, m_sum, m_number, m_reply, m_replySize])), (hd0, .inl (cyI, 80, .inl hf1))] := by rw [ew9]; exact hD
        exact ret_v hQ hx hb hr hlocks dX12_drop_40 hK hS hf1 (sh_end okh hn (by omega) hA1) hP hD
      · skip
        refine lv_aload_n hx hb dX12_drop_10 rfl (lv_at hl 0 rfl) ?_
        refine va_get (D := D) (ci := 12) (v := .ref hd0) (C := RX12) (T := TX12) (N := 32) hx hb hts inX12_ hown hK hP 0 rfl rfl 11 (by decide) fl36 (fun _ h9 => h9) rfl dX12_drop_11 ?_
        refine lv_iload_n hx hb dX12_drop_14 rfl (lv_at hl 2 rfl) ?_
        refine lv_iload_n hx hb dX12_drop_15 rfl (lv_at hl 1 rfl) ?_
        refine nv_isub hx hb (by omega) dX12_drop_16 ?_
        refine lv_aload_n hx hb dX12_drop_17 rfl (lv_at hl 0 rfl) ?_
        refine va_get (D := D) (ci := 12) (v := .ref hd0) (C := RX12) (T := TX12) (N := 32) hx hb hts inX12_ hown hK hP 0 rfl rfl 11 (by decide) fl36 (fun _ h9 => h9) rfl dX12_drop_18 ?_
        refine lv_iload_n hx hb dX12_drop_21 rfl (lv_at hl 2 rfl) ?_
        refine nv_iald hx hb hK hP 1 0 rfl rfl (by omega) (by decide) dX12_drop_22 ?_
        refine nv_iast hx hb hK hP hD hS 1 0 rfl rfl (by omega) (by decide) dX12_drop_23 (fun H locs hP hD hS => ?_)
        have hP : va_P D vwCl [(h0, .inr (12, [m_thrown, m_values, m_eventPoint, m_eventValue, m_events, m_told, m_over, m_lost, m_restart, m_outputs, m_time, .ref hd0, .int (nI bl.length), m_begun, m_master, m_part, m_fragment, m_size, m_selected, m_wanted, m_by, m_since, m_confirm, m_answer, m_answerSize, m_signs, m_sent, m_sentCount, m_sum, m_number, m_reply, m_replySize])), (hd0, .inl (cyI, 80, .inl (upd hf1 (k - n) (hf1 k))))] H := hP
        have hD : va_D A [(h0, .inr (12, [m_thrown, m_values, m_eventPoint, m_eventValue, m_events, m_told, m_over, m_lost, m_restart, m_outputs, m_time, .ref hd0, .int (nI bl.length), m_begun, m_master, m_part, m_fragment, m_size, m_selected, m_wanted, m_by, m_since, m_confirm, m_answer, m_answerSize, m_signs, m_sent, m_sentCount, m_sum, m_number, m_reply, m_replySize])), (hd0, .inl (cyI, 80, .inl (upd hf1 (k - n) (hf1 k))))] := hD
        refine lv_iinc (v := (nI (k + 1))) (lv' := [(2, .int (nI (k + 1))), (0, .ref h0), (1, .int (nI n))]) hx hb dX12_drop_24 hl (k := 2) rfl (nI_add _ _) (by decide) rfl (fun ls hl => ?_)
        refine lv_goto (tgt := 2) hx hb dX12_drop_27 (by decide) ?_
        exact ih2 (k + 1) (upd hf1 (k - n) (hf1 k)) (by omega) (by omega) (sh_1 (by omega) hA1 hA2 (oh3 k (by omega))) (sh_2 (by omega) hA2) (by omega) H locs ls hP hD hS (lv_sub hl [1, 2, 0] rfl)
  exact L2 _ n hf (by omega) (by omega) (fun j hj => by omega) (fun j _ => rfl) (Nat.lt_succ_self _) H locs ls hP hD hS (lv_sub hl [1, 2, 0] rfl)
set_option maxHeartbeats 4000000 in
set_option maxRecDepth 100000 in
theorem c_X12_payloadAt (l : Launch) (D : va_G) (cyI cyZ : ClassId) (h0 : Nat) (m_thrown m_values m_eventPoint m_eventValue m_events m_told m_over m_lost m_restart m_outputs m_time m_begun m_master m_part m_fragment m_size m_selected m_wanted m_by m_since m_confirm m_answer m_answerSize m_signs m_sent m_sentCount m_sum m_number m_reply m_replySize : Value) (hd0 : Nat) (bl : List Nat) (hf : Nat → Int32) (k : Nat) (okh : okB 80 bl hf) (hk : 10 + k + 2 * (k / 16) < bl.length) : Ci l D yX12_payloadAt wsX12_payloadAt ({ frames := 0, cells := 0, slots := 0, locals := 0 } : Room) [.ref h0, .int (nI k)] [(h0, .inr (12, [m_thrown, m_values, m_eventPoint, m_eventValue, m_events, m_told, m_over, m_lost, m_restart, m_outputs, m_time, .ref hd0, .int (nI bl.length), m_begun, m_master, m_part, m_fragment, m_size, m_selected, m_wanted, m_by, m_since, m_confirm, m_answer, m_answerSize, m_signs, m_sent, m_sentCount, m_sum, m_number, m_reply, m_replySize])), (hd0, .inl (cyI, 80, .inl hf))] (tyL cyI cyZ) (fun (r : Int32) (_ : Unit) => r = nI (patL bl k) ∧ patL bl k < 256) (fun _ : Unit => [(h0, .inr (12, [m_thrown, m_values, m_eventPoint, m_eventValue, m_events, m_told, m_over, m_lost, m_restart, m_outputs, m_time, .ref hd0, .int (nI bl.length), m_begun, m_master, m_part, m_fragment, m_size, m_selected, m_wanted, m_by, m_since, m_confirm, m_answer, m_answerSize, m_signs, m_sent, m_sentCount, m_sum, m_number, m_reply, m_replySize])), (hd0, .inl (cyI, 80, .inl hf))]) 0 0 := by
  refine mk_Ct (cc := cX12_payloadAt) (maxL := 2) (ret := (some .int)) (by decide) rfl rfl ?_
  intro p e s m below meth c A Q ls hx hb hr hts hown hlocks hml hname hA hN hK hP hD hS hQ hl
  have hl : lv_has ls 2 [(0, .ref h0), (1, .int (nI k))] := hl
  have inX12_ : ∀ w ∈ u_ws RX12 TX12 32, w ∈ wsX12_payloadAt := fun w h => List.mem_cons_of_mem _ (List.mem_append_right _ h)
  have fl36 : (Cond.fieldLink RX12 36 "OutStationModel" "heard" "[I").before ([.ref h0, .int (nI k)] : List Value).toArray s = true := hts _ (by decide +kernel)
  have hown : s.vm.findClass RX12 = some m.cls := hown
  obtain ⟨H, eH9⟩ : ∃ H, H = s.heap := ⟨_, rfl⟩
  have hP : va_P D vwCl [(h0, .inr (12, [m_thrown, m_values, m_eventPoint, m_eventValue, m_events, m_told, m_over, m_lost, m_restart, m_outputs, m_time, .ref hd0, .int (nI bl.length), m_begun, m_master, m_part, m_fragment, m_size, m_selected, m_wanted, m_by, m_since, m_confirm, m_answer, m_answerSize, m_signs, m_sent, m_sentCount, m_sum, m_number, m_reply, m_replySize])), (hd0, .inl (cyI, 80, .inl hf))] H := by rw [eH9]; exact hP
  have hS : va_S A s.heap H [] := by rw [eH9]; exact hS
  obtain ⟨locs, eL9⟩ : ∃ z : List Loc, z = [] := ⟨_, rfl⟩
  rw [← eH9, ← eL9]
  have hS : va_S A s.heap H locs := by rw [eL9]; exact hS
  obtain ⟨oh1, oh2, oh3, oh4⟩ := id okh
  refine lv_aload_n hx hb dX12_payloadAt_0 rfl (lv_at hl 0 rfl) ?_
  refine va_get (D := D) (ci := 12) (v := .ref hd0) (C := RX12) (T := TX12) (N := 32) hx hb hts inX12_ hown hK hP 0 rfl rfl 11 (by decide) fl36 (fun _ h9 => h9) rfl dX12_payloadAt_1 ?_
  refine lv_bipush (v := (nI 10)) hx hb dX12_payloadAt_4 (by decide) ?_
  refine lv_iload_n hx hb dX12_payloadAt_6 rfl (lv_at hl 1 rfl) ?_
  refine nv_iadd hx hb dX12_payloadAt_7 ?_
  refine lv_iconst (v := (nI 2)) hx hb dX12_payloadAt_8 (by decide) ?_
  refine lv_iload_n hx hb dX12_payloadAt_9 rfl (lv_at hl 1 rfl) ?_
  refine lv_bipush (v := (nI 16)) hx hb dX12_payloadAt_10 (by decide) ?_
  refine nv_idiv hx hb (by omega) (by decide) (by decide) dX12_payloadAt_12 ?_
  refine nv_imul hx hb dX12_payloadAt_13 ?_
  refine nv_iadd hx hb dX12_payloadAt_14 ?_
  refine nv_iald hx hb hK hP 1 0 rfl rfl (by omega) (by decide) dX12_payloadAt_15 ?_
  refine nv_top (y := (nI (patL bl k))) (by rw [oh3 _ hk, patL, Nat.mul_comm (k / 16) 2]) ?_
  exact ret_i hQ hx hb hr hlocks dX12_payloadAt_16 hK hS () (⟨rfl, oh4 _⟩) hP hD
set_option maxHeartbeats 4000000 in
set_option maxRecDepth 100000 in
theorem c_X12_isSpoilt (l : Launch) (D : va_G) (cyI cyZ : ClassId) (h0 : Nat) (m_thrown m_values m_eventPoint m_eventValue m_events m_told m_over m_lost m_restart m_outputs m_time m_begun m_master m_part m_fragment m_size m_selected m_wanted m_by m_since m_confirm m_answer m_answerSize m_signs m_sent m_sentCount m_sum m_number m_reply m_replySize : Value) (hd0 : Nat) (bl : List Nat) (hf : Nat → Int32) (okh : okB 80 bl hf) : Ci l D yX12_isSpoilt wsX12_isSpoilt ({ frames := 2, cells := 0, slots := 0, locals := 60 } : Room) [.ref h0] [(h0, .inr (12, [m_thrown, m_values, m_eventPoint, m_eventValue, m_events, m_told, m_over, m_lost, m_restart, m_outputs, m_time, .ref hd0, .int (nI bl.length), m_begun, m_master, m_part, m_fragment, m_size, m_selected, m_wanted, m_by, m_since, m_confirm, m_answer, m_answerSize, m_signs, m_sent, m_sentCount, m_sum, m_number, m_reply, m_replySize])), (hd0, .inl (cyI, 80, .inl hf))] (tyL cyI cyZ) (fun (r : Int32) (sp : Bool) => r = bI (sp = true) ∧ (sp = true ↔ spoilt bl)) (fun sp : Bool => [(h0, .inr (12, [m_thrown, m_values, m_eventPoint, m_eventValue, m_events, m_told, m_over, m_lost, m_restart, m_outputs, m_time, .ref hd0, .int (nI bl.length), m_begun, m_master, m_part, m_fragment, m_size, m_selected, m_wanted, m_by, m_since, m_confirm, m_answer, m_answerSize, m_signs, m_sent, m_sentCount, m_sum, m_number, m_reply, m_replySize])), (hd0, .inl (cyI, 80, .inl hf))]) 0 0 := by
  refine mk_Ct (cc := cX12_isSpoilt) (maxL := 4) (ret := (some .boolean)) (by decide) rfl rfl ?_
  intro p e s m below meth c A Q ls hx hb hr hts hown hlocks hml hname hA hN hK hP hD hS hQ hl
  have hl : lv_has ls 4 [(0, .ref h0)] := hl
  have inX12_ : ∀ w ∈ u_ws RX12 TX12 32, w ∈ wsX12_isSpoilt := fun w h => List.mem_cons_of_mem _ (List.mem_append_right _ h)
  have fl84 : (Cond.fieldLink RX12 84 "OutStationModel" "heardSize" "I").before ([.ref h0] : List Value).toArray s = true := hts _ (by decide +kernel)
  have fl36 : (Cond.fieldLink RX12 36 "OutStationModel" "heard" "[I").before ([.ref h0] : List Value).toArray s = true := hts _ (by decide +kernel)
  have hown : s.vm.findClass RX12 = some m.cls := hown
  obtain ⟨H, eH9⟩ : ∃ H, H = s.heap := ⟨_, rfl⟩
  have hP : va_P D vwCl [(h0, .inr (12, [m_thrown, m_values, m_eventPoint, m_eventValue, m_events, m_told, m_over, m_lost, m_restart, m_outputs, m_time, .ref hd0, .int (nI bl.length), m_begun, m_master, m_part, m_fragment, m_size, m_selected, m_wanted, m_by, m_since, m_confirm, m_answer, m_answerSize, m_signs, m_sent, m_sentCount, m_sum, m_number, m_reply, m_replySize])), (hd0, .inl (cyI, 80, .inl hf))] H := by rw [eH9]; exact hP
  have hS : va_S A s.heap H [] := by rw [eH9]; exact hS
  obtain ⟨locs, eL9⟩ : ∃ z : List Loc, z = [] := ⟨_, rfl⟩
  rw [← eH9, ← eL9]
  have hS : va_S A s.heap H locs := by rw [eL9]; exact hS
  obtain ⟨oh1, oh2, oh3, oh4⟩ := id okh
  have g0 := oh4 0
  have g1 := oh4 1
  have g2 := oh4 2
  have hpl : plL bl = bl.getD 2 0 - 5 := rfl
  have J66 : ∀ (bd : Bool), (bd = true ↔ begBad bl) → ∀ (H : Heap) (locs : List Loc) (ls : Array Slot), va_P D vwCl [(h0, .inr (12, [m_thrown, m_values, m_eventPoint, m_eventValue, m_events, m_told, m_over, m_lost, m_restart, m_outputs, m_time, .ref hd0, .int (nI bl.length), m_begun, m_master, m_part, m_fragment, m_size, m_selected, m_wanted, m_by, m_since, m_confirm, m_answer, m_answerSize, m_signs, m_sent, m_sentCount, m_sum, m_number, m_reply, m_replySize])), (hd0, .inl (cyI, 80, .inl hf))] H → va_D A [(h0, .inr (12, [m_thrown, m_values, m_eventPoint, m_eventValue, m_events, m_told, m_over, m_lost, m_restart, m_outputs, m_time, .ref hd0, .int (nI bl.length), m_begun, m_master, m_part, m_fragment, m_size, m_selected, m_wanted, m_by, m_since, m_confirm, m_answer, m_answerSize, m_signs, m_sent, m_sentCount, m_sum, m_number, m_reply, m_replySize])), (hd0, .inl (cyI, 80, .inl hf))] → va_S A s.heap H locs → lv_has ls 4 [(0, .ref h0)] → W p l e ({ frames := 2, cells := 0, slots := 0, locals := 60 } : Room) s m ([.ref h0] : List Value).toArray below meth c H locs 0 0 Q (F0 m 66 ls [.int (bI (bd = true))]) := by
    intro bd hbd H locs ls hP hD hS hl
    skip
    refine lv_istore_n (lv' := [(1, .int (bI (bd = true))), (0, .ref h0)]) hx hb dX12_isSpoilt_66 rfl hl (by decide) rfl (fun ls hl => ?_)
    refine lv_iload_n hx hb dX12_isSpoilt_67 rfl (lv_at hl 0 rfl) ?_
    refine bv_if_ne (tgt := 79) hx hb dX12_isSpoilt_68 (by decide) (fun c68 => ?_) (fun c68 => ?_)
    · skip
      refine lv_iload_n hx hb dX12_isSpoilt_79 rfl (lv_at hl 0 rfl) ?_
      exact ret_z hQ hx hb hr hlocks dX12_isSpoilt_80 hK hS (bI_narrow _) bd (⟨rfl, ⟨fun z => Or.inl (hbd.mp z), fun _ => c68⟩⟩) hP hD
    · skip
      refine lv_aload_n hx hb dX12_isSpoilt_71 rfl (lv_at hl 1 rfl) ?_
      refine va_get (D := D) (ci := 12) (v := .int (nI bl.length)) (C := RX12) (T := TX12) (N := 32) hx hb hts inX12_ hown hK hP 0 rfl rfl 12 (by decide) fl84 (fun _ h9 => h9) rfl dX12_isSpoilt_72 ?_
      refine lv_iconst (v := (nI 3)) hx hb dX12_isSpoilt_75 (by decide) ?_
      refine nv_icmp_ge (tgt := 81) hx hb (by omega) (by omega) dX12_isSpoilt_76 (by decide) (fun c76 => ?_) (fun c76 => ?_)
      · skip
        have hnb : ¬ begBad bl := fun z => c68 (hbd.mpr z)
        have h6 := begBad_3 hnb c76
        refine lv_aload_n hx hb dX12_isSpoilt_81 rfl (lv_at hl 1 rfl) ?_
        refine lv_iconst (v := (nI 0)) hx hb dX12_isSpoilt_82 (by decide) ?_
        refine lv_bipush (v := (nI 8)) hx hb dX12_isSpoilt_83 (by decide) ?_
        refine res_i (wW := [(h0, .inr (12, [m_thrown, m_values, m_eventPoint, m_eventValue, m_events, m_told, m_over, m_lost, m_restart, m_outputs, m_time, .ref hd0, .int (nI bl.length), m_begun, m_master, m_part, m_fragment, m_size, m_selected, m_wanted, m_by, m_since, m_confirm, m_answer, m_answerSize, m_signs, m_sent, m_sentCount, m_sum, m_number, m_reply, m_replySize])), (hd0, .inl (cyI, 80, .inl hf))]) (Wc := [(h0, .inr (12, [m_thrown, m_values, m_eventPoint, m_eventValue, m_events, m_told, m_over, m_lost, m_restart, m_outputs, m_time, .ref hd0, .int (nI bl.length), m_begun, m_master, m_part, m_fragment, m_size, m_selected, m_wanted, m_by, m_since, m_confirm, m_answer, m_answerSize, m_signs, m_sent, m_sentCount, m_sum, m_number, m_reply, m_replySize])), (hd0, .inl (cyI, 80, .inl hf))]) (Wr := []) (run_V (QA := fun A => va_Qi _ (bw D _ (tyL cyI cyZ) A) A) (rmC := ({ frames := 1, cells := 0, slots := 0, locals := 30 } : Room)) (mc := 0) (ms := 0) (As := [.int (nI 0), .int (nI 8)]) (rest := []) (ci := 12) (wW := [(h0, .inr (12, [m_thrown, m_values, m_eventPoint, m_eventValue, m_events, m_told, m_over, m_lost, m_restart, m_outputs, m_time, .ref hd0, .int (nI bl.length), m_begun, m_master, m_part, m_fragment, m_size, m_selected, m_wanted, m_by, m_since, m_confirm, m_answer, m_answerSize, m_signs, m_sent, m_sentCount, m_sum, m_number, m_reply, m_replySize])), (hd0, .inl (cyI, 80, .inl hf))]) (Wc := [(h0, .inr (12, [m_thrown, m_values, m_eventPoint, m_eventValue, m_events, m_told, m_over, m_lost, m_restart, m_outputs, m_time, .ref hd0, .int (nI bl.length), m_begun, m_master, m_part, m_fragment, m_size, m_selected, m_wanted, m_by, m_since, m_confirm, m_answer, m_answerSize, m_signs, m_sent, m_sentCount, m_sum, m_number, m_reply, m_replySize])), (hd0, .inl (cyI, 80, .inl hf))]) ⟨hx, hb, hml, hown, hts⟩ (c_X12_isWrong l D cyI cyZ h0 (m_thrown) (m_values) (m_eventPoint) (m_eventValue) (m_events) (m_told) (m_over) (m_lost) (m_restart) (m_outputs) (m_time) (m_begun) (m_master) (m_part) (m_fragment) (m_size) (m_selected) (m_wanted) (m_by) (m_since) (m_confirm) (m_answer) (m_answerSize) (m_signs) (m_sent) (m_sentCount) (m_sum) (m_number) (m_reply) (m_replySize) hd0 bl hf 0 8 (by assumption) (by omega)) (cwV 2 hts gX12_isSpoilt_X12_isWrong rfl rfl rfl (by decide +kernel) ⟨Nat.le_of_ble_eq_true rfl, Nat.le_of_ble_eq_true rfl⟩) hN hK hP hD [0, 1] rfl (by decide) 0 rfl rfl rfl hl.1 rfl rfl dX12_isSpoilt_85 ⟨Nat.le_of_ble_eq_true rfl, Nat.le_of_ble_eq_true rfl⟩) hP hD hS hA [0, 1] [] rfl rfl (by decide) (by decide) (fun r85 u9 H locs w85 hP hD hS => ?_)
        have w85 : r85 = bI (isW bl 0 8) := w85
        have hP : va_P D vwCl [(h0, .inr (12, [m_thrown, m_values, m_eventPoint, m_eventValue, m_events, m_told, m_over, m_lost, m_restart, m_outputs, m_time, .ref hd0, .int (nI bl.length), m_begun, m_master, m_part, m_fragment, m_size, m_selected, m_wanted, m_by, m_since, m_confirm, m_answer, m_answerSize, m_signs, m_sent, m_sentCount, m_sum, m_number, m_reply, m_replySize])), (hd0, .inl (cyI, 80, .inl hf))] H := hP
        have hD : va_D A [(h0, .inr (12, [m_thrown, m_values, m_eventPoint, m_eventValue, m_events, m_told, m_over, m_lost, m_restart, m_outputs, m_time, .ref hd0, .int (nI bl.length), m_begun, m_master, m_part, m_fragment, m_size, m_selected, m_wanted, m_by, m_since, m_confirm, m_answer, m_answerSize, m_signs, m_sent, m_sentCount, m_sum, m_number, m_reply, m_replySize])), (hd0, .inl (cyI, 80, .inl hf))] := hD
        refine nv_top (y := (bI (isW bl 0 8))) (w85) ?_
        refine lv_istore_n (lv' := [(1, .int (bI (isW bl 0 8))), (0, .ref h0)]) hx hb dX12_isSpoilt_88 rfl hl (by decide) rfl (fun ls hl => ?_)
        refine lv_aload_n hx hb dX12_isSpoilt_89 rfl (lv_at hl 1 rfl) ?_
        refine va_get (D := D) (ci := 12) (v := .ref hd0) (C := RX12) (T := TX12) (N := 32) hx hb hts inX12_ hown hK hP 0 rfl rfl 11 (by decide) fl36 (fun _ h9 => h9) rfl dX12_isSpoilt_90 ?_
        refine lv_iconst (v := (nI 2)) hx hb dX12_isSpoilt_93 (by decide) ?_
        refine nv_iald hx hb hK hP 1 0 rfl rfl (by omega) (by decide) dX12_isSpoilt_94 ?_
        refine nv_top (y := (nI (bl.getD 2 0))) (oh3 2 (by omega)) ?_
        refine lv_iconst (v := (nI 5)) hx hb dX12_isSpoilt_95 (by decide) ?_
        refine nv_isub hx hb (by omega) dX12_isSpoilt_96 ?_
        refine nv_top (y := (nI (plL bl))) (rfl) ?_
        refine lv_istore_n (lv' := [(2, .int (nI (plL bl))), (1, .int (bI (isW bl 0 8))), (0, .ref h0)]) hx hb dX12_isSpoilt_97 rfl hl (by decide) rfl (fun ls hl => ?_)
        refine lv_iconst (v := (nI 0)) hx hb dX12_isSpoilt_98 (by decide) ?_
        refine lv_istore_n (lv' := [(3, .int (nI 0)), (2, .int (nI (plL bl))), (1, .int (bI (isW bl 0 8))), (0, .ref h0)]) hx hb dX12_isSpoilt_99 rfl hl (by decide) rfl (fun ls hl => ?_)
        have L100 : ∀ (n9_100 : Nat) (k : Nat) (bd2 : Bool), (16 * k < plL bl + 16) → (bd2 = true ↔ (isW bl 0 8 ∨ ∃ j, j < k ∧ isW bl (10 + 18 * j) (min (plL bl - 16 * j) 16))) → (plL bl + 16 - 16 * k) < n9_100 → ∀ (H : Heap) (locs : List Loc) (ls : Array Slot), va_P D vwCl [(h0, .inr (12, [m_thrown, m_values, m_eventPoint, m_eventValue, m_events, m_told, m_over, m_lost, m_restart, m_outputs, m_time, .ref hd0, .int (nI bl.length), m_begun, m_master, m_part, m_fragment, m_size, m_selected, m_wanted, m_by, m_since, m_confirm, m_answer, m_answerSize, m_signs, m_sent, m_sentCount, m_sum, m_number, m_reply, m_replySize])), (hd0, .inl (cyI, 80, .inl hf))] H → va_D A [(h0, .inr (12, [m_thrown, m_values, m_eventPoint, m_eventValue, m_events, m_told, m_over, m_lost, m_restart, m_outputs, m_time, .ref hd0, .int (nI bl.length), m_begun, m_master, m_part, m_fragment, m_size, m_selected, m_wanted, m_by, m_since, m_confirm, m_answer, m_answerSize, m_signs, m_sent, m_sentCount, m_sum, m_number, m_reply, m_replySize])), (hd0, .inl (cyI, 80, .inl hf))] → va_S A s.heap H locs → lv_has ls 4 [(0, .ref h0), (1, .int (bI (bd2 = true))), (2, .int (nI (plL bl))), (3, .int (nI k))] → W p l e ({ frames := 2, cells := 0, slots := 0, locals := 60 } : Room) s m ([.ref h0] : List Value).toArray below meth c H locs 0 0 Q (F0 m 100 ls []) := by
          intro n9_100
          induction n9_100 with
          | zero =>
            intro k bd2 hk hb2 hm9
            exact absurd hm9 (Nat.not_lt_zero _)
          | succ n9_100 ih100 =>
            intro k bd2 hk hb2 hm9_100 H locs ls hP hD hS hl
            refine lv_bipush (v := (nI 16)) hx hb dX12_isSpoilt_100 (by decide) ?_
            refine lv_iload_n hx hb dX12_isSpoilt_102 rfl (lv_at hl 3 rfl) ?_
            refine nv_imul hx hb dX12_isSpoilt_103 ?_
            refine lv_iload_n hx hb dX12_isSpoilt_104 rfl (lv_at hl 2 rfl) ?_
            refine nv_icmp_ge (tgt := 160) hx hb (by omega) (by omega) dX12_isSpoilt_105 (by decide) (fun c105 => ?_) (fun c105 => ?_)
            · skip
              refine lv_iload_n hx hb dX12_isSpoilt_160 rfl (lv_at hl 1 rfl) ?_
              exact ret_z hQ hx hb hr hlocks dX12_isSpoilt_161 hK hS (bI_narrow _) bd2 (⟨rfl, sp_all hnb c76 (by omega) (by omega) hb2⟩) hP hD
            · skip
              refine lv_iload_n hx hb dX12_isSpoilt_108 rfl (lv_at hl 1 rfl) ?_
              refine bv_if_ne (tgt := 148) hx hb dX12_isSpoilt_109 (by decide) (fun c109 => ?_) (fun c109 => ?_)
              · skip
                refine lv_iconst (v := (nI 1)) hx hb dX12_isSpoilt_148 (by decide) ?_
                refine lv_goto (tgt := 153) hx hb dX12_isSpoilt_149 (by decide) ?_
                refine lv_istore_n (lv' := [(1, .int (nI 1)), (0, .ref h0), (2, .int (nI (plL bl))), (3, .int (nI k))]) hx hb dX12_isSpoilt_153 rfl hl (by decide) rfl (fun ls hl => ?_)
                refine lv_iinc (v := (nI (k + 1))) (lv' := [(3, .int (nI (k + 1))), (1, .int (nI 1)), (0, .ref h0), (2, .int (nI (plL bl)))]) hx hb dX12_isSpoilt_154 hl (k := 3) rfl (nI_add _ _) (by decide) rfl (fun ls hl => ?_)
                refine lv_goto (tgt := 100) hx hb dX12_isSpoilt_157 (by decide) ?_
                have el9 : ([(0, .ref h0), (1, .int (bI (true = true))), (2, .int (nI (plL bl))), (3, .int (nI (k + 1)))] : List (Nat × Value)) = [(0, .ref h0), (1, .int (nI 1)), (2, .int (nI (plL bl))), (3, .int (nI (k + 1)))] := by first | rfl | rw [bI_dec]
                exact ih100 (k + 1) true (by omega) (spW_t hb2 c109) (by omega) H locs ls hP hD hS (by rw [el9]; exact lv_sub hl [2, 1, 3, 0] rfl)
              · skip
                have J142 : ∀ (nn : Nat), (nn = min (plL bl - 16 * k) 16) → ∀ (H : Heap) (locs : List Loc) (ls : Array Slot), va_P D vwCl [(h0, .inr (12, [m_thrown, m_values, m_eventPoint, m_eventValue, m_events, m_told, m_over, m_lost, m_restart, m_outputs, m_time, .ref hd0, .int (nI bl.length), m_begun, m_master, m_part, m_fragment, m_size, m_selected, m_wanted, m_by, m_since, m_confirm, m_answer, m_answerSize, m_signs, m_sent, m_sentCount, m_sum, m_number, m_reply, m_replySize])), (hd0, .inl (cyI, 80, .inl hf))] H → va_D A [(h0, .inr (12, [m_thrown, m_values, m_eventPoint, m_eventValue, m_events, m_told, m_over, m_lost, m_restart, m_outputs, m_time, .ref hd0, .int (nI bl.length), m_begun, m_master, m_part, m_fragment, m_size, m_selected, m_wanted, m_by, m_since, m_confirm, m_answer, m_answerSize, m_signs, m_sent, m_sentCount, m_sum, m_number, m_reply, m_replySize])), (hd0, .inl (cyI, 80, .inl hf))] → va_S A s.heap H locs → lv_has ls 4 [(0, .ref h0), (2, .int (nI (plL bl))), (3, .int (nI k))] → W p l e ({ frames := 2, cells := 0, slots := 0, locals := 60 } : Room) s m ([.ref h0] : List Value).toArray below meth c H locs 0 0 Q (F0 m 142 ls [.int (nI nn), .int (nI (10 + 18 * k)), .ref h0]) := by
                  intro nn hnn H locs ls hP hD hS hl
                  refine res_i (wW := [(h0, .inr (12, [m_thrown, m_values, m_eventPoint, m_eventValue, m_events, m_told, m_over, m_lost, m_restart, m_outputs, m_time, .ref hd0, .int (nI bl.length), m_begun, m_master, m_part, m_fragment, m_size, m_selected, m_wanted, m_by, m_since, m_confirm, m_answer, m_answerSize, m_signs, m_sent, m_sentCount, m_sum, m_number, m_reply, m_replySize])), (hd0, .inl (cyI, 80, .inl hf))]) (Wc := [(h0, .inr (12, [m_thrown, m_values, m_eventPoint, m_eventValue, m_events, m_told, m_over, m_lost, m_restart, m_outputs, m_time, .ref hd0, .int (nI bl.length), m_begun, m_master, m_part, m_fragment, m_size, m_selected, m_wanted, m_by, m_since, m_confirm, m_answer, m_answerSize, m_signs, m_sent, m_sentCount, m_sum, m_number, m_reply, m_replySize])), (hd0, .inl (cyI, 80, .inl hf))]) (Wr := []) (run_V (QA := fun A => va_Qi _ (bw D _ (tyL cyI cyZ) A) A) (rmC := ({ frames := 1, cells := 0, slots := 0, locals := 30 } : Room)) (mc := 0) (ms := 0) (As := [.int (nI (10 + 18 * k)), .int (nI nn)]) (rest := []) (ci := 12) (wW := [(h0, .inr (12, [m_thrown, m_values, m_eventPoint, m_eventValue, m_events, m_told, m_over, m_lost, m_restart, m_outputs, m_time, .ref hd0, .int (nI bl.length), m_begun, m_master, m_part, m_fragment, m_size, m_selected, m_wanted, m_by, m_since, m_confirm, m_answer, m_answerSize, m_signs, m_sent, m_sentCount, m_sum, m_number, m_reply, m_replySize])), (hd0, .inl (cyI, 80, .inl hf))]) (Wc := [(h0, .inr (12, [m_thrown, m_values, m_eventPoint, m_eventValue, m_events, m_told, m_over, m_lost, m_restart, m_outputs, m_time, .ref hd0, .int (nI bl.length), m_begun, m_master, m_part, m_fragment, m_size, m_selected, m_wanted, m_by, m_since, m_confirm, m_answer, m_answerSize, m_signs, m_sent, m_sentCount, m_sum, m_number, m_reply, m_replySize])), (hd0, .inl (cyI, 80, .inl hf))]) ⟨hx, hb, hml, hown, hts⟩ (c_X12_isWrong l D cyI cyZ h0 (m_thrown) (m_values) (m_eventPoint) (m_eventValue) (m_events) (m_told) (m_over) (m_lost) (m_restart) (m_outputs) (m_time) (m_begun) (m_master) (m_part) (m_fragment) (m_size) (m_selected) (m_wanted) (m_by) (m_since) (m_confirm) (m_answer) (m_answerSize) (m_signs) (m_sent) (m_sentCount) (m_sum) (m_number) (m_reply) (m_replySize) hd0 bl hf (10 + 18 * k) nn (by assumption) (by clear hb2; omega)) (cwV 2 hts gX12_isSpoilt_X12_isWrong rfl rfl rfl (by decide +kernel) ⟨Nat.le_of_ble_eq_true rfl, Nat.le_of_ble_eq_true rfl⟩) hN hK hP hD [0, 1] rfl (by decide) 0 rfl rfl rfl hl.1 rfl rfl dX12_isSpoilt_142 ⟨Nat.le_of_ble_eq_true rfl, Nat.le_of_ble_eq_true rfl⟩) hP hD hS hA [0, 1] [] rfl rfl (by decide) (by decide) (fun r142 u9 H locs w142 hP hD hS => ?_)
                  have w142 : r142 = bI (isW bl (10 + 18 * k) nn) := w142
                  have hP : va_P D vwCl [(h0, .inr (12, [m_thrown, m_values, m_eventPoint, m_eventValue, m_events, m_told, m_over, m_lost, m_restart, m_outputs, m_time, .ref hd0, .int (nI bl.length), m_begun, m_master, m_part, m_fragment, m_size, m_selected, m_wanted, m_by, m_since, m_confirm, m_answer, m_answerSize, m_signs, m_sent, m_sentCount, m_sum, m_number, m_reply, m_replySize])), (hd0, .inl (cyI, 80, .inl hf))] H := hP
                  have hD : va_D A [(h0, .inr (12, [m_thrown, m_values, m_eventPoint, m_eventValue, m_events, m_told, m_over, m_lost, m_restart, m_outputs, m_time, .ref hd0, .int (nI bl.length), m_begun, m_master, m_part, m_fragment, m_size, m_selected, m_wanted, m_by, m_since, m_confirm, m_answer, m_answerSize, m_signs, m_sent, m_sentCount, m_sum, m_number, m_reply, m_replySize])), (hd0, .inl (cyI, 80, .inl hf))] := hD
                  refine nv_top (y := (bI (isW bl (10 + 18 * k) nn))) (w142) ?_
                  refine bv_if_eq (tgt := 152) hx hb dX12_isSpoilt_145 (by decide) (fun c145 => ?_) (fun c145 => ?_)
                  · skip
                    refine lv_iconst (v := (nI 0)) hx hb dX12_isSpoilt_152 (by decide) ?_
                    refine lv_istore_n (lv' := [(1, .int (nI 0)), (0, .ref h0), (2, .int (nI (plL bl))), (3, .int (nI k))]) hx hb dX12_isSpoilt_153 rfl hl (by decide) rfl (fun ls hl => ?_)
                    refine lv_iinc (v := (nI (k + 1))) (lv' := [(3, .int (nI (k + 1))), (1, .int (nI 0)), (0, .ref h0), (2, .int (nI (plL bl)))]) hx hb dX12_isSpoilt_154 hl (k := 3) rfl (nI_add _ _) (by decide) rfl (fun ls hl => ?_)
                    refine lv_goto (tgt := 100) hx hb dX12_isSpoilt_157 (by decide) ?_
                    have el9 : ([(0, .ref h0), (1, .int (bI (false = true))), (2, .int (nI (plL bl))), (3, .int (nI (k + 1)))] : List (Nat × Value)) = [(0, .ref h0), (1, .int (nI 0)), (2, .int (nI (plL bl))), (3, .int (nI (k + 1)))] := by first | rfl | rw [bI_dec]
                    exact ih100 (k + 1) false (by omega) (spW_n hb2 c109 (by rw [← hnn]; exact c145)) (by omega) H locs ls hP hD hS (by rw [el9]; exact lv_sub hl [2, 1, 3, 0] rfl)
                  · skip
                    refine lv_iconst (v := (nI 1)) hx hb dX12_isSpoilt_148 (by decide) ?_
                    refine lv_goto (tgt := 153) hx hb dX12_isSpoilt_149 (by decide) ?_
                    refine lv_istore_n (lv' := [(1, .int (nI 1)), (0, .ref h0), (2, .int (nI (plL bl))), (3, .int (nI k))]) hx hb dX12_isSpoilt_153 rfl hl (by decide) rfl (fun ls hl => ?_)
                    refine lv_iinc (v := (nI (k + 1))) (lv' := [(3, .int (nI (k + 1))), (1, .int (nI 1)), (0, .ref h0), (2, .int (nI (plL bl)))]) hx hb dX12_isSpoilt_154 hl (k := 3) rfl (nI_add _ _) (by decide) rfl (fun ls hl => ?_)
                    refine lv_goto (tgt := 100) hx hb dX12_isSpoilt_157 (by decide) ?_
                    have el9 : ([(0, .ref h0), (1, .int (bI (true = true))), (2, .int (nI (plL bl))), (3, .int (nI (k + 1)))] : List (Nat × Value)) = [(0, .ref h0), (1, .int (nI 1)), (2, .int (nI (plL bl))), (3, .int (nI (k + 1)))] := by first | rfl | rw [bI_dec]
                    exact ih100 (k + 1) true (by omega) (spW_y (by rw [← hnn]; exact c145)) (by omega) H locs ls hP hD hS (by rw [el9]; exact lv_sub hl [2, 1, 3, 0] rfl)
                refine lv_aload_n hx hb dX12_isSpoilt_112 rfl (lv_at hl 0 rfl) ?_
                refine lv_bipush (v := (nI 10)) hx hb dX12_isSpoilt_113 (by decide) ?_
                refine lv_bipush (v := (nI 18)) hx hb dX12_isSpoilt_115 (by decide) ?_
                refine lv_iload_n hx hb dX12_isSpoilt_117 rfl (lv_at hl 3 rfl) ?_
                refine nv_imul hx hb dX12_isSpoilt_118 ?_
                refine nv_iadd hx hb dX12_isSpoilt_119 ?_
                refine lv_iload_n hx hb dX12_isSpoilt_120 rfl (lv_at hl 2 rfl) ?_
                refine lv_bipush (v := (nI 16)) hx hb dX12_isSpoilt_121 (by decide) ?_
                refine lv_iload_n hx hb dX12_isSpoilt_123 rfl (lv_at hl 3 rfl) ?_
                refine nv_imul hx hb dX12_isSpoilt_124 ?_
                refine nv_isub hx hb (by omega) dX12_isSpoilt_125 ?_
                refine lv_bipush (v := (nI 16)) hx hb dX12_isSpoilt_126 (by decide) ?_
                refine nv_icmp_le (tgt := 136) hx hb (by omega) (by omega) dX12_isSpoilt_128 (by decide) (fun c128 => ?_) (fun c128 => ?_)
                · skip
                  refine lv_iload_n hx hb dX12_isSpoilt_136 rfl (lv_at hl 2 rfl) ?_
                  refine lv_bipush (v := (nI 16)) hx hb dX12_isSpoilt_137 (by decide) ?_
                  refine lv_iload_n hx hb dX12_isSpoilt_139 rfl (lv_at hl 3 rfl) ?_
                  refine nv_imul hx hb dX12_isSpoilt_140 ?_
                  refine nv_isub hx hb (by omega) dX12_isSpoilt_141 ?_
                  refine W.eq (g2 := F0 m 142 ls [.int (nI ((plL bl) - (16 * k))), .int (nI (10 + 18 * k)), .ref h0]) (by rfl) ?_
                  exact J142 ((plL bl) - (16 * k)) (by clear hb2; omega) H locs ls hP hD hS (lv_sub hl [0, 2, 3] rfl)
                · skip
                  refine lv_bipush (v := (nI 16)) hx hb dX12_isSpoilt_131 (by decide) ?_
                  refine lv_goto (tgt := 142) hx hb dX12_isSpoilt_133 (by decide) ?_
                  refine W.eq (g2 := F0 m 142 ls [.int (nI 16), .int (nI (10 + 18 * k)), .ref h0]) (by rfl) ?_
                  exact J142 16 (by clear hb2; omega) H locs ls hP hD hS (lv_sub hl [0, 2, 3] rfl)
        have el9 : ([(0, .ref h0), (1, .int (bI ((decide (isW bl 0 8)) = true))), (2, .int (nI (plL bl))), (3, .int (nI 0))] : List (Nat × Value)) = [(0, .ref h0), (1, .int (bI (isW bl 0 8))), (2, .int (nI (plL bl))), (3, .int (nI 0))] := by first | rfl | rw [bI_dec]
        exact L100 _ 0 (decide (isW bl 0 8)) (by omega) (spW_0) (Nat.lt_succ_self _) H locs ls hP hD hS (by rw [el9]; exact lv_sub hl [3, 2, 1, 0] rfl)
      · skip
        refine lv_iload_n hx hb dX12_isSpoilt_79 rfl (lv_at hl 0 rfl) ?_
        exact ret_z hQ hx hb hr hlocks dX12_isSpoilt_80 hK hS (bI_narrow _) bd (⟨rfl, ⟨fun z => absurd z c68, fun z => absurd z (sp_short (fun q => c68 (hbd.mpr q)) (by omega))⟩⟩) hP hD
  refine lv_aload_n hx hb dX12_isSpoilt_0 rfl (lv_at hl 0 rfl) ?_
  refine va_get (D := D) (ci := 12) (v := .int (nI bl.length)) (C := RX12) (T := TX12) (N := 32) hx hb hts inX12_ hown hK hP 0 rfl rfl 12 (by decide) fl84 (fun _ h9 => h9) rfl dX12_isSpoilt_1 ?_
  refine nv_if_le (tgt := 17) hx hb (by omega) dX12_isSpoilt_4 (by decide) (fun c4 => ?_) (fun c4 => ?_)
  · skip
    refine lv_aload_n hx hb dX12_isSpoilt_17 rfl (lv_at hl 0 rfl) ?_
    refine va_get (D := D) (ci := 12) (v := .int (nI bl.length)) (C := RX12) (T := TX12) (N := 32) hx hb hts inX12_ hown hK hP 0 rfl rfl 12 (by decide) fl84 (fun _ h9 => h9) rfl dX12_isSpoilt_18 ?_
    refine lv_iconst (v := (nI 1)) hx hb dX12_isSpoilt_21 (by decide) ?_
    refine nv_icmp_le (tgt := 36) hx hb (by omega) (by omega) dX12_isSpoilt_22 (by decide) (fun c22 => ?_) (fun c22 => ?_)
    · skip
      refine lv_aload_n hx hb dX12_isSpoilt_36 rfl (lv_at hl 0 rfl) ?_
      refine va_get (D := D) (ci := 12) (v := .int (nI bl.length)) (C := RX12) (T := TX12) (N := 32) hx hb hts inX12_ hown hK hP 0 rfl rfl 12 (by decide) fl84 (fun _ h9 => h9) rfl dX12_isSpoilt_37 ?_
      refine lv_iconst (v := (nI 2)) hx hb dX12_isSpoilt_40 (by decide) ?_
      refine nv_icmp_le (tgt := 65) hx hb (by omega) (by omega) dX12_isSpoilt_41 (by decide) (fun c41 => ?_) (fun c41 => ?_)
      · skip
        refine lv_iconst (v := (nI 0)) hx hb dX12_isSpoilt_65 (by decide) ?_
        refine W.eq (g2 := F0 m 66 ls [.int (bI (false = true))]) (by rfl) ?_
        exact J66 false (by first | exact ⟨fun _ => by unfold begBad; omega, fun _ => rfl⟩ | exact ⟨fun z => absurd z (by decide), fun z => by unfold begBad at z; omega⟩) H locs ls hP hD hS (lv_sub hl [0] rfl)
      · skip
        refine lv_aload_n hx hb dX12_isSpoilt_44 rfl (lv_at hl 0 rfl) ?_
        refine va_get (D := D) (ci := 12) (v := .ref hd0) (C := RX12) (T := TX12) (N := 32) hx hb hts inX12_ hown hK hP 0 rfl rfl 11 (by decide) fl36 (fun _ h9 => h9) rfl dX12_isSpoilt_45 ?_
        refine lv_iconst (v := (nI 2)) hx hb dX12_isSpoilt_48 (by decide) ?_
        refine nv_iald hx hb hK hP 1 0 rfl rfl (by omega) (by decide) dX12_isSpoilt_49 ?_
        refine nv_top (y := (nI (bl.getD 2 0))) (oh3 2 (by omega)) ?_
        refine lv_bipush (v := (nI 6)) hx hb dX12_isSpoilt_50 (by decide) ?_
        refine lv_isub hx hb dX12_isSpoilt_52 ?_
        refine lv_bipush (v := (nI 40)) hx hb dX12_isSpoilt_53 (by decide) ?_
        refine res_i (wW := [(h0, .inr (12, [m_thrown, m_values, m_eventPoint, m_eventValue, m_events, m_told, m_over, m_lost, m_restart, m_outputs, m_time, .ref hd0, .int (nI bl.length), m_begun, m_master, m_part, m_fragment, m_size, m_selected, m_wanted, m_by, m_since, m_confirm, m_answer, m_answerSize, m_signs, m_sent, m_sentCount, m_sum, m_number, m_reply, m_replySize])), (hd0, .inl (cyI, 80, .inl hf))]) (Wc := []) (Wr := [(h0, .inr (12, [m_thrown, m_values, m_eventPoint, m_eventValue, m_events, m_told, m_over, m_lost, m_restart, m_outputs, m_time, .ref hd0, .int (nI bl.length), m_begun, m_master, m_part, m_fragment, m_size, m_selected, m_wanted, m_by, m_since, m_confirm, m_answer, m_answerSize, m_signs, m_sent, m_sentCount, m_sum, m_number, m_reply, m_replySize])), (hd0, .inl (cyI, 80, .inl hf))]) (run_S (QA := fun A => va_Qi _ (bw D _ (tyL cyI cyZ) A) A) (rmC := ({ frames := 0, cells := 0, slots := 0, locals := 0 } : Room)) (mc := 0) (ms := 0) (As := [.int ((nI (bl.getD 2 0)) - (nI 6)), .int (nI 40)]) (rest := []) (wW := [(h0, .inr (12, [m_thrown, m_values, m_eventPoint, m_eventValue, m_events, m_told, m_over, m_lost, m_restart, m_outputs, m_time, .ref hd0, .int (nI bl.length), m_begun, m_master, m_part, m_fragment, m_size, m_selected, m_wanted, m_by, m_since, m_confirm, m_answer, m_answerSize, m_signs, m_sent, m_sentCount, m_sum, m_number, m_reply, m_replySize])), (hd0, .inl (cyI, 80, .inl hf))]) (Wc := []) ⟨hx, hb, hml, hown, hts⟩ (c_X12_out l D cyI cyZ ((nI (bl.getD 2 0)) - (nI 6)) (nI 40) ) (cwS 2 hts gX12_isSpoilt_X12_out rfl rfl rfl (by decide +kernel) ⟨Nat.le_of_ble_eq_true rfl, Nat.le_of_ble_eq_true rfl⟩) hN hK hP hD [] rfl (by decide) rfl hl.1 rfl rfl dX12_isSpoilt_55 ⟨Nat.le_of_ble_eq_true rfl, Nat.le_of_ble_eq_true rfl⟩) hP hD hS hA [] [0, 1] rfl rfl (by decide) (by decide) (fun r55 u9 H locs w55 hP hD hS => ?_)
        have w55 : r55 = bI (((nI (bl.getD 2 0)) - (nI 6)) < 0 ∨ (nI 40) ≤ ((nI (bl.getD 2 0)) - (nI 6))) := w55
        have hP : va_P D vwCl [(h0, .inr (12, [m_thrown, m_values, m_eventPoint, m_eventValue, m_events, m_told, m_over, m_lost, m_restart, m_outputs, m_time, .ref hd0, .int (nI bl.length), m_begun, m_master, m_part, m_fragment, m_size, m_selected, m_wanted, m_by, m_since, m_confirm, m_answer, m_answerSize, m_signs, m_sent, m_sentCount, m_sum, m_number, m_reply, m_replySize])), (hd0, .inl (cyI, 80, .inl hf))] H := hP
        have hD : va_D A [(h0, .inr (12, [m_thrown, m_values, m_eventPoint, m_eventValue, m_events, m_told, m_over, m_lost, m_restart, m_outputs, m_time, .ref hd0, .int (nI bl.length), m_begun, m_master, m_part, m_fragment, m_size, m_selected, m_wanted, m_by, m_since, m_confirm, m_answer, m_answerSize, m_signs, m_sent, m_sentCount, m_sum, m_number, m_reply, m_replySize])), (hd0, .inl (cyI, 80, .inl hf))] := hD
        refine nv_top (y := (bI (((nI (bl.getD 2 0)) - (nI 6)) < 0 ∨ (nI 40) ≤ ((nI (bl.getD 2 0)) - (nI 6))))) (w55) ?_
        refine nv_top (y := (bI (bl.getD 2 0 < 6 ∨ 45 < bl.getD 2 0))) (bI_congr (out_iff (by omega))) ?_
        refine bv_if_eq (tgt := 65) hx hb dX12_isSpoilt_58 (by decide) (fun c58 => ?_) (fun c58 => ?_)
        · skip
          refine lv_iconst (v := (nI 0)) hx hb dX12_isSpoilt_65 (by decide) ?_
          refine W.eq (g2 := F0 m 66 ls [.int (bI (false = true))]) (by rfl) ?_
          exact J66 false (by first | exact ⟨fun _ => by unfold begBad; omega, fun _ => rfl⟩ | exact ⟨fun z => absurd z (by decide), fun z => by unfold begBad at z; omega⟩) H locs ls hP hD hS (lv_sub hl [0] rfl)
        · skip
          refine lv_iconst (v := (nI 1)) hx hb dX12_isSpoilt_61 (by decide) ?_
          refine lv_goto (tgt := 66) hx hb dX12_isSpoilt_62 (by decide) ?_
          refine W.eq (g2 := F0 m 66 ls [.int (bI (true = true))]) (by rfl) ?_
          exact J66 true (by first | exact ⟨fun _ => by unfold begBad; omega, fun _ => rfl⟩ | exact ⟨fun z => absurd z (by decide), fun z => by unfold begBad at z; omega⟩) H locs ls hP hD hS (lv_sub hl [0] rfl)
    · skip
      refine lv_aload_n hx hb dX12_isSpoilt_25 rfl (lv_at hl 0 rfl) ?_
      refine va_get (D := D) (ci := 12) (v := .ref hd0) (C := RX12) (T := TX12) (N := 32) hx hb hts inX12_ hown hK hP 0 rfl rfl 11 (by decide) fl36 (fun _ h9 => h9) rfl dX12_isSpoilt_26 ?_
      refine lv_iconst (v := (nI 1)) hx hb dX12_isSpoilt_29 (by decide) ?_
      refine nv_iald hx hb hK hP 1 0 rfl rfl (by omega) (by decide) dX12_isSpoilt_30 ?_
      refine nv_top (y := (nI (bl.getD 1 0))) (oh3 1 (by omega)) ?_
      refine lv_bipush (v := (nI 100)) hx hb dX12_isSpoilt_31 (by decide) ?_
      refine nv_icmp_ne (tgt := 61) hx hb (by omega) (by omega) dX12_isSpoilt_33 (by decide) (fun c33 => ?_) (fun c33 => ?_)
      · skip
        refine lv_iconst (v := (nI 1)) hx hb dX12_isSpoilt_61 (by decide) ?_
        refine lv_goto (tgt := 66) hx hb dX12_isSpoilt_62 (by decide) ?_
        refine W.eq (g2 := F0 m 66 ls [.int (bI (true = true))]) (by rfl) ?_
        exact J66 true (by first | exact ⟨fun _ => by unfold begBad; omega, fun _ => rfl⟩ | exact ⟨fun z => absurd z (by decide), fun z => by unfold begBad at z; omega⟩) H locs ls hP hD hS (lv_sub hl [0] rfl)
      · skip
        refine lv_aload_n hx hb dX12_isSpoilt_36 rfl (lv_at hl 0 rfl) ?_
        refine va_get (D := D) (ci := 12) (v := .int (nI bl.length)) (C := RX12) (T := TX12) (N := 32) hx hb hts inX12_ hown hK hP 0 rfl rfl 12 (by decide) fl84 (fun _ h9 => h9) rfl dX12_isSpoilt_37 ?_
        refine lv_iconst (v := (nI 2)) hx hb dX12_isSpoilt_40 (by decide) ?_
        refine nv_icmp_le (tgt := 65) hx hb (by omega) (by omega) dX12_isSpoilt_41 (by decide) (fun c41 => ?_) (fun c41 => ?_)
        · skip
          refine lv_iconst (v := (nI 0)) hx hb dX12_isSpoilt_65 (by decide) ?_
          refine W.eq (g2 := F0 m 66 ls [.int (bI (false = true))]) (by rfl) ?_
          exact J66 false (by first | exact ⟨fun _ => by unfold begBad; omega, fun _ => rfl⟩ | exact ⟨fun z => absurd z (by decide), fun z => by unfold begBad at z; omega⟩) H locs ls hP hD hS (lv_sub hl [0] rfl)
        · skip
          refine lv_aload_n hx hb dX12_isSpoilt_44 rfl (lv_at hl 0 rfl) ?_
          refine va_get (D := D) (ci := 12) (v := .ref hd0) (C := RX12) (T := TX12) (N := 32) hx hb hts inX12_ hown hK hP 0 rfl rfl 11 (by decide) fl36 (fun _ h9 => h9) rfl dX12_isSpoilt_45 ?_
          refine lv_iconst (v := (nI 2)) hx hb dX12_isSpoilt_48 (by decide) ?_
          refine nv_iald hx hb hK hP 1 0 rfl rfl (by omega) (by decide) dX12_isSpoilt_49 ?_
          refine nv_top (y := (nI (bl.getD 2 0))) (oh3 2 (by omega)) ?_
          refine lv_bipush (v := (nI 6)) hx hb dX12_isSpoilt_50 (by decide) ?_
          refine lv_isub hx hb dX12_isSpoilt_52 ?_
          refine lv_bipush (v := (nI 40)) hx hb dX12_isSpoilt_53 (by decide) ?_
          refine res_i (wW := [(h0, .inr (12, [m_thrown, m_values, m_eventPoint, m_eventValue, m_events, m_told, m_over, m_lost, m_restart, m_outputs, m_time, .ref hd0, .int (nI bl.length), m_begun, m_master, m_part, m_fragment, m_size, m_selected, m_wanted, m_by, m_since, m_confirm, m_answer, m_answerSize, m_signs, m_sent, m_sentCount, m_sum, m_number, m_reply, m_replySize])), (hd0, .inl (cyI, 80, .inl hf))]) (Wc := []) (Wr := [(h0, .inr (12, [m_thrown, m_values, m_eventPoint, m_eventValue, m_events, m_told, m_over, m_lost, m_restart, m_outputs, m_time, .ref hd0, .int (nI bl.length), m_begun, m_master, m_part, m_fragment, m_size, m_selected, m_wanted, m_by, m_since, m_confirm, m_answer, m_answerSize, m_signs, m_sent, m_sentCount, m_sum, m_number, m_reply, m_replySize])), (hd0, .inl (cyI, 80, .inl hf))]) (run_S (QA := fun A => va_Qi _ (bw D _ (tyL cyI cyZ) A) A) (rmC := ({ frames := 0, cells := 0, slots := 0, locals := 0 } : Room)) (mc := 0) (ms := 0) (As := [.int ((nI (bl.getD 2 0)) - (nI 6)), .int (nI 40)]) (rest := []) (wW := [(h0, .inr (12, [m_thrown, m_values, m_eventPoint, m_eventValue, m_events, m_told, m_over, m_lost, m_restart, m_outputs, m_time, .ref hd0, .int (nI bl.length), m_begun, m_master, m_part, m_fragment, m_size, m_selected, m_wanted, m_by, m_since, m_confirm, m_answer, m_answerSize, m_signs, m_sent, m_sentCount, m_sum, m_number, m_reply, m_replySize])), (hd0, .inl (cyI, 80, .inl hf))]) (Wc := []) ⟨hx, hb, hml, hown, hts⟩ (c_X12_out l D cyI cyZ ((nI (bl.getD 2 0)) - (nI 6)) (nI 40) ) (cwS 2 hts gX12_isSpoilt_X12_out rfl rfl rfl (by decide +kernel) ⟨Nat.le_of_ble_eq_true rfl, Nat.le_of_ble_eq_true rfl⟩) hN hK hP hD [] rfl (by decide) rfl hl.1 rfl rfl dX12_isSpoilt_55 ⟨Nat.le_of_ble_eq_true rfl, Nat.le_of_ble_eq_true rfl⟩) hP hD hS hA [] [0, 1] rfl rfl (by decide) (by decide) (fun r55_1 u9 H locs w55 hP hD hS => ?_)
          have w55 : r55_1 = bI (((nI (bl.getD 2 0)) - (nI 6)) < 0 ∨ (nI 40) ≤ ((nI (bl.getD 2 0)) - (nI 6))) := w55
          have hP : va_P D vwCl [(h0, .inr (12, [m_thrown, m_values, m_eventPoint, m_eventValue, m_events, m_told, m_over, m_lost, m_restart, m_outputs, m_time, .ref hd0, .int (nI bl.length), m_begun, m_master, m_part, m_fragment, m_size, m_selected, m_wanted, m_by, m_since, m_confirm, m_answer, m_answerSize, m_signs, m_sent, m_sentCount, m_sum, m_number, m_reply, m_replySize])), (hd0, .inl (cyI, 80, .inl hf))] H := hP
          have hD : va_D A [(h0, .inr (12, [m_thrown, m_values, m_eventPoint, m_eventValue, m_events, m_told, m_over, m_lost, m_restart, m_outputs, m_time, .ref hd0, .int (nI bl.length), m_begun, m_master, m_part, m_fragment, m_size, m_selected, m_wanted, m_by, m_since, m_confirm, m_answer, m_answerSize, m_signs, m_sent, m_sentCount, m_sum, m_number, m_reply, m_replySize])), (hd0, .inl (cyI, 80, .inl hf))] := hD
          refine nv_top (y := (bI (((nI (bl.getD 2 0)) - (nI 6)) < 0 ∨ (nI 40) ≤ ((nI (bl.getD 2 0)) - (nI 6))))) (w55) ?_
          refine nv_top (y := (bI (bl.getD 2 0 < 6 ∨ 45 < bl.getD 2 0))) (bI_congr (out_iff (by omega))) ?_
          refine bv_if_eq (tgt := 65) hx hb dX12_isSpoilt_58 (by decide) (fun c58 => ?_) (fun c58 => ?_)
          · skip
            refine lv_iconst (v := (nI 0)) hx hb dX12_isSpoilt_65 (by decide) ?_
            refine W.eq (g2 := F0 m 66 ls [.int (bI (false = true))]) (by rfl) ?_
            exact J66 false (by first | exact ⟨fun _ => by unfold begBad; omega, fun _ => rfl⟩ | exact ⟨fun z => absurd z (by decide), fun z => by unfold begBad at z; omega⟩) H locs ls hP hD hS (lv_sub hl [0] rfl)
          · skip
            refine lv_iconst (v := (nI 1)) hx hb dX12_isSpoilt_61 (by decide) ?_
            refine lv_goto (tgt := 66) hx hb dX12_isSpoilt_62 (by decide) ?_
            refine W.eq (g2 := F0 m 66 ls [.int (bI (true = true))]) (by rfl) ?_
            exact J66 true (by first | exact ⟨fun _ => by unfold begBad; omega, fun _ => rfl⟩ | exact ⟨fun z => absurd z (by decide), fun z => by unfold begBad at z; omega⟩) H locs ls hP hD hS (lv_sub hl [0] rfl)
  · skip
    refine lv_aload_n hx hb dX12_isSpoilt_7 rfl (lv_at hl 0 rfl) ?_
    refine va_get (D := D) (ci := 12) (v := .ref hd0) (C := RX12) (T := TX12) (N := 32) hx hb hts inX12_ hown hK hP 0 rfl rfl 11 (by decide) fl36 (fun _ h9 => h9) rfl dX12_isSpoilt_8 ?_
    refine lv_iconst (v := (nI 0)) hx hb dX12_isSpoilt_11 (by decide) ?_
    refine nv_iald hx hb hK hP 1 0 rfl rfl (by omega) (by decide) dX12_isSpoilt_12 ?_
    refine nv_top (y := (nI (bl.getD 0 0))) (oh3 0 (by omega)) ?_
    refine lv_iconst (v := (nI 5)) hx hb dX12_isSpoilt_13 (by decide) ?_
    refine nv_icmp_ne (tgt := 61) hx hb (by omega) (by omega) dX12_isSpoilt_14 (by decide) (fun c14 => ?_) (fun c14 => ?_)
    · skip
      refine lv_iconst (v := (nI 1)) hx hb dX12_isSpoilt_61 (by decide) ?_
      refine lv_goto (tgt := 66) hx hb dX12_isSpoilt_62 (by decide) ?_
      refine W.eq (g2 := F0 m 66 ls [.int (bI (true = true))]) (by rfl) ?_
      exact J66 true (by first | exact ⟨fun _ => by unfold begBad; omega, fun _ => rfl⟩ | exact ⟨fun z => absurd z (by decide), fun z => by unfold begBad at z; omega⟩) H locs ls hP hD hS (lv_sub hl [0] rfl)
    · skip
      refine lv_aload_n hx hb dX12_isSpoilt_17 rfl (lv_at hl 0 rfl) ?_
      refine va_get (D := D) (ci := 12) (v := .int (nI bl.length)) (C := RX12) (T := TX12) (N := 32) hx hb hts inX12_ hown hK hP 0 rfl rfl 12 (by decide) fl84 (fun _ h9 => h9) rfl dX12_isSpoilt_18 ?_
      refine lv_iconst (v := (nI 1)) hx hb dX12_isSpoilt_21 (by decide) ?_
      refine nv_icmp_le (tgt := 36) hx hb (by omega) (by omega) dX12_isSpoilt_22 (by decide) (fun c22 => ?_) (fun c22 => ?_)
      · skip
        refine lv_aload_n hx hb dX12_isSpoilt_36 rfl (lv_at hl 0 rfl) ?_
        refine va_get (D := D) (ci := 12) (v := .int (nI bl.length)) (C := RX12) (T := TX12) (N := 32) hx hb hts inX12_ hown hK hP 0 rfl rfl 12 (by decide) fl84 (fun _ h9 => h9) rfl dX12_isSpoilt_37 ?_
        refine lv_iconst (v := (nI 2)) hx hb dX12_isSpoilt_40 (by decide) ?_
        refine nv_icmp_le (tgt := 65) hx hb (by omega) (by omega) dX12_isSpoilt_41 (by decide) (fun c41 => ?_) (fun c41 => ?_)
        · skip
          refine lv_iconst (v := (nI 0)) hx hb dX12_isSpoilt_65 (by decide) ?_
          refine W.eq (g2 := F0 m 66 ls [.int (bI (false = true))]) (by rfl) ?_
          exact J66 false (by first | exact ⟨fun _ => by unfold begBad; omega, fun _ => rfl⟩ | exact ⟨fun z => absurd z (by decide), fun z => by unfold begBad at z; omega⟩) H locs ls hP hD hS (lv_sub hl [0] rfl)
        · skip
          refine lv_aload_n hx hb dX12_isSpoilt_44 rfl (lv_at hl 0 rfl) ?_
          refine va_get (D := D) (ci := 12) (v := .ref hd0) (C := RX12) (T := TX12) (N := 32) hx hb hts inX12_ hown hK hP 0 rfl rfl 11 (by decide) fl36 (fun _ h9 => h9) rfl dX12_isSpoilt_45 ?_
          refine lv_iconst (v := (nI 2)) hx hb dX12_isSpoilt_48 (by decide) ?_
          refine nv_iald hx hb hK hP 1 0 rfl rfl (by omega) (by decide) dX12_isSpoilt_49 ?_
          refine nv_top (y := (nI (bl.getD 2 0))) (oh3 2 (by omega)) ?_
          refine lv_bipush (v := (nI 6)) hx hb dX12_isSpoilt_50 (by decide) ?_
          refine lv_isub hx hb dX12_isSpoilt_52 ?_
          refine lv_bipush (v := (nI 40)) hx hb dX12_isSpoilt_53 (by decide) ?_
          refine res_i (wW := [(h0, .inr (12, [m_thrown, m_values, m_eventPoint, m_eventValue, m_events, m_told, m_over, m_lost, m_restart, m_outputs, m_time, .ref hd0, .int (nI bl.length), m_begun, m_master, m_part, m_fragment, m_size, m_selected, m_wanted, m_by, m_since, m_confirm, m_answer, m_answerSize, m_signs, m_sent, m_sentCount, m_sum, m_number, m_reply, m_replySize])), (hd0, .inl (cyI, 80, .inl hf))]) (Wc := []) (Wr := [(h0, .inr (12, [m_thrown, m_values, m_eventPoint, m_eventValue, m_events, m_told, m_over, m_lost, m_restart, m_outputs, m_time, .ref hd0, .int (nI bl.length), m_begun, m_master, m_part, m_fragment, m_size, m_selected, m_wanted, m_by, m_since, m_confirm, m_answer, m_answerSize, m_signs, m_sent, m_sentCount, m_sum, m_number, m_reply, m_replySize])), (hd0, .inl (cyI, 80, .inl hf))]) (run_S (QA := fun A => va_Qi _ (bw D _ (tyL cyI cyZ) A) A) (rmC := ({ frames := 0, cells := 0, slots := 0, locals := 0 } : Room)) (mc := 0) (ms := 0) (As := [.int ((nI (bl.getD 2 0)) - (nI 6)), .int (nI 40)]) (rest := []) (wW := [(h0, .inr (12, [m_thrown, m_values, m_eventPoint, m_eventValue, m_events, m_told, m_over, m_lost, m_restart, m_outputs, m_time, .ref hd0, .int (nI bl.length), m_begun, m_master, m_part, m_fragment, m_size, m_selected, m_wanted, m_by, m_since, m_confirm, m_answer, m_answerSize, m_signs, m_sent, m_sentCount, m_sum, m_number, m_reply, m_replySize])), (hd0, .inl (cyI, 80, .inl hf))]) (Wc := []) ⟨hx, hb, hml, hown, hts⟩ (c_X12_out l D cyI cyZ ((nI (bl.getD 2 0)) - (nI 6)) (nI 40) ) (cwS 2 hts gX12_isSpoilt_X12_out rfl rfl rfl (by decide +kernel) ⟨Nat.le_of_ble_eq_true rfl, Nat.le_of_ble_eq_true rfl⟩) hN hK hP hD [] rfl (by decide) rfl hl.1 rfl rfl dX12_isSpoilt_55 ⟨Nat.le_of_ble_eq_true rfl, Nat.le_of_ble_eq_true rfl⟩) hP hD hS hA [] [0, 1] rfl rfl (by decide) (by decide) (fun r55_2 u9 H locs w55 hP hD hS => ?_)
          have w55 : r55_2 = bI (((nI (bl.getD 2 0)) - (nI 6)) < 0 ∨ (nI 40) ≤ ((nI (bl.getD 2 0)) - (nI 6))) := w55
          have hP : va_P D vwCl [(h0, .inr (12, [m_thrown, m_values, m_eventPoint, m_eventValue, m_events, m_told, m_over, m_lost, m_restart, m_outputs, m_time, .ref hd0, .int (nI bl.length), m_begun, m_master, m_part, m_fragment, m_size, m_selected, m_wanted, m_by, m_since, m_confirm, m_answer, m_answerSize, m_signs, m_sent, m_sentCount, m_sum, m_number, m_reply, m_replySize])), (hd0, .inl (cyI, 80, .inl hf))] H := hP
          have hD : va_D A [(h0, .inr (12, [m_thrown, m_values, m_eventPoint, m_eventValue, m_events, m_told, m_over, m_lost, m_restart, m_outputs, m_time, .ref hd0, .int (nI bl.length), m_begun, m_master, m_part, m_fragment, m_size, m_selected, m_wanted, m_by, m_since, m_confirm, m_answer, m_answerSize, m_signs, m_sent, m_sentCount, m_sum, m_number, m_reply, m_replySize])), (hd0, .inl (cyI, 80, .inl hf))] := hD
          refine nv_top (y := (bI (((nI (bl.getD 2 0)) - (nI 6)) < 0 ∨ (nI 40) ≤ ((nI (bl.getD 2 0)) - (nI 6))))) (w55) ?_
          refine nv_top (y := (bI (bl.getD 2 0 < 6 ∨ 45 < bl.getD 2 0))) (bI_congr (out_iff (by omega))) ?_
          refine bv_if_eq (tgt := 65) hx hb dX12_isSpoilt_58 (by decide) (fun c58 => ?_) (fun c58 => ?_)
          · skip
            refine lv_iconst (v := (nI 0)) hx hb dX12_isSpoilt_65 (by decide) ?_
            refine W.eq (g2 := F0 m 66 ls [.int (bI (false = true))]) (by rfl) ?_
            exact J66 false (by first | exact ⟨fun _ => by unfold begBad; omega, fun _ => rfl⟩ | exact ⟨fun z => absurd z (by decide), fun z => by unfold begBad at z; omega⟩) H locs ls hP hD hS (lv_sub hl [0] rfl)
          · skip
            refine lv_iconst (v := (nI 1)) hx hb dX12_isSpoilt_61 (by decide) ?_
            refine lv_goto (tgt := 66) hx hb dX12_isSpoilt_62 (by decide) ?_
            refine W.eq (g2 := F0 m 66 ls [.int (bI (true = true))]) (by rfl) ?_
            exact J66 true (by first | exact ⟨fun _ => by unfold begBad; omega, fun _ => rfl⟩ | exact ⟨fun z => absurd z (by decide), fun z => by unfold begBad at z; omega⟩) H locs ls hP hD hS (lv_sub hl [0] rfl)
      · skip
        refine lv_aload_n hx hb dX12_isSpoilt_25 rfl (lv_at hl 0 rfl) ?_
        refine va_get (D := D) (ci := 12) (v := .ref hd0) (C := RX12) (T := TX12) (N := 32) hx hb hts inX12_ hown hK hP 0 rfl rfl 11 (by decide) fl36 (fun _ h9 => h9) rfl dX12_isSpoilt_26 ?_
        refine lv_iconst (v := (nI 1)) hx hb dX12_isSpoilt_29 (by decide) ?_
        refine nv_iald hx hb hK hP 1 0 rfl rfl (by omega) (by decide) dX12_isSpoilt_30 ?_
        refine nv_top (y := (nI (bl.getD 1 0))) (oh3 1 (by omega)) ?_
        refine lv_bipush (v := (nI 100)) hx hb dX12_isSpoilt_31 (by decide) ?_
        refine nv_icmp_ne (tgt := 61) hx hb (by omega) (by omega) dX12_isSpoilt_33 (by decide) (fun c33 => ?_) (fun c33 => ?_)
        · skip
          refine lv_iconst (v := (nI 1)) hx hb dX12_isSpoilt_61 (by decide) ?_
          refine lv_goto (tgt := 66) hx hb dX12_isSpoilt_62 (by decide) ?_
          refine W.eq (g2 := F0 m 66 ls [.int (bI (true = true))]) (by rfl) ?_
          exact J66 true (by first | exact ⟨fun _ => by unfold begBad; omega, fun _ => rfl⟩ | exact ⟨fun z => absurd z (by decide), fun z => by unfold begBad at z; omega⟩) H locs ls hP hD hS (lv_sub hl [0] rfl)
        · skip
          refine lv_aload_n hx hb dX12_isSpoilt_36 rfl (lv_at hl 0 rfl) ?_
          refine va_get (D := D) (ci := 12) (v := .int (nI bl.length)) (C := RX12) (T := TX12) (N := 32) hx hb hts inX12_ hown hK hP 0 rfl rfl 12 (by decide) fl84 (fun _ h9 => h9) rfl dX12_isSpoilt_37 ?_
          refine lv_iconst (v := (nI 2)) hx hb dX12_isSpoilt_40 (by decide) ?_
          refine nv_icmp_le (tgt := 65) hx hb (by omega) (by omega) dX12_isSpoilt_41 (by decide) (fun c41 => ?_) (fun c41 => ?_)
          · skip
            refine lv_iconst (v := (nI 0)) hx hb dX12_isSpoilt_65 (by decide) ?_
            refine W.eq (g2 := F0 m 66 ls [.int (bI (false = true))]) (by rfl) ?_
            exact J66 false (by first | exact ⟨fun _ => by unfold begBad; omega, fun _ => rfl⟩ | exact ⟨fun z => absurd z (by decide), fun z => by unfold begBad at z; omega⟩) H locs ls hP hD hS (lv_sub hl [0] rfl)
          · skip
            refine lv_aload_n hx hb dX12_isSpoilt_44 rfl (lv_at hl 0 rfl) ?_
            refine va_get (D := D) (ci := 12) (v := .ref hd0) (C := RX12) (T := TX12) (N := 32) hx hb hts inX12_ hown hK hP 0 rfl rfl 11 (by decide) fl36 (fun _ h9 => h9) rfl dX12_isSpoilt_45 ?_
            refine lv_iconst (v := (nI 2)) hx hb dX12_isSpoilt_48 (by decide) ?_
            refine nv_iald hx hb hK hP 1 0 rfl rfl (by omega) (by decide) dX12_isSpoilt_49 ?_
            refine nv_top (y := (nI (bl.getD 2 0))) (oh3 2 (by omega)) ?_
            refine lv_bipush (v := (nI 6)) hx hb dX12_isSpoilt_50 (by decide) ?_
            refine lv_isub hx hb dX12_isSpoilt_52 ?_
            refine lv_bipush (v := (nI 40)) hx hb dX12_isSpoilt_53 (by decide) ?_
            refine res_i (wW := [(h0, .inr (12, [m_thrown, m_values, m_eventPoint, m_eventValue, m_events, m_told, m_over, m_lost, m_restart, m_outputs, m_time, .ref hd0, .int (nI bl.length), m_begun, m_master, m_part, m_fragment, m_size, m_selected, m_wanted, m_by, m_since, m_confirm, m_answer, m_answerSize, m_signs, m_sent, m_sentCount, m_sum, m_number, m_reply, m_replySize])), (hd0, .inl (cyI, 80, .inl hf))]) (Wc := []) (Wr := [(h0, .inr (12, [m_thrown, m_values, m_eventPoint, m_eventValue, m_events, m_told, m_over, m_lost, m_restart, m_outputs, m_time, .ref hd0, .int (nI bl.length), m_begun, m_master, m_part, m_fragment, m_size, m_selected, m_wanted, m_by, m_since, m_confirm, m_answer, m_answerSize, m_signs, m_sent, m_sentCount, m_sum, m_number, m_reply, m_replySize])), (hd0, .inl (cyI, 80, .inl hf))]) (run_S (QA := fun A => va_Qi _ (bw D _ (tyL cyI cyZ) A) A) (rmC := ({ frames := 0, cells := 0, slots := 0, locals := 0 } : Room)) (mc := 0) (ms := 0) (As := [.int ((nI (bl.getD 2 0)) - (nI 6)), .int (nI 40)]) (rest := []) (wW := [(h0, .inr (12, [m_thrown, m_values, m_eventPoint, m_eventValue, m_events, m_told, m_over, m_lost, m_restart, m_outputs, m_time, .ref hd0, .int (nI bl.length), m_begun, m_master, m_part, m_fragment, m_size, m_selected, m_wanted, m_by, m_since, m_confirm, m_answer, m_answerSize, m_signs, m_sent, m_sentCount, m_sum, m_number, m_reply, m_replySize])), (hd0, .inl (cyI, 80, .inl hf))]) (Wc := []) ⟨hx, hb, hml, hown, hts⟩ (c_X12_out l D cyI cyZ ((nI (bl.getD 2 0)) - (nI 6)) (nI 40) ) (cwS 2 hts gX12_isSpoilt_X12_out rfl rfl rfl (by decide +kernel) ⟨Nat.le_of_ble_eq_true rfl, Nat.le_of_ble_eq_true rfl⟩) hN hK hP hD [] rfl (by decide) rfl hl.1 rfl rfl dX12_isSpoilt_55 ⟨Nat.le_of_ble_eq_true rfl, Nat.le_of_ble_eq_true rfl⟩) hP hD hS hA [] [0, 1] rfl rfl (by decide) (by decide) (fun r55_3 u9 H locs w55 hP hD hS => ?_)
            have w55 : r55_3 = bI (((nI (bl.getD 2 0)) - (nI 6)) < 0 ∨ (nI 40) ≤ ((nI (bl.getD 2 0)) - (nI 6))) := w55
            have hP : va_P D vwCl [(h0, .inr (12, [m_thrown, m_values, m_eventPoint, m_eventValue, m_events, m_told, m_over, m_lost, m_restart, m_outputs, m_time, .ref hd0, .int (nI bl.length), m_begun, m_master, m_part, m_fragment, m_size, m_selected, m_wanted, m_by, m_since, m_confirm, m_answer, m_answerSize, m_signs, m_sent, m_sentCount, m_sum, m_number, m_reply, m_replySize])), (hd0, .inl (cyI, 80, .inl hf))] H := hP
            have hD : va_D A [(h0, .inr (12, [m_thrown, m_values, m_eventPoint, m_eventValue, m_events, m_told, m_over, m_lost, m_restart, m_outputs, m_time, .ref hd0, .int (nI bl.length), m_begun, m_master, m_part, m_fragment, m_size, m_selected, m_wanted, m_by, m_since, m_confirm, m_answer, m_answerSize, m_signs, m_sent, m_sentCount, m_sum, m_number, m_reply, m_replySize])), (hd0, .inl (cyI, 80, .inl hf))] := hD
            refine nv_top (y := (bI (((nI (bl.getD 2 0)) - (nI 6)) < 0 ∨ (nI 40) ≤ ((nI (bl.getD 2 0)) - (nI 6))))) (w55) ?_
            refine nv_top (y := (bI (bl.getD 2 0 < 6 ∨ 45 < bl.getD 2 0))) (bI_congr (out_iff (by omega))) ?_
            refine bv_if_eq (tgt := 65) hx hb dX12_isSpoilt_58 (by decide) (fun c58 => ?_) (fun c58 => ?_)
            · skip
              refine lv_iconst (v := (nI 0)) hx hb dX12_isSpoilt_65 (by decide) ?_
              refine W.eq (g2 := F0 m 66 ls [.int (bI (false = true))]) (by rfl) ?_
              exact J66 false (by first | exact ⟨fun _ => by unfold begBad; omega, fun _ => rfl⟩ | exact ⟨fun z => absurd z (by decide), fun z => by unfold begBad at z; omega⟩) H locs ls hP hD hS (lv_sub hl [0] rfl)
            · skip
              refine lv_iconst (v := (nI 1)) hx hb dX12_isSpoilt_61 (by decide) ?_
              refine lv_goto (tgt := 66) hx hb dX12_isSpoilt_62 (by decide) ?_
              refine W.eq (g2 := F0 m 66 ls [.int (bI (true = true))]) (by rfl) ?_
              exact J66 true (by first | exact ⟨fun _ => by unfold begBad; omega, fun _ => rfl⟩ | exact ⟨fun z => absurd z (by decide), fun z => by unfold begBad at z; omega⟩) H locs ls hP hD hS (lv_sub hl [0] rfl)
