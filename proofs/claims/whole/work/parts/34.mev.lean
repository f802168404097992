/-! OWN ROWS, written by wip/gen (walk.py, spec_n.py) -/
set_option maxHeartbeats 4000000 in
set_option maxRecDepth 100000 in
theorem c_X12_forget (l : Launch) (D : va_G) (cyI cyZ : ClassId) (h0 : Nat) (m_thrown m_values m_over m_lost m_restart m_outputs m_time m_heard m_heardSize m_begun m_master m_part m_fragment m_size m_selected m_wanted m_by m_since m_confirm m_answer m_answerSize m_signs m_sent m_sentCount m_sum m_number m_reply m_replySize : Value) (en0 tk0 ep0 ev0 : Nat) (enf tkf epf evf : Nat → Int32) (k n : Nat) (evs : List (Nat × Int32)) (ans : Nat) (oke : okMev k evs ans enf tkf epf evf) (hk : k < 2) (hn : n ≤ evs.length) : Cv l D yX12_forget wsX12_forget ({ frames := 0, cells := 0, slots := 0, locals := 0 } : Room) [.ref h0, .int (nI k), .int (nI n)] [(h0, .inr (12, [m_thrown, m_values, .ref ep0, .ref ev0, .ref en0, .ref tk0, m_over, m_lost, m_restart, m_outputs, m_time, m_heard, m_heardSize, m_begun, m_master, m_part, m_fragment, m_size, m_selected, m_wanted, m_by, m_since, m_confirm, m_answer, m_answerSize, m_signs, m_sent, m_sentCount, m_sum, m_number, m_reply, m_replySize])), (en0, .inl (cyI, 2, .inl enf)), (tk0, .inl (cyI, 2, .inl tkf)), (ep0, .inl (cyI, 12, .inl epf)), (ev0, .inl (cyI, 12, .inl evf))] (tyL cyI cyZ) (fun u : (Nat → Int32) × (Nat → Int32) × (Nat → Int32) × (Nat → Int32) => match u with | (enf2, tkf2, epf2, evf2) => okMev k (evs.drop n) (ans - n) enf2 tkf2 epf2 evf2 ∧ frM k enf tkf epf evf enf2 tkf2 epf2 evf2) (fun u : (Nat → Int32) × (Nat → Int32) × (Nat → Int32) × (Nat → Int32) => match u with | (enf2, tkf2, epf2, evf2) => [(h0, .inr (12, [m_thrown, m_values, .ref ep0, .ref ev0, .ref en0, .ref tk0, m_over, m_lost, m_restart, m_outputs, m_time, m_heard, m_heardSize, m_begun, m_master, m_part, m_fragment, m_size, m_selected, m_wanted, m_by, m_since, m_confirm, m_answer, m_answerSize, m_signs, m_sent, m_sentCount, m_sum, m_number, m_reply, m_replySize])), (en0, .inl (cyI, 2, .inl enf2)), (tk0, .inl (cyI, 2, .inl tkf2)), (ep0, .inl (cyI, 12, .inl epf2)), (ev0, .inl (cyI, 12, .inl evf2))]) 0 0 := by
  refine mk_Ct (cc := cX12_forget) (maxL := 4) (ret := none) (by decide) rfl rfl ?_
  intro p e s m below meth c A Q ls hx hb hr hts hown hlocks hml hname hA hN hK hP hD hS hQ hl
  have hl : lv_has ls 4 [(0, .ref h0), (1, .int (nI k)), (2, .int (nI n))] := hl
  have inX12_ : ∀ w ∈ u_ws RX12 TX12 32, w ∈ wsX12_forget := fun w h => List.mem_cons_of_mem _ (List.mem_append_right _ h)
  have fl19 : (Cond.fieldLink RX12 19 "OutStationModel" "events" "[I").before ([.ref h0, .int (nI k), .int (nI n)] : List Value).toArray s = true := hts _ (by decide +kernel)
  have fl22 : (Cond.fieldLink RX12 22 "OutStationModel" "told" "[I").before ([.ref h0, .int (nI k), .int (nI n)] : List Value).toArray s = true := hts _ (by decide +kernel)
  have fl13 : (Cond.fieldLink RX12 13 "OutStationModel" "eventPoint" "[I").before ([.ref h0, .int (nI k), .int (nI n)] : List Value).toArray s = true := hts _ (by decide +kernel)
  have fl16 : (Cond.fieldLink RX12 16 "OutStationModel" "eventValue" "[I").before ([.ref h0, .int (nI k), .int (nI n)] : List Value).toArray s = true := hts _ (by decide +kernel)
  have hown : s.vm.findClass RX12 = some m.cls := hown
  obtain ⟨H, eH9⟩ : ∃ H, H = s.heap := ⟨_, rfl⟩
  have hP : va_P D vwCl [(h0, .inr (12, [m_thrown, m_values, .ref ep0, .ref ev0, .ref en0, .ref tk0, m_over, m_lost, m_restart, m_outputs, m_time, m_heard, m_heardSize, m_begun, m_master, m_part, m_fragment, m_size, m_selected, m_wanted, m_by, m_since, m_confirm, m_answer, m_answerSize, m_signs, m_sent, m_sentCount, m_sum, m_number, m_reply, m_replySize])), (en0, .inl (cyI, 2, .inl enf)), (tk0, .inl (cyI, 2, .inl tkf)), (ep0, .inl (cyI, 12, .inl epf)), (ev0, .inl (cyI, 12, .inl evf))] H := by rw [eH9]; exact hP
  have hS : va_S A s.heap H [] := by rw [eH9]; exact hS
  obtain ⟨locs, eL9⟩ : ∃ z : List Loc, z = [] := ⟨_, rfl⟩
  rw [← eH9, ← eL9]
  have hS : va_S A s.heap H locs := by rw [eL9]; exact hS
  obtain ⟨e1, e2, e3, e4, e5, e6⟩ := id oke
  refine lv_iload_n hx hb dX12_forget_0 rfl (lv_at hl 2 rfl) ?_
  refine lv_istore_n (lv' := [(3, .int (nI n)), (0, .ref h0), (1, .int (nI k)), (2, .int (nI n))]) hx hb dX12_forget_1 rfl hl (by decide) rfl (fun ls hl => ?_)
  have L2 : ∀ (n9_2 : Nat) (i : Nat) (epf1 evf1 : Nat → Int32), (n ≤ i) → (i ≤ evs.length) → (∀ j, j < i - n → epf1 (6 * k + j) = epf (6 * k + (n + j)) ∧ evf1 (6 * k + j) = evf (6 * k + (n + j))) → (∀ x, (x < 6 * k ∨ 6 * k + (i - n) ≤ x) → epf1 x = epf x ∧ evf1 x = evf x) → (evs.length - i) < n9_2 → ∀ (H : Heap) (locs : List Loc) (ls : Array Slot), va_P D vwCl [(h0, .inr (12, [m_thrown, m_values, .ref ep0, .ref ev0, .ref en0, .ref tk0, m_over, m_lost, m_restart, m_outputs, m_time, m_heard, m_heardSize, m_begun, m_master, m_part, m_fragment, m_size, m_selected, m_wanted, m_by, m_since, m_confirm, m_answer, m_answerSize, m_signs, m_sent, m_sentCount, m_sum, m_number, m_reply, m_replySize])), (en0, .inl (cyI, 2, .inl enf)), (tk0, .inl (cyI, 2, .inl tkf)), (ep0, .inl (cyI, 12, .inl epf1)), (ev0, .inl (cyI, 12, .inl evf1))] H → va_D A [(h0, .inr (12, [m_thrown, m_values, .ref ep0, .ref ev0, .ref en0, .ref tk0, m_over, m_lost, m_restart, m_outputs, m_time, m_heard, m_heardSize, m_begun, m_master, m_part, m_fragment, m_size, m_selected, m_wanted, m_by, m_since, m_confirm, m_answer, m_answerSize, m_signs, m_sent, m_sentCount, m_sum, m_number, m_reply, m_replySize])), (en0, .inl (cyI, 2, .inl enf)), (tk0, .inl (cyI, 2, .inl tkf)), (ep0, .inl (cyI, 12, .inl epf1)), (ev0, .inl (cyI, 12, .inl evf1))] → va_S A s.heap H locs → lv_has ls 4 [(0, .ref h0), (1, .int (nI k)), (2, .int (nI n)), (3, .int (nI i))] → W p l e ({ frames := 0, cells := 0, slots := 0, locals := 0 } : Room) s m ([.ref h0, .int (nI k), .int (nI n)] : List Value).toArray below meth c H locs 0 0 Q (F0 m 2 ls []) := by
    intro n9_2
    induction n9_2 with
    | zero =>
      intro i epf1 evf1 hi1 hi2 hA1 hA2 hm9
      exact absurd hm9 (Nat.not_lt_zero _)
    | succ n9_2 ih2 =>
      intro i epf1 evf1 hi1 hi2 hA1 hA2 hm9_2 H locs ls hP hD hS hl
      refine lv_iload_n hx hb dX12_forget_2 rfl (lv_at hl 3 rfl) ?_
      refine lv_aload_n hx hb dX12_forget_3 rfl (lv_at hl 0 rfl) ?_
      refine va_get (D := D) (ci := 12) (v := .ref en0) (C := RX12) (T := TX12) (N := 32) hx hb hts inX12_ hown hK hP 0 rfl rfl 4 (by decide) fl19 (fun _ h9 => h9) rfl dX12_forget_4 ?_
      refine lv_iload_n hx hb dX12_forget_7 rfl (lv_at hl 1 rfl) ?_
      refine nv_iald hx hb hK hP 1 0 rfl rfl (by omega) (by decide) dX12_forget_8 ?_
      refine nv_top (y := (nI evs.length)) (e3) ?_
      refine nv_icmp_ge (tgt := 66) hx hb (by omega) (by omega) dX12_forget_9 (by decide) (fun c9 => ?_) (fun c9 => ?_)
      · skip
        refine lv_aload_n hx hb dX12_forget_66 rfl (lv_at hl 0 rfl) ?_
        refine va_get (D := D) (ci := 12) (v := .ref en0) (C := RX12) (T := TX12) (N := 32) hx hb hts inX12_ hown hK hP 0 rfl rfl 4 (by decide) fl19 (fun _ h9 => h9) rfl dX12_forget_67 ?_
        refine lv_iload_n hx hb dX12_forget_70 rfl (lv_at hl 1 rfl) ?_
        refine lv_aload_n hx hb dX12_forget_71 rfl (lv_at hl 0 rfl) ?_
        refine va_get (D := D) (ci := 12) (v := .ref en0) (C := RX12) (T := TX12) (N := 32) hx hb hts inX12_ hown hK hP 0 rfl rfl 4 (by decide) fl19 (fun _ h9 => h9) rfl dX12_forget_72 ?_
        refine lv_iload_n hx hb dX12_forget_75 rfl (lv_at hl 1 rfl) ?_
        refine nv_iald hx hb hK hP 1 0 rfl rfl (by omega) (by decide) dX12_forget_76 ?_
        refine nv_top (y := (nI evs.length)) (e3) ?_
        refine lv_iload_n hx hb dX12_forget_77 rfl (lv_at hl 2 rfl) ?_
        refine nv_isub hx hb (by omega) dX12_forget_78 ?_
        refine nv_iast hx hb hK hP hD hS 1 0 rfl rfl (by omega) (by decide) dX12_forget_79 (fun H locs hP hD hS => ?_)
        have hP : va_P D vwCl [(h0, .inr (12, [m_thrown, m_values, .ref ep0, .ref ev0, .ref en0, .ref tk0, m_over, m_lost, m_restart, m_outputs, m_time, m_heard, m_heardSize, m_begun, m_master, m_part, m_fragment, m_size, m_selected, m_wanted, m_by, m_since, m_confirm, m_answer, m_answerSize, m_signs, m_sent, m_sentCount, m_sum, m_number, m_reply, m_replySize])), (en0, .inl (cyI, 2, .inl (upd enf k (nI (evs.length - n))))), (tk0, .inl (cyI, 2, .inl tkf)), (ep0, .inl (cyI, 12, .inl epf1)), (ev0, .inl (cyI, 12, .inl evf1))] H := hP
        have hD : va_D A [(h0, .inr (12, [m_thrown, m_values, .ref ep0, .ref ev0, .ref en0, .ref tk0, m_over, m_lost, m_restart, m_outputs, m_time, m_heard, m_heardSize, m_begun, m_master, m_part, m_fragment, m_size, m_selected, m_wanted, m_by, m_since, m_confirm, m_answer, m_answerSize, m_signs, m_sent, m_sentCount, m_sum, m_number, m_reply, m_replySize])), (en0, .inl (cyI, 2, .inl (upd enf k (nI (evs.length - n))))), (tk0, .inl (cyI, 2, .inl tkf)), (ep0, .inl (cyI, 12, .inl epf1)), (ev0, .inl (cyI, 12, .inl evf1))] := hD
        refine lv_aload_n hx hb dX12_forget_80 rfl (lv_at hl 0 rfl) ?_
        refine va_get (D := D) (ci := 12) (v := .ref tk0) (C := RX12) (T := TX12) (N := 32) hx hb hts inX12_ hown hK hP 0 rfl rfl 5 (by decide) fl22 (fun _ h9 => h9) rfl dX12_forget_81 ?_
        refine lv_iload_n hx hb dX12_forget_84 rfl (lv_at hl 1 rfl) ?_
        refine lv_aload_n hx hb dX12_forget_85 rfl (lv_at hl 0 rfl) ?_
        refine va_get (D := D) (ci := 12) (v := .ref tk0) (C := RX12) (T := TX12) (N := 32) hx hb hts inX12_ hown hK hP 0 rfl rfl 5 (by decide) fl22 (fun _ h9 => h9) rfl dX12_forget_86 ?_
        refine lv_iload_n hx hb dX12_forget_89 rfl (lv_at hl 1 rfl) ?_
        refine nv_iald hx hb hK hP 2 0 rfl rfl (by omega) (by decide) dX12_forget_90 ?_
        refine nv_top (y := (nI ans)) (e4) ?_
        refine lv_iload_n hx hb dX12_forget_91 rfl (lv_at hl 2 rfl) ?_
        refine nv_icmp_le (tgt := 106) hx hb (by omega) (by omega) dX12_forget_92 (by decide) (fun c92 => ?_) (fun c92 => ?_)
        · skip
          refine lv_iconst (v := (nI 0)) hx hb dX12_forget_106 (by decide) ?_
          refine nv_iast hx hb hK hP hD hS 2 0 rfl rfl (by omega) (by decide) dX12_forget_107 (fun H locs hP hD hS => ?_)
          have hP : va_P D vwCl [(h0, .inr (12, [m_thrown, m_values, .ref ep0, .ref ev0, .ref en0, .ref tk0, m_over, m_lost, m_restart, m_outputs, m_time, m_heard, m_heardSize, m_begun, m_master, m_part, m_fragment, m_size, m_selected, m_wanted, m_by, m_since, m_confirm, m_answer, m_answerSize, m_signs, m_sent, m_sentCount, m_sum, m_number, m_reply, m_replySize])), (en0, .inl (cyI, 2, .inl (upd enf k (nI (evs.length - n))))), (tk0, .inl (cyI, 2, .inl (upd tkf k (nI 0)))), (ep0, .inl (cyI, 12, .inl epf1)), (ev0, .inl (cyI, 12, .inl evf1))] H := hP
          have hD : va_D A [(h0, .inr (12, [m_thrown, m_values, .ref ep0, .ref ev0, .ref en0, .ref tk0, m_over, m_lost, m_restart, m_outputs, m_time, m_heard, m_heardSize, m_begun, m_master, m_part, m_fragment, m_size, m_selected, m_wanted, m_by, m_since, m_confirm, m_answer, m_answerSize, m_signs, m_sent, m_sentCount, m_sum, m_number, m_reply, m_replySize])), (en0, .inl (cyI, 2, .inl (upd enf k (nI (evs.length - n))))), (tk0, .inl (cyI, 2, .inl (upd tkf k (nI 0)))), (ep0, .inl (cyI, 12, .inl epf1)), (ev0, .inl (cyI, 12, .inl evf1))] := hD
          exact ret_v hQ hx hb hr hlocks dX12_forget_108 hK hS (upd enf k (nI (evs.length - n)), upd tkf k (nI 0), epf1, evf1) (fg_end oke hk hn (show i = evs.length by omega) hA1 hA2 (by omega)) hP hD
        · skip
          refine lv_aload_n hx hb dX12_forget_95 rfl (lv_at hl 0 rfl) ?_
          refine va_get (D := D) (ci := 12) (v := .ref tk0) (C := RX12) (T := TX12) (N := 32) hx hb hts inX12_ hown hK hP 0 rfl rfl 5 (by decide) fl22 (fun _ h9 => h9) rfl dX12_forget_96 ?_
          refine lv_iload_n hx hb dX12_forget_99 rfl (lv_at hl 1 rfl) ?_
          refine nv_iald hx hb hK hP 2 0 rfl rfl (by omega) (by decide) dX12_forget_100 ?_
          refine nv_top (y := (nI ans)) (e4) ?_
          refine lv_iload_n hx hb dX12_forget_101 rfl (lv_at hl 2 rfl) ?_
          refine nv_isub hx hb (by omega) dX12_forget_102 ?_
          refine lv_goto (tgt := 107) hx hb dX12_forget_103 (by decide) ?_
          refine nv_iast hx hb hK hP hD hS 2 0 rfl rfl (by omega) (by decide) dX12_forget_107 (fun H locs hP hD hS => ?_)
          have hP : va_P D vwCl [(h0, .inr (12, [m_thrown, m_values, .ref ep0, .ref ev0, .ref en0, .ref tk0, m_over, m_lost, m_restart, m_outputs, m_time, m_heard, m_heardSize, m_begun, m_master, m_part, m_fragment, m_size, m_selected, m_wanted, m_by, m_since, m_confirm, m_answer, m_answerSize, m_signs, m_sent, m_sentCount, m_sum, m_number, m_reply, m_replySize])), (en0, .inl (cyI, 2, .inl (upd enf k (nI (evs.length - n))))), (tk0, .inl (cyI, 2, .inl (upd tkf k (nI (ans - n))))), (ep0, .inl (cyI, 12, .inl epf1)), (ev0, .inl (cyI, 12, .inl evf1))] H := hP
          have hD : va_D A [(h0, .inr (12, [m_thrown, m_values, .ref ep0, .ref ev0, .ref en0, .ref tk0, m_over, m_lost, m_restart, m_outputs, m_time, m_heard, m_heardSize, m_begun, m_master, m_part, m_fragment, m_size, m_selected, m_wanted, m_by, m_since, m_confirm, m_answer, m_answerSize, m_signs, m_sent, m_sentCount, m_sum, m_number, m_reply, m_replySize])), (en0, .inl (cyI, 2, .inl (upd enf k (nI (evs.length - n))))), (tk0, .inl (cyI, 2, .inl (upd tkf k (nI (ans - n))))), (ep0, .inl (cyI, 12, .inl epf1)), (ev0, .inl (cyI, 12, .inl evf1))] := hD
          exact ret_v hQ hx hb hr hlocks dX12_forget_108 hK hS (upd enf k (nI (evs.length - n)), upd tkf k (nI (ans - n)), epf1, evf1) (fg_end oke hk hn (show i = evs.length by omega) hA1 hA2 (by omega)) hP hD
      · skip
        refine lv_aload_n hx hb dX12_forget_12 rfl (lv_at hl 0 rfl) ?_
        refine va_get (D := D) (ci := 12) (v := .ref ep0) (C := RX12) (T := TX12) (N := 32) hx hb hts inX12_ hown hK hP 0 rfl rfl 2 (by decide) fl13 (fun _ h9 => h9) rfl dX12_forget_13 ?_
        refine lv_bipush (v := (nI 6)) hx hb dX12_forget_16 (by decide) ?_
        refine lv_iload_n hx hb dX12_forget_18 rfl (lv_at hl 1 rfl) ?_
        refine nv_imul hx hb dX12_forget_19 ?_
        refine lv_iload_n hx hb dX12_forget_20 rfl (lv_at hl 3 rfl) ?_
        refine nv_iadd hx hb dX12_forget_21 ?_
        refine lv_iload_n hx hb dX12_forget_22 rfl (lv_at hl 2 rfl) ?_
        refine nv_isub hx hb (by omega) dX12_forget_23 ?_
        refine lv_aload_n hx hb dX12_forget_24 rfl (lv_at hl 0 rfl) ?_
        refine va_get (D := D) (ci := 12) (v := .ref ep0) (C := RX12) (T := TX12) (N := 32) hx hb hts inX12_ hown hK hP 0 rfl rfl 2 (by decide) fl13 (fun _ h9 => h9) rfl dX12_forget_25 ?_
        refine lv_bipush (v := (nI 6)) hx hb dX12_forget_28 (by decide) ?_
        refine lv_iload_n hx hb dX12_forget_30 rfl (lv_at hl 1 rfl) ?_
        refine nv_imul hx hb dX12_forget_31 ?_
        refine lv_iload_n hx hb dX12_forget_32 rfl (lv_at hl 3 rfl) ?_
        refine nv_iadd hx hb dX12_forget_33 ?_
        refine nv_iald hx hb hK hP 3 0 rfl rfl (by omega) (by decide) dX12_forget_34 ?_
        refine nv_iast hx hb hK hP hD hS 3 0 rfl rfl (by omega) (by decide) dX12_forget_35 (fun H locs hP hD hS => ?_)
        have hP : va_P D vwCl [(h0, .inr (12, [m_thrown, m_values, .ref ep0, .ref ev0, .ref en0, .ref tk0, m_over, m_lost, m_restart, m_outputs, m_time, m_heard, m_heardSize, m_begun, m_master, m_part, m_fragment, m_size, m_selected, m_wanted, m_by, m_since, m_confirm, m_answer, m_answerSize, m_signs, m_sent, m_sentCount, m_sum, m_number, m_reply, m_replySize])), (en0, .inl (cyI, 2, .inl enf)), (tk0, .inl (cyI, 2, .inl tkf)), (ep0, .inl (cyI, 12, .inl (upd epf1 (((6 * k) + i) - n) (epf1 ((6 * k) + i))))), (ev0, .inl (cyI, 12, .inl evf1))] H := hP
        have hD : va_D A [(h0, .inr (12, [m_thrown, m_values, .ref ep0, .ref ev0, .ref en0, .ref tk0, m_over, m_lost, m_restart, m_outputs, m_time, m_heard, m_heardSize, m_begun, m_master, m_part, m_fragment, m_size, m_selected, m_wanted, m_by, m_since, m_confirm, m_answer, m_answerSize, m_signs, m_sent, m_sentCount, m_sum, m_number, m_reply, m_replySize])), (en0, .inl (cyI, 2, .inl enf)), (tk0, .inl (cyI, 2, .inl tkf)), (ep0, .inl (cyI, 12, .inl (upd epf1 (((6 * k) + i) - n) (epf1 ((6 * k) + i))))), (ev0, .inl (cyI, 12, .inl evf1))] := hD
        refine lv_aload_n hx hb dX12_forget_36 rfl (lv_at hl 0 rfl) ?_
        refine va_get (D := D) (ci := 12) (v := .ref ev0) (C := RX12) (T := TX12) (N := 32) hx hb hts inX12_ hown hK hP 0 rfl rfl 3 (by decide) fl16 (fun _ h9 => h9) rfl dX12_forget_37 ?_
        refine lv_bipush (v := (nI 6)) hx hb dX12_forget_40 (by decide) ?_
        refine lv_iload_n hx hb dX12_forget_42 rfl (lv_at hl 1 rfl) ?_
        refine nv_imul hx hb dX12_forget_43 ?_
        refine lv_iload_n hx hb dX12_forget_44 rfl (lv_at hl 3 rfl) ?_
        refine nv_iadd hx hb dX12_forget_45 ?_
        refine lv_iload_n hx hb dX12_forget_46 rfl (lv_at hl 2 rfl) ?_
        refine nv_isub hx hb (by omega) dX12_forget_47 ?_
        refine lv_aload_n hx hb dX12_forget_48 rfl (lv_at hl 0 rfl) ?_
        refine va_get (D := D) (ci := 12) (v := .ref ev0) (C := RX12) (T := TX12) (N := 32) hx hb hts inX12_ hown hK hP 0 rfl rfl 3 (by decide) fl16 (fun _ h9 => h9) rfl dX12_forget_49 ?_
        refine lv_bipush (v := (nI 6)) hx hb dX12_forget_52 (by decide) ?_
        refine lv_iload_n hx hb dX12_forget_54 rfl (lv_at hl 1 rfl) ?_
        refine nv_imul hx hb dX12_forget_55 ?_
        refine lv_iload_n hx hb dX12_forget_56 rfl (lv_at hl 3 rfl) ?_
        refine nv_iadd hx hb dX12_forget_57 ?_
        refine nv_iald hx hb hK hP 4 0 rfl rfl (by omega) (by decide) dX12_forget_58 ?_
        refine nv_iast hx hb hK hP hD hS 4 0 rfl rfl (by omega) (by decide) dX12_forget_59 (fun H locs hP hD hS => ?_)
        have hP : va_P D vwCl [(h0, .inr (12, [m_thrown, m_values, .ref ep0, .ref ev0, .ref en0, .ref tk0, m_over, m_lost, m_restart, m_outputs, m_time, m_heard, m_heardSize, m_begun, m_master, m_part, m_fragment, m_size, m_selected, m_wanted, m_by, m_since, m_confirm, m_answer, m_answerSize, m_signs, m_sent, m_sentCount, m_sum, m_number, m_reply, m_replySize])), (en0, .inl (cyI, 2, .inl enf)), (tk0, .inl (cyI, 2, .inl tkf)), (ep0, .inl (cyI, 12, .inl (upd epf1 (((6 * k) + i) - n) (epf1 ((6 * k) + i))))), (ev0, .inl (cyI, 12, .inl (upd evf1 (((6 * k) + i) - n) (evf1 ((6 * k) + i)))))] H := hP
        have hD : va_D A [(h0, .inr (12, [m_thrown, m_values, .ref ep0, .ref ev0, .ref en0, .ref tk0, m_over, m_lost, m_restart, m_outputs, m_time, m_heard, m_heardSize, m_begun, m_master, m_part, m_fragment, m_size, m_selected, m_wanted, m_by, m_since, m_confirm, m_answer, m_answerSize, m_signs, m_sent, m_sentCount, m_sum, m_number, m_reply, m_replySize])), (en0, .inl (cyI, 2, .inl enf)), (tk0, .inl (cyI, 2, .inl tkf)), (ep0, .inl (cyI, 12, .inl (upd epf1 (((6 * k) + i) - n) (epf1 ((6 * k) + i))))), (ev0, .inl (cyI, 12, .inl (upd evf1 (((6 * k) + i) - n) (evf1 ((6 * k) + i)))))] := hD
        refine lv_iinc (v := (nI (i + 1))) (lv' := [(3, .int (nI (i + 1))), (0, .ref h0), (1, .int (nI k)), (2, .int (nI n))]) hx hb dX12_forget_60 hl (k := 3) rfl (nI_add _ _) (by decide) rfl (fun ls hl => ?_)
        refine lv_goto (tgt := 2) hx hb dX12_forget_63 (by decide) ?_
        exact ih2 (i + 1) (upd epf1 (((6 * k) + i) - n) (epf1 ((6 * k) + i))) (upd evf1 (((6 * k) + i) - n) (evf1 ((6 * k) + i))) (by omega) (by omega) (fg_1 hi1 hA1 hA2) (fg_2 hi1 hA2) (by omega) H locs ls hP hD hS (lv_sub hl [1, 2, 3, 0] rfl)
  exact L2 _ n epf evf (by omega) (by omega) (fun j hj => by omega) (fun x _ => ⟨rfl, rfl⟩) (Nat.lt_succ_self _) H locs ls hP hD hS (lv_sub hl [1, 2, 3, 0] rfl)
