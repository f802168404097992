/-! OWN ROWS, written by wip/gen (walk.py, spec_n.py) -/
set_option maxHeartbeats 4000000 in
set_option maxRecDepth 100000 in
theorem c_X12_read (l : Launch) (D : va_G) (cyI cyZ : ClassId) (h0 : Nat) (m_thrown m_over m_lost m_restart m_outputs m_time m_heard m_heardSize m_begun m_master m_part m_selected m_wanted m_by m_since m_confirm m_sent m_sentCount m_sum m_number m_reply m_replySize : Value) (an0 : Nat) (an : List Nat) (anf : Nat → Int32) (va0 : Nat) (mv : Nat → Int32) (en0 tk0 ep0 ev0 : Nat) (enf tkf epf evf : Nat → Int32) (fr0 : Nat) (rq : List Nat) (rqf : Nat → Int32) (fb fa : Nat → Int32) (evb eva : List (Nat × Int32)) (anb ana : Nat) (okq : okB 60 rq rqf) (oka : okB 80 an anf) (h62 : an.length ≤ 62) (hmv : mvR fb fa mv) (okb : okMev 0 evb anb enf tkf epf evf) (oka2 : okMev 1 eva ana enf tkf epf evf) : Cv l D yX12_read wsX12_read ({ frames := 4, cells := 0, slots := 0, locals := 140 } : Room) [.ref h0] [(h0, .inr (12, [m_thrown, .ref va0, .ref ep0, .ref ev0, .ref en0, .ref tk0, m_over, m_lost, m_restart, m_outputs, m_time, m_heard, m_heardSize, m_begun, m_master, m_part, .ref fr0, .int (nI rq.length), m_selected, m_wanted, m_by, m_since, m_confirm, .ref an0, .int (nI an.length), .int (nI 0), m_sent, m_sentCount, m_sum, m_number, m_reply, m_replySize])), (an0, .inl (cyI, 80, .inl anf)), (va0, .inl (cyI, 16, .inl mv)), (en0, .inl (cyI, 2, .inl enf)), (tk0, .inl (cyI, 2, .inl tkf)), (ep0, .inl (cyI, 12, .inl epf)), (ev0, .inl (cyI, 12, .inl evf)), (fr0, .inl (cyI, 80, .inl rqf))] (tyL cyI cyZ) (fun u : Nat × List Nat × (Nat → Int32) × (Nat → Int32) × Nat × Nat => match u with | (sg2, an2, anf2, tkf2, anb2, ana2) => (sg2, an2, anb2, ana2) = rdA fb fa evb eva rq 60 2 (an, anb, ana) ∧ okB 80 an2 anf2 ∧ an2.length ≤ 62 ∧ okMev 0 evb anb2 enf tkf2 epf evf ∧ okMev 1 eva ana2 enf tkf2 epf evf) (fun u : Nat × List Nat × (Nat → Int32) × (Nat → Int32) × Nat × Nat => match u with | (sg2, an2, anf2, tkf2, anb2, ana2) => [(h0, .inr (12, [m_thrown, .ref va0, .ref ep0, .ref ev0, .ref en0, .ref tk0, m_over, m_lost, m_restart, m_outputs, m_time, m_heard, m_heardSize, m_begun, m_master, m_part, .ref fr0, .int (nI rq.length), m_selected, m_wanted, m_by, m_since, m_confirm, .ref an0, .int (nI an2.length), .int (nI sg2), m_sent, m_sentCount, m_sum, m_number, m_reply, m_replySize])), (an0, .inl (cyI, 80, .inl anf2)), (va0, .inl (cyI, 16, .inl mv)), (en0, .inl (cyI, 2, .inl enf)), (tk0, .inl (cyI, 2, .inl tkf2)), (ep0, .inl (cyI, 12, .inl epf)), (ev0, .inl (cyI, 12, .inl evf)), (fr0, .inl (cyI, 80, .inl rqf))]) 0 0 := by
  refine mk_Ct (cc := cX12_read) (maxL := 8) (ret := none) (by decide) rfl rfl ?_
  intro p e s m below meth c A Q ls hx hb hr hts hown hlocks hml hname hA hN hK hP hD hS hQ hl
  have hl : lv_has ls 8 [(0, .ref h0)] := hl
  have inX12_ : ∀ w ∈ u_ws RX12 TX12 32, w ∈ wsX12_read := fun w h => List.mem_cons_of_mem _ (List.mem_append_right _ h)
  have fl114 : (Cond.fieldLink RX12 114 "OutStationModel" "size" "I").before ([.ref h0] : List Value).toArray s = true := hts _ (by decide +kernel)
  have fl129 : (Cond.fieldLink RX12 129 "OutStationModel" "signs" "I").before ([.ref h0] : List Value).toArray s = true := hts _ (by decide +kernel)
  have fl39 : (Cond.fieldLink RX12 39 "OutStationModel" "fragment" "[I").before ([.ref h0] : List Value).toArray s = true := hts _ (by decide +kernel)
  have hown : s.vm.findClass RX12 = some m.cls := hown
  obtain ⟨H, eH9⟩ : ∃ H, H = s.heap := ⟨_, rfl⟩
  have hP : va_P D vwCl [(h0, .inr (12, [m_thrown, .ref va0, .ref ep0, .ref ev0, .ref en0, .ref tk0, m_over, m_lost, m_restart, m_outputs, m_time, m_heard, m_heardSize, m_begun, m_master, m_part, .ref fr0, .int (nI rq.length), m_selected, m_wanted, m_by, m_since, m_confirm, .ref an0, .int (nI an.length), .int (nI 0), m_sent, m_sentCount, m_sum, m_number, m_reply, m_replySize])), (an0, .inl (cyI, 80, .inl anf)), (va0, .inl (cyI, 16, .inl mv)), (en0, .inl (cyI, 2, .inl enf)), (tk0, .inl (cyI, 2, .inl tkf)), (ep0, .inl (cyI, 12, .inl epf)), (ev0, .inl (cyI, 12, .inl evf)), (fr0, .inl (cyI, 80, .inl rqf))] H := by rw [eH9]; exact hP
  have hS : va_S A s.heap H [] := by rw [eH9]; exact hS
  obtain ⟨locs, eL9⟩ : ∃ z : List Loc, z = [] := ⟨_, rfl⟩
  rw [← eH9, ← eL9]
  have hS : va_S A s.heap H locs := by rw [eL9]; exact hS
  obtain ⟨oa1, oa2, oa3, oa4⟩ := id oka
  obtain ⟨oq1, oq2, oq3, oq4⟩ := id okq
  refine lv_iconst (v := (nI 2)) hx hb dX12_read_0 (by decide) ?_
  refine lv_istore_n (lv' := [(1, .int (nI 2)), (0, .ref h0)]) hx hb dX12_read_1 rfl hl (by decide) rfl (fun ls hl => ?_)
  have L2 : ∀ (n9_2 : Nat) (a0 hc sg1 : Nat) (an1l : List Nat) (anf1 tkf1 : Nat → Int32) (anb1 ana1 : Nat), (2 + 3 * hc ≤ a0) → (a0 ≤ 62) → (sg1 ≤ 4) → (rdF fb fa evb eva rq sg1 (60 - hc) a0 (an1l, anb1, ana1) = rdA fb fa evb eva rq 60 2 (an, anb, ana)) → (okB 80 an1l anf1) → (an1l.length ≤ 62) → (okMev 0 evb anb1 enf tkf1 epf evf) → (okMev 1 eva ana1 enf tkf1 epf evf) → (63 - a0) < n9_2 → ∀ (H : Heap) (locs : List Loc) (ls : Array Slot), va_P D vwCl [(h0, .inr (12, [m_thrown, .ref va0, .ref ep0, .ref ev0, .ref en0, .ref tk0, m_over, m_lost, m_restart, m_outputs, m_time, m_heard, m_heardSize, m_begun, m_master, m_part, .ref fr0, .int (nI rq.length), m_selected, m_wanted, m_by, m_since, m_confirm, .ref an0, .int (nI an1l.length), .int (nI sg1), m_sent, m_sentCount, m_sum, m_number, m_reply, m_replySize])), (an0, .inl (cyI, 80, .inl anf1)), (va0, .inl (cyI, 16, .inl mv)), (en0, .inl (cyI, 2, .inl enf)), (tk0, .inl (cyI, 2, .inl tkf1)), (ep0, .inl (cyI, 12, .inl epf)), (ev0, .inl (cyI, 12, .inl evf)), (fr0, .inl (cyI, 80, .inl rqf))] H → va_D A [(h0, .inr (12, [m_thrown, .ref va0, .ref ep0, .ref ev0, .ref en0, .ref tk0, m_over, m_lost, m_restart, m_outputs, m_time, m_heard, m_heardSize, m_begun, m_master, m_part, .ref fr0, .int (nI rq.length), m_selected, m_wanted, m_by, m_since, m_confirm, .ref an0, .int (nI an1l.length), .int (nI sg1), m_sent, m_sentCount, m_sum, m_number, m_reply, m_replySize])), (an0, .inl (cyI, 80, .inl anf1)), (va0, .inl (cyI, 16, .inl mv)), (en0, .inl (cyI, 2, .inl enf)), (tk0, .inl (cyI, 2, .inl tkf1)), (ep0, .inl (cyI, 12, .inl epf)), (ev0, .inl (cyI, 12, .inl evf)), (fr0, .inl (cyI, 80, .inl rqf))] → va_S A s.heap H locs → lv_has ls 8 [(0, .ref h0), (1, .int (nI a0))] → W p l e ({ frames := 4, cells := 0, slots := 0, locals := 140 } : Room) s m ([.ref h0] : List Value).toArray below meth c H locs 0 0 Q (F0 m 2 ls []) := by
    intro n9_2
    induction n9_2 with
    | zero =>
      intro a0 hc sg1 an1l anf1 tkf1 anb1 ana1 hhc ha0 hsg hrd okl hl62 okb1 oka1 hm9
      exact absurd hm9 (Nat.not_lt_zero _)
    | succ n9_2 ih2 =>
      intro a0 hc sg1 an1l anf1 tkf1 anb1 ana1 hhc ha0 hsg hrd okl hl62 okb1 oka1 hm9_2 H locs ls hP hD hS hl
      refine lv_iload_n hx hb dX12_read_2 rfl (lv_at hl 1 rfl) ?_
      refine lv_aload_n hx hb dX12_read_3 rfl (lv_at hl 0 rfl) ?_
      refine va_get (D := D) (ci := 12) (v := .int (nI rq.length)) (C := RX12) (T := TX12) (N := 32) hx hb hts inX12_ hown hK hP 0 rfl rfl 17 (by decide) fl114 (fun _ h9 => h9) rfl dX12_read_4 ?_
      refine nv_icmp_ge (tgt := 271) hx hb (by omega) (by omega) dX12_read_7 (by decide) (fun c7 => ?_) (fun c7 => ?_)
      · skip
        exact ret_v hQ hx hb hr hlocks dX12_read_271 hK hS (sg1, an1l, anf1, tkf1, anb1, ana1) (⟨by rw [← hrd, rdF_e (by omega)], okl, hl62, okb1, oka1⟩) hP hD
      · skip
        refine lv_aload_n hx hb dX12_read_10 rfl (lv_at hl 0 rfl) ?_
        refine va_get (D := D) (ci := 12) (v := .int (nI sg1)) (C := RX12) (T := TX12) (N := 32) hx hb hts inX12_ hown hK hP 0 rfl rfl 25 (by decide) fl129 (fun _ h9 => h9) rfl dX12_read_11 ?_
        refine nv_if_ne (tgt := 271) hx hb (by omega) dX12_read_14 (by decide) (fun c14 => ?_) (fun c14 => ?_)
        · skip
          exact ret_v hQ hx hb hr hlocks dX12_read_271 hK hS (sg1, an1l, anf1, tkf1, anb1, ana1) (⟨by rw [← hrd, rdF_e (by omega)], okl, hl62, okb1, oka1⟩) hP hD
        · skip
          obtain rfl : sg1 = 0 := by omega
          · skip
            refine lv_iload_n hx hb dX12_read_17 rfl (lv_at hl 1 rfl) ?_
            refine lv_iconst (v := (nI 3)) hx hb dX12_read_18 (by decide) ?_
            refine nv_iadd hx hb dX12_read_19 ?_
            refine lv_aload_n hx hb dX12_read_20 rfl (lv_at hl 0 rfl) ?_
            refine va_get (D := D) (ci := 12) (v := .int (nI rq.length)) (C := RX12) (T := TX12) (N := 32) hx hb hts inX12_ hown hK hP 0 rfl rfl 17 (by decide) fl114 (fun _ h9 => h9) rfl dX12_read_21 ?_
            refine nv_icmp_le (tgt := 33) hx hb (by omega) (by omega) dX12_read_24 (by decide) (fun c24 => ?_) (fun c24 => ?_)
            · skip
              have g1 := oq4 a0
              have g2 := oq4 (a0 + 1)
              have g3 := oq4 (a0 + 2)
              have g4 := oq4 (a0 + 3)
              have g5 := oq4 (a0 + 4)
              have hbl := bbL_le (rq.getD (a0 + 2) 0)
              have ha3 : a0 + 3 ≤ rq.length := by omega
              refine lv_aload_n hx hb dX12_read_33 rfl (lv_at hl 0 rfl) ?_
              refine va_get (D := D) (ci := 12) (v := .ref fr0) (C := RX12) (T := TX12) (N := 32) hx hb hts inX12_ hown hK hP 0 rfl rfl 16 (by decide) fl39 (fun _ h9 => h9) rfl dX12_read_34 ?_
              refine lv_iload_n hx hb dX12_read_37 rfl (lv_at hl 1 rfl) ?_
              refine nv_iald hx hb hK hP 7 0 rfl rfl (by omega) (by decide) dX12_read_38 ?_
              refine nv_top (y := (nI (rq.getD a0 0))) (oq3 _ (by omega)) ?_
              refine lv_istore_n (lv' := [(2, .int (nI (rq.getD a0 0))), (0, .ref h0), (1, .int (nI a0))]) hx hb dX12_read_39 rfl hl (by decide) rfl (fun ls hl => ?_)
              refine lv_aload_n hx hb dX12_read_40 rfl (lv_at hl 1 rfl) ?_
              refine va_get (D := D) (ci := 12) (v := .ref fr0) (C := RX12) (T := TX12) (N := 32) hx hb hts inX12_ hown hK hP 0 rfl rfl 16 (by decide) fl39 (fun _ h9 => h9) rfl dX12_read_41 ?_
              refine lv_iload_n hx hb dX12_read_44 rfl (lv_at hl 2 rfl) ?_
              refine lv_iconst (v := (nI 1)) hx hb dX12_read_45 (by decide) ?_
              refine nv_iadd hx hb dX12_read_46 ?_
              refine nv_iald hx hb hK hP 7 0 rfl rfl (by omega) (by decide) dX12_read_47 ?_
              refine nv_top (y := (nI (rq.getD (a0 + 1) 0))) (oq3 _ (by omega)) ?_
              refine lv_istore_n (lv' := [(3, .int (nI (rq.getD (a0 + 1) 0))), (2, .int (nI (rq.getD a0 0))), (0, .ref h0), (1, .int (nI a0))]) hx hb dX12_read_48 rfl hl (by decide) rfl (fun ls hl => ?_)
              refine lv_aload_n hx hb dX12_read_49 rfl (lv_at hl 2 rfl) ?_
              refine va_get (D := D) (ci := 12) (v := .ref fr0) (C := RX12) (T := TX12) (N := 32) hx hb hts inX12_ hown hK hP 0 rfl rfl 16 (by decide) fl39 (fun _ h9 => h9) rfl dX12_read_50 ?_
              refine lv_iload_n hx hb dX12_read_53 rfl (lv_at hl 3 rfl) ?_
              refine lv_iconst (v := (nI 2)) hx hb dX12_read_54 (by decide) ?_
              refine nv_iadd hx hb dX12_read_55 ?_
              refine nv_iald hx hb hK hP 7 0 rfl rfl (by omega) (by decide) dX12_read_56 ?_
              refine nv_top (y := (nI (rq.getD (a0 + 2) 0))) (oq3 _ (by omega)) ?_
              refine lv_istore (lv' := [(4, .int (nI (rq.getD (a0 + 2) 0))), (3, .int (nI (rq.getD (a0 + 1) 0))), (2, .int (nI (rq.getD a0 0))), (0, .ref h0), (1, .int (nI a0))]) hx hb dX12_read_57 hl (by decide) rfl (fun ls hl => ?_)
              have J85 : ∀ (pt : Bool), (pt = true ↔ ((rq.getD a0 0 = 1 ∧ rq.getD (a0 + 1) 0 = 2) ∨ (rq.getD a0 0 = 30 ∧ rq.getD (a0 + 1) 0 = 1))) → ∀ (H : Heap) (locs : List Loc) (ls : Array Slot), va_P D vwCl [(h0, .inr (12, [m_thrown, .ref va0, .ref ep0, .ref ev0, .ref en0, .ref tk0, m_over, m_lost, m_restart, m_outputs, m_time, m_heard, m_heardSize, m_begun, m_master, m_part, .ref fr0, .int (nI rq.length), m_selected, m_wanted, m_by, m_since, m_confirm, .ref an0, .int (nI an1l.length), .int (nI 0), m_sent, m_sentCount, m_sum, m_number, m_reply, m_replySize])), (an0, .inl (cyI, 80, .inl anf1)), (va0, .inl (cyI, 16, .inl mv)), (en0, .inl (cyI, 2, .inl enf)), (tk0, .inl (cyI, 2, .inl tkf1)), (ep0, .inl (cyI, 12, .inl epf)), (ev0, .inl (cyI, 12, .inl evf)), (fr0, .inl (cyI, 80, .inl rqf))] H → va_D A [(h0, .inr (12, [m_thrown, .ref va0, .ref ep0, .ref ev0, .ref en0, .ref tk0, m_over, m_lost, m_restart, m_outputs, m_time, m_heard, m_heardSize, m_begun, m_master, m_part, .ref fr0, .int (nI rq.length), m_selected, m_wanted, m_by, m_since, m_confirm, .ref an0, .int (nI an1l.length), .int (nI 0), m_sent, m_sentCount, m_sum, m_number, m_reply, m_replySize])), (an0, .inl (cyI, 80, .inl anf1)), (va0, .inl (cyI, 16, .inl mv)), (en0, .inl (cyI, 2, .inl enf)), (tk0, .inl (cyI, 2, .inl tkf1)), (ep0, .inl (cyI, 12, .inl epf)), (ev0, .inl (cyI, 12, .inl evf)), (fr0, .inl (cyI, 80, .inl rqf))] → va_S A s.heap H locs → lv_has ls 8 [(0, .ref h0), (1, .int (nI a0)), (2, .int (nI (rq.getD a0 0))), (3, .int (nI (rq.getD (a0 + 1) 0))), (4, .int (nI (rq.getD (a0 + 2) 0)))] → W p l e ({ frames := 4, cells := 0, slots := 0, locals := 140 } : Room) s m ([.ref h0] : List Value).toArray below meth c H locs 0 0 Q (F0 m 85 ls [.int (bI (pt = true))]) := by
                intro pt hpt H locs ls hP hD hS hl
                have J159 : ∀ (kn : Bool), (kn = true ↔ knQ (rq.getD a0 0) (rq.getD (a0 + 1) 0) (rq.getD (a0 + 2) 0)) → ∀ (H : Heap) (locs : List Loc) (ls : Array Slot), va_P D vwCl [(h0, .inr (12, [m_thrown, .ref va0, .ref ep0, .ref ev0, .ref en0, .ref tk0, m_over, m_lost, m_restart, m_outputs, m_time, m_heard, m_heardSize, m_begun, m_master, m_part, .ref fr0, .int (nI rq.length), m_selected, m_wanted, m_by, m_since, m_confirm, .ref an0, .int (nI an1l.length), .int (nI 0), m_sent, m_sentCount, m_sum, m_number, m_reply, m_replySize])), (an0, .inl (cyI, 80, .inl anf1)), (va0, .inl (cyI, 16, .inl mv)), (en0, .inl (cyI, 2, .inl enf)), (tk0, .inl (cyI, 2, .inl tkf1)), (ep0, .inl (cyI, 12, .inl epf)), (ev0, .inl (cyI, 12, .inl evf)), (fr0, .inl (cyI, 80, .inl rqf))] H → va_D A [(h0, .inr (12, [m_thrown, .ref va0, .ref ep0, .ref ev0, .ref en0, .ref tk0, m_over, m_lost, m_restart, m_outputs, m_time, m_heard, m_heardSize, m_begun, m_master, m_part, .ref fr0, .int (nI rq.length), m_selected, m_wanted, m_by, m_since, m_confirm, .ref an0, .int (nI an1l.length), .int (nI 0), m_sent, m_sentCount, m_sum, m_number, m_reply, m_replySize])), (an0, .inl (cyI, 80, .inl anf1)), (va0, .inl (cyI, 16, .inl mv)), (en0, .inl (cyI, 2, .inl enf)), (tk0, .inl (cyI, 2, .inl tkf1)), (ep0, .inl (cyI, 12, .inl epf)), (ev0, .inl (cyI, 12, .inl evf)), (fr0, .inl (cyI, 80, .inl rqf))] → va_S A s.heap H locs → lv_has ls 8 [(0, .ref h0), (1, .int (nI a0)), (2, .int (nI (rq.getD a0 0))), (3, .int (nI (rq.getD (a0 + 1) 0))), (4, .int (nI (rq.getD (a0 + 2) 0)))] → W p l e ({ frames := 4, cells := 0, slots := 0, locals := 140 } : Room) s m ([.ref h0] : List Value).toArray below meth c H locs 0 0 Q (F0 m 159 ls [.int (bI (kn = true))]) := by
                  intro kn hkn H locs ls hP hD hS hl
                  have J182 : ∀ (H : Heap) (locs : List Loc) (ls : Array Slot), va_P D vwCl [(h0, .inr (12, [m_thrown, .ref va0, .ref ep0, .ref ev0, .ref en0, .ref tk0, m_over, m_lost, m_restart, m_outputs, m_time, m_heard, m_heardSize, m_begun, m_master, m_part, .ref fr0, .int (nI rq.length), m_selected, m_wanted, m_by, m_since, m_confirm, .ref an0, .int (nI an1l.length), .int (nI 0), m_sent, m_sentCount, m_sum, m_number, m_reply, m_replySize])), (an0, .inl (cyI, 80, .inl anf1)), (va0, .inl (cyI, 16, .inl mv)), (en0, .inl (cyI, 2, .inl enf)), (tk0, .inl (cyI, 2, .inl tkf1)), (ep0, .inl (cyI, 12, .inl epf)), (ev0, .inl (cyI, 12, .inl evf)), (fr0, .inl (cyI, 80, .inl rqf))] H → va_D A [(h0, .inr (12, [m_thrown, .ref va0, .ref ep0, .ref ev0, .ref en0, .ref tk0, m_over, m_lost, m_restart, m_outputs, m_time, m_heard, m_heardSize, m_begun, m_master, m_part, .ref fr0, .int (nI rq.length), m_selected, m_wanted, m_by, m_since, m_confirm, .ref an0, .int (nI an1l.length), .int (nI 0), m_sent, m_sentCount, m_sum, m_number, m_reply, m_replySize])), (an0, .inl (cyI, 80, .inl anf1)), (va0, .inl (cyI, 16, .inl mv)), (en0, .inl (cyI, 2, .inl enf)), (tk0, .inl (cyI, 2, .inl tkf1)), (ep0, .inl (cyI, 12, .inl epf)), (ev0, .inl (cyI, 12, .inl evf)), (fr0, .inl (cyI, 80, .inl rqf))] → va_S A s.heap H locs → lv_has ls 8 [(0, .ref h0), (1, .int (nI a0)), (2, .int (nI (rq.getD a0 0))), (3, .int (nI (rq.getD (a0 + 1) 0))), (4, .int (nI (rq.getD (a0 + 2) 0))), (6, .int (bI (kn = true)))] → W p l e ({ frames := 4, cells := 0, slots := 0, locals := 140 } : Room) s m ([.ref h0] : List Value).toArray below meth c H locs 0 0 Q (F0 m 182 ls [.int (nI (bbL (rq.getD (a0 + 2) 0)))]) := by
                    intro  H locs ls hP hD hS hl
                    have J261 : ∀ (sg3 : Nat) (an3 : List Nat) (anf3 tkf3 : Nat → Int32) (anb3 ana3 : Nat), ((sg3, an3, anb3, ana3) = rdH fb fa evb eva rq a0 (an1l, anb1, ana1)) → (okB 80 an3 anf3) → (an3.length ≤ 62) → (okMev 0 evb anb3 enf tkf3 epf evf) → (okMev 1 eva ana3 enf tkf3 epf evf) → ∀ (H : Heap) (locs : List Loc) (ls : Array Slot), va_P D vwCl [(h0, .inr (12, [m_thrown, .ref va0, .ref ep0, .ref ev0, .ref en0, .ref tk0, m_over, m_lost, m_restart, m_outputs, m_time, m_heard, m_heardSize, m_begun, m_master, m_part, .ref fr0, .int (nI rq.length), m_selected, m_wanted, m_by, m_since, m_confirm, .ref an0, .int (nI an3.length), .int (nI sg3), m_sent, m_sentCount, m_sum, m_number, m_reply, m_replySize])), (an0, .inl (cyI, 80, .inl anf3)), (va0, .inl (cyI, 16, .inl mv)), (en0, .inl (cyI, 2, .inl enf)), (tk0, .inl (cyI, 2, .inl tkf3)), (ep0, .inl (cyI, 12, .inl epf)), (ev0, .inl (cyI, 12, .inl evf)), (fr0, .inl (cyI, 80, .inl rqf))] H → va_D A [(h0, .inr (12, [m_thrown, .ref va0, .ref ep0, .ref ev0, .ref en0, .ref tk0, m_over, m_lost, m_restart, m_outputs, m_time, m_heard, m_heardSize, m_begun, m_master, m_part, .ref fr0, .int (nI rq.length), m_selected, m_wanted, m_by, m_since, m_confirm, .ref an0, .int (nI an3.length), .int (nI sg3), m_sent, m_sentCount, m_sum, m_number, m_reply, m_replySize])), (an0, .inl (cyI, 80, .inl anf3)), (va0, .inl (cyI, 16, .inl mv)), (en0, .inl (cyI, 2, .inl enf)), (tk0, .inl (cyI, 2, .inl tkf3)), (ep0, .inl (cyI, 12, .inl epf)), (ev0, .inl (cyI, 12, .inl evf)), (fr0, .inl (cyI, 80, .inl rqf))] → va_S A s.heap H locs → lv_has ls 8 [(0, .ref h0), (1, .int (nI a0)), (7, .int (nI (bbL (rq.getD (a0 + 2) 0))))] → W p l e ({ frames := 4, cells := 0, slots := 0, locals := 140 } : Room) s m ([.ref h0] : List Value).toArray below meth c H locs 0 0 Q (F0 m 261 ls []) := by
                      intro sg3 an3 anf3 tkf3 anb3 ana3 h3 ok3 hl3 okb3 oka3 H locs ls hP hD hS hl
                      refine lv_iload_n hx hb dX12_read_261 rfl (lv_at hl 1 rfl) ?_
                      refine lv_iconst (v := (nI 3)) hx hb dX12_read_262 (by decide) ?_
                      refine nv_iadd hx hb dX12_read_263 ?_
                      refine lv_iload hx hb dX12_read_264 (lv_at hl 2 rfl) ?_
                      refine nv_iadd hx hb dX12_read_266 ?_
                      refine lv_istore_n (lv' := [(1, .int (nI ((a0 + 3) + (bbL (rq.getD (a0 + 2) 0))))), (0, .ref h0), (7, .int (nI (bbL (rq.getD (a0 + 2) 0))))]) hx hb dX12_read_267 rfl hl (by decide) rfl (fun ls hl => ?_)
                      refine lv_goto (tgt := 2) hx hb dX12_read_268 (by decide) ?_
                      exact ih2 ((a0 + 3) + (bbL (rq.getD (a0 + 2) 0))) (hc + 1) sg3 an3 anf3 tkf3 anb3 ana3 (by clear hkn hpt; omega) (by clear hkn hpt; omega) (rdH_sg h3) (by rw [rd_step (n := 60 - (hc + 1)) (by omega) (by omega) h3 rfl, show 60 - (hc + 1) + 1 = 60 - hc by omega]; exact hrd) (ok3) (hl3) (okb3) (oka3) (by omega) H locs ls hP hD hS (lv_sub hl [1, 0] rfl)
                    refine lv_istore (lv' := [(7, .int (nI (bbL (rq.getD (a0 + 2) 0)))), (0, .ref h0), (1, .int (nI a0)), (2, .int (nI (rq.getD a0 0))), (3, .int (nI (rq.getD (a0 + 1) 0))), (4, .int (nI (rq.getD (a0 + 2) 0))), (6, .int (bI (kn = true)))]) hx hb dX12_read_182 hl (by decide) rfl (fun ls hl => ?_)
                    refine lv_iload hx hb dX12_read_184 (lv_at hl 6 rfl) ?_
                    refine bv_if_ne (tgt := 197) hx hb dX12_read_186 (by decide) (fun c186 => ?_) (fun c186 => ?_)
                    · skip
                      have hk9 := hkn.mp c186
                      refine lv_iload_n hx hb dX12_read_197 rfl (lv_at hl 2 rfl) ?_
                      refine lv_iconst (v := (nI 3)) hx hb dX12_read_198 (by decide) ?_
                      refine nv_iadd hx hb dX12_read_199 ?_
                      refine lv_iload hx hb dX12_read_200 (lv_at hl 0 rfl) ?_
                      refine nv_iadd hx hb dX12_read_202 ?_
                      refine lv_aload_n hx hb dX12_read_203 rfl (lv_at hl 1 rfl) ?_
                      refine va_get (D := D) (ci := 12) (v := .int (nI rq.length)) (C := RX12) (T := TX12) (N := 32) hx hb hts inX12_ hown hK hP 0 rfl rfl 17 (by decide) fl114 (fun _ h9 => h9) rfl dX12_read_204 ?_
                      refine nv_icmp_le (tgt := 218) hx hb (by omega) (by omega) dX12_read_207 (by decide) (fun c207 => ?_) (fun c207 => ?_)
                      · skip
                        have J240 : ∀ (aa : Nat), (rq.getD (a0 + 2) 0 = 6 ∨ aa = rq.getD (a0 + 3) 0) → (aa < 256) → ∀ (H : Heap) (locs : List Loc) (ls : Array Slot), va_P D vwCl [(h0, .inr (12, [m_thrown, .ref va0, .ref ep0, .ref ev0, .ref en0, .ref tk0, m_over, m_lost, m_restart, m_outputs, m_time, m_heard, m_heardSize, m_begun, m_master, m_part, .ref fr0, .int (nI rq.length), m_selected, m_wanted, m_by, m_since, m_confirm, .ref an0, .int (nI an1l.length), .int (nI 0), m_sent, m_sentCount, m_sum, m_number, m_reply, m_replySize])), (an0, .inl (cyI, 80, .inl anf1)), (va0, .inl (cyI, 16, .inl mv)), (en0, .inl (cyI, 2, .inl enf)), (tk0, .inl (cyI, 2, .inl tkf1)), (ep0, .inl (cyI, 12, .inl epf)), (ev0, .inl (cyI, 12, .inl evf)), (fr0, .inl (cyI, 80, .inl rqf))] H → va_D A [(h0, .inr (12, [m_thrown, .ref va0, .ref ep0, .ref ev0, .ref en0, .ref tk0, m_over, m_lost, m_restart, m_outputs, m_time, m_heard, m_heardSize, m_begun, m_master, m_part, .ref fr0, .int (nI rq.length), m_selected, m_wanted, m_by, m_since, m_confirm, .ref an0, .int (nI an1l.length), .int (nI 0), m_sent, m_sentCount, m_sum, m_number, m_reply, m_replySize])), (an0, .inl (cyI, 80, .inl anf1)), (va0, .inl (cyI, 16, .inl mv)), (en0, .inl (cyI, 2, .inl enf)), (tk0, .inl (cyI, 2, .inl tkf1)), (ep0, .inl (cyI, 12, .inl epf)), (ev0, .inl (cyI, 12, .inl evf)), (fr0, .inl (cyI, 80, .inl rqf))] → va_S A s.heap H locs → lv_has ls 8 [(0, .ref h0), (1, .int (nI a0)), (2, .int (nI (rq.getD a0 0))), (3, .int (nI (rq.getD (a0 + 1) 0))), (4, .int (nI (rq.getD (a0 + 2) 0))), (7, .int (nI (bbL (rq.getD (a0 + 2) 0))))] → W p l e ({ frames := 4, cells := 0, slots := 0, locals := 140 } : Room) s m ([.ref h0] : List Value).toArray below meth c H locs 0 0 Q (F0 m 240 ls [.int (nI aa), .int (nI (rq.getD (a0 + 2) 0)), .int (nI (rq.getD (a0 + 1) 0)), .int (nI (rq.getD a0 0)), .ref h0]) := by
                          intro aa haa haa2 H locs ls hP hD hS hl
                          refine lv_iload hx hb dX12_read_240 (lv_at hl 5 rfl) ?_
                          refine lv_iconst (v := (nI 1)) hx hb dX12_read_242 (by decide) ?_
                          refine nv_icmp_le (tgt := 257) hx hb (by omega) (by omega) dX12_read_243 (by decide) (fun c243 => ?_) (fun c243 => ?_)
                          · skip
                            refine lv_iconst (v := (nI 0)) hx hb dX12_read_257 (by decide) ?_
                            refine res_v (wW := [(h0, .inr (12, [m_thrown, .ref va0, .ref ep0, .ref ev0, .ref en0, .ref tk0, m_over, m_lost, m_restart, m_outputs, m_time, m_heard, m_heardSize, m_begun, m_master, m_part, .ref fr0, .int (nI rq.length), m_selected, m_wanted, m_by, m_since, m_confirm, .ref an0, .int (nI an1l.length), .int (nI 0), m_sent, m_sentCount, m_sum, m_number, m_reply, m_replySize])), (an0, .inl (cyI, 80, .inl anf1)), (va0, .inl (cyI, 16, .inl mv)), (en0, .inl (cyI, 2, .inl enf)), (tk0, .inl (cyI, 2, .inl tkf1)), (ep0, .inl (cyI, 12, .inl epf)), (ev0, .inl (cyI, 12, .inl evf)), (fr0, .inl (cyI, 80, .inl rqf))]) (Wc := [(h0, .inr (12, [m_thrown, .ref va0, .ref ep0, .ref ev0, .ref en0, .ref tk0, m_over, m_lost, m_restart, m_outputs, m_time, m_heard, m_heardSize, m_begun, m_master, m_part, .ref fr0, .int (nI rq.length), m_selected, m_wanted, m_by, m_since, m_confirm, .ref an0, .int (nI an1l.length), .int (nI 0), m_sent, m_sentCount, m_sum, m_number, m_reply, m_replySize])), (an0, .inl (cyI, 80, .inl anf1)), (va0, .inl (cyI, 16, .inl mv)), (en0, .inl (cyI, 2, .inl enf)), (tk0, .inl (cyI, 2, .inl tkf1)), (ep0, .inl (cyI, 12, .inl epf)), (ev0, .inl (cyI, 12, .inl evf))]) (Wr := [(fr0, .inl (cyI, 80, .inl rqf))]) (run_V (QA := fun A => va_Qv _ (bw D _ (tyL cyI cyZ) A) A) (rmC := ({ frames := 3, cells := 0, slots := 0, locals := 100 } : Room)) (mc := 0) (ms := 0) (As := [.int (nI (rq.getD a0 0)), .int (nI (rq.getD (a0 + 1) 0)), .int (nI (rq.getD (a0 + 2) 0)), .int (nI aa), .int (nI 0)]) (rest := []) (ci := 12) (wW := [(h0, .inr (12, [m_thrown, .ref va0, .ref ep0, .ref ev0, .ref en0, .ref tk0, m_over, m_lost, m_restart, m_outputs, m_time, m_heard, m_heardSize, m_begun, m_master, m_part, .ref fr0, .int (nI rq.length), m_selected, m_wanted, m_by, m_since, m_confirm, .ref an0, .int (nI an1l.length), .int (nI 0), m_sent, m_sentCount, m_sum, m_number, m_reply, m_replySize])), (an0, .inl (cyI, 80, .inl anf1)), (va0, .inl (cyI, 16, .inl mv)), (en0, .inl (cyI, 2, .inl enf)), (tk0, .inl (cyI, 2, .inl tkf1)), (ep0, .inl (cyI, 12, .inl epf)), (ev0, .inl (cyI, 12, .inl evf)), (fr0, .inl (cyI, 80, .inl rqf))]) (Wc := [(h0, .inr (12, [m_thrown, .ref va0, .ref ep0, .ref ev0, .ref en0, .ref tk0, m_over, m_lost, m_restart, m_outputs, m_time, m_heard, m_heardSize, m_begun, m_master, m_part, .ref fr0, .int (nI rq.length), m_selected, m_wanted, m_by, m_since, m_confirm, .ref an0, .int (nI an1l.length), .int (nI 0), m_sent, m_sentCount, m_sum, m_number, m_reply, m_replySize])), (an0, .inl (cyI, 80, .inl anf1)), (va0, .inl (cyI, 16, .inl mv)), (en0, .inl (cyI, 2, .inl enf)), (tk0, .inl (cyI, 2, .inl tkf1)), (ep0, .inl (cyI, 12, .inl epf)), (ev0, .inl (cyI, 12, .inl evf))]) ⟨hx, hb, hml, hown, hts⟩ (c_X12_readOne l D cyI cyZ h0 (m_thrown) (m_over) (m_lost) (m_restart) (m_outputs) (m_time) (m_heard) (m_heardSize) (m_begun) (m_master) (m_part) (.ref fr0) (.int (nI rq.length)) (m_selected) (m_wanted) (m_by) (m_since) (m_confirm) (m_sent) (m_sentCount) (m_sum) (m_number) (m_reply) (m_replySize) an0 an1l anf1 va0 mv en0 tk0 ep0 ev0 enf tkf1 epf evf fb fa evb eva anb1 ana1 rq a0 (rq.getD a0 0) (rq.getD (a0 + 1) 0) (rq.getD (a0 + 2) 0) aa 0 (okl) (hl62) (by assumption) (okb1) (oka1) (rfl) (rfl) (rfl) (hk9) (by clear hkn; omega) (haa) (by have h9 := bbL_0 (q := rq.getD (a0 + 2) 0); clear hkn; omega) (⟨haa2, by decide⟩)) (cwV 5 hts gX12_read_X12_readOne rfl rfl rfl (by decide +kernel) ⟨Nat.le_of_ble_eq_true rfl, Nat.le_of_ble_eq_true rfl⟩) hN hK hP hD [0, 1, 2, 3, 4, 5, 6] rfl (by decide) 0 rfl rfl rfl hl.1 rfl rfl dX12_read_258 ⟨Nat.le_of_ble_eq_true rfl, Nat.le_of_ble_eq_true rfl⟩) hP hD hS hA [0, 1, 2, 3, 4, 5, 6] [7] rfl rfl (by decide) (by decide) (fun u9 H locs w258 hP hD hS => ?_)
                            obtain ⟨sg2_258, an2_258, anf2_258, tkf2_258, anb2_258, ana2_258⟩ := u9
                            have w258 : (sg2_258, an2_258, anb2_258, ana2_258) = rdH fb fa evb eva rq a0 (an1l, anb1, ana1) ∧ okB 80 an2_258 anf2_258 ∧ an2_258.length ≤ 62 ∧ okMev 0 evb anb2_258 enf tkf2_258 epf evf ∧ okMev 1 eva ana2_258 enf tkf2_258 epf evf := w258
                            have hP : va_P D vwCl [(fr0, .inl (cyI, 80, .inl rqf)), (h0, .inr (12, [m_thrown, .ref va0, .ref ep0, .ref ev0, .ref en0, .ref tk0, m_over, m_lost, m_restart, m_outputs, m_time, m_heard, m_heardSize, m_begun, m_master, m_part, .ref fr0, .int (nI rq.length), m_selected, m_wanted, m_by, m_since, m_confirm, .ref an0, .int (nI an2_258.length), .int (nI sg2_258), m_sent, m_sentCount, m_sum, m_number, m_reply, m_replySize])), (an0, .inl (cyI, 80, .inl anf2_258)), (va0, .inl (cyI, 16, .inl mv)), (en0, .inl (cyI, 2, .inl enf)), (tk0, .inl (cyI, 2, .inl tkf2_258)), (ep0, .inl (cyI, 12, .inl epf)), (ev0, .inl (cyI, 12, .inl evf))] H := hP
                            have hD : va_D A [(fr0, .inl (cyI, 80, .inl rqf)), (h0, .inr (12, [m_thrown, .ref va0, .ref ep0, .ref ev0, .ref en0, .ref tk0, m_over, m_lost, m_restart, m_outputs, m_time, m_heard, m_heardSize, m_begun, m_master, m_part, .ref fr0, .int (nI rq.length), m_selected, m_wanted, m_by, m_since, m_confirm, .ref an0, .int (nI an2_258.length), .int (nI sg2_258), m_sent, m_sentCount, m_sum, m_number, m_reply, m_replySize])), (an0, .inl (cyI, 80, .inl anf2_258)), (va0, .inl (cyI, 16, .inl mv)), (en0, .inl (cyI, 2, .inl enf)), (tk0, .inl (cyI, 2, .inl tkf2_258)), (ep0, .inl (cyI, 12, .inl epf)), (ev0, .inl (cyI, 12, .inl evf))] := hD
                            have hP : va_P D vwCl [(h0, .inr (12, [m_thrown, .ref va0, .ref ep0, .ref ev0, .ref en0, .ref tk0, m_over, m_lost, m_restart, m_outputs, m_time, m_heard, m_heardSize, m_begun, m_master, m_part, .ref fr0, .int (nI rq.length), m_selected, m_wanted, m_by, m_since, m_confirm, .ref an0, .int (nI an2_258.length), .int (nI sg2_258), m_sent, m_sentCount, m_sum, m_number, m_reply, m_replySize])), (an0, .inl (cyI, 80, .inl anf2_258)), (va0, .inl (cyI, 16, .inl mv)), (en0, .inl (cyI, 2, .inl enf)), (tk0, .inl (cyI, 2, .inl tkf2_258)), (ep0, .inl (cyI, 12, .inl epf)), (ev0, .inl (cyI, 12, .inl evf)), (fr0, .inl (cyI, 80, .inl rqf))] H := pickP hP [1, 2, 3, 4, 5, 6, 7, 0] rfl
                            have hD : va_D A [(h0, .inr (12, [m_thrown, .ref va0, .ref ep0, .ref ev0, .ref en0, .ref tk0, m_over, m_lost, m_restart, m_outputs, m_time, m_heard, m_heardSize, m_begun, m_master, m_part, .ref fr0, .int (nI rq.length), m_selected, m_wanted, m_by, m_since, m_confirm, .ref an0, .int (nI an2_258.length), .int (nI sg2_258), m_sent, m_sentCount, m_sum, m_number, m_reply, m_replySize])), (an0, .inl (cyI, 80, .inl anf2_258)), (va0, .inl (cyI, 16, .inl mv)), (en0, .inl (cyI, 2, .inl enf)), (tk0, .inl (cyI, 2, .inl tkf2_258)), (ep0, .inl (cyI, 12, .inl epf)), (ev0, .inl (cyI, 12, .inl evf)), (fr0, .inl (cyI, 80, .inl rqf))] := hD.sub [1, 2, 3, 4, 5, 6, 7, 0] (by decide) rfl
                            exact J261 sg2_258 an2_258 anf2_258 tkf2_258 anb2_258 ana2_258 (w258.1) (w258.2.1) (w258.2.2.1) (w258.2.2.2.1) (w258.2.2.2.2) H locs ls hP hD hS (lv_sub hl [0, 1, 5] rfl)
                          · skip
                            refine lv_aload_n hx hb dX12_read_246 rfl (lv_at hl 0 rfl) ?_
                            refine va_get (D := D) (ci := 12) (v := .ref fr0) (C := RX12) (T := TX12) (N := 32) hx hb hts inX12_ hown hK hP 0 rfl rfl 16 (by decide) fl39 (fun _ h9 => h9) rfl dX12_read_247 ?_
                            refine lv_iload_n hx hb dX12_read_250 rfl (lv_at hl 1 rfl) ?_
                            refine lv_iconst (v := (nI 4)) hx hb dX12_read_251 (by decide) ?_
                            refine nv_iadd hx hb dX12_read_252 ?_
                            refine nv_iald hx hb hK hP 7 0 rfl rfl (by omega) (by decide) dX12_read_253 ?_
                            refine nv_top (y := (nI (rq.getD (a0 + 4) 0))) (oq3 _ (by omega)) ?_
                            refine lv_goto (tgt := 258) hx hb dX12_read_254 (by decide) ?_
                            refine res_v (wW := [(h0, .inr (12, [m_thrown, .ref va0, .ref ep0, .ref ev0, .ref en0, .ref tk0, m_over, m_lost, m_restart, m_outputs, m_time, m_heard, m_heardSize, m_begun, m_master, m_part, .ref fr0, .int (nI rq.length), m_selected, m_wanted, m_by, m_since, m_confirm, .ref an0, .int (nI an1l.length), .int (nI 0), m_sent, m_sentCount, m_sum, m_number, m_reply, m_replySize])), (an0, .inl (cyI, 80, .inl anf1)), (va0, .inl (cyI, 16, .inl mv)), (en0, .inl (cyI, 2, .inl enf)), (tk0, .inl (cyI, 2, .inl tkf1)), (ep0, .inl (cyI, 12, .inl epf)), (ev0, .inl (cyI, 12, .inl evf)), (fr0, .inl (cyI, 80, .inl rqf))]) (Wc := [(h0, .inr (12, [m_thrown, .ref va0, .ref ep0, .ref ev0, .ref en0, .ref tk0, m_over, m_lost, m_restart, m_outputs, m_time, m_heard, m_heardSize, m_begun, m_master, m_part, .ref fr0, .int (nI rq.length), m_selected, m_wanted, m_by, m_since, m_confirm, .ref an0, .int (nI an1l.length), .int (nI 0), m_sent, m_sentCount, m_sum, m_number, m_reply, m_replySize])), (an0, .inl (cyI, 80, .inl anf1)), (va0, .inl (cyI, 16, .inl mv)), (en0, .inl (cyI, 2, .inl enf)), (tk0, .inl (cyI, 2, .inl tkf1)), (ep0, .inl (cyI, 12, .inl epf)), (ev0, .inl (cyI, 12, .inl evf))]) (Wr := [(fr0, .inl (cyI, 80, .inl rqf))]) (run_V (QA := fun A => va_Qv _ (bw D _ (tyL cyI cyZ) A) A) (rmC := ({ frames := 3, cells := 0, slots := 0, locals := 100 } : Room)) (mc := 0) (ms := 0) (As := [.int (nI (rq.getD a0 0)), .int (nI (rq.getD (a0 + 1) 0)), .int (nI (rq.getD (a0 + 2) 0)), .int (nI aa), .int (nI (rq.getD (a0 + 4) 0))]) (rest := []) (ci := 12) (wW := [(h0, .inr (12, [m_thrown, .ref va0, .ref ep0, .ref ev0, .ref en0, .ref tk0, m_over, m_lost, m_restart, m_outputs, m_time, m_heard, m_heardSize, m_begun, m_master, m_part, .ref fr0, .int (nI rq.length), m_selected, m_wanted, m_by, m_since, m_confirm, .ref an0, .int (nI an1l.length), .int (nI 0), m_sent, m_sentCount, m_sum, m_number, m_reply, m_replySize])), (an0, .inl (cyI, 80, .inl anf1)), (va0, .inl (cyI, 16, .inl mv)), (en0, .inl (cyI, 2, .inl enf)), (tk0, .inl (cyI, 2, .inl tkf1)), (ep0, .inl (cyI, 12, .inl epf)), (ev0, .inl (cyI, 12, .inl evf)), (fr0, .inl (cyI, 80, .inl rqf))]) (Wc := [(h0, .inr (12, [m_thrown, .ref va0, .ref ep0, .ref ev0, .ref en0, .ref tk0, m_over, m_lost, m_restart, m_outputs, m_time, m_heard, m_heardSize, m_begun, m_master, m_part, .ref fr0, .int (nI rq.length), m_selected, m_wanted, m_by, m_since, m_confirm, .ref an0, .int (nI an1l.length), .int (nI 0), m_sent, m_sentCount, m_sum, m_number, m_reply, m_replySize])), (an0, .inl (cyI, 80, .inl anf1)), (va0, .inl (cyI, 16, .inl mv)), (en0, .inl (cyI, 2, .inl enf)), (tk0, .inl (cyI, 2, .inl tkf1)), (ep0, .inl (cyI, 12, .inl epf)), (ev0, .inl (cyI, 12, .inl evf))]) ⟨hx, hb, hml, hown, hts⟩ (c_X12_readOne l D cyI cyZ h0 (m_thrown) (m_over) (m_lost) (m_restart) (m_outputs) (m_time) (m_heard) (m_heardSize) (m_begun) (m_master) (m_part) (.ref fr0) (.int (nI rq.length)) (m_selected) (m_wanted) (m_by) (m_since) (m_confirm) (m_sent) (m_sentCount) (m_sum) (m_number) (m_reply) (m_replySize) an0 an1l anf1 va0 mv en0 tk0 ep0 ev0 enf tkf1 epf evf fb fa evb eva anb1 ana1 rq a0 (rq.getD a0 0) (rq.getD (a0 + 1) 0) (rq.getD (a0 + 2) 0) aa (rq.getD (a0 + 4) 0) (okl) (hl62) (by assumption) (okb1) (oka1) (rfl) (rfl) (rfl) (hk9) (by clear hkn; omega) (haa) (Or.inr rfl) (⟨haa2, g5⟩)) (cwV 5 hts gX12_read_X12_readOne rfl rfl rfl (by decide +kernel) ⟨Nat.le_of_ble_eq_true rfl, Nat.le_of_ble_eq_true rfl⟩) hN hK hP hD [0, 1, 2, 3, 4, 5, 6] rfl (by decide) 0 rfl rfl rfl hl.1 rfl rfl dX12_read_258 ⟨Nat.le_of_ble_eq_true rfl, Nat.le_of_ble_eq_true rfl⟩) hP hD hS hA [0, 1, 2, 3, 4, 5, 6] [7] rfl rfl (by decide) (by decide) (fun u9 H locs w258 hP hD hS => ?_)
                            obtain ⟨sg2_258_1, an2_258_1, anf2_258_1, tkf2_258_1, anb2_258_1, ana2_258_1⟩ := u9
                            have w258 : (sg2_258_1, an2_258_1, anb2_258_1, ana2_258_1) = rdH fb fa evb eva rq a0 (an1l, anb1, ana1) ∧ okB 80 an2_258_1 anf2_258_1 ∧ an2_258_1.length ≤ 62 ∧ okMev 0 evb anb2_258_1 enf tkf2_258_1 epf evf ∧ okMev 1 eva ana2_258_1 enf tkf2_258_1 epf evf := w258
                            have hP : va_P D vwCl [(fr0, .inl (cyI, 80, .inl rqf)), (h0, .inr (12, [m_thrown, .ref va0, .ref ep0, .ref ev0, .ref en0, .ref tk0, m_over, m_lost, m_restart, m_outputs, m_time, m_heard, m_heardSize, m_begun, m_master, m_part, .ref fr0, .int (nI rq.length), m_selected, m_wanted, m_by, m_since, m_confirm, .ref an0, .int (nI an2_258_1.length), .int (nI sg2_258_1), m_sent, m_sentCount, m_sum, m_number, m_reply, m_replySize])), (an0, .inl (cyI, 80, .inl anf2_258_1)), (va0, .inl (cyI, 16, .inl mv)), (en0, .inl (cyI, 2, .inl enf)), (tk0, .inl (cyI, 2, .inl tkf2_258_1)), (ep0, .inl (cyI, 12, .inl epf)), (ev0, .inl (cyI, 12, .inl evf))] H := hP
                            have hD : va_D A [(fr0, .inl (cyI, 80, .inl rqf)), (h0, .inr (12, [m_thrown, .ref va0, .ref ep0, .ref ev0, .ref en0, .ref tk0, m_over, m_lost, m_restart, m_outputs, m_time, m_heard, m_heardSize, m_begun, m_master, m_part, .ref fr0, .int (nI rq.length), m_selected, m_wanted, m_by, m_since, m_confirm, .ref an0, .int (nI an2_258_1.length), .int (nI sg2_258_1), m_sent, m_sentCount, m_sum, m_number, m_reply, m_replySize])), (an0, .inl (cyI, 80, .inl anf2_258_1)), (va0, .inl (cyI, 16, .inl mv)), (en0, .inl (cyI, 2, .inl enf)), (tk0, .inl (cyI, 2, .inl tkf2_258_1)), (ep0, .inl (cyI, 12, .inl epf)), (ev0, .inl (cyI, 12, .inl evf))] := hD
                            have hP : va_P D vwCl [(h0, .inr (12, [m_thrown, .ref va0, .ref ep0, .ref ev0, .ref en0, .ref tk0, m_over, m_lost, m_restart, m_outputs, m_time, m_heard, m_heardSize, m_begun, m_master, m_part, .ref fr0, .int (nI rq.length), m_selected, m_wanted, m_by, m_since, m_confirm, .ref an0, .int (nI an2_258_1.length), .int (nI sg2_258_1), m_sent, m_sentCount, m_sum, m_number, m_reply, m_replySize])), (an0, .inl (cyI, 80, .inl anf2_258_1)), (va0, .inl (cyI, 16, .inl mv)), (en0, .inl (cyI, 2, .inl enf)), (tk0, .inl (cyI, 2, .inl tkf2_258_1)), (ep0, .inl (cyI, 12, .inl epf)), (ev0, .inl (cyI, 12, .inl evf)), (fr0, .inl (cyI, 80, .inl rqf))] H := pickP hP [1, 2, 3, 4, 5, 6, 7, 0] rfl
                            have hD : va_D A [(h0, .inr (12, [m_thrown, .ref va0, .ref ep0, .ref ev0, .ref en0, .ref tk0, m_over, m_lost, m_restart, m_outputs, m_time, m_heard, m_heardSize, m_begun, m_master, m_part, .ref fr0, .int (nI rq.length), m_selected, m_wanted, m_by, m_since, m_confirm, .ref an0, .int (nI an2_258_1.length), .int (nI sg2_258_1), m_sent, m_sentCount, m_sum, m_number, m_reply, m_replySize])), (an0, .inl (cyI, 80, .inl anf2_258_1)), (va0, .inl (cyI, 16, .inl mv)), (en0, .inl (cyI, 2, .inl enf)), (tk0, .inl (cyI, 2, .inl tkf2_258_1)), (ep0, .inl (cyI, 12, .inl epf)), (ev0, .inl (cyI, 12, .inl evf)), (fr0, .inl (cyI, 80, .inl rqf))] := hD.sub [1, 2, 3, 4, 5, 6, 7, 0] (by decide) rfl
                            exact J261 sg2_258_1 an2_258_1 anf2_258_1 tkf2_258_1 anb2_258_1 ana2_258_1 (w258.1) (w258.2.1) (w258.2.2.1) (w258.2.2.2.1) (w258.2.2.2.2) H locs ls hP hD hS (lv_sub hl [0, 1, 5] rfl)
                        refine lv_aload_n hx hb dX12_read_218 rfl (lv_at hl 1 rfl) ?_
                        refine lv_iload_n hx hb dX12_read_219 rfl (lv_at hl 3 rfl) ?_
                        refine lv_iload_n hx hb dX12_read_220 rfl (lv_at hl 4 rfl) ?_
                        refine lv_iload hx hb dX12_read_221 (lv_at hl 5 rfl) ?_
                        refine lv_iload hx hb dX12_read_223 (lv_at hl 0 rfl) ?_
                        refine nv_if_le (tgt := 239) hx hb (by omega) dX12_read_225 (by decide) (fun c225 => ?_) (fun c225 => ?_)
                        · skip
                          refine lv_iconst (v := (nI 0)) hx hb dX12_read_239 (by decide) ?_
                          exact J240 0 (by have h7 : knP _ _ _ := hk9; have h9 := bbL_0 (q := rq.getD (a0 + 2) 0); have h8 := bbL_7 (q := rq.getD (a0 + 2) 0); clear hkn; omega) (by decide) H locs ls hP hD hS (lv_sub hl [1, 2, 3, 4, 5, 0] rfl)
                        · skip
                          refine lv_aload_n hx hb dX12_read_228 rfl (lv_at hl 1 rfl) ?_
                          refine va_get (D := D) (ci := 12) (v := .ref fr0) (C := RX12) (T := TX12) (N := 32) hx hb hts inX12_ hown hK hP 0 rfl rfl 16 (by decide) fl39 (fun _ h9 => h9) rfl dX12_read_229 ?_
                          refine lv_iload_n hx hb dX12_read_232 rfl (lv_at hl 2 rfl) ?_
                          refine lv_iconst (v := (nI 3)) hx hb dX12_read_233 (by decide) ?_
                          refine nv_iadd hx hb dX12_read_234 ?_
                          refine nv_iald hx hb hK hP 7 0 rfl rfl (by unfold bbL at c225; omega) (by decide) dX12_read_235 ?_
                          refine nv_top (y := (nI (rq.getD (a0 + 3) 0))) (oq3 _ (by omega)) ?_
                          refine lv_goto (tgt := 240) hx hb dX12_read_236 (by decide) ?_
                          exact J240 (rq.getD (a0 + 3) 0) (Or.inr rfl) (g4) H locs ls hP hD hS (lv_sub hl [1, 2, 3, 4, 5, 0] rfl)
                      · skip
                        refine lv_aload_n hx hb dX12_read_210 rfl (lv_at hl 1 rfl) ?_
                        refine lv_iconst (v := (nI 4)) hx hb dX12_read_211 (by decide) ?_
                        refine va_put (D := D) (ci := 12) (v := .int (nI 4)) (ty := .int) (C := RX12) (T := TX12) (N := 32) hx hb hts inX12_ tyX12 tyX12_ok nmX12 hown hK hP hD hS 0 rfl rfl 25 (by decide) fl129 (fun _ h9 => h9) rfl (by decide +kernel) rfl rfl (Nat.le_of_ble_eq_true rfl) dX12_read_212 (fun H locs hP hD hS => ?_)
                        have hP : va_P D vwCl [(h0, .inr (12, [m_thrown, .ref va0, .ref ep0, .ref ev0, .ref en0, .ref tk0, m_over, m_lost, m_restart, m_outputs, m_time, m_heard, m_heardSize, m_begun, m_master, m_part, .ref fr0, .int (nI rq.length), m_selected, m_wanted, m_by, m_since, m_confirm, .ref an0, .int (nI an1l.length), .int (nI 4), m_sent, m_sentCount, m_sum, m_number, m_reply, m_replySize])), (an0, .inl (cyI, 80, .inl anf1)), (va0, .inl (cyI, 16, .inl mv)), (en0, .inl (cyI, 2, .inl enf)), (tk0, .inl (cyI, 2, .inl tkf1)), (ep0, .inl (cyI, 12, .inl epf)), (ev0, .inl (cyI, 12, .inl evf)), (fr0, .inl (cyI, 80, .inl rqf))] H := hP
                        have hD : va_D A [(h0, .inr (12, [m_thrown, .ref va0, .ref ep0, .ref ev0, .ref en0, .ref tk0, m_over, m_lost, m_restart, m_outputs, m_time, m_heard, m_heardSize, m_begun, m_master, m_part, .ref fr0, .int (nI rq.length), m_selected, m_wanted, m_by, m_since, m_confirm, .ref an0, .int (nI an1l.length), .int (nI 4), m_sent, m_sentCount, m_sum, m_number, m_reply, m_replySize])), (an0, .inl (cyI, 80, .inl anf1)), (va0, .inl (cyI, 16, .inl mv)), (en0, .inl (cyI, 2, .inl enf)), (tk0, .inl (cyI, 2, .inl tkf1)), (ep0, .inl (cyI, 12, .inl epf)), (ev0, .inl (cyI, 12, .inl evf)), (fr0, .inl (cyI, 80, .inl rqf))] := hD
                        refine lv_goto (tgt := 261) hx hb dX12_read_215 (by decide) ?_
                        exact J261 4 an1l anf1 tkf1 anb1 ana1 (rd_sh hk9 ha3 (by clear hkn; omega)) (okl) (hl62) (okb1) (oka1) H locs ls hP hD hS (lv_sub hl [1, 2, 0] rfl)
                    · skip
                      refine lv_aload_n hx hb dX12_read_189 rfl (lv_at hl 1 rfl) ?_
                      refine lv_iconst (v := (nI 2)) hx hb dX12_read_190 (by decide) ?_
                      refine va_put (D := D) (ci := 12) (v := .int (nI 2)) (ty := .int) (C := RX12) (T := TX12) (N := 32) hx hb hts inX12_ tyX12 tyX12_ok nmX12 hown hK hP hD hS 0 rfl rfl 25 (by decide) fl129 (fun _ h9 => h9) rfl (by decide +kernel) rfl rfl (Nat.le_of_ble_eq_true rfl) dX12_read_191 (fun H locs hP hD hS => ?_)
                      have hP : va_P D vwCl [(h0, .inr (12, [m_thrown, .ref va0, .ref ep0, .ref ev0, .ref en0, .ref tk0, m_over, m_lost, m_restart, m_outputs, m_time, m_heard, m_heardSize, m_begun, m_master, m_part, .ref fr0, .int (nI rq.length), m_selected, m_wanted, m_by, m_since, m_confirm, .ref an0, .int (nI an1l.length), .int (nI 2), m_sent, m_sentCount, m_sum, m_number, m_reply, m_replySize])), (an0, .inl (cyI, 80, .inl anf1)), (va0, .inl (cyI, 16, .inl mv)), (en0, .inl (cyI, 2, .inl enf)), (tk0, .inl (cyI, 2, .inl tkf1)), (ep0, .inl (cyI, 12, .inl epf)), (ev0, .inl (cyI, 12, .inl evf)), (fr0, .inl (cyI, 80, .inl rqf))] H := hP
                      have hD : va_D A [(h0, .inr (12, [m_thrown, .ref va0, .ref ep0, .ref ev0, .ref en0, .ref tk0, m_over, m_lost, m_restart, m_outputs, m_time, m_heard, m_heardSize, m_begun, m_master, m_part, .ref fr0, .int (nI rq.length), m_selected, m_wanted, m_by, m_since, m_confirm, .ref an0, .int (nI an1l.length), .int (nI 2), m_sent, m_sentCount, m_sum, m_number, m_reply, m_replySize])), (an0, .inl (cyI, 80, .inl anf1)), (va0, .inl (cyI, 16, .inl mv)), (en0, .inl (cyI, 2, .inl enf)), (tk0, .inl (cyI, 2, .inl tkf1)), (ep0, .inl (cyI, 12, .inl epf)), (ev0, .inl (cyI, 12, .inl evf)), (fr0, .inl (cyI, 80, .inl rqf))] := hD
                      refine lv_goto (tgt := 261) hx hb dX12_read_194 (by decide) ?_
                      exact J261 2 an1l anf1 tkf1 anb1 ana1 (rd_un (fun z => c186 (hkn.mpr z))) (okl) (hl62) (okb1) (oka1) H locs ls hP hD hS (lv_sub hl [1, 2, 0] rfl)
                  refine lv_istore (lv' := [(6, .int (bI (kn = true))), (0, .ref h0), (1, .int (nI a0)), (2, .int (nI (rq.getD a0 0))), (3, .int (nI (rq.getD (a0 + 1) 0))), (4, .int (nI (rq.getD (a0 + 2) 0)))]) hx hb dX12_read_159 hl (by decide) rfl (fun ls hl => ?_)
                  refine lv_iload hx hb dX12_read_161 (lv_at hl 5 rfl) ?_
                  refine nv_if_ne (tgt := 170) hx hb (by omega) dX12_read_163 (by decide) (fun c163 => ?_) (fun c163 => ?_)
                  · skip
                    refine lv_iload hx hb dX12_read_170 (lv_at hl 5 rfl) ?_
                    refine lv_bipush (v := (nI 7)) hx hb dX12_read_172 (by decide) ?_
                    refine nv_icmp_ne (tgt := 181) hx hb (by omega) (by omega) dX12_read_174 (by decide) (fun c174 => ?_) (fun c174 => ?_)
                    · skip
                      refine lv_iconst (v := (nI 0)) hx hb dX12_read_181 (by decide) ?_
                      refine W.eq (g2 := F0 m 182 ls [.int (nI (bbL (rq.getD (a0 + 2) 0)))]) (by first | rw [bbL_0 c163] | rw [bbL_7 c174] | rw [bbL_n c163 c174]) ?_
                      exact J182   H locs ls hP hD hS (lv_sub hl [1, 2, 3, 4, 5, 0] rfl)
                    · skip
                      refine lv_iconst (v := (nI 1)) hx hb dX12_read_177 (by decide) ?_
                      refine lv_goto (tgt := 182) hx hb dX12_read_178 (by decide) ?_
                      refine W.eq (g2 := F0 m 182 ls [.int (nI (bbL (rq.getD (a0 + 2) 0)))]) (by first | rw [bbL_0 c163] | rw [bbL_7 c174] | rw [bbL_n c163 c174]) ?_
                      exact J182   H locs ls hP hD hS (lv_sub hl [1, 2, 3, 4, 5, 0] rfl)
                  · skip
                    refine lv_iconst (v := (nI 2)) hx hb dX12_read_166 (by decide) ?_
                    refine lv_goto (tgt := 182) hx hb dX12_read_167 (by decide) ?_
                    refine W.eq (g2 := F0 m 182 ls [.int (nI (bbL (rq.getD (a0 + 2) 0)))]) (by first | rw [bbL_0 c163] | rw [bbL_7 c174] | rw [bbL_n c163 c174]) ?_
                    exact J182   H locs ls hP hD hS (lv_sub hl [1, 2, 3, 4, 5, 0] rfl)
                refine lv_istore (lv' := [(5, .int (bI (pt = true))), (0, .ref h0), (1, .int (nI a0)), (2, .int (nI (rq.getD a0 0))), (3, .int (nI (rq.getD (a0 + 1) 0))), (4, .int (nI (rq.getD (a0 + 2) 0)))]) hx hb dX12_read_85 hl (by decide) rfl (fun ls hl => ?_)
                refine lv_iload hx hb dX12_read_87 (lv_at hl 0 rfl) ?_
                refine bv_if_eq (tgt := 112) hx hb dX12_read_89 (by decide) (fun c89 => ?_) (fun c89 => ?_)
                · skip
                  refine lv_iload_n hx hb dX12_read_112 rfl (lv_at hl 3 rfl) ?_
                  refine lv_bipush (v := (nI 60)) hx hb dX12_read_113 (by decide) ?_
                  refine nv_icmp_ne (tgt := 158) hx hb (by omega) (by omega) dX12_read_115 (by decide) (fun c115 => ?_) (fun c115 => ?_)
                  · skip
                    refine lv_iconst (v := (nI 0)) hx hb dX12_read_158 (by decide) ?_
                    refine W.eq (g2 := F0 m 159 ls [.int (bI (false = true))]) (by rfl) ?_
                    exact J159 false (⟨fun z => absurd z (by decide), fun z => by have h9 : ¬ _ := fun z => c89 (hpt.mpr z); clear hpt; unfold knQ at z; omega⟩) H locs ls hP hD hS (lv_sub hl [1, 2, 3, 4, 5] rfl)
                  · skip
                    refine lv_iload_n hx hb dX12_read_118 rfl (lv_at hl 4 rfl) ?_
                    refine lv_iconst (v := (nI 1)) hx hb dX12_read_119 (by decide) ?_
                    refine nv_icmp_ne (tgt := 130) hx hb (by omega) (by omega) dX12_read_120 (by decide) (fun c120 => ?_) (fun c120 => ?_)
                    · skip
                      refine lv_iload_n hx hb dX12_read_130 rfl (lv_at hl 4 rfl) ?_
                      refine lv_iconst (v := (nI 2)) hx hb dX12_read_131 (by decide) ?_
                      refine nv_icmp_eq (tgt := 140) hx hb (by omega) (by omega) dX12_read_132 (by decide) (fun c132 => ?_) (fun c132 => ?_)
                      · skip
                        refine lv_iload hx hb dX12_read_140 (lv_at hl 5 rfl) ?_
                        refine lv_bipush (v := (nI 6)) hx hb dX12_read_142 (by decide) ?_
                        refine nv_icmp_eq (tgt := 154) hx hb (by omega) (by omega) dX12_read_144 (by decide) (fun c144 => ?_) (fun c144 => ?_)
                        · skip
                          refine lv_iconst (v := (nI 1)) hx hb dX12_read_154 (by decide) ?_
                          refine lv_goto (tgt := 159) hx hb dX12_read_155 (by decide) ?_
                          refine W.eq (g2 := F0 m 159 ls [.int (bI (true = true))]) (by rfl) ?_
                          exact J159 true (⟨fun _ => by have h9 : ¬ _ := fun z => c89 (hpt.mpr z); clear hpt; unfold knQ; omega, fun _ => rfl⟩) H locs ls hP hD hS (lv_sub hl [1, 2, 3, 4, 5] rfl)
                        · skip
                          refine lv_iload hx hb dX12_read_147 (lv_at hl 5 rfl) ?_
                          refine lv_bipush (v := (nI 7)) hx hb dX12_read_149 (by decide) ?_
                          refine nv_icmp_ne (tgt := 158) hx hb (by omega) (by omega) dX12_read_151 (by decide) (fun c151 => ?_) (fun c151 => ?_)
                          · skip
                            refine lv_iconst (v := (nI 0)) hx hb dX12_read_158 (by decide) ?_
                            refine W.eq (g2 := F0 m 159 ls [.int (bI (false = true))]) (by rfl) ?_
                            exact J159 false (⟨fun z => absurd z (by decide), fun z => by have h9 : ¬ _ := fun z => c89 (hpt.mpr z); clear hpt; unfold knQ at z; omega⟩) H locs ls hP hD hS (lv_sub hl [1, 2, 3, 4, 5] rfl)
                          · skip
                            refine lv_iconst (v := (nI 1)) hx hb dX12_read_154 (by decide) ?_
                            refine lv_goto (tgt := 159) hx hb dX12_read_155 (by decide) ?_
                            refine W.eq (g2 := F0 m 159 ls [.int (bI (true = true))]) (by rfl) ?_
                            exact J159 true (⟨fun _ => by have h9 : ¬ _ := fun z => c89 (hpt.mpr z); clear hpt; unfold knQ; omega, fun _ => rfl⟩) H locs ls hP hD hS (lv_sub hl [1, 2, 3, 4, 5] rfl)
                      · skip
                        refine lv_iload_n hx hb dX12_read_135 rfl (lv_at hl 4 rfl) ?_
                        refine lv_iconst (v := (nI 3)) hx hb dX12_read_136 (by decide) ?_
                        refine nv_icmp_ne (tgt := 158) hx hb (by omega) (by omega) dX12_read_137 (by decide) (fun c137 => ?_) (fun c137 => ?_)
                        · skip
                          refine lv_iconst (v := (nI 0)) hx hb dX12_read_158 (by decide) ?_
                          refine W.eq (g2 := F0 m 159 ls [.int (bI (false = true))]) (by rfl) ?_
                          exact J159 false (⟨fun z => absurd z (by decide), fun z => by have h9 : ¬ _ := fun z => c89 (hpt.mpr z); clear hpt; unfold knQ at z; omega⟩) H locs ls hP hD hS (lv_sub hl [1, 2, 3, 4, 5] rfl)
                        · skip
                          refine lv_iload hx hb dX12_read_140 (lv_at hl 5 rfl) ?_
                          refine lv_bipush (v := (nI 6)) hx hb dX12_read_142 (by decide) ?_
                          refine nv_icmp_eq (tgt := 154) hx hb (by omega) (by omega) dX12_read_144 (by decide) (fun c144 => ?_) (fun c144 => ?_)
                          · skip
                            refine lv_iconst (v := (nI 1)) hx hb dX12_read_154 (by decide) ?_
                            refine lv_goto (tgt := 159) hx hb dX12_read_155 (by decide) ?_
                            refine W.eq (g2 := F0 m 159 ls [.int (bI (true = true))]) (by rfl) ?_
                            exact J159 true (⟨fun _ => by have h9 : ¬ _ := fun z => c89 (hpt.mpr z); clear hpt; unfold knQ; omega, fun _ => rfl⟩) H locs ls hP hD hS (lv_sub hl [1, 2, 3, 4, 5] rfl)
                          · skip
                            refine lv_iload hx hb dX12_read_147 (lv_at hl 5 rfl) ?_
                            refine lv_bipush (v := (nI 7)) hx hb dX12_read_149 (by decide) ?_
                            refine nv_icmp_ne (tgt := 158) hx hb (by omega) (by omega) dX12_read_151 (by decide) (fun c151 => ?_) (fun c151 => ?_)
                            · skip
                              refine lv_iconst (v := (nI 0)) hx hb dX12_read_158 (by decide) ?_
                              refine W.eq (g2 := F0 m 159 ls [.int (bI (false = true))]) (by rfl) ?_
                              exact J159 false (⟨fun z => absurd z (by decide), fun z => by have h9 : ¬ _ := fun z => c89 (hpt.mpr z); clear hpt; unfold knQ at z; omega⟩) H locs ls hP hD hS (lv_sub hl [1, 2, 3, 4, 5] rfl)
                            · skip
                              refine lv_iconst (v := (nI 1)) hx hb dX12_read_154 (by decide) ?_
                              refine lv_goto (tgt := 159) hx hb dX12_read_155 (by decide) ?_
                              refine W.eq (g2 := F0 m 159 ls [.int (bI (true = true))]) (by rfl) ?_
                              exact J159 true (⟨fun _ => by have h9 : ¬ _ := fun z => c89 (hpt.mpr z); clear hpt; unfold knQ; omega, fun _ => rfl⟩) H locs ls hP hD hS (lv_sub hl [1, 2, 3, 4, 5] rfl)
                    · skip
                      refine lv_iload hx hb dX12_read_123 (lv_at hl 5 rfl) ?_
                      refine lv_bipush (v := (nI 6)) hx hb dX12_read_125 (by decide) ?_
                      refine nv_icmp_eq (tgt := 154) hx hb (by omega) (by omega) dX12_read_127 (by decide) (fun c127 => ?_) (fun c127 => ?_)
                      · skip
                        refine lv_iconst (v := (nI 1)) hx hb dX12_read_154 (by decide) ?_
                        refine lv_goto (tgt := 159) hx hb dX12_read_155 (by decide) ?_
                        refine W.eq (g2 := F0 m 159 ls [.int (bI (true = true))]) (by rfl) ?_
                        exact J159 true (⟨fun _ => by have h9 : ¬ _ := fun z => c89 (hpt.mpr z); clear hpt; unfold knQ; omega, fun _ => rfl⟩) H locs ls hP hD hS (lv_sub hl [1, 2, 3, 4, 5] rfl)
                      · skip
                        refine lv_iload_n hx hb dX12_read_130 rfl (lv_at hl 4 rfl) ?_
                        refine lv_iconst (v := (nI 2)) hx hb dX12_read_131 (by decide) ?_
                        refine nv_icmp_eq (tgt := 140) hx hb (by omega) (by omega) dX12_read_132 (by decide) (fun c132 => ?_) (fun c132 => ?_)
                        · exfalso; omega
                        · skip
                          refine lv_iload_n hx hb dX12_read_135 rfl (lv_at hl 4 rfl) ?_
                          refine lv_iconst (v := (nI 3)) hx hb dX12_read_136 (by decide) ?_
                          refine nv_icmp_ne (tgt := 158) hx hb (by omega) (by omega) dX12_read_137 (by decide) (fun c137 => ?_) (fun c137 => ?_)
                          · skip
                            refine lv_iconst (v := (nI 0)) hx hb dX12_read_158 (by decide) ?_
                            refine W.eq (g2 := F0 m 159 ls [.int (bI (false = true))]) (by rfl) ?_
                            exact J159 false (⟨fun z => absurd z (by decide), fun z => by have h9 : ¬ _ := fun z => c89 (hpt.mpr z); clear hpt; unfold knQ at z; omega⟩) H locs ls hP hD hS (lv_sub hl [1, 2, 3, 4, 5] rfl)
                          · exfalso; omega
                · skip
                  refine lv_iload hx hb dX12_read_92 (lv_at hl 5 rfl) ?_
                  refine nv_if_eq (tgt := 104) hx hb (by omega) dX12_read_94 (by decide) (fun c94 => ?_) (fun c94 => ?_)
                  · skip
                    refine lv_iconst (v := (nI 1)) hx hb dX12_read_104 (by decide) ?_
                    refine lv_goto (tgt := 159) hx hb dX12_read_105 (by decide) ?_
                    refine W.eq (g2 := F0 m 159 ls [.int (bI (true = true))]) (by rfl) ?_
                    exact J159 true (⟨fun _ => by have h9 := hpt.mp c89; clear hpt; unfold knQ; omega, fun _ => rfl⟩) H locs ls hP hD hS (lv_sub hl [1, 2, 3, 4, 5] rfl)
                  · skip
                    refine lv_iload hx hb dX12_read_97 (lv_at hl 5 rfl) ?_
                    refine lv_bipush (v := (nI 6)) hx hb dX12_read_99 (by decide) ?_
                    refine nv_icmp_ne (tgt := 108) hx hb (by omega) (by omega) dX12_read_101 (by decide) (fun c101 => ?_) (fun c101 => ?_)
                    · skip
                      refine lv_iconst (v := (nI 0)) hx hb dX12_read_108 (by decide) ?_
                      refine lv_goto (tgt := 159) hx hb dX12_read_109 (by decide) ?_
                      refine W.eq (g2 := F0 m 159 ls [.int (bI (false = true))]) (by rfl) ?_
                      exact J159 false (⟨fun z => absurd z (by decide), fun z => by have h9 := hpt.mp c89; clear hpt; unfold knQ at z; omega⟩) H locs ls hP hD hS (lv_sub hl [1, 2, 3, 4, 5] rfl)
                    · skip
                      refine lv_iconst (v := (nI 1)) hx hb dX12_read_104 (by decide) ?_
                      refine lv_goto (tgt := 159) hx hb dX12_read_105 (by decide) ?_
                      refine W.eq (g2 := F0 m 159 ls [.int (bI (true = true))]) (by rfl) ?_
                      exact J159 true (⟨fun _ => by have h9 := hpt.mp c89; clear hpt; unfold knQ; omega, fun _ => rfl⟩) H locs ls hP hD hS (lv_sub hl [1, 2, 3, 4, 5] rfl)
              refine lv_iload_n hx hb dX12_read_59 rfl (lv_at hl 2 rfl) ?_
              refine lv_iconst (v := (nI 1)) hx hb dX12_read_60 (by decide) ?_
              refine nv_icmp_ne (tgt := 69) hx hb (by omega) (by omega) dX12_read_61 (by decide) (fun c61 => ?_) (fun c61 => ?_)
              · skip
                refine lv_iload_n hx hb dX12_read_69 rfl (lv_at hl 2 rfl) ?_
                refine lv_bipush (v := (nI 30)) hx hb dX12_read_70 (by decide) ?_
                refine nv_icmp_ne (tgt := 84) hx hb (by omega) (by omega) dX12_read_72 (by decide) (fun c72 => ?_) (fun c72 => ?_)
                · skip
                  refine lv_iconst (v := (nI 0)) hx hb dX12_read_84 (by decide) ?_
                  refine W.eq (g2 := F0 m 85 ls [.int (bI (false = true))]) (by rfl) ?_
                  exact J85 false (by first | exact ⟨fun _ => by omega, fun _ => rfl⟩ | exact ⟨fun z => absurd z (by decide), fun z => by omega⟩) H locs ls hP hD hS (lv_sub hl [3, 4, 2, 1, 0] rfl)
                · skip
                  refine lv_iload_n hx hb dX12_read_75 rfl (lv_at hl 1 rfl) ?_
                  refine lv_iconst (v := (nI 1)) hx hb dX12_read_76 (by decide) ?_
                  refine nv_icmp_ne (tgt := 84) hx hb (by omega) (by omega) dX12_read_77 (by decide) (fun c77 => ?_) (fun c77 => ?_)
                  · skip
                    refine lv_iconst (v := (nI 0)) hx hb dX12_read_84 (by decide) ?_
                    refine W.eq (g2 := F0 m 85 ls [.int (bI (false = true))]) (by rfl) ?_
                    exact J85 false (by first | exact ⟨fun _ => by omega, fun _ => rfl⟩ | exact ⟨fun z => absurd z (by decide), fun z => by omega⟩) H locs ls hP hD hS (lv_sub hl [3, 4, 2, 1, 0] rfl)
                  · skip
                    refine lv_iconst (v := (nI 1)) hx hb dX12_read_80 (by decide) ?_
                    refine lv_goto (tgt := 85) hx hb dX12_read_81 (by decide) ?_
                    refine W.eq (g2 := F0 m 85 ls [.int (bI (true = true))]) (by rfl) ?_
                    exact J85 true (by first | exact ⟨fun _ => by omega, fun _ => rfl⟩ | exact ⟨fun z => absurd z (by decide), fun z => by omega⟩) H locs ls hP hD hS (lv_sub hl [3, 4, 2, 1, 0] rfl)
              · skip
                refine lv_iload_n hx hb dX12_read_64 rfl (lv_at hl 1 rfl) ?_
                refine lv_iconst (v := (nI 2)) hx hb dX12_read_65 (by decide) ?_
                refine nv_icmp_eq (tgt := 80) hx hb (by omega) (by omega) dX12_read_66 (by decide) (fun c66 => ?_) (fun c66 => ?_)
                · skip
                  refine lv_iconst (v := (nI 1)) hx hb dX12_read_80 (by decide) ?_
                  refine lv_goto (tgt := 85) hx hb dX12_read_81 (by decide) ?_
                  refine W.eq (g2 := F0 m 85 ls [.int (bI (true = true))]) (by rfl) ?_
                  exact J85 true (by first | exact ⟨fun _ => by omega, fun _ => rfl⟩ | exact ⟨fun z => absurd z (by decide), fun z => by omega⟩) H locs ls hP hD hS (lv_sub hl [3, 4, 2, 1, 0] rfl)
                · skip
                  refine lv_iload_n hx hb dX12_read_69 rfl (lv_at hl 2 rfl) ?_
                  refine lv_bipush (v := (nI 30)) hx hb dX12_read_70 (by decide) ?_
                  refine nv_icmp_ne (tgt := 84) hx hb (by omega) (by omega) dX12_read_72 (by decide) (fun c72 => ?_) (fun c72 => ?_)
                  · skip
                    refine lv_iconst (v := (nI 0)) hx hb dX12_read_84 (by decide) ?_
                    refine W.eq (g2 := F0 m 85 ls [.int (bI (false = true))]) (by rfl) ?_
                    exact J85 false (by first | exact ⟨fun _ => by omega, fun _ => rfl⟩ | exact ⟨fun z => absurd z (by decide), fun z => by omega⟩) H locs ls hP hD hS (lv_sub hl [3, 4, 2, 1, 0] rfl)
                  · skip
                    refine lv_iload_n hx hb dX12_read_75 rfl (lv_at hl 1 rfl) ?_
                    refine lv_iconst (v := (nI 1)) hx hb dX12_read_76 (by decide) ?_
                    refine nv_icmp_ne (tgt := 84) hx hb (by omega) (by omega) dX12_read_77 (by decide) (fun c77 => ?_) (fun c77 => ?_)
                    · skip
                      refine lv_iconst (v := (nI 0)) hx hb dX12_read_84 (by decide) ?_
                      refine W.eq (g2 := F0 m 85 ls [.int (bI (false = true))]) (by rfl) ?_
                      exact J85 false (by first | exact ⟨fun _ => by omega, fun _ => rfl⟩ | exact ⟨fun z => absurd z (by decide), fun z => by omega⟩) H locs ls hP hD hS (lv_sub hl [3, 4, 2, 1, 0] rfl)
                    · skip
                      refine lv_iconst (v := (nI 1)) hx hb dX12_read_80 (by decide) ?_
                      refine lv_goto (tgt := 85) hx hb dX12_read_81 (by decide) ?_
                      refine W.eq (g2 := F0 m 85 ls [.int (bI (true = true))]) (by rfl) ?_
                      exact J85 true (by first | exact ⟨fun _ => by omega, fun _ => rfl⟩ | exact ⟨fun z => absurd z (by decide), fun z => by omega⟩) H locs ls hP hD hS (lv_sub hl [3, 4, 2, 1, 0] rfl)
            · skip
              refine lv_aload_n hx hb dX12_read_27 rfl (lv_at hl 0 rfl) ?_
              refine lv_iconst (v := (nI 4)) hx hb dX12_read_28 (by decide) ?_
              refine va_put (D := D) (ci := 12) (v := .int (nI 4)) (ty := .int) (C := RX12) (T := TX12) (N := 32) hx hb hts inX12_ tyX12 tyX12_ok nmX12 hown hK hP hD hS 0 rfl rfl 25 (by decide) fl129 (fun _ h9 => h9) rfl (by decide +kernel) rfl rfl (Nat.le_of_ble_eq_true rfl) dX12_read_29 (fun H locs hP hD hS => ?_)
              have hP : va_P D vwCl [(h0, .inr (12, [m_thrown, .ref va0, .ref ep0, .ref ev0, .ref en0, .ref tk0, m_over, m_lost, m_restart, m_outputs, m_time, m_heard, m_heardSize, m_begun, m_master, m_part, .ref fr0, .int (nI rq.length), m_selected, m_wanted, m_by, m_since, m_confirm, .ref an0, .int (nI an1l.length), .int (nI 4), m_sent, m_sentCount, m_sum, m_number, m_reply, m_replySize])), (an0, .inl (cyI, 80, .inl anf1)), (va0, .inl (cyI, 16, .inl mv)), (en0, .inl (cyI, 2, .inl enf)), (tk0, .inl (cyI, 2, .inl tkf1)), (ep0, .inl (cyI, 12, .inl epf)), (ev0, .inl (cyI, 12, .inl evf)), (fr0, .inl (cyI, 80, .inl rqf))] H := hP
              have hD : va_D A [(h0, .inr (12, [m_thrown, .ref va0, .ref ep0, .ref ev0, .ref en0, .ref tk0, m_over, m_lost, m_restart, m_outputs, m_time, m_heard, m_heardSize, m_begun, m_master, m_part, .ref fr0, .int (nI rq.length), m_selected, m_wanted, m_by, m_since, m_confirm, .ref an0, .int (nI an1l.length), .int (nI 4), m_sent, m_sentCount, m_sum, m_number, m_reply, m_replySize])), (an0, .inl (cyI, 80, .inl anf1)), (va0, .inl (cyI, 16, .inl mv)), (en0, .inl (cyI, 2, .inl enf)), (tk0, .inl (cyI, 2, .inl tkf1)), (ep0, .inl (cyI, 12, .inl epf)), (ev0, .inl (cyI, 12, .inl evf)), (fr0, .inl (cyI, 80, .inl rqf))] := hD
              exact ret_v hQ hx hb hr hlocks dX12_read_32 hK hS (4, an1l, anf1, tkf1, anb1, ana1) (⟨by rw [← hrd]; show _ = rdA _ _ _ _ _ _ _ _; rw [show 60 - hc = (60 - hc - 1) + 1 by omega, rdA_short (by omega) (by omega)], okl, hl62, okb1, oka1⟩) hP hD
  exact L2 _ 2 0 0 an anf tkf anb ana (by decide) (by omega) (by omega) (rfl) (oka) (h62) (okb) (oka2) (Nat.lt_succ_self _) H locs ls hP hD hS (lv_sub hl [1, 0] rfl)
