/-! OWN ROWS, written by wip/gen (walk.py, spec_b.py) -/
set_option maxHeartbeats 4000000 in
set_option maxRecDepth 100000 in
theorem c_X3_state (l : Launch) (D : va_G) (cyI cyZ : ClassId) (h0 rw sm ck ra : Nat) (bl : List Nat) (f : Nat → Int32) (cv : Nat) (ok : okB 56 bl f) (hcvl : cv < 65536) (hck : ckInv bl ck) : Ci l D yX3_state wsX3_state ({ frames := 3, cells := 0, slots := 0, locals := 90 } : Room) [.ref h0] [(h0, .inr (3, [.ref rw, .ref sm, .int (nI ck)])), (rw, .inr (0, [.ref ra, .int (nI bl.length)])), (ra, .inl (cyI, 56, .inl f)), (sm, .inr (10, [.int (nI cv)]))] (tyL cyI cyZ) (fun (r : Int32) (u : Nat × Nat × Nat) => match u with | (sr, ck2, cv2) => r = nI sr ∧ frR bl sr ck2 ∧ cv2 < 65536) (fun u : Nat × Nat × Nat => match u with | (sr, ck2, cv2) => [(h0, .inr (3, [.ref rw, .ref sm, .int (nI ck2)])), (rw, .inr (0, [.ref ra, .int (nI bl.length)])), (ra, .inl (cyI, 56, .inl f)), (sm, .inr (10, [.int (nI cv2)]))]) 0 0 := by
  refine mk_Ct (cc := cX3_state) (maxL := 1) (ret := (some .int)) (by decide) rfl rfl ?_
  intro p e s m below meth c A Q ls hx hb hr hts hown hlocks hml hname hA hN hK hP hD hS hQ hl
  have hl : lv_has ls 1 [(0, .ref h0)] := hl
  have inX3_ : ∀ w ∈ u_ws RX3 TX3 3, w ∈ wsX3_state := fun w h => List.mem_cons_of_mem _ (List.mem_append_left _ (List.mem_append_left _ (List.mem_append_right _ h)))
  have fl27 : (Cond.fieldLink RX3 27 "OutStation$Line" "checked" "I").before ([.ref h0] : List Value).toArray s = true := hts _ (by decide +kernel)
  have fl14 : (Cond.fieldLink RX3 14 "OutStation$Line" "row" "LOutStation$Bytes;").before ([.ref h0] : List Value).toArray s = true := hts _ (by decide +kernel)
  have hown : s.vm.findClass RX3 = some m.cls := hown
  obtain ⟨H, eH9⟩ : ∃ H, H = s.heap := ⟨_, rfl⟩
  have hP : va_P D vwCl [(h0, .inr (3, [.ref rw, .ref sm, .int (nI ck)])), (rw, .inr (0, [.ref ra, .int (nI bl.length)])), (ra, .inl (cyI, 56, .inl f)), (sm, .inr (10, [.int (nI cv)]))] H := by rw [eH9]; exact hP
  have hS : va_S A s.heap H [] := by rw [eH9]; exact hS
  obtain ⟨locs, eL9⟩ : ∃ z : List Loc, z = [] := ⟨_, rfl⟩
  rw [← eH9, ← eL9]
  have hS : va_S A s.heap H locs := by rw [eL9]; exact hS
  obtain ⟨ok1, ok2, ok3, ok4⟩ := id ok
  have hcl : ck < 1000 := ckInv_lt hck ok1
  refine lv_aload_n hx hb dX3_state_0 rfl (lv_at hl 0 rfl) ?_
  refine va_get (D := D) (ci := 3) (v := .int (nI ck)) (C := RX3) (T := TX3) (N := 3) hx hb hts inX3_ hown hK hP 0 rfl rfl 2 (by decide) fl27 (fun _ h9 => h9) rfl dX3_state_1 ?_
  refine nv_if_ne (tgt := 48) hx hb (by omega) dX3_state_4 (by decide) (fun c4 => ?_) (fun c4 => ?_)
  · skip
    refine lv_aload_n hx hb dX3_state_48 rfl (lv_at hl 0 rfl) ?_
    refine res_i (wW := [(h0, .inr (3, [.ref rw, .ref sm, .int (nI ck)])), (rw, .inr (0, [.ref ra, .int (nI bl.length)])), (ra, .inl (cyI, 56, .inl f)), (sm, .inr (10, [.int (nI cv)]))]) (Wc := [(h0, .inr (3, [.ref rw, .ref sm, .int (nI ck)])), (rw, .inr (0, [.ref ra, .int (nI bl.length)])), (ra, .inl (cyI, 56, .inl f)), (sm, .inr (10, [.int (nI cv)]))]) (Wr := []) (run_V (QA := fun A => va_Qi _ (bw D _ (tyL cyI cyZ) A) A) (rmC := ({ frames := 2, cells := 0, slots := 0, locals := 60 } : Room)) (mc := 0) (ms := 0) (As := []) (rest := []) (ci := 3) (wW := [(h0, .inr (3, [.ref rw, .ref sm, .int (nI ck)])), (rw, .inr (0, [.ref ra, .int (nI bl.length)])), (ra, .inl (cyI, 56, .inl f)), (sm, .inr (10, [.int (nI cv)]))]) (Wc := [(h0, .inr (3, [.ref rw, .ref sm, .int (nI ck)])), (rw, .inr (0, [.ref ra, .int (nI bl.length)])), (ra, .inl (cyI, 56, .inl f)), (sm, .inr (10, [.int (nI cv)]))]) ⟨hx, hb, hml, hown, hts⟩ (c_X3_stateOfBlocks l D cyI cyZ h0 rw sm ck ra bl f cv (by assumption) (by first | exact hcvl | exact w34.2) (by first | exact hck.resolve_left c4 | exact ckJ_0 c11 c25 c37)) (cwV 0 hts gX3_state_X3_stateOfBlocks rfl rfl rfl (by decide +kernel) ⟨Nat.le_of_ble_eq_true rfl, Nat.le_of_ble_eq_true rfl⟩) hN hK hP hD [0, 1, 2, 3] rfl (by decide) 0 rfl rfl rfl hl.1 rfl rfl dX3_state_49 ⟨Nat.le_of_ble_eq_true rfl, Nat.le_of_ble_eq_true rfl⟩) hP hD hS hA [0, 1, 2, 3] [] rfl rfl (by decide) (by decide) (fun r49 u9 H locs w49 hP hD hS => ?_)
    obtain ⟨sr_49, ck2_49, cv2_49⟩ := u9
    have w49 : r49 = nI sr_49 ∧ frR bl sr_49 ck2_49 ∧ cv2_49 < 65536 := w49
    have hP : va_P D vwCl [(h0, .inr (3, [.ref rw, .ref sm, .int (nI ck2_49)])), (rw, .inr (0, [.ref ra, .int (nI bl.length)])), (ra, .inl (cyI, 56, .inl f)), (sm, .inr (10, [.int (nI cv2_49)]))] H := hP
    have hD : va_D A [(h0, .inr (3, [.ref rw, .ref sm, .int (nI ck2_49)])), (rw, .inr (0, [.ref ra, .int (nI bl.length)])), (ra, .inl (cyI, 56, .inl f)), (sm, .inr (10, [.int (nI cv2_49)]))] := hD
    refine nv_top (y := (nI sr_49)) (w49.1) ?_
    exact ret_i hQ hx hb hr hlocks dX3_state_52 hK hS (sr_49, ck2_49, cv2_49) (⟨rfl, w49.2⟩) hP hD
  · skip
    refine lv_aload_n hx hb dX3_state_7 rfl (lv_at hl 0 rfl) ?_
    refine res_i (wW := [(h0, .inr (3, [.ref rw, .ref sm, .int (nI ck)])), (rw, .inr (0, [.ref ra, .int (nI bl.length)])), (ra, .inl (cyI, 56, .inl f)), (sm, .inr (10, [.int (nI cv)]))]) (Wc := [(h0, .inr (3, [.ref rw, .ref sm, .int (nI ck)])), (rw, .inr (0, [.ref ra, .int (nI bl.length)])), (ra, .inl (cyI, 56, .inl f)), (sm, .inr (10, [.int (nI cv)]))]) (Wr := []) (run_V (QA := fun A => va_Qi _ (bw D _ (tyL cyI cyZ) A) A) (rmC := ({ frames := 1, cells := 0, slots := 0, locals := 24 } : Room)) (mc := 0) (ms := 0) (As := []) (rest := []) (ci := 3) (wW := [(h0, .inr (3, [.ref rw, .ref sm, .int (nI ck)])), (rw, .inr (0, [.ref ra, .int (nI bl.length)])), (ra, .inl (cyI, 56, .inl f)), (sm, .inr (10, [.int (nI cv)]))]) (Wc := [(h0, .inr (3, [.ref rw, .ref sm, .int (nI ck)])), (rw, .inr (0, [.ref ra, .int (nI bl.length)])), (ra, .inl (cyI, 56, .inl f)), (sm, .inr (10, [.int (nI cv)]))]) ⟨hx, hb, hml, hown, hts⟩ (c_X3_beginsOtherwise l D cyI cyZ h0 rw sm ck ra bl f cv (by assumption)) (cwV 0 hts gX3_state_X3_beginsOtherwise rfl rfl rfl (by decide +kernel) ⟨Nat.le_of_ble_eq_true rfl, Nat.le_of_ble_eq_true rfl⟩) hN hK hP hD [0, 1, 2, 3] rfl (by decide) 0 rfl rfl rfl hl.1 rfl rfl dX3_state_8 ⟨Nat.le_of_ble_eq_true rfl, Nat.le_of_ble_eq_true rfl⟩) hP hD hS hA [0, 1, 2, 3] [] rfl rfl (by decide) (by decide) (fun r8 u9 H locs w8 hP hD hS => ?_)
    have w8 : r8 = bI (begBad bl) := w8
    have hP : va_P D vwCl [(h0, .inr (3, [.ref rw, .ref sm, .int (nI ck)])), (rw, .inr (0, [.ref ra, .int (nI bl.length)])), (ra, .inl (cyI, 56, .inl f)), (sm, .inr (10, [.int (nI cv)]))] H := hP
    have hD : va_D A [(h0, .inr (3, [.ref rw, .ref sm, .int (nI ck)])), (rw, .inr (0, [.ref ra, .int (nI bl.length)])), (ra, .inl (cyI, 56, .inl f)), (sm, .inr (10, [.int (nI cv)]))] := hD
    refine nv_top (y := (bI (begBad bl))) (w8) ?_
    refine bv_if_eq (tgt := 16) hx hb dX3_state_11 (by decide) (fun c11 => ?_) (fun c11 => ?_)
    · skip
      refine lv_aload_n hx hb dX3_state_16 rfl (lv_at hl 0 rfl) ?_
      refine va_get (D := D) (ci := 3) (v := .ref rw) (C := RX3) (T := TX3) (N := 3) hx hb hts inX3_ hown hK hP 0 rfl rfl 0 (by decide) fl14 (fun _ h9 => h9) rfl dX3_state_17 ?_
      refine res_i (wW := [(h0, .inr (3, [.ref rw, .ref sm, .int (nI ck)])), (rw, .inr (0, [.ref ra, .int (nI bl.length)])), (ra, .inl (cyI, 56, .inl f)), (sm, .inr (10, [.int (nI cv)]))]) (Wc := [(rw, .inr (0, [.ref ra, .int (nI bl.length)])), (ra, .inl (cyI, 56, .inl f))]) (Wr := [(h0, .inr (3, [.ref rw, .ref sm, .int (nI ck)])), (sm, .inr (10, [.int (nI cv)]))]) (run_V (QA := fun A => va_Qi _ (bw D _ (tyL cyI cyZ) A) A) (rmC := ({ frames := 0, cells := 0, slots := 0, locals := 0 } : Room)) (mc := 0) (ms := 0) (As := []) (rest := []) (ci := 0) (wW := [(h0, .inr (3, [.ref rw, .ref sm, .int (nI ck)])), (rw, .inr (0, [.ref ra, .int (nI bl.length)])), (ra, .inl (cyI, 56, .inl f)), (sm, .inr (10, [.int (nI cv)]))]) (Wc := [(rw, .inr (0, [.ref ra, .int (nI bl.length)])), (ra, .inl (cyI, 56, .inl f))]) ⟨hx, hb, hml, hown, hts⟩ (c_X0_length l D cyI cyZ rw ra 56 bl f ) (cwV 0 hts gX3_state_X0_length rfl rfl rfl (by decide +kernel) ⟨Nat.le_of_ble_eq_true rfl, Nat.le_of_ble_eq_true rfl⟩) hN hK hP hD [1, 2] rfl (by decide) 1 rfl rfl rfl hl.1 rfl rfl dX3_state_20 ⟨Nat.le_of_ble_eq_true rfl, Nat.le_of_ble_eq_true rfl⟩) hP hD hS hA [1, 2] [0, 3] rfl rfl (by decide) (by decide) (fun r20 u9 H locs w20 hP hD hS => ?_)
      have w20 : r20 = nI bl.length := w20
      have hP : va_P D vwCl [(h0, .inr (3, [.ref rw, .ref sm, .int (nI ck)])), (sm, .inr (10, [.int (nI cv)])), (rw, .inr (0, [.ref ra, .int (nI bl.length)])), (ra, .inl (cyI, 56, .inl f))] H := hP
      have hD : va_D A [(h0, .inr (3, [.ref rw, .ref sm, .int (nI ck)])), (sm, .inr (10, [.int (nI cv)])), (rw, .inr (0, [.ref ra, .int (nI bl.length)])), (ra, .inl (cyI, 56, .inl f))] := hD
      refine nv_top (y := (nI bl.length)) (w20) ?_
      refine lv_bipush (v := (nI 10)) hx hb dX3_state_23 (by decide) ?_
      refine nv_icmp_ge (tgt := 30) hx hb (by omega) (by omega) dX3_state_25 (by decide) (fun c25 => ?_) (fun c25 => ?_)
      · skip
        refine lv_aload_n hx hb dX3_state_30 rfl (lv_at hl 0 rfl) ?_
        refine lv_iconst (v := (nI 0)) hx hb dX3_state_31 (by decide) ?_
        refine lv_bipush (v := (nI 8)) hx hb dX3_state_32 (by decide) ?_
        refine res_i (wW := [(h0, .inr (3, [.ref rw, .ref sm, .int (nI ck)])), (sm, .inr (10, [.int (nI cv)])), (rw, .inr (0, [.ref ra, .int (nI bl.length)])), (ra, .inl (cyI, 56, .inl f))]) (Wc := [(h0, .inr (3, [.ref rw, .ref sm, .int (nI ck)])), (rw, .inr (0, [.ref ra, .int (nI bl.length)])), (ra, .inl (cyI, 56, .inl f)), (sm, .inr (10, [.int (nI cv)]))]) (Wr := []) (run_V (QA := fun A => va_Qi _ (bw D _ (tyL cyI cyZ) A) A) (rmC := ({ frames := 1, cells := 0, slots := 0, locals := 24 } : Room)) (mc := 0) (ms := 0) (As := [.int (nI 0), .int (nI 8)]) (rest := []) (ci := 3) (wW := [(h0, .inr (3, [.ref rw, .ref sm, .int (nI ck)])), (sm, .inr (10, [.int (nI cv)])), (rw, .inr (0, [.ref ra, .int (nI bl.length)])), (ra, .inl (cyI, 56, .inl f))]) (Wc := [(h0, .inr (3, [.ref rw, .ref sm, .int (nI ck)])), (rw, .inr (0, [.ref ra, .int (nI bl.length)])), (ra, .inl (cyI, 56, .inl f)), (sm, .inr (10, [.int (nI cv)]))]) ⟨hx, hb, hml, hown, hts⟩ (c_X3_sumIsRight l D cyI cyZ h0 rw sm ck ra bl f cv 0 8 (by assumption) (by omega)) (cwV 2 hts gX3_state_X3_sumIsRight rfl rfl rfl (by decide +kernel) ⟨Nat.le_of_ble_eq_true rfl, Nat.le_of_ble_eq_true rfl⟩) hN hK hP hD [0, 2, 3, 1] rfl (by decide) 0 rfl rfl rfl hl.1 rfl rfl dX3_state_34 ⟨Nat.le_of_ble_eq_true rfl, Nat.le_of_ble_eq_true rfl⟩) hP hD hS hA [0, 2, 3, 1] [] rfl rfl (by decide) (by decide) (fun r34 u9 H locs w34 hP hD hS => ?_)
        have w34 : r34 = bI (sumOK bl 0 8) ∧ crcR bl 0 8 < 65536 := w34
        have hP : va_P D vwCl [(h0, .inr (3, [.ref rw, .ref sm, .int (nI ck)])), (rw, .inr (0, [.ref ra, .int (nI bl.length)])), (ra, .inl (cyI, 56, .inl f)), (sm, .inr (10, [.int (nI (crcR bl 0 8))]))] H := hP
        have hD : va_D A [(h0, .inr (3, [.ref rw, .ref sm, .int (nI ck)])), (rw, .inr (0, [.ref ra, .int (nI bl.length)])), (ra, .inl (cyI, 56, .inl f)), (sm, .inr (10, [.int (nI (crcR bl 0 8))]))] := hD
        refine nv_top (y := (bI (sumOK bl 0 8))) (w34.1) ?_
        refine bv_if_ne (tgt := 42) hx hb dX3_state_37 (by decide) (fun c37 => ?_) (fun c37 => ?_)
        · skip
          refine lv_aload_n hx hb dX3_state_42 rfl (lv_at hl 0 rfl) ?_
          refine lv_bipush (v := (nI 10)) hx hb dX3_state_43 (by decide) ?_
          refine va_put (D := D) (ci := 3) (v := .int (nI 10)) (ty := .int) (C := RX3) (T := TX3) (N := 3) hx hb hts inX3_ tyX3 tyX3_ok nmX3 hown hK hP hD hS 0 rfl rfl 2 (by decide) fl27 (fun _ h9 => h9) rfl (by decide +kernel) rfl rfl (Nat.le_of_ble_eq_true rfl) dX3_state_45 (fun H locs hP hD hS => ?_)
          have hP : va_P D vwCl [(h0, .inr (3, [.ref rw, .ref sm, .int (nI 10)])), (rw, .inr (0, [.ref ra, .int (nI bl.length)])), (ra, .inl (cyI, 56, .inl f)), (sm, .inr (10, [.int (nI (crcR bl 0 8))]))] H := hP
          have hD : va_D A [(h0, .inr (3, [.ref rw, .ref sm, .int (nI 10)])), (rw, .inr (0, [.ref ra, .int (nI bl.length)])), (ra, .inl (cyI, 56, .inl f)), (sm, .inr (10, [.int (nI (crcR bl 0 8))]))] := hD
          refine lv_aload_n hx hb dX3_state_48 rfl (lv_at hl 0 rfl) ?_
          refine res_i (wW := [(h0, .inr (3, [.ref rw, .ref sm, .int (nI 10)])), (rw, .inr (0, [.ref ra, .int (nI bl.length)])), (ra, .inl (cyI, 56, .inl f)), (sm, .inr (10, [.int (nI (crcR bl 0 8))]))]) (Wc := [(h0, .inr (3, [.ref rw, .ref sm, .int (nI 10)])), (rw, .inr (0, [.ref ra, .int (nI bl.length)])), (ra, .inl (cyI, 56, .inl f)), (sm, .inr (10, [.int (nI (crcR bl 0 8))]))]) (Wr := []) (run_V (QA := fun A => va_Qi _ (bw D _ (tyL cyI cyZ) A) A) (rmC := ({ frames := 2, cells := 0, slots := 0, locals := 60 } : Room)) (mc := 0) (ms := 0) (As := []) (rest := []) (ci := 3) (wW := [(h0, .inr (3, [.ref rw, .ref sm, .int (nI 10)])), (rw, .inr (0, [.ref ra, .int (nI bl.length)])), (ra, .inl (cyI, 56, .inl f)), (sm, .inr (10, [.int (nI (crcR bl 0 8))]))]) (Wc := [(h0, .inr (3, [.ref rw, .ref sm, .int (nI 10)])), (rw, .inr (0, [.ref ra, .int (nI bl.length)])), (ra, .inl (cyI, 56, .inl f)), (sm, .inr (10, [.int (nI (crcR bl 0 8))]))]) ⟨hx, hb, hml, hown, hts⟩ (c_X3_stateOfBlocks l D cyI cyZ h0 rw sm 10 ra bl f (crcR bl 0 8) (by assumption) (by first | exact hcvl | exact w34.2) (by first | exact hck.resolve_left c4 | exact ckJ_0 c11 c25 c37)) (cwV 0 hts gX3_state_X3_stateOfBlocks rfl rfl rfl (by decide +kernel) ⟨Nat.le_of_ble_eq_true rfl, Nat.le_of_ble_eq_true rfl⟩) hN hK hP hD [0, 1, 2, 3] rfl (by decide) 0 rfl rfl rfl hl.1 rfl rfl dX3_state_49 ⟨Nat.le_of_ble_eq_true rfl, Nat.le_of_ble_eq_true rfl⟩) hP hD hS hA [0, 1, 2, 3] [] rfl rfl (by decide) (by decide) (fun r49_1 u9 H locs w49 hP hD hS => ?_)
          obtain ⟨sr_49_1, ck2_49_1, cv2_49_1⟩ := u9
          have w49 : r49_1 = nI sr_49_1 ∧ frR bl sr_49_1 ck2_49_1 ∧ cv2_49_1 < 65536 := w49
          have hP : va_P D vwCl [(h0, .inr (3, [.ref rw, .ref sm, .int (nI ck2_49_1)])), (rw, .inr (0, [.ref ra, .int (nI bl.length)])), (ra, .inl (cyI, 56, .inl f)), (sm, .inr (10, [.int (nI cv2_49_1)]))] H := hP
          have hD : va_D A [(h0, .inr (3, [.ref rw, .ref sm, .int (nI ck2_49_1)])), (rw, .inr (0, [.ref ra, .int (nI bl.length)])), (ra, .inl (cyI, 56, .inl f)), (sm, .inr (10, [.int (nI cv2_49_1)]))] := hD
          refine nv_top (y := (nI sr_49_1)) (w49.1) ?_
          exact ret_i hQ hx hb hr hlocks dX3_state_52 hK hS (sr_49_1, ck2_49_1, cv2_49_1) (⟨rfl, w49.2⟩) hP hD
        · skip
          refine lv_iconst (v := (nI 0)) hx hb dX3_state_40 (by decide) ?_
          exact ret_i hQ hx hb hr hlocks dX3_state_41 hK hS (0, ck, crcR bl 0 8) (⟨rfl, frR_h c25 c37, w34.2⟩) hP hD
      · skip
        refine lv_iconst (v := (nI 1)) hx hb dX3_state_28 (by decide) ?_
        have hP : va_P D vwCl [(h0, .inr (3, [.ref rw, .ref sm, .int (nI ck)])), (rw, .inr (0, [.ref ra, .int (nI bl.length)])), (ra, .inl (cyI, 56, .inl f)), (sm, .inr (10, [.int (nI cv)]))] H := pickP hP [0, 2, 3, 1] rfl
        have hD : va_D A [(h0, .inr (3, [.ref rw, .ref sm, .int (nI ck)])), (rw, .inr (0, [.ref ra, .int (nI bl.length)])), (ra, .inl (cyI, 56, .inl f)), (sm, .inr (10, [.int (nI cv)]))] := hD.sub [0, 2, 3, 1] (by decide) rfl
        exact ret_i hQ hx hb hr hlocks dX3_state_29 hK hS (1, ck, cv) (⟨rfl, frR_s c11 c25 c4, hcvl⟩) hP hD
    · skip
      refine lv_iconst (v := (nI 0)) hx hb dX3_state_14 (by decide) ?_
      exact ret_i hQ hx hb hr hlocks dX3_state_15 hK hS (0, ck, cv) (⟨rfl, frR_b c11, hcvl⟩) hP hD
set_option maxHeartbeats 4000000 in
set_option maxRecDepth 100000 in
theorem c_X3_findFrame (l : Launch) (D : va_G) (cyI cyZ : ClassId) (h0 rw sm ck ra : Nat) (bl : List Nat) (f : Nat → Int32) (cv : Nat) (ok : okB 56 bl f) (hcvl : cv < 65536) (hck : ckInv bl ck) : Ci l D yX3_findFrame wsX3_findFrame ({ frames := 4, cells := 0, slots := 0, locals := 130 } : Room) [.ref h0] [(h0, .inr (3, [.ref rw, .ref sm, .int (nI ck)])), (rw, .inr (0, [.ref ra, .int (nI bl.length)])), (ra, .inl (cyI, 56, .inl f)), (sm, .inr (10, [.int (nI cv)]))] (tyL cyI cyZ) (fun (r : Int32) (u : List Nat × (Nat → Int32) × Nat × Nat × Bool) => match u with | (bl2, f2, ck2, cv2, wb) => r = bI (wb = true) ∧ cleanR bl bl2 ∧ okB 56 bl2 f2 ∧ cv2 < 65536 ∧ (wb = true ↔ wholeF bl2) ∧ (wb = true → ck2 = allL bl2) ∧ (wb = false → ckInv bl2 ck2)) (fun u : List Nat × (Nat → Int32) × Nat × Nat × Bool => match u with | (bl2, f2, ck2, cv2, wb) => [(h0, .inr (3, [.ref rw, .ref sm, .int (nI ck2)])), (rw, .inr (0, [.ref ra, .int (nI bl2.length)])), (ra, .inl (cyI, 56, .inl f2)), (sm, .inr (10, [.int (nI cv2)]))]) 0 0 := by
  refine mk_Ct (cc := cX3_findFrame) (maxL := 3) (ret := (some .boolean)) (by decide) rfl rfl ?_
  intro p e s m below meth c A Q ls hx hb hr hts hown hlocks hml hname hA hN hK hP hD hS hQ hl
  have hl : lv_has ls 3 [(0, .ref h0)] := hl
  have inX3_ : ∀ w ∈ u_ws RX3 TX3 3, w ∈ wsX3_findFrame := fun w h => List.mem_cons_of_mem _ (List.mem_append_left _ (List.mem_append_left _ (List.mem_append_right _ h)))
  have fl14 : (Cond.fieldLink RX3 14 "OutStation$Line" "row" "LOutStation$Bytes;").before ([.ref h0] : List Value).toArray s = true := hts _ (by decide +kernel)
  have fl27 : (Cond.fieldLink RX3 27 "OutStation$Line" "checked" "I").before ([.ref h0] : List Value).toArray s = true := hts _ (by decide +kernel)
  have hown : s.vm.findClass RX3 = some m.cls := hown
  obtain ⟨H, eH9⟩ : ∃ H, H = s.heap := ⟨_, rfl⟩
  have hP : va_P D vwCl [(h0, .inr (3, [.ref rw, .ref sm, .int (nI ck)])), (rw, .inr (0, [.ref ra, .int (nI bl.length)])), (ra, .inl (cyI, 56, .inl f)), (sm, .inr (10, [.int (nI cv)]))] H := by rw [eH9]; exact hP
  have hS : va_S A s.heap H [] := by rw [eH9]; exact hS
  obtain ⟨locs, eL9⟩ : ∃ z : List Loc, z = [] := ⟨_, rfl⟩
  rw [← eH9, ← eL9]
  have hS : va_S A s.heap H locs := by rw [eL9]; exact hS
  obtain ⟨ok1, ok2, ok3, ok4⟩ := id ok
  refine lv_aload_n hx hb dX3_findFrame_0 rfl (lv_at hl 0 rfl) ?_
  refine va_get (D := D) (ci := 3) (v := .ref rw) (C := RX3) (T := TX3) (N := 3) hx hb hts inX3_ hown hK hP 0 rfl rfl 0 (by decide) fl14 (fun _ h9 => h9) rfl dX3_findFrame_1 ?_
  refine res_i (wW := [(h0, .inr (3, [.ref rw, .ref sm, .int (nI ck)])), (rw, .inr (0, [.ref ra, .int (nI bl.length)])), (ra, .inl (cyI, 56, .inl f)), (sm, .inr (10, [.int (nI cv)]))]) (Wc := [(rw, .inr (0, [.ref ra, .int (nI bl.length)])), (ra, .inl (cyI, 56, .inl f))]) (Wr := [(h0, .inr (3, [.ref rw, .ref sm, .int (nI ck)])), (sm, .inr (10, [.int (nI cv)]))]) (run_V (QA := fun A => va_Qi _ (bw D _ (tyL cyI cyZ) A) A) (rmC := ({ frames := 0, cells := 0, slots := 0, locals := 0 } : Room)) (mc := 0) (ms := 0) (As := []) (rest := []) (ci := 0) (wW := [(h0, .inr (3, [.ref rw, .ref sm, .int (nI ck)])), (rw, .inr (0, [.ref ra, .int (nI bl.length)])), (ra, .inl (cyI, 56, .inl f)), (sm, .inr (10, [.int (nI cv)]))]) (Wc := [(rw, .inr (0, [.ref ra, .int (nI bl.length)])), (ra, .inl (cyI, 56, .inl f))]) ⟨hx, hb, hml, hown, hts⟩ (c_X0_length l D cyI cyZ rw ra 56 bl f ) (cwV 0 hts gX3_findFrame_X0_length rfl rfl rfl (by decide +kernel) ⟨Nat.le_of_ble_eq_true rfl, Nat.le_of_ble_eq_true rfl⟩) hN hK hP hD [1, 2] rfl (by decide) 1 rfl rfl rfl hl.1 rfl rfl dX3_findFrame_4 ⟨Nat.le_of_ble_eq_true rfl, Nat.le_of_ble_eq_true rfl⟩) hP hD hS hA [1, 2] [0, 3] rfl rfl (by decide) (by decide) (fun r4 u9 H locs w4 hP hD hS => ?_)
  have w4 : r4 = nI bl.length := w4
  have hP : va_P D vwCl [(h0, .inr (3, [.ref rw, .ref sm, .int (nI ck)])), (sm, .inr (10, [.int (nI cv)])), (rw, .inr (0, [.ref ra, .int (nI bl.length)])), (ra, .inl (cyI, 56, .inl f))] H := hP
  have hD : va_D A [(h0, .inr (3, [.ref rw, .ref sm, .int (nI ck)])), (sm, .inr (10, [.int (nI cv)])), (rw, .inr (0, [.ref ra, .int (nI bl.length)])), (ra, .inl (cyI, 56, .inl f))] := hD
  refine nv_top (y := (nI bl.length)) (w4) ?_
  refine lv_istore_n (lv' := [(1, .int (nI bl.length)), (0, .ref h0)]) hx hb dX3_findFrame_7 rfl hl (by decide) rfl (fun ls hl => ?_)
  have L8 : ∀ (n9 : Nat) (lf : Nat) (bl1 : List Nat) (f1 : Nat → Int32) (ck1 cv1 : Nat), (lf = bl1.length) → (∃ n, bl1 = bl.drop n ∧ n ≤ bl.length ∧ ∀ k, k < n → spoilt (bl.drop k)) → (okB 56 bl1 f1) → (ckInv bl1 ck1) → (cv1 < 65536) → lf < n9 → ∀ (H : Heap) (locs : List Loc) (ls : Array Slot), va_P D vwCl [(h0, .inr (3, [.ref rw, .ref sm, .int (nI ck1)])), (rw, .inr (0, [.ref ra, .int (nI bl1.length)])), (ra, .inl (cyI, 56, .inl f1)), (sm, .inr (10, [.int (nI cv1)]))] H → va_D A [(h0, .inr (3, [.ref rw, .ref sm, .int (nI ck1)])), (rw, .inr (0, [.ref ra, .int (nI bl1.length)])), (ra, .inl (cyI, 56, .inl f1)), (sm, .inr (10, [.int (nI cv1)]))] → va_S A s.heap H locs → lv_has ls 3 [(0, .ref h0), (1, .int (nI lf))] → W p l e ({ frames := 4, cells := 0, slots := 0, locals := 130 } : Room) s m ([.ref h0] : List Value).toArray below meth c H locs 0 0 Q (F0 m 8 ls []) := by
    intro n9
    induction n9 with
    | zero =>
      intro lf bl1 f1 ck1 cv1 hlf hcn okl hck1 hcv1 hm9
      exact absurd hm9 (Nat.not_lt_zero _)
    | succ n9 ih =>
      intro lf bl1 f1 ck1 cv1 hlf hcn okl hck1 hcv1 hm9 H locs ls hP hD hS hl
      obtain ⟨okl1, okl2, okl3, okl4⟩ := id okl
      refine lv_iload_n hx hb dX3_findFrame_8 rfl (lv_at hl 1 rfl) ?_
      refine nv_if_le (tgt := 51) hx hb (by omega) dX3_findFrame_9 (by decide) (fun c9 => ?_) (fun c9 => ?_)
      · skip
        refine lv_iconst (v := (nI 0)) hx hb dX3_findFrame_51 (by decide) ?_
        exact ret_z hQ hx hb hr hlocks dX3_findFrame_52 hK hS (rfl) (bl1, f1, ck1, cv1, false) (⟨rfl, cleanR_end hcn (spoilt_nil (by omega)), okl, hcv1, ⟨fun z => absurd z (by decide), fun z => absurd z (wholeF_nil (by omega))⟩, fun z => absurd z (by decide), fun _ => hck1⟩) hP hD
      · skip
        refine lv_aload_n hx hb dX3_findFrame_12 rfl (lv_at hl 0 rfl) ?_
        refine res_i (wW := [(h0, .inr (3, [.ref rw, .ref sm, .int (nI ck1)])), (rw, .inr (0, [.ref ra, .int (nI bl1.length)])), (ra, .inl (cyI, 56, .inl f1)), (sm, .inr (10, [.int (nI cv1)]))]) (Wc := [(h0, .inr (3, [.ref rw, .ref sm, .int (nI ck1)])), (rw, .inr (0, [.ref ra, .int (nI bl1.length)])), (ra, .inl (cyI, 56, .inl f1)), (sm, .inr (10, [.int (nI cv1)]))]) (Wr := []) (run_V (QA := fun A => va_Qi _ (bw D _ (tyL cyI cyZ) A) A) (rmC := ({ frames := 3, cells := 0, slots := 0, locals := 90 } : Room)) (mc := 0) (ms := 0) (As := []) (rest := []) (ci := 3) (wW := [(h0, .inr (3, [.ref rw, .ref sm, .int (nI ck1)])), (rw, .inr (0, [.ref ra, .int (nI bl1.length)])), (ra, .inl (cyI, 56, .inl f1)), (sm, .inr (10, [.int (nI cv1)]))]) (Wc := [(h0, .inr (3, [.ref rw, .ref sm, .int (nI ck1)])), (rw, .inr (0, [.ref ra, .int (nI bl1.length)])), (ra, .inl (cyI, 56, .inl f1)), (sm, .inr (10, [.int (nI cv1)]))]) ⟨hx, hb, hml, hown, hts⟩ (c_X3_state l D cyI cyZ h0 rw sm ck1 ra bl1 f1 cv1 (okl) (hcv1) (hck1)) (cwV 0 hts gX3_findFrame_X3_state rfl rfl rfl (by decide +kernel) ⟨Nat.le_of_ble_eq_true rfl, Nat.le_of_ble_eq_true rfl⟩) hN hK hP hD [0, 1, 2, 3] rfl (by decide) 0 rfl rfl rfl hl.1 rfl rfl dX3_findFrame_13 ⟨Nat.le_of_ble_eq_true rfl, Nat.le_of_ble_eq_true rfl⟩) hP hD hS hA [0, 1, 2, 3] [] rfl rfl (by decide) (by decide) (fun r13 u9 H locs w13 hP hD hS => ?_)
        obtain ⟨sr_13, ck2_13, cv2_13⟩ := u9
        have w13 : r13 = nI sr_13 ∧ frR bl1 sr_13 ck2_13 ∧ cv2_13 < 65536 := w13
        have hP : va_P D vwCl [(h0, .inr (3, [.ref rw, .ref sm, .int (nI ck2_13)])), (rw, .inr (0, [.ref ra, .int (nI bl1.length)])), (ra, .inl (cyI, 56, .inl f1)), (sm, .inr (10, [.int (nI cv2_13)]))] H := hP
        have hD : va_D A [(h0, .inr (3, [.ref rw, .ref sm, .int (nI ck2_13)])), (rw, .inr (0, [.ref ra, .int (nI bl1.length)])), (ra, .inl (cyI, 56, .inl f1)), (sm, .inr (10, [.int (nI cv2_13)]))] := hD
        refine nv_top (y := (nI sr_13)) (w13.1) ?_
        refine lv_istore_n (lv' := [(2, .int (nI sr_13)), (0, .ref h0), (1, .int (nI lf))]) hx hb dX3_findFrame_16 rfl hl (by decide) rfl (fun ls hl => ?_)
        have hsr := w13.2.1.1
        refine lv_iload_n hx hb dX3_findFrame_17 rfl (lv_at hl 0 rfl) ?_
        refine nv_if_eq (tgt := 32) hx hb (by omega) dX3_findFrame_18 (by decide) (fun c18 => ?_) (fun c18 => ?_)
        · skip
          refine lv_aload_n hx hb dX3_findFrame_32 rfl (lv_at hl 1 rfl) ?_
          refine va_get (D := D) (ci := 3) (v := .ref rw) (C := RX3) (T := TX3) (N := 3) hx hb hts inX3_ hown hK hP 0 rfl rfl 0 (by decide) fl14 (fun _ h9 => h9) rfl dX3_findFrame_33 ?_
          refine lv_iconst (v := (nI 1)) hx hb dX3_findFrame_36 (by decide) ?_
          refine res_v (wW := [(h0, .inr (3, [.ref rw, .ref sm, .int (nI ck2_13)])), (rw, .inr (0, [.ref ra, .int (nI bl1.length)])), (ra, .inl (cyI, 56, .inl f1)), (sm, .inr (10, [.int (nI cv2_13)]))]) (Wc := [(rw, .inr (0, [.ref ra, .int (nI bl1.length)])), (ra, .inl (cyI, 56, .inl f1))]) (Wr := [(h0, .inr (3, [.ref rw, .ref sm, .int (nI ck2_13)])), (sm, .inr (10, [.int (nI cv2_13)]))]) (run_V (QA := fun A => va_Qv _ (bw D _ (tyL cyI cyZ) A) A) (rmC := ({ frames := 1, cells := 0, slots := 0, locals := 60 } : Room)) (mc := 0) (ms := 0) (As := [.int (nI 1)]) (rest := []) (ci := 0) (wW := [(h0, .inr (3, [.ref rw, .ref sm, .int (nI ck2_13)])), (rw, .inr (0, [.ref ra, .int (nI bl1.length)])), (ra, .inl (cyI, 56, .inl f1)), (sm, .inr (10, [.int (nI cv2_13)]))]) (Wc := [(rw, .inr (0, [.ref ra, .int (nI bl1.length)])), (ra, .inl (cyI, 56, .inl f1))]) ⟨hx, hb, hml, hown, hts⟩ (c_X0_dropFirst l D cyI cyZ rw ra 56 bl1 f1 1 (okl) (by omega)) (cwV 1 hts gX3_findFrame_X0_dropFirst rfl rfl rfl (by decide +kernel) ⟨Nat.le_of_ble_eq_true rfl, Nat.le_of_ble_eq_true rfl⟩) hN hK hP hD [1, 2] rfl (by decide) 1 rfl rfl rfl hl.1 rfl rfl dX3_findFrame_37 ⟨Nat.le_of_ble_eq_true rfl, Nat.le_of_ble_eq_true rfl⟩) hP hD hS hA [1, 2] [0, 3] rfl rfl (by decide) (by decide) (fun f2_37 H locs w37 hP hD hS => ?_)
          have w37 : okB 56 (bl1.drop 1) f2_37 := w37
          have hP : va_P D vwCl [(h0, .inr (3, [.ref rw, .ref sm, .int (nI ck2_13)])), (sm, .inr (10, [.int (nI cv2_13)])), (rw, .inr (0, [.ref ra, .int (nI ((bl1.drop 1).length))])), (ra, .inl (cyI, 56, .inl f2_37))] H := hP
          have hD : va_D A [(h0, .inr (3, [.ref rw, .ref sm, .int (nI ck2_13)])), (sm, .inr (10, [.int (nI cv2_13)])), (rw, .inr (0, [.ref ra, .int (nI ((bl1.drop 1).length))])), (ra, .inl (cyI, 56, .inl f2_37))] := hD
          refine lv_aload_n hx hb dX3_findFrame_40 rfl (lv_at hl 1 rfl) ?_
          refine lv_iconst (v := (nI 0)) hx hb dX3_findFrame_41 (by decide) ?_
          refine va_put (D := D) (ci := 3) (v := .int (nI 0)) (ty := .int) (C := RX3) (T := TX3) (N := 3) hx hb hts inX3_ tyX3 tyX3_ok nmX3 hown hK hP hD hS 0 rfl rfl 2 (by decide) fl27 (fun _ h9 => h9) rfl (by decide +kernel) rfl rfl (Nat.le_of_ble_eq_true rfl) dX3_findFrame_42 (fun H locs hP hD hS => ?_)
          have hP : va_P D vwCl [(h0, .inr (3, [.ref rw, .ref sm, .int (nI 0)])), (sm, .inr (10, [.int (nI cv2_13)])), (rw, .inr (0, [.ref ra, .int (nI ((bl1.drop 1).length))])), (ra, .inl (cyI, 56, .inl f2_37))] H := hP
          have hD : va_D A [(h0, .inr (3, [.ref rw, .ref sm, .int (nI 0)])), (sm, .inr (10, [.int (nI cv2_13)])), (rw, .inr (0, [.ref ra, .int (nI ((bl1.drop 1).length))])), (ra, .inl (cyI, 56, .inl f2_37))] := hD
          refine lv_iinc (v := (nI (lf - 1))) (lv' := [(1, .int (nI (lf - 1))), (2, .int (nI sr_13)), (0, .ref h0)]) hx hb dX3_findFrame_45 hl (k := 2) rfl (by rw [show Int32.ofInt (-1) = -(nI 1) from by decide]; exact nI_subl (by omega)) (by decide) rfl (fun ls hl => ?_)
          refine lv_goto (tgt := 8) hx hb dX3_findFrame_48 (by decide) ?_
          have hP : va_P D vwCl [(h0, .inr (3, [.ref rw, .ref sm, .int (nI 0)])), (rw, .inr (0, [.ref ra, .int (nI ((bl1.drop 1).length))])), (ra, .inl (cyI, 56, .inl f2_37)), (sm, .inr (10, [.int (nI cv2_13)]))] H := pickP hP [0, 2, 3, 1] rfl
          have hD : va_D A [(h0, .inr (3, [.ref rw, .ref sm, .int (nI 0)])), (rw, .inr (0, [.ref ra, .int (nI ((bl1.drop 1).length))])), (ra, .inl (cyI, 56, .inl f2_37)), (sm, .inr (10, [.int (nI cv2_13)]))] := hD.sub [0, 2, 3, 1] (by decide) rfl
          exact ih (lf - 1) (bl1.drop 1) f2_37 0 cv2_13 (by rw [List.length_drop, hlf]) (cleanR_step hcn (w13.2.1.2.1.mp c18) (by omega)) (w37) (Or.inl rfl) (w13.2.2) (by omega) H locs ls hP hD hS (lv_sub hl [2, 0] rfl)
        · skip
          refine lv_iload_n hx hb dX3_findFrame_21 rfl (lv_at hl 0 rfl) ?_
          refine lv_iconst (v := (nI 2)) hx hb dX3_findFrame_22 (by decide) ?_
          refine nv_icmp_ne (tgt := 30) hx hb (by omega) (by omega) dX3_findFrame_23 (by decide) (fun c23 => ?_) (fun c23 => ?_)
          · skip
            refine lv_iconst (v := (nI 0)) hx hb dX3_findFrame_30 (by decide) ?_
            exact ret_z hQ hx hb hr hlocks dX3_findFrame_31 hK hS (rfl) (bl1, f1, ck2_13, cv2_13, false) (⟨rfl, cleanR_end hcn (fun z => c18 (w13.2.1.2.1.mpr z)), okl, w13.2.2, ⟨fun z => absurd z (by decide), fun z => absurd (w13.2.1.2.2.1.mpr z) c23⟩, fun z => absurd z (by decide), fun _ => w13.2.1.2.2.2.1 (by omega)⟩) hP hD
          · skip
            refine lv_iconst (v := (nI 1)) hx hb dX3_findFrame_26 (by decide) ?_
            refine lv_goto (tgt := 31) hx hb dX3_findFrame_27 (by decide) ?_
            exact ret_z hQ hx hb hr hlocks dX3_findFrame_31 hK hS (rfl) (bl1, f1, ck2_13, cv2_13, true) (⟨rfl, cleanR_end hcn (fun z => c18 (w13.2.1.2.1.mpr z)), okl, w13.2.2, ⟨fun _ => w13.2.1.2.2.1.mp c23, fun _ => rfl⟩, fun _ => w13.2.1.2.2.2.2 c23, fun z => absurd z (by decide)⟩) hP hD
  have hP : va_P D vwCl [(h0, .inr (3, [.ref rw, .ref sm, .int (nI ck)])), (rw, .inr (0, [.ref ra, .int (nI bl.length)])), (ra, .inl (cyI, 56, .inl f)), (sm, .inr (10, [.int (nI cv)]))] H := pickP hP [0, 2, 3, 1] rfl
  have hD : va_D A [(h0, .inr (3, [.ref rw, .ref sm, .int (nI ck)])), (rw, .inr (0, [.ref ra, .int (nI bl.length)])), (ra, .inl (cyI, 56, .inl f)), (sm, .inr (10, [.int (nI cv)]))] := hD.sub [0, 2, 3, 1] (by decide) rfl
  exact L8 _ bl.length bl f ck cv (rfl) (⟨0, rfl, Nat.zero_le _, fun k hk => absurd hk (Nat.not_lt_zero _)⟩) (ok) (hck) (hcvl) (Nat.lt_succ_self _) H locs ls hP hD hS (lv_sub hl [1, 0] rfl)
