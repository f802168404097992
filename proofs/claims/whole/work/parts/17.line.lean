/-! OWN ROWS, written by wip/gen (walk.py, spec_b.py) -/
set_option maxHeartbeats 4000000 in
set_option maxRecDepth 100000 in
theorem c_X3_length (l : Launch) (D : va_G) (cyI cyZ : ClassId) (h0 rw sm ck ra : Nat) (bl : List Nat) (f : Nat → Int32) (cv : Nat) : Ci l D yX3_length wsX3_length ({ frames := 1, cells := 0, slots := 0, locals := 24 } : Room) [.ref h0] [(h0, .inr (3, [.ref rw, .ref sm, .int (nI ck)])), (rw, .inr (0, [.ref ra, .int (nI bl.length)])), (ra, .inl (cyI, 56, .inl f)), (sm, .inr (10, [.int (nI cv)]))] (tyL cyI cyZ) (fun (r : Int32) (_ : Unit) => r = nI bl.length) (fun _ : Unit => [(h0, .inr (3, [.ref rw, .ref sm, .int (nI ck)])), (rw, .inr (0, [.ref ra, .int (nI bl.length)])), (ra, .inl (cyI, 56, .inl f)), (sm, .inr (10, [.int (nI cv)]))]) 0 0 := by
  refine mk_Ct (cc := cX3_length) (maxL := 1) (ret := (some .int)) (by decide) rfl rfl ?_
  intro p e s m below meth c A Q ls hx hb hr hts hown hlocks hml hname hA hN hK hP hD hS hQ hl
  have hl : lv_has ls 1 [(0, .ref h0)] := hl
  have inX3_ : ∀ w ∈ u_ws RX3 TX3 3, w ∈ wsX3_length := fun w h => List.mem_cons_of_mem _ (List.mem_append_left _ (List.mem_append_right _ h))
  have fl14 : (Cond.fieldLink RX3 14 "OutStation$Line" "row" "LOutStation$Bytes;").before ([.ref h0] : List Value).toArray s = true := hts _ (by decide +kernel)
  have hown : s.vm.findClass RX3 = some m.cls := hown
  obtain ⟨H, eH9⟩ : ∃ H, H = s.heap := ⟨_, rfl⟩
  have hP : va_P D vwCl [(h0, .inr (3, [.ref rw, .ref sm, .int (nI ck)])), (rw, .inr (0, [.ref ra, .int (nI bl.length)])), (ra, .inl (cyI, 56, .inl f)), (sm, .inr (10, [.int (nI cv)]))] H := by rw [eH9]; exact hP
  have hS : va_S A s.heap H [] := by rw [eH9]; exact hS
  obtain ⟨locs, eL9⟩ : ∃ z : List Loc, z = [] := ⟨_, rfl⟩
  rw [← eH9, ← eL9]
  have hS : va_S A s.heap H locs := by rw [eL9]; exact hS
  refine lv_aload_n hx hb dX3_length_0 rfl (lv_at hl 0 rfl) ?_
  refine va_get (D := D) (ci := 3) (v := .ref rw) (C := RX3) (T := TX3) (N := 3) hx hb hts inX3_ hown hK hP 0 rfl rfl 0 (by decide) fl14 (fun _ h9 => h9) rfl dX3_length_1 ?_
  refine res_i (wW := [(h0, .inr (3, [.ref rw, .ref sm, .int (nI ck)])), (rw, .inr (0, [.ref ra, .int (nI bl.length)])), (ra, .inl (cyI, 56, .inl f)), (sm, .inr (10, [.int (nI cv)]))]) (Wc := [(rw, .inr (0, [.ref ra, .int (nI bl.length)])), (ra, .inl (cyI, 56, .inl f))]) (Wr := [(h0, .inr (3, [.ref rw, .ref sm, .int (nI ck)])), (sm, .inr (10, [.int (nI cv)]))]) (run_V (QA := fun A => va_Qi _ (bw D _ (tyL cyI cyZ) A) A) (rmC := ({ frames := 0, cells := 0, slots := 0, locals := 0 } : Room)) (mc := 0) (ms := 0) (As := []) (rest := []) (ci := 0) (wW := [(h0, .inr (3, [.ref rw, .ref sm, .int (nI ck)])), (rw, .inr (0, [.ref ra, .int (nI bl.length)])), (ra, .inl (cyI, 56, .inl f)), (sm, .inr (10, [.int (nI cv)]))]) (Wc := [(rw, .inr (0, [.ref ra, .int (nI bl.length)])), (ra, .inl (cyI, 56, .inl f))]) ⟨hx, hb, hml, hown, hts⟩ (c_X0_length l D cyI cyZ rw ra 56 bl f ) (cwV 0 hts gX3_length_X0_length rfl rfl rfl (by decide +kernel) ⟨Nat.le_of_ble_eq_true rfl, Nat.le_of_ble_eq_true rfl⟩) hN hK hP hD [1, 2] rfl (by decide) 1 rfl rfl rfl hl.1 rfl rfl dX3_length_4 ⟨Nat.le_of_ble_eq_true rfl, Nat.le_of_ble_eq_true rfl⟩) hP hD hS hA [1, 2] [0, 3] rfl rfl (by decide) (by decide) (fun r4 u9 H locs w4 hP hD hS => ?_)
  have w4 : r4 = nI bl.length := w4
  have hP : va_P D vwCl [(h0, .inr (3, [.ref rw, .ref sm, .int (nI ck)])), (sm, .inr (10, [.int (nI cv)])), (rw, .inr (0, [.ref ra, .int (nI bl.length)])), (ra, .inl (cyI, 56, .inl f))] H := hP
  have hD : va_D A [(h0, .inr (3, [.ref rw, .ref sm, .int (nI ck)])), (sm, .inr (10, [.int (nI cv)])), (rw, .inr (0, [.ref ra, .int (nI bl.length)])), (ra, .inl (cyI, 56, .inl f))] := hD
  refine nv_top (y := (nI bl.length)) (w4) ?_
  have hP : va_P D vwCl [(h0, .inr (3, [.ref rw, .ref sm, .int (nI ck)])), (rw, .inr (0, [.ref ra, .int (nI bl.length)])), (ra, .inl (cyI, 56, .inl f)), (sm, .inr (10, [.int (nI cv)]))] H := pickP hP [0, 2, 3, 1] rfl
  have hD : va_D A [(h0, .inr (3, [.ref rw, .ref sm, .int (nI ck)])), (rw, .inr (0, [.ref ra, .int (nI bl.length)])), (ra, .inl (cyI, 56, .inl f)), (sm, .inr (10, [.int (nI cv)]))] := hD.sub [0, 2, 3, 1] (by decide) rfl
  exact ret_i hQ hx hb hr hlocks dX3_length_7 hK hS () (by first | rfl | assumption | omega) hP hD
set_option maxHeartbeats 4000000 in
set_option maxRecDepth 100000 in
theorem c_X3_bring (l : Launch) (D : va_G) (cyI cyZ : ClassId) (h0 rw sm ck ra : Nat) (bl : List Nat) (f : Nat → Int32) (cv : Nat) (b : Nat) (ok : okB 56 bl f) (hlt : bl.length < 56) (hby : b < 256) : Cv l D yX3_bring wsX3_bring ({ frames := 1, cells := 0, slots := 0, locals := 24 } : Room) [.ref h0, .int (nI b)] [(h0, .inr (3, [.ref rw, .ref sm, .int (nI ck)])), (rw, .inr (0, [.ref ra, .int (nI bl.length)])), (ra, .inl (cyI, 56, .inl f)), (sm, .inr (10, [.int (nI cv)]))] (tyL cyI cyZ) (fun f2 : (Nat → Int32) => okB 56 (bl ++ [b]) f2) (fun f2 : (Nat → Int32) => [(h0, .inr (3, [.ref rw, .ref sm, .int (nI ck)])), (rw, .inr (0, [.ref ra, .int (nI ((bl ++ [b]).length))])), (ra, .inl (cyI, 56, .inl f2)), (sm, .inr (10, [.int (nI cv)]))]) 0 0 := by
  refine mk_Ct (cc := cX3_bring) (maxL := 2) (ret := none) (by decide) rfl rfl ?_
  intro p e s m below meth c A Q ls hx hb hr hts hown hlocks hml hname hA hN hK hP hD hS hQ hl
  have hl : lv_has ls 2 [(0, .ref h0), (1, .int (nI b))] := hl
  have inX3_ : ∀ w ∈ u_ws RX3 TX3 3, w ∈ wsX3_bring := fun w h => List.mem_cons_of_mem _ (List.mem_append_left _ (List.mem_append_right _ h))
  have fl14 : (Cond.fieldLink RX3 14 "OutStation$Line" "row" "LOutStation$Bytes;").before ([.ref h0, .int (nI b)] : List Value).toArray s = true := hts _ (by decide +kernel)
  have hown : s.vm.findClass RX3 = some m.cls := hown
  obtain ⟨H, eH9⟩ : ∃ H, H = s.heap := ⟨_, rfl⟩
  have hP : va_P D vwCl [(h0, .inr (3, [.ref rw, .ref sm, .int (nI ck)])), (rw, .inr (0, [.ref ra, .int (nI bl.length)])), (ra, .inl (cyI, 56, .inl f)), (sm, .inr (10, [.int (nI cv)]))] H := by rw [eH9]; exact hP
  have hS : va_S A s.heap H [] := by rw [eH9]; exact hS
  obtain ⟨locs, eL9⟩ : ∃ z : List Loc, z = [] := ⟨_, rfl⟩
  rw [← eH9, ← eL9]
  have hS : va_S A s.heap H locs := by rw [eL9]; exact hS
  refine lv_aload_n hx hb dX3_bring_0 rfl (lv_at hl 0 rfl) ?_
  refine va_get (D := D) (ci := 3) (v := .ref rw) (C := RX3) (T := TX3) (N := 3) hx hb hts inX3_ hown hK hP 0 rfl rfl 0 (by decide) fl14 (fun _ h9 => h9) rfl dX3_bring_1 ?_
  refine lv_iload_n hx hb dX3_bring_4 rfl (lv_at hl 1 rfl) ?_
  refine res_v (wW := [(h0, .inr (3, [.ref rw, .ref sm, .int (nI ck)])), (rw, .inr (0, [.ref ra, .int (nI bl.length)])), (ra, .inl (cyI, 56, .inl f)), (sm, .inr (10, [.int (nI cv)]))]) (Wc := [(rw, .inr (0, [.ref ra, .int (nI bl.length)])), (ra, .inl (cyI, 56, .inl f))]) (Wr := [(h0, .inr (3, [.ref rw, .ref sm, .int (nI ck)])), (sm, .inr (10, [.int (nI cv)]))]) (run_V (QA := fun A => va_Qv _ (bw D _ (tyL cyI cyZ) A) A) (rmC := ({ frames := 0, cells := 0, slots := 0, locals := 0 } : Room)) (mc := 0) (ms := 0) (As := [.int (nI b)]) (rest := []) (ci := 0) (wW := [(h0, .inr (3, [.ref rw, .ref sm, .int (nI ck)])), (rw, .inr (0, [.ref ra, .int (nI bl.length)])), (ra, .inl (cyI, 56, .inl f)), (sm, .inr (10, [.int (nI cv)]))]) (Wc := [(rw, .inr (0, [.ref ra, .int (nI bl.length)])), (ra, .inl (cyI, 56, .inl f))]) ⟨hx, hb, hml, hown, hts⟩ (c_X0_add_N l D cyI cyZ rw ra 56 bl f b (by assumption) (by omega) (by omega)) (cwV 1 hts gX3_bring_X0_add rfl rfl rfl (by decide +kernel) ⟨Nat.le_of_ble_eq_true rfl, Nat.le_of_ble_eq_true rfl⟩) hN hK hP hD [1, 2] rfl (by decide) 1 rfl rfl rfl hl.1 rfl rfl dX3_bring_5 ⟨Nat.le_of_ble_eq_true rfl, Nat.le_of_ble_eq_true rfl⟩) hP hD hS hA [1, 2] [0, 3] rfl rfl (by decide) (by decide) (fun f2_5 H locs w5 hP hD hS => ?_)
  have w5 : okB 56 (bl ++ [b]) f2_5 := w5
  have hP : va_P D vwCl [(h0, .inr (3, [.ref rw, .ref sm, .int (nI ck)])), (sm, .inr (10, [.int (nI cv)])), (rw, .inr (0, [.ref ra, .int (nI ((bl ++ [b]).length))])), (ra, .inl (cyI, 56, .inl f2_5))] H := hP
  have hD : va_D A [(h0, .inr (3, [.ref rw, .ref sm, .int (nI ck)])), (sm, .inr (10, [.int (nI cv)])), (rw, .inr (0, [.ref ra, .int (nI ((bl ++ [b]).length))])), (ra, .inl (cyI, 56, .inl f2_5))] := hD
  have hP : va_P D vwCl [(h0, .inr (3, [.ref rw, .ref sm, .int (nI ck)])), (rw, .inr (0, [.ref ra, .int (nI ((bl ++ [b]).length))])), (ra, .inl (cyI, 56, .inl f2_5)), (sm, .inr (10, [.int (nI cv)]))] H := pickP hP [0, 2, 3, 1] rfl
  have hD : va_D A [(h0, .inr (3, [.ref rw, .ref sm, .int (nI ck)])), (rw, .inr (0, [.ref ra, .int (nI ((bl ++ [b]).length))])), (ra, .inl (cyI, 56, .inl f2_5)), (sm, .inr (10, [.int (nI cv)]))] := hD.sub [0, 2, 3, 1] (by decide) rfl
  exact ret_v hQ hx hb hr hlocks dX3_bring_8 hK hS f2_5 (w5) hP hD
set_option maxHeartbeats 4000000 in
set_option maxRecDepth 100000 in
theorem c_X3_isForThis (l : Launch) (D : va_G) (cyI cyZ : ClassId) (h0 rw sm ck ra : Nat) (bl : List Nat) (f : Nat → Int32) (cv : Nat) (ok : okB 56 bl f) : Ci l D yX3_isForThis wsX3_isForThis ({ frames := 1, cells := 0, slots := 0, locals := 24 } : Room) [.ref h0] [(h0, .inr (3, [.ref rw, .ref sm, .int (nI ck)])), (rw, .inr (0, [.ref ra, .int (nI bl.length)])), (ra, .inl (cyI, 56, .inl f)), (sm, .inr (10, [.int (nI cv)]))] (tyL cyI cyZ) (fun (r : Int32) (_ : Unit) => r = bI (forThis bl)) (fun _ : Unit => [(h0, .inr (3, [.ref rw, .ref sm, .int (nI ck)])), (rw, .inr (0, [.ref ra, .int (nI bl.length)])), (ra, .inl (cyI, 56, .inl f)), (sm, .inr (10, [.int (nI cv)]))]) 0 0 := by
  refine mk_Ct (cc := cX3_isForThis) (maxL := 1) (ret := (some .boolean)) (by decide) rfl rfl ?_
  intro p e s m below meth c A Q ls hx hb hr hts hown hlocks hml hname hA hN hK hP hD hS hQ hl
  have hl : lv_has ls 1 [(0, .ref h0)] := hl
  have inX3_ : ∀ w ∈ u_ws RX3 TX3 3, w ∈ wsX3_isForThis := fun w h => List.mem_cons_of_mem _ (List.mem_append_left _ (List.mem_append_right _ h))
  have fl14 : (Cond.fieldLink RX3 14 "OutStation$Line" "row" "LOutStation$Bytes;").before ([.ref h0] : List Value).toArray s = true := hts _ (by decide +kernel)
  have hown : s.vm.findClass RX3 = some m.cls := hown
  obtain ⟨H, eH9⟩ : ∃ H, H = s.heap := ⟨_, rfl⟩
  have hP : va_P D vwCl [(h0, .inr (3, [.ref rw, .ref sm, .int (nI ck)])), (rw, .inr (0, [.ref ra, .int (nI bl.length)])), (ra, .inl (cyI, 56, .inl f)), (sm, .inr (10, [.int (nI cv)]))] H := by rw [eH9]; exact hP
  have hS : va_S A s.heap H [] := by rw [eH9]; exact hS
  obtain ⟨locs, eL9⟩ : ∃ z : List Loc, z = [] := ⟨_, rfl⟩
  rw [← eH9, ← eL9]
  have hS : va_S A s.heap H locs := by rw [eL9]; exact hS
  refine lv_aload_n hx hb dX3_isForThis_0 rfl (lv_at hl 0 rfl) ?_
  refine va_get (D := D) (ci := 3) (v := .ref rw) (C := RX3) (T := TX3) (N := 3) hx hb hts inX3_ hown hK hP 0 rfl rfl 0 (by decide) fl14 (fun _ h9 => h9) rfl dX3_isForThis_1 ?_
  refine lv_iconst (v := (nI 3)) hx hb dX3_isForThis_4 (by decide) ?_
  refine res_i (wW := [(h0, .inr (3, [.ref rw, .ref sm, .int (nI ck)])), (rw, .inr (0, [.ref ra, .int (nI bl.length)])), (ra, .inl (cyI, 56, .inl f)), (sm, .inr (10, [.int (nI cv)]))]) (Wc := [(rw, .inr (0, [.ref ra, .int (nI bl.length)])), (ra, .inl (cyI, 56, .inl f))]) (Wr := [(h0, .inr (3, [.ref rw, .ref sm, .int (nI ck)])), (sm, .inr (10, [.int (nI cv)]))]) (run_V (QA := fun A => va_Qi _ (bw D _ (tyL cyI cyZ) A) A) (rmC := ({ frames := 0, cells := 0, slots := 0, locals := 0 } : Room)) (mc := 0) (ms := 0) (As := [.int (nI 3)]) (rest := []) (ci := 0) (wW := [(h0, .inr (3, [.ref rw, .ref sm, .int (nI ck)])), (rw, .inr (0, [.ref ra, .int (nI bl.length)])), (ra, .inl (cyI, 56, .inl f)), (sm, .inr (10, [.int (nI cv)]))]) (Wc := [(rw, .inr (0, [.ref ra, .int (nI bl.length)])), (ra, .inl (cyI, 56, .inl f))]) ⟨hx, hb, hml, hown, hts⟩ (c_X0_at l D cyI cyZ rw ra 56 bl f 3 (by assumption) (by omega)) (cwV 1 hts gX3_isForThis_X0_at rfl rfl rfl (by decide +kernel) ⟨Nat.le_of_ble_eq_true rfl, Nat.le_of_ble_eq_true rfl⟩) hN hK hP hD [1, 2] rfl (by decide) 1 rfl rfl rfl hl.1 rfl rfl dX3_isForThis_5 ⟨Nat.le_of_ble_eq_true rfl, Nat.le_of_ble_eq_true rfl⟩) hP hD hS hA [1, 2] [0, 3] rfl rfl (by decide) (by decide) (fun r5 u9 H locs w5 hP hD hS => ?_)
  have w5 : r5 = nI (bl.getD 3 0) ∧ bl.getD 3 0 < 256 := w5
  have hP : va_P D vwCl [(h0, .inr (3, [.ref rw, .ref sm, .int (nI ck)])), (sm, .inr (10, [.int (nI cv)])), (rw, .inr (0, [.ref ra, .int (nI bl.length)])), (ra, .inl (cyI, 56, .inl f))] H := hP
  have hD : va_D A [(h0, .inr (3, [.ref rw, .ref sm, .int (nI ck)])), (sm, .inr (10, [.int (nI cv)])), (rw, .inr (0, [.ref ra, .int (nI bl.length)])), (ra, .inl (cyI, 56, .inl f))] := hD
  refine nv_top (y := (nI (bl.getD 3 0))) (w5.1) ?_
  refine lv_sipush (v := (nI 196)) hx hb dX3_isForThis_8 (by decide) ?_
  refine nv_icmp_ne (tgt := 44) hx hb (by omega) (by omega) dX3_isForThis_11 (by decide) (fun c11 => ?_) (fun c11 => ?_)
  · skip
    refine lv_iconst (v := (nI 0)) hx hb dX3_isForThis_44 (by decide) ?_
    have hP : va_P D vwCl [(h0, .inr (3, [.ref rw, .ref sm, .int (nI ck)])), (rw, .inr (0, [.ref ra, .int (nI bl.length)])), (ra, .inl (cyI, 56, .inl f)), (sm, .inr (10, [.int (nI cv)]))] H := pickP hP [0, 2, 3, 1] rfl
    have hD : va_D A [(h0, .inr (3, [.ref rw, .ref sm, .int (nI ck)])), (rw, .inr (0, [.ref ra, .int (nI bl.length)])), (ra, .inl (cyI, 56, .inl f)), (sm, .inr (10, [.int (nI cv)]))] := hD.sub [0, 2, 3, 1] (by decide) rfl
    exact ret_z hQ hx hb hr hlocks dX3_isForThis_45 hK hS (rfl) () (by first | exact (bI_t (by unfold forThis; omega)).symm | exact (bI_f (by unfold forThis; omega)).symm) hP hD
  · skip
    refine lv_aload_n hx hb dX3_isForThis_14 rfl (lv_at hl 0 rfl) ?_
    refine va_get (D := D) (ci := 3) (v := .ref rw) (C := RX3) (T := TX3) (N := 3) hx hb hts inX3_ hown hK hP 0 rfl rfl 0 (by decide) fl14 (fun _ h9 => h9) rfl dX3_isForThis_15 ?_
    refine lv_iconst (v := (nI 4)) hx hb dX3_isForThis_18 (by decide) ?_
    refine res_i (wW := [(h0, .inr (3, [.ref rw, .ref sm, .int (nI ck)])), (sm, .inr (10, [.int (nI cv)])), (rw, .inr (0, [.ref ra, .int (nI bl.length)])), (ra, .inl (cyI, 56, .inl f))]) (Wc := [(rw, .inr (0, [.ref ra, .int (nI bl.length)])), (ra, .inl (cyI, 56, .inl f))]) (Wr := [(h0, .inr (3, [.ref rw, .ref sm, .int (nI ck)])), (sm, .inr (10, [.int (nI cv)]))]) (run_V (QA := fun A => va_Qi _ (bw D _ (tyL cyI cyZ) A) A) (rmC := ({ frames := 0, cells := 0, slots := 0, locals := 0 } : Room)) (mc := 0) (ms := 0) (As := [.int (nI 4)]) (rest := []) (ci := 0) (wW := [(h0, .inr (3, [.ref rw, .ref sm, .int (nI ck)])), (sm, .inr (10, [.int (nI cv)])), (rw, .inr (0, [.ref ra, .int (nI bl.length)])), (ra, .inl (cyI, 56, .inl f))]) (Wc := [(rw, .inr (0, [.ref ra, .int (nI bl.length)])), (ra, .inl (cyI, 56, .inl f))]) ⟨hx, hb, hml, hown, hts⟩ (c_X0_at l D cyI cyZ rw ra 56 bl f 4 (by assumption) (by omega)) (cwV 1 hts gX3_isForThis_X0_at rfl rfl rfl (by decide +kernel) ⟨Nat.le_of_ble_eq_true rfl, Nat.le_of_ble_eq_true rfl⟩) hN hK hP hD [2, 3] rfl (by decide) 2 rfl rfl rfl hl.1 rfl rfl dX3_isForThis_19 ⟨Nat.le_of_ble_eq_true rfl, Nat.le_of_ble_eq_true rfl⟩) hP hD hS hA [2, 3] [0, 1] rfl rfl (by decide) (by decide) (fun r19 u9 H locs w19 hP hD hS => ?_)
    have w19 : r19 = nI (bl.getD 4 0) ∧ bl.getD 4 0 < 256 := w19
    have hP : va_P D vwCl [(h0, .inr (3, [.ref rw, .ref sm, .int (nI ck)])), (sm, .inr (10, [.int (nI cv)])), (rw, .inr (0, [.ref ra, .int (nI bl.length)])), (ra, .inl (cyI, 56, .inl f))] H := hP
    have hD : va_D A [(h0, .inr (3, [.ref rw, .ref sm, .int (nI ck)])), (sm, .inr (10, [.int (nI cv)])), (rw, .inr (0, [.ref ra, .int (nI bl.length)])), (ra, .inl (cyI, 56, .inl f))] := hD
    refine nv_top (y := (nI (bl.getD 4 0))) (w19.1) ?_
    refine lv_sipush (v := (nI 256)) hx hb dX3_isForThis_22 (by decide) ?_
    refine lv_aload_n hx hb dX3_isForThis_25 rfl (lv_at hl 0 rfl) ?_
    refine va_get (D := D) (ci := 3) (v := .ref rw) (C := RX3) (T := TX3) (N := 3) hx hb hts inX3_ hown hK hP 0 rfl rfl 0 (by decide) fl14 (fun _ h9 => h9) rfl dX3_isForThis_26 ?_
    refine lv_iconst (v := (nI 5)) hx hb dX3_isForThis_29 (by decide) ?_
    refine res_i (wW := [(h0, .inr (3, [.ref rw, .ref sm, .int (nI ck)])), (sm, .inr (10, [.int (nI cv)])), (rw, .inr (0, [.ref ra, .int (nI bl.length)])), (ra, .inl (cyI, 56, .inl f))]) (Wc := [(rw, .inr (0, [.ref ra, .int (nI bl.length)])), (ra, .inl (cyI, 56, .inl f))]) (Wr := [(h0, .inr (3, [.ref rw, .ref sm, .int (nI ck)])), (sm, .inr (10, [.int (nI cv)]))]) (run_V (QA := fun A => va_Qi _ (bw D _ (tyL cyI cyZ) A) A) (rmC := ({ frames := 0, cells := 0, slots := 0, locals := 0 } : Room)) (mc := 0) (ms := 0) (As := [.int (nI 5)]) (rest := [.int (nI 256), .int (nI (bl.getD 4 0))]) (ci := 0) (wW := [(h0, .inr (3, [.ref rw, .ref sm, .int (nI ck)])), (sm, .inr (10, [.int (nI cv)])), (rw, .inr (0, [.ref ra, .int (nI bl.length)])), (ra, .inl (cyI, 56, .inl f))]) (Wc := [(rw, .inr (0, [.ref ra, .int (nI bl.length)])), (ra, .inl (cyI, 56, .inl f))]) ⟨hx, hb, hml, hown, hts⟩ (c_X0_at l D cyI cyZ rw ra 56 bl f 5 (by assumption) (by omega)) (cwV 1 hts gX3_isForThis_X0_at rfl rfl rfl (by decide +kernel) ⟨Nat.le_of_ble_eq_true rfl, Nat.le_of_ble_eq_true rfl⟩) hN hK hP hD [2, 3] rfl (by decide) 2 rfl rfl rfl hl.1 rfl rfl dX3_isForThis_30 ⟨Nat.le_of_ble_eq_true rfl, Nat.le_of_ble_eq_true rfl⟩) hP hD hS hA [2, 3] [0, 1] rfl rfl (by decide) (by decide) (fun r30 u9 H locs w30 hP hD hS => ?_)
    have w30 : r30 = nI (bl.getD 5 0) ∧ bl.getD 5 0 < 256 := w30
    have hP : va_P D vwCl [(h0, .inr (3, [.ref rw, .ref sm, .int (nI ck)])), (sm, .inr (10, [.int (nI cv)])), (rw, .inr (0, [.ref ra, .int (nI bl.length)])), (ra, .inl (cyI, 56, .inl f))] H := hP
    have hD : va_D A [(h0, .inr (3, [.ref rw, .ref sm, .int (nI ck)])), (sm, .inr (10, [.int (nI cv)])), (rw, .inr (0, [.ref ra, .int (nI bl.length)])), (ra, .inl (cyI, 56, .inl f))] := hD
    refine nv_top (y := (nI (bl.getD 5 0))) (w30.1) ?_
    refine nv_imul hx hb dX3_isForThis_33 ?_
    refine nv_iadd hx hb dX3_isForThis_34 ?_
    refine lv_bipush (v := (nI 10)) hx hb dX3_isForThis_35 (by decide) ?_
    refine nv_icmp_ne (tgt := 44) hx hb (by omega) (by omega) dX3_isForThis_37 (by decide) (fun c37 => ?_) (fun c37 => ?_)
    · skip
      refine lv_iconst (v := (nI 0)) hx hb dX3_isForThis_44 (by decide) ?_
      have hP : va_P D vwCl [(h0, .inr (3, [.ref rw, .ref sm, .int (nI ck)])), (rw, .inr (0, [.ref ra, .int (nI bl.length)])), (ra, .inl (cyI, 56, .inl f)), (sm, .inr (10, [.int (nI cv)]))] H := pickP hP [0, 2, 3, 1] rfl
      have hD : va_D A [(h0, .inr (3, [.ref rw, .ref sm, .int (nI ck)])), (rw, .inr (0, [.ref ra, .int (nI bl.length)])), (ra, .inl (cyI, 56, .inl f)), (sm, .inr (10, [.int (nI cv)]))] := hD.sub [0, 2, 3, 1] (by decide) rfl
      exact ret_z hQ hx hb hr hlocks dX3_isForThis_45 hK hS (rfl) () (by first | exact (bI_t (by unfold forThis; omega)).symm | exact (bI_f (by unfold forThis; omega)).symm) hP hD
    · skip
      refine lv_iconst (v := (nI 1)) hx hb dX3_isForThis_40 (by decide) ?_
      refine lv_goto (tgt := 45) hx hb dX3_isForThis_41 (by decide) ?_
      have hP : va_P D vwCl [(h0, .inr (3, [.ref rw, .ref sm, .int (nI ck)])), (rw, .inr (0, [.ref ra, .int (nI bl.length)])), (ra, .inl (cyI, 56, .inl f)), (sm, .inr (10, [.int (nI cv)]))] H := pickP hP [0, 2, 3, 1] rfl
      have hD : va_D A [(h0, .inr (3, [.ref rw, .ref sm, .int (nI ck)])), (rw, .inr (0, [.ref ra, .int (nI bl.length)])), (ra, .inl (cyI, 56, .inl f)), (sm, .inr (10, [.int (nI cv)]))] := hD.sub [0, 2, 3, 1] (by decide) rfl
      exact ret_z hQ hx hb hr hlocks dX3_isForThis_45 hK hS (rfl) () (by first | exact (bI_t (by unfold forThis; omega)).symm | exact (bI_f (by unfold forThis; omega)).symm) hP hD
set_option maxHeartbeats 4000000 in
set_option maxRecDepth 100000 in
theorem c_X3_from (l : Launch) (D : va_G) (cyI cyZ : ClassId) (h0 rw sm ck ra : Nat) (bl : List Nat) (f : Nat → Int32) (cv : Nat) (ok : okB 56 bl f) : Ci l D yX3_from wsX3_from ({ frames := 1, cells := 0, slots := 0, locals := 24 } : Room) [.ref h0] [(h0, .inr (3, [.ref rw, .ref sm, .int (nI ck)])), (rw, .inr (0, [.ref ra, .int (nI bl.length)])), (ra, .inl (cyI, 56, .inl f)), (sm, .inr (10, [.int (nI cv)]))] (tyL cyI cyZ) (fun (r : Int32) (_ : Unit) => r = nI (fromL bl) ∧ fromL bl < 65536) (fun _ : Unit => [(h0, .inr (3, [.ref rw, .ref sm, .int (nI ck)])), (rw, .inr (0, [.ref ra, .int (nI bl.length)])), (ra, .inl (cyI, 56, .inl f)), (sm, .inr (10, [.int (nI cv)]))]) 0 0 := by
  refine mk_Ct (cc := cX3_from) (maxL := 1) (ret := (some .int)) (by decide) rfl rfl ?_
  intro p e s m below meth c A Q ls hx hb hr hts hown hlocks hml hname hA hN hK hP hD hS hQ hl
  have hl : lv_has ls 1 [(0, .ref h0)] := hl
  have inX3_ : ∀ w ∈ u_ws RX3 TX3 3, w ∈ wsX3_from := fun w h => List.mem_cons_of_mem _ (List.mem_append_left _ (List.mem_append_right _ h))
  have fl14 : (Cond.fieldLink RX3 14 "OutStation$Line" "row" "LOutStation$Bytes;").before ([.ref h0] : List Value).toArray s = true := hts _ (by decide +kernel)
  have hown : s.vm.findClass RX3 = some m.cls := hown
  obtain ⟨H, eH9⟩ : ∃ H, H = s.heap := ⟨_, rfl⟩
  have hP : va_P D vwCl [(h0, .inr (3, [.ref rw, .ref sm, .int (nI ck)])), (rw, .inr (0, [.ref ra, .int (nI bl.length)])), (ra, .inl (cyI, 56, .inl f)), (sm, .inr (10, [.int (nI cv)]))] H := by rw [eH9]; exact hP
  have hS : va_S A s.heap H [] := by rw [eH9]; exact hS
  obtain ⟨locs, eL9⟩ : ∃ z : List Loc, z = [] := ⟨_, rfl⟩
  rw [← eH9, ← eL9]
  have hS : va_S A s.heap H locs := by rw [eL9]; exact hS
  refine lv_aload_n hx hb dX3_from_0 rfl (lv_at hl 0 rfl) ?_
  refine va_get (D := D) (ci := 3) (v := .ref rw) (C := RX3) (T := TX3) (N := 3) hx hb hts inX3_ hown hK hP 0 rfl rfl 0 (by decide) fl14 (fun _ h9 => h9) rfl dX3_from_1 ?_
  refine lv_bipush (v := (nI 6)) hx hb dX3_from_4 (by decide) ?_
  refine res_i (wW := [(h0, .inr (3, [.ref rw, .ref sm, .int (nI ck)])), (rw, .inr (0, [.ref ra, .int (nI bl.length)])), (ra, .inl (cyI, 56, .inl f)), (sm, .inr (10, [.int (nI cv)]))]) (Wc := [(rw, .inr (0, [.ref ra, .int (nI bl.length)])), (ra, .inl (cyI, 56, .inl f))]) (Wr := [(h0, .inr (3, [.ref rw, .ref sm, .int (nI ck)])), (sm, .inr (10, [.int (nI cv)]))]) (run_V (QA := fun A => va_Qi _ (bw D _ (tyL cyI cyZ) A) A) (rmC := ({ frames := 0, cells := 0, slots := 0, locals := 0 } : Room)) (mc := 0) (ms := 0) (As := [.int (nI 6)]) (rest := []) (ci := 0) (wW := [(h0, .inr (3, [.ref rw, .ref sm, .int (nI ck)])), (rw, .inr (0, [.ref ra, .int (nI bl.length)])), (ra, .inl (cyI, 56, .inl f)), (sm, .inr (10, [.int (nI cv)]))]) (Wc := [(rw, .inr (0, [.ref ra, .int (nI bl.length)])), (ra, .inl (cyI, 56, .inl f))]) ⟨hx, hb, hml, hown, hts⟩ (c_X0_at l D cyI cyZ rw ra 56 bl f 6 (by assumption) (by omega)) (cwV 1 hts gX3_from_X0_at rfl rfl rfl (by decide +kernel) ⟨Nat.le_of_ble_eq_true rfl, Nat.le_of_ble_eq_true rfl⟩) hN hK hP hD [1, 2] rfl (by decide) 1 rfl rfl rfl hl.1 rfl rfl dX3_from_6 ⟨Nat.le_of_ble_eq_true rfl, Nat.le_of_ble_eq_true rfl⟩) hP hD hS hA [1, 2] [0, 3] rfl rfl (by decide) (by decide) (fun r6 u9 H locs w6 hP hD hS => ?_)
  have w6 : r6 = nI (bl.getD 6 0) ∧ bl.getD 6 0 < 256 := w6
  have hP : va_P D vwCl [(h0, .inr (3, [.ref rw, .ref sm, .int (nI ck)])), (sm, .inr (10, [.int (nI cv)])), (rw, .inr (0, [.ref ra, .int (nI bl.length)])), (ra, .inl (cyI, 56, .inl f))] H := hP
  have hD : va_D A [(h0, .inr (3, [.ref rw, .ref sm, .int (nI ck)])), (sm, .inr (10, [.int (nI cv)])), (rw, .inr (0, [.ref ra, .int (nI bl.length)])), (ra, .inl (cyI, 56, .inl f))] := hD
  refine nv_top (y := (nI (bl.getD 6 0))) (w6.1) ?_
  refine lv_sipush (v := (nI 256)) hx hb dX3_from_9 (by decide) ?_
  refine lv_aload_n hx hb dX3_from_12 rfl (lv_at hl 0 rfl) ?_
  refine va_get (D := D) (ci := 3) (v := .ref rw) (C := RX3) (T := TX3) (N := 3) hx hb hts inX3_ hown hK hP 0 rfl rfl 0 (by decide) fl14 (fun _ h9 => h9) rfl dX3_from_13 ?_
  refine lv_bipush (v := (nI 7)) hx hb dX3_from_16 (by decide) ?_
  refine res_i (wW := [(h0, .inr (3, [.ref rw, .ref sm, .int (nI ck)])), (sm, .inr (10, [.int (nI cv)])), (rw, .inr (0, [.ref ra, .int (nI bl.length)])), (ra, .inl (cyI, 56, .inl f))]) (Wc := [(rw, .inr (0, [.ref ra, .int (nI bl.length)])), (ra, .inl (cyI, 56, .inl f))]) (Wr := [(h0, .inr (3, [.ref rw, .ref sm, .int (nI ck)])), (sm, .inr (10, [.int (nI cv)]))]) (run_V (QA := fun A => va_Qi _ (bw D _ (tyL cyI cyZ) A) A) (rmC := ({ frames := 0, cells := 0, slots := 0, locals := 0 } : Room)) (mc := 0) (ms := 0) (As := [.int (nI 7)]) (rest := [.int (nI 256), .int (nI (bl.getD 6 0))]) (ci := 0) (wW := [(h0, .inr (3, [.ref rw, .ref sm, .int (nI ck)])), (sm, .inr (10, [.int (nI cv)])), (rw, .inr (0, [.ref ra, .int (nI bl.length)])), (ra, .inl (cyI, 56, .inl f))]) (Wc := [(rw, .inr (0, [.ref ra, .int (nI bl.length)])), (ra, .inl (cyI, 56, .inl f))]) ⟨hx, hb, hml, hown, hts⟩ (c_X0_at l D cyI cyZ rw ra 56 bl f 7 (by assumption) (by omega)) (cwV 1 hts gX3_from_X0_at rfl rfl rfl (by decide +kernel) ⟨Nat.le_of_ble_eq_true rfl, Nat.le_of_ble_eq_true rfl⟩) hN hK hP hD [2, 3] rfl (by decide) 2 rfl rfl rfl hl.1 rfl rfl dX3_from_18 ⟨Nat.le_of_ble_eq_true rfl, Nat.le_of_ble_eq_true rfl⟩) hP hD hS hA [2, 3] [0, 1] rfl rfl (by decide) (by decide) (fun r18 u9 H locs w18 hP hD hS => ?_)
  have w18 : r18 = nI (bl.getD 7 0) ∧ bl.getD 7 0 < 256 := w18
  have hP : va_P D vwCl [(h0, .inr (3, [.ref rw, .ref sm, .int (nI ck)])), (sm, .inr (10, [.int (nI cv)])), (rw, .inr (0, [.ref ra, .int (nI bl.length)])), (ra, .inl (cyI, 56, .inl f))] H := hP
  have hD : va_D A [(h0, .inr (3, [.ref rw, .ref sm, .int (nI ck)])), (sm, .inr (10, [.int (nI cv)])), (rw, .inr (0, [.ref ra, .int (nI bl.length)])), (ra, .inl (cyI, 56, .inl f))] := hD
  refine nv_top (y := (nI (bl.getD 7 0))) (w18.1) ?_
  refine nv_imul hx hb dX3_from_21 ?_
  refine nv_iadd hx hb dX3_from_22 ?_
  have hP : va_P D vwCl [(h0, .inr (3, [.ref rw, .ref sm, .int (nI ck)])), (rw, .inr (0, [.ref ra, .int (nI bl.length)])), (ra, .inl (cyI, 56, .inl f)), (sm, .inr (10, [.int (nI cv)]))] H := pickP hP [0, 2, 3, 1] rfl
  have hD : va_D A [(h0, .inr (3, [.ref rw, .ref sm, .int (nI ck)])), (rw, .inr (0, [.ref ra, .int (nI bl.length)])), (ra, .inl (cyI, 56, .inl f)), (sm, .inr (10, [.int (nI cv)]))] := hD.sub [0, 2, 3, 1] (by decide) rfl
  exact ret_i hQ hx hb hr hlocks dX3_from_23 hK hS () (⟨rfl, by unfold fromL; omega⟩) hP hD
set_option maxHeartbeats 4000000 in
set_option maxRecDepth 100000 in
theorem c_X3_payloadLength (l : Launch) (D : va_G) (cyI cyZ : ClassId) (h0 rw sm ck ra : Nat) (bl : List Nat) (f : Nat → Int32) (cv : Nat) (ok : okB 56 bl f) (h5 : 5 ≤ bl.getD 2 0) : Ci l D yX3_payloadLength wsX3_payloadLength ({ frames := 1, cells := 0, slots := 0, locals := 24 } : Room) [.ref h0] [(h0, .inr (3, [.ref rw, .ref sm, .int (nI ck)])), (rw, .inr (0, [.ref ra, .int (nI bl.length)])), (ra, .inl (cyI, 56, .inl f)), (sm, .inr (10, [.int (nI cv)]))] (tyL cyI cyZ) (fun (r : Int32) (_ : Unit) => r = nI (plL bl)) (fun _ : Unit => [(h0, .inr (3, [.ref rw, .ref sm, .int (nI ck)])), (rw, .inr (0, [.ref ra, .int (nI bl.length)])), (ra, .inl (cyI, 56, .inl f)), (sm, .inr (10, [.int (nI cv)]))]) 0 0 := by
  refine mk_Ct (cc := cX3_payloadLength) (maxL := 1) (ret := (some .int)) (by decide) rfl rfl ?_
  intro p e s m below meth c A Q ls hx hb hr hts hown hlocks hml hname hA hN hK hP hD hS hQ hl
  have hl : lv_has ls 1 [(0, .ref h0)] := hl
  have inX3_ : ∀ w ∈ u_ws RX3 TX3 3, w ∈ wsX3_payloadLength := fun w h => List.mem_cons_of_mem _ (List.mem_append_left _ (List.mem_append_right _ h))
  have fl14 : (Cond.fieldLink RX3 14 "OutStation$Line" "row" "LOutStation$Bytes;").before ([.ref h0] : List Value).toArray s = true := hts _ (by decide +kernel)
  have hown : s.vm.findClass RX3 = some m.cls := hown
  obtain ⟨H, eH9⟩ : ∃ H, H = s.heap := ⟨_, rfl⟩
  have hP : va_P D vwCl [(h0, .inr (3, [.ref rw, .ref sm, .int (nI ck)])), (rw, .inr (0, [.ref ra, .int (nI bl.length)])), (ra, .inl (cyI, 56, .inl f)), (sm, .inr (10, [.int (nI cv)]))] H := by rw [eH9]; exact hP
  have hS : va_S A s.heap H [] := by rw [eH9]; exact hS
  obtain ⟨locs, eL9⟩ : ∃ z : List Loc, z = [] := ⟨_, rfl⟩
  rw [← eH9, ← eL9]
  have hS : va_S A s.heap H locs := by rw [eL9]; exact hS
  refine lv_aload_n hx hb dX3_payloadLength_0 rfl (lv_at hl 0 rfl) ?_
  refine va_get (D := D) (ci := 3) (v := .ref rw) (C := RX3) (T := TX3) (N := 3) hx hb hts inX3_ hown hK hP 0 rfl rfl 0 (by decide) fl14 (fun _ h9 => h9) rfl dX3_payloadLength_1 ?_
  refine lv_iconst (v := (nI 2)) hx hb dX3_payloadLength_4 (by decide) ?_
  refine res_i (wW := [(h0, .inr (3, [.ref rw, .ref sm, .int (nI ck)])), (rw, .inr (0, [.ref ra, .int (nI bl.length)])), (ra, .inl (cyI, 56, .inl f)), (sm, .inr (10, [.int (nI cv)]))]) (Wc := [(rw, .inr (0, [.ref ra, .int (nI bl.length)])), (ra, .inl (cyI, 56, .inl f))]) (Wr := [(h0, .inr (3, [.ref rw, .ref sm, .int (nI ck)])), (sm, .inr (10, [.int (nI cv)]))]) (run_V (QA := fun A => va_Qi _ (bw D _ (tyL cyI cyZ) A) A) (rmC := ({ frames := 0, cells := 0, slots := 0, locals := 0 } : Room)) (mc := 0) (ms := 0) (As := [.int (nI 2)]) (rest := []) (ci := 0) (wW := [(h0, .inr (3, [.ref rw, .ref sm, .int (nI ck)])), (rw, .inr (0, [.ref ra, .int (nI bl.length)])), (ra, .inl (cyI, 56, .inl f)), (sm, .inr (10, [.int (nI cv)]))]) (Wc := [(rw, .inr (0, [.ref ra, .int (nI bl.length)])), (ra, .inl (cyI, 56, .inl f))]) ⟨hx, hb, hml, hown, hts⟩ (c_X0_at l D cyI cyZ rw ra 56 bl f 2 (by assumption) (by omega)) (cwV 1 hts gX3_payloadLength_X0_at rfl rfl rfl (by decide +kernel) ⟨Nat.le_of_ble_eq_true rfl, Nat.le_of_ble_eq_true rfl⟩) hN hK hP hD [1, 2] rfl (by decide) 1 rfl rfl rfl hl.1 rfl rfl dX3_payloadLength_5 ⟨Nat.le_of_ble_eq_true rfl, Nat.le_of_ble_eq_true rfl⟩) hP hD hS hA [1, 2] [0, 3] rfl rfl (by decide) (by decide) (fun r5 u9 H locs w5 hP hD hS => ?_)
  have w5 : r5 = nI (bl.getD 2 0) ∧ bl.getD 2 0 < 256 := w5
  have hP : va_P D vwCl [(h0, .inr (3, [.ref rw, .ref sm, .int (nI ck)])), (sm, .inr (10, [.int (nI cv)])), (rw, .inr (0, [.ref ra, .int (nI bl.length)])), (ra, .inl (cyI, 56, .inl f))] H := hP
  have hD : va_D A [(h0, .inr (3, [.ref rw, .ref sm, .int (nI ck)])), (sm, .inr (10, [.int (nI cv)])), (rw, .inr (0, [.ref ra, .int (nI bl.length)])), (ra, .inl (cyI, 56, .inl f))] := hD
  refine nv_top (y := (nI (bl.getD 2 0))) (w5.1) ?_
  refine lv_iconst (v := (nI 5)) hx hb dX3_payloadLength_8 (by decide) ?_
  refine nv_isub hx hb (by omega) dX3_payloadLength_9 ?_
  have hP : va_P D vwCl [(h0, .inr (3, [.ref rw, .ref sm, .int (nI ck)])), (rw, .inr (0, [.ref ra, .int (nI bl.length)])), (ra, .inl (cyI, 56, .inl f)), (sm, .inr (10, [.int (nI cv)]))] H := pickP hP [0, 2, 3, 1] rfl
  have hD : va_D A [(h0, .inr (3, [.ref rw, .ref sm, .int (nI ck)])), (rw, .inr (0, [.ref ra, .int (nI bl.length)])), (ra, .inl (cyI, 56, .inl f)), (sm, .inr (10, [.int (nI cv)]))] := hD.sub [0, 2, 3, 1] (by decide) rfl
  exact ret_i hQ hx hb hr hlocks dX3_payloadLength_10 hK hS () (rfl) hP hD
set_option maxHeartbeats 4000000 in
set_option maxRecDepth 100000 in
theorem c_X3_payloadAt (l : Launch) (D : va_G) (cyI cyZ : ClassId) (h0 rw sm ck ra : Nat) (bl : List Nat) (f : Nat → Int32) (cv : Nat) (i : Nat) (ok : okB 56 bl f) (hi : i < 1000) : Ci l D yX3_payloadAt wsX3_payloadAt ({ frames := 1, cells := 0, slots := 0, locals := 24 } : Room) [.ref h0, .int (nI i)] [(h0, .inr (3, [.ref rw, .ref sm, .int (nI ck)])), (rw, .inr (0, [.ref ra, .int (nI bl.length)])), (ra, .inl (cyI, 56, .inl f)), (sm, .inr (10, [.int (nI cv)]))] (tyL cyI cyZ) (fun (r : Int32) (_ : Unit) => r = nI (patL bl i) ∧ patL bl i < 256) (fun _ : Unit => [(h0, .inr (3, [.ref rw, .ref sm, .int (nI ck)])), (rw, .inr (0, [.ref ra, .int (nI bl.length)])), (ra, .inl (cyI, 56, .inl f)), (sm, .inr (10, [.int (nI cv)]))]) 0 0 := by
  refine mk_Ct (cc := cX3_payloadAt) (maxL := 2) (ret := (some .int)) (by decide) rfl rfl ?_
  intro p e s m below meth c A Q ls hx hb hr hts hown hlocks hml hname hA hN hK hP hD hS hQ hl
  have hl : lv_has ls 2 [(0, .ref h0), (1, .int (nI i))] := hl
  have inX3_ : ∀ w ∈ u_ws RX3 TX3 3, w ∈ wsX3_payloadAt := fun w h => List.mem_cons_of_mem _ (List.mem_append_left _ (List.mem_append_right _ h))
  have fl14 : (Cond.fieldLink RX3 14 "OutStation$Line" "row" "LOutStation$Bytes;").before ([.ref h0, .int (nI i)] : List Value).toArray s = true := hts _ (by decide +kernel)
  have hown : s.vm.findClass RX3 = some m.cls := hown
  obtain ⟨H, eH9⟩ : ∃ H, H = s.heap := ⟨_, rfl⟩
  have hP : va_P D vwCl [(h0, .inr (3, [.ref rw, .ref sm, .int (nI ck)])), (rw, .inr (0, [.ref ra, .int (nI bl.length)])), (ra, .inl (cyI, 56, .inl f)), (sm, .inr (10, [.int (nI cv)]))] H := by rw [eH9]; exact hP
  have hS : va_S A s.heap H [] := by rw [eH9]; exact hS
  obtain ⟨locs, eL9⟩ : ∃ z : List Loc, z = [] := ⟨_, rfl⟩
  rw [← eH9, ← eL9]
  have hS : va_S A s.heap H locs := by rw [eL9]; exact hS
  refine lv_aload_n hx hb dX3_payloadAt_0 rfl (lv_at hl 0 rfl) ?_
  refine va_get (D := D) (ci := 3) (v := .ref rw) (C := RX3) (T := TX3) (N := 3) hx hb hts inX3_ hown hK hP 0 rfl rfl 0 (by decide) fl14 (fun _ h9 => h9) rfl dX3_payloadAt_1 ?_
  refine lv_bipush (v := (nI 10)) hx hb dX3_payloadAt_4 (by decide) ?_
  refine lv_iload_n hx hb dX3_payloadAt_6 rfl (lv_at hl 1 rfl) ?_
  refine nv_iadd hx hb dX3_payloadAt_7 ?_
  refine lv_iload_n hx hb dX3_payloadAt_8 rfl (lv_at hl 1 rfl) ?_
  refine lv_bipush (v := (nI 16)) hx hb dX3_payloadAt_9 (by decide) ?_
  refine nv_idiv hx hb (by omega) (by omega) (by omega) dX3_payloadAt_11 ?_
  refine lv_iconst (v := (nI 2)) hx hb dX3_payloadAt_12 (by decide) ?_
  refine nv_imul hx hb dX3_payloadAt_13 ?_
  refine nv_iadd hx hb dX3_payloadAt_14 ?_
  refine res_i (wW := [(h0, .inr (3, [.ref rw, .ref sm, .int (nI ck)])), (rw, .inr (0, [.ref ra, .int (nI bl.length)])), (ra, .inl (cyI, 56, .inl f)), (sm, .inr (10, [.int (nI cv)]))]) (Wc := [(rw, .inr (0, [.ref ra, .int (nI bl.length)])), (ra, .inl (cyI, 56, .inl f))]) (Wr := [(h0, .inr (3, [.ref rw, .ref sm, .int (nI ck)])), (sm, .inr (10, [.int (nI cv)]))]) (run_V (QA := fun A => va_Qi _ (bw D _ (tyL cyI cyZ) A) A) (rmC := ({ frames := 0, cells := 0, slots := 0, locals := 0 } : Room)) (mc := 0) (ms := 0) (As := [.int (nI ((10 + i) + ((i / 16) * 2)))]) (rest := []) (ci := 0) (wW := [(h0, .inr (3, [.ref rw, .ref sm, .int (nI ck)])), (rw, .inr (0, [.ref ra, .int (nI bl.length)])), (ra, .inl (cyI, 56, .inl f)), (sm, .inr (10, [.int (nI cv)]))]) (Wc := [(rw, .inr (0, [.ref ra, .int (nI bl.length)])), (ra, .inl (cyI, 56, .inl f))]) ⟨hx, hb, hml, hown, hts⟩ (c_X0_at l D cyI cyZ rw ra 56 bl f ((10 + i) + ((i / 16) * 2)) (by assumption) (by omega)) (cwV 1 hts gX3_payloadAt_X0_at rfl rfl rfl (by decide +kernel) ⟨Nat.le_of_ble_eq_true rfl, Nat.le_of_ble_eq_true rfl⟩) hN hK hP hD [1, 2] rfl (by decide) 1 rfl rfl rfl hl.1 rfl rfl dX3_payloadAt_15 ⟨Nat.le_of_ble_eq_true rfl, Nat.le_of_ble_eq_true rfl⟩) hP hD hS hA [1, 2] [0, 3] rfl rfl (by decide) (by decide) (fun r15 u9 H locs w15 hP hD hS => ?_)
  have w15 : r15 = nI (bl.getD ((10 + i) + ((i / 16) * 2)) 0) ∧ bl.getD ((10 + i) + ((i / 16) * 2)) 0 < 256 := w15
  have hP : va_P D vwCl [(h0, .inr (3, [.ref rw, .ref sm, .int (nI ck)])), (sm, .inr (10, [.int (nI cv)])), (rw, .inr (0, [.ref ra, .int (nI bl.length)])), (ra, .inl (cyI, 56, .inl f))] H := hP
  have hD : va_D A [(h0, .inr (3, [.ref rw, .ref sm, .int (nI ck)])), (sm, .inr (10, [.int (nI cv)])), (rw, .inr (0, [.ref ra, .int (nI bl.length)])), (ra, .inl (cyI, 56, .inl f))] := hD
  refine nv_top (y := (nI (bl.getD ((10 + i) + ((i / 16) * 2)) 0))) (w15.1) ?_
  have hP : va_P D vwCl [(h0, .inr (3, [.ref rw, .ref sm, .int (nI ck)])), (rw, .inr (0, [.ref ra, .int (nI bl.length)])), (ra, .inl (cyI, 56, .inl f)), (sm, .inr (10, [.int (nI cv)]))] H := pickP hP [0, 2, 3, 1] rfl
  have hD : va_D A [(h0, .inr (3, [.ref rw, .ref sm, .int (nI ck)])), (rw, .inr (0, [.ref ra, .int (nI bl.length)])), (ra, .inl (cyI, 56, .inl f)), (sm, .inr (10, [.int (nI cv)]))] := hD.sub [0, 2, 3, 1] (by decide) rfl
  exact ret_i hQ hx hb hr hlocks dX3_payloadAt_18 hK hS () (⟨rfl, w15.2⟩) hP hD
set_option maxHeartbeats 4000000 in
set_option maxRecDepth 100000 in
theorem c_X3_dropFrame (l : Launch) (D : va_G) (cyI cyZ : ClassId) (h0 rw sm ck ra : Nat) (bl : List Nat) (f : Nat → Int32) (cv : Nat) (ok : okB 56 bl f) (hck : ck ≤ bl.length) : Cv l D yX3_dropFrame wsX3_dropFrame ({ frames := 2, cells := 0, slots := 0, locals := 90 } : Room) [.ref h0] [(h0, .inr (3, [.ref rw, .ref sm, .int (nI ck)])), (rw, .inr (0, [.ref ra, .int (nI bl.length)])), (ra, .inl (cyI, 56, .inl f)), (sm, .inr (10, [.int (nI cv)]))] (tyL cyI cyZ) (fun f2 : (Nat → Int32) => okB 56 (bl.drop ck) f2) (fun f2 : (Nat → Int32) => [(h0, .inr (3, [.ref rw, .ref sm, .int (nI 0)])), (rw, .inr (0, [.ref ra, .int (nI ((bl.drop ck).length))])), (ra, .inl (cyI, 56, .inl f2)), (sm, .inr (10, [.int (nI cv)]))]) 0 0 := by
  refine mk_Ct (cc := cX3_dropFrame) (maxL := 1) (ret := none) (by decide) rfl rfl ?_
  intro p e s m below meth c A Q ls hx hb hr hts hown hlocks hml hname hA hN hK hP hD hS hQ hl
  have hl : lv_has ls 1 [(0, .ref h0)] := hl
  have inX3_ : ∀ w ∈ u_ws RX3 TX3 3, w ∈ wsX3_dropFrame := fun w h => List.mem_cons_of_mem _ (List.mem_append_left _ (List.mem_append_right _ h))
  have fl14 : (Cond.fieldLink RX3 14 "OutStation$Line" "row" "LOutStation$Bytes;").before ([.ref h0] : List Value).toArray s = true := hts _ (by decide +kernel)
  have fl27 : (Cond.fieldLink RX3 27 "OutStation$Line" "checked" "I").before ([.ref h0] : List Value).toArray s = true := hts _ (by decide +kernel)
  have hown : s.vm.findClass RX3 = some m.cls := hown
  obtain ⟨H, eH9⟩ : ∃ H, H = s.heap := ⟨_, rfl⟩
  have hP : va_P D vwCl [(h0, .inr (3, [.ref rw, .ref sm, .int (nI ck)])), (rw, .inr (0, [.ref ra, .int (nI bl.length)])), (ra, .inl (cyI, 56, .inl f)), (sm, .inr (10, [.int (nI cv)]))] H := by rw [eH9]; exact hP
  have hS : va_S A s.heap H [] := by rw [eH9]; exact hS
  obtain ⟨locs, eL9⟩ : ∃ z : List Loc, z = [] := ⟨_, rfl⟩
  rw [← eH9, ← eL9]
  have hS : va_S A s.heap H locs := by rw [eL9]; exact hS
  refine lv_aload_n hx hb dX3_dropFrame_0 rfl (lv_at hl 0 rfl) ?_
  refine va_get (D := D) (ci := 3) (v := .ref rw) (C := RX3) (T := TX3) (N := 3) hx hb hts inX3_ hown hK hP 0 rfl rfl 0 (by decide) fl14 (fun _ h9 => h9) rfl dX3_dropFrame_1 ?_
  refine lv_aload_n hx hb dX3_dropFrame_4 rfl (lv_at hl 0 rfl) ?_
  refine va_get (D := D) (ci := 3) (v := .int (nI ck)) (C := RX3) (T := TX3) (N := 3) hx hb hts inX3_ hown hK hP 0 rfl rfl 2 (by decide) fl27 (fun _ h9 => h9) rfl dX3_dropFrame_5 ?_
  refine res_v (wW := [(h0, .inr (3, [.ref rw, .ref sm, .int (nI ck)])), (rw, .inr (0, [.ref ra, .int (nI bl.length)])), (ra, .inl (cyI, 56, .inl f)), (sm, .inr (10, [.int (nI cv)]))]) (Wc := [(rw, .inr (0, [.ref ra, .int (nI bl.length)])), (ra, .inl (cyI, 56, .inl f))]) (Wr := [(h0, .inr (3, [.ref rw, .ref sm, .int (nI ck)])), (sm, .inr (10, [.int (nI cv)]))]) (run_V (QA := fun A => va_Qv _ (bw D _ (tyL cyI cyZ) A) A) (rmC := ({ frames := 1, cells := 0, slots := 0, locals := 60 } : Room)) (mc := 0) (ms := 0) (As := [.int (nI ck)]) (rest := []) (ci := 0) (wW := [(h0, .inr (3, [.ref rw, .ref sm, .int (nI ck)])), (rw, .inr (0, [.ref ra, .int (nI bl.length)])), (ra, .inl (cyI, 56, .inl f)), (sm, .inr (10, [.int (nI cv)]))]) (Wc := [(rw, .inr (0, [.ref ra, .int (nI bl.length)])), (ra, .inl (cyI, 56, .inl f))]) ⟨hx, hb, hml, hown, hts⟩ (c_X0_dropFirst l D cyI cyZ rw ra 56 bl f ck (by assumption) (hck)) (cwV 1 hts gX3_dropFrame_X0_dropFirst rfl rfl rfl (by decide +kernel) ⟨Nat.le_of_ble_eq_true rfl, Nat.le_of_ble_eq_true rfl⟩) hN hK hP hD [1, 2] rfl (by decide) 1 rfl rfl rfl hl.1 rfl rfl dX3_dropFrame_8 ⟨Nat.le_of_ble_eq_true rfl, Nat.le_of_ble_eq_true rfl⟩) hP hD hS hA [1, 2] [0, 3] rfl rfl (by decide) (by decide) (fun f2_8 H locs w8 hP hD hS => ?_)
  have w8 : okB 56 (bl.drop ck) f2_8 := w8
  have hP : va_P D vwCl [(h0, .inr (3, [.ref rw, .ref sm, .int (nI ck)])), (sm, .inr (10, [.int (nI cv)])), (rw, .inr (0, [.ref ra, .int (nI ((bl.drop ck).length))])), (ra, .inl (cyI, 56, .inl f2_8))] H := hP
  have hD : va_D A [(h0, .inr (3, [.ref rw, .ref sm, .int (nI ck)])), (sm, .inr (10, [.int (nI cv)])), (rw, .inr (0, [.ref ra, .int (nI ((bl.drop ck).length))])), (ra, .inl (cyI, 56, .inl f2_8))] := hD
  refine lv_aload_n hx hb dX3_dropFrame_11 rfl (lv_at hl 0 rfl) ?_
  refine lv_iconst (v := (nI 0)) hx hb dX3_dropFrame_12 (by decide) ?_
  refine va_put (D := D) (ci := 3) (v := .int (nI 0)) (ty := .int) (C := RX3) (T := TX3) (N := 3) hx hb hts inX3_ tyX3 tyX3_ok nmX3 hown hK hP hD hS 0 rfl rfl 2 (by decide) fl27 (fun _ h9 => h9) rfl (by decide +kernel) rfl rfl (Nat.le_of_ble_eq_true rfl) dX3_dropFrame_13 (fun H locs hP hD hS => ?_)
  have hP : va_P D vwCl [(h0, .inr (3, [.ref rw, .ref sm, .int (nI 0)])), (sm, .inr (10, [.int (nI cv)])), (rw, .inr (0, [.ref ra, .int (nI ((bl.drop ck).length))])), (ra, .inl (cyI, 56, .inl f2_8))] H := hP
  have hD : va_D A [(h0, .inr (3, [.ref rw, .ref sm, .int (nI 0)])), (sm, .inr (10, [.int (nI cv)])), (rw, .inr (0, [.ref ra, .int (nI ((bl.drop ck).length))])), (ra, .inl (cyI, 56, .inl f2_8))] := hD
  have hP : va_P D vwCl [(h0, .inr (3, [.ref rw, .ref sm, .int (nI 0)])), (rw, .inr (0, [.ref ra, .int (nI ((bl.drop ck).length))])), (ra, .inl (cyI, 56, .inl f2_8)), (sm, .inr (10, [.int (nI cv)]))] H := pickP hP [0, 2, 3, 1] rfl
  have hD : va_D A [(h0, .inr (3, [.ref rw, .ref sm, .int (nI 0)])), (rw, .inr (0, [.ref ra, .int (nI ((bl.drop ck).length))])), (ra, .inl (cyI, 56, .inl f2_8)), (sm, .inr (10, [.int (nI cv)]))] := hD.sub [0, 2, 3, 1] (by decide) rfl
  exact ret_v hQ hx hb hr hlocks dX3_dropFrame_16 hK hS f2_8 (w8) hP hD
set_option maxHeartbeats 4000000 in
set_option maxRecDepth 100000 in
theorem c_X3_beginsOtherwise (l : Launch) (D : va_G) (cyI cyZ : ClassId) (h0 rw sm ck ra : Nat) (bl : List Nat) (f : Nat → Int32) (cv : Nat) (ok : okB 56 bl f) : Ci l D yX3_beginsOtherwise wsX3_beginsOtherwise ({ frames := 1, cells := 0, slots := 0, locals := 24 } : Room) [.ref h0] [(h0, .inr (3, [.ref rw, .ref sm, .int (nI ck)])), (rw, .inr (0, [.ref ra, .int (nI bl.length)])), (ra, .inl (cyI, 56, .inl f)), (sm, .inr (10, [.int (nI cv)]))] (tyL cyI cyZ) (fun (r : Int32) (_ : Unit) => r = bI (begBad bl)) (fun _ : Unit => [(h0, .inr (3, [.ref rw, .ref sm, .int (nI ck)])), (rw, .inr (0, [.ref ra, .int (nI bl.length)])), (ra, .inl (cyI, 56, .inl f)), (sm, .inr (10, [.int (nI cv)]))]) 0 0 := by
  refine mk_Ct (cc := cX3_beginsOtherwise) (maxL := 2) (ret := (some .boolean)) (by decide) rfl rfl ?_
  intro p e s m below meth c A Q ls hx hb hr hts hown hlocks hml hname hA hN hK hP hD hS hQ hl
  have hl : lv_has ls 2 [(0, .ref h0)] := hl
  have inX3_ : ∀ w ∈ u_ws RX3 TX3 3, w ∈ wsX3_beginsOtherwise := fun w h => List.mem_cons_of_mem _ (List.mem_append_left _ (List.mem_append_right _ h))
  have fl14 : (Cond.fieldLink RX3 14 "OutStation$Line" "row" "LOutStation$Bytes;").before ([.ref h0] : List Value).toArray s = true := hts _ (by decide +kernel)
  have hown : s.vm.findClass RX3 = some m.cls := hown
  obtain ⟨H, eH9⟩ : ∃ H, H = s.heap := ⟨_, rfl⟩
  have hP : va_P D vwCl [(h0, .inr (3, [.ref rw, .ref sm, .int (nI ck)])), (rw, .inr (0, [.ref ra, .int (nI bl.length)])), (ra, .inl (cyI, 56, .inl f)), (sm, .inr (10, [.int (nI cv)]))] H := by rw [eH9]; exact hP
  have hS : va_S A s.heap H [] := by rw [eH9]; exact hS
  obtain ⟨locs, eL9⟩ : ∃ z : List Loc, z = [] := ⟨_, rfl⟩
  rw [← eH9, ← eL9]
  have hS : va_S A s.heap H locs := by rw [eL9]; exact hS
  obtain ⟨ok1, ok2, ok3, ok4⟩ := id ok
  refine lv_aload_n hx hb dX3_beginsOtherwise_0 rfl (lv_at hl 0 rfl) ?_
  refine va_get (D := D) (ci := 3) (v := .ref rw) (C := RX3) (T := TX3) (N := 3) hx hb hts inX3_ hown hK hP 0 rfl rfl 0 (by decide) fl14 (fun _ h9 => h9) rfl dX3_beginsOtherwise_1 ?_
  refine lv_iconst (v := (nI 2)) hx hb dX3_beginsOtherwise_4 (by decide) ?_
  refine res_i (wW := [(h0, .inr (3, [.ref rw, .ref sm, .int (nI ck)])), (rw, .inr (0, [.ref ra, .int (nI bl.length)])), (ra, .inl (cyI, 56, .inl f)), (sm, .inr (10, [.int (nI cv)]))]) (Wc := [(rw, .inr (0, [.ref ra, .int (nI bl.length)])), (ra, .inl (cyI, 56, .inl f))]) (Wr := [(h0, .inr (3, [.ref rw, .ref sm, .int (nI ck)])), (sm, .inr (10, [.int (nI cv)]))]) (run_V (QA := fun A => va_Qi _ (bw D _ (tyL cyI cyZ) A) A) (rmC := ({ frames := 0, cells := 0, slots := 0, locals := 0 } : Room)) (mc := 0) (ms := 0) (As := [.int (nI 2)]) (rest := []) (ci := 0) (wW := [(h0, .inr (3, [.ref rw, .ref sm, .int (nI ck)])), (rw, .inr (0, [.ref ra, .int (nI bl.length)])), (ra, .inl (cyI, 56, .inl f)), (sm, .inr (10, [.int (nI cv)]))]) (Wc := [(rw, .inr (0, [.ref ra, .int (nI bl.length)])), (ra, .inl (cyI, 56, .inl f))]) ⟨hx, hb, hml, hown, hts⟩ (c_X0_at l D cyI cyZ rw ra 56 bl f 2 (by assumption) (by omega)) (cwV 1 hts gX3_beginsOtherwise_X0_at rfl rfl rfl (by decide +kernel) ⟨Nat.le_of_ble_eq_true rfl, Nat.le_of_ble_eq_true rfl⟩) hN hK hP hD [1, 2] rfl (by decide) 1 rfl rfl rfl hl.1 rfl rfl dX3_beginsOtherwise_5 ⟨Nat.le_of_ble_eq_true rfl, Nat.le_of_ble_eq_true rfl⟩) hP hD hS hA [1, 2] [0, 3] rfl rfl (by decide) (by decide) (fun r5 u9 H locs w5 hP hD hS => ?_)
  have w5 : r5 = nI (bl.getD 2 0) ∧ bl.getD 2 0 < 256 := w5
  have hP : va_P D vwCl [(h0, .inr (3, [.ref rw, .ref sm, .int (nI ck)])), (sm, .inr (10, [.int (nI cv)])), (rw, .inr (0, [.ref ra, .int (nI bl.length)])), (ra, .inl (cyI, 56, .inl f))] H := hP
  have hD : va_D A [(h0, .inr (3, [.ref rw, .ref sm, .int (nI ck)])), (sm, .inr (10, [.int (nI cv)])), (rw, .inr (0, [.ref ra, .int (nI bl.length)])), (ra, .inl (cyI, 56, .inl f))] := hD
  refine nv_top (y := (nI (bl.getD 2 0))) (w5.1) ?_
  refine lv_istore_n (lv' := [(1, .int (nI (bl.getD 2 0))), (0, .ref h0)]) hx hb dX3_beginsOtherwise_8 rfl hl (by decide) rfl (fun ls hl => ?_)
  refine lv_aload_n hx hb dX3_beginsOtherwise_9 rfl (lv_at hl 1 rfl) ?_
  refine va_get (D := D) (ci := 3) (v := .ref rw) (C := RX3) (T := TX3) (N := 3) hx hb hts inX3_ hown hK hP 0 rfl rfl 0 (by decide) fl14 (fun _ h9 => h9) rfl dX3_beginsOtherwise_10 ?_
  refine res_i (wW := [(h0, .inr (3, [.ref rw, .ref sm, .int (nI ck)])), (sm, .inr (10, [.int (nI cv)])), (rw, .inr (0, [.ref ra, .int (nI bl.length)])), (ra, .inl (cyI, 56, .inl f))]) (Wc := [(rw, .inr (0, [.ref ra, .int (nI bl.length)])), (ra, .inl (cyI, 56, .inl f))]) (Wr := [(h0, .inr (3, [.ref rw, .ref sm, .int (nI ck)])), (sm, .inr (10, [.int (nI cv)]))]) (run_V (QA := fun A => va_Qi _ (bw D _ (tyL cyI cyZ) A) A) (rmC := ({ frames := 0, cells := 0, slots := 0, locals := 0 } : Room)) (mc := 0) (ms := 0) (As := []) (rest := []) (ci := 0) (wW := [(h0, .inr (3, [.ref rw, .ref sm, .int (nI ck)])), (sm, .inr (10, [.int (nI cv)])), (rw, .inr (0, [.ref ra, .int (nI bl.length)])), (ra, .inl (cyI, 56, .inl f))]) (Wc := [(rw, .inr (0, [.ref ra, .int (nI bl.length)])), (ra, .inl (cyI, 56, .inl f))]) ⟨hx, hb, hml, hown, hts⟩ (c_X0_length l D cyI cyZ rw ra 56 bl f ) (cwV 0 hts gX3_beginsOtherwise_X0_length rfl rfl rfl (by decide +kernel) ⟨Nat.le_of_ble_eq_true rfl, Nat.le_of_ble_eq_true rfl⟩) hN hK hP hD [2, 3] rfl (by decide) 2 rfl rfl rfl hl.1 rfl rfl dX3_beginsOtherwise_13 ⟨Nat.le_of_ble_eq_true rfl, Nat.le_of_ble_eq_true rfl⟩) hP hD hS hA [2, 3] [0, 1] rfl rfl (by decide) (by decide) (fun r13 u9 H locs w13 hP hD hS => ?_)
  have w13 : r13 = nI bl.length := w13
  have hP : va_P D vwCl [(h0, .inr (3, [.ref rw, .ref sm, .int (nI ck)])), (sm, .inr (10, [.int (nI cv)])), (rw, .inr (0, [.ref ra, .int (nI bl.length)])), (ra, .inl (cyI, 56, .inl f))] H := hP
  have hD : va_D A [(h0, .inr (3, [.ref rw, .ref sm, .int (nI ck)])), (sm, .inr (10, [.int (nI cv)])), (rw, .inr (0, [.ref ra, .int (nI bl.length)])), (ra, .inl (cyI, 56, .inl f))] := hD
  refine nv_top (y := (nI bl.length)) (w13) ?_
  refine nv_if_le (tgt := 31) hx hb (by omega) dX3_beginsOtherwise_16 (by decide) (fun c16 => ?_) (fun c16 => ?_)
  · skip
    refine lv_aload_n hx hb dX3_beginsOtherwise_31 rfl (lv_at hl 1 rfl) ?_
    refine va_get (D := D) (ci := 3) (v := .ref rw) (C := RX3) (T := TX3) (N := 3) hx hb hts inX3_ hown hK hP 0 rfl rfl 0 (by decide) fl14 (fun _ h9 => h9) rfl dX3_beginsOtherwise_32 ?_
    refine res_i (wW := [(h0, .inr (3, [.ref rw, .ref sm, .int (nI ck)])), (sm, .inr (10, [.int (nI cv)])), (rw, .inr (0, [.ref ra, .int (nI bl.length)])), (ra, .inl (cyI, 56, .inl f))]) (Wc := [(rw, .inr (0, [.ref ra, .int (nI bl.length)])), (ra, .inl (cyI, 56, .inl f))]) (Wr := [(h0, .inr (3, [.ref rw, .ref sm, .int (nI ck)])), (sm, .inr (10, [.int (nI cv)]))]) (run_V (QA := fun A => va_Qi _ (bw D _ (tyL cyI cyZ) A) A) (rmC := ({ frames := 0, cells := 0, slots := 0, locals := 0 } : Room)) (mc := 0) (ms := 0) (As := []) (rest := []) (ci := 0) (wW := [(h0, .inr (3, [.ref rw, .ref sm, .int (nI ck)])), (sm, .inr (10, [.int (nI cv)])), (rw, .inr (0, [.ref ra, .int (nI bl.length)])), (ra, .inl (cyI, 56, .inl f))]) (Wc := [(rw, .inr (0, [.ref ra, .int (nI bl.length)])), (ra, .inl (cyI, 56, .inl f))]) ⟨hx, hb, hml, hown, hts⟩ (c_X0_length l D cyI cyZ rw ra 56 bl f ) (cwV 0 hts gX3_beginsOtherwise_X0_length rfl rfl rfl (by decide +kernel) ⟨Nat.le_of_ble_eq_true rfl, Nat.le_of_ble_eq_true rfl⟩) hN hK hP hD [2, 3] rfl (by decide) 2 rfl rfl rfl hl.1 rfl rfl dX3_beginsOtherwise_35 ⟨Nat.le_of_ble_eq_true rfl, Nat.le_of_ble_eq_true rfl⟩) hP hD hS hA [2, 3] [0, 1] rfl rfl (by decide) (by decide) (fun r35 u9 H locs w35 hP hD hS => ?_)
    have w35 : r35 = nI bl.length := w35
    have hP : va_P D vwCl [(h0, .inr (3, [.ref rw, .ref sm, .int (nI ck)])), (sm, .inr (10, [.int (nI cv)])), (rw, .inr (0, [.ref ra, .int (nI bl.length)])), (ra, .inl (cyI, 56, .inl f))] H := hP
    have hD : va_D A [(h0, .inr (3, [.ref rw, .ref sm, .int (nI ck)])), (sm, .inr (10, [.int (nI cv)])), (rw, .inr (0, [.ref ra, .int (nI bl.length)])), (ra, .inl (cyI, 56, .inl f))] := hD
    refine nv_top (y := (nI bl.length)) (w35) ?_
    refine lv_iconst (v := (nI 1)) hx hb dX3_beginsOtherwise_38 (by decide) ?_
    refine nv_icmp_le (tgt := 55) hx hb (by omega) (by omega) dX3_beginsOtherwise_39 (by decide) (fun c39 => ?_) (fun c39 => ?_)
    · skip
      refine lv_aload_n hx hb dX3_beginsOtherwise_55 rfl (lv_at hl 1 rfl) ?_
      refine va_get (D := D) (ci := 3) (v := .ref rw) (C := RX3) (T := TX3) (N := 3) hx hb hts inX3_ hown hK hP 0 rfl rfl 0 (by decide) fl14 (fun _ h9 => h9) rfl dX3_beginsOtherwise_56 ?_
      refine res_i (wW := [(h0, .inr (3, [.ref rw, .ref sm, .int (nI ck)])), (sm, .inr (10, [.int (nI cv)])), (rw, .inr (0, [.ref ra, .int (nI bl.length)])), (ra, .inl (cyI, 56, .inl f))]) (Wc := [(rw, .inr (0, [.ref ra, .int (nI bl.length)])), (ra, .inl (cyI, 56, .inl f))]) (Wr := [(h0, .inr (3, [.ref rw, .ref sm, .int (nI ck)])), (sm, .inr (10, [.int (nI cv)]))]) (run_V (QA := fun A => va_Qi _ (bw D _ (tyL cyI cyZ) A) A) (rmC := ({ frames := 0, cells := 0, slots := 0, locals := 0 } : Room)) (mc := 0) (ms := 0) (As := []) (rest := []) (ci := 0) (wW := [(h0, .inr (3, [.ref rw, .ref sm, .int (nI ck)])), (sm, .inr (10, [.int (nI cv)])), (rw, .inr (0, [.ref ra, .int (nI bl.length)])), (ra, .inl (cyI, 56, .inl f))]) (Wc := [(rw, .inr (0, [.ref ra, .int (nI bl.length)])), (ra, .inl (cyI, 56, .inl f))]) ⟨hx, hb, hml, hown, hts⟩ (c_X0_length l D cyI cyZ rw ra 56 bl f ) (cwV 0 hts gX3_beginsOtherwise_X0_length rfl rfl rfl (by decide +kernel) ⟨Nat.le_of_ble_eq_true rfl, Nat.le_of_ble_eq_true rfl⟩) hN hK hP hD [2, 3] rfl (by decide) 2 rfl rfl rfl hl.1 rfl rfl dX3_beginsOtherwise_59 ⟨Nat.le_of_ble_eq_true rfl, Nat.le_of_ble_eq_true rfl⟩) hP hD hS hA [2, 3] [0, 1] rfl rfl (by decide) (by decide) (fun r59 u9 H locs w59 hP hD hS => ?_)
      have w59 : r59 = nI bl.length := w59
      have hP : va_P D vwCl [(h0, .inr (3, [.ref rw, .ref sm, .int (nI ck)])), (sm, .inr (10, [.int (nI cv)])), (rw, .inr (0, [.ref ra, .int (nI bl.length)])), (ra, .inl (cyI, 56, .inl f))] H := hP
      have hD : va_D A [(h0, .inr (3, [.ref rw, .ref sm, .int (nI ck)])), (sm, .inr (10, [.int (nI cv)])), (rw, .inr (0, [.ref ra, .int (nI bl.length)])), (ra, .inl (cyI, 56, .inl f))] := hD
      refine nv_top (y := (nI bl.length)) (w59) ?_
      refine lv_iconst (v := (nI 2)) hx hb dX3_beginsOtherwise_62 (by decide) ?_
      refine nv_icmp_le (tgt := 82) hx hb (by omega) (by omega) dX3_beginsOtherwise_63 (by decide) (fun c63 => ?_) (fun c63 => ?_)
      · skip
        refine lv_iconst (v := (nI 0)) hx hb dX3_beginsOtherwise_82 (by decide) ?_
        have hP : va_P D vwCl [(h0, .inr (3, [.ref rw, .ref sm, .int (nI ck)])), (rw, .inr (0, [.ref ra, .int (nI bl.length)])), (ra, .inl (cyI, 56, .inl f)), (sm, .inr (10, [.int (nI cv)]))] H := pickP hP [0, 2, 3, 1] rfl
        have hD : va_D A [(h0, .inr (3, [.ref rw, .ref sm, .int (nI ck)])), (rw, .inr (0, [.ref ra, .int (nI bl.length)])), (ra, .inl (cyI, 56, .inl f)), (sm, .inr (10, [.int (nI cv)]))] := hD.sub [0, 2, 3, 1] (by decide) rfl
        exact ret_z hQ hx hb hr hlocks dX3_beginsOtherwise_83 hK hS (rfl) () (by first | exact (bI_t (by unfold begBad; omega)).symm | exact (bI_f (by unfold begBad; omega)).symm) hP hD
      · skip
        refine lv_iload_n hx hb dX3_beginsOtherwise_66 rfl (lv_at hl 0 rfl) ?_
        refine lv_bipush (v := (nI 6)) hx hb dX3_beginsOtherwise_67 (by decide) ?_
        refine nv_icmp_lt (tgt := 78) hx hb (by omega) (by omega) dX3_beginsOtherwise_69 (by decide) (fun c69 => ?_) (fun c69 => ?_)
        · skip
          refine lv_iconst (v := (nI 1)) hx hb dX3_beginsOtherwise_78 (by decide) ?_
          refine lv_goto (tgt := 83) hx hb dX3_beginsOtherwise_79 (by decide) ?_
          have hP : va_P D vwCl [(h0, .inr (3, [.ref rw, .ref sm, .int (nI ck)])), (rw, .inr (0, [.ref ra, .int (nI bl.length)])), (ra, .inl (cyI, 56, .inl f)), (sm, .inr (10, [.int (nI cv)]))] H := pickP hP [0, 2, 3, 1] rfl
          have hD : va_D A [(h0, .inr (3, [.ref rw, .ref sm, .int (nI ck)])), (rw, .inr (0, [.ref ra, .int (nI bl.length)])), (ra, .inl (cyI, 56, .inl f)), (sm, .inr (10, [.int (nI cv)]))] := hD.sub [0, 2, 3, 1] (by decide) rfl
          exact ret_z hQ hx hb hr hlocks dX3_beginsOtherwise_83 hK hS (rfl) () (by first | exact (bI_t (by unfold begBad; omega)).symm | exact (bI_f (by unfold begBad; omega)).symm) hP hD
        · skip
          refine lv_iload_n hx hb dX3_beginsOtherwise_72 rfl (lv_at hl 0 rfl) ?_
          refine lv_bipush (v := (nI 45)) hx hb dX3_beginsOtherwise_73 (by decide) ?_
          refine nv_icmp_le (tgt := 82) hx hb (by omega) (by omega) dX3_beginsOtherwise_75 (by decide) (fun c75 => ?_) (fun c75 => ?_)
          · skip
            refine lv_iconst (v := (nI 0)) hx hb dX3_beginsOtherwise_82 (by decide) ?_
            have hP : va_P D vwCl [(h0, .inr (3, [.ref rw, .ref sm, .int (nI ck)])), (rw, .inr (0, [.ref ra, .int (nI bl.length)])), (ra, .inl (cyI, 56, .inl f)), (sm, .inr (10, [.int (nI cv)]))] H := pickP hP [0, 2, 3, 1] rfl
            have hD : va_D A [(h0, .inr (3, [.ref rw, .ref sm, .int (nI ck)])), (rw, .inr (0, [.ref ra, .int (nI bl.length)])), (ra, .inl (cyI, 56, .inl f)), (sm, .inr (10, [.int (nI cv)]))] := hD.sub [0, 2, 3, 1] (by decide) rfl
            exact ret_z hQ hx hb hr hlocks dX3_beginsOtherwise_83 hK hS (rfl) () (by first | exact (bI_t (by unfold begBad; omega)).symm | exact (bI_f (by unfold begBad; omega)).symm) hP hD
          · skip
            refine lv_iconst (v := (nI 1)) hx hb dX3_beginsOtherwise_78 (by decide) ?_
            refine lv_goto (tgt := 83) hx hb dX3_beginsOtherwise_79 (by decide) ?_
            have hP : va_P D vwCl [(h0, .inr (3, [.ref rw, .ref sm, .int (nI ck)])), (rw, .inr (0, [.ref ra, .int (nI bl.length)])), (ra, .inl (cyI, 56, .inl f)), (sm, .inr (10, [.int (nI cv)]))] H := pickP hP [0, 2, 3, 1] rfl
            have hD : va_D A [(h0, .inr (3, [.ref rw, .ref sm, .int (nI ck)])), (rw, .inr (0, [.ref ra, .int (nI bl.length)])), (ra, .inl (cyI, 56, .inl f)), (sm, .inr (10, [.int (nI cv)]))] := hD.sub [0, 2, 3, 1] (by decide) rfl
            exact ret_z hQ hx hb hr hlocks dX3_beginsOtherwise_83 hK hS (rfl) () (by first | exact (bI_t (by unfold begBad; omega)).symm | exact (bI_f (by unfold begBad; omega)).symm) hP hD
    · skip
      refine lv_aload_n hx hb dX3_beginsOtherwise_42 rfl (lv_at hl 1 rfl) ?_
      refine va_get (D := D) (ci := 3) (v := .ref rw) (C := RX3) (T := TX3) (N := 3) hx hb hts inX3_ hown hK hP 0 rfl rfl 0 (by decide) fl14 (fun _ h9 => h9) rfl dX3_beginsOtherwise_43 ?_
      refine lv_iconst (v := (nI 1)) hx hb dX3_beginsOtherwise_46 (by decide) ?_
      refine res_i (wW := [(h0, .inr (3, [.ref rw, .ref sm, .int (nI ck)])), (sm, .inr (10, [.int (nI cv)])), (rw, .inr (0, [.ref ra, .int (nI bl.length)])), (ra, .inl (cyI, 56, .inl f))]) (Wc := [(rw, .inr (0, [.ref ra, .int (nI bl.length)])), (ra, .inl (cyI, 56, .inl f))]) (Wr := [(h0, .inr (3, [.ref rw, .ref sm, .int (nI ck)])), (sm, .inr (10, [.int (nI cv)]))]) (run_V (QA := fun A => va_Qi _ (bw D _ (tyL cyI cyZ) A) A) (rmC := ({ frames := 0, cells := 0, slots := 0, locals := 0 } : Room)) (mc := 0) (ms := 0) (As := [.int (nI 1)]) (rest := []) (ci := 0) (wW := [(h0, .inr (3, [.ref rw, .ref sm, .int (nI ck)])), (sm, .inr (10, [.int (nI cv)])), (rw, .inr (0, [.ref ra, .int (nI bl.length)])), (ra, .inl (cyI, 56, .inl f))]) (Wc := [(rw, .inr (0, [.ref ra, .int (nI bl.length)])), (ra, .inl (cyI, 56, .inl f))]) ⟨hx, hb, hml, hown, hts⟩ (c_X0_at l D cyI cyZ rw ra 56 bl f 1 (by assumption) (by omega)) (cwV 1 hts gX3_beginsOtherwise_X0_at rfl rfl rfl (by decide +kernel) ⟨Nat.le_of_ble_eq_true rfl, Nat.le_of_ble_eq_true rfl⟩) hN hK hP hD [2, 3] rfl (by decide) 2 rfl rfl rfl hl.1 rfl rfl dX3_beginsOtherwise_47 ⟨Nat.le_of_ble_eq_true rfl, Nat.le_of_ble_eq_true rfl⟩) hP hD hS hA [2, 3] [0, 1] rfl rfl (by decide) (by decide) (fun r47 u9 H locs w47 hP hD hS => ?_)
      have w47 : r47 = nI (bl.getD 1 0) ∧ bl.getD 1 0 < 256 := w47
      have hP : va_P D vwCl [(h0, .inr (3, [.ref rw, .ref sm, .int (nI ck)])), (sm, .inr (10, [.int (nI cv)])), (rw, .inr (0, [.ref ra, .int (nI bl.length)])), (ra, .inl (cyI, 56, .inl f))] H := hP
      have hD : va_D A [(h0, .inr (3, [.ref rw, .ref sm, .int (nI ck)])), (sm, .inr (10, [.int (nI cv)])), (rw, .inr (0, [.ref ra, .int (nI bl.length)])), (ra, .inl (cyI, 56, .inl f))] := hD
      refine nv_top (y := (nI (bl.getD 1 0))) (w47.1) ?_
      refine lv_bipush (v := (nI 100)) hx hb dX3_beginsOtherwise_50 (by decide) ?_
      refine nv_icmp_ne (tgt := 78) hx hb (by omega) (by omega) dX3_beginsOtherwise_52 (by decide) (fun c52 => ?_) (fun c52 => ?_)
      · skip
        refine lv_iconst (v := (nI 1)) hx hb dX3_beginsOtherwise_78 (by decide) ?_
        refine lv_goto (tgt := 83) hx hb dX3_beginsOtherwise_79 (by decide) ?_
        have hP : va_P D vwCl [(h0, .inr (3, [.ref rw, .ref sm, .int (nI ck)])), (rw, .inr (0, [.ref ra, .int (nI bl.length)])), (ra, .inl (cyI, 56, .inl f)), (sm, .inr (10, [.int (nI cv)]))] H := pickP hP [0, 2, 3, 1] rfl
        have hD : va_D A [(h0, .inr (3, [.ref rw, .ref sm, .int (nI ck)])), (rw, .inr (0, [.ref ra, .int (nI bl.length)])), (ra, .inl (cyI, 56, .inl f)), (sm, .inr (10, [.int (nI cv)]))] := hD.sub [0, 2, 3, 1] (by decide) rfl
        exact ret_z hQ hx hb hr hlocks dX3_beginsOtherwise_83 hK hS (rfl) () (by first | exact (bI_t (by unfold begBad; omega)).symm | exact (bI_f (by unfold begBad; omega)).symm) hP hD
      · skip
        refine lv_aload_n hx hb dX3_beginsOtherwise_55 rfl (lv_at hl 1 rfl) ?_
        refine va_get (D := D) (ci := 3) (v := .ref rw) (C := RX3) (T := TX3) (N := 3) hx hb hts inX3_ hown hK hP 0 rfl rfl 0 (by decide) fl14 (fun _ h9 => h9) rfl dX3_beginsOtherwise_56 ?_
        refine res_i (wW := [(h0, .inr (3, [.ref rw, .ref sm, .int (nI ck)])), (sm, .inr (10, [.int (nI cv)])), (rw, .inr (0, [.ref ra, .int (nI bl.length)])), (ra, .inl (cyI, 56, .inl f))]) (Wc := [(rw, .inr (0, [.ref ra, .int (nI bl.length)])), (ra, .inl (cyI, 56, .inl f))]) (Wr := [(h0, .inr (3, [.ref rw, .ref sm, .int (nI ck)])), (sm, .inr (10, [.int (nI cv)]))]) (run_V (QA := fun A => va_Qi _ (bw D _ (tyL cyI cyZ) A) A) (rmC := ({ frames := 0, cells := 0, slots := 0, locals := 0 } : Room)) (mc := 0) (ms := 0) (As := []) (rest := []) (ci := 0) (wW := [(h0, .inr (3, [.ref rw, .ref sm, .int (nI ck)])), (sm, .inr (10, [.int (nI cv)])), (rw, .inr (0, [.ref ra, .int (nI bl.length)])), (ra, .inl (cyI, 56, .inl f))]) (Wc := [(rw, .inr (0, [.ref ra, .int (nI bl.length)])), (ra, .inl (cyI, 56, .inl f))]) ⟨hx, hb, hml, hown, hts⟩ (c_X0_length l D cyI cyZ rw ra 56 bl f ) (cwV 0 hts gX3_beginsOtherwise_X0_length rfl rfl rfl (by decide +kernel) ⟨Nat.le_of_ble_eq_true rfl, Nat.le_of_ble_eq_true rfl⟩) hN hK hP hD [2, 3] rfl (by decide) 2 rfl rfl rfl hl.1 rfl rfl dX3_beginsOtherwise_59 ⟨Nat.le_of_ble_eq_true rfl, Nat.le_of_ble_eq_true rfl⟩) hP hD hS hA [2, 3] [0, 1] rfl rfl (by decide) (by decide) (fun r59_1 u9 H locs w59 hP hD hS => ?_)
        have w59 : r59_1 = nI bl.length := w59
        have hP : va_P D vwCl [(h0, .inr (3, [.ref rw, .ref sm, .int (nI ck)])), (sm, .inr (10, [.int (nI cv)])), (rw, .inr (0, [.ref ra, .int (nI bl.length)])), (ra, .inl (cyI, 56, .inl f))] H := hP
        have hD : va_D A [(h0, .inr (3, [.ref rw, .ref sm, .int (nI ck)])), (sm, .inr (10, [.int (nI cv)])), (rw, .inr (0, [.ref ra, .int (nI bl.length)])), (ra, .inl (cyI, 56, .inl f))] := hD
        refine nv_top (y := (nI bl.length)) (w59) ?_
        refine lv_iconst (v := (nI 2)) hx hb dX3_beginsOtherwise_62 (by decide) ?_
        refine nv_icmp_le (tgt := 82) hx hb (by omega) (by omega) dX3_beginsOtherwise_63 (by decide) (fun c63 => ?_) (fun c63 => ?_)
        · skip
          refine lv_iconst (v := (nI 0)) hx hb dX3_beginsOtherwise_82 (by decide) ?_
          have hP : va_P D vwCl [(h0, .inr (3, [.ref rw, .ref sm, .int (nI ck)])), (rw, .inr (0, [.ref ra, .int (nI bl.length)])), (ra, .inl (cyI, 56, .inl f)), (sm, .inr (10, [.int (nI cv)]))] H := pickP hP [0, 2, 3, 1] rfl
          have hD : va_D A [(h0, .inr (3, [.ref rw, .ref sm, .int (nI ck)])), (rw, .inr (0, [.ref ra, .int (nI bl.length)])), (ra, .inl (cyI, 56, .inl f)), (sm, .inr (10, [.int (nI cv)]))] := hD.sub [0, 2, 3, 1] (by decide) rfl
          exact ret_z hQ hx hb hr hlocks dX3_beginsOtherwise_83 hK hS (rfl) () (by first | exact (bI_t (by unfold begBad; omega)).symm | exact (bI_f (by unfold begBad; omega)).symm) hP hD
        · skip
          refine lv_iload_n hx hb dX3_beginsOtherwise_66 rfl (lv_at hl 0 rfl) ?_
          refine lv_bipush (v := (nI 6)) hx hb dX3_beginsOtherwise_67 (by decide) ?_
          refine nv_icmp_lt (tgt := 78) hx hb (by omega) (by omega) dX3_beginsOtherwise_69 (by decide) (fun c69 => ?_) (fun c69 => ?_)
          · skip
            refine lv_iconst (v := (nI 1)) hx hb dX3_beginsOtherwise_78 (by decide) ?_
            refine lv_goto (tgt := 83) hx hb dX3_beginsOtherwise_79 (by decide) ?_
            have hP : va_P D vwCl [(h0, .inr (3, [.ref rw, .ref sm, .int (nI ck)])), (rw, .inr (0, [.ref ra, .int (nI bl.length)])), (ra, .inl (cyI, 56, .inl f)), (sm, .inr (10, [.int (nI cv)]))] H := pickP hP [0, 2, 3, 1] rfl
            have hD : va_D A [(h0, .inr (3, [.ref rw, .ref sm, .int (nI ck)])), (rw, .inr (0, [.ref ra, .int (nI bl.length)])), (ra, .inl (cyI, 56, .inl f)), (sm, .inr (10, [.int (nI cv)]))] := hD.sub [0, 2, 3, 1] (by decide) rfl
            exact ret_z hQ hx hb hr hlocks dX3_beginsOtherwise_83 hK hS (rfl) () (by first | exact (bI_t (by unfold begBad; omega)).symm | exact (bI_f (by unfold begBad; omega)).symm) hP hD
          · skip
            refine lv_iload_n hx hb dX3_beginsOtherwise_72 rfl (lv_at hl 0 rfl) ?_
            refine lv_bipush (v := (nI 45)) hx hb dX3_beginsOtherwise_73 (by decide) ?_
            refine nv_icmp_le (tgt := 82) hx hb (by omega) (by omega) dX3_beginsOtherwise_75 (by decide) (fun c75 => ?_) (fun c75 => ?_)
            · skip
              refine lv_iconst (v := (nI 0)) hx hb dX3_beginsOtherwise_82 (by decide) ?_
              have hP : va_P D vwCl [(h0, .inr (3, [.ref rw, .ref sm, .int (nI ck)])), (rw, .inr (0, [.ref ra, .int (nI bl.length)])), (ra, .inl (cyI, 56, .inl f)), (sm, .inr (10, [.int (nI cv)]))] H := pickP hP [0, 2, 3, 1] rfl
              have hD : va_D A [(h0, .inr (3, [.ref rw, .ref sm, .int (nI ck)])), (rw, .inr (0, [.ref ra, .int (nI bl.length)])), (ra, .inl (cyI, 56, .inl f)), (sm, .inr (10, [.int (nI cv)]))] := hD.sub [0, 2, 3, 1] (by decide) rfl
              exact ret_z hQ hx hb hr hlocks dX3_beginsOtherwise_83 hK hS (rfl) () (by first | exact (bI_t (by unfold begBad; omega)).symm | exact (bI_f (by unfold begBad; omega)).symm) hP hD
            · skip
              refine lv_iconst (v := (nI 1)) hx hb dX3_beginsOtherwise_78 (by decide) ?_
              refine lv_goto (tgt := 83) hx hb dX3_beginsOtherwise_79 (by decide) ?_
              have hP : va_P D vwCl [(h0, .inr (3, [.ref rw, .ref sm, .int (nI ck)])), (rw, .inr (0, [.ref ra, .int (nI bl.length)])), (ra, .inl (cyI, 56, .inl f)), (sm, .inr (10, [.int (nI cv)]))] H := pickP hP [0, 2, 3, 1] rfl
              have hD : va_D A [(h0, .inr (3, [.ref rw, .ref sm, .int (nI ck)])), (rw, .inr (0, [.ref ra, .int (nI bl.length)])), (ra, .inl (cyI, 56, .inl f)), (sm, .inr (10, [.int (nI cv)]))] := hD.sub [0, 2, 3, 1] (by decide) rfl
              exact ret_z hQ hx hb hr hlocks dX3_beginsOtherwise_83 hK hS (rfl) () (by first | exact (bI_t (by unfold begBad; omega)).symm | exact (bI_f (by unfold begBad; omega)).symm) hP hD
  · skip
    refine lv_aload_n hx hb dX3_beginsOtherwise_19 rfl (lv_at hl 1 rfl) ?_
    refine va_get (D := D) (ci := 3) (v := .ref rw) (C := RX3) (T := TX3) (N := 3) hx hb hts inX3_ hown hK hP 0 rfl rfl 0 (by decide) fl14 (fun _ h9 => h9) rfl dX3_beginsOtherwise_20 ?_
    refine lv_iconst (v := (nI 0)) hx hb dX3_beginsOtherwise_23 (by decide) ?_
    refine res_i (wW := [(h0, .inr (3, [.ref rw, .ref sm, .int (nI ck)])), (sm, .inr (10, [.int (nI cv)])), (rw, .inr (0, [.ref ra, .int (nI bl.length)])), (ra, .inl (cyI, 56, .inl f))]) (Wc := [(rw, .inr (0, [.ref ra, .int (nI bl.length)])), (ra, .inl (cyI, 56, .inl f))]) (Wr := [(h0, .inr (3, [.ref rw, .ref sm, .int (nI ck)])), (sm, .inr (10, [.int (nI cv)]))]) (run_V (QA := fun A => va_Qi _ (bw D _ (tyL cyI cyZ) A) A) (rmC := ({ frames := 0, cells := 0, slots := 0, locals := 0 } : Room)) (mc := 0) (ms := 0) (As := [.int (nI 0)]) (rest := []) (ci := 0) (wW := [(h0, .inr (3, [.ref rw, .ref sm, .int (nI ck)])), (sm, .inr (10, [.int (nI cv)])), (rw, .inr (0, [.ref ra, .int (nI bl.length)])), (ra, .inl (cyI, 56, .inl f))]) (Wc := [(rw, .inr (0, [.ref ra, .int (nI bl.length)])), (ra, .inl (cyI, 56, .inl f))]) ⟨hx, hb, hml, hown, hts⟩ (c_X0_at l D cyI cyZ rw ra 56 bl f 0 (by assumption) (by omega)) (cwV 1 hts gX3_beginsOtherwise_X0_at rfl rfl rfl (by decide +kernel) ⟨Nat.le_of_ble_eq_true rfl, Nat.le_of_ble_eq_true rfl⟩) hN hK hP hD [2, 3] rfl (by decide) 2 rfl rfl rfl hl.1 rfl rfl dX3_beginsOtherwise_24 ⟨Nat.le_of_ble_eq_true rfl, Nat.le_of_ble_eq_true rfl⟩) hP hD hS hA [2, 3] [0, 1] rfl rfl (by decide) (by decide) (fun r24 u9 H locs w24 hP hD hS => ?_)
    have w24 : r24 = nI (bl.getD 0 0) ∧ bl.getD 0 0 < 256 := w24
    have hP : va_P D vwCl [(h0, .inr (3, [.ref rw, .ref sm, .int (nI ck)])), (sm, .inr (10, [.int (nI cv)])), (rw, .inr (0, [.ref ra, .int (nI bl.length)])), (ra, .inl (cyI, 56, .inl f))] H := hP
    have hD : va_D A [(h0, .inr (3, [.ref rw, .ref sm, .int (nI ck)])), (sm, .inr (10, [.int (nI cv)])), (rw, .inr (0, [.ref ra, .int (nI bl.length)])), (ra, .inl (cyI, 56, .inl f))] := hD
    refine nv_top (y := (nI (bl.getD 0 0))) (w24.1) ?_
    refine lv_iconst (v := (nI 5)) hx hb dX3_beginsOtherwise_27 (by decide) ?_
    refine nv_icmp_ne (tgt := 78) hx hb (by omega) (by omega) dX3_beginsOtherwise_28 (by decide) (fun c28 => ?_) (fun c28 => ?_)
    · skip
      refine lv_iconst (v := (nI 1)) hx hb dX3_beginsOtherwise_78 (by decide) ?_
      refine lv_goto (tgt := 83) hx hb dX3_beginsOtherwise_79 (by decide) ?_
      have hP : va_P D vwCl [(h0, .inr (3, [.ref rw, .ref sm, .int (nI ck)])), (rw, .inr (0, [.ref ra, .int (nI bl.length)])), (ra, .inl (cyI, 56, .inl f)), (sm, .inr (10, [.int (nI cv)]))] H := pickP hP [0, 2, 3, 1] rfl
      have hD : va_D A [(h0, .inr (3, [.ref rw, .ref sm, .int (nI ck)])), (rw, .inr (0, [.ref ra, .int (nI bl.length)])), (ra, .inl (cyI, 56, .inl f)), (sm, .inr (10, [.int (nI cv)]))] := hD.sub [0, 2, 3, 1] (by decide) rfl
      exact ret_z hQ hx hb hr hlocks dX3_beginsOtherwise_83 hK hS (rfl) () (by first | exact (bI_t (by unfold begBad; omega)).symm | exact (bI_f (by unfold begBad; omega)).symm) hP hD
    · skip
      refine lv_aload_n hx hb dX3_beginsOtherwise_31 rfl (lv_at hl 1 rfl) ?_
      refine va_get (D := D) (ci := 3) (v := .ref rw) (C := RX3) (T := TX3) (N := 3) hx hb hts inX3_ hown hK hP 0 rfl rfl 0 (by decide) fl14 (fun _ h9 => h9) rfl dX3_beginsOtherwise_32 ?_
      refine res_i (wW := [(h0, .inr (3, [.ref rw, .ref sm, .int (nI ck)])), (sm, .inr (10, [.int (nI cv)])), (rw, .inr (0, [.ref ra, .int (nI bl.length)])), (ra, .inl (cyI, 56, .inl f))]) (Wc := [(rw, .inr (0, [.ref ra, .int (nI bl.length)])), (ra, .inl (cyI, 56, .inl f))]) (Wr := [(h0, .inr (3, [.ref rw, .ref sm, .int (nI ck)])), (sm, .inr (10, [.int (nI cv)]))]) (run_V (QA := fun A => va_Qi _ (bw D _ (tyL cyI cyZ) A) A) (rmC := ({ frames := 0, cells := 0, slots := 0, locals := 0 } : Room)) (mc := 0) (ms := 0) (As := []) (rest := []) (ci := 0) (wW := [(h0, .inr (3, [.ref rw, .ref sm, .int (nI ck)])), (sm, .inr (10, [.int (nI cv)])), (rw, .inr (0, [.ref ra, .int (nI bl.length)])), (ra, .inl (cyI, 56, .inl f))]) (Wc := [(rw, .inr (0, [.ref ra, .int (nI bl.length)])), (ra, .inl (cyI, 56, .inl f))]) ⟨hx, hb, hml, hown, hts⟩ (c_X0_length l D cyI cyZ rw ra 56 bl f ) (cwV 0 hts gX3_beginsOtherwise_X0_length rfl rfl rfl (by decide +kernel) ⟨Nat.le_of_ble_eq_true rfl, Nat.le_of_ble_eq_true rfl⟩) hN hK hP hD [2, 3] rfl (by decide) 2 rfl rfl rfl hl.1 rfl rfl dX3_beginsOtherwise_35 ⟨Nat.le_of_ble_eq_true rfl, Nat.le_of_ble_eq_true rfl⟩) hP hD hS hA [2, 3] [0, 1] rfl rfl (by decide) (by decide) (fun r35_1 u9 H locs w35 hP hD hS => ?_)
      have w35 : r35_1 = nI bl.length := w35
      have hP : va_P D vwCl [(h0, .inr (3, [.ref rw, .ref sm, .int (nI ck)])), (sm, .inr (10, [.int (nI cv)])), (rw, .inr (0, [.ref ra, .int (nI bl.length)])), (ra, .inl (cyI, 56, .inl f))] H := hP
      have hD : va_D A [(h0, .inr (3, [.ref rw, .ref sm, .int (nI ck)])), (sm, .inr (10, [.int (nI cv)])), (rw, .inr (0, [.ref ra, .int (nI bl.length)])), (ra, .inl (cyI, 56, .inl f))] := hD
      refine nv_top (y := (nI bl.length)) (w35) ?_
      refine lv_iconst (v := (nI 1)) hx hb dX3_beginsOtherwise_38 (by decide) ?_
      refine nv_icmp_le (tgt := 55) hx hb (by omega) (by omega) dX3_beginsOtherwise_39 (by decide) (fun c39 => ?_) (fun c39 => ?_)
      · skip
        refine lv_aload_n hx hb dX3_beginsOtherwise_55 rfl (lv_at hl 1 rfl) ?_
        refine va_get (D := D) (ci := 3) (v := .ref rw) (C := RX3) (T := TX3) (N := 3) hx hb hts inX3_ hown hK hP 0 rfl rfl 0 (by decide) fl14 (fun _ h9 => h9) rfl dX3_beginsOtherwise_56 ?_
        refine res_i (wW := [(h0, .inr (3, [.ref rw, .ref sm, .int (nI ck)])), (sm, .inr (10, [.int (nI cv)])), (rw, .inr (0, [.ref ra, .int (nI bl.length)])), (ra, .inl (cyI, 56, .inl f))]) (Wc := [(rw, .inr (0, [.ref ra, .int (nI bl.length)])), (ra, .inl (cyI, 56, .inl f))]) (Wr := [(h0, .inr (3, [.ref rw, .ref sm, .int (nI ck)])), (sm, .inr (10, [.int (nI cv)]))]) (run_V (QA := fun A => va_Qi _ (bw D _ (tyL cyI cyZ) A) A) (rmC := ({ frames := 0, cells := 0, slots := 0, locals := 0 } : Room)) (mc := 0) (ms := 0) (As := []) (rest := []) (ci := 0) (wW := [(h0, .inr (3, [.ref rw, .ref sm, .int (nI ck)])), (sm, .inr (10, [.int (nI cv)])), (rw, .inr (0, [.ref ra, .int (nI bl.length)])), (ra, .inl (cyI, 56, .inl f))]) (Wc := [(rw, .inr (0, [.ref ra, .int (nI bl.length)])), (ra, .inl (cyI, 56, .inl f))]) ⟨hx, hb, hml, hown, hts⟩ (c_X0_length l D cyI cyZ rw ra 56 bl f ) (cwV 0 hts gX3_beginsOtherwise_X0_length rfl rfl rfl (by decide +kernel) ⟨Nat.le_of_ble_eq_true rfl, Nat.le_of_ble_eq_true rfl⟩) hN hK hP hD [2, 3] rfl (by decide) 2 rfl rfl rfl hl.1 rfl rfl dX3_beginsOtherwise_59 ⟨Nat.le_of_ble_eq_true rfl, Nat.le_of_ble_eq_true rfl⟩) hP hD hS hA [2, 3] [0, 1] rfl rfl (by decide) (by decide) (fun r59_2 u9 H locs w59 hP hD hS => ?_)
        have w59 : r59_2 = nI bl.length := w59
        have hP : va_P D vwCl [(h0, .inr (3, [.ref rw, .ref sm, .int (nI ck)])), (sm, .inr (10, [.int (nI cv)])), (rw, .inr (0, [.ref ra, .int (nI bl.length)])), (ra, .inl (cyI, 56, .inl f))] H := hP
        have hD : va_D A [(h0, .inr (3, [.ref rw, .ref sm, .int (nI ck)])), (sm, .inr (10, [.int (nI cv)])), (rw, .inr (0, [.ref ra, .int (nI bl.length)])), (ra, .inl (cyI, 56, .inl f))] := hD
        refine nv_top (y := (nI bl.length)) (w59) ?_
        refine lv_iconst (v := (nI 2)) hx hb dX3_beginsOtherwise_62 (by decide) ?_
        refine nv_icmp_le (tgt := 82) hx hb (by omega) (by omega) dX3_beginsOtherwise_63 (by decide) (fun c63 => ?_) (fun c63 => ?_)
        · skip
          refine lv_iconst (v := (nI 0)) hx hb dX3_beginsOtherwise_82 (by decide) ?_
          have hP : va_P D vwCl [(h0, .inr (3, [.ref rw, .ref sm, .int (nI ck)])), (rw, .inr (0, [.ref ra, .int (nI bl.length)])), (ra, .inl (cyI, 56, .inl f)), (sm, .inr (10, [.int (nI cv)]))] H := pickP hP [0, 2, 3, 1] rfl
          have hD : va_D A [(h0, .inr (3, [.ref rw, .ref sm, .int (nI ck)])), (rw, .inr (0, [.ref ra, .int (nI bl.length)])), (ra, .inl (cyI, 56, .inl f)), (sm, .inr (10, [.int (nI cv)]))] := hD.sub [0, 2, 3, 1] (by decide) rfl
          exact ret_z hQ hx hb hr hlocks dX3_beginsOtherwise_83 hK hS (rfl) () (by first | exact (bI_t (by unfold begBad; omega)).symm | exact (bI_f (by unfold begBad; omega)).symm) hP hD
        · skip
          refine lv_iload_n hx hb dX3_beginsOtherwise_66 rfl (lv_at hl 0 rfl) ?_
          refine lv_bipush (v := (nI 6)) hx hb dX3_beginsOtherwise_67 (by decide) ?_
          refine nv_icmp_lt (tgt := 78) hx hb (by omega) (by omega) dX3_beginsOtherwise_69 (by decide) (fun c69 => ?_) (fun c69 => ?_)
          · skip
            refine lv_iconst (v := (nI 1)) hx hb dX3_beginsOtherwise_78 (by decide) ?_
            refine lv_goto (tgt := 83) hx hb dX3_beginsOtherwise_79 (by decide) ?_
            have hP : va_P D vwCl [(h0, .inr (3, [.ref rw, .ref sm, .int (nI ck)])), (rw, .inr (0, [.ref ra, .int (nI bl.length)])), (ra, .inl (cyI, 56, .inl f)), (sm, .inr (10, [.int (nI cv)]))] H := pickP hP [0, 2, 3, 1] rfl
            have hD : va_D A [(h0, .inr (3, [.ref rw, .ref sm, .int (nI ck)])), (rw, .inr (0, [.ref ra, .int (nI bl.length)])), (ra, .inl (cyI, 56, .inl f)), (sm, .inr (10, [.int (nI cv)]))] := hD.sub [0, 2, 3, 1] (by decide) rfl
            exact ret_z hQ hx hb hr hlocks dX3_beginsOtherwise_83 hK hS (rfl) () (by first | exact (bI_t (by unfold begBad; omega)).symm | exact (bI_f (by unfold begBad; omega)).symm) hP hD
          · skip
            refine lv_iload_n hx hb dX3_beginsOtherwise_72 rfl (lv_at hl 0 rfl) ?_
            refine lv_bipush (v := (nI 45)) hx hb dX3_beginsOtherwise_73 (by decide) ?_
            refine nv_icmp_le (tgt := 82) hx hb (by omega) (by omega) dX3_beginsOtherwise_75 (by decide) (fun c75 => ?_) (fun c75 => ?_)
            · skip
              refine lv_iconst (v := (nI 0)) hx hb dX3_beginsOtherwise_82 (by decide) ?_
              have hP : va_P D vwCl [(h0, .inr (3, [.ref rw, .ref sm, .int (nI ck)])), (rw, .inr (0, [.ref ra, .int (nI bl.length)])), (ra, .inl (cyI, 56, .inl f)), (sm, .inr (10, [.int (nI cv)]))] H := pickP hP [0, 2, 3, 1] rfl
              have hD : va_D A [(h0, .inr (3, [.ref rw, .ref sm, .int (nI ck)])), (rw, .inr (0, [.ref ra, .int (nI bl.length)])), (ra, .inl (cyI, 56, .inl f)), (sm, .inr (10, [.int (nI cv)]))] := hD.sub [0, 2, 3, 1] (by decide) rfl
              exact ret_z hQ hx hb hr hlocks dX3_beginsOtherwise_83 hK hS (rfl) () (by first | exact (bI_t (by unfold begBad; omega)).symm | exact (bI_f (by unfold begBad; omega)).symm) hP hD
            · skip
              refine lv_iconst (v := (nI 1)) hx hb dX3_beginsOtherwise_78 (by decide) ?_
              refine lv_goto (tgt := 83) hx hb dX3_beginsOtherwise_79 (by decide) ?_
              have hP : va_P D vwCl [(h0, .inr (3, [.ref rw, .ref sm, .int (nI ck)])), (rw, .inr (0, [.ref ra, .int (nI bl.length)])), (ra, .inl (cyI, 56, .inl f)), (sm, .inr (10, [.int (nI cv)]))] H := pickP hP [0, 2, 3, 1] rfl
              have hD : va_D A [(h0, .inr (3, [.ref rw, .ref sm, .int (nI ck)])), (rw, .inr (0, [.ref ra, .int (nI bl.length)])), (ra, .inl (cyI, 56, .inl f)), (sm, .inr (10, [.int (nI cv)]))] := hD.sub [0, 2, 3, 1] (by decide) rfl
              exact ret_z hQ hx hb hr hlocks dX3_beginsOtherwise_83 hK hS (rfl) () (by first | exact (bI_t (by unfold begBad; omega)).symm | exact (bI_f (by unfold begBad; omega)).symm) hP hD
      · skip
        refine lv_aload_n hx hb dX3_beginsOtherwise_42 rfl (lv_at hl 1 rfl) ?_
        refine va_get (D := D) (ci := 3) (v := .ref rw) (C := RX3) (T := TX3) (N := 3) hx hb hts inX3_ hown hK hP 0 rfl rfl 0 (by decide) fl14 (fun _ h9 => h9) rfl dX3_beginsOtherwise_43 ?_
        refine lv_iconst (v := (nI 1)) hx hb dX3_beginsOtherwise_46 (by decide) ?_
        refine res_i (wW := [(h0, .inr (3, [.ref rw, .ref sm, .int (nI ck)])), (sm, .inr (10, [.int (nI cv)])), (rw, .inr (0, [.ref ra, .int (nI bl.length)])), (ra, .inl (cyI, 56, .inl f))]) (Wc := [(rw, .inr (0, [.ref ra, .int (nI bl.length)])), (ra, .inl (cyI, 56, .inl f))]) (Wr := [(h0, .inr (3, [.ref rw, .ref sm, .int (nI ck)])), (sm, .inr (10, [.int (nI cv)]))]) (run_V (QA := fun A => va_Qi _ (bw D _ (tyL cyI cyZ) A) A) (rmC := ({ frames := 0, cells := 0, slots := 0, locals := 0 } : Room)) (mc := 0) (ms := 0) (As := [.int (nI 1)]) (rest := []) (ci := 0) (wW := [(h0, .inr (3, [.ref rw, .ref sm, .int (nI ck)])), (sm, .inr (10, [.int (nI cv)])), (rw, .inr (0, [.ref ra, .int (nI bl.length)])), (ra, .inl (cyI, 56, .inl f))]) (Wc := [(rw, .inr (0, [.ref ra, .int (nI bl.length)])), (ra, .inl (cyI, 56, .inl f))]) ⟨hx, hb, hml, hown, hts⟩ (c_X0_at l D cyI cyZ rw ra 56 bl f 1 (by assumption) (by omega)) (cwV 1 hts gX3_beginsOtherwise_X0_at rfl rfl rfl (by decide +kernel) ⟨Nat.le_of_ble_eq_true rfl, Nat.le_of_ble_eq_true rfl⟩) hN hK hP hD [2, 3] rfl (by decide) 2 rfl rfl rfl hl.1 rfl rfl dX3_beginsOtherwise_47 ⟨Nat.le_of_ble_eq_true rfl, Nat.le_of_ble_eq_true rfl⟩) hP hD hS hA [2, 3] [0, 1] rfl rfl (by decide) (by decide) (fun r47_1 u9 H locs w47 hP hD hS => ?_)
        have w47 : r47_1 = nI (bl.getD 1 0) ∧ bl.getD 1 0 < 256 := w47
        have hP : va_P D vwCl [(h0, .inr (3, [.ref rw, .ref sm, .int (nI ck)])), (sm, .inr (10, [.int (nI cv)])), (rw, .inr (0, [.ref ra, .int (nI bl.length)])), (ra, .inl (cyI, 56, .inl f))] H := hP
        have hD : va_D A [(h0, .inr (3, [.ref rw, .ref sm, .int (nI ck)])), (sm, .inr (10, [.int (nI cv)])), (rw, .inr (0, [.ref ra, .int (nI bl.length)])), (ra, .inl (cyI, 56, .inl f))] := hD
        refine nv_top (y := (nI (bl.getD 1 0))) (w47.1) ?_
        refine lv_bipush (v := (nI 100)) hx hb dX3_beginsOtherwise_50 (by decide) ?_
        refine nv_icmp_ne (tgt := 78) hx hb (by omega) (by omega) dX3_beginsOtherwise_52 (by decide) (fun c52 => ?_) (fun c52 => ?_)
        · skip
          refine lv_iconst (v := (nI 1)) hx hb dX3_beginsOtherwise_78 (by decide) ?_
          refine lv_goto (tgt := 83) hx hb dX3_beginsOtherwise_79 (by decide) ?_
          have hP : va_P D vwCl [(h0, .inr (3, [.ref rw, .ref sm, .int (nI ck)])), (rw, .inr (0, [.ref ra, .int (nI bl.length)])), (ra, .inl (cyI, 56, .inl f)), (sm, .inr (10, [.int (nI cv)]))] H := pickP hP [0, 2, 3, 1] rfl
          have hD : va_D A [(h0, .inr (3, [.ref rw, .ref sm, .int (nI ck)])), (rw, .inr (0, [.ref ra, .int (nI bl.length)])), (ra, .inl (cyI, 56, .inl f)), (sm, .inr (10, [.int (nI cv)]))] := hD.sub [0, 2, 3, 1] (by decide) rfl
          exact ret_z hQ hx hb hr hlocks dX3_beginsOtherwise_83 hK hS (rfl) () (by first | exact (bI_t (by unfold begBad; omega)).symm | exact (bI_f (by unfold begBad; omega)).symm) hP hD
        · skip
          refine lv_aload_n hx hb dX3_beginsOtherwise_55 rfl (lv_at hl 1 rfl) ?_
          refine va_get (D := D) (ci := 3) (v := .ref rw) (C := RX3) (T := TX3) (N := 3) hx hb hts inX3_ hown hK hP 0 rfl rfl 0 (by decide) fl14 (fun _ h9 => h9) rfl dX3_beginsOtherwise_56 ?_
          refine res_i (wW := [(h0, .inr (3, [.ref rw, .ref sm, .int (nI ck)])), (sm, .inr (10, [.int (nI cv)])), (rw, .inr (0, [.ref ra, .int (nI bl.length)])), (ra, .inl (cyI, 56, .inl f))]) (Wc := [(rw, .inr (0, [.ref ra, .int (nI bl.length)])), (ra, .inl (cyI, 56, .inl f))]) (Wr := [(h0, .inr (3, [.ref rw, .ref sm, .int (nI ck)])), (sm, .inr (10, [.int (nI cv)]))]) (run_V (QA := fun A => va_Qi _ (bw D _ (tyL cyI cyZ) A) A) (rmC := ({ frames := 0, cells := 0, slots := 0, locals := 0 } : Room)) (mc := 0) (ms := 0) (As := []) (rest := []) (ci := 0) (wW := [(h0, .inr (3, [.ref rw, .ref sm, .int (nI ck)])), (sm, .inr (10, [.int (nI cv)])), (rw, .inr (0, [.ref ra, .int (nI bl.length)])), (ra, .inl (cyI, 56, .inl f))]) (Wc := [(rw, .inr (0, [.ref ra, .int (nI bl.length)])), (ra, .inl (cyI, 56, .inl f))]) ⟨hx, hb, hml, hown, hts⟩ (c_X0_length l D cyI cyZ rw ra 56 bl f ) (cwV 0 hts gX3_beginsOtherwise_X0_length rfl rfl rfl (by decide +kernel) ⟨Nat.le_of_ble_eq_true rfl, Nat.le_of_ble_eq_true rfl⟩) hN hK hP hD [2, 3] rfl (by decide) 2 rfl rfl rfl hl.1 rfl rfl dX3_beginsOtherwise_59 ⟨Nat.le_of_ble_eq_true rfl, Nat.le_of_ble_eq_true rfl⟩) hP hD hS hA [2, 3] [0, 1] rfl rfl (by decide) (by decide) (fun r59_3 u9 H locs w59 hP hD hS => ?_)
          have w59 : r59_3 = nI bl.length := w59
          have hP : va_P D vwCl [(h0, .inr (3, [.ref rw, .ref sm, .int (nI ck)])), (sm, .inr (10, [.int (nI cv)])), (rw, .inr (0, [.ref ra, .int (nI bl.length)])), (ra, .inl (cyI, 56, .inl f))] H := hP
          have hD : va_D A [(h0, .inr (3, [.ref rw, .ref sm, .int (nI ck)])), (sm, .inr (10, [.int (nI cv)])), (rw, .inr (0, [.ref ra, .int (nI bl.length)])), (ra, .inl (cyI, 56, .inl f))] := hD
          refine nv_top (y := (nI bl.length)) (w59) ?_
          refine lv_iconst (v := (nI 2)) hx hb dX3_beginsOtherwise_62 (by decide) ?_
          refine nv_icmp_le (tgt := 82) hx hb (by omega) (by omega) dX3_beginsOtherwise_63 (by decide) (fun c63 => ?_) (fun c63 => ?_)
          · skip
            refine lv_iconst (v := (nI 0)) hx hb dX3_beginsOtherwise_82 (by decide) ?_
            have hP : va_P D vwCl [(h0, .inr (3, [.ref rw, .ref sm, .int (nI ck)])), (rw, .inr (0, [.ref ra, .int (nI bl.length)])), (ra, .inl (cyI, 56, .inl f)), (sm, .inr (10, [.int (nI cv)]))] H := pickP hP [0, 2, 3, 1] rfl
            have hD : va_D A [(h0, .inr (3, [.ref rw, .ref sm, .int (nI ck)])), (rw, .inr (0, [.ref ra, .int (nI bl.length)])), (ra, .inl (cyI, 56, .inl f)), (sm, .inr (10, [.int (nI cv)]))] := hD.sub [0, 2, 3, 1] (by decide) rfl
            exact ret_z hQ hx hb hr hlocks dX3_beginsOtherwise_83 hK hS (rfl) () (by first | exact (bI_t (by unfold begBad; omega)).symm | exact (bI_f (by unfold begBad; omega)).symm) hP hD
          · skip
            refine lv_iload_n hx hb dX3_beginsOtherwise_66 rfl (lv_at hl 0 rfl) ?_
            refine lv_bipush (v := (nI 6)) hx hb dX3_beginsOtherwise_67 (by decide) ?_
            refine nv_icmp_lt (tgt := 78) hx hb (by omega) (by omega) dX3_beginsOtherwise_69 (by decide) (fun c69 => ?_) (fun c69 => ?_)
            · skip
              refine lv_iconst (v := (nI 1)) hx hb dX3_beginsOtherwise_78 (by decide) ?_
              refine lv_goto (tgt := 83) hx hb dX3_beginsOtherwise_79 (by decide) ?_
              have hP : va_P D vwCl [(h0, .inr (3, [.ref rw, .ref sm, .int (nI ck)])), (rw, .inr (0, [.ref ra, .int (nI bl.length)])), (ra, .inl (cyI, 56, .inl f)), (sm, .inr (10, [.int (nI cv)]))] H := pickP hP [0, 2, 3, 1] rfl
              have hD : va_D A [(h0, .inr (3, [.ref rw, .ref sm, .int (nI ck)])), (rw, .inr (0, [.ref ra, .int (nI bl.length)])), (ra, .inl (cyI, 56, .inl f)), (sm, .inr (10, [.int (nI cv)]))] := hD.sub [0, 2, 3, 1] (by decide) rfl
              exact ret_z hQ hx hb hr hlocks dX3_beginsOtherwise_83 hK hS (rfl) () (by first | exact (bI_t (by unfold begBad; omega)).symm | exact (bI_f (by unfold begBad; omega)).symm) hP hD
            · skip
              refine lv_iload_n hx hb dX3_beginsOtherwise_72 rfl (lv_at hl 0 rfl) ?_
              refine lv_bipush (v := (nI 45)) hx hb dX3_beginsOtherwise_73 (by decide) ?_
              refine nv_icmp_le (tgt := 82) hx hb (by omega) (by omega) dX3_beginsOtherwise_75 (by decide) (fun c75 => ?_) (fun c75 => ?_)
              · skip
                refine lv_iconst (v := (nI 0)) hx hb dX3_beginsOtherwise_82 (by decide) ?_
                have hP : va_P D vwCl [(h0, .inr (3, [.ref rw, .ref sm, .int (nI ck)])), (rw, .inr (0, [.ref ra, .int (nI bl.length)])), (ra, .inl (cyI, 56, .inl f)), (sm, .inr (10, [.int (nI cv)]))] H := pickP hP [0, 2, 3, 1] rfl
                have hD : va_D A [(h0, .inr (3, [.ref rw, .ref sm, .int (nI ck)])), (rw, .inr (0, [.ref ra, .int (nI bl.length)])), (ra, .inl (cyI, 56, .inl f)), (sm, .inr (10, [.int (nI cv)]))] := hD.sub [0, 2, 3, 1] (by decide) rfl
                exact ret_z hQ hx hb hr hlocks dX3_beginsOtherwise_83 hK hS (rfl) () (by first | exact (bI_t (by unfold begBad; omega)).symm | exact (bI_f (by unfold begBad; omega)).symm) hP hD
              · skip
                refine lv_iconst (v := (nI 1)) hx hb dX3_beginsOtherwise_78 (by decide) ?_
                refine lv_goto (tgt := 83) hx hb dX3_beginsOtherwise_79 (by decide) ?_
                have hP : va_P D vwCl [(h0, .inr (3, [.ref rw, .ref sm, .int (nI ck)])), (rw, .inr (0, [.ref ra, .int (nI bl.length)])), (ra, .inl (cyI, 56, .inl f)), (sm, .inr (10, [.int (nI cv)]))] H := pickP hP [0, 2, 3, 1] rfl
                have hD : va_D A [(h0, .inr (3, [.ref rw, .ref sm, .int (nI ck)])), (rw, .inr (0, [.ref ra, .int (nI bl.length)])), (ra, .inl (cyI, 56, .inl f)), (sm, .inr (10, [.int (nI cv)]))] := hD.sub [0, 2, 3, 1] (by decide) rfl
                exact ret_z hQ hx hb hr hlocks dX3_beginsOtherwise_83 hK hS (rfl) () (by first | exact (bI_t (by unfold begBad; omega)).symm | exact (bI_f (by unfold begBad; omega)).symm) hP hD
set_option maxHeartbeats 4000000 in
set_option maxRecDepth 100000 in
theorem c_X3_sumIsRight (l : Launch) (D : va_G) (cyI cyZ : ClassId) (h0 rw sm ck ra : Nat) (bl : List Nat) (f : Nat → Int32) (cv : Nat) (b0 n : Nat) (ok : okB 56 bl f) (hsn : b0 + n < 1000) : Ci l D yX3_sumIsRight wsX3_sumIsRight ({ frames := 1, cells := 0, slots := 0, locals := 24 } : Room) [.ref h0, .int (nI b0), .int (nI n)] [(h0, .inr (3, [.ref rw, .ref sm, .int (nI ck)])), (rw, .inr (0, [.ref ra, .int (nI bl.length)])), (ra, .inl (cyI, 56, .inl f)), (sm, .inr (10, [.int (nI cv)]))] (tyL cyI cyZ) (fun (r : Int32) (_ : Unit) => r = bI (sumOK bl b0 n) ∧ crcR bl b0 n < 65536) (fun _ : Unit => [(h0, .inr (3, [.ref rw, .ref sm, .int (nI ck)])), (rw, .inr (0, [.ref ra, .int (nI bl.length)])), (ra, .inl (cyI, 56, .inl f)), (sm, .inr (10, [.int (nI (crcR bl b0 n))]))]) 0 0 := by
  refine mk_Ct (cc := cX3_sumIsRight) (maxL := 4) (ret := (some .boolean)) (by decide) rfl rfl ?_
  intro p e s m below meth c A Q ls hx hb hr hts hown hlocks hml hname hA hN hK hP hD hS hQ hl
  have hl : lv_has ls 4 [(0, .ref h0), (1, .int (nI b0)), (2, .int (nI n))] := hl
  have inX3_ : ∀ w ∈ u_ws RX3 TX3 3, w ∈ wsX3_sumIsRight := fun w h => List.mem_cons_of_mem _ (List.mem_append_left _ (List.mem_append_left _ (List.mem_append_right _ h)))
  have fl23 : (Cond.fieldLink RX3 23 "OutStation$Line" "sum" "LOutStation$Sum;").before ([.ref h0, .int (nI b0), .int (nI n)] : List Value).toArray s = true := hts _ (by decide +kernel)
  have fl14 : (Cond.fieldLink RX3 14 "OutStation$Line" "row" "LOutStation$Bytes;").before ([.ref h0, .int (nI b0), .int (nI n)] : List Value).toArray s = true := hts _ (by decide +kernel)
  have hown : s.vm.findClass RX3 = some m.cls := hown
  obtain ⟨H, eH9⟩ : ∃ H, H = s.heap := ⟨_, rfl⟩
  have hP : va_P D vwCl [(h0, .inr (3, [.ref rw, .ref sm, .int (nI ck)])), (rw, .inr (0, [.ref ra, .int (nI bl.length)])), (ra, .inl (cyI, 56, .inl f)), (sm, .inr (10, [.int (nI cv)]))] H := by rw [eH9]; exact hP
  have hS : va_S A s.heap H [] := by rw [eH9]; exact hS
  obtain ⟨locs, eL9⟩ : ∃ z : List Loc, z = [] := ⟨_, rfl⟩
  rw [← eH9, ← eL9]
  have hS : va_S A s.heap H locs := by rw [eL9]; exact hS
  obtain ⟨ok1, ok2, ok3, ok4⟩ := id ok
  refine lv_aload_n hx hb dX3_sumIsRight_0 rfl (lv_at hl 0 rfl) ?_
  refine va_get (D := D) (ci := 3) (v := .ref sm) (C := RX3) (T := TX3) (N := 3) hx hb hts inX3_ hown hK hP 0 rfl rfl 1 (by decide) fl23 (fun _ h9 => h9) rfl dX3_sumIsRight_1 ?_
  refine res_v (wW := [(h0, .inr (3, [.ref rw, .ref sm, .int (nI ck)])), (rw, .inr (0, [.ref ra, .int (nI bl.length)])), (ra, .inl (cyI, 56, .inl f)), (sm, .inr (10, [.int (nI cv)]))]) (Wc := [(sm, .inr (10, [.int (nI cv)]))]) (Wr := [(h0, .inr (3, [.ref rw, .ref sm, .int (nI ck)])), (rw, .inr (0, [.ref ra, .int (nI bl.length)])), (ra, .inl (cyI, 56, .inl f))]) (run_V (QA := fun A => va_Qv _ (bw D _ (tyL cyI cyZ) A) A) (rmC := ({ frames := 0, cells := 0, slots := 0, locals := 0 } : Room)) (mc := 0) (ms := 0) (As := []) (rest := []) (ci := 10) (wW := [(h0, .inr (3, [.ref rw, .ref sm, .int (nI ck)])), (rw, .inr (0, [.ref ra, .int (nI bl.length)])), (ra, .inl (cyI, 56, .inl f)), (sm, .inr (10, [.int (nI cv)]))]) (Wc := [(sm, .inr (10, [.int (nI cv)]))]) ⟨hx, hb, hml, hown, hts⟩ (c_X10_clear l D cyI cyZ sm cv ) (cwV 0 hts gX3_sumIsRight_X10_clear rfl rfl rfl (by decide +kernel) ⟨Nat.le_of_ble_eq_true rfl, Nat.le_of_ble_eq_true rfl⟩) hN hK hP hD [3] rfl (by decide) 3 rfl rfl rfl hl.1 rfl rfl dX3_sumIsRight_4 ⟨Nat.le_of_ble_eq_true rfl, Nat.le_of_ble_eq_true rfl⟩) hP hD hS hA [3] [0, 1, 2] rfl rfl (by decide) (by decide) (fun u9 H locs w4 hP hD hS => ?_)
  have w4 : True := w4
  have hP : va_P D vwCl [(h0, .inr (3, [.ref rw, .ref sm, .int (nI ck)])), (rw, .inr (0, [.ref ra, .int (nI bl.length)])), (ra, .inl (cyI, 56, .inl f)), (sm, .inr (10, [.int (nI 0)]))] H := hP
  have hD : va_D A [(h0, .inr (3, [.ref rw, .ref sm, .int (nI ck)])), (rw, .inr (0, [.ref ra, .int (nI bl.length)])), (ra, .inl (cyI, 56, .inl f)), (sm, .inr (10, [.int (nI 0)]))] := hD
  refine lv_iload_n hx hb dX3_sumIsRight_7 rfl (lv_at hl 1 rfl) ?_
  refine lv_istore_n (lv' := [(3, .int (nI b0)), (0, .ref h0), (1, .int (nI b0)), (2, .int (nI n))]) hx hb dX3_sumIsRight_8 rfl hl (by decide) rfl (fun ls hl => ?_)
  have L9 : ∀ (n9 : Nat) (i cv1 : Nat), (b0 ≤ i) → (i ≤ b0 + n) → (cv1 = crcR bl b0 (i - b0)) → (b0 + n - i) < n9 → ∀ (H : Heap) (locs : List Loc) (ls : Array Slot), va_P D vwCl [(h0, .inr (3, [.ref rw, .ref sm, .int (nI ck)])), (rw, .inr (0, [.ref ra, .int (nI bl.length)])), (ra, .inl (cyI, 56, .inl f)), (sm, .inr (10, [.int (nI cv1)]))] H → va_D A [(h0, .inr (3, [.ref rw, .ref sm, .int (nI ck)])), (rw, .inr (0, [.ref ra, .int (nI bl.length)])), (ra, .inl (cyI, 56, .inl f)), (sm, .inr (10, [.int (nI cv1)]))] → va_S A s.heap H locs → lv_has ls 4 [(0, .ref h0), (1, .int (nI b0)), (2, .int (nI n)), (3, .int (nI i))] → W p l e ({ frames := 1, cells := 0, slots := 0, locals := 24 } : Room) s m ([.ref h0, .int (nI b0), .int (nI n)] : List Value).toArray below meth c H locs 0 0 Q (F0 m 9 ls []) := by
    intro n9
    induction n9 with
    | zero =>
      intro i cv1 hi1 hi2 hcv hm9
      exact absurd hm9 (Nat.not_lt_zero _)
    | succ n9 ih =>
      intro i cv1 hi1 hi2 hcv hm9 H locs ls hP hD hS hl
      have hcvl : cv1 < 65536 := by rw [hcv]; exact crcR_lt ok4 b0 _
      refine lv_iload_n hx hb dX3_sumIsRight_9 rfl (lv_at hl 3 rfl) ?_
      refine lv_iload_n hx hb dX3_sumIsRight_10 rfl (lv_at hl 1 rfl) ?_
      refine lv_iload_n hx hb dX3_sumIsRight_11 rfl (lv_at hl 2 rfl) ?_
      refine nv_iadd hx hb dX3_sumIsRight_12 ?_
      refine nv_icmp_ge (tgt := 37) hx hb (by omega) (by omega) dX3_sumIsRight_13 (by decide) (fun c13 => ?_) (fun c13 => ?_)
      · skip
        refine lv_aload_n hx hb dX3_sumIsRight_37 rfl (lv_at hl 0 rfl) ?_
        refine va_get (D := D) (ci := 3) (v := .ref rw) (C := RX3) (T := TX3) (N := 3) hx hb hts inX3_ hown hK hP 0 rfl rfl 0 (by decide) fl14 (fun _ h9 => h9) rfl dX3_sumIsRight_38 ?_
        refine lv_iload_n hx hb dX3_sumIsRight_41 rfl (lv_at hl 1 rfl) ?_
        refine lv_iload_n hx hb dX3_sumIsRight_42 rfl (lv_at hl 2 rfl) ?_
        refine nv_iadd hx hb dX3_sumIsRight_43 ?_
        refine res_i (wW := [(h0, .inr (3, [.ref rw, .ref sm, .int (nI ck)])), (rw, .inr (0, [.ref ra, .int (nI bl.length)])), (ra, .inl (cyI, 56, .inl f)), (sm, .inr (10, [.int (nI cv1)]))]) (Wc := [(rw, .inr (0, [.ref ra, .int (nI bl.length)])), (ra, .inl (cyI, 56, .inl f))]) (Wr := [(h0, .inr (3, [.ref rw, .ref sm, .int (nI ck)])), (sm, .inr (10, [.int (nI cv1)]))]) (run_V (QA := fun A => va_Qi _ (bw D _ (tyL cyI cyZ) A) A) (rmC := ({ frames := 0, cells := 0, slots := 0, locals := 0 } : Room)) (mc := 0) (ms := 0) (As := [.int (nI (b0 + n))]) (rest := []) (ci := 0) (wW := [(h0, .inr (3, [.ref rw, .ref sm, .int (nI ck)])), (rw, .inr (0, [.ref ra, .int (nI bl.length)])), (ra, .inl (cyI, 56, .inl f)), (sm, .inr (10, [.int (nI cv1)]))]) (Wc := [(rw, .inr (0, [.ref ra, .int (nI bl.length)])), (ra, .inl (cyI, 56, .inl f))]) ⟨hx, hb, hml, hown, hts⟩ (c_X0_at l D cyI cyZ rw ra 56 bl f (b0 + n) (by assumption) (by omega)) (cwV 1 hts gX3_sumIsRight_X0_at rfl rfl rfl (by decide +kernel) ⟨Nat.le_of_ble_eq_true rfl, Nat.le_of_ble_eq_true rfl⟩) hN hK hP hD [1, 2] rfl (by decide) 1 rfl rfl rfl hl.1 rfl rfl dX3_sumIsRight_44 ⟨Nat.le_of_ble_eq_true rfl, Nat.le_of_ble_eq_true rfl⟩) hP hD hS hA [1, 2] [0, 3] rfl rfl (by decide) (by decide) (fun r44 u9 H locs w44 hP hD hS => ?_)
        have w44 : r44 = nI (bl.getD (b0 + n) 0) ∧ bl.getD (b0 + n) 0 < 256 := w44
        have hP : va_P D vwCl [(h0, .inr (3, [.ref rw, .ref sm, .int (nI ck)])), (sm, .inr (10, [.int (nI cv1)])), (rw, .inr (0, [.ref ra, .int (nI bl.length)])), (ra, .inl (cyI, 56, .inl f))] H := hP
        have hD : va_D A [(h0, .inr (3, [.ref rw, .ref sm, .int (nI ck)])), (sm, .inr (10, [.int (nI cv1)])), (rw, .inr (0, [.ref ra, .int (nI bl.length)])), (ra, .inl (cyI, 56, .inl f))] := hD
        refine nv_top (y := (nI (bl.getD (b0 + n) 0))) (w44.1) ?_
        refine lv_sipush (v := (nI 256)) hx hb dX3_sumIsRight_47 (by decide) ?_
        refine lv_aload_n hx hb dX3_sumIsRight_50 rfl (lv_at hl 0 rfl) ?_
        refine va_get (D := D) (ci := 3) (v := .ref rw) (C := RX3) (T := TX3) (N := 3) hx hb hts inX3_ hown hK hP 0 rfl rfl 0 (by decide) fl14 (fun _ h9 => h9) rfl dX3_sumIsRight_51 ?_
        refine lv_iload_n hx hb dX3_sumIsRight_54 rfl (lv_at hl 1 rfl) ?_
        refine lv_iload_n hx hb dX3_sumIsRight_55 rfl (lv_at hl 2 rfl) ?_
        refine nv_iadd hx hb dX3_sumIsRight_56 ?_
        refine lv_iconst (v := (nI 1)) hx hb dX3_sumIsRight_57 (by decide) ?_
        refine nv_iadd hx hb dX3_sumIsRight_58 ?_
        refine res_i (wW := [(h0, .inr (3, [.ref rw, .ref sm, .int (nI ck)])), (sm, .inr (10, [.int (nI cv1)])), (rw, .inr (0, [.ref ra, .int (nI bl.length)])), (ra, .inl (cyI, 56, .inl f))]) (Wc := [(rw, .inr (0, [.ref ra, .int (nI bl.length)])), (ra, .inl (cyI, 56, .inl f))]) (Wr := [(h0, .inr (3, [.ref rw, .ref sm, .int (nI ck)])), (sm, .inr (10, [.int (nI cv1)]))]) (run_V (QA := fun A => va_Qi _ (bw D _ (tyL cyI cyZ) A) A) (rmC := ({ frames := 0, cells := 0, slots := 0, locals := 0 } : Room)) (mc := 0) (ms := 0) (As := [.int (nI ((b0 + n) + 1))]) (rest := [.int (nI 256), .int (nI (bl.getD (b0 + n) 0))]) (ci := 0) (wW := [(h0, .inr (3, [.ref rw, .ref sm, .int (nI ck)])), (sm, .inr (10, [.int (nI cv1)])), (rw, .inr (0, [.ref ra, .int (nI bl.length)])), (ra, .inl (cyI, 56, .inl f))]) (Wc := [(rw, .inr (0, [.ref ra, .int (nI bl.length)])), (ra, .inl (cyI, 56, .inl f))]) ⟨hx, hb, hml, hown, hts⟩ (c_X0_at l D cyI cyZ rw ra 56 bl f ((b0 + n) + 1) (by assumption) (by omega)) (cwV 1 hts gX3_sumIsRight_X0_at rfl rfl rfl (by decide +kernel) ⟨Nat.le_of_ble_eq_true rfl, Nat.le_of_ble_eq_true rfl⟩) hN hK hP hD [2, 3] rfl (by decide) 2 rfl rfl rfl hl.1 rfl rfl dX3_sumIsRight_59 ⟨Nat.le_of_ble_eq_true rfl, Nat.le_of_ble_eq_true rfl⟩) hP hD hS hA [2, 3] [0, 1] rfl rfl (by decide) (by decide) (fun r59 u9 H locs w59 hP hD hS => ?_)
        have w59 : r59 = nI (bl.getD ((b0 + n) + 1) 0) ∧ bl.getD ((b0 + n) + 1) 0 < 256 := w59
        have hP : va_P D vwCl [(h0, .inr (3, [.ref rw, .ref sm, .int (nI ck)])), (sm, .inr (10, [.int (nI cv1)])), (rw, .inr (0, [.ref ra, .int (nI bl.length)])), (ra, .inl (cyI, 56, .inl f))] H := hP
        have hD : va_D A [(h0, .inr (3, [.ref rw, .ref sm, .int (nI ck)])), (sm, .inr (10, [.int (nI cv1)])), (rw, .inr (0, [.ref ra, .int (nI bl.length)])), (ra, .inl (cyI, 56, .inl f))] := hD
        refine nv_top (y := (nI (bl.getD ((b0 + n) + 1) 0))) (w59.1) ?_
        refine nv_imul hx hb dX3_sumIsRight_62 ?_
        refine nv_iadd hx hb dX3_sumIsRight_63 ?_
        refine lv_aload_n hx hb dX3_sumIsRight_64 rfl (lv_at hl 0 rfl) ?_
        refine va_get (D := D) (ci := 3) (v := .ref sm) (C := RX3) (T := TX3) (N := 3) hx hb hts inX3_ hown hK hP 0 rfl rfl 1 (by decide) fl23 (fun _ h9 => h9) rfl dX3_sumIsRight_65 ?_
        refine res_i (wW := [(h0, .inr (3, [.ref rw, .ref sm, .int (nI ck)])), (sm, .inr (10, [.int (nI cv1)])), (rw, .inr (0, [.ref ra, .int (nI bl.length)])), (ra, .inl (cyI, 56, .inl f))]) (Wc := [(sm, .inr (10, [.int (nI cv1)]))]) (Wr := [(h0, .inr (3, [.ref rw, .ref sm, .int (nI ck)])), (rw, .inr (0, [.ref ra, .int (nI bl.length)])), (ra, .inl (cyI, 56, .inl f))]) (run_V (QA := fun A => va_Qi _ (bw D _ (tyL cyI cyZ) A) A) (rmC := ({ frames := 0, cells := 0, slots := 0, locals := 0 } : Room)) (mc := 0) (ms := 0) (As := []) (rest := [.int (nI ((bl.getD (b0 + n) 0) + (256 * (bl.getD ((b0 + n) + 1) 0))))]) (ci := 10) (wW := [(h0, .inr (3, [.ref rw, .ref sm, .int (nI ck)])), (sm, .inr (10, [.int (nI cv1)])), (rw, .inr (0, [.ref ra, .int (nI bl.length)])), (ra, .inl (cyI, 56, .inl f))]) (Wc := [(sm, .inr (10, [.int (nI cv1)]))]) ⟨hx, hb, hml, hown, hts⟩ (c_X10_value l D cyI cyZ sm cv1 (by assumption)) (cwV 0 hts gX3_sumIsRight_X10_value rfl rfl rfl (by decide +kernel) ⟨Nat.le_of_ble_eq_true rfl, Nat.le_of_ble_eq_true rfl⟩) hN hK hP hD [1] rfl (by decide) 1 rfl rfl rfl hl.1 rfl rfl dX3_sumIsRight_68 ⟨Nat.le_of_ble_eq_true rfl, Nat.le_of_ble_eq_true rfl⟩) hP hD hS hA [1] [0, 2, 3] rfl rfl (by decide) (by decide) (fun r68 u9 H locs w68 hP hD hS => ?_)
        have w68 : r68 = nI (65535 - cv1) := w68
        have hP : va_P D vwCl [(h0, .inr (3, [.ref rw, .ref sm, .int (nI ck)])), (rw, .inr (0, [.ref ra, .int (nI bl.length)])), (ra, .inl (cyI, 56, .inl f)), (sm, .inr (10, [.int (nI cv1)]))] H := hP
        have hD : va_D A [(h0, .inr (3, [.ref rw, .ref sm, .int (nI ck)])), (rw, .inr (0, [.ref ra, .int (nI bl.length)])), (ra, .inl (cyI, 56, .inl f)), (sm, .inr (10, [.int (nI cv1)]))] := hD
        refine nv_top (y := (nI (65535 - cv1))) (w68) ?_
        refine nv_icmp_ne (tgt := 78) hx hb (by omega) (by omega) dX3_sumIsRight_71 (by decide) (fun c71 => ?_) (fun c71 => ?_)
        · skip
          refine lv_iconst (v := (nI 0)) hx hb dX3_sumIsRight_78 (by decide) ?_
          have ew9 : ([(h0, .inr (3, [.ref rw, .ref sm, .int (nI ck)])), (rw, .inr (0, [.ref ra, .int (nI bl.length)])), (ra, .inl (cyI, 56, .inl f)), (sm, .inr (10, [.int (nI (crcR bl b0 n))]))] : va_W) = [(h0, .inr (3, [.ref rw, .ref sm, .int (nI ck)])), (rw, .inr (0, [.ref ra, .int (nI bl.length)])), (ra, .inl (cyI, 56, .inl f)), (sm, .inr (10, [.int (nI cv1)]))] := by rw [hcv, show i - b0 = n by omega]
          have hP : va_P D vwCl [(h0, .inr (3, [.ref rw, .ref sm, .int (nI ck)])), (rw, .inr (0, [.ref ra, .int (nI bl.length)])), (ra, .inl (cyI, 56, .inl f)), (sm, .inr (10, [.int (nI (crcR bl b0 n))]))] H := by rw [ew9]; exact hP
          have hD : va_D A [(h0, .inr (3, [.ref rw, .ref sm, .int (nI ck)])), (rw, .inr (0, [.ref ra, .int (nI bl.length)])), (ra, .inl (cyI, 56, .inl f)), (sm, .inr (10, [.int (nI (crcR bl b0 n))]))] := by rw [ew9]; exact hD
          exact ret_z hQ hx hb hr hlocks dX3_sumIsRight_79 hK hS (rfl) () (⟨by first | exact (bI_t (by unfold sumOK; rw [hcv, show i - b0 = n by omega] at c71; exact c71)).symm | exact (bI_f (by unfold sumOK; rw [hcv, show i - b0 = n by omega] at c71; exact c71)).symm, crcR_lt ok4 b0 n⟩) hP hD
        · skip
          refine lv_iconst (v := (nI 1)) hx hb dX3_sumIsRight_74 (by decide) ?_
          refine lv_goto (tgt := 79) hx hb dX3_sumIsRight_75 (by decide) ?_
          have ew9 : ([(h0, .inr (3, [.ref rw, .ref sm, .int (nI ck)])), (rw, .inr (0, [.ref ra, .int (nI bl.length)])), (ra, .inl (cyI, 56, .inl f)), (sm, .inr (10, [.int (nI (crcR bl b0 n))]))] : va_W) = [(h0, .inr (3, [.ref rw, .ref sm, .int (nI ck)])), (rw, .inr (0, [.ref ra, .int (nI bl.length)])), (ra, .inl (cyI, 56, .inl f)), (sm, .inr (10, [.int (nI cv1)]))] := by rw [hcv, show i - b0 = n by omega]
          have hP : va_P D vwCl [(h0, .inr (3, [.ref rw, .ref sm, .int (nI ck)])), (rw, .inr (0, [.ref ra, .int (nI bl.length)])), (ra, .inl (cyI, 56, .inl f)), (sm, .inr (10, [.int (nI (crcR bl b0 n))]))] H := by rw [ew9]; exact hP
          have hD : va_D A [(h0, .inr (3, [.ref rw, .ref sm, .int (nI ck)])), (rw, .inr (0, [.ref ra, .int (nI bl.length)])), (ra, .inl (cyI, 56, .inl f)), (sm, .inr (10, [.int (nI (crcR bl b0 n))]))] := by rw [ew9]; exact hD
          exact ret_z hQ hx hb hr hlocks dX3_sumIsRight_79 hK hS (rfl) () (⟨by first | exact (bI_t (by unfold sumOK; rw [hcv, show i - b0 = n by omega] at c71; exact c71)).symm | exact (bI_f (by unfold sumOK; rw [hcv, show i - b0 = n by omega] at c71; exact c71)).symm, crcR_lt ok4 b0 n⟩) hP hD
      · skip
        refine lv_aload_n hx hb dX3_sumIsRight_16 rfl (lv_at hl 0 rfl) ?_
        refine va_get (D := D) (ci := 3) (v := .ref sm) (C := RX3) (T := TX3) (N := 3) hx hb hts inX3_ hown hK hP 0 rfl rfl 1 (by decide) fl23 (fun _ h9 => h9) rfl dX3_sumIsRight_17 ?_
        refine lv_aload_n hx hb dX3_sumIsRight_20 rfl (lv_at hl 0 rfl) ?_
        refine va_get (D := D) (ci := 3) (v := .ref rw) (C := RX3) (T := TX3) (N := 3) hx hb hts inX3_ hown hK hP 0 rfl rfl 0 (by decide) fl14 (fun _ h9 => h9) rfl dX3_sumIsRight_21 ?_
        refine lv_iload_n hx hb dX3_sumIsRight_24 rfl (lv_at hl 3 rfl) ?_
        refine res_i (wW := [(h0, .inr (3, [.ref rw, .ref sm, .int (nI ck)])), (rw, .inr (0, [.ref ra, .int (nI bl.length)])), (ra, .inl (cyI, 56, .inl f)), (sm, .inr (10, [.int (nI cv1)]))]) (Wc := [(rw, .inr (0, [.ref ra, .int (nI bl.length)])), (ra, .inl (cyI, 56, .inl f))]) (Wr := [(h0, .inr (3, [.ref rw, .ref sm, .int (nI ck)])), (sm, .inr (10, [.int (nI cv1)]))]) (run_V (QA := fun A => va_Qi _ (bw D _ (tyL cyI cyZ) A) A) (rmC := ({ frames := 0, cells := 0, slots := 0, locals := 0 } : Room)) (mc := 0) (ms := 0) (As := [.int (nI i)]) (rest := [.ref sm]) (ci := 0) (wW := [(h0, .inr (3, [.ref rw, .ref sm, .int (nI ck)])), (rw, .inr (0, [.ref ra, .int (nI bl.length)])), (ra, .inl (cyI, 56, .inl f)), (sm, .inr (10, [.int (nI cv1)]))]) (Wc := [(rw, .inr (0, [.ref ra, .int (nI bl.length)])), (ra, .inl (cyI, 56, .inl f))]) ⟨hx, hb, hml, hown, hts⟩ (c_X0_at l D cyI cyZ rw ra 56 bl f i (by assumption) (by omega)) (cwV 1 hts gX3_sumIsRight_X0_at rfl rfl rfl (by decide +kernel) ⟨Nat.le_of_ble_eq_true rfl, Nat.le_of_ble_eq_true rfl⟩) hN hK hP hD [1, 2] rfl (by decide) 1 rfl rfl rfl hl.1 rfl rfl dX3_sumIsRight_25 ⟨Nat.le_of_ble_eq_true rfl, Nat.le_of_ble_eq_true rfl⟩) hP hD hS hA [1, 2] [0, 3] rfl rfl (by decide) (by decide) (fun r25 u9 H locs w25 hP hD hS => ?_)
        have w25 : r25 = nI (bl.getD i 0) ∧ bl.getD i 0 < 256 := w25
        have hP : va_P D vwCl [(h0, .inr (3, [.ref rw, .ref sm, .int (nI ck)])), (sm, .inr (10, [.int (nI cv1)])), (rw, .inr (0, [.ref ra, .int (nI bl.length)])), (ra, .inl (cyI, 56, .inl f))] H := hP
        have hD : va_D A [(h0, .inr (3, [.ref rw, .ref sm, .int (nI ck)])), (sm, .inr (10, [.int (nI cv1)])), (rw, .inr (0, [.ref ra, .int (nI bl.length)])), (ra, .inl (cyI, 56, .inl f))] := hD
        refine nv_top (y := (nI (bl.getD i 0))) (w25.1) ?_
        refine res_v (wW := [(h0, .inr (3, [.ref rw, .ref sm, .int (nI ck)])), (sm, .inr (10, [.int (nI cv1)])), (rw, .inr (0, [.ref ra, .int (nI bl.length)])), (ra, .inl (cyI, 56, .inl f))]) (Wc := [(sm, .inr (10, [.int (nI cv1)]))]) (Wr := [(h0, .inr (3, [.ref rw, .ref sm, .int (nI ck)])), (rw, .inr (0, [.ref ra, .int (nI bl.length)])), (ra, .inl (cyI, 56, .inl f))]) (run_V (QA := fun A => va_Qv _ (bw D _ (tyL cyI cyZ) A) A) (rmC := ({ frames := 0, cells := 0, slots := 0, locals := 0 } : Room)) (mc := 0) (ms := 0) (As := [.int (nI (bl.getD i 0))]) (rest := []) (ci := 10) (wW := [(h0, .inr (3, [.ref rw, .ref sm, .int (nI ck)])), (sm, .inr (10, [.int (nI cv1)])), (rw, .inr (0, [.ref ra, .int (nI bl.length)])), (ra, .inl (cyI, 56, .inl f))]) (Wc := [(sm, .inr (10, [.int (nI cv1)]))]) ⟨hx, hb, hml, hown, hts⟩ (c_X10_add_N l D cyI cyZ sm cv1 (bl.getD i 0) (by omega) (w25.2)) (cwV 1 hts gX3_sumIsRight_X10_add rfl rfl rfl (by decide +kernel) ⟨Nat.le_of_ble_eq_true rfl, Nat.le_of_ble_eq_true rfl⟩) hN hK hP hD [1] rfl (by decide) 1 rfl rfl rfl hl.1 rfl rfl dX3_sumIsRight_28 ⟨Nat.le_of_ble_eq_true rfl, Nat.le_of_ble_eq_true rfl⟩) hP hD hS hA [1] [0, 2, 3] rfl rfl (by decide) (by decide) (fun u9 H locs w28 hP hD hS => ?_)
        have w28 : True := w28
        have hP : va_P D vwCl [(h0, .inr (3, [.ref rw, .ref sm, .int (nI ck)])), (rw, .inr (0, [.ref ra, .int (nI bl.length)])), (ra, .inl (cyI, 56, .inl f)), (sm, .inr (10, [.int (nI (mixB cv1 (bl.getD i 0)))]))] H := hP
        have hD : va_D A [(h0, .inr (3, [.ref rw, .ref sm, .int (nI ck)])), (rw, .inr (0, [.ref ra, .int (nI bl.length)])), (ra, .inl (cyI, 56, .inl f)), (sm, .inr (10, [.int (nI (mixB cv1 (bl.getD i 0)))]))] := hD
        refine lv_iinc (v := (nI (i + 1))) (lv' := [(3, .int (nI (i + 1))), (0, .ref h0), (1, .int (nI b0)), (2, .int (nI n))]) hx hb dX3_sumIsRight_31 hl (k := 3) rfl (nI_add _ _) (by decide) rfl (fun ls hl => ?_)
        refine lv_goto (tgt := 9) hx hb dX3_sumIsRight_34 (by decide) ?_
        exact ih (i + 1) (mixB cv1 (bl.getD i 0)) (by omega) (by omega) (by rw [show i + 1 - b0 = (i - b0) + 1 by omega, crcR_succ, ← hcv, show b0 + (i - b0) = i by omega]) (by omega) H locs ls hP hD hS (lv_sub hl [1, 2, 3, 0] rfl)
  exact L9 _ b0 0 (by omega) (by omega) (by rw [Nat.sub_self]; rfl) (Nat.lt_succ_self _) H locs ls hP hD hS (lv_sub hl [1, 2, 3, 0] rfl)
set_option maxHeartbeats 4000000 in
set_option maxRecDepth 100000 in
theorem c_X3_stateOfBlocks (l : Launch) (D : va_G) (cyI cyZ : ClassId) (h0 rw sm ck ra : Nat) (bl : List Nat) (f : Nat → Int32) (cv : Nat) (ok : okB 56 bl f) (hcvl : cv < 65536) (hj : ckJ bl ck) : Ci l D yX3_stateOfBlocks wsX3_stateOfBlocks ({ frames := 2, cells := 0, slots := 0, locals := 60 } : Room) [.ref h0] [(h0, .inr (3, [.ref rw, .ref sm, .int (nI ck)])), (rw, .inr (0, [.ref ra, .int (nI bl.length)])), (ra, .inl (cyI, 56, .inl f)), (sm, .inr (10, [.int (nI cv)]))] (tyL cyI cyZ) (fun (r : Int32) (u : Nat × Nat × Nat) => match u with | (sr, ck2, cv2) => r = nI sr ∧ frR bl sr ck2 ∧ cv2 < 65536) (fun u : Nat × Nat × Nat => match u with | (sr, ck2, cv2) => [(h0, .inr (3, [.ref rw, .ref sm, .int (nI ck2)])), (rw, .inr (0, [.ref ra, .int (nI bl.length)])), (ra, .inl (cyI, 56, .inl f)), (sm, .inr (10, [.int (nI cv2)]))]) 0 0 := by
  refine mk_Ct (cc := cX3_stateOfBlocks) (maxL := 4) (ret := (some .int)) (by decide) rfl rfl ?_
  intro p e s m below meth c A Q ls hx hb hr hts hown hlocks hml hname hA hN hK hP hD hS hQ hl
  have hl : lv_has ls 4 [(0, .ref h0)] := hl
  have inX3_ : ∀ w ∈ u_ws RX3 TX3 3, w ∈ wsX3_stateOfBlocks := fun w h => List.mem_cons_of_mem _ (List.mem_append_left _ (List.mem_append_left _ (List.mem_append_right _ h)))
  have fl27 : (Cond.fieldLink RX3 27 "OutStation$Line" "checked" "I").before ([.ref h0] : List Value).toArray s = true := hts _ (by decide +kernel)
  have ml62 : (Cond.methodLink RX3 62 Lib.Math.min.name).before ([.ref h0] : List Value).toArray s = true := hts _ (by decide +kernel)
  have stmin : (Cond.static Lib.Math.min.name).before ([.ref h0] : List Value).toArray s = true := hts _ (by decide +kernel)
  have iM : (Cond.initialized "java/lang/Math").before ([.ref h0] : List Value).toArray s = true := hts _ (by decide +kernel)
  have comin : (Cond.code Lib.Math.min.name Lib.Math.min.code 2 (some .int)).before ([.ref h0] : List Value).toArray s = true := hts _ (by decide +kernel)
  have fl14 : (Cond.fieldLink RX3 14 "OutStation$Line" "row" "LOutStation$Bytes;").before ([.ref h0] : List Value).toArray s = true := hts _ (by decide +kernel)
  have hown : s.vm.findClass RX3 = some m.cls := hown
  obtain ⟨H, eH9⟩ : ∃ H, H = s.heap := ⟨_, rfl⟩
  have hP : va_P D vwCl [(h0, .inr (3, [.ref rw, .ref sm, .int (nI ck)])), (rw, .inr (0, [.ref ra, .int (nI bl.length)])), (ra, .inl (cyI, 56, .inl f)), (sm, .inr (10, [.int (nI cv)]))] H := by rw [eH9]; exact hP
  have hS : va_S A s.heap H [] := by rw [eH9]; exact hS
  obtain ⟨locs, eL9⟩ : ∃ z : List Loc, z = [] := ⟨_, rfl⟩
  rw [← eH9, ← eL9]
  have hS : va_S A s.heap H locs := by rw [eL9]; exact hS
  obtain ⟨ok1, ok2, ok3, ok4⟩ := id ok
  obtain ⟨j, hj1, hj2, hj3, hj4, hj5, hj6, hj7⟩ := id hj
  have hb2 := begBad_2 hj2 hj3
  have hpl : plL bl = bl.getD 2 0 - 5 := rfl
  refine lv_aload_n hx hb dX3_stateOfBlocks_0 rfl (lv_at hl 0 rfl) ?_
  refine va_get (D := D) (ci := 3) (v := .int (nI ck)) (C := RX3) (T := TX3) (N := 3) hx hb hts inX3_ hown hK hP 0 rfl rfl 2 (by decide) fl27 (fun _ h9 => h9) rfl dX3_stateOfBlocks_1 ?_
  refine lv_bipush (v := (nI 10)) hx hb dX3_stateOfBlocks_4 (by decide) ?_
  refine nv_isub hx hb (by omega) dX3_stateOfBlocks_6 ?_
  refine lv_bipush (v := (nI 18)) hx hb dX3_stateOfBlocks_7 (by decide) ?_
  refine nv_idiv hx hb (by omega) (by omega) (by omega) dX3_stateOfBlocks_9 ?_
  refine lv_istore_n (lv' := [(1, .int (nI ((ck - 10) / 18))), (0, .ref h0)]) hx hb dX3_stateOfBlocks_10 rfl hl (by decide) rfl (fun ls hl => ?_)
  refine lv_aload_n hx hb dX3_stateOfBlocks_11 rfl (lv_at hl 1 rfl) ?_
  refine res_i (wW := [(h0, .inr (3, [.ref rw, .ref sm, .int (nI ck)])), (rw, .inr (0, [.ref ra, .int (nI bl.length)])), (ra, .inl (cyI, 56, .inl f)), (sm, .inr (10, [.int (nI cv)]))]) (Wc := [(h0, .inr (3, [.ref rw, .ref sm, .int (nI ck)])), (rw, .inr (0, [.ref ra, .int (nI bl.length)])), (ra, .inl (cyI, 56, .inl f)), (sm, .inr (10, [.int (nI cv)]))]) (Wr := []) (run_V (QA := fun A => va_Qi _ (bw D _ (tyL cyI cyZ) A) A) (rmC := ({ frames := 1, cells := 0, slots := 0, locals := 24 } : Room)) (mc := 0) (ms := 0) (As := []) (rest := []) (ci := 3) (wW := [(h0, .inr (3, [.ref rw, .ref sm, .int (nI ck)])), (rw, .inr (0, [.ref ra, .int (nI bl.length)])), (ra, .inl (cyI, 56, .inl f)), (sm, .inr (10, [.int (nI cv)]))]) (Wc := [(h0, .inr (3, [.ref rw, .ref sm, .int (nI ck)])), (rw, .inr (0, [.ref ra, .int (nI bl.length)])), (ra, .inl (cyI, 56, .inl f)), (sm, .inr (10, [.int (nI cv)]))]) ⟨hx, hb, hml, hown, hts⟩ (c_X3_payloadLength l D cyI cyZ h0 rw sm ck ra bl f cv (by assumption) (by omega)) (cwV 0 hts gX3_stateOfBlocks_X3_payloadLength rfl rfl rfl (by decide +kernel) ⟨Nat.le_of_ble_eq_true rfl, Nat.le_of_ble_eq_true rfl⟩) hN hK hP hD [0, 1, 2, 3] rfl (by decide) 0 rfl rfl rfl hl.1 rfl rfl dX3_stateOfBlocks_12 ⟨Nat.le_of_ble_eq_true rfl, Nat.le_of_ble_eq_true rfl⟩) hP hD hS hA [0, 1, 2, 3] [] rfl rfl (by decide) (by decide) (fun r12 u9 H locs w12 hP hD hS => ?_)
  have w12 : r12 = nI (plL bl) := w12
  have hP : va_P D vwCl [(h0, .inr (3, [.ref rw, .ref sm, .int (nI ck)])), (rw, .inr (0, [.ref ra, .int (nI bl.length)])), (ra, .inl (cyI, 56, .inl f)), (sm, .inr (10, [.int (nI cv)]))] H := hP
  have hD : va_D A [(h0, .inr (3, [.ref rw, .ref sm, .int (nI ck)])), (rw, .inr (0, [.ref ra, .int (nI bl.length)])), (ra, .inl (cyI, 56, .inl f)), (sm, .inr (10, [.int (nI cv)]))] := hD
  refine nv_top (y := (nI (plL bl))) (w12) ?_
  refine lv_iload_n hx hb dX3_stateOfBlocks_15 rfl (lv_at hl 0 rfl) ?_
  refine lv_bipush (v := (nI 16)) hx hb dX3_stateOfBlocks_16 (by decide) ?_
  refine nv_imul hx hb dX3_stateOfBlocks_18 ?_
  refine nv_isub hx hb (by omega) dX3_stateOfBlocks_19 ?_
  refine lv_istore_n (lv' := [(2, .int (nI ((plL bl) - (((ck - 10) / 18) * 16)))), (1, .int (nI ((ck - 10) / 18))), (0, .ref h0)]) hx hb dX3_stateOfBlocks_20 rfl hl (by decide) rfl (fun ls hl => ?_)
  have L21 : ∀ (n9 : Nat) (x : Int32) (j1 ck1 cv1 : Nat), (x.toInt = (plL bl : Int) - 16 * (j1 : Int)) → (ck1 = 10 + min (16 * j1) (plL bl) + 2 * j1) → (ck1 ≤ bl.length) → (16 * j1 < plL bl + 16) → (∀ k, k < j1 → blkOK bl k) → (cv1 < 65536) → (plL bl + 16 - 16 * j1) < n9 → ∀ (H : Heap) (locs : List Loc) (ls : Array Slot), va_P D vwCl [(h0, .inr (3, [.ref rw, .ref sm, .int (nI ck1)])), (rw, .inr (0, [.ref ra, .int (nI bl.length)])), (ra, .inl (cyI, 56, .inl f)), (sm, .inr (10, [.int (nI cv1)]))] H → va_D A [(h0, .inr (3, [.ref rw, .ref sm, .int (nI ck1)])), (rw, .inr (0, [.ref ra, .int (nI bl.length)])), (ra, .inl (cyI, 56, .inl f)), (sm, .inr (10, [.int (nI cv1)]))] → va_S A s.heap H locs → lv_has ls 4 [(0, .ref h0), (2, .int x)] → W p l e ({ frames := 2, cells := 0, slots := 0, locals := 60 } : Room) s m ([.ref h0] : List Value).toArray below meth c H locs 0 0 Q (F0 m 21 ls []) := by
    intro n9
    induction n9 with
    | zero =>
      intro x j1 ck1 cv1 hx9 hck1 hck2 hj8 hbk hcv1 hm9
      exact absurd hm9 (Nat.not_lt_zero _)
    | succ n9 ih =>
      intro x j1 ck1 cv1 hx9 hck1 hck2 hj8 hbk hcv1 hm9 H locs ls hP hD hS hl
      refine lv_iload_n hx hb dX3_stateOfBlocks_21 rfl (lv_at hl 1 rfl) ?_
      refine lv_if_le (tgt := 84) hx hb dX3_stateOfBlocks_22 (by decide) (fun c22 => ?_) (fun c22 => ?_)
      · skip
        refine lv_iconst (v := (nI 2)) hx hb dX3_stateOfBlocks_84 (by decide) ?_
        exact ret_i hQ hx hb hr hlocks dX3_stateOfBlocks_85 hK hS (2, ck1, cv1) (⟨rfl, frR_2 hj2 hj3 hj4 hbk (left_ge hx9 c22) hj8 hck1 hck2, hcv1⟩) hP hD
      · skip
        obtain ⟨L, hL, rfl⟩ : ∃ L : Nat, L = plL bl - 16 * j1 ∧ x = nI L := left_nat hx9 c22 (by omega)
        · skip
          refine lv_iload_n hx hb dX3_stateOfBlocks_25 rfl (lv_at hl 1 rfl) ?_
          refine lv_bipush (v := (nI 16)) hx hb dX3_stateOfBlocks_26 (by decide) ?_
          refine va_mmin hx hb (by rw [hml]; exact hl.1.symm) hown ml62 stmin iM comin (Nat.le_of_ble_eq_true rfl) (Nat.le_of_ble_eq_true rfl) (Nat.zero_le _) (Nat.zero_le _) dX3_stateOfBlocks_28 ?_
          refine nv_top (y := (nI (min L 16))) (nI_min (by omega) (by omega)) ?_
          refine lv_istore_n (lv' := [(3, .int (nI (min L 16))), (0, .ref h0), (2, .int (nI L))]) hx hb dX3_stateOfBlocks_31 rfl hl (by decide) rfl (fun ls hl => ?_)
          have hj9 : 16 * j1 < plL bl := left_lt hx9 c22
          refine lv_aload_n hx hb dX3_stateOfBlocks_32 rfl (lv_at hl 1 rfl) ?_
          refine va_get (D := D) (ci := 3) (v := .ref rw) (C := RX3) (T := TX3) (N := 3) hx hb hts inX3_ hown hK hP 0 rfl rfl 0 (by decide) fl14 (fun _ h9 => h9) rfl dX3_stateOfBlocks_33 ?_
          refine res_i (wW := [(h0, .inr (3, [.ref rw, .ref sm, .int (nI ck1)])), (rw, .inr (0, [.ref ra, .int (nI bl.length)])), (ra, .inl (cyI, 56, .inl f)), (sm, .inr (10, [.int (nI cv1)]))]) (Wc := [(rw, .inr (0, [.ref ra, .int (nI bl.length)])), (ra, .inl (cyI, 56, .inl f))]) (Wr := [(h0, .inr (3, [.ref rw, .ref sm, .int (nI ck1)])), (sm, .inr (10, [.int (nI cv1)]))]) (run_V (QA := fun A => va_Qi _ (bw D _ (tyL cyI cyZ) A) A) (rmC := ({ frames := 0, cells := 0, slots := 0, locals := 0 } : Room)) (mc := 0) (ms := 0) (As := []) (rest := []) (ci := 0) (wW := [(h0, .inr (3, [.ref rw, .ref sm, .int (nI ck1)])), (rw, .inr (0, [.ref ra, .int (nI bl.length)])), (ra, .inl (cyI, 56, .inl f)), (sm, .inr (10, [.int (nI cv1)]))]) (Wc := [(rw, .inr (0, [.ref ra, .int (nI bl.length)])), (ra, .inl (cyI, 56, .inl f))]) ⟨hx, hb, hml, hown, hts⟩ (c_X0_length l D cyI cyZ rw ra 56 bl f ) (cwV 0 hts gX3_stateOfBlocks_X0_length rfl rfl rfl (by decide +kernel) ⟨Nat.le_of_ble_eq_true rfl, Nat.le_of_ble_eq_true rfl⟩) hN hK hP hD [1, 2] rfl (by decide) 1 rfl rfl rfl hl.1 rfl rfl dX3_stateOfBlocks_36 ⟨Nat.le_of_ble_eq_true rfl, Nat.le_of_ble_eq_true rfl⟩) hP hD hS hA [1, 2] [0, 3] rfl rfl (by decide) (by decide) (fun r36 u9 H locs w36 hP hD hS => ?_)
          have w36 : r36 = nI bl.length := w36
          have hP : va_P D vwCl [(h0, .inr (3, [.ref rw, .ref sm, .int (nI ck1)])), (sm, .inr (10, [.int (nI cv1)])), (rw, .inr (0, [.ref ra, .int (nI bl.length)])), (ra, .inl (cyI, 56, .inl f))] H := hP
          have hD : va_D A [(h0, .inr (3, [.ref rw, .ref sm, .int (nI ck1)])), (sm, .inr (10, [.int (nI cv1)])), (rw, .inr (0, [.ref ra, .int (nI bl.length)])), (ra, .inl (cyI, 56, .inl f))] := hD
          refine nv_top (y := (nI bl.length)) (w36) ?_
          refine lv_aload_n hx hb dX3_stateOfBlocks_39 rfl (lv_at hl 1 rfl) ?_
          refine va_get (D := D) (ci := 3) (v := .int (nI ck1)) (C := RX3) (T := TX3) (N := 3) hx hb hts inX3_ hown hK hP 0 rfl rfl 2 (by decide) fl27 (fun _ h9 => h9) rfl dX3_stateOfBlocks_40 ?_
          refine lv_iload_n hx hb dX3_stateOfBlocks_43 rfl (lv_at hl 0 rfl) ?_
          refine nv_iadd hx hb dX3_stateOfBlocks_44 ?_
          refine lv_iconst (v := (nI 2)) hx hb dX3_stateOfBlocks_45 (by decide) ?_
          refine nv_iadd hx hb dX3_stateOfBlocks_46 ?_
          refine nv_icmp_ge (tgt := 52) hx hb (by omega) (by omega) dX3_stateOfBlocks_47 (by decide) (fun c47 => ?_) (fun c47 => ?_)
          · skip
            refine lv_aload_n hx hb dX3_stateOfBlocks_52 rfl (lv_at hl 1 rfl) ?_
            refine lv_aload_n hx hb dX3_stateOfBlocks_53 rfl (lv_at hl 1 rfl) ?_
            refine va_get (D := D) (ci := 3) (v := .int (nI ck1)) (C := RX3) (T := TX3) (N := 3) hx hb hts inX3_ hown hK hP 0 rfl rfl 2 (by decide) fl27 (fun _ h9 => h9) rfl dX3_stateOfBlocks_54 ?_
            refine lv_iload_n hx hb dX3_stateOfBlocks_57 rfl (lv_at hl 0 rfl) ?_
            refine res_i (wW := [(h0, .inr (3, [.ref rw, .ref sm, .int (nI ck1)])), (sm, .inr (10, [.int (nI cv1)])), (rw, .inr (0, [.ref ra, .int (nI bl.length)])), (ra, .inl (cyI, 56, .inl f))]) (Wc := [(h0, .inr (3, [.ref rw, .ref sm, .int (nI ck1)])), (rw, .inr (0, [.ref ra, .int (nI bl.length)])), (ra, .inl (cyI, 56, .inl f)), (sm, .inr (10, [.int (nI cv1)]))]) (Wr := []) (run_V (QA := fun A => va_Qi _ (bw D _ (tyL cyI cyZ) A) A) (rmC := ({ frames := 1, cells := 0, slots := 0, locals := 24 } : Room)) (mc := 0) (ms := 0) (As := [.int (nI ck1), .int (nI (min L 16))]) (rest := []) (ci := 3) (wW := [(h0, .inr (3, [.ref rw, .ref sm, .int (nI ck1)])), (sm, .inr (10, [.int (nI cv1)])), (rw, .inr (0, [.ref ra, .int (nI bl.length)])), (ra, .inl (cyI, 56, .inl f))]) (Wc := [(h0, .inr (3, [.ref rw, .ref sm, .int (nI ck1)])), (rw, .inr (0, [.ref ra, .int (nI bl.length)])), (ra, .inl (cyI, 56, .inl f)), (sm, .inr (10, [.int (nI cv1)]))]) ⟨hx, hb, hml, hown, hts⟩ (c_X3_sumIsRight l D cyI cyZ h0 rw sm ck1 ra bl f cv1 ck1 (min L 16) (by assumption) (by omega)) (cwV 2 hts gX3_stateOfBlocks_X3_sumIsRight rfl rfl rfl (by decide +kernel) ⟨Nat.le_of_ble_eq_true rfl, Nat.le_of_ble_eq_true rfl⟩) hN hK hP hD [0, 2, 3, 1] rfl (by decide) 0 rfl rfl rfl hl.1 rfl rfl dX3_stateOfBlocks_58 ⟨Nat.le_of_ble_eq_true rfl, Nat.le_of_ble_eq_true rfl⟩) hP hD hS hA [0, 2, 3, 1] [] rfl rfl (by decide) (by decide) (fun r58 u9 H locs w58 hP hD hS => ?_)
            have w58 : r58 = bI (sumOK bl ck1 (min L 16)) ∧ crcR bl ck1 (min L 16) < 65536 := w58
            have hP : va_P D vwCl [(h0, .inr (3, [.ref rw, .ref sm, .int (nI ck1)])), (rw, .inr (0, [.ref ra, .int (nI bl.length)])), (ra, .inl (cyI, 56, .inl f)), (sm, .inr (10, [.int (nI (crcR bl ck1 (min L 16)))]))] H := hP
            have hD : va_D A [(h0, .inr (3, [.ref rw, .ref sm, .int (nI ck1)])), (rw, .inr (0, [.ref ra, .int (nI bl.length)])), (ra, .inl (cyI, 56, .inl f)), (sm, .inr (10, [.int (nI (crcR bl ck1 (min L 16)))]))] := hD
            refine nv_top (y := (bI (sumOK bl ck1 (min L 16)))) (w58.1) ?_
            refine bv_if_ne (tgt := 66) hx hb dX3_stateOfBlocks_61 (by decide) (fun c61 => ?_) (fun c61 => ?_)
            · skip
              refine lv_aload_n hx hb dX3_stateOfBlocks_66 rfl (lv_at hl 1 rfl) ?_
              refine lv_dup hx hb dX3_stateOfBlocks_67 rfl ?_
              refine va_get (D := D) (ci := 3) (v := .int (nI ck1)) (C := RX3) (T := TX3) (N := 3) hx hb hts inX3_ hown hK hP 0 rfl rfl 2 (by decide) fl27 (fun _ h9 => h9) rfl dX3_stateOfBlocks_68 ?_
              refine lv_iload_n hx hb dX3_stateOfBlocks_71 rfl (lv_at hl 0 rfl) ?_
              refine lv_iconst (v := (nI 2)) hx hb dX3_stateOfBlocks_72 (by decide) ?_
              refine nv_iadd hx hb dX3_stateOfBlocks_73 ?_
              refine nv_iadd hx hb dX3_stateOfBlocks_74 ?_
              refine va_put (D := D) (ci := 3) (v := .int (nI (ck1 + ((min L 16) + 2)))) (ty := .int) (C := RX3) (T := TX3) (N := 3) hx hb hts inX3_ tyX3 tyX3_ok nmX3 hown hK hP hD hS 0 rfl rfl 2 (by decide) fl27 (fun _ h9 => h9) rfl (by decide +kernel) rfl rfl (Nat.le_of_ble_eq_true rfl) dX3_stateOfBlocks_75 (fun H locs hP hD hS => ?_)
              have hP : va_P D vwCl [(h0, .inr (3, [.ref rw, .ref sm, .int (nI (ck1 + ((min L 16) + 2)))])), (rw, .inr (0, [.ref ra, .int (nI bl.length)])), (ra, .inl (cyI, 56, .inl f)), (sm, .inr (10, [.int (nI (crcR bl ck1 (min L 16)))]))] H := hP
              have hD : va_D A [(h0, .inr (3, [.ref rw, .ref sm, .int (nI (ck1 + ((min L 16) + 2)))])), (rw, .inr (0, [.ref ra, .int (nI bl.length)])), (ra, .inl (cyI, 56, .inl f)), (sm, .inr (10, [.int (nI (crcR bl ck1 (min L 16)))]))] := hD
              refine lv_iinc (v := ((nI L) + Int32.ofInt (-16))) (lv' := [(2, .int ((nI L) + Int32.ofInt (-16))), (3, .int (nI (min L 16))), (0, .ref h0)]) hx hb dX3_stateOfBlocks_78 hl (k := 2) rfl rfl (by decide) rfl (fun ls hl => ?_)
              refine lv_goto (tgt := 21) hx hb dX3_stateOfBlocks_81 (by decide) ?_
              exact ih ((nI L) + Int32.ofInt (-16)) (j1 + 1) (ck1 + ((min L 16) + 2)) (crcR bl ck1 (min L 16)) (by rw [left_next (by omega)]; omega) (by omega) (by omega) (by omega) (fun k hk => if h9 : k = j1 then by subst h9; have h8 := c61; rw [show ck1 = 10 + 18 * k by omega, show min L 16 = min (plL bl - 16 * k) 16 by rw [hL]] at h8; exact h8 else hbk k (by omega)) (w58.2) (by omega) H locs ls hP hD hS (lv_sub hl [2, 0] rfl)
            · skip
              refine lv_iconst (v := (nI 0)) hx hb dX3_stateOfBlocks_64 (by decide) ?_
              exact ret_i hQ hx hb hr hlocks dX3_stateOfBlocks_65 hK hS (0, ck1, crcR bl ck1 (min L 16)) (⟨rfl, frR_0 hj3 (j := j1) hj9 (by omega) (by have h8 := c61; rw [show ck1 = 10 + 18 * j1 by omega, show min L 16 = min (plL bl - 16 * j1) 16 by rw [hL]] at h8; exact h8), w58.2⟩) hP hD
          · skip
            refine lv_iconst (v := (nI 1)) hx hb dX3_stateOfBlocks_50 (by decide) ?_
            have hP : va_P D vwCl [(h0, .inr (3, [.ref rw, .ref sm, .int (nI ck1)])), (rw, .inr (0, [.ref ra, .int (nI bl.length)])), (ra, .inl (cyI, 56, .inl f)), (sm, .inr (10, [.int (nI cv1)]))] H := pickP hP [0, 2, 3, 1] rfl
            have hD : va_D A [(h0, .inr (3, [.ref rw, .ref sm, .int (nI ck1)])), (rw, .inr (0, [.ref ra, .int (nI bl.length)])), (ra, .inl (cyI, 56, .inl f)), (sm, .inr (10, [.int (nI cv1)]))] := hD.sub [0, 2, 3, 1] (by decide) rfl
            exact ret_i hQ hx hb hr hlocks dX3_stateOfBlocks_51 hK hS (1, ck1, cv1) (⟨rfl, frR_1 hj2 hj3 hj4 hj9 hbk (by omega) (by omega), hcv1⟩) hP hD
  exact L21 _ (nI ((plL bl) - (((ck - 10) / 18) * 16))) j ck cv (by rw [nI_toInt (by omega)]; omega) (by omega) (by omega) (by omega) (hj7) (hcvl) (Nat.lt_succ_self _) H locs ls hP hD hS (lv_sub hl [2, 0] rfl)
