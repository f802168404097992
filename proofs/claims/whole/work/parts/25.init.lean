/-! OWN ROWS, written by wip/gen (walk.py, spec_f.py) -/
set_option maxHeartbeats 4000000 in
set_option maxRecDepth 100000 in
theorem c_X10_init (l : Launch) (D : va_G) (cyI cyZ : ClassId) (h0 cv : Nat) : Cv l D yX10_init wsX10_init ({ frames := 1, cells := 0, slots := 0, locals := 12 } : Room) [.ref h0] [(h0, .inr (10, [.int (nI cv)]))] (tyL cyI cyZ) (fun _ : Unit => True) (fun _ : Unit => [(h0, .inr (10, [.int (nI cv)]))]) 0 0 := by
  refine mk_Ct (cc := cX10_init) (maxL := 1) (ret := none) (by decide) rfl rfl ?_
  intro p e s m below meth c A Q ls hx hb hr hts hown hlocks hml hname hA hN hK hP hD hS hQ hl
  have hl : lv_has ls 1 [(0, .ref h0)] := hl
  have ml1 : (Cond.methodLink RX10 1 objectInit).before ([.ref h0] : List Value).toArray s = true := hts _ (by decide +kernel)
  have oi : (Cond.instanceMethod objectInit).before ([.ref h0] : List Value).toArray s = true := hts _ (by decide +kernel)
  have oc : (Cond.code objectInit ⟨#[0xb1]⟩ 1 none).before ([.ref h0] : List Value).toArray s = true := hts _ (by decide +kernel)
  have hname : meth.name = "<init>" := hname
  have hown : s.vm.findClass RX10 = some m.cls := hown
  obtain ⟨H, eH9⟩ : ∃ H, H = s.heap := ⟨_, rfl⟩
  have hP : va_P D vwCl [(h0, .inr (10, [.int (nI cv)]))] H := by rw [eH9]; exact hP
  have hS : va_S A s.heap H [] := by rw [eH9]; exact hS
  obtain ⟨locs, eL9⟩ : ∃ z : List Loc, z = [] := ⟨_, rfl⟩
  rw [← eH9, ← eL9]
  have hS : va_S A s.heap H locs := by rw [eL9]; exact hS
  refine lv_aload_n hx hb dX10_init_0 rfl (lv_at hl 0 rfl) ?_
  refine W.objInit hx hb hown ml1 oi oc rfl (by rw [hml]; exact hl.1) rfl dX10_init_1 (Nat.le_of_ble_eq_true rfl) (Nat.le_of_ble_eq_true rfl) ?_
  refine W.eq (g2 := F0 m 4 ls []) rfl ?_
  exact ret_v hQ hx hb hr hlocks dX10_init_4 hK hS () (trivial) hP hD
set_option maxHeartbeats 4000000 in
set_option maxRecDepth 100000 in
theorem c_X6_init (l : Launch) (D : va_G) (cyI cyZ : ClassId) (h0 : Nat) : Cv l D yX6_init wsX6_init ({ frames := 1, cells := 0, slots := 0, locals := 12 } : Room) [.ref h0] [(h0, .inr (6, []))] (tyL cyI cyZ) (fun _ : Unit => True) (fun _ : Unit => [(h0, .inr (6, []))]) 0 0 := by
  refine mk_Ct (cc := cX6_init) (maxL := 1) (ret := none) (by decide) rfl rfl ?_
  intro p e s m below meth c A Q ls hx hb hr hts hown hlocks hml hname hA hN hK hP hD hS hQ hl
  have hl : lv_has ls 1 [(0, .ref h0)] := hl
  have ml3 : (Cond.methodLink RX6 3 objectInit).before ([.ref h0] : List Value).toArray s = true := hts _ (by decide +kernel)
  have oi : (Cond.instanceMethod objectInit).before ([.ref h0] : List Value).toArray s = true := hts _ (by decide +kernel)
  have oc : (Cond.code objectInit ⟨#[0xb1]⟩ 1 none).before ([.ref h0] : List Value).toArray s = true := hts _ (by decide +kernel)
  have hname : meth.name = "<init>" := hname
  have hown : s.vm.findClass RX6 = some m.cls := hown
  obtain ⟨H, eH9⟩ : ∃ H, H = s.heap := ⟨_, rfl⟩
  have hP : va_P D vwCl [(h0, .inr (6, []))] H := by rw [eH9]; exact hP
  have hS : va_S A s.heap H [] := by rw [eH9]; exact hS
  obtain ⟨locs, eL9⟩ : ∃ z : List Loc, z = [] := ⟨_, rfl⟩
  rw [← eH9, ← eL9]
  have hS : va_S A s.heap H locs := by rw [eL9]; exact hS
  refine lv_aload_n hx hb dX6_init_0 rfl (lv_at hl 0 rfl) ?_
  refine W.objInit hx hb hown ml3 oi oc rfl (by rw [hml]; exact hl.1) rfl dX6_init_1 (Nat.le_of_ble_eq_true rfl) (Nat.le_of_ble_eq_true rfl) ?_
  refine W.eq (g2 := F0 m 4 ls []) rfl ?_
  exact ret_v hQ hx hb hr hlocks dX6_init_4 hK hS () (trivial) hP hD
set_option maxHeartbeats 4000000 in
set_option maxRecDepth 100000 in
theorem c_X0_init_56 (l : Launch) (D : va_G) (cyI cyZ : ClassId) (h0 : Nat) : Cv l D yX0_init wsX0_init ({ frames := 1, cells := 1, slots := 56, locals := 12 } : Room) [.ref h0, .int (nI 56)] [(h0, .inr (0, [.null, .int (nI 0)]))] (tyL cyI cyZ) (fun q1 : Nat => True) (fun q1 : Nat => [(h0, .inr (0, [.ref q1, .int (nI (([] : List Nat).length))])), (q1, .inl (cyI, 56, .inl (fun _ => 0)))]) 1 56 := by
  refine mk_Ct (cc := cX0_init) (maxL := 2) (ret := none) (by decide) rfl rfl ?_
  intro p e s m below meth c A Q ls hx hb hr hts hown hlocks hml hname hA hN hK hP hD hS hQ hl
  have hl : lv_has ls 2 [(0, .ref h0), (1, .int (nI 56))] := hl
  have ml3 : (Cond.methodLink RX0 3 objectInit).before ([.ref h0, .int (nI 56)] : List Value).toArray s = true := hts _ (by decide +kernel)
  have oi : (Cond.instanceMethod objectInit).before ([.ref h0, .int (nI 56)] : List Value).toArray s = true := hts _ (by decide +kernel)
  have oc : (Cond.code objectInit ⟨#[0xb1]⟩ 1 none).before ([.ref h0, .int (nI 56)] : List Value).toArray s = true := hts _ (by decide +kernel)
  have ac_int : (Cond.arrayClass .int).before ([.ref h0, .int (nI 56)] : List Value).toArray s = true := hts _ (by decide +kernel)
  have inX0_ : ∀ w ∈ u_ws RX0 TX0 2, w ∈ wsX0_init := fun w h => List.mem_cons_of_mem _ (List.mem_append_right _ h)
  have fl9 : (Cond.fieldLink RX0 9 "OutStation$Bytes" "cells" "[I").before ([.ref h0, .int (nI 56)] : List Value).toArray s = true := hts _ (by decide +kernel)
  have hname : meth.name = "<init>" := hname
  have hown : s.vm.findClass RX0 = some m.cls := hown
  obtain ⟨H, eH9⟩ : ∃ H, H = s.heap := ⟨_, rfl⟩
  have hP : va_P D vwCl [(h0, .inr (0, [.null, .int (nI 0)]))] H := by rw [eH9]; exact hP
  have hS : va_S A s.heap H [] := by rw [eH9]; exact hS
  obtain ⟨locs, eL9⟩ : ∃ z : List Loc, z = [] := ⟨_, rfl⟩
  rw [← eH9, ← eL9]
  have hS : va_S A s.heap H locs := by rw [eL9]; exact hS
  refine lv_aload_n hx hb dX0_init_0 rfl (lv_at hl 0 rfl) ?_
  refine W.objInit hx hb hown ml3 oi oc rfl (by rw [hml]; exact hl.1) rfl dX0_init_1 (Nat.le_of_ble_eq_true rfl) (Nat.le_of_ble_eq_true rfl) ?_
  refine W.eq (g2 := F0 m 4 ls []) rfl ?_
  refine lv_aload_n hx hb dX0_init_4 rfl (lv_at hl 0 rfl) ?_
  refine lv_iload_n hx hb dX0_init_5 rfl (lv_at hl 1 rfl) ?_
  refine nv_newa hx hb ac_int hK hP hD hS hA (by omega) (by decide) (Nat.le_of_ble_eq_true rfl) (Nat.le_of_ble_eq_true rfl) dX0_init_6 (fun q6 H hP hD hS => ?_)
  have hP : va_P D vwCl [(h0, .inr (0, [.null, .int (nI 0)])), (q6, .inl (cyI, 56, .inl (fun _ => 0)))] H := hP
  have hD : va_D A [(h0, .inr (0, [.null, .int (nI 0)])), (q6, .inl (cyI, 56, .inl (fun _ => 0)))] := hD
  refine va_putF (D := D) (ci := 0) (v := .ref q6) (ty := .array .int) (C := RX0) (T := TX0) (N := 2) hx hb hts inX0_ tyX0 tyX0_ok nmX0 hown hK hP hD hS 0 rfl rfl 0 (by decide) fl9 (fun _ h9 => h9) rfl hname rfl (by decide +kernel) rfl rfl (Nat.le_of_ble_eq_true rfl) dX0_init_8 (fun H locs hP hD hS => ?_)
  have hP : va_P D vwCl [(h0, .inr (0, [.ref q6, .int (nI 0)])), (q6, .inl (cyI, 56, .inl (fun _ => 0)))] H := hP
  have hD : va_D A [(h0, .inr (0, [.ref q6, .int (nI 0)])), (q6, .inl (cyI, 56, .inl (fun _ => 0)))] := hD
  have ew9 : ([(h0, .inr (0, [.ref q6, .int (nI (([] : List Nat).length))])), (q6, .inl (cyI, 56, .inl (fun _ => 0)))] : va_W) = [(h0, .inr (0, [.ref q6, .int (nI 0)])), (q6, .inl (cyI, 56, .inl (fun _ => 0)))] := by rfl
  have hP : va_P D vwCl [(h0, .inr (0, [.ref q6, .int (nI (([] : List Nat).length))])), (q6, .inl (cyI, 56, .inl (fun _ => 0)))] H := by rw [ew9]; exact hP
  have hD : va_D A [(h0, .inr (0, [.ref q6, .int (nI (([] : List Nat).length))])), (q6, .inl (cyI, 56, .inl (fun _ => 0)))] := by rw [ew9]; exact hD
  exact ret_v hQ hx hb hr hlocks dX0_init_11 hK hS q6 (trivial) hP hD
set_option maxHeartbeats 4000000 in
set_option maxRecDepth 100000 in
theorem c_X0_init_60 (l : Launch) (D : va_G) (cyI cyZ : ClassId) (h0 : Nat) : Cv l D yX0_init wsX0_init ({ frames := 1, cells := 1, slots := 60, locals := 12 } : Room) [.ref h0, .int (nI 60)] [(h0, .inr (0, [.null, .int (nI 0)]))] (tyL cyI cyZ) (fun q1 : Nat => True) (fun q1 : Nat => [(h0, .inr (0, [.ref q1, .int (nI (([] : List Nat).length))])), (q1, .inl (cyI, 60, .inl (fun _ => 0)))]) 1 60 := by
  refine mk_Ct (cc := cX0_init) (maxL := 2) (ret := none) (by decide) rfl rfl ?_
  intro p e s m below meth c A Q ls hx hb hr hts hown hlocks hml hname hA hN hK hP hD hS hQ hl
  have hl : lv_has ls 2 [(0, .ref h0), (1, .int (nI 60))] := hl
  have ml3 : (Cond.methodLink RX0 3 objectInit).before ([.ref h0, .int (nI 60)] : List Value).toArray s = true := hts _ (by decide +kernel)
  have oi : (Cond.instanceMethod objectInit).before ([.ref h0, .int (nI 60)] : List Value).toArray s = true := hts _ (by decide +kernel)
  have oc : (Cond.code objectInit ⟨#[0xb1]⟩ 1 none).before ([.ref h0, .int (nI 60)] : List Value).toArray s = true := hts _ (by decide +kernel)
  have ac_int : (Cond.arrayClass .int).before ([.ref h0, .int (nI 60)] : List Value).toArray s = true := hts _ (by decide +kernel)
  have inX0_ : ∀ w ∈ u_ws RX0 TX0 2, w ∈ wsX0_init := fun w h => List.mem_cons_of_mem _ (List.mem_append_right _ h)
  have fl9 : (Cond.fieldLink RX0 9 "OutStation$Bytes" "cells" "[I").before ([.ref h0, .int (nI 60)] : List Value).toArray s = true := hts _ (by decide +kernel)
  have hname : meth.name = "<init>" := hname
  have hown : s.vm.findClass RX0 = some m.cls := hown
  obtain ⟨H, eH9⟩ : ∃ H, H = s.heap := ⟨_, rfl⟩
  have hP : va_P D vwCl [(h0, .inr (0, [.null, .int (nI 0)]))] H := by rw [eH9]; exact hP
  have hS : va_S A s.heap H [] := by rw [eH9]; exact hS
  obtain ⟨locs, eL9⟩ : ∃ z : List Loc, z = [] := ⟨_, rfl⟩
  rw [← eH9, ← eL9]
  have hS : va_S A s.heap H locs := by rw [eL9]; exact hS
  refine lv_aload_n hx hb dX0_init_0 rfl (lv_at hl 0 rfl) ?_
  refine W.objInit hx hb hown ml3 oi oc rfl (by rw [hml]; exact hl.1) rfl dX0_init_1 (Nat.le_of_ble_eq_true rfl) (Nat.le_of_ble_eq_true rfl) ?_
  refine W.eq (g2 := F0 m 4 ls []) rfl ?_
  refine lv_aload_n hx hb dX0_init_4 rfl (lv_at hl 0 rfl) ?_
  refine lv_iload_n hx hb dX0_init_5 rfl (lv_at hl 1 rfl) ?_
  refine nv_newa hx hb ac_int hK hP hD hS hA (by omega) (by decide) (Nat.le_of_ble_eq_true rfl) (Nat.le_of_ble_eq_true rfl) dX0_init_6 (fun q6 H hP hD hS => ?_)
  have hP : va_P D vwCl [(h0, .inr (0, [.null, .int (nI 0)])), (q6, .inl (cyI, 60, .inl (fun _ => 0)))] H := hP
  have hD : va_D A [(h0, .inr (0, [.null, .int (nI 0)])), (q6, .inl (cyI, 60, .inl (fun _ => 0)))] := hD
  refine va_putF (D := D) (ci := 0) (v := .ref q6) (ty := .array .int) (C := RX0) (T := TX0) (N := 2) hx hb hts inX0_ tyX0 tyX0_ok nmX0 hown hK hP hD hS 0 rfl rfl 0 (by decide) fl9 (fun _ h9 => h9) rfl hname rfl (by decide +kernel) rfl rfl (Nat.le_of_ble_eq_true rfl) dX0_init_8 (fun H locs hP hD hS => ?_)
  have hP : va_P D vwCl [(h0, .inr (0, [.ref q6, .int (nI 0)])), (q6, .inl (cyI, 60, .inl (fun _ => 0)))] H := hP
  have hD : va_D A [(h0, .inr (0, [.ref q6, .int (nI 0)])), (q6, .inl (cyI, 60, .inl (fun _ => 0)))] := hD
  have ew9 : ([(h0, .inr (0, [.ref q6, .int (nI (([] : List Nat).length))])), (q6, .inl (cyI, 60, .inl (fun _ => 0)))] : va_W) = [(h0, .inr (0, [.ref q6, .int (nI 0)])), (q6, .inl (cyI, 60, .inl (fun _ => 0)))] := by rfl
  have hP : va_P D vwCl [(h0, .inr (0, [.ref q6, .int (nI (([] : List Nat).length))])), (q6, .inl (cyI, 60, .inl (fun _ => 0)))] H := by rw [ew9]; exact hP
  have hD : va_D A [(h0, .inr (0, [.ref q6, .int (nI (([] : List Nat).length))])), (q6, .inl (cyI, 60, .inl (fun _ => 0)))] := by rw [ew9]; exact hD
  exact ret_v hQ hx hb hr hlocks dX0_init_11 hK hS q6 (trivial) hP hD
set_option maxHeartbeats 4000000 in
set_option maxRecDepth 100000 in
theorem c_X0_init_62 (l : Launch) (D : va_G) (cyI cyZ : ClassId) (h0 : Nat) : Cv l D yX0_init wsX0_init ({ frames := 1, cells := 1, slots := 62, locals := 12 } : Room) [.ref h0, .int (nI 62)] [(h0, .inr (0, [.null, .int (nI 0)]))] (tyL cyI cyZ) (fun q1 : Nat => True) (fun q1 : Nat => [(h0, .inr (0, [.ref q1, .int (nI (([] : List Nat).length))])), (q1, .inl (cyI, 62, .inl (fun _ => 0)))]) 1 62 := by
  refine mk_Ct (cc := cX0_init) (maxL := 2) (ret := none) (by decide) rfl rfl ?_
  intro p e s m below meth c A Q ls hx hb hr hts hown hlocks hml hname hA hN hK hP hD hS hQ hl
  have hl : lv_has ls 2 [(0, .ref h0), (1, .int (nI 62))] := hl
  have ml3 : (Cond.methodLink RX0 3 objectInit).before ([.ref h0, .int (nI 62)] : List Value).toArray s = true := hts _ (by decide +kernel)
  have oi : (Cond.instanceMethod objectInit).before ([.ref h0, .int (nI 62)] : List Value).toArray s = true := hts _ (by decide +kernel)
  have oc : (Cond.code objectInit ⟨#[0xb1]⟩ 1 none).before ([.ref h0, .int (nI 62)] : List Value).toArray s = true := hts _ (by decide +kernel)
  have ac_int : (Cond.arrayClass .int).before ([.ref h0, .int (nI 62)] : List Value).toArray s = true := hts _ (by decide +kernel)
  have inX0_ : ∀ w ∈ u_ws RX0 TX0 2, w ∈ wsX0_init := fun w h => List.mem_cons_of_mem _ (List.mem_append_right _ h)
  have fl9 : (Cond.fieldLink RX0 9 "OutStation$Bytes" "cells" "[I").before ([.ref h0, .int (nI 62)] : List Value).toArray s = true := hts _ (by decide +kernel)
  have hname : meth.name = "<init>" := hname
  have hown : s.vm.findClass RX0 = some m.cls := hown
  obtain ⟨H, eH9⟩ : ∃ H, H = s.heap := ⟨_, rfl⟩
  have hP : va_P D vwCl [(h0, .inr (0, [.null, .int (nI 0)]))] H := by rw [eH9]; exact hP
  have hS : va_S A s.heap H [] := by rw [eH9]; exact hS
  obtain ⟨locs, eL9⟩ : ∃ z : List Loc, z = [] := ⟨_, rfl⟩
  rw [← eH9, ← eL9]
  have hS : va_S A s.heap H locs := by rw [eL9]; exact hS
  refine lv_aload_n hx hb dX0_init_0 rfl (lv_at hl 0 rfl) ?_
  refine W.objInit hx hb hown ml3 oi oc rfl (by rw [hml]; exact hl.1) rfl dX0_init_1 (Nat.le_of_ble_eq_true rfl) (Nat.le_of_ble_eq_true rfl) ?_
  refine W.eq (g2 := F0 m 4 ls []) rfl ?_
  refine lv_aload_n hx hb dX0_init_4 rfl (lv_at hl 0 rfl) ?_
  refine lv_iload_n hx hb dX0_init_5 rfl (lv_at hl 1 rfl) ?_
  refine nv_newa hx hb ac_int hK hP hD hS hA (by omega) (by decide) (Nat.le_of_ble_eq_true rfl) (Nat.le_of_ble_eq_true rfl) dX0_init_6 (fun q6 H hP hD hS => ?_)
  have hP : va_P D vwCl [(h0, .inr (0, [.null, .int (nI 0)])), (q6, .inl (cyI, 62, .inl (fun _ => 0)))] H := hP
  have hD : va_D A [(h0, .inr (0, [.null, .int (nI 0)])), (q6, .inl (cyI, 62, .inl (fun _ => 0)))] := hD
  refine va_putF (D := D) (ci := 0) (v := .ref q6) (ty := .array .int) (C := RX0) (T := TX0) (N := 2) hx hb hts inX0_ tyX0 tyX0_ok nmX0 hown hK hP hD hS 0 rfl rfl 0 (by decide) fl9 (fun _ h9 => h9) rfl hname rfl (by decide +kernel) rfl rfl (Nat.le_of_ble_eq_true rfl) dX0_init_8 (fun H locs hP hD hS => ?_)
  have hP : va_P D vwCl [(h0, .inr (0, [.ref q6, .int (nI 0)])), (q6, .inl (cyI, 62, .inl (fun _ => 0)))] H := hP
  have hD : va_D A [(h0, .inr (0, [.ref q6, .int (nI 0)])), (q6, .inl (cyI, 62, .inl (fun _ => 0)))] := hD
  have ew9 : ([(h0, .inr (0, [.ref q6, .int (nI (([] : List Nat).length))])), (q6, .inl (cyI, 62, .inl (fun _ => 0)))] : va_W) = [(h0, .inr (0, [.ref q6, .int (nI 0)])), (q6, .inl (cyI, 62, .inl (fun _ => 0)))] := by rfl
  have hP : va_P D vwCl [(h0, .inr (0, [.ref q6, .int (nI (([] : List Nat).length))])), (q6, .inl (cyI, 62, .inl (fun _ => 0)))] H := by rw [ew9]; exact hP
  have hD : va_D A [(h0, .inr (0, [.ref q6, .int (nI (([] : List Nat).length))])), (q6, .inl (cyI, 62, .inl (fun _ => 0)))] := by rw [ew9]; exact hD
  exact ret_v hQ hx hb hr hlocks dX0_init_11 hK hS q6 (trivial) hP hD
set_option maxHeartbeats 4000000 in
set_option maxRecDepth 100000 in
theorem c_X0_init_10 (l : Launch) (D : va_G) (cyI cyZ : ClassId) (h0 : Nat) : Cv l D yX0_init wsX0_init ({ frames := 1, cells := 1, slots := 10, locals := 12 } : Room) [.ref h0, .int (nI 10)] [(h0, .inr (0, [.null, .int (nI 0)]))] (tyL cyI cyZ) (fun q1 : Nat => True) (fun q1 : Nat => [(h0, .inr (0, [.ref q1, .int (nI (([] : List Nat).length))])), (q1, .inl (cyI, 10, .inl (fun _ => 0)))]) 1 10 := by
  refine mk_Ct (cc := cX0_init) (maxL := 2) (ret := none) (by decide) rfl rfl ?_
  intro p e s m below meth c A Q ls hx hb hr hts hown hlocks hml hname hA hN hK hP hD hS hQ hl
  have hl : lv_has ls 2 [(0, .ref h0), (1, .int (nI 10))] := hl
  have ml3 : (Cond.methodLink RX0 3 objectInit).before ([.ref h0, .int (nI 10)] : List Value).toArray s = true := hts _ (by decide +kernel)
  have oi : (Cond.instanceMethod objectInit).before ([.ref h0, .int (nI 10)] : List Value).toArray s = true := hts _ (by decide +kernel)
  have oc : (Cond.code objectInit ⟨#[0xb1]⟩ 1 none).before ([.ref h0, .int (nI 10)] : List Value).toArray s = true := hts _ (by decide +kernel)
  have ac_int : (Cond.arrayClass .int).before ([.ref h0, .int (nI 10)] : List Value).toArray s = true := hts _ (by decide +kernel)
  have inX0_ : ∀ w ∈ u_ws RX0 TX0 2, w ∈ wsX0_init := fun w h => List.mem_cons_of_mem _ (List.mem_append_right _ h)
  have fl9 : (Cond.fieldLink RX0 9 "OutStation$Bytes" "cells" "[I").before ([.ref h0, .int (nI 10)] : List Value).toArray s = true := hts _ (by decide +kernel)
  have hname : meth.name = "<init>" := hname
  have hown : s.vm.findClass RX0 = some m.cls := hown
  obtain ⟨H, eH9⟩ : ∃ H, H = s.heap := ⟨_, rfl⟩
  have hP : va_P D vwCl [(h0, .inr (0, [.null, .int (nI 0)]))] H := by rw [eH9]; exact hP
  have hS : va_S A s.heap H [] := by rw [eH9]; exact hS
  obtain ⟨locs, eL9⟩ : ∃ z : List Loc, z = [] := ⟨_, rfl⟩
  rw [← eH9, ← eL9]
  have hS : va_S A s.heap H locs := by rw [eL9]; exact hS
  refine lv_aload_n hx hb dX0_init_0 rfl (lv_at hl 0 rfl) ?_
  refine W.objInit hx hb hown ml3 oi oc rfl (by rw [hml]; exact hl.1) rfl dX0_init_1 (Nat.le_of_ble_eq_true rfl) (Nat.le_of_ble_eq_true rfl) ?_
  refine W.eq (g2 := F0 m 4 ls []) rfl ?_
  refine lv_aload_n hx hb dX0_init_4 rfl (lv_at hl 0 rfl) ?_
  refine lv_iload_n hx hb dX0_init_5 rfl (lv_at hl 1 rfl) ?_
  refine nv_newa hx hb ac_int hK hP hD hS hA (by omega) (by decide) (Nat.le_of_ble_eq_true rfl) (Nat.le_of_ble_eq_true rfl) dX0_init_6 (fun q6 H hP hD hS => ?_)
  have hP : va_P D vwCl [(h0, .inr (0, [.null, .int (nI 0)])), (q6, .inl (cyI, 10, .inl (fun _ => 0)))] H := hP
  have hD : va_D A [(h0, .inr (0, [.null, .int (nI 0)])), (q6, .inl (cyI, 10, .inl (fun _ => 0)))] := hD
  refine va_putF (D := D) (ci := 0) (v := .ref q6) (ty := .array .int) (C := RX0) (T := TX0) (N := 2) hx hb hts inX0_ tyX0 tyX0_ok nmX0 hown hK hP hD hS 0 rfl rfl 0 (by decide) fl9 (fun _ h9 => h9) rfl hname rfl (by decide +kernel) rfl rfl (Nat.le_of_ble_eq_true rfl) dX0_init_8 (fun H locs hP hD hS => ?_)
  have hP : va_P D vwCl [(h0, .inr (0, [.ref q6, .int (nI 0)])), (q6, .inl (cyI, 10, .inl (fun _ => 0)))] H := hP
  have hD : va_D A [(h0, .inr (0, [.ref q6, .int (nI 0)])), (q6, .inl (cyI, 10, .inl (fun _ => 0)))] := hD
  have ew9 : ([(h0, .inr (0, [.ref q6, .int (nI (([] : List Nat).length))])), (q6, .inl (cyI, 10, .inl (fun _ => 0)))] : va_W) = [(h0, .inr (0, [.ref q6, .int (nI 0)])), (q6, .inl (cyI, 10, .inl (fun _ => 0)))] := by rfl
  have hP : va_P D vwCl [(h0, .inr (0, [.ref q6, .int (nI (([] : List Nat).length))])), (q6, .inl (cyI, 10, .inl (fun _ => 0)))] H := by rw [ew9]; exact hP
  have hD : va_D A [(h0, .inr (0, [.ref q6, .int (nI (([] : List Nat).length))])), (q6, .inl (cyI, 10, .inl (fun _ => 0)))] := by rw [ew9]; exact hD
  exact ret_v hQ hx hb hr hlocks dX0_init_11 hK hS q6 (trivial) hP hD
set_option maxHeartbeats 4000000 in
set_option maxRecDepth 100000 in
theorem c_X8_init (l : Launch) (D : va_G) (cyI cyZ : ClassId) (h0 : Nat) : Cv l D yX8_init wsX8_init ({ frames := 1, cells := 0, slots := 0, locals := 12 } : Room) [.ref h0] [(h0, .inr (8, [.int (nI 0), .int (nI 0), .int (nI 0), .int (nI 0), .int (nI 0)]))] (tyL cyI cyZ) (fun _ : Unit => True) (fun _ : Unit => [(h0, .inr (8, [.int (bI (false = true)), .int (nI 0), .int (nI 0), .int (nI 0), .int (nI 0)]))]) 0 0 := by
  refine mk_Ct (cc := cX8_init) (maxL := 1) (ret := none) (by decide) rfl rfl ?_
  intro p e s m below meth c A Q ls hx hb hr hts hown hlocks hml hname hA hN hK hP hD hS hQ hl
  have hl : lv_has ls 1 [(0, .ref h0)] := hl
  have ml3 : (Cond.methodLink RX8 3 objectInit).before ([.ref h0] : List Value).toArray s = true := hts _ (by decide +kernel)
  have oi : (Cond.instanceMethod objectInit).before ([.ref h0] : List Value).toArray s = true := hts _ (by decide +kernel)
  have oc : (Cond.code objectInit ⟨#[0xb1]⟩ 1 none).before ([.ref h0] : List Value).toArray s = true := hts _ (by decide +kernel)
  have inX8_ : ∀ w ∈ u_ws RX8 TX8 5, w ∈ wsX8_init := fun w h => List.mem_cons_of_mem _ (List.mem_append_right _ h)
  have fl9 : (Cond.fieldLink RX8 9 "OutStation$Selection" "there" "Z").before ([.ref h0] : List Value).toArray s = true := hts _ (by decide +kernel)
  have fl15 : (Cond.fieldLink RX8 15 "OutStation$Selection" "number" "I").before ([.ref h0] : List Value).toArray s = true := hts _ (by decide +kernel)
  have fl19 : (Cond.fieldLink RX8 19 "OutStation$Selection" "output" "I").before ([.ref h0] : List Value).toArray s = true := hts _ (by decide +kernel)
  have fl22 : (Cond.fieldLink RX8 22 "OutStation$Selection" "value" "I").before ([.ref h0] : List Value).toArray s = true := hts _ (by decide +kernel)
  have fl25 : (Cond.fieldLink RX8 25 "OutStation$Selection" "age" "I").before ([.ref h0] : List Value).toArray s = true := hts _ (by decide +kernel)
  have hname : meth.name = "<init>" := hname
  have hown : s.vm.findClass RX8 = some m.cls := hown
  obtain ⟨H, eH9⟩ : ∃ H, H = s.heap := ⟨_, rfl⟩
  have hP : va_P D vwCl [(h0, .inr (8, [.int (nI 0), .int (nI 0), .int (nI 0), .int (nI 0), .int (nI 0)]))] H := by rw [eH9]; exact hP
  have hS : va_S A s.heap H [] := by rw [eH9]; exact hS
  obtain ⟨locs, eL9⟩ : ∃ z : List Loc, z = [] := ⟨_, rfl⟩
  rw [← eH9, ← eL9]
  have hS : va_S A s.heap H locs := by rw [eL9]; exact hS
  refine lv_aload_n hx hb dX8_init_0 rfl (lv_at hl 0 rfl) ?_
  refine W.objInit hx hb hown ml3 oi oc rfl (by rw [hml]; exact hl.1) rfl dX8_init_1 (Nat.le_of_ble_eq_true rfl) (Nat.le_of_ble_eq_true rfl) ?_
  refine W.eq (g2 := F0 m 4 ls []) rfl ?_
  refine lv_aload_n hx hb dX8_init_4 rfl (lv_at hl 0 rfl) ?_
  refine lv_iconst (v := (nI 0)) hx hb dX8_init_5 (by decide) ?_
  refine va_put (D := D) (ci := 8) (v := .int (nI 0)) (ty := .boolean) (C := RX8) (T := TX8) (N := 5) hx hb hts inX8_ tyX8 tyX8_ok nmX8 hown hK hP hD hS 0 rfl rfl 0 (by decide) fl9 (fun _ h9 => h9) rfl (by decide +kernel) rfl rfl (Nat.le_of_ble_eq_true rfl) dX8_init_6 (fun H locs hP hD hS => ?_)
  have hP : va_P D vwCl [(h0, .inr (8, [.int (nI 0), .int (nI 0), .int (nI 0), .int (nI 0), .int (nI 0)]))] H := hP
  have hD : va_D A [(h0, .inr (8, [.int (nI 0), .int (nI 0), .int (nI 0), .int (nI 0), .int (nI 0)]))] := hD
  refine lv_aload_n hx hb dX8_init_9 rfl (lv_at hl 0 rfl) ?_
  refine lv_iconst (v := (nI 0)) hx hb dX8_init_10 (by decide) ?_
  refine va_put (D := D) (ci := 8) (v := .int (nI 0)) (ty := .int) (C := RX8) (T := TX8) (N := 5) hx hb hts inX8_ tyX8 tyX8_ok nmX8 hown hK hP hD hS 0 rfl rfl 1 (by decide) fl15 (fun _ h9 => h9) rfl (by decide +kernel) rfl rfl (Nat.le_of_ble_eq_true rfl) dX8_init_11 (fun H locs hP hD hS => ?_)
  have hP : va_P D vwCl [(h0, .inr (8, [.int (nI 0), .int (nI 0), .int (nI 0), .int (nI 0), .int (nI 0)]))] H := hP
  have hD : va_D A [(h0, .inr (8, [.int (nI 0), .int (nI 0), .int (nI 0), .int (nI 0), .int (nI 0)]))] := hD
  refine lv_aload_n hx hb dX8_init_14 rfl (lv_at hl 0 rfl) ?_
  refine lv_iconst (v := (nI 0)) hx hb dX8_init_15 (by decide) ?_
  refine va_put (D := D) (ci := 8) (v := .int (nI 0)) (ty := .int) (C := RX8) (T := TX8) (N := 5) hx hb hts inX8_ tyX8 tyX8_ok nmX8 hown hK hP hD hS 0 rfl rfl 2 (by decide) fl19 (fun _ h9 => h9) rfl (by decide +kernel) rfl rfl (Nat.le_of_ble_eq_true rfl) dX8_init_16 (fun H locs hP hD hS => ?_)
  have hP : va_P D vwCl [(h0, .inr (8, [.int (nI 0), .int (nI 0), .int (nI 0), .int (nI 0), .int (nI 0)]))] H := hP
  have hD : va_D A [(h0, .inr (8, [.int (nI 0), .int (nI 0), .int (nI 0), .int (nI 0), .int (nI 0)]))] := hD
  refine lv_aload_n hx hb dX8_init_19 rfl (lv_at hl 0 rfl) ?_
  refine lv_iconst (v := (nI 0)) hx hb dX8_init_20 (by decide) ?_
  refine va_put (D := D) (ci := 8) (v := .int (nI 0)) (ty := .int) (C := RX8) (T := TX8) (N := 5) hx hb hts inX8_ tyX8 tyX8_ok nmX8 hown hK hP hD hS 0 rfl rfl 3 (by decide) fl22 (fun _ h9 => h9) rfl (by decide +kernel) rfl rfl (Nat.le_of_ble_eq_true rfl) dX8_init_21 (fun H locs hP hD hS => ?_)
  have hP : va_P D vwCl [(h0, .inr (8, [.int (nI 0), .int (nI 0), .int (nI 0), .int (nI 0), .int (nI 0)]))] H := hP
  have hD : va_D A [(h0, .inr (8, [.int (nI 0), .int (nI 0), .int (nI 0), .int (nI 0), .int (nI 0)]))] := hD
  refine lv_aload_n hx hb dX8_init_24 rfl (lv_at hl 0 rfl) ?_
  refine lv_iconst (v := (nI 0)) hx hb dX8_init_25 (by decide) ?_
  refine va_put (D := D) (ci := 8) (v := .int (nI 0)) (ty := .int) (C := RX8) (T := TX8) (N := 5) hx hb hts inX8_ tyX8 tyX8_ok nmX8 hown hK hP hD hS 0 rfl rfl 4 (by decide) fl25 (fun _ h9 => h9) rfl (by decide +kernel) rfl rfl (Nat.le_of_ble_eq_true rfl) dX8_init_26 (fun H locs hP hD hS => ?_)
  have hP : va_P D vwCl [(h0, .inr (8, [.int (nI 0), .int (nI 0), .int (nI 0), .int (nI 0), .int (nI 0)]))] H := hP
  have hD : va_D A [(h0, .inr (8, [.int (nI 0), .int (nI 0), .int (nI 0), .int (nI 0), .int (nI 0)]))] := hD
  have ew9 : ([(h0, .inr (8, [.int (bI (false = true)), .int (nI 0), .int (nI 0), .int (nI 0), .int (nI 0)]))] : va_W) = [(h0, .inr (8, [.int (nI 0), .int (nI 0), .int (nI 0), .int (nI 0), .int (nI 0)]))] := by rfl
  have hP : va_P D vwCl [(h0, .inr (8, [.int (bI (false = true)), .int (nI 0), .int (nI 0), .int (nI 0), .int (nI 0)]))] H := by rw [ew9]; exact hP
  have hD : va_D A [(h0, .inr (8, [.int (bI (false = true)), .int (nI 0), .int (nI 0), .int (nI 0), .int (nI 0)]))] := by rw [ew9]; exact hD
  exact ret_v hQ hx hb hr hlocks dX8_init_29 hK hS () (trivial) hP hD
set_option maxHeartbeats 4000000 in
set_option maxRecDepth 100000 in
theorem c_X1_init (l : Launch) (D : va_G) (cyI cyZ : ClassId) (h0 : Nat) : Cv l D yX1_init wsX1_init ({ frames := 1, cells := 2, slots := 12, locals := 12 } : Room) [.ref h0] [(h0, .inr (1, [.null, .null, .int (nI 0), .int (nI 0)]))] (tyL cyI cyZ) (fun u : Nat × Nat => match u with | (q1, q2) => True) (fun u : Nat × Nat => match u with | (q1, q2) => [(h0, .inr (1, [.ref q1, .ref q2, .int (nI (([] : List (Nat × Int32)).length)), .int (nI 0)])), (q1, .inl (cyI, 6, .inl (fun _ => 0))), (q2, .inl (cyI, 6, .inl (fun _ => 0)))]) 2 12 := by
  refine mk_Ct (cc := cX1_init) (maxL := 1) (ret := none) (by decide) rfl rfl ?_
  intro p e s m below meth c A Q ls hx hb hr hts hown hlocks hml hname hA hN hK hP hD hS hQ hl
  have hl : lv_has ls 1 [(0, .ref h0)] := hl
  have ml3 : (Cond.methodLink RX1 3 objectInit).before ([.ref h0] : List Value).toArray s = true := hts _ (by decide +kernel)
  have oi : (Cond.instanceMethod objectInit).before ([.ref h0] : List Value).toArray s = true := hts _ (by decide +kernel)
  have oc : (Cond.code objectInit ⟨#[0xb1]⟩ 1 none).before ([.ref h0] : List Value).toArray s = true := hts _ (by decide +kernel)
  have ac_int : (Cond.arrayClass .int).before ([.ref h0] : List Value).toArray s = true := hts _ (by decide +kernel)
  have inX1_ : ∀ w ∈ u_ws RX1 TX1 4, w ∈ wsX1_init := fun w h => List.mem_cons_of_mem _ (List.mem_append_right _ h)
  have fl9 : (Cond.fieldLink RX1 9 "OutStation$EventRow" "points" "[I").before ([.ref h0] : List Value).toArray s = true := hts _ (by decide +kernel)
  have fl15 : (Cond.fieldLink RX1 15 "OutStation$EventRow" "values" "[I").before ([.ref h0] : List Value).toArray s = true := hts _ (by decide +kernel)
  have hname : meth.name = "<init>" := hname
  have hown : s.vm.findClass RX1 = some m.cls := hown
  obtain ⟨H, eH9⟩ : ∃ H, H = s.heap := ⟨_, rfl⟩
  have hP : va_P D vwCl [(h0, .inr (1, [.null, .null, .int (nI 0), .int (nI 0)]))] H := by rw [eH9]; exact hP
  have hS : va_S A s.heap H [] := by rw [eH9]; exact hS
  obtain ⟨locs, eL9⟩ : ∃ z : List Loc, z = [] := ⟨_, rfl⟩
  rw [← eH9, ← eL9]
  have hS : va_S A s.heap H locs := by rw [eL9]; exact hS
  refine lv_aload_n hx hb dX1_init_0 rfl (lv_at hl 0 rfl) ?_
  refine W.objInit hx hb hown ml3 oi oc rfl (by rw [hml]; exact hl.1) rfl dX1_init_1 (Nat.le_of_ble_eq_true rfl) (Nat.le_of_ble_eq_true rfl) ?_
  refine W.eq (g2 := F0 m 4 ls []) rfl ?_
  refine lv_aload_n hx hb dX1_init_4 rfl (lv_at hl 0 rfl) ?_
  refine lv_bipush (v := (nI 6)) hx hb dX1_init_5 (by decide) ?_
  refine nv_newa hx hb ac_int hK hP hD hS hA (by omega) (by decide) (Nat.le_of_ble_eq_true rfl) (Nat.le_of_ble_eq_true rfl) dX1_init_7 (fun q7 H hP hD hS => ?_)
  have hP : va_P D vwCl [(h0, .inr (1, [.null, .null, .int (nI 0), .int (nI 0)])), (q7, .inl (cyI, 6, .inl (fun _ => 0)))] H := hP
  have hD : va_D A [(h0, .inr (1, [.null, .null, .int (nI 0), .int (nI 0)])), (q7, .inl (cyI, 6, .inl (fun _ => 0)))] := hD
  refine va_putF (D := D) (ci := 1) (v := .ref q7) (ty := .array .int) (C := RX1) (T := TX1) (N := 4) hx hb hts inX1_ tyX1 tyX1_ok nmX1 hown hK hP hD hS 0 rfl rfl 0 (by decide) fl9 (fun _ h9 => h9) rfl hname rfl (by decide +kernel) rfl rfl (Nat.le_of_ble_eq_true rfl) dX1_init_9 (fun H locs hP hD hS => ?_)
  have hP : va_P D vwCl [(h0, .inr (1, [.ref q7, .null, .int (nI 0), .int (nI 0)])), (q7, .inl (cyI, 6, .inl (fun _ => 0)))] H := hP
  have hD : va_D A [(h0, .inr (1, [.ref q7, .null, .int (nI 0), .int (nI 0)])), (q7, .inl (cyI, 6, .inl (fun _ => 0)))] := hD
  refine lv_aload_n hx hb dX1_init_12 rfl (lv_at hl 0 rfl) ?_
  refine lv_bipush (v := (nI 6)) hx hb dX1_init_13 (by decide) ?_
  refine nv_newa hx hb ac_int hK hP hD hS hA (by omega) (by decide) (Nat.le_of_ble_eq_true rfl) (Nat.le_of_ble_eq_true rfl) dX1_init_15 (fun q15 H hP hD hS => ?_)
  have hP : va_P D vwCl [(h0, .inr (1, [.ref q7, .null, .int (nI 0), .int (nI 0)])), (q7, .inl (cyI, 6, .inl (fun _ => 0))), (q15, .inl (cyI, 6, .inl (fun _ => 0)))] H := hP
  have hD : va_D A [(h0, .inr (1, [.ref q7, .null, .int (nI 0), .int (nI 0)])), (q7, .inl (cyI, 6, .inl (fun _ => 0))), (q15, .inl (cyI, 6, .inl (fun _ => 0)))] := hD
  refine va_putF (D := D) (ci := 1) (v := .ref q15) (ty := .array .int) (C := RX1) (T := TX1) (N := 4) hx hb hts inX1_ tyX1 tyX1_ok nmX1 hown hK hP hD hS 0 rfl rfl 1 (by decide) fl15 (fun _ h9 => h9) rfl hname rfl (by decide +kernel) rfl rfl (Nat.le_of_ble_eq_true rfl) dX1_init_17 (fun H locs hP hD hS => ?_)
  have hP : va_P D vwCl [(h0, .inr (1, [.ref q7, .ref q15, .int (nI 0), .int (nI 0)])), (q7, .inl (cyI, 6, .inl (fun _ => 0))), (q15, .inl (cyI, 6, .inl (fun _ => 0)))] H := hP
  have hD : va_D A [(h0, .inr (1, [.ref q7, .ref q15, .int (nI 0), .int (nI 0)])), (q7, .inl (cyI, 6, .inl (fun _ => 0))), (q15, .inl (cyI, 6, .inl (fun _ => 0)))] := hD
  have ew9 : ([(h0, .inr (1, [.ref q7, .ref q15, .int (nI (([] : List (Nat × Int32)).length)), .int (nI 0)])), (q7, .inl (cyI, 6, .inl (fun _ => 0))), (q15, .inl (cyI, 6, .inl (fun _ => 0)))] : va_W) = [(h0, .inr (1, [.ref q7, .ref q15, .int (nI 0), .int (nI 0)])), (q7, .inl (cyI, 6, .inl (fun _ => 0))), (q15, .inl (cyI, 6, .inl (fun _ => 0)))] := by rfl
  have hP : va_P D vwCl [(h0, .inr (1, [.ref q7, .ref q15, .int (nI (([] : List (Nat × Int32)).length)), .int (nI 0)])), (q7, .inl (cyI, 6, .inl (fun _ => 0))), (q15, .inl (cyI, 6, .inl (fun _ => 0)))] H := by rw [ew9]; exact hP
  have hD : va_D A [(h0, .inr (1, [.ref q7, .ref q15, .int (nI (([] : List (Nat × Int32)).length)), .int (nI 0)])), (q7, .inl (cyI, 6, .inl (fun _ => 0))), (q15, .inl (cyI, 6, .inl (fun _ => 0)))] := by rw [ew9]; exact hD
  exact ret_v hQ hx hb hr hlocks dX1_init_20 hK hS (q7, q15) (trivial) hP hD
set_option maxHeartbeats 4000000 in
set_option maxRecDepth 100000 in
theorem c_X2_init (l : Launch) (D : va_G) (cyI cyZ : ClassId) (h0 : Nat) : Cv l D yX2_init wsX2_init ({ frames := 2, cells := 9, slots := 52, locals := 44 } : Room) [.ref h0] [(h0, .inr (2, [.null, .null, .null, .null, .null, .int (nI 0), .int (nI 0)]))] (tyL cyI cyZ) (fun u : Nat × Nat × Nat × Nat × Nat × Nat × Nat × Nat × Nat => match u with | (ba, aa, oa, eb, ea, pb, vb, qa, wa) => True) (fun u : Nat × Nat × Nat × Nat × Nat × Nat × Nat × Nat × Nat => match u with | (ba, aa, oa, eb, ea, pb, vb, qa, wa) => [(h0, .inr (2, [.ref ba, .ref aa, .ref oa, .ref eb, .ref ea, .int (bI (false = true)), .int (bI (true = true))])), (ba, .inl (cyI, 8, .inl (fun _ => 0))), (aa, .inl (cyI, 8, .inl (fun _ => 0))), (oa, .inl (cyI, 4, .inl (fun _ => 0))), (eb, .inr (1, [.ref pb, .ref vb, .int (nI (([] : List (Nat × Int32)).length)), .int (nI 0)])), (pb, .inl (cyI, 6, .inl (fun _ => 0))), (vb, .inl (cyI, 6, .inl (fun _ => 0))), (ea, .inr (1, [.ref qa, .ref wa, .int (nI (([] : List (Nat × Int32)).length)), .int (nI 0)])), (qa, .inl (cyI, 6, .inl (fun _ => 0))), (wa, .inl (cyI, 6, .inl (fun _ => 0)))]) 9 52 := by
  refine mk_Ct (cc := cX2_init) (maxL := 1) (ret := none) (by decide) rfl rfl ?_
  intro p e s m below meth c A Q ls hx hb hr hts hown hlocks hml hname hA hN hK hP hD hS hQ hl
  have hl : lv_has ls 1 [(0, .ref h0)] := hl
  have ml3 : (Cond.methodLink RX2 3 objectInit).before ([.ref h0] : List Value).toArray s = true := hts _ (by decide +kernel)
  have oi : (Cond.instanceMethod objectInit).before ([.ref h0] : List Value).toArray s = true := hts _ (by decide +kernel)
  have oc : (Cond.code objectInit ⟨#[0xb1]⟩ 1 none).before ([.ref h0] : List Value).toArray s = true := hts _ (by decide +kernel)
  have ac_int : (Cond.arrayClass .int).before ([.ref h0] : List Value).toArray s = true := hts _ (by decide +kernel)
  have inX2_ : ∀ w ∈ u_ws RX2 TX2 7, w ∈ wsX2_init := fun w h => List.mem_cons_of_mem _ (List.mem_append_left _ (List.mem_append_right _ h))
  have fl9 : (Cond.fieldLink RX2 9 "OutStation$Field" "binary" "[I").before ([.ref h0] : List Value).toArray s = true := hts _ (by decide +kernel)
  have fl15 : (Cond.fieldLink RX2 15 "OutStation$Field" "analog" "[I").before ([.ref h0] : List Value).toArray s = true := hts _ (by decide +kernel)
  have fl18 : (Cond.fieldLink RX2 18 "OutStation$Field" "outputs" "[I").before ([.ref h0] : List Value).toArray s = true := hts _ (by decide +kernel)
  have cl21 : (Cond.classLink RX2 21 RX1).before ([.ref h0] : List Value).toArray s = true := hts _ (by decide +kernel)
  have inRX1 : (Cond.instantiable RX1 4).before ([.ref h0] : List Value).toArray s = true := hts _ (by decide +kernel)
  have ini_RX1 : (Cond.initialized RX1).before ([.ref h0] : List Value).toArray s = true := hts _ (by decide +kernel)
  have inX1_ : ∀ w ∈ u_ws RX1 TX1 4, w ∈ wsX2_init := fun w h => List.mem_cons_of_mem _ (List.mem_append_right _ h)
  have im_X1_init : (Cond.instanceMethod yX1_init).before ([.ref h0] : List Value).toArray s = true := hts _ (by decide +kernel)
  have fl24 : (Cond.fieldLink RX2 24 "OutStation$Field" "binaryEvents" "LOutStation$EventRow;").before ([.ref h0] : List Value).toArray s = true := hts _ (by decide +kernel)
  have fl28 : (Cond.fieldLink RX2 28 "OutStation$Field" "analogEvents" "LOutStation$EventRow;").before ([.ref h0] : List Value).toArray s = true := hts _ (by decide +kernel)
  have fl31 : (Cond.fieldLink RX2 31 "OutStation$Field" "overflow" "Z").before ([.ref h0] : List Value).toArray s = true := hts _ (by decide +kernel)
  have fl35 : (Cond.fieldLink RX2 35 "OutStation$Field" "restart" "Z").before ([.ref h0] : List Value).toArray s = true := hts _ (by decide +kernel)
  have hname : meth.name = "<init>" := hname
  have hown : s.vm.findClass RX2 = some m.cls := hown
  obtain ⟨H, eH9⟩ : ∃ H, H = s.heap := ⟨_, rfl⟩
  have hP : va_P D vwCl [(h0, .inr (2, [.null, .null, .null, .null, .null, .int (nI 0), .int (nI 0)]))] H := by rw [eH9]; exact hP
  have hS : va_S A s.heap H [] := by rw [eH9]; exact hS
  obtain ⟨locs, eL9⟩ : ∃ z : List Loc, z = [] := ⟨_, rfl⟩
  rw [← eH9, ← eL9]
  have hS : va_S A s.heap H locs := by rw [eL9]; exact hS
  refine lv_aload_n hx hb dX2_init_0 rfl (lv_at hl 0 rfl) ?_
  refine W.objInit hx hb hown ml3 oi oc rfl (by rw [hml]; exact hl.1) rfl dX2_init_1 (Nat.le_of_ble_eq_true rfl) (Nat.le_of_ble_eq_true rfl) ?_
  refine W.eq (g2 := F0 m 4 ls []) rfl ?_
  refine lv_aload_n hx hb dX2_init_4 rfl (lv_at hl 0 rfl) ?_
  refine lv_bipush (v := (nI 8)) hx hb dX2_init_5 (by decide) ?_
  refine nv_newa hx hb ac_int hK hP hD hS hA (by omega) (by decide) (Nat.le_of_ble_eq_true rfl) (Nat.le_of_ble_eq_true rfl) dX2_init_7 (fun q7 H hP hD hS => ?_)
  have hP : va_P D vwCl [(h0, .inr (2, [.null, .null, .null, .null, .null, .int (nI 0), .int (nI 0)])), (q7, .inl (cyI, 8, .inl (fun _ => 0)))] H := hP
  have hD : va_D A [(h0, .inr (2, [.null, .null, .null, .null, .null, .int (nI 0), .int (nI 0)])), (q7, .inl (cyI, 8, .inl (fun _ => 0)))] := hD
  refine va_putF (D := D) (ci := 2) (v := .ref q7) (ty := .array .int) (C := RX2) (T := TX2) (N := 7) hx hb hts inX2_ tyX2 tyX2_ok nmX2 hown hK hP hD hS 0 rfl rfl 0 (by decide) fl9 (fun _ h9 => h9) rfl hname rfl (by decide +kernel) rfl rfl (Nat.le_of_ble_eq_true rfl) dX2_init_9 (fun H locs hP hD hS => ?_)
  have hP : va_P D vwCl [(h0, .inr (2, [.ref q7, .null, .null, .null, .null, .int (nI 0), .int (nI 0)])), (q7, .inl (cyI, 8, .inl (fun _ => 0)))] H := hP
  have hD : va_D A [(h0, .inr (2, [.ref q7, .null, .null, .null, .null, .int (nI 0), .int (nI 0)])), (q7, .inl (cyI, 8, .inl (fun _ => 0)))] := hD
  refine lv_aload_n hx hb dX2_init_12 rfl (lv_at hl 0 rfl) ?_
  refine lv_bipush (v := (nI 8)) hx hb dX2_init_13 (by decide) ?_
  refine nv_newa hx hb ac_int hK hP hD hS hA (by omega) (by decide) (Nat.le_of_ble_eq_true rfl) (Nat.le_of_ble_eq_true rfl) dX2_init_15 (fun q15 H hP hD hS => ?_)
  have hP : va_P D vwCl [(h0, .inr (2, [.ref q7, .null, .null, .null, .null, .int (nI 0), .int (nI 0)])), (q7, .inl (cyI, 8, .inl (fun _ => 0))), (q15, .inl (cyI, 8, .inl (fun _ => 0)))] H := hP
  have hD : va_D A [(h0, .inr (2, [.ref q7, .null, .null, .null, .null, .int (nI 0), .int (nI 0)])), (q7, .inl (cyI, 8, .inl (fun _ => 0))), (q15, .inl (cyI, 8, .inl (fun _ => 0)))] := hD
  refine va_putF (D := D) (ci := 2) (v := .ref q15) (ty := .array .int) (C := RX2) (T := TX2) (N := 7) hx hb hts inX2_ tyX2 tyX2_ok nmX2 hown hK hP hD hS 0 rfl rfl 1 (by decide) fl15 (fun _ h9 => h9) rfl hname rfl (by decide +kernel) rfl rfl (Nat.le_of_ble_eq_true rfl) dX2_init_17 (fun H locs hP hD hS => ?_)
  have hP : va_P D vwCl [(h0, .inr (2, [.ref q7, .ref q15, .null, .null, .null, .int (nI 0), .int (nI 0)])), (q7, .inl (cyI, 8, .inl (fun _ => 0))), (q15, .inl (cyI, 8, .inl (fun _ => 0)))] H := hP
  have hD : va_D A [(h0, .inr (2, [.ref q7, .ref q15, .null, .null, .null, .int (nI 0), .int (nI 0)])), (q7, .inl (cyI, 8, .inl (fun _ => 0))), (q15, .inl (cyI, 8, .inl (fun _ => 0)))] := hD
  refine lv_aload_n hx hb dX2_init_20 rfl (lv_at hl 0 rfl) ?_
  refine lv_iconst (v := (nI 4)) hx hb dX2_init_21 (by decide) ?_
  refine nv_newa hx hb ac_int hK hP hD hS hA (by omega) (by decide) (Nat.le_of_ble_eq_true rfl) (Nat.le_of_ble_eq_true rfl) dX2_init_22 (fun q22 H hP hD hS => ?_)
  have hP : va_P D vwCl [(h0, .inr (2, [.ref q7, .ref q15, .null, .null, .null, .int (nI 0), .int (nI 0)])), (q7, .inl (cyI, 8, .inl (fun _ => 0))), (q15, .inl (cyI, 8, .inl (fun _ => 0))), (q22, .inl (cyI, 4, .inl (fun _ => 0)))] H := hP
  have hD : va_D A [(h0, .inr (2, [.ref q7, .ref q15, .null, .null, .null, .int (nI 0), .int (nI 0)])), (q7, .inl (cyI, 8, .inl (fun _ => 0))), (q15, .inl (cyI, 8, .inl (fun _ => 0))), (q22, .inl (cyI, 4, .inl (fun _ => 0)))] := hD
  refine va_putF (D := D) (ci := 2) (v := .ref q22) (ty := .array .int) (C := RX2) (T := TX2) (N := 7) hx hb hts inX2_ tyX2 tyX2_ok nmX2 hown hK hP hD hS 0 rfl rfl 2 (by decide) fl18 (fun _ h9 => h9) rfl hname rfl (by decide +kernel) rfl rfl (Nat.le_of_ble_eq_true rfl) dX2_init_24 (fun H locs hP hD hS => ?_)
  have hP : va_P D vwCl [(h0, .inr (2, [.ref q7, .ref q15, .ref q22, .null, .null, .int (nI 0), .int (nI 0)])), (q7, .inl (cyI, 8, .inl (fun _ => 0))), (q15, .inl (cyI, 8, .inl (fun _ => 0))), (q22, .inl (cyI, 4, .inl (fun _ => 0)))] H := hP
  have hD : va_D A [(h0, .inr (2, [.ref q7, .ref q15, .ref q22, .null, .null, .int (nI 0), .int (nI 0)])), (q7, .inl (cyI, 8, .inl (fun _ => 0))), (q15, .inl (cyI, 8, .inl (fun _ => 0))), (q22, .inl (cyI, 4, .inl (fun _ => 0)))] := hD
  refine lv_aload_n hx hb dX2_init_27 rfl (lv_at hl 0 rfl) ?_
  refine va_new (ci := 1) (fs := [.null, .null, .int 0, .int 0]) (C := RX1) (T := TX1) (N := 4) hx hb hts inX1_ tyX1 tyX1_ok hown cl21 inRX1 ini_RX1 hK hP hD hS hA rfl (fun j hj => by rcases (show j = 0 ∨ j = 1 ∨ j = 2 ∨ j = 3 by omega) with rfl | rfl | rfl | rfl <;> rfl) (Nat.le_of_ble_eq_true rfl) (Nat.le_of_ble_eq_true rfl) dX2_init_28 (fun q28 H hP hD hS => ?_)
  have hP : va_P D vwCl [(h0, .inr (2, [.ref q7, .ref q15, .ref q22, .null, .null, .int (nI 0), .int (nI 0)])), (q7, .inl (cyI, 8, .inl (fun _ => 0))), (q15, .inl (cyI, 8, .inl (fun _ => 0))), (q22, .inl (cyI, 4, .inl (fun _ => 0))), (q28, .inr (1, [.null, .null, .int (nI 0), .int (nI 0)]))] H := hP
  have hD : va_D A [(h0, .inr (2, [.ref q7, .ref q15, .ref q22, .null, .null, .int (nI 0), .int (nI 0)])), (q7, .inl (cyI, 8, .inl (fun _ => 0))), (q15, .inl (cyI, 8, .inl (fun _ => 0))), (q22, .inl (cyI, 4, .inl (fun _ => 0))), (q28, .inr (1, [.null, .null, .int (nI 0), .int (nI 0)]))] := hD
  refine lv_dup hx hb dX2_init_31 rfl ?_
  refine res_v (wW := [(h0, .inr (2, [.ref q7, .ref q15, .ref q22, .null, .null, .int (nI 0), .int (nI 0)])), (q7, .inl (cyI, 8, .inl (fun _ => 0))), (q15, .inl (cyI, 8, .inl (fun _ => 0))), (q22, .inl (cyI, 4, .inl (fun _ => 0))), (q28, .inr (1, [.null, .null, .int (nI 0), .int (nI 0)]))]) (Wc := [(q28, .inr (1, [.null, .null, .int (nI 0), .int (nI 0)]))]) (Wr := [(h0, .inr (2, [.ref q7, .ref q15, .ref q22, .null, .null, .int (nI 0), .int (nI 0)])), (q7, .inl (cyI, 8, .inl (fun _ => 0))), (q15, .inl (cyI, 8, .inl (fun _ => 0))), (q22, .inl (cyI, 4, .inl (fun _ => 0)))]) (run_IN (QA := fun A => va_Qv _ (bw D _ (tyL cyI cyZ) A) A) (rmC := ({ frames := 1, cells := 2, slots := 12, locals := 12 } : Room)) (mc := 2) (ms := 12) (As := []) (rest := [.ref q28, .ref h0]) (wW := [(h0, .inr (2, [.ref q7, .ref q15, .ref q22, .null, .null, .int (nI 0), .int (nI 0)])), (q7, .inl (cyI, 8, .inl (fun _ => 0))), (q15, .inl (cyI, 8, .inl (fun _ => 0))), (q22, .inl (cyI, 4, .inl (fun _ => 0))), (q28, .inr (1, [.null, .null, .int (nI 0), .int (nI 0)]))]) (Wc := [(q28, .inr (1, [.null, .null, .int (nI 0), .int (nI 0)]))]) ⟨hx, hb, hml, hown, hts⟩ (c_X1_init l D cyI cyZ q28 ) ⟨va_cnB 0 hts ggX2_init_X1_init rfl rfl rfl (hN _ (List.mem_of_getElem? (i := 7) rfl)) ini_RX1 (by decide +kernel) ⟨Nat.le_of_ble_eq_true rfl, Nat.le_of_ble_eq_true rfl⟩, rfl, im_X1_init⟩ hN hK hP hD [4] rfl (by decide) rfl hl.1 rfl rfl dX2_init_32 ⟨Nat.le_of_ble_eq_true rfl, Nat.le_of_ble_eq_true rfl⟩) hP hD hS hA [4] [0, 1, 2, 3] rfl rfl (by decide) (by decide) (fun u9 H locs w32 hP hD hS => ?_)
  obtain ⟨q1_32, q2_32⟩ := u9
  have w32 : True := w32
  have hP : va_P D vwCl [(h0, .inr (2, [.ref q7, .ref q15, .ref q22, .null, .null, .int (nI 0), .int (nI 0)])), (q7, .inl (cyI, 8, .inl (fun _ => 0))), (q15, .inl (cyI, 8, .inl (fun _ => 0))), (q22, .inl (cyI, 4, .inl (fun _ => 0))), (q28, .inr (1, [.ref q1_32, .ref q2_32, .int (nI (([] : List (Nat × Int32)).length)), .int (nI 0)])), (q1_32, .inl (cyI, 6, .inl (fun _ => 0))), (q2_32, .inl (cyI, 6, .inl (fun _ => 0)))] H := hP
  have hD : va_D A [(h0, .inr (2, [.ref q7, .ref q15, .ref q22, .null, .null, .int (nI 0), .int (nI 0)])), (q7, .inl (cyI, 8, .inl (fun _ => 0))), (q15, .inl (cyI, 8, .inl (fun _ => 0))), (q22, .inl (cyI, 4, .inl (fun _ => 0))), (q28, .inr (1, [.ref q1_32, .ref q2_32, .int (nI (([] : List (Nat × Int32)).length)), .int (nI 0)])), (q1_32, .inl (cyI, 6, .inl (fun _ => 0))), (q2_32, .inl (cyI, 6, .inl (fun _ => 0)))] := hD
  refine va_putF (D := D) (ci := 2) (v := .ref q28) (ty := .object "OutStation$EventRow") (C := RX2) (T := TX2) (N := 7) hx hb hts inX2_ tyX2 tyX2_ok nmX2 hown hK hP hD hS 0 rfl rfl 3 (by decide) fl24 (fun _ h9 => h9) rfl hname rfl (by decide +kernel) rfl rfl (Nat.le_of_ble_eq_true rfl) dX2_init_35 (fun H locs hP hD hS => ?_)
  have hP : va_P D vwCl [(h0, .inr (2, [.ref q7, .ref q15, .ref q22, .ref q28, .null, .int (nI 0), .int (nI 0)])), (q7, .inl (cyI, 8, .inl (fun _ => 0))), (q15, .inl (cyI, 8, .inl (fun _ => 0))), (q22, .inl (cyI, 4, .inl (fun _ => 0))), (q28, .inr (1, [.ref q1_32, .ref q2_32, .int (nI (([] : List (Nat × Int32)).length)), .int (nI 0)])), (q1_32, .inl (cyI, 6, .inl (fun _ => 0))), (q2_32, .inl (cyI, 6, .inl (fun _ => 0)))] H := hP
  have hD : va_D A [(h0, .inr (2, [.ref q7, .ref q15, .ref q22, .ref q28, .null, .int (nI 0), .int (nI 0)])), (q7, .inl (cyI, 8, .inl (fun _ => 0))), (q15, .inl (cyI, 8, .inl (fun _ => 0))), (q22, .inl (cyI, 4, .inl (fun _ => 0))), (q28, .inr (1, [.ref q1_32, .ref q2_32, .int (nI (([] : List (Nat × Int32)).length)), .int (nI 0)])), (q1_32, .inl (cyI, 6, .inl (fun _ => 0))), (q2_32, .inl (cyI, 6, .inl (fun _ => 0)))] := hD
  refine lv_aload_n hx hb dX2_init_38 rfl (lv_at hl 0 rfl) ?_
  refine va_new (ci := 1) (fs := [.null, .null, .int 0, .int 0]) (C := RX1) (T := TX1) (N := 4) hx hb hts inX1_ tyX1 tyX1_ok hown cl21 inRX1 ini_RX1 hK hP hD hS hA rfl (fun j hj => by rcases (show j = 0 ∨ j = 1 ∨ j = 2 ∨ j = 3 by omega) with rfl | rfl | rfl | rfl <;> rfl) (Nat.le_of_ble_eq_true rfl) (Nat.le_of_ble_eq_true rfl) dX2_init_39 (fun q39 H hP hD hS => ?_)
  have hP : va_P D vwCl [(h0, .inr (2, [.ref q7, .ref q15, .ref q22, .ref q28, .null, .int (nI 0), .int (nI 0)])), (q7, .inl (cyI, 8, .inl (fun _ => 0))), (q15, .inl (cyI, 8, .inl (fun _ => 0))), (q22, .inl (cyI, 4, .inl (fun _ => 0))), (q28, .inr (1, [.ref q1_32, .ref q2_32, .int (nI (([] : List (Nat × Int32)).length)), .int (nI 0)])), (q1_32, .inl (cyI, 6, .inl (fun _ => 0))), (q2_32, .inl (cyI, 6, .inl (fun _ => 0))), (q39, .inr (1, [.null, .null, .int (nI 0), .int (nI 0)]))] H := hP
  have hD : va_D A [(h0, .inr (2, [.ref q7, .ref q15, .ref q22, .ref q28, .null, .int (nI 0), .int (nI 0)])), (q7, .inl (cyI, 8, .inl (fun _ => 0))), (q15, .inl (cyI, 8, .inl (fun _ => 0))), (q22, .inl (cyI, 4, .inl (fun _ => 0))), (q28, .inr (1, [.ref q1_32, .ref q2_32, .int (nI (([] : List (Nat × Int32)).length)), .int (nI 0)])), (q1_32, .inl (cyI, 6, .inl (fun _ => 0))), (q2_32, .inl (cyI, 6, .inl (fun _ => 0))), (q39, .inr (1, [.null, .null, .int (nI 0), .int (nI 0)]))] := hD
  refine lv_dup hx hb dX2_init_42 rfl ?_
  refine res_v (wW := [(h0, .inr (2, [.ref q7, .ref q15, .ref q22, .ref q28, .null, .int (nI 0), .int (nI 0)])), (q7, .inl (cyI, 8, .inl (fun _ => 0))), (q15, .inl (cyI, 8, .inl (fun _ => 0))), (q22, .inl (cyI, 4, .inl (fun _ => 0))), (q28, .inr (1, [.ref q1_32, .ref q2_32, .int (nI (([] : List (Nat × Int32)).length)), .int (nI 0)])), (q1_32, .inl (cyI, 6, .inl (fun _ => 0))), (q2_32, .inl (cyI, 6, .inl (fun _ => 0))), (q39, .inr (1, [.null, .null, .int (nI 0), .int (nI 0)]))]) (Wc := [(q39, .inr (1, [.null, .null, .int (nI 0), .int (nI 0)]))]) (Wr := [(h0, .inr (2, [.ref q7, .ref q15, .ref q22, .ref q28, .null, .int (nI 0), .int (nI 0)])), (q7, .inl (cyI, 8, .inl (fun _ => 0))), (q15, .inl (cyI, 8, .inl (fun _ => 0))), (q22, .inl (cyI, 4, .inl (fun _ => 0))), (q28, .inr (1, [.ref q1_32, .ref q2_32, .int (nI (([] : List (Nat × Int32)).length)), .int (nI 0)])), (q1_32, .inl (cyI, 6, .inl (fun _ => 0))), (q2_32, .inl (cyI, 6, .inl (fun _ => 0)))]) (run_IN (QA := fun A => va_Qv _ (bw D _ (tyL cyI cyZ) A) A) (rmC := ({ frames := 1, cells := 2, slots := 12, locals := 12 } : Room)) (mc := 2) (ms := 12) (As := []) (rest := [.ref q39, .ref h0]) (wW := [(h0, .inr (2, [.ref q7, .ref q15, .ref q22, .ref q28, .null, .int (nI 0), .int (nI 0)])), (q7, .inl (cyI, 8, .inl (fun _ => 0))), (q15, .inl (cyI, 8, .inl (fun _ => 0))), (q22, .inl (cyI, 4, .inl (fun _ => 0))), (q28, .inr (1, [.ref q1_32, .ref q2_32, .int (nI (([] : List (Nat × Int32)).length)), .int (nI 0)])), (q1_32, .inl (cyI, 6, .inl (fun _ => 0))), (q2_32, .inl (cyI, 6, .inl (fun _ => 0))), (q39, .inr (1, [.null, .null, .int (nI 0), .int (nI 0)]))]) (Wc := [(q39, .inr (1, [.null, .null, .int (nI 0), .int (nI 0)]))]) ⟨hx, hb, hml, hown, hts⟩ (c_X1_init l D cyI cyZ q39 ) ⟨va_cnB 0 hts ggX2_init_X1_init rfl rfl rfl (hN _ (List.mem_of_getElem? (i := 7) rfl)) ini_RX1 (by decide +kernel) ⟨Nat.le_of_ble_eq_true rfl, Nat.le_of_ble_eq_true rfl⟩, rfl, im_X1_init⟩ hN hK hP hD [7] rfl (by decide) rfl hl.1 rfl rfl dX2_init_43 ⟨Nat.le_of_ble_eq_true rfl, Nat.le_of_ble_eq_true rfl⟩) hP hD hS hA [7] [0, 1, 2, 3, 4, 5, 6] rfl rfl (by decide) (by decide) (fun u9 H locs w43 hP hD hS => ?_)
  obtain ⟨q1_43, q2_43⟩ := u9
  have w43 : True := w43
  have hP : va_P D vwCl [(h0, .inr (2, [.ref q7, .ref q15, .ref q22, .ref q28, .null, .int (nI 0), .int (nI 0)])), (q7, .inl (cyI, 8, .inl (fun _ => 0))), (q15, .inl (cyI, 8, .inl (fun _ => 0))), (q22, .inl (cyI, 4, .inl (fun _ => 0))), (q28, .inr (1, [.ref q1_32, .ref q2_32, .int (nI (([] : List (Nat × Int32)).length)), .int (nI 0)])), (q1_32, .inl (cyI, 6, .inl (fun _ => 0))), (q2_32, .inl (cyI, 6, .inl (fun _ => 0))), (q39, .inr (1, [.ref q1_43, .ref q2_43, .int (nI (([] : List (Nat × Int32)).length)), .int (nI 0)])), (q1_43, .inl (cyI, 6, .inl (fun _ => 0))), (q2_43, .inl (cyI, 6, .inl (fun _ => 0)))] H := hP
  have hD : va_D A [(h0, .inr (2, [.ref q7, .ref q15, .ref q22, .ref q28, .null, .int (nI 0), .int (nI 0)])), (q7, .inl (cyI, 8, .inl (fun _ => 0))), (q15, .inl (cyI, 8, .inl (fun _ => 0))), (q22, .inl (cyI, 4, .inl (fun _ => 0))), (q28, .inr (1, [.ref q1_32, .ref q2_32, .int (nI (([] : List (Nat × Int32)).length)), .int (nI 0)])), (q1_32, .inl (cyI, 6, .inl (fun _ => 0))), (q2_32, .inl (cyI, 6, .inl (fun _ => 0))), (q39, .inr (1, [.ref q1_43, .ref q2_43, .int (nI (([] : List (Nat × Int32)).length)), .int (nI 0)])), (q1_43, .inl (cyI, 6, .inl (fun _ => 0))), (q2_43, .inl (cyI, 6, .inl (fun _ => 0)))] := hD
  refine va_putF (D := D) (ci := 2) (v := .ref q39) (ty := .object "OutStation$EventRow") (C := RX2) (T := TX2) (N := 7) hx hb hts inX2_ tyX2 tyX2_ok nmX2 hown hK hP hD hS 0 rfl rfl 4 (by decide) fl28 (fun _ h9 => h9) rfl hname rfl (by decide +kernel) rfl rfl (Nat.le_of_ble_eq_true rfl) dX2_init_46 (fun H locs hP hD hS => ?_)
  have hP : va_P D vwCl [(h0, .inr (2, [.ref q7, .ref q15, .ref q22, .ref q28, .ref q39, .int (nI 0), .int (nI 0)])), (q7, .inl (cyI, 8, .inl (fun _ => 0))), (q15, .inl (cyI, 8, .inl (fun _ => 0))), (q22, .inl (cyI, 4, .inl (fun _ => 0))), (q28, .inr (1, [.ref q1_32, .ref q2_32, .int (nI (([] : List (Nat × Int32)).length)), .int (nI 0)])), (q1_32, .inl (cyI, 6, .inl (fun _ => 0))), (q2_32, .inl (cyI, 6, .inl (fun _ => 0))), (q39, .inr (1, [.ref q1_43, .ref q2_43, .int (nI (([] : List (Nat × Int32)).length)), .int (nI 0)])), (q1_43, .inl (cyI, 6, .inl (fun _ => 0))), (q2_43, .inl (cyI, 6, .inl (fun _ => 0)))] H := hP
  have hD : va_D A [(h0, .inr (2, [.ref q7, .ref q15, .ref q22, .ref q28, .ref q39, .int (nI 0), .int (nI 0)])), (q7, .inl (cyI, 8, .inl (fun _ => 0))), (q15, .inl (cyI, 8, .inl (fun _ => 0))), (q22, .inl (cyI, 4, .inl (fun _ => 0))), (q28, .inr (1, [.ref q1_32, .ref q2_32, .int (nI (([] : List (Nat × Int32)).length)), .int (nI 0)])), (q1_32, .inl (cyI, 6, .inl (fun _ => 0))), (q2_32, .inl (cyI, 6, .inl (fun _ => 0))), (q39, .inr (1, [.ref q1_43, .ref q2_43, .int (nI (([] : List (Nat × Int32)).length)), .int (nI 0)])), (q1_43, .inl (cyI, 6, .inl (fun _ => 0))), (q2_43, .inl (cyI, 6, .inl (fun _ => 0)))] := hD
  refine lv_aload_n hx hb dX2_init_49 rfl (lv_at hl 0 rfl) ?_
  refine lv_iconst (v := (nI 0)) hx hb dX2_init_50 (by decide) ?_
  refine va_put (D := D) (ci := 2) (v := .int (nI 0)) (ty := .boolean) (C := RX2) (T := TX2) (N := 7) hx hb hts inX2_ tyX2 tyX2_ok nmX2 hown hK hP hD hS 0 rfl rfl 5 (by decide) fl31 (fun _ h9 => h9) rfl (by decide +kernel) rfl rfl (Nat.le_of_ble_eq_true rfl) dX2_init_51 (fun H locs hP hD hS => ?_)
  have hP : va_P D vwCl [(h0, .inr (2, [.ref q7, .ref q15, .ref q22, .ref q28, .ref q39, .int (nI 0), .int (nI 0)])), (q7, .inl (cyI, 8, .inl (fun _ => 0))), (q15, .inl (cyI, 8, .inl (fun _ => 0))), (q22, .inl (cyI, 4, .inl (fun _ => 0))), (q28, .inr (1, [.ref q1_32, .ref q2_32, .int (nI (([] : List (Nat × Int32)).length)), .int (nI 0)])), (q1_32, .inl (cyI, 6, .inl (fun _ => 0))), (q2_32, .inl (cyI, 6, .inl (fun _ => 0))), (q39, .inr (1, [.ref q1_43, .ref q2_43, .int (nI (([] : List (Nat × Int32)).length)), .int (nI 0)])), (q1_43, .inl (cyI, 6, .inl (fun _ => 0))), (q2_43, .inl (cyI, 6, .inl (fun _ => 0)))] H := hP
  have hD : va_D A [(h0, .inr (2, [.ref q7, .ref q15, .ref q22, .ref q28, .ref q39, .int (nI 0), .int (nI 0)])), (q7, .inl (cyI, 8, .inl (fun _ => 0))), (q15, .inl (cyI, 8, .inl (fun _ => 0))), (q22, .inl (cyI, 4, .inl (fun _ => 0))), (q28, .inr (1, [.ref q1_32, .ref q2_32, .int (nI (([] : List (Nat × Int32)).length)), .int (nI 0)])), (q1_32, .inl (cyI, 6, .inl (fun _ => 0))), (q2_32, .inl (cyI, 6, .inl (fun _ => 0))), (q39, .inr (1, [.ref q1_43, .ref q2_43, .int (nI (([] : List (Nat × Int32)).length)), .int (nI 0)])), (q1_43, .inl (cyI, 6, .inl (fun _ => 0))), (q2_43, .inl (cyI, 6, .inl (fun _ => 0)))] := hD
  refine lv_aload_n hx hb dX2_init_54 rfl (lv_at hl 0 rfl) ?_
  refine lv_iconst (v := (nI 1)) hx hb dX2_init_55 (by decide) ?_
  refine va_put (D := D) (ci := 2) (v := .int (nI 1)) (ty := .boolean) (C := RX2) (T := TX2) (N := 7) hx hb hts inX2_ tyX2 tyX2_ok nmX2 hown hK hP hD hS 0 rfl rfl 6 (by decide) fl35 (fun _ h9 => h9) rfl (by decide +kernel) rfl rfl (Nat.le_of_ble_eq_true rfl) dX2_init_56 (fun H locs hP hD hS => ?_)
  have hP : va_P D vwCl [(h0, .inr (2, [.ref q7, .ref q15, .ref q22, .ref q28, .ref q39, .int (nI 0), .int (nI 1)])), (q7, .inl (cyI, 8, .inl (fun _ => 0))), (q15, .inl (cyI, 8, .inl (fun _ => 0))), (q22, .inl (cyI, 4, .inl (fun _ => 0))), (q28, .inr (1, [.ref q1_32, .ref q2_32, .int (nI (([] : List (Nat × Int32)).length)), .int (nI 0)])), (q1_32, .inl (cyI, 6, .inl (fun _ => 0))), (q2_32, .inl (cyI, 6, .inl (fun _ => 0))), (q39, .inr (1, [.ref q1_43, .ref q2_43, .int (nI (([] : List (Nat × Int32)).length)), .int (nI 0)])), (q1_43, .inl (cyI, 6, .inl (fun _ => 0))), (q2_43, .inl (cyI, 6, .inl (fun _ => 0)))] H := hP
  have hD : va_D A [(h0, .inr (2, [.ref q7, .ref q15, .ref q22, .ref q28, .ref q39, .int (nI 0), .int (nI 1)])), (q7, .inl (cyI, 8, .inl (fun _ => 0))), (q15, .inl (cyI, 8, .inl (fun _ => 0))), (q22, .inl (cyI, 4, .inl (fun _ => 0))), (q28, .inr (1, [.ref q1_32, .ref q2_32, .int (nI (([] : List (Nat × Int32)).length)), .int (nI 0)])), (q1_32, .inl (cyI, 6, .inl (fun _ => 0))), (q2_32, .inl (cyI, 6, .inl (fun _ => 0))), (q39, .inr (1, [.ref q1_43, .ref q2_43, .int (nI (([] : List (Nat × Int32)).length)), .int (nI 0)])), (q1_43, .inl (cyI, 6, .inl (fun _ => 0))), (q2_43, .inl (cyI, 6, .inl (fun _ => 0)))] := hD
  have ew9 : ([(h0, .inr (2, [.ref q7, .ref q15, .ref q22, .ref q28, .ref q39, .int (bI (false = true)), .int (bI (true = true))])), (q7, .inl (cyI, 8, .inl (fun _ => 0))), (q15, .inl (cyI, 8, .inl (fun _ => 0))), (q22, .inl (cyI, 4, .inl (fun _ => 0))), (q28, .inr (1, [.ref q1_32, .ref q2_32, .int (nI (([] : List (Nat × Int32)).length)), .int (nI 0)])), (q1_32, .inl (cyI, 6, .inl (fun _ => 0))), (q2_32, .inl (cyI, 6, .inl (fun _ => 0))), (q39, .inr (1, [.ref q1_43, .ref q2_43, .int (nI (([] : List (Nat × Int32)).length)), .int (nI 0)])), (q1_43, .inl (cyI, 6, .inl (fun _ => 0))), (q2_43, .inl (cyI, 6, .inl (fun _ => 0)))] : va_W) = [(h0, .inr (2, [.ref q7, .ref q15, .ref q22, .ref q28, .ref q39, .int (nI 0), .int (nI 1)])), (q7, .inl (cyI, 8, .inl (fun _ => 0))), (q15, .inl (cyI, 8, .inl (fun _ => 0))), (q22, .inl (cyI, 4, .inl (fun _ => 0))), (q28, .inr (1, [.ref q1_32, .ref q2_32, .int (nI (([] : List (Nat × Int32)).length)), .int (nI 0)])), (q1_32, .inl (cyI, 6, .inl (fun _ => 0))), (q2_32, .inl (cyI, 6, .inl (fun _ => 0))), (q39, .inr (1, [.ref q1_43, .ref q2_43, .int (nI (([] : List (Nat × Int32)).length)), .int (nI 0)])), (q1_43, .inl (cyI, 6, .inl (fun _ => 0))), (q2_43, .inl (cyI, 6, .inl (fun _ => 0)))] := by rfl
  have hP : va_P D vwCl [(h0, .inr (2, [.ref q7, .ref q15, .ref q22, .ref q28, .ref q39, .int (bI (false = true)), .int (bI (true = true))])), (q7, .inl (cyI, 8, .inl (fun _ => 0))), (q15, .inl (cyI, 8, .inl (fun _ => 0))), (q22, .inl (cyI, 4, .inl (fun _ => 0))), (q28, .inr (1, [.ref q1_32, .ref q2_32, .int (nI (([] : List (Nat × Int32)).length)), .int (nI 0)])), (q1_32, .inl (cyI, 6, .inl (fun _ => 0))), (q2_32, .inl (cyI, 6, .inl (fun _ => 0))), (q39, .inr (1, [.ref q1_43, .ref q2_43, .int (nI (([] : List (Nat × Int32)).length)), .int (nI 0)])), (q1_43, .inl (cyI, 6, .inl (fun _ => 0))), (q2_43, .inl (cyI, 6, .inl (fun _ => 0)))] H := by rw [ew9]; exact hP
  have hD : va_D A [(h0, .inr (2, [.ref q7, .ref q15, .ref q22, .ref q28, .ref q39, .int (bI (false = true)), .int (bI (true = true))])), (q7, .inl (cyI, 8, .inl (fun _ => 0))), (q15, .inl (cyI, 8, .inl (fun _ => 0))), (q22, .inl (cyI, 4, .inl (fun _ => 0))), (q28, .inr (1, [.ref q1_32, .ref q2_32, .int (nI (([] : List (Nat × Int32)).length)), .int (nI 0)])), (q1_32, .inl (cyI, 6, .inl (fun _ => 0))), (q2_32, .inl (cyI, 6, .inl (fun _ => 0))), (q39, .inr (1, [.ref q1_43, .ref q2_43, .int (nI (([] : List (Nat × Int32)).length)), .int (nI 0)])), (q1_43, .inl (cyI, 6, .inl (fun _ => 0))), (q2_43, .inl (cyI, 6, .inl (fun _ => 0)))] := by rw [ew9]; exact hD
  exact ret_v hQ hx hb hr hlocks dX2_init_59 hK hS (q7, q15, q22, q28, q39, q1_32, q2_32, q1_43, q2_43) (trivial) hP hD
set_option maxHeartbeats 4000000 in
set_option maxRecDepth 100000 in
theorem c_X3_init (l : Launch) (D : va_G) (cyI cyZ : ClassId) (h0 : Nat) : Cv l D yX3_init wsX3_init ({ frames := 2, cells := 3, slots := 59, locals := 44 } : Room) [.ref h0] [(h0, .inr (3, [.null, .null, .int (nI 0)]))] (tyL cyI cyZ) (fun u : Nat × Nat × Nat => match u with | (rw, sm, ra) => True) (fun u : Nat × Nat × Nat => match u with | (rw, sm, ra) => [(h0, .inr (3, [.ref rw, .ref sm, .int (nI 0)])), (rw, .inr (0, [.ref ra, .int (nI (([] : List Nat).length))])), (ra, .inl (cyI, 56, .inl (fun _ => 0))), (sm, .inr (10, [.int (nI 0)]))]) 3 59 := by
  refine mk_Ct (cc := cX3_init) (maxL := 1) (ret := none) (by decide) rfl rfl ?_
  intro p e s m below meth c A Q ls hx hb hr hts hown hlocks hml hname hA hN hK hP hD hS hQ hl
  have hl : lv_has ls 1 [(0, .ref h0)] := hl
  have ml3 : (Cond.methodLink RX3 3 objectInit).before ([.ref h0] : List Value).toArray s = true := hts _ (by decide +kernel)
  have oi : (Cond.instanceMethod objectInit).before ([.ref h0] : List Value).toArray s = true := hts _ (by decide +kernel)
  have oc : (Cond.code objectInit ⟨#[0xb1]⟩ 1 none).before ([.ref h0] : List Value).toArray s = true := hts _ (by decide +kernel)
  have cl9 : (Cond.classLink RX3 9 RX0).before ([.ref h0] : List Value).toArray s = true := hts _ (by decide +kernel)
  have inRX0 : (Cond.instantiable RX0 2).before ([.ref h0] : List Value).toArray s = true := hts _ (by decide +kernel)
  have ini_RX0 : (Cond.initialized RX0).before ([.ref h0] : List Value).toArray s = true := hts _ (by decide +kernel)
  have inX0_ : ∀ w ∈ u_ws RX0 TX0 2, w ∈ wsX3_init := fun w h => List.mem_cons_of_mem _ (List.mem_append_left _ (List.mem_append_left _ (List.mem_append_right _ h)))
  have im_X0_init : (Cond.instanceMethod yX0_init).before ([.ref h0] : List Value).toArray s = true := hts _ (by decide +kernel)
  have ml11 : (Cond.methodLink RX3 11 yX0_init).before ([.ref h0] : List Value).toArray s = true := hts _ (by decide +kernel)
  have inX3_ : ∀ w ∈ u_ws RX3 TX3 3, w ∈ wsX3_init := fun w h => List.mem_cons_of_mem _ (List.mem_append_left _ (List.mem_append_right _ h))
  have fl14 : (Cond.fieldLink RX3 14 "OutStation$Line" "row" "LOutStation$Bytes;").before ([.ref h0] : List Value).toArray s = true := hts _ (by decide +kernel)
  have cl20 : (Cond.classLink RX3 20 RX10).before ([.ref h0] : List Value).toArray s = true := hts _ (by decide +kernel)
  have inRX10 : (Cond.instantiable RX10 1).before ([.ref h0] : List Value).toArray s = true := hts _ (by decide +kernel)
  have ini_RX10 : (Cond.initialized RX10).before ([.ref h0] : List Value).toArray s = true := hts _ (by decide +kernel)
  have inX10_ : ∀ w ∈ u_ws RX10 TX10 1, w ∈ wsX3_init := fun w h => List.mem_cons_of_mem _ (List.mem_append_right _ h)
  have im_X10_init : (Cond.instanceMethod yX10_init).before ([.ref h0] : List Value).toArray s = true := hts _ (by decide +kernel)
  have fl23 : (Cond.fieldLink RX3 23 "OutStation$Line" "sum" "LOutStation$Sum;").before ([.ref h0] : List Value).toArray s = true := hts _ (by decide +kernel)
  have fl27 : (Cond.fieldLink RX3 27 "OutStation$Line" "checked" "I").before ([.ref h0] : List Value).toArray s = true := hts _ (by decide +kernel)
  have hname : meth.name = "<init>" := hname
  have hown : s.vm.findClass RX3 = some m.cls := hown
  obtain ⟨H, eH9⟩ : ∃ H, H = s.heap := ⟨_, rfl⟩
  have hP : va_P D vwCl [(h0, .inr (3, [.null, .null, .int (nI 0)]))] H := by rw [eH9]; exact hP
  have hS : va_S A s.heap H [] := by rw [eH9]; exact hS
  obtain ⟨locs, eL9⟩ : ∃ z : List Loc, z = [] := ⟨_, rfl⟩
  rw [← eH9, ← eL9]
  have hS : va_S A s.heap H locs := by rw [eL9]; exact hS
  refine lv_aload_n hx hb dX3_init_0 rfl (lv_at hl 0 rfl) ?_
  refine W.objInit hx hb hown ml3 oi oc rfl (by rw [hml]; exact hl.1) rfl dX3_init_1 (Nat.le_of_ble_eq_true rfl) (Nat.le_of_ble_eq_true rfl) ?_
  refine W.eq (g2 := F0 m 4 ls []) rfl ?_
  refine lv_aload_n hx hb dX3_init_4 rfl (lv_at hl 0 rfl) ?_
  refine va_new (ci := 0) (fs := [.null, .int 0]) (C := RX0) (T := TX0) (N := 2) hx hb hts inX0_ tyX0 tyX0_ok hown cl9 inRX0 ini_RX0 hK hP hD hS hA rfl (fun j hj => by rcases (show j = 0 ∨ j = 1 by omega) with rfl | rfl <;> rfl) (Nat.le_of_ble_eq_true rfl) (Nat.le_of_ble_eq_true rfl) dX3_init_5 (fun q5 H hP hD hS => ?_)
  have hP : va_P D vwCl [(h0, .inr (3, [.null, .null, .int (nI 0)])), (q5, .inr (0, [.null, .int (nI 0)]))] H := hP
  have hD : va_D A [(h0, .inr (3, [.null, .null, .int (nI 0)])), (q5, .inr (0, [.null, .int (nI 0)]))] := hD
  refine lv_dup hx hb dX3_init_8 rfl ?_
  refine lv_bipush (v := (nI 56)) hx hb dX3_init_9 (by decide) ?_
  refine res_v (wW := [(h0, .inr (3, [.null, .null, .int (nI 0)])), (q5, .inr (0, [.null, .int (nI 0)]))]) (Wc := [(q5, .inr (0, [.null, .int (nI 0)]))]) (Wr := [(h0, .inr (3, [.null, .null, .int (nI 0)]))]) (run_I (QA := fun A => va_Qv _ (bw D _ (tyL cyI cyZ) A) A) (rmC := ({ frames := 1, cells := 1, slots := 56, locals := 12 } : Room)) (mc := 1) (ms := 56) (As := [.int (nI 56)]) (rest := [.ref q5, .ref h0]) (wW := [(h0, .inr (3, [.null, .null, .int (nI 0)])), (q5, .inr (0, [.null, .int (nI 0)]))]) (Wc := [(q5, .inr (0, [.null, .int (nI 0)]))]) ⟨hx, hb, hml, hown, hts⟩ (c_X0_init_56 l D cyI cyZ q5 ) (cwI 1 hts ggX3_init_X0_init rfl rfl rfl ini_RX0 ml11 im_X0_init rfl (by decide +kernel) ⟨Nat.le_of_ble_eq_true rfl, Nat.le_of_ble_eq_true rfl⟩) hN hK hP hD [1] rfl (by decide) rfl hl.1 rfl rfl dX3_init_11 ⟨Nat.le_of_ble_eq_true rfl, Nat.le_of_ble_eq_true rfl⟩) hP hD hS hA [1] [0] rfl rfl (by decide) (by decide) (fun q1_11 H locs w11 hP hD hS => ?_)
  have w11 : True := w11
  have hP : va_P D vwCl [(h0, .inr (3, [.null, .null, .int (nI 0)])), (q5, .inr (0, [.ref q1_11, .int (nI (([] : List Nat).length))])), (q1_11, .inl (cyI, 56, .inl (fun _ => 0)))] H := hP
  have hD : va_D A [(h0, .inr (3, [.null, .null, .int (nI 0)])), (q5, .inr (0, [.ref q1_11, .int (nI (([] : List Nat).length))])), (q1_11, .inl (cyI, 56, .inl (fun _ => 0)))] := hD
  refine va_putF (D := D) (ci := 3) (v := .ref q5) (ty := .object "OutStation$Bytes") (C := RX3) (T := TX3) (N := 3) hx hb hts inX3_ tyX3 tyX3_ok nmX3 hown hK hP hD hS 0 rfl rfl 0 (by decide) fl14 (fun _ h9 => h9) rfl hname rfl (by decide +kernel) rfl rfl (Nat.le_of_ble_eq_true rfl) dX3_init_14 (fun H locs hP hD hS => ?_)
  have hP : va_P D vwCl [(h0, .inr (3, [.ref q5, .null, .int (nI 0)])), (q5, .inr (0, [.ref q1_11, .int (nI (([] : List Nat).length))])), (q1_11, .inl (cyI, 56, .inl (fun _ => 0)))] H := hP
  have hD : va_D A [(h0, .inr (3, [.ref q5, .null, .int (nI 0)])), (q5, .inr (0, [.ref q1_11, .int (nI (([] : List Nat).length))])), (q1_11, .inl (cyI, 56, .inl (fun _ => 0)))] := hD
  refine lv_aload_n hx hb dX3_init_17 rfl (lv_at hl 0 rfl) ?_
  refine va_new (ci := 10) (fs := [.int 0]) (C := RX10) (T := TX10) (N := 1) hx hb hts inX10_ tyX10 tyX10_ok hown cl20 inRX10 ini_RX10 hK hP hD hS hA rfl (fun j hj => by rcases (show j = 0 by omega) with rfl <;> rfl) (Nat.le_of_ble_eq_true rfl) (Nat.le_of_ble_eq_true rfl) dX3_init_18 (fun q18 H hP hD hS => ?_)
  have hP : va_P D vwCl [(h0, .inr (3, [.ref q5, .null, .int (nI 0)])), (q5, .inr (0, [.ref q1_11, .int (nI (([] : List Nat).length))])), (q1_11, .inl (cyI, 56, .inl (fun _ => 0))), (q18, .inr (10, [.int (nI 0)]))] H := hP
  have hD : va_D A [(h0, .inr (3, [.ref q5, .null, .int (nI 0)])), (q5, .inr (0, [.ref q1_11, .int (nI (([] : List Nat).length))])), (q1_11, .inl (cyI, 56, .inl (fun _ => 0))), (q18, .inr (10, [.int (nI 0)]))] := hD
  refine lv_dup hx hb dX3_init_21 rfl ?_
  refine res_v (wW := [(h0, .inr (3, [.ref q5, .null, .int (nI 0)])), (q5, .inr (0, [.ref q1_11, .int (nI (([] : List Nat).length))])), (q1_11, .inl (cyI, 56, .inl (fun _ => 0))), (q18, .inr (10, [.int (nI 0)]))]) (Wc := [(q18, .inr (10, [.int (nI 0)]))]) (Wr := [(h0, .inr (3, [.ref q5, .null, .int (nI 0)])), (q5, .inr (0, [.ref q1_11, .int (nI (([] : List Nat).length))])), (q1_11, .inl (cyI, 56, .inl (fun _ => 0)))]) (run_IN (QA := fun A => va_Qv _ (bw D _ (tyL cyI cyZ) A) A) (rmC := ({ frames := 1, cells := 0, slots := 0, locals := 12 } : Room)) (mc := 0) (ms := 0) (As := []) (rest := [.ref q18, .ref h0]) (wW := [(h0, .inr (3, [.ref q5, .null, .int (nI 0)])), (q5, .inr (0, [.ref q1_11, .int (nI (([] : List Nat).length))])), (q1_11, .inl (cyI, 56, .inl (fun _ => 0))), (q18, .inr (10, [.int (nI 0)]))]) (Wc := [(q18, .inr (10, [.int (nI 0)]))]) ⟨hx, hb, hml, hown, hts⟩ (c_X10_init l D cyI cyZ q18 0 ) ⟨va_cnB 0 hts ggX3_init_X10_init rfl rfl rfl (hN _ (List.mem_of_getElem? (i := 8) rfl)) ini_RX10 (by decide +kernel) ⟨Nat.le_of_ble_eq_true rfl, Nat.le_of_ble_eq_true rfl⟩, rfl, im_X10_init⟩ hN hK hP hD [3] rfl (by decide) rfl hl.1 rfl rfl dX3_init_22 ⟨Nat.le_of_ble_eq_true rfl, Nat.le_of_ble_eq_true rfl⟩) hP hD hS hA [3] [0, 1, 2] rfl rfl (by decide) (by decide) (fun u9 H locs w22 hP hD hS => ?_)
  have w22 : True := w22
  have hP : va_P D vwCl [(h0, .inr (3, [.ref q5, .null, .int (nI 0)])), (q5, .inr (0, [.ref q1_11, .int (nI (([] : List Nat).length))])), (q1_11, .inl (cyI, 56, .inl (fun _ => 0))), (q18, .inr (10, [.int (nI 0)]))] H := hP
  have hD : va_D A [(h0, .inr (3, [.ref q5, .null, .int (nI 0)])), (q5, .inr (0, [.ref q1_11, .int (nI (([] : List Nat).length))])), (q1_11, .inl (cyI, 56, .inl (fun _ => 0))), (q18, .inr (10, [.int (nI 0)]))] := hD
  refine va_putF (D := D) (ci := 3) (v := .ref q18) (ty := .object "OutStation$Sum") (C := RX3) (T := TX3) (N := 3) hx hb hts inX3_ tyX3 tyX3_ok nmX3 hown hK hP hD hS 0 rfl rfl 1 (by decide) fl23 (fun _ h9 => h9) rfl hname rfl (by decide +kernel) rfl rfl (Nat.le_of_ble_eq_true rfl) dX3_init_25 (fun H locs hP hD hS => ?_)
  have hP : va_P D vwCl [(h0, .inr (3, [.ref q5, .ref q18, .int (nI 0)])), (q5, .inr (0, [.ref q1_11, .int (nI (([] : List Nat).length))])), (q1_11, .inl (cyI, 56, .inl (fun _ => 0))), (q18, .inr (10, [.int (nI 0)]))] H := hP
  have hD : va_D A [(h0, .inr (3, [.ref q5, .ref q18, .int (nI 0)])), (q5, .inr (0, [.ref q1_11, .int (nI (([] : List Nat).length))])), (q1_11, .inl (cyI, 56, .inl (fun _ => 0))), (q18, .inr (10, [.int (nI 0)]))] := hD
  refine lv_aload_n hx hb dX3_init_28 rfl (lv_at hl 0 rfl) ?_
  refine lv_iconst (v := (nI 0)) hx hb dX3_init_29 (by decide) ?_
  refine va_put (D := D) (ci := 3) (v := .int (nI 0)) (ty := .int) (C := RX3) (T := TX3) (N := 3) hx hb hts inX3_ tyX3 tyX3_ok nmX3 hown hK hP hD hS 0 rfl rfl 2 (by decide) fl27 (fun _ h9 => h9) rfl (by decide +kernel) rfl rfl (Nat.le_of_ble_eq_true rfl) dX3_init_30 (fun H locs hP hD hS => ?_)
  have hP : va_P D vwCl [(h0, .inr (3, [.ref q5, .ref q18, .int (nI 0)])), (q5, .inr (0, [.ref q1_11, .int (nI (([] : List Nat).length))])), (q1_11, .inl (cyI, 56, .inl (fun _ => 0))), (q18, .inr (10, [.int (nI 0)]))] H := hP
  have hD : va_D A [(h0, .inr (3, [.ref q5, .ref q18, .int (nI 0)])), (q5, .inr (0, [.ref q1_11, .int (nI (([] : List Nat).length))])), (q1_11, .inl (cyI, 56, .inl (fun _ => 0))), (q18, .inr (10, [.int (nI 0)]))] := hD
  exact ret_v hQ hx hb hr hlocks dX3_init_33 hK hS (q5, q18, q1_11) (trivial) hP hD
set_option maxHeartbeats 4000000 in
set_option maxRecDepth 100000 in
theorem c_X4_init (l : Launch) (D : va_G) (cyI cyZ : ClassId) (h0 : Nat) : Cv l D yX4_init wsX4_init ({ frames := 2, cells := 2, slots := 62, locals := 44 } : Room) [.ref h0] [(h0, .inr (4, [.null, .int (nI 0), .int (nI 0), .int (nI 0)]))] (tyL cyI cyZ) (fun u : Nat × Nat => match u with | (fr, fa) => True) (fun u : Nat × Nat => match u with | (fr, fa) => [(h0, .inr (4, [.ref fr, .int (bI (false = true)), .int (nI 0), .int (nI 0)])), (fr, .inr (0, [.ref fa, .int (nI (([] : List Nat).length))])), (fa, .inl (cyI, 60, .inl (fun _ => 0)))]) 2 62 := by
  refine mk_Ct (cc := cX4_init) (maxL := 1) (ret := none) (by decide) rfl rfl ?_
  intro p e s m below meth c A Q ls hx hb hr hts hown hlocks hml hname hA hN hK hP hD hS hQ hl
  have hl : lv_has ls 1 [(0, .ref h0)] := hl
  have ml3 : (Cond.methodLink RX4 3 objectInit).before ([.ref h0] : List Value).toArray s = true := hts _ (by decide +kernel)
  have oi : (Cond.instanceMethod objectInit).before ([.ref h0] : List Value).toArray s = true := hts _ (by decide +kernel)
  have oc : (Cond.code objectInit ⟨#[0xb1]⟩ 1 none).before ([.ref h0] : List Value).toArray s = true := hts _ (by decide +kernel)
  have cl9 : (Cond.classLink RX4 9 RX0).before ([.ref h0] : List Value).toArray s = true := hts _ (by decide +kernel)
  have inRX0 : (Cond.instantiable RX0 2).before ([.ref h0] : List Value).toArray s = true := hts _ (by decide +kernel)
  have ini_RX0 : (Cond.initialized RX0).before ([.ref h0] : List Value).toArray s = true := hts _ (by decide +kernel)
  have inX0_ : ∀ w ∈ u_ws RX0 TX0 2, w ∈ wsX4_init := fun w h => List.mem_cons_of_mem _ (List.mem_append_left _ (List.mem_append_right _ h))
  have im_X0_init : (Cond.instanceMethod yX0_init).before ([.ref h0] : List Value).toArray s = true := hts _ (by decide +kernel)
  have ml11 : (Cond.methodLink RX4 11 yX0_init).before ([.ref h0] : List Value).toArray s = true := hts _ (by decide +kernel)
  have inX4_ : ∀ w ∈ u_ws RX4 TX4 4, w ∈ wsX4_init := fun w h => List.mem_cons_of_mem _ (List.mem_append_right _ h)
  have fl14 : (Cond.fieldLink RX4 14 "OutStation$Parts" "fragment" "LOutStation$Bytes;").before ([.ref h0] : List Value).toArray s = true := hts _ (by decide +kernel)
  have fl20 : (Cond.fieldLink RX4 20 "OutStation$Parts" "begun" "Z").before ([.ref h0] : List Value).toArray s = true := hts _ (by decide +kernel)
  have fl24 : (Cond.fieldLink RX4 24 "OutStation$Parts" "number" "I").before ([.ref h0] : List Value).toArray s = true := hts _ (by decide +kernel)
  have fl28 : (Cond.fieldLink RX4 28 "OutStation$Parts" "from" "I").before ([.ref h0] : List Value).toArray s = true := hts _ (by decide +kernel)
  have hname : meth.name = "<init>" := hname
  have hown : s.vm.findClass RX4 = some m.cls := hown
  obtain ⟨H, eH9⟩ : ∃ H, H = s.heap := ⟨_, rfl⟩
  have hP : va_P D vwCl [(h0, .inr (4, [.null, .int (nI 0), .int (nI 0), .int (nI 0)]))] H := by rw [eH9]; exact hP
  have hS : va_S A s.heap H [] := by rw [eH9]; exact hS
  obtain ⟨locs, eL9⟩ : ∃ z : List Loc, z = [] := ⟨_, rfl⟩
  rw [← eH9, ← eL9]
  have hS : va_S A s.heap H locs := by rw [eL9]; exact hS
  refine lv_aload_n hx hb dX4_init_0 rfl (lv_at hl 0 rfl) ?_
  refine W.objInit hx hb hown ml3 oi oc rfl (by rw [hml]; exact hl.1) rfl dX4_init_1 (Nat.le_of_ble_eq_true rfl) (Nat.le_of_ble_eq_true rfl) ?_
  refine W.eq (g2 := F0 m 4 ls []) rfl ?_
  refine lv_aload_n hx hb dX4_init_4 rfl (lv_at hl 0 rfl) ?_
  refine va_new (ci := 0) (fs := [.null, .int 0]) (C := RX0) (T := TX0) (N := 2) hx hb hts inX0_ tyX0 tyX0_ok hown cl9 inRX0 ini_RX0 hK hP hD hS hA rfl (fun j hj => by rcases (show j = 0 ∨ j = 1 by omega) with rfl | rfl <;> rfl) (Nat.le_of_ble_eq_true rfl) (Nat.le_of_ble_eq_true rfl) dX4_init_5 (fun q5 H hP hD hS => ?_)
  have hP : va_P D vwCl [(h0, .inr (4, [.null, .int (nI 0), .int (nI 0), .int (nI 0)])), (q5, .inr (0, [.null, .int (nI 0)]))] H := hP
  have hD : va_D A [(h0, .inr (4, [.null, .int (nI 0), .int (nI 0), .int (nI 0)])), (q5, .inr (0, [.null, .int (nI 0)]))] := hD
  refine lv_dup hx hb dX4_init_8 rfl ?_
  refine lv_bipush (v := (nI 60)) hx hb dX4_init_9 (by decide) ?_
  refine res_v (wW := [(h0, .inr (4, [.null, .int (nI 0), .int (nI 0), .int (nI 0)])), (q5, .inr (0, [.null, .int (nI 0)]))]) (Wc := [(q5, .inr (0, [.null, .int (nI 0)]))]) (Wr := [(h0, .inr (4, [.null, .int (nI 0), .int (nI 0), .int (nI 0)]))]) (run_I (QA := fun A => va_Qv _ (bw D _ (tyL cyI cyZ) A) A) (rmC := ({ frames := 1, cells := 1, slots := 60, locals := 12 } : Room)) (mc := 1) (ms := 60) (As := [.int (nI 60)]) (rest := [.ref q5, .ref h0]) (wW := [(h0, .inr (4, [.null, .int (nI 0), .int (nI 0), .int (nI 0)])), (q5, .inr (0, [.null, .int (nI 0)]))]) (Wc := [(q5, .inr (0, [.null, .int (nI 0)]))]) ⟨hx, hb, hml, hown, hts⟩ (c_X0_init_60 l D cyI cyZ q5 ) (cwI 1 hts ggX4_init_X0_init rfl rfl rfl ini_RX0 ml11 im_X0_init rfl (by decide +kernel) ⟨Nat.le_of_ble_eq_true rfl, Nat.le_of_ble_eq_true rfl⟩) hN hK hP hD [1] rfl (by decide) rfl hl.1 rfl rfl dX4_init_11 ⟨Nat.le_of_ble_eq_true rfl, Nat.le_of_ble_eq_true rfl⟩) hP hD hS hA [1] [0] rfl rfl (by decide) (by decide) (fun q1_11 H locs w11 hP hD hS => ?_)
  have w11 : True := w11
  have hP : va_P D vwCl [(h0, .inr (4, [.null, .int (nI 0), .int (nI 0), .int (nI 0)])), (q5, .inr (0, [.ref q1_11, .int (nI (([] : List Nat).length))])), (q1_11, .inl (cyI, 60, .inl (fun _ => 0)))] H := hP
  have hD : va_D A [(h0, .inr (4, [.null, .int (nI 0), .int (nI 0), .int (nI 0)])), (q5, .inr (0, [.ref q1_11, .int (nI (([] : List Nat).length))])), (q1_11, .inl (cyI, 60, .inl (fun _ => 0)))] := hD
  refine va_putF (D := D) (ci := 4) (v := .ref q5) (ty := .object "OutStation$Bytes") (C := RX4) (T := TX4) (N := 4) hx hb hts inX4_ tyX4 tyX4_ok nmX4 hown hK hP hD hS 0 rfl rfl 0 (by decide) fl14 (fun _ h9 => h9) rfl hname rfl (by decide +kernel) rfl rfl (Nat.le_of_ble_eq_true rfl) dX4_init_14 (fun H locs hP hD hS => ?_)
  have hP : va_P D vwCl [(h0, .inr (4, [.ref q5, .int (nI 0), .int (nI 0), .int (nI 0)])), (q5, .inr (0, [.ref q1_11, .int (nI (([] : List Nat).length))])), (q1_11, .inl (cyI, 60, .inl (fun _ => 0)))] H := hP
  have hD : va_D A [(h0, .inr (4, [.ref q5, .int (nI 0), .int (nI 0), .int (nI 0)])), (q5, .inr (0, [.ref q1_11, .int (nI (([] : List Nat).length))])), (q1_11, .inl (cyI, 60, .inl (fun _ => 0)))] := hD
  refine lv_aload_n hx hb dX4_init_17 rfl (lv_at hl 0 rfl) ?_
  refine lv_iconst (v := (nI 0)) hx hb dX4_init_18 (by decide) ?_
  refine va_put (D := D) (ci := 4) (v := .int (nI 0)) (ty := .boolean) (C := RX4) (T := TX4) (N := 4) hx hb hts inX4_ tyX4 tyX4_ok nmX4 hown hK hP hD hS 0 rfl rfl 1 (by decide) fl20 (fun _ h9 => h9) rfl (by decide +kernel) rfl rfl (Nat.le_of_ble_eq_true rfl) dX4_init_19 (fun H locs hP hD hS => ?_)
  have hP : va_P D vwCl [(h0, .inr (4, [.ref q5, .int (nI 0), .int (nI 0), .int (nI 0)])), (q5, .inr (0, [.ref q1_11, .int (nI (([] : List Nat).length))])), (q1_11, .inl (cyI, 60, .inl (fun _ => 0)))] H := hP
  have hD : va_D A [(h0, .inr (4, [.ref q5, .int (nI 0), .int (nI 0), .int (nI 0)])), (q5, .inr (0, [.ref q1_11, .int (nI (([] : List Nat).length))])), (q1_11, .inl (cyI, 60, .inl (fun _ => 0)))] := hD
  refine lv_aload_n hx hb dX4_init_22 rfl (lv_at hl 0 rfl) ?_
  refine lv_iconst (v := (nI 0)) hx hb dX4_init_23 (by decide) ?_
  refine va_put (D := D) (ci := 4) (v := .int (nI 0)) (ty := .int) (C := RX4) (T := TX4) (N := 4) hx hb hts inX4_ tyX4 tyX4_ok nmX4 hown hK hP hD hS 0 rfl rfl 2 (by decide) fl24 (fun _ h9 => h9) rfl (by decide +kernel) rfl rfl (Nat.le_of_ble_eq_true rfl) dX4_init_24 (fun H locs hP hD hS => ?_)
  have hP : va_P D vwCl [(h0, .inr (4, [.ref q5, .int (nI 0), .int (nI 0), .int (nI 0)])), (q5, .inr (0, [.ref q1_11, .int (nI (([] : List Nat).length))])), (q1_11, .inl (cyI, 60, .inl (fun _ => 0)))] H := hP
  have hD : va_D A [(h0, .inr (4, [.ref q5, .int (nI 0), .int (nI 0), .int (nI 0)])), (q5, .inr (0, [.ref q1_11, .int (nI (([] : List Nat).length))])), (q1_11, .inl (cyI, 60, .inl (fun _ => 0)))] := hD
  refine lv_aload_n hx hb dX4_init_27 rfl (lv_at hl 0 rfl) ?_
  refine lv_iconst (v := (nI 0)) hx hb dX4_init_28 (by decide) ?_
  refine va_put (D := D) (ci := 4) (v := .int (nI 0)) (ty := .int) (C := RX4) (T := TX4) (N := 4) hx hb hts inX4_ tyX4 tyX4_ok nmX4 hown hK hP hD hS 0 rfl rfl 3 (by decide) fl28 (fun _ h9 => h9) rfl (by decide +kernel) rfl rfl (Nat.le_of_ble_eq_true rfl) dX4_init_29 (fun H locs hP hD hS => ?_)
  have hP : va_P D vwCl [(h0, .inr (4, [.ref q5, .int (nI 0), .int (nI 0), .int (nI 0)])), (q5, .inr (0, [.ref q1_11, .int (nI (([] : List Nat).length))])), (q1_11, .inl (cyI, 60, .inl (fun _ => 0)))] H := hP
  have hD : va_D A [(h0, .inr (4, [.ref q5, .int (nI 0), .int (nI 0), .int (nI 0)])), (q5, .inr (0, [.ref q1_11, .int (nI (([] : List Nat).length))])), (q1_11, .inl (cyI, 60, .inl (fun _ => 0)))] := hD
  have ew9 : ([(h0, .inr (4, [.ref q5, .int (bI (false = true)), .int (nI 0), .int (nI 0)])), (q5, .inr (0, [.ref q1_11, .int (nI (([] : List Nat).length))])), (q1_11, .inl (cyI, 60, .inl (fun _ => 0)))] : va_W) = [(h0, .inr (4, [.ref q5, .int (nI 0), .int (nI 0), .int (nI 0)])), (q5, .inr (0, [.ref q1_11, .int (nI (([] : List Nat).length))])), (q1_11, .inl (cyI, 60, .inl (fun _ => 0)))] := by rfl
  have hP : va_P D vwCl [(h0, .inr (4, [.ref q5, .int (bI (false = true)), .int (nI 0), .int (nI 0)])), (q5, .inr (0, [.ref q1_11, .int (nI (([] : List Nat).length))])), (q1_11, .inl (cyI, 60, .inl (fun _ => 0)))] H := by rw [ew9]; exact hP
  have hD : va_D A [(h0, .inr (4, [.ref q5, .int (bI (false = true)), .int (nI 0), .int (nI 0)])), (q5, .inr (0, [.ref q1_11, .int (nI (([] : List Nat).length))])), (q1_11, .inl (cyI, 60, .inl (fun _ => 0)))] := by rw [ew9]; exact hD
  exact ret_v hQ hx hb hr hlocks dX4_init_32 hK hS (q5, q1_11) (trivial) hP hD
set_option maxHeartbeats 4000000 in
set_option maxRecDepth 100000 in
theorem c_X5_init (l : Launch) (D : va_G) (cyI cyZ : ClassId) (h0 : Nat) : Cv l D yX5_init wsX5_init ({ frames := 2, cells := 2, slots := 12, locals := 44 } : Room) [.ref h0] [(h0, .inr (5, [.null]))] (tyL cyI cyZ) (fun u : Nat × Nat => match u with | (tl0, tl1) => True) (fun u : Nat × Nat => match u with | (tl0, tl1) => [(h0, .inr (5, [.ref tl0])), (tl0, .inr (0, [.ref tl1, .int (nI (([] : List Nat).length))])), (tl1, .inl (cyI, 10, .inl (fun _ => 0)))]) 2 12 := by
  refine mk_Ct (cc := cX5_init) (maxL := 1) (ret := none) (by decide) rfl rfl ?_
  intro p e s m below meth c A Q ls hx hb hr hts hown hlocks hml hname hA hN hK hP hD hS hQ hl
  have hl : lv_has ls 1 [(0, .ref h0)] := hl
  have ml3 : (Cond.methodLink RX5 3 objectInit).before ([.ref h0] : List Value).toArray s = true := hts _ (by decide +kernel)
  have oi : (Cond.instanceMethod objectInit).before ([.ref h0] : List Value).toArray s = true := hts _ (by decide +kernel)
  have oc : (Cond.code objectInit ⟨#[0xb1]⟩ 1 none).before ([.ref h0] : List Value).toArray s = true := hts _ (by decide +kernel)
  have cl9 : (Cond.classLink RX5 9 RX0).before ([.ref h0] : List Value).toArray s = true := hts _ (by decide +kernel)
  have inRX0 : (Cond.instantiable RX0 2).before ([.ref h0] : List Value).toArray s = true := hts _ (by decide +kernel)
  have ini_RX0 : (Cond.initialized RX0).before ([.ref h0] : List Value).toArray s = true := hts _ (by decide +kernel)
  have inX0_ : ∀ w ∈ u_ws RX0 TX0 2, w ∈ wsX5_init := fun w h => List.mem_cons_of_mem _ (List.mem_append_left _ (List.mem_append_right _ h))
  have im_X0_init : (Cond.instanceMethod yX0_init).before ([.ref h0] : List Value).toArray s = true := hts _ (by decide +kernel)
  have ml11 : (Cond.methodLink RX5 11 yX0_init).before ([.ref h0] : List Value).toArray s = true := hts _ (by decide +kernel)
  have inX5_ : ∀ w ∈ u_ws RX5 TX5 1, w ∈ wsX5_init := fun w h => List.mem_cons_of_mem _ (List.mem_append_right _ h)
  have fl14 : (Cond.fieldLink RX5 14 "OutStation$Questions" "told" "LOutStation$Bytes;").before ([.ref h0] : List Value).toArray s = true := hts _ (by decide +kernel)
  have hname : meth.name = "<init>" := hname
  have hown : s.vm.findClass RX5 = some m.cls := hown
  obtain ⟨H, eH9⟩ : ∃ H, H = s.heap := ⟨_, rfl⟩
  have hP : va_P D vwCl [(h0, .inr (5, [.null]))] H := by rw [eH9]; exact hP
  have hS : va_S A s.heap H [] := by rw [eH9]; exact hS
  obtain ⟨locs, eL9⟩ : ∃ z : List Loc, z = [] := ⟨_, rfl⟩
  rw [← eH9, ← eL9]
  have hS : va_S A s.heap H locs := by rw [eL9]; exact hS
  refine lv_aload_n hx hb dX5_init_0 rfl (lv_at hl 0 rfl) ?_
  refine W.objInit hx hb hown ml3 oi oc rfl (by rw [hml]; exact hl.1) rfl dX5_init_1 (Nat.le_of_ble_eq_true rfl) (Nat.le_of_ble_eq_true rfl) ?_
  refine W.eq (g2 := F0 m 4 ls []) rfl ?_
  refine lv_aload_n hx hb dX5_init_4 rfl (lv_at hl 0 rfl) ?_
  refine va_new (ci := 0) (fs := [.null, .int 0]) (C := RX0) (T := TX0) (N := 2) hx hb hts inX0_ tyX0 tyX0_ok hown cl9 inRX0 ini_RX0 hK hP hD hS hA rfl (fun j hj => by rcases (show j = 0 ∨ j = 1 by omega) with rfl | rfl <;> rfl) (Nat.le_of_ble_eq_true rfl) (Nat.le_of_ble_eq_true rfl) dX5_init_5 (fun q5 H hP hD hS => ?_)
  have hP : va_P D vwCl [(h0, .inr (5, [.null])), (q5, .inr (0, [.null, .int (nI 0)]))] H := hP
  have hD : va_D A [(h0, .inr (5, [.null])), (q5, .inr (0, [.null, .int (nI 0)]))] := hD
  refine lv_dup hx hb dX5_init_8 rfl ?_
  refine lv_bipush (v := (nI 10)) hx hb dX5_init_9 (by decide) ?_
  refine res_v (wW := [(h0, .inr (5, [.null])), (q5, .inr (0, [.null, .int (nI 0)]))]) (Wc := [(q5, .inr (0, [.null, .int (nI 0)]))]) (Wr := [(h0, .inr (5, [.null]))]) (run_I (QA := fun A => va_Qv _ (bw D _ (tyL cyI cyZ) A) A) (rmC := ({ frames := 1, cells := 1, slots := 10, locals := 12 } : Room)) (mc := 1) (ms := 10) (As := [.int (nI 10)]) (rest := [.ref q5, .ref h0]) (wW := [(h0, .inr (5, [.null])), (q5, .inr (0, [.null, .int (nI 0)]))]) (Wc := [(q5, .inr (0, [.null, .int (nI 0)]))]) ⟨hx, hb, hml, hown, hts⟩ (c_X0_init_10 l D cyI cyZ q5 ) (cwI 1 hts ggX5_init_X0_init rfl rfl rfl ini_RX0 ml11 im_X0_init rfl (by decide +kernel) ⟨Nat.le_of_ble_eq_true rfl, Nat.le_of_ble_eq_true rfl⟩) hN hK hP hD [1] rfl (by decide) rfl hl.1 rfl rfl dX5_init_11 ⟨Nat.le_of_ble_eq_true rfl, Nat.le_of_ble_eq_true rfl⟩) hP hD hS hA [1] [0] rfl rfl (by decide) (by decide) (fun q1_11 H locs w11 hP hD hS => ?_)
  have w11 : True := w11
  have hP : va_P D vwCl [(h0, .inr (5, [.null])), (q5, .inr (0, [.ref q1_11, .int (nI (([] : List Nat).length))])), (q1_11, .inl (cyI, 10, .inl (fun _ => 0)))] H := hP
  have hD : va_D A [(h0, .inr (5, [.null])), (q5, .inr (0, [.ref q1_11, .int (nI (([] : List Nat).length))])), (q1_11, .inl (cyI, 10, .inl (fun _ => 0)))] := hD
  refine va_putF (D := D) (ci := 5) (v := .ref q5) (ty := .object "OutStation$Bytes") (C := RX5) (T := TX5) (N := 1) hx hb hts inX5_ tyX5 tyX5_ok nmX5 hown hK hP hD hS 0 rfl rfl 0 (by decide) fl14 (fun _ h9 => h9) rfl hname rfl (by decide +kernel) rfl rfl (Nat.le_of_ble_eq_true rfl) dX5_init_14 (fun H locs hP hD hS => ?_)
  have hP : va_P D vwCl [(h0, .inr (5, [.ref q5])), (q5, .inr (0, [.ref q1_11, .int (nI (([] : List Nat).length))])), (q1_11, .inl (cyI, 10, .inl (fun _ => 0)))] H := hP
  have hD : va_D A [(h0, .inr (5, [.ref q5])), (q5, .inr (0, [.ref q1_11, .int (nI (([] : List Nat).length))])), (q1_11, .inl (cyI, 10, .inl (fun _ => 0)))] := hD
  exact ret_v hQ hx hb hr hlocks dX5_init_17 hK hS (q5, q1_11) (trivial) hP hD
set_option maxHeartbeats 4000000 in
set_option maxRecDepth 100000 in
theorem c_X7_init (l : Launch) (D : va_G) (cyI cyZ : ClassId) (h0 : Nat) : Cv l D yX7_init wsX7_init ({ frames := 2, cells := 4, slots := 69, locals := 44 } : Room) [.ref h0] [(h0, .inr (7, [.null, .null, .null, .int (nI 0), .int (nI 0)]))] (tyL cyI cyZ) (fun u : Nat × Nat × Nat × Nat => match u with | (an0, an1, rd0, se0) => True) (fun u : Nat × Nat × Nat × Nat => match u with | (an0, an1, rd0, se0) => [(h0, .inr (7, [.ref an0, .ref rd0, .ref se0, .int (bI (false = true)), .int (nI 0)])), (an0, .inr (0, [.ref an1, .int (nI (([] : List Nat).length))])), (an1, .inl (cyI, 62, .inl (fun _ => 0))), (rd0, .inr (6, [])), (se0, .inr (8, [.int (bI (false = true)), .int (nI 0), .int (nI 0), .int (nI 0), .int (nI 0)]))]) 4 69 := by
  refine mk_Ct (cc := cX7_init) (maxL := 1) (ret := none) (by decide) rfl rfl ?_
  intro p e s m below meth c A Q ls hx hb hr hts hown hlocks hml hname hA hN hK hP hD hS hQ hl
  have hl : lv_has ls 1 [(0, .ref h0)] := hl
  have ml3 : (Cond.methodLink RX7 3 objectInit).before ([.ref h0] : List Value).toArray s = true := hts _ (by decide +kernel)
  have oi : (Cond.instanceMethod objectInit).before ([.ref h0] : List Value).toArray s = true := hts _ (by decide +kernel)
  have oc : (Cond.code objectInit ⟨#[0xb1]⟩ 1 none).before ([.ref h0] : List Value).toArray s = true := hts _ (by decide +kernel)
  have cl9 : (Cond.classLink RX7 9 RX0).before ([.ref h0] : List Value).toArray s = true := hts _ (by decide +kernel)
  have inRX0 : (Cond.instantiable RX0 2).before ([.ref h0] : List Value).toArray s = true := hts _ (by decide +kernel)
  have ini_RX0 : (Cond.initialized RX0).before ([.ref h0] : List Value).toArray s = true := hts _ (by decide +kernel)
  have inX0_ : ∀ w ∈ u_ws RX0 TX0 2, w ∈ wsX7_init := fun w h => List.mem_cons_of_mem _ (List.mem_append_left _ (List.mem_append_left _ (List.mem_append_left _ (List.mem_append_right _ h))))
  have im_X0_init : (Cond.instanceMethod yX0_init).before ([.ref h0] : List Value).toArray s = true := hts _ (by decide +kernel)
  have ml11 : (Cond.methodLink RX7 11 yX0_init).before ([.ref h0] : List Value).toArray s = true := hts _ (by decide +kernel)
  have inX7_ : ∀ w ∈ u_ws RX7 TX7 5, w ∈ wsX7_init := fun w h => List.mem_cons_of_mem _ (List.mem_append_left _ (List.mem_append_left _ (List.mem_append_right _ h)))
  have fl14 : (Cond.fieldLink RX7 14 "OutStation$Requests" "answer" "LOutStation$Bytes;").before ([.ref h0] : List Value).toArray s = true := hts _ (by decide +kernel)
  have cl20 : (Cond.classLink RX7 20 RX6).before ([.ref h0] : List Value).toArray s = true := hts _ (by decide +kernel)
  have inRX6 : (Cond.instantiable RX6 0).before ([.ref h0] : List Value).toArray s = true := hts _ (by decide +kernel)
  have ini_RX6 : (Cond.initialized RX6).before ([.ref h0] : List Value).toArray s = true := hts _ (by decide +kernel)
  have inX6_ : ∀ w ∈ u_ws RX6 TX6 0, w ∈ wsX7_init := fun w h => List.mem_cons_of_mem _ (List.mem_append_left _ (List.mem_append_right _ h))
  have im_X6_init : (Cond.instanceMethod yX6_init).before ([.ref h0] : List Value).toArray s = true := hts _ (by decide +kernel)
  have fl23 : (Cond.fieldLink RX7 23 "OutStation$Requests" "reading" "LOutStation$Reading;").before ([.ref h0] : List Value).toArray s = true := hts _ (by decide +kernel)
  have cl27 : (Cond.classLink RX7 27 RX8).before ([.ref h0] : List Value).toArray s = true := hts _ (by decide +kernel)
  have inRX8 : (Cond.instantiable RX8 5).before ([.ref h0] : List Value).toArray s = true := hts _ (by decide +kernel)
  have ini_RX8 : (Cond.initialized RX8).before ([.ref h0] : List Value).toArray s = true := hts _ (by decide +kernel)
  have inX8_ : ∀ w ∈ u_ws RX8 TX8 5, w ∈ wsX7_init := fun w h => List.mem_cons_of_mem _ (List.mem_append_right _ h)
  have im_X8_init : (Cond.instanceMethod yX8_init).before ([.ref h0] : List Value).toArray s = true := hts _ (by decide +kernel)
  have fl30 : (Cond.fieldLink RX7 30 "OutStation$Requests" "selection" "LOutStation$Selection;").before ([.ref h0] : List Value).toArray s = true := hts _ (by decide +kernel)
  have fl34 : (Cond.fieldLink RX7 34 "OutStation$Requests" "confirmable" "Z").before ([.ref h0] : List Value).toArray s = true := hts _ (by decide +kernel)
  have fl38 : (Cond.fieldLink RX7 38 "OutStation$Requests" "answerNumber" "I").before ([.ref h0] : List Value).toArray s = true := hts _ (by decide +kernel)
  have hname : meth.name = "<init>" := hname
  have hown : s.vm.findClass RX7 = some m.cls := hown
  obtain ⟨H, eH9⟩ : ∃ H, H = s.heap := ⟨_, rfl⟩
  have hP : va_P D vwCl [(h0, .inr (7, [.null, .null, .null, .int (nI 0), .int (nI 0)]))] H := by rw [eH9]; exact hP
  have hS : va_S A s.heap H [] := by rw [eH9]; exact hS
  obtain ⟨locs, eL9⟩ : ∃ z : List Loc, z = [] := ⟨_, rfl⟩
  rw [← eH9, ← eL9]
  have hS : va_S A s.heap H locs := by rw [eL9]; exact hS
  refine lv_aload_n hx hb dX7_init_0 rfl (lv_at hl 0 rfl) ?_
  refine W.objInit hx hb hown ml3 oi oc rfl (by rw [hml]; exact hl.1) rfl dX7_init_1 (Nat.le_of_ble_eq_true rfl) (Nat.le_of_ble_eq_true rfl) ?_
  refine W.eq (g2 := F0 m 4 ls []) rfl ?_
  refine lv_aload_n hx hb dX7_init_4 rfl (lv_at hl 0 rfl) ?_
  refine va_new (ci := 0) (fs := [.null, .int 0]) (C := RX0) (T := TX0) (N := 2) hx hb hts inX0_ tyX0 tyX0_ok hown cl9 inRX0 ini_RX0 hK hP hD hS hA rfl (fun j hj => by rcases (show j = 0 ∨ j = 1 by omega) with rfl | rfl <;> rfl) (Nat.le_of_ble_eq_true rfl) (Nat.le_of_ble_eq_true rfl) dX7_init_5 (fun q5 H hP hD hS => ?_)
  have hP : va_P D vwCl [(h0, .inr (7, [.null, .null, .null, .int (nI 0), .int (nI 0)])), (q5, .inr (0, [.null, .int (nI 0)]))] H := hP
  have hD : va_D A [(h0, .inr (7, [.null, .null, .null, .int (nI 0), .int (nI 0)])), (q5, .inr (0, [.null, .int (nI 0)]))] := hD
  refine lv_dup hx hb dX7_init_8 rfl ?_
  refine lv_bipush (v := (nI 62)) hx hb dX7_init_9 (by decide) ?_
  refine res_v (wW := [(h0, .inr (7, [.null, .null, .null, .int (nI 0), .int (nI 0)])), (q5, .inr (0, [.null, .int (nI 0)]))]) (Wc := [(q5, .inr (0, [.null, .int (nI 0)]))]) (Wr := [(h0, .inr (7, [.null, .null, .null, .int (nI 0), .int (nI 0)]))]) (run_I (QA := fun A => va_Qv _ (bw D _ (tyL cyI cyZ) A) A) (rmC := ({ frames := 1, cells := 1, slots := 62, locals := 12 } : Room)) (mc := 1) (ms := 62) (As := [.int (nI 62)]) (rest := [.ref q5, .ref h0]) (wW := [(h0, .inr (7, [.null, .null, .null, .int (nI 0), .int (nI 0)])), (q5, .inr (0, [.null, .int (nI 0)]))]) (Wc := [(q5, .inr (0, [.null, .int (nI 0)]))]) ⟨hx, hb, hml, hown, hts⟩ (c_X0_init_62 l D cyI cyZ q5 ) (cwI 1 hts ggX7_init_X0_init rfl rfl rfl ini_RX0 ml11 im_X0_init rfl (by decide +kernel) ⟨Nat.le_of_ble_eq_true rfl, Nat.le_of_ble_eq_true rfl⟩) hN hK hP hD [1] rfl (by decide) rfl hl.1 rfl rfl dX7_init_11 ⟨Nat.le_of_ble_eq_true rfl, Nat.le_of_ble_eq_true rfl⟩) hP hD hS hA [1] [0] rfl rfl (by decide) (by decide) (fun q1_11 H locs w11 hP hD hS => ?_)
  have w11 : True := w11
  have hP : va_P D vwCl [(h0, .inr (7, [.null, .null, .null, .int (nI 0), .int (nI 0)])), (q5, .inr (0, [.ref q1_11, .int (nI (([] : List Nat).length))])), (q1_11, .inl (cyI, 62, .inl (fun _ => 0)))] H := hP
  have hD : va_D A [(h0, .inr (7, [.null, .null, .null, .int (nI 0), .int (nI 0)])), (q5, .inr (0, [.ref q1_11, .int (nI (([] : List Nat).length))])), (q1_11, .inl (cyI, 62, .inl (fun _ => 0)))] := hD
  refine va_putF (D := D) (ci := 7) (v := .ref q5) (ty := .object "OutStation$Bytes") (C := RX7) (T := TX7) (N := 5) hx hb hts inX7_ tyX7 tyX7_ok nmX7 hown hK hP hD hS 0 rfl rfl 0 (by decide) fl14 (fun _ h9 => h9) rfl hname rfl (by decide +kernel) rfl rfl (Nat.le_of_ble_eq_true rfl) dX7_init_14 (fun H locs hP hD hS => ?_)
  have hP : va_P D vwCl [(h0, .inr (7, [.ref q5, .null, .null, .int (nI 0), .int (nI 0)])), (q5, .inr (0, [.ref q1_11, .int (nI (([] : List Nat).length))])), (q1_11, .inl (cyI, 62, .inl (fun _ => 0)))] H := hP
  have hD : va_D A [(h0, .inr (7, [.ref q5, .null, .null, .int (nI 0), .int (nI 0)])), (q5, .inr (0, [.ref q1_11, .int (nI (([] : List Nat).length))])), (q1_11, .inl (cyI, 62, .inl (fun _ => 0)))] := hD
  refine lv_aload_n hx hb dX7_init_17 rfl (lv_at hl 0 rfl) ?_
  refine va_new (ci := 6) (fs := []) (C := RX6) (T := TX6) (N := 0) hx hb hts inX6_ tyX6 tyX6_ok hown cl20 inRX6 ini_RX6 hK hP hD hS hA rfl (fun j hj => absurd hj (Nat.not_lt_zero _)) (Nat.le_of_ble_eq_true rfl) (Nat.le_of_ble_eq_true rfl) dX7_init_18 (fun q18 H hP hD hS => ?_)
  have hP : va_P D vwCl [(h0, .inr (7, [.ref q5, .null, .null, .int (nI 0), .int (nI 0)])), (q5, .inr (0, [.ref q1_11, .int (nI (([] : List Nat).length))])), (q1_11, .inl (cyI, 62, .inl (fun _ => 0))), (q18, .inr (6, []))] H := hP
  have hD : va_D A [(h0, .inr (7, [.ref q5, .null, .null, .int (nI 0), .int (nI 0)])), (q5, .inr (0, [.ref q1_11, .int (nI (([] : List Nat).length))])), (q1_11, .inl (cyI, 62, .inl (fun _ => 0))), (q18, .inr (6, []))] := hD
  refine lv_dup hx hb dX7_init_21 rfl ?_
  refine res_v (wW := [(h0, .inr (7, [.ref q5, .null, .null, .int (nI 0), .int (nI 0)])), (q5, .inr (0, [.ref q1_11, .int (nI (([] : List Nat).length))])), (q1_11, .inl (cyI, 62, .inl (fun _ => 0))), (q18, .inr (6, []))]) (Wc := [(q18, .inr (6, []))]) (Wr := [(h0, .inr (7, [.ref q5, .null, .null, .int (nI 0), .int (nI 0)])), (q5, .inr (0, [.ref q1_11, .int (nI (([] : List Nat).length))])), (q1_11, .inl (cyI, 62, .inl (fun _ => 0)))]) (run_IN (QA := fun A => va_Qv _ (bw D _ (tyL cyI cyZ) A) A) (rmC := ({ frames := 1, cells := 0, slots := 0, locals := 12 } : Room)) (mc := 0) (ms := 0) (As := []) (rest := [.ref q18, .ref h0]) (wW := [(h0, .inr (7, [.ref q5, .null, .null, .int (nI 0), .int (nI 0)])), (q5, .inr (0, [.ref q1_11, .int (nI (([] : List Nat).length))])), (q1_11, .inl (cyI, 62, .inl (fun _ => 0))), (q18, .inr (6, []))]) (Wc := [(q18, .inr (6, []))]) ⟨hx, hb, hml, hown, hts⟩ (c_X6_init l D cyI cyZ q18 ) ⟨va_cnB 0 hts ggX7_init_X6_init rfl rfl rfl (hN _ (List.mem_of_getElem? (i := 10) rfl)) ini_RX6 (by decide +kernel) ⟨Nat.le_of_ble_eq_true rfl, Nat.le_of_ble_eq_true rfl⟩, rfl, im_X6_init⟩ hN hK hP hD [3] rfl (by decide) rfl hl.1 rfl rfl dX7_init_22 ⟨Nat.le_of_ble_eq_true rfl, Nat.le_of_ble_eq_true rfl⟩) hP hD hS hA [3] [0, 1, 2] rfl rfl (by decide) (by decide) (fun u9 H locs w22 hP hD hS => ?_)
  have w22 : True := w22
  have hP : va_P D vwCl [(h0, .inr (7, [.ref q5, .null, .null, .int (nI 0), .int (nI 0)])), (q5, .inr (0, [.ref q1_11, .int (nI (([] : List Nat).length))])), (q1_11, .inl (cyI, 62, .inl (fun _ => 0))), (q18, .inr (6, []))] H := hP
  have hD : va_D A [(h0, .inr (7, [.ref q5, .null, .null, .int (nI 0), .int (nI 0)])), (q5, .inr (0, [.ref q1_11, .int (nI (([] : List Nat).length))])), (q1_11, .inl (cyI, 62, .inl (fun _ => 0))), (q18, .inr (6, []))] := hD
  refine va_putF (D := D) (ci := 7) (v := .ref q18) (ty := .object "OutStation$Reading") (C := RX7) (T := TX7) (N := 5) hx hb hts inX7_ tyX7 tyX7_ok nmX7 hown hK hP hD hS 0 rfl rfl 1 (by decide) fl23 (fun _ h9 => h9) rfl hname rfl (by decide +kernel) rfl rfl (Nat.le_of_ble_eq_true rfl) dX7_init_25 (fun H locs hP hD hS => ?_)
  have hP : va_P D vwCl [(h0, .inr (7, [.ref q5, .ref q18, .null, .int (nI 0), .int (nI 0)])), (q5, .inr (0, [.ref q1_11, .int (nI (([] : List Nat).length))])), (q1_11, .inl (cyI, 62, .inl (fun _ => 0))), (q18, .inr (6, []))] H := hP
  have hD : va_D A [(h0, .inr (7, [.ref q5, .ref q18, .null, .int (nI 0), .int (nI 0)])), (q5, .inr (0, [.ref q1_11, .int (nI (([] : List Nat).length))])), (q1_11, .inl (cyI, 62, .inl (fun _ => 0))), (q18, .inr (6, []))] := hD
  refine lv_aload_n hx hb dX7_init_28 rfl (lv_at hl 0 rfl) ?_
  refine va_new (ci := 8) (fs := [.int 0, .int 0, .int 0, .int 0, .int 0]) (C := RX8) (T := TX8) (N := 5) hx hb hts inX8_ tyX8 tyX8_ok hown cl27 inRX8 ini_RX8 hK hP hD hS hA rfl (fun j hj => by rcases (show j = 0 ∨ j = 1 ∨ j = 2 ∨ j = 3 ∨ j = 4 by omega) with rfl | rfl | rfl | rfl | rfl <;> rfl) (Nat.le_of_ble_eq_true rfl) (Nat.le_of_ble_eq_true rfl) dX7_init_29 (fun q29 H hP hD hS => ?_)
  have hP : va_P D vwCl [(h0, .inr (7, [.ref q5, .ref q18, .null, .int (nI 0), .int (nI 0)])), (q5, .inr (0, [.ref q1_11, .int (nI (([] : List Nat).length))])), (q1_11, .inl (cyI, 62, .inl (fun _ => 0))), (q18, .inr (6, [])), (q29, .inr (8, [.int (nI 0), .int (nI 0), .int (nI 0), .int (nI 0), .int (nI 0)]))] H := hP
  have hD : va_D A [(h0, .inr (7, [.ref q5, .ref q18, .null, .int (nI 0), .int (nI 0)])), (q5, .inr (0, [.ref q1_11, .int (nI (([] : List Nat).length))])), (q1_11, .inl (cyI, 62, .inl (fun _ => 0))), (q18, .inr (6, [])), (q29, .inr (8, [.int (nI 0), .int (nI 0), .int (nI 0), .int (nI 0), .int (nI 0)]))] := hD
  refine lv_dup hx hb dX7_init_32 rfl ?_
  refine res_v (wW := [(h0, .inr (7, [.ref q5, .ref q18, .null, .int (nI 0), .int (nI 0)])), (q5, .inr (0, [.ref q1_11, .int (nI (([] : List Nat).length))])), (q1_11, .inl (cyI, 62, .inl (fun _ => 0))), (q18, .inr (6, [])), (q29, .inr (8, [.int (nI 0), .int (nI 0), .int (nI 0), .int (nI 0), .int (nI 0)]))]) (Wc := [(q29, .inr (8, [.int (nI 0), .int (nI 0), .int (nI 0), .int (nI 0), .int (nI 0)]))]) (Wr := [(h0, .inr (7, [.ref q5, .ref q18, .null, .int (nI 0), .int (nI 0)])), (q5, .inr (0, [.ref q1_11, .int (nI (([] : List Nat).length))])), (q1_11, .inl (cyI, 62, .inl (fun _ => 0))), (q18, .inr (6, []))]) (run_IN (QA := fun A => va_Qv _ (bw D _ (tyL cyI cyZ) A) A) (rmC := ({ frames := 1, cells := 0, slots := 0, locals := 12 } : Room)) (mc := 0) (ms := 0) (As := []) (rest := [.ref q29, .ref h0]) (wW := [(h0, .inr (7, [.ref q5, .ref q18, .null, .int (nI 0), .int (nI 0)])), (q5, .inr (0, [.ref q1_11, .int (nI (([] : List Nat).length))])), (q1_11, .inl (cyI, 62, .inl (fun _ => 0))), (q18, .inr (6, [])), (q29, .inr (8, [.int (nI 0), .int (nI 0), .int (nI 0), .int (nI 0), .int (nI 0)]))]) (Wc := [(q29, .inr (8, [.int (nI 0), .int (nI 0), .int (nI 0), .int (nI 0), .int (nI 0)]))]) ⟨hx, hb, hml, hown, hts⟩ (c_X8_init l D cyI cyZ q29 ) ⟨va_cnB 0 hts ggX7_init_X8_init rfl rfl rfl (hN _ (List.mem_of_getElem? (i := 11) rfl)) ini_RX8 (by decide +kernel) ⟨Nat.le_of_ble_eq_true rfl, Nat.le_of_ble_eq_true rfl⟩, rfl, im_X8_init⟩ hN hK hP hD [4] rfl (by decide) rfl hl.1 rfl rfl dX7_init_33 ⟨Nat.le_of_ble_eq_true rfl, Nat.le_of_ble_eq_true rfl⟩) hP hD hS hA [4] [0, 1, 2, 3] rfl rfl (by decide) (by decide) (fun u9 H locs w33 hP hD hS => ?_)
  have w33 : True := w33
  have hP : va_P D vwCl [(h0, .inr (7, [.ref q5, .ref q18, .null, .int (nI 0), .int (nI 0)])), (q5, .inr (0, [.ref q1_11, .int (nI (([] : List Nat).length))])), (q1_11, .inl (cyI, 62, .inl (fun _ => 0))), (q18, .inr (6, [])), (q29, .inr (8, [.int (bI (false = true)), .int (nI 0), .int (nI 0), .int (nI 0), .int (nI 0)]))] H := hP
  have hD : va_D A [(h0, .inr (7, [.ref q5, .ref q18, .null, .int (nI 0), .int (nI 0)])), (q5, .inr (0, [.ref q1_11, .int (nI (([] : List Nat).length))])), (q1_11, .inl (cyI, 62, .inl (fun _ => 0))), (q18, .inr (6, [])), (q29, .inr (8, [.int (bI (false = true)), .int (nI 0), .int (nI 0), .int (nI 0), .int (nI 0)]))] := hD
  refine va_putF (D := D) (ci := 7) (v := .ref q29) (ty := .object "OutStation$Selection") (C := RX7) (T := TX7) (N := 5) hx hb hts inX7_ tyX7 tyX7_ok nmX7 hown hK hP hD hS 0 rfl rfl 2 (by decide) fl30 (fun _ h9 => h9) rfl hname rfl (by decide +kernel) rfl rfl (Nat.le_of_ble_eq_true rfl) dX7_init_36 (fun H locs hP hD hS => ?_)
  have hP : va_P D vwCl [(h0, .inr (7, [.ref q5, .ref q18, .ref q29, .int (nI 0), .int (nI 0)])), (q5, .inr (0, [.ref q1_11, .int (nI (([] : List Nat).length))])), (q1_11, .inl (cyI, 62, .inl (fun _ => 0))), (q18, .inr (6, [])), (q29, .inr (8, [.int (bI (false = true)), .int (nI 0), .int (nI 0), .int (nI 0), .int (nI 0)]))] H := hP
  have hD : va_D A [(h0, .inr (7, [.ref q5, .ref q18, .ref q29, .int (nI 0), .int (nI 0)])), (q5, .inr (0, [.ref q1_11, .int (nI (([] : List Nat).length))])), (q1_11, .inl (cyI, 62, .inl (fun _ => 0))), (q18, .inr (6, [])), (q29, .inr (8, [.int (bI (false = true)), .int (nI 0), .int (nI 0), .int (nI 0), .int (nI 0)]))] := hD
  refine lv_aload_n hx hb dX7_init_39 rfl (lv_at hl 0 rfl) ?_
  refine lv_iconst (v := (nI 0)) hx hb dX7_init_40 (by decide) ?_
  refine va_put (D := D) (ci := 7) (v := .int (nI 0)) (ty := .boolean) (C := RX7) (T := TX7) (N := 5) hx hb hts inX7_ tyX7 tyX7_ok nmX7 hown hK hP hD hS 0 rfl rfl 3 (by decide) fl34 (fun _ h9 => h9) rfl (by decide +kernel) rfl rfl (Nat.le_of_ble_eq_true rfl) dX7_init_41 (fun H locs hP hD hS => ?_)
  have hP : va_P D vwCl [(h0, .inr (7, [.ref q5, .ref q18, .ref q29, .int (nI 0), .int (nI 0)])), (q5, .inr (0, [.ref q1_11, .int (nI (([] : List Nat).length))])), (q1_11, .inl (cyI, 62, .inl (fun _ => 0))), (q18, .inr (6, [])), (q29, .inr (8, [.int (bI (false = true)), .int (nI 0), .int (nI 0), .int (nI 0), .int (nI 0)]))] H := hP
  have hD : va_D A [(h0, .inr (7, [.ref q5, .ref q18, .ref q29, .int (nI 0), .int (nI 0)])), (q5, .inr (0, [.ref q1_11, .int (nI (([] : List Nat).length))])), (q1_11, .inl (cyI, 62, .inl (fun _ => 0))), (q18, .inr (6, [])), (q29, .inr (8, [.int (bI (false = true)), .int (nI 0), .int (nI 0), .int (nI 0), .int (nI 0)]))] := hD
  refine lv_aload_n hx hb dX7_init_44 rfl (lv_at hl 0 rfl) ?_
  refine lv_iconst (v := (nI 0)) hx hb dX7_init_45 (by decide) ?_
  refine va_put (D := D) (ci := 7) (v := .int (nI 0)) (ty := .int) (C := RX7) (T := TX7) (N := 5) hx hb hts inX7_ tyX7 tyX7_ok nmX7 hown hK hP hD hS 0 rfl rfl 4 (by decide) fl38 (fun _ h9 => h9) rfl (by decide +kernel) rfl rfl (Nat.le_of_ble_eq_true rfl) dX7_init_46 (fun H locs hP hD hS => ?_)
  have hP : va_P D vwCl [(h0, .inr (7, [.ref q5, .ref q18, .ref q29, .int (nI 0), .int (nI 0)])), (q5, .inr (0, [.ref q1_11, .int (nI (([] : List Nat).length))])), (q1_11, .inl (cyI, 62, .inl (fun _ => 0))), (q18, .inr (6, [])), (q29, .inr (8, [.int (bI (false = true)), .int (nI 0), .int (nI 0), .int (nI 0), .int (nI 0)]))] H := hP
  have hD : va_D A [(h0, .inr (7, [.ref q5, .ref q18, .ref q29, .int (nI 0), .int (nI 0)])), (q5, .inr (0, [.ref q1_11, .int (nI (([] : List Nat).length))])), (q1_11, .inl (cyI, 62, .inl (fun _ => 0))), (q18, .inr (6, [])), (q29, .inr (8, [.int (bI (false = true)), .int (nI 0), .int (nI 0), .int (nI 0), .int (nI 0)]))] := hD
  have ew9 : ([(h0, .inr (7, [.ref q5, .ref q18, .ref q29, .int (bI (false = true)), .int (nI 0)])), (q5, .inr (0, [.ref q1_11, .int (nI (([] : List Nat).length))])), (q1_11, .inl (cyI, 62, .inl (fun _ => 0))), (q18, .inr (6, [])), (q29, .inr (8, [.int (bI (false = true)), .int (nI 0), .int (nI 0), .int (nI 0), .int (nI 0)]))] : va_W) = [(h0, .inr (7, [.ref q5, .ref q18, .ref q29, .int (nI 0), .int (nI 0)])), (q5, .inr (0, [.ref q1_11, .int (nI (([] : List Nat).length))])), (q1_11, .inl (cyI, 62, .inl (fun _ => 0))), (q18, .inr (6, [])), (q29, .inr (8, [.int (bI (false = true)), .int (nI 0), .int (nI 0), .int (nI 0), .int (nI 0)]))] := by rfl
  have hP : va_P D vwCl [(h0, .inr (7, [.ref q5, .ref q18, .ref q29, .int (bI (false = true)), .int (nI 0)])), (q5, .inr (0, [.ref q1_11, .int (nI (([] : List Nat).length))])), (q1_11, .inl (cyI, 62, .inl (fun _ => 0))), (q18, .inr (6, [])), (q29, .inr (8, [.int (bI (false = true)), .int (nI 0), .int (nI 0), .int (nI 0), .int (nI 0)]))] H := by rw [ew9]; exact hP
  have hD : va_D A [(h0, .inr (7, [.ref q5, .ref q18, .ref q29, .int (bI (false = true)), .int (nI 0)])), (q5, .inr (0, [.ref q1_11, .int (nI (([] : List Nat).length))])), (q1_11, .inl (cyI, 62, .inl (fun _ => 0))), (q18, .inr (6, [])), (q29, .inr (8, [.int (bI (false = true)), .int (nI 0), .int (nI 0), .int (nI 0), .int (nI 0)]))] := by rw [ew9]; exact hD
  exact ret_v hQ hx hb hr hlocks dX7_init_49 hK hS (q5, q1_11, q18, q29) (trivial) hP hD
set_option maxHeartbeats 4000000 in
set_option maxRecDepth 100000 in
theorem c_X9_init (l : Launch) (D : va_G) (cyI cyZ : ClassId) (h0 : Nat) : Cv l D yX9_init wsX9_init ({ frames := 2, cells := 2, slots := 257, locals := 44 } : Room) [.ref h0] [(h0, .inr (9, [.null, .null, .int (nI 0), .int (nI 0), .int (nI 0)]))] (tyL cyI cyZ) (fun u : Nat × Nat => match u with | (kp, sm) => True) (fun u : Nat × Nat => match u with | (kp, sm) => [(h0, .inr (9, [.ref kp, .ref sm, .int (nI ((([] : List Nat), 0).1.length)), .int (nI ((([] : List Nat), 0).1.length % 256)), .int (nI 0)])), (kp, .inl (cyI, 256, .inl (fun _ => 0))), (sm, .inr (10, [.int (nI ((([] : List Nat), 0).2))]))]) 2 257 := by
  refine mk_Ct (cc := cX9_init) (maxL := 1) (ret := none) (by decide) rfl rfl ?_
  intro p e s m below meth c A Q ls hx hb hr hts hown hlocks hml hname hA hN hK hP hD hS hQ hl
  have hl : lv_has ls 1 [(0, .ref h0)] := hl
  have ml3 : (Cond.methodLink RX9 3 objectInit).before ([.ref h0] : List Value).toArray s = true := hts _ (by decide +kernel)
  have oi : (Cond.instanceMethod objectInit).before ([.ref h0] : List Value).toArray s = true := hts _ (by decide +kernel)
  have oc : (Cond.code objectInit ⟨#[0xb1]⟩ 1 none).before ([.ref h0] : List Value).toArray s = true := hts _ (by decide +kernel)
  have ac_int : (Cond.arrayClass .int).before ([.ref h0] : List Value).toArray s = true := hts _ (by decide +kernel)
  have inX9_ : ∀ w ∈ u_ws RX9 TX9 5, w ∈ wsX9_init := fun w h => List.mem_cons_of_mem _ (List.mem_append_left _ (List.mem_append_right _ h))
  have fl9 : (Cond.fieldLink RX9 9 "OutStation$Sending" "kept" "[I").before ([.ref h0] : List Value).toArray s = true := hts _ (by decide +kernel)
  have cl15 : (Cond.classLink RX9 15 RX10).before ([.ref h0] : List Value).toArray s = true := hts _ (by decide +kernel)
  have inRX10 : (Cond.instantiable RX10 1).before ([.ref h0] : List Value).toArray s = true := hts _ (by decide +kernel)
  have ini_RX10 : (Cond.initialized RX10).before ([.ref h0] : List Value).toArray s = true := hts _ (by decide +kernel)
  have inX10_ : ∀ w ∈ u_ws RX10 TX10 1, w ∈ wsX9_init := fun w h => List.mem_cons_of_mem _ (List.mem_append_right _ h)
  have im_X10_init : (Cond.instanceMethod yX10_init).before ([.ref h0] : List Value).toArray s = true := hts _ (by decide +kernel)
  have fl18 : (Cond.fieldLink RX9 18 "OutStation$Sending" "sum" "LOutStation$Sum;").before ([.ref h0] : List Value).toArray s = true := hts _ (by decide +kernel)
  have fl22 : (Cond.fieldLink RX9 22 "OutStation$Sending" "total" "I").before ([.ref h0] : List Value).toArray s = true := hts _ (by decide +kernel)
  have fl26 : (Cond.fieldLink RX9 26 "OutStation$Sending" "next" "I").before ([.ref h0] : List Value).toArray s = true := hts _ (by decide +kernel)
  have fl29 : (Cond.fieldLink RX9 29 "OutStation$Sending" "partNumber" "I").before ([.ref h0] : List Value).toArray s = true := hts _ (by decide +kernel)
  have hname : meth.name = "<init>" := hname
  have hown : s.vm.findClass RX9 = some m.cls := hown
  obtain ⟨H, eH9⟩ : ∃ H, H = s.heap := ⟨_, rfl⟩
  have hP : va_P D vwCl [(h0, .inr (9, [.null, .null, .int (nI 0), .int (nI 0), .int (nI 0)]))] H := by rw [eH9]; exact hP
  have hS : va_S A s.heap H [] := by rw [eH9]; exact hS
  obtain ⟨locs, eL9⟩ : ∃ z : List Loc, z = [] := ⟨_, rfl⟩
  rw [← eH9, ← eL9]
  have hS : va_S A s.heap H locs := by rw [eL9]; exact hS
  refine lv_aload_n hx hb dX9_init_0 rfl (lv_at hl 0 rfl) ?_
  refine W.objInit hx hb hown ml3 oi oc rfl (by rw [hml]; exact hl.1) rfl dX9_init_1 (Nat.le_of_ble_eq_true rfl) (Nat.le_of_ble_eq_true rfl) ?_
  refine W.eq (g2 := F0 m 4 ls []) rfl ?_
  refine lv_aload_n hx hb dX9_init_4 rfl (lv_at hl 0 rfl) ?_
  refine lv_sipush (v := (nI 256)) hx hb dX9_init_5 (by decide) ?_
  refine nv_newa hx hb ac_int hK hP hD hS hA (by omega) (by decide) (Nat.le_of_ble_eq_true rfl) (Nat.le_of_ble_eq_true rfl) dX9_init_8 (fun q8 H hP hD hS => ?_)
  have hP : va_P D vwCl [(h0, .inr (9, [.null, .null, .int (nI 0), .int (nI 0), .int (nI 0)])), (q8, .inl (cyI, 256, .inl (fun _ => 0)))] H := hP
  have hD : va_D A [(h0, .inr (9, [.null, .null, .int (nI 0), .int (nI 0), .int (nI 0)])), (q8, .inl (cyI, 256, .inl (fun _ => 0)))] := hD
  refine va_putF (D := D) (ci := 9) (v := .ref q8) (ty := .array .int) (C := RX9) (T := TX9) (N := 5) hx hb hts inX9_ tyX9 tyX9_ok nmX9 hown hK hP hD hS 0 rfl rfl 0 (by decide) fl9 (fun _ h9 => h9) rfl hname rfl (by decide +kernel) rfl rfl (Nat.le_of_ble_eq_true rfl) dX9_init_10 (fun H locs hP hD hS => ?_)
  have hP : va_P D vwCl [(h0, .inr (9, [.ref q8, .null, .int (nI 0), .int (nI 0), .int (nI 0)])), (q8, .inl (cyI, 256, .inl (fun _ => 0)))] H := hP
  have hD : va_D A [(h0, .inr (9, [.ref q8, .null, .int (nI 0), .int (nI 0), .int (nI 0)])), (q8, .inl (cyI, 256, .inl (fun _ => 0)))] := hD
  refine lv_aload_n hx hb dX9_init_13 rfl (lv_at hl 0 rfl) ?_
  refine va_new (ci := 10) (fs := [.int 0]) (C := RX10) (T := TX10) (N := 1) hx hb hts inX10_ tyX10 tyX10_ok hown cl15 inRX10 ini_RX10 hK hP hD hS hA rfl (fun j hj => by rcases (show j = 0 by omega) with rfl <;> rfl) (Nat.le_of_ble_eq_true rfl) (Nat.le_of_ble_eq_true rfl) dX9_init_14 (fun q14 H hP hD hS => ?_)
  have hP : va_P D vwCl [(h0, .inr (9, [.ref q8, .null, .int (nI 0), .int (nI 0), .int (nI 0)])), (q8, .inl (cyI, 256, .inl (fun _ => 0))), (q14, .inr (10, [.int (nI 0)]))] H := hP
  have hD : va_D A [(h0, .inr (9, [.ref q8, .null, .int (nI 0), .int (nI 0), .int (nI 0)])), (q8, .inl (cyI, 256, .inl (fun _ => 0))), (q14, .inr (10, [.int (nI 0)]))] := hD
  refine lv_dup hx hb dX9_init_17 rfl ?_
  refine res_v (wW := [(h0, .inr (9, [.ref q8, .null, .int (nI 0), .int (nI 0), .int (nI 0)])), (q8, .inl (cyI, 256, .inl (fun _ => 0))), (q14, .inr (10, [.int (nI 0)]))]) (Wc := [(q14, .inr (10, [.int (nI 0)]))]) (Wr := [(h0, .inr (9, [.ref q8, .null, .int (nI 0), .int (nI 0), .int (nI 0)])), (q8, .inl (cyI, 256, .inl (fun _ => 0)))]) (run_IN (QA := fun A => va_Qv _ (bw D _ (tyL cyI cyZ) A) A) (rmC := ({ frames := 1, cells := 0, slots := 0, locals := 12 } : Room)) (mc := 0) (ms := 0) (As := []) (rest := [.ref q14, .ref h0]) (wW := [(h0, .inr (9, [.ref q8, .null, .int (nI 0), .int (nI 0), .int (nI 0)])), (q8, .inl (cyI, 256, .inl (fun _ => 0))), (q14, .inr (10, [.int (nI 0)]))]) (Wc := [(q14, .inr (10, [.int (nI 0)]))]) ⟨hx, hb, hml, hown, hts⟩ (c_X10_init l D cyI cyZ q14 0 ) ⟨va_cnB 0 hts ggX9_init_X10_init rfl rfl rfl (hN _ (List.mem_of_getElem? (i := 12) rfl)) ini_RX10 (by decide +kernel) ⟨Nat.le_of_ble_eq_true rfl, Nat.le_of_ble_eq_true rfl⟩, rfl, im_X10_init⟩ hN hK hP hD [2] rfl (by decide) rfl hl.1 rfl rfl dX9_init_18 ⟨Nat.le_of_ble_eq_true rfl, Nat.le_of_ble_eq_true rfl⟩) hP hD hS hA [2] [0, 1] rfl rfl (by decide) (by decide) (fun u9 H locs w18 hP hD hS => ?_)
  have w18 : True := w18
  have hP : va_P D vwCl [(h0, .inr (9, [.ref q8, .null, .int (nI 0), .int (nI 0), .int (nI 0)])), (q8, .inl (cyI, 256, .inl (fun _ => 0))), (q14, .inr (10, [.int (nI 0)]))] H := hP
  have hD : va_D A [(h0, .inr (9, [.ref q8, .null, .int (nI 0), .int (nI 0), .int (nI 0)])), (q8, .inl (cyI, 256, .inl (fun _ => 0))), (q14, .inr (10, [.int (nI 0)]))] := hD
  refine va_putF (D := D) (ci := 9) (v := .ref q14) (ty := .object "OutStation$Sum") (C := RX9) (T := TX9) (N := 5) hx hb hts inX9_ tyX9 tyX9_ok nmX9 hown hK hP hD hS 0 rfl rfl 1 (by decide) fl18 (fun _ h9 => h9) rfl hname rfl (by decide +kernel) rfl rfl (Nat.le_of_ble_eq_true rfl) dX9_init_21 (fun H locs hP hD hS => ?_)
  have hP : va_P D vwCl [(h0, .inr (9, [.ref q8, .ref q14, .int (nI 0), .int (nI 0), .int (nI 0)])), (q8, .inl (cyI, 256, .inl (fun _ => 0))), (q14, .inr (10, [.int (nI 0)]))] H := hP
  have hD : va_D A [(h0, .inr (9, [.ref q8, .ref q14, .int (nI 0), .int (nI 0), .int (nI 0)])), (q8, .inl (cyI, 256, .inl (fun _ => 0))), (q14, .inr (10, [.int (nI 0)]))] := hD
  refine lv_aload_n hx hb dX9_init_24 rfl (lv_at hl 0 rfl) ?_
  refine lv_iconst (v := (nI 0)) hx hb dX9_init_25 (by decide) ?_
  refine va_put (D := D) (ci := 9) (v := .int (nI 0)) (ty := .int) (C := RX9) (T := TX9) (N := 5) hx hb hts inX9_ tyX9 tyX9_ok nmX9 hown hK hP hD hS 0 rfl rfl 2 (by decide) fl22 (fun _ h9 => h9) rfl (by decide +kernel) rfl rfl (Nat.le_of_ble_eq_true rfl) dX9_init_26 (fun H locs hP hD hS => ?_)
  have hP : va_P D vwCl [(h0, .inr (9, [.ref q8, .ref q14, .int (nI 0), .int (nI 0), .int (nI 0)])), (q8, .inl (cyI, 256, .inl (fun _ => 0))), (q14, .inr (10, [.int (nI 0)]))] H := hP
  have hD : va_D A [(h0, .inr (9, [.ref q8, .ref q14, .int (nI 0), .int (nI 0), .int (nI 0)])), (q8, .inl (cyI, 256, .inl (fun _ => 0))), (q14, .inr (10, [.int (nI 0)]))] := hD
  refine lv_aload_n hx hb dX9_init_29 rfl (lv_at hl 0 rfl) ?_
  refine lv_iconst (v := (nI 0)) hx hb dX9_init_30 (by decide) ?_
  refine va_put (D := D) (ci := 9) (v := .int (nI 0)) (ty := .int) (C := RX9) (T := TX9) (N := 5) hx hb hts inX9_ tyX9 tyX9_ok nmX9 hown hK hP hD hS 0 rfl rfl 3 (by decide) fl26 (fun _ h9 => h9) rfl (by decide +kernel) rfl rfl (Nat.le_of_ble_eq_true rfl) dX9_init_31 (fun H locs hP hD hS => ?_)
  have hP : va_P D vwCl [(h0, .inr (9, [.ref q8, .ref q14, .int (nI 0), .int (nI 0), .int (nI 0)])), (q8, .inl (cyI, 256, .inl (fun _ => 0))), (q14, .inr (10, [.int (nI 0)]))] H := hP
  have hD : va_D A [(h0, .inr (9, [.ref q8, .ref q14, .int (nI 0), .int (nI 0), .int (nI 0)])), (q8, .inl (cyI, 256, .inl (fun _ => 0))), (q14, .inr (10, [.int (nI 0)]))] := hD
  refine lv_aload_n hx hb dX9_init_34 rfl (lv_at hl 0 rfl) ?_
  refine lv_iconst (v := (nI 0)) hx hb dX9_init_35 (by decide) ?_
  refine va_put (D := D) (ci := 9) (v := .int (nI 0)) (ty := .int) (C := RX9) (T := TX9) (N := 5) hx hb hts inX9_ tyX9 tyX9_ok nmX9 hown hK hP hD hS 0 rfl rfl 4 (by decide) fl29 (fun _ h9 => h9) rfl (by decide +kernel) rfl rfl (Nat.le_of_ble_eq_true rfl) dX9_init_36 (fun H locs hP hD hS => ?_)
  have hP : va_P D vwCl [(h0, .inr (9, [.ref q8, .ref q14, .int (nI 0), .int (nI 0), .int (nI 0)])), (q8, .inl (cyI, 256, .inl (fun _ => 0))), (q14, .inr (10, [.int (nI 0)]))] H := hP
  have hD : va_D A [(h0, .inr (9, [.ref q8, .ref q14, .int (nI 0), .int (nI 0), .int (nI 0)])), (q8, .inl (cyI, 256, .inl (fun _ => 0))), (q14, .inr (10, [.int (nI 0)]))] := hD
  have ew9 : ([(h0, .inr (9, [.ref q8, .ref q14, .int (nI ((([] : List Nat), 0).1.length)), .int (nI ((([] : List Nat), 0).1.length % 256)), .int (nI 0)])), (q8, .inl (cyI, 256, .inl (fun _ => 0))), (q14, .inr (10, [.int (nI ((([] : List Nat), 0).2))]))] : va_W) = [(h0, .inr (9, [.ref q8, .ref q14, .int (nI 0), .int (nI 0), .int (nI 0)])), (q8, .inl (cyI, 256, .inl (fun _ => 0))), (q14, .inr (10, [.int (nI 0)]))] := by rfl
  have hP : va_P D vwCl [(h0, .inr (9, [.ref q8, .ref q14, .int (nI ((([] : List Nat), 0).1.length)), .int (nI ((([] : List Nat), 0).1.length % 256)), .int (nI 0)])), (q8, .inl (cyI, 256, .inl (fun _ => 0))), (q14, .inr (10, [.int (nI ((([] : List Nat), 0).2))]))] H := by rw [ew9]; exact hP
  have hD : va_D A [(h0, .inr (9, [.ref q8, .ref q14, .int (nI ((([] : List Nat), 0).1.length)), .int (nI ((([] : List Nat), 0).1.length % 256)), .int (nI 0)])), (q8, .inl (cyI, 256, .inl (fun _ => 0))), (q14, .inr (10, [.int (nI ((([] : List Nat), 0).2))]))] := by rw [ew9]; exact hD
  exact ret_v hQ hx hb hr hlocks dX9_init_39 hK hS (q8, q14) (trivial) hP hD
set_option maxHeartbeats 4000000 in
set_option maxRecDepth 100000 in
theorem c_X9_keeps (l : Launch) (D : va_G) (cyI cyZ : ClassId) (h0 kp sm : Nat) (st : List Nat × Nat) (kf : Nat → Int32) (pn : Nat) (k : Int32) (ok : okS st kf) : Ci l D yX9_keeps wsX9_keeps ({ frames := 0, cells := 0, slots := 0, locals := 0 } : Room) [.ref h0, .int k] [(h0, .inr (9, [.ref kp, .ref sm, .int (nI st.1.length), .int (nI (st.1.length % 256)), .int (nI pn)])), (kp, .inl (cyI, 256, .inl kf)), (sm, .inr (10, [.int (nI st.2)]))] (tyL cyI cyZ) (fun (r : Int32) (_ : Unit) => r = bI (keepI st k)) (fun _ : Unit => [(h0, .inr (9, [.ref kp, .ref sm, .int (nI st.1.length), .int (nI (st.1.length % 256)), .int (nI pn)])), (kp, .inl (cyI, 256, .inl kf)), (sm, .inr (10, [.int (nI st.2)]))]) 0 0 := by
  refine mk_Ct (cc := cX9_keeps) (maxL := 2) (ret := (some .boolean)) (by decide) rfl rfl ?_
  intro p e s m below meth c A Q ls hx hb hr hts hown hlocks hml hname hA hN hK hP hD hS hQ hl
  have hl : lv_has ls 2 [(0, .ref h0), (1, .int k)] := hl
  have inX9_ : ∀ w ∈ u_ws RX9 TX9 5, w ∈ wsX9_keeps := fun w h => List.mem_cons_of_mem _ (List.mem_append_right _ h)
  have fl22 : (Cond.fieldLink RX9 22 "OutStation$Sending" "total" "I").before ([.ref h0, .int k] : List Value).toArray s = true := hts _ (by decide +kernel)
  have hown : s.vm.findClass RX9 = some m.cls := hown
  obtain ⟨H, eH9⟩ : ∃ H, H = s.heap := ⟨_, rfl⟩
  have hP : va_P D vwCl [(h0, .inr (9, [.ref kp, .ref sm, .int (nI st.1.length), .int (nI (st.1.length % 256)), .int (nI pn)])), (kp, .inl (cyI, 256, .inl kf)), (sm, .inr (10, [.int (nI st.2)]))] H := by rw [eH9]; exact hP
  have hS : va_S A s.heap H [] := by rw [eH9]; exact hS
  obtain ⟨locs, eL9⟩ : ∃ z : List Loc, z = [] := ⟨_, rfl⟩
  rw [← eH9, ← eL9]
  have hS : va_S A s.heap H locs := by rw [eL9]; exact hS
  obtain ⟨ok1, ok2, ok3⟩ := id ok
  refine lv_iload_n hx hb dX9_keeps_0 rfl (lv_at hl 1 rfl) ?_
  refine lv_if_lt (tgt := 23) hx hb dX9_keeps_1 (by decide) (fun c1 => ?_) (fun c1 => ?_)
  · skip
    refine lv_iconst (v := (nI 0)) hx hb dX9_keeps_23 (by decide) ?_
    exact ret_z hQ hx hb hr hlocks dX9_keeps_24 hK hS (rfl) () (by first | exact (bI_t (keepI_y c1 c8 c16)).symm | exact (bI_f (keepI_n1 c1)).symm | exact (bI_f (keepI_n2 c8)).symm | exact (bI_f (keepI_n3 c16)).symm) hP hD
  · skip
    refine lv_iload_n hx hb dX9_keeps_4 rfl (lv_at hl 1 rfl) ?_
    refine lv_sipush (v := (nI 256)) hx hb dX9_keeps_5 (by decide) ?_
    refine lv_icmp_ge (tgt := 23) hx hb dX9_keeps_8 (by decide) (fun c8 => ?_) (fun c8 => ?_)
    · skip
      refine lv_iconst (v := (nI 0)) hx hb dX9_keeps_23 (by decide) ?_
      exact ret_z hQ hx hb hr hlocks dX9_keeps_24 hK hS (rfl) () (by first | exact (bI_t (keepI_y c1 c8 c16)).symm | exact (bI_f (keepI_n1 c1)).symm | exact (bI_f (keepI_n2 c8)).symm | exact (bI_f (keepI_n3 c16)).symm) hP hD
    · skip
      refine lv_iload_n hx hb dX9_keeps_11 rfl (lv_at hl 1 rfl) ?_
      refine lv_aload_n hx hb dX9_keeps_12 rfl (lv_at hl 0 rfl) ?_
      refine va_get (D := D) (ci := 9) (v := .int (nI st.1.length)) (C := RX9) (T := TX9) (N := 5) hx hb hts inX9_ hown hK hP 0 rfl rfl 2 (by decide) fl22 (fun _ h9 => h9) rfl dX9_keeps_13 ?_
      refine lv_icmp_ge (tgt := 23) hx hb dX9_keeps_16 (by decide) (fun c16 => ?_) (fun c16 => ?_)
      · skip
        refine lv_iconst (v := (nI 0)) hx hb dX9_keeps_23 (by decide) ?_
        exact ret_z hQ hx hb hr hlocks dX9_keeps_24 hK hS (rfl) () (by first | exact (bI_t (keepI_y c1 c8 c16)).symm | exact (bI_f (keepI_n1 c1)).symm | exact (bI_f (keepI_n2 c8)).symm | exact (bI_f (keepI_n3 c16)).symm) hP hD
      · skip
        refine lv_iconst (v := (nI 1)) hx hb dX9_keeps_19 (by decide) ?_
        refine lv_goto (tgt := 24) hx hb dX9_keeps_20 (by decide) ?_
        exact ret_z hQ hx hb hr hlocks dX9_keeps_24 hK hS (rfl) () (by first | exact (bI_t (keepI_y c1 c8 c16)).symm | exact (bI_f (keepI_n1 c1)).symm | exact (bI_f (keepI_n2 c8)).symm | exact (bI_f (keepI_n3 c16)).symm) hP hD
set_option maxHeartbeats 4000000 in
set_option maxRecDepth 100000 in
theorem c_X9_latest (l : Launch) (D : va_G) (cyI cyZ : ClassId) (h0 kp sm : Nat) (st : List Nat × Nat) (kf : Nat → Int32) (pn : Nat) (k : Nat) (ok : okS st kf) (hk : k < 256) (hk2 : k < st.1.length) : Ci l D yX9_latest wsX9_latest ({ frames := 1, cells := 0, slots := 0, locals := 30 } : Room) [.ref h0, .int (nI k)] [(h0, .inr (9, [.ref kp, .ref sm, .int (nI st.1.length), .int (nI (st.1.length % 256)), .int (nI pn)])), (kp, .inl (cyI, 256, .inl kf)), (sm, .inr (10, [.int (nI st.2)]))] (tyL cyI cyZ) (fun (r : Int32) (_ : Unit) => r = nI (st.1.getD (st.1.length - 1 - k) 0)) (fun _ : Unit => [(h0, .inr (9, [.ref kp, .ref sm, .int (nI st.1.length), .int (nI (st.1.length % 256)), .int (nI pn)])), (kp, .inl (cyI, 256, .inl kf)), (sm, .inr (10, [.int (nI st.2)]))]) 0 0 := by
  refine mk_Ct (cc := cX9_latest) (maxL := 2) (ret := (some .int)) (by decide) rfl rfl ?_
  intro p e s m below meth c A Q ls hx hb hr hts hown hlocks hml hname hA hN hK hP hD hS hQ hl
  have hl : lv_has ls 2 [(0, .ref h0), (1, .int (nI k))] := hl
  have inX9_ : ∀ w ∈ u_ws RX9 TX9 5, w ∈ wsX9_latest := fun w h => List.mem_cons_of_mem _ (List.mem_append_right _ h)
  have fl9 : (Cond.fieldLink RX9 9 "OutStation$Sending" "kept" "[I").before ([.ref h0, .int (nI k)] : List Value).toArray s = true := hts _ (by decide +kernel)
  have fl26 : (Cond.fieldLink RX9 26 "OutStation$Sending" "next" "I").before ([.ref h0, .int (nI k)] : List Value).toArray s = true := hts _ (by decide +kernel)
  have hown : s.vm.findClass RX9 = some m.cls := hown
  obtain ⟨H, eH9⟩ : ∃ H, H = s.heap := ⟨_, rfl⟩
  have hP : va_P D vwCl [(h0, .inr (9, [.ref kp, .ref sm, .int (nI st.1.length), .int (nI (st.1.length % 256)), .int (nI pn)])), (kp, .inl (cyI, 256, .inl kf)), (sm, .inr (10, [.int (nI st.2)]))] H := by rw [eH9]; exact hP
  have hS : va_S A s.heap H [] := by rw [eH9]; exact hS
  obtain ⟨locs, eL9⟩ : ∃ z : List Loc, z = [] := ⟨_, rfl⟩
  rw [← eH9, ← eL9]
  have hS : va_S A s.heap H locs := by rw [eL9]; exact hS
  obtain ⟨ok1, ok2, ok3⟩ := id ok
  refine lv_aload_n hx hb dX9_latest_0 rfl (lv_at hl 0 rfl) ?_
  refine lv_iload_n hx hb dX9_latest_1 rfl (lv_at hl 1 rfl) ?_
  refine res_i (wW := [(h0, .inr (9, [.ref kp, .ref sm, .int (nI st.1.length), .int (nI (st.1.length % 256)), .int (nI pn)])), (kp, .inl (cyI, 256, .inl kf)), (sm, .inr (10, [.int (nI st.2)]))]) (Wc := [(h0, .inr (9, [.ref kp, .ref sm, .int (nI st.1.length), .int (nI (st.1.length % 256)), .int (nI pn)])), (kp, .inl (cyI, 256, .inl kf)), (sm, .inr (10, [.int (nI st.2)]))]) (Wr := []) (run_V (QA := fun A => va_Qi _ (bw D _ (tyL cyI cyZ) A) A) (rmC := ({ frames := 0, cells := 0, slots := 0, locals := 0 } : Room)) (mc := 0) (ms := 0) (As := [.int (nI k)]) (rest := []) (ci := 9) (wW := [(h0, .inr (9, [.ref kp, .ref sm, .int (nI st.1.length), .int (nI (st.1.length % 256)), .int (nI pn)])), (kp, .inl (cyI, 256, .inl kf)), (sm, .inr (10, [.int (nI st.2)]))]) (Wc := [(h0, .inr (9, [.ref kp, .ref sm, .int (nI st.1.length), .int (nI (st.1.length % 256)), .int (nI pn)])), (kp, .inl (cyI, 256, .inl kf)), (sm, .inr (10, [.int (nI st.2)]))]) ⟨hx, hb, hml, hown, hts⟩ (c_X9_keeps l D cyI cyZ h0 kp sm st kf pn (nI k) (by assumption)) (cwV 1 hts gX9_latest_X9_keeps rfl rfl rfl (by decide +kernel) ⟨Nat.le_of_ble_eq_true rfl, Nat.le_of_ble_eq_true rfl⟩) hN hK hP hD [0, 1, 2] rfl (by decide) 0 rfl rfl rfl hl.1 rfl rfl dX9_latest_2 ⟨Nat.le_of_ble_eq_true rfl, Nat.le_of_ble_eq_true rfl⟩) hP hD hS hA [0, 1, 2] [] rfl rfl (by decide) (by decide) (fun r2 u9 H locs w2 hP hD hS => ?_)
  have w2 : r2 = bI (keepI st (nI k)) := w2
  have hP : va_P D vwCl [(h0, .inr (9, [.ref kp, .ref sm, .int (nI st.1.length), .int (nI (st.1.length % 256)), .int (nI pn)])), (kp, .inl (cyI, 256, .inl kf)), (sm, .inr (10, [.int (nI st.2)]))] H := hP
  have hD : va_D A [(h0, .inr (9, [.ref kp, .ref sm, .int (nI st.1.length), .int (nI (st.1.length % 256)), .int (nI pn)])), (kp, .inl (cyI, 256, .inl kf)), (sm, .inr (10, [.int (nI st.2)]))] := hD
  refine nv_top (y := (bI (keepI st (nI k)))) (w2) ?_
  refine bv_if_eq (tgt := 32) hx hb dX9_latest_5 (by decide) (fun c5 => ?_) (fun c5 => ?_)
  · exact absurd (keepI_nI hk hk2 ok1) c5
  · skip
    refine lv_aload_n hx hb dX9_latest_8 rfl (lv_at hl 0 rfl) ?_
    refine va_get (D := D) (ci := 9) (v := .ref kp) (C := RX9) (T := TX9) (N := 5) hx hb hts inX9_ hown hK hP 0 rfl rfl 0 (by decide) fl9 (fun _ h9 => h9) rfl dX9_latest_9 ?_
    refine lv_aload_n hx hb dX9_latest_12 rfl (lv_at hl 0 rfl) ?_
    refine va_get (D := D) (ci := 9) (v := .int (nI (st.1.length % 256))) (C := RX9) (T := TX9) (N := 5) hx hb hts inX9_ hown hK hP 0 rfl rfl 3 (by decide) fl26 (fun _ h9 => h9) rfl dX9_latest_13 ?_
    refine lv_sipush (v := (nI 256)) hx hb dX9_latest_16 (by decide) ?_
    refine nv_iadd hx hb dX9_latest_19 ?_
    refine lv_iconst (v := (nI 1)) hx hb dX9_latest_20 (by decide) ?_
    refine nv_isub hx hb (by omega) dX9_latest_21 ?_
    refine lv_iload_n hx hb dX9_latest_22 rfl (lv_at hl 1 rfl) ?_
    refine nv_isub hx hb (by omega) dX9_latest_23 ?_
    refine lv_sipush (v := (nI 256)) hx hb dX9_latest_24 (by decide) ?_
    refine nv_irem hx hb (by omega) (by omega) (by omega) dX9_latest_27 ?_
    refine nv_iald hx hb hK hP 1 0 rfl rfl (by omega) (by decide) dX9_latest_28 ?_
    refine nv_top (y := (nI (st.1.getD (st.1.length - 1 - k) 0))) (ring_at ok3 hk hk2) ?_
    refine lv_goto (tgt := 33) hx hb dX9_latest_29 (by decide) ?_
    exact ret_i hQ hx hb hr hlocks dX9_latest_33 hK hS () (by first | rfl | assumption | omega) hP hD
