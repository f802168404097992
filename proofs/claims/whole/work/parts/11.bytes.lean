/-! OWN ROWS, written by wip/gen (walk.py, spec_a.py) -/
set_option maxHeartbeats 4000000 in
set_option maxRecDepth 100000 in
theorem c_X0_length (l : Launch) (D : va_G) (cyI cyZ : ClassId) (h0 ca cap : Nat) (bl : List Nat) (f : Nat → Int32) : Ci l D yX0_length wsX0_length ({ frames := 0, cells := 0, slots := 0, locals := 0 } : Room) [.ref h0] [(h0, .inr (0, [.ref ca, .int (nI bl.length)])), (ca, .inl (cyI, cap, .inl f))] (tyL cyI cyZ) (fun (r : Int32) (_ : Unit) => r = nI bl.length) (fun _ : Unit => [(h0, .inr (0, [.ref ca, .int (nI bl.length)])), (ca, .inl (cyI, cap, .inl f))]) 0 0 := by
  refine mk_Ct (cc := cX0_length) (maxL := 1) (ret := (some .int)) (by decide) rfl rfl ?_
  intro p e s m below meth c A Q ls hx hb hr hts hown hlocks hml hname hA hN hK hP hD hS hQ hl
  have hl : lv_has ls 1 [(0, .ref h0)] := hl
  have inX0_ : ∀ w ∈ u_ws RX0 TX0 2, w ∈ wsX0_length := fun w h => List.mem_cons_of_mem _ (List.mem_append_right _ h)
  have fl15 : (Cond.fieldLink RX0 15 "OutStation$Bytes" "count" "I").before ([.ref h0] : List Value).toArray s = true := hts _ (by decide +kernel)
  have hown : s.vm.findClass RX0 = some m.cls := hown
  obtain ⟨H, eH9⟩ : ∃ H, H = s.heap := ⟨_, rfl⟩
  have hP : va_P D vwCl [(h0, .inr (0, [.ref ca, .int (nI bl.length)])), (ca, .inl (cyI, cap, .inl f))] H := by rw [eH9]; exact hP
  have hS : va_S A s.heap H [] := by rw [eH9]; exact hS
  obtain ⟨locs, eL9⟩ : ∃ z : List Loc, z = [] := ⟨_, rfl⟩
  rw [← eH9, ← eL9]
  have hS : va_S A s.heap H locs := by rw [eL9]; exact hS
  refine lv_aload_n hx hb dX0_length_0 rfl (lv_at hl 0 rfl) ?_
  refine va_get (D := D) (ci := 0) (v := .int (nI bl.length)) (C := RX0) (T := TX0) (N := 2) hx hb hts inX0_ hown hK hP 0 rfl rfl 1 (by decide) fl15 (fun _ h9 => h9) rfl dX0_length_1 ?_
  exact ret_i hQ hx hb hr hlocks dX0_length_4 hK hS () (by first | rfl | assumption | omega) hP hD
set_option maxHeartbeats 4000000 in
set_option maxRecDepth 100000 in
theorem c_X0_room (l : Launch) (D : va_G) (cyI cyZ : ClassId) (h0 ca cap : Nat) (bl : List Nat) (f : Nat → Int32) (ok : okB cap bl f) : Ci l D yX0_room wsX0_room ({ frames := 0, cells := 0, slots := 0, locals := 0 } : Room) [.ref h0] [(h0, .inr (0, [.ref ca, .int (nI bl.length)])), (ca, .inl (cyI, cap, .inl f))] (tyL cyI cyZ) (fun (r : Int32) (_ : Unit) => r = nI (cap - bl.length)) (fun _ : Unit => [(h0, .inr (0, [.ref ca, .int (nI bl.length)])), (ca, .inl (cyI, cap, .inl f))]) 0 0 := by
  refine mk_Ct (cc := cX0_room) (maxL := 1) (ret := (some .int)) (by decide) rfl rfl ?_
  intro p e s m below meth c A Q ls hx hb hr hts hown hlocks hml hname hA hN hK hP hD hS hQ hl
  have hl : lv_has ls 1 [(0, .ref h0)] := hl
  have inX0_ : ∀ w ∈ u_ws RX0 TX0 2, w ∈ wsX0_room := fun w h => List.mem_cons_of_mem _ (List.mem_append_right _ h)
  have fl9 : (Cond.fieldLink RX0 9 "OutStation$Bytes" "cells" "[I").before ([.ref h0] : List Value).toArray s = true := hts _ (by decide +kernel)
  have fl15 : (Cond.fieldLink RX0 15 "OutStation$Bytes" "count" "I").before ([.ref h0] : List Value).toArray s = true := hts _ (by decide +kernel)
  have hown : s.vm.findClass RX0 = some m.cls := hown
  obtain ⟨H, eH9⟩ : ∃ H, H = s.heap := ⟨_, rfl⟩
  have hP : va_P D vwCl [(h0, .inr (0, [.ref ca, .int (nI bl.length)])), (ca, .inl (cyI, cap, .inl f))] H := by rw [eH9]; exact hP
  have hS : va_S A s.heap H [] := by rw [eH9]; exact hS
  obtain ⟨locs, eL9⟩ : ∃ z : List Loc, z = [] := ⟨_, rfl⟩
  rw [← eH9, ← eL9]
  have hS : va_S A s.heap H locs := by rw [eL9]; exact hS
  obtain ⟨ok1, ok2, ok3, ok4⟩ := id ok
  refine lv_aload_n hx hb dX0_room_0 rfl (lv_at hl 0 rfl) ?_
  refine va_get (D := D) (ci := 0) (v := .ref ca) (C := RX0) (T := TX0) (N := 2) hx hb hts inX0_ hown hK hP 0 rfl rfl 0 (by decide) fl9 (fun _ h9 => h9) rfl dX0_room_1 ?_
  refine va_alen (v := (nI cap)) hx hb hK hP 1 0 rfl rfl rfl dX0_room_4 ?_
  refine lv_aload_n hx hb dX0_room_5 rfl (lv_at hl 0 rfl) ?_
  refine va_get (D := D) (ci := 0) (v := .int (nI bl.length)) (C := RX0) (T := TX0) (N := 2) hx hb hts inX0_ hown hK hP 0 rfl rfl 1 (by decide) fl15 (fun _ h9 => h9) rfl dX0_room_6 ?_
  refine nv_isub hx hb (by omega) dX0_room_9 ?_
  exact ret_i hQ hx hb hr hlocks dX0_room_10 hK hS () (by first | rfl | assumption | omega) hP hD
set_option maxHeartbeats 4000000 in
set_option maxRecDepth 100000 in
theorem c_X0_clear (l : Launch) (D : va_G) (cyI cyZ : ClassId) (h0 ca cap : Nat) (bl : List Nat) (f : Nat → Int32) : Cv l D yX0_clear wsX0_clear ({ frames := 0, cells := 0, slots := 0, locals := 0 } : Room) [.ref h0] [(h0, .inr (0, [.ref ca, .int (nI bl.length)])), (ca, .inl (cyI, cap, .inl f))] (tyL cyI cyZ) (fun _ : Unit => True) (fun _ : Unit => [(h0, .inr (0, [.ref ca, .int (nI (([] : List Nat).length))])), (ca, .inl (cyI, cap, .inl f))]) 0 0 := by
  refine mk_Ct (cc := cX0_clear) (maxL := 1) (ret := none) (by decide) rfl rfl ?_
  intro p e s m below meth c A Q ls hx hb hr hts hown hlocks hml hname hA hN hK hP hD hS hQ hl
  have hl : lv_has ls 1 [(0, .ref h0)] := hl
  have inX0_ : ∀ w ∈ u_ws RX0 TX0 2, w ∈ wsX0_clear := fun w h => List.mem_cons_of_mem _ (List.mem_append_right _ h)
  have fl15 : (Cond.fieldLink RX0 15 "OutStation$Bytes" "count" "I").before ([.ref h0] : List Value).toArray s = true := hts _ (by decide +kernel)
  have hown : s.vm.findClass RX0 = some m.cls := hown
  obtain ⟨H, eH9⟩ : ∃ H, H = s.heap := ⟨_, rfl⟩
  have hP : va_P D vwCl [(h0, .inr (0, [.ref ca, .int (nI bl.length)])), (ca, .inl (cyI, cap, .inl f))] H := by rw [eH9]; exact hP
  have hS : va_S A s.heap H [] := by rw [eH9]; exact hS
  obtain ⟨locs, eL9⟩ : ∃ z : List Loc, z = [] := ⟨_, rfl⟩
  rw [← eH9, ← eL9]
  have hS : va_S A s.heap H locs := by rw [eL9]; exact hS
  refine lv_aload_n hx hb dX0_clear_0 rfl (lv_at hl 0 rfl) ?_
  refine lv_iconst (v := (nI 0)) hx hb dX0_clear_1 (by decide) ?_
  refine va_put (D := D) (ci := 0) (v := .int (nI 0)) (ty := .int) (C := RX0) (T := TX0) (N := 2) hx hb hts inX0_ tyX0 tyX0_ok nmX0 hown hK hP hD hS 0 rfl rfl 1 (by decide) fl15 (fun _ h9 => h9) rfl (by decide +kernel) rfl rfl (Nat.le_of_ble_eq_true rfl) dX0_clear_2 (fun H locs hP hD hS => ?_)
  have hP : va_P D vwCl [(h0, .inr (0, [.ref ca, .int (nI 0)])), (ca, .inl (cyI, cap, .inl f))] H := hP
  have hD : va_D A [(h0, .inr (0, [.ref ca, .int (nI 0)])), (ca, .inl (cyI, cap, .inl f))] := hD
  have ew9 : ([(h0, .inr (0, [.ref ca, .int (nI (([] : List Nat).length))])), (ca, .inl (cyI, cap, .inl f))] : va_W) = [(h0, .inr (0, [.ref ca, .int (nI 0)])), (ca, .inl (cyI, cap, .inl f))] := by rfl
  have hP : va_P D vwCl [(h0, .inr (0, [.ref ca, .int (nI (([] : List Nat).length))])), (ca, .inl (cyI, cap, .inl f))] H := by rw [ew9]; exact hP
  have hD : va_D A [(h0, .inr (0, [.ref ca, .int (nI (([] : List Nat).length))])), (ca, .inl (cyI, cap, .inl f))] := by rw [ew9]; exact hD
  exact ret_v hQ hx hb hr hlocks dX0_clear_5 hK hS () (trivial) hP hD
set_option maxHeartbeats 4000000 in
set_option maxRecDepth 100000 in
theorem c_X0_add (l : Launch) (D : va_G) (cyI cyZ : ClassId) (h0 ca cap : Nat) (bl : List Nat) (f : Nat → Int32) (x : Int32) (ok : okB cap bl f) (hlt : bl.length < cap) : Cv l D yX0_add wsX0_add ({ frames := 0, cells := 0, slots := 0, locals := 0 } : Room) [.ref h0, .int x] [(h0, .inr (0, [.ref ca, .int (nI bl.length)])), (ca, .inl (cyI, cap, .inl f))] (tyL cyI cyZ) (fun f2 : (Nat → Int32) => okB cap (bl ++ [byte8 x]) f2) (fun f2 : (Nat → Int32) => [(h0, .inr (0, [.ref ca, .int (nI ((bl ++ [byte8 x]).length))])), (ca, .inl (cyI, cap, .inl f2))]) 0 0 := by
  refine mk_Ct (cc := cX0_add) (maxL := 2) (ret := none) (by decide) rfl rfl ?_
  intro p e s m below meth c A Q ls hx hb hr hts hown hlocks hml hname hA hN hK hP hD hS hQ hl
  have hl : lv_has ls 2 [(0, .ref h0), (1, .int x)] := hl
  have inX0_ : ∀ w ∈ u_ws RX0 TX0 2, w ∈ wsX0_add := fun w h => List.mem_cons_of_mem _ (List.mem_append_right _ h)
  have fl15 : (Cond.fieldLink RX0 15 "OutStation$Bytes" "count" "I").before ([.ref h0, .int x] : List Value).toArray s = true := hts _ (by decide +kernel)
  have fl9 : (Cond.fieldLink RX0 9 "OutStation$Bytes" "cells" "[I").before ([.ref h0, .int x] : List Value).toArray s = true := hts _ (by decide +kernel)
  have hown : s.vm.findClass RX0 = some m.cls := hown
  obtain ⟨H, eH9⟩ : ∃ H, H = s.heap := ⟨_, rfl⟩
  have hP : va_P D vwCl [(h0, .inr (0, [.ref ca, .int (nI bl.length)])), (ca, .inl (cyI, cap, .inl f))] H := by rw [eH9]; exact hP
  have hS : va_S A s.heap H [] := by rw [eH9]; exact hS
  obtain ⟨locs, eL9⟩ : ∃ z : List Loc, z = [] := ⟨_, rfl⟩
  rw [← eH9, ← eL9]
  have hS : va_S A s.heap H locs := by rw [eL9]; exact hS
  obtain ⟨ok1, ok2, ok3, ok4⟩ := id ok
  refine lv_aload_n hx hb dX0_add_0 rfl (lv_at hl 0 rfl) ?_
  refine va_get (D := D) (ci := 0) (v := .int (nI bl.length)) (C := RX0) (T := TX0) (N := 2) hx hb hts inX0_ hown hK hP 0 rfl rfl 1 (by decide) fl15 (fun _ h9 => h9) rfl dX0_add_1 ?_
  refine lv_aload_n hx hb dX0_add_4 rfl (lv_at hl 0 rfl) ?_
  refine va_get (D := D) (ci := 0) (v := .ref ca) (C := RX0) (T := TX0) (N := 2) hx hb hts inX0_ hown hK hP 0 rfl rfl 0 (by decide) fl9 (fun _ h9 => h9) rfl dX0_add_5 ?_
  refine va_alen (v := (nI cap)) hx hb hK hP 1 0 rfl rfl rfl dX0_add_8 ?_
  refine nv_icmp_ge (tgt := 36) hx hb (by omega) (by omega) dX0_add_9 (by decide) (fun c9 => ?_) (fun c9 => ?_)
  · exfalso; omega
  · skip
    refine lv_aload_n hx hb dX0_add_12 rfl (lv_at hl 0 rfl) ?_
    refine va_get (D := D) (ci := 0) (v := .ref ca) (C := RX0) (T := TX0) (N := 2) hx hb hts inX0_ hown hK hP 0 rfl rfl 0 (by decide) fl9 (fun _ h9 => h9) rfl dX0_add_13 ?_
    refine lv_aload_n hx hb dX0_add_16 rfl (lv_at hl 0 rfl) ?_
    refine va_get (D := D) (ci := 0) (v := .int (nI bl.length)) (C := RX0) (T := TX0) (N := 2) hx hb hts inX0_ hown hK hP 0 rfl rfl 1 (by decide) fl15 (fun _ h9 => h9) rfl dX0_add_17 ?_
    refine lv_iload_n hx hb dX0_add_20 rfl (lv_at hl 1 rfl) ?_
    refine lv_sipush (v := (nI 255)) hx hb dX0_add_21 (by decide) ?_
    refine lv_iand hx hb dX0_add_24 ?_
    refine nv_top (y := (nI (x.toBitVec.toNat % 256))) (pk_and _ 8 (by decide)) ?_
    refine nv_iast hx hb hK hP hD hS 1 0 rfl rfl (by omega) (by omega) dX0_add_25 (fun H locs hP hD hS => ?_)
    have hP : va_P D vwCl [(h0, .inr (0, [.ref ca, .int (nI bl.length)])), (ca, .inl (cyI, cap, .inl (upd f bl.length (nI (x.toBitVec.toNat % 256)))))] H := hP
    have hD : va_D A [(h0, .inr (0, [.ref ca, .int (nI bl.length)])), (ca, .inl (cyI, cap, .inl (upd f bl.length (nI (x.toBitVec.toNat % 256)))))] := hD
    refine lv_aload_n hx hb dX0_add_26 rfl (lv_at hl 0 rfl) ?_
    refine lv_dup hx hb dX0_add_27 rfl ?_
    refine va_get (D := D) (ci := 0) (v := .int (nI bl.length)) (C := RX0) (T := TX0) (N := 2) hx hb hts inX0_ hown hK hP 0 rfl rfl 1 (by decide) fl15 (fun _ h9 => h9) rfl dX0_add_28 ?_
    refine lv_iconst (v := (nI 1)) hx hb dX0_add_31 (by decide) ?_
    refine nv_iadd hx hb dX0_add_32 ?_
    refine va_put (D := D) (ci := 0) (v := .int (nI (bl.length + 1))) (ty := .int) (C := RX0) (T := TX0) (N := 2) hx hb hts inX0_ tyX0 tyX0_ok nmX0 hown hK hP hD hS 0 rfl rfl 1 (by decide) fl15 (fun _ h9 => h9) rfl (by decide +kernel) rfl rfl (Nat.le_of_ble_eq_true rfl) dX0_add_33 (fun H locs hP hD hS => ?_)
    have hP : va_P D vwCl [(h0, .inr (0, [.ref ca, .int (nI (bl.length + 1))])), (ca, .inl (cyI, cap, .inl (upd f bl.length (nI (x.toBitVec.toNat % 256)))))] H := hP
    have hD : va_D A [(h0, .inr (0, [.ref ca, .int (nI (bl.length + 1))])), (ca, .inl (cyI, cap, .inl (upd f bl.length (nI (x.toBitVec.toNat % 256)))))] := hD
    have ew9 : ([(h0, .inr (0, [.ref ca, .int (nI ((bl ++ [byte8 x]).length))])), (ca, .inl (cyI, cap, .inl (upd f bl.length (nI (x.toBitVec.toNat % 256)))))] : va_W) = [(h0, .inr (0, [.ref ca, .int (nI (bl.length + 1))])), (ca, .inl (cyI, cap, .inl (upd f bl.length (nI (x.toBitVec.toNat % 256)))))] := by simp
    have hP : va_P D vwCl [(h0, .inr (0, [.ref ca, .int (nI ((bl ++ [byte8 x]).length))])), (ca, .inl (cyI, cap, .inl (upd f bl.length (nI (x.toBitVec.toNat % 256)))))] H := by rw [ew9]; exact hP
    have hD : va_D A [(h0, .inr (0, [.ref ca, .int (nI ((bl ++ [byte8 x]).length))])), (ca, .inl (cyI, cap, .inl (upd f bl.length (nI (x.toBitVec.toNat % 256)))))] := by rw [ew9]; exact hD
    exact ret_v hQ hx hb hr hlocks dX0_add_36 hK hS (upd f bl.length (nI (x.toBitVec.toNat % 256))) (okB_push ok hlt (byte8_lt x)) hP hD
set_option maxHeartbeats 4000000 in
set_option maxRecDepth 100000 in
theorem c_X0_at (l : Launch) (D : va_G) (cyI cyZ : ClassId) (h0 ca cap : Nat) (bl : List Nat) (f : Nat → Int32) (i : Nat) (ok : okB cap bl f) (hi : i < 2147483648) : Ci l D yX0_at wsX0_at ({ frames := 0, cells := 0, slots := 0, locals := 0 } : Room) [.ref h0, .int (nI i)] [(h0, .inr (0, [.ref ca, .int (nI bl.length)])), (ca, .inl (cyI, cap, .inl f))] (tyL cyI cyZ) (fun (r : Int32) (_ : Unit) => r = nI (bl.getD i 0) ∧ bl.getD i 0 < 256) (fun _ : Unit => [(h0, .inr (0, [.ref ca, .int (nI bl.length)])), (ca, .inl (cyI, cap, .inl f))]) 0 0 := by
  refine mk_Ct (cc := cX0_at) (maxL := 2) (ret := (some .int)) (by decide) rfl rfl ?_
  intro p e s m below meth c A Q ls hx hb hr hts hown hlocks hml hname hA hN hK hP hD hS hQ hl
  have hl : lv_has ls 2 [(0, .ref h0), (1, .int (nI i))] := hl
  have inX0_ : ∀ w ∈ u_ws RX0 TX0 2, w ∈ wsX0_at := fun w h => List.mem_cons_of_mem _ (List.mem_append_right _ h)
  have fl15 : (Cond.fieldLink RX0 15 "OutStation$Bytes" "count" "I").before ([.ref h0, .int (nI i)] : List Value).toArray s = true := hts _ (by decide +kernel)
  have fl9 : (Cond.fieldLink RX0 9 "OutStation$Bytes" "cells" "[I").before ([.ref h0, .int (nI i)] : List Value).toArray s = true := hts _ (by decide +kernel)
  have hown : s.vm.findClass RX0 = some m.cls := hown
  obtain ⟨H, eH9⟩ : ∃ H, H = s.heap := ⟨_, rfl⟩
  have hP : va_P D vwCl [(h0, .inr (0, [.ref ca, .int (nI bl.length)])), (ca, .inl (cyI, cap, .inl f))] H := by rw [eH9]; exact hP
  have hS : va_S A s.heap H [] := by rw [eH9]; exact hS
  obtain ⟨locs, eL9⟩ : ∃ z : List Loc, z = [] := ⟨_, rfl⟩
  rw [← eH9, ← eL9]
  have hS : va_S A s.heap H locs := by rw [eL9]; exact hS
  obtain ⟨ok1, ok2, ok3, ok4⟩ := id ok
  refine lv_iload_n hx hb dX0_at_0 rfl (lv_at hl 1 rfl) ?_
  refine nv_if_lt (tgt := 12) hx hb (by omega) dX0_at_1 (by decide) (fun c1 => ?_) (fun c1 => ?_)
  · exact absurd c1 (Nat.not_lt_zero _)
  · skip
    refine lv_iload_n hx hb dX0_at_4 rfl (lv_at hl 1 rfl) ?_
    refine lv_aload_n hx hb dX0_at_5 rfl (lv_at hl 0 rfl) ?_
    refine va_get (D := D) (ci := 0) (v := .int (nI bl.length)) (C := RX0) (T := TX0) (N := 2) hx hb hts inX0_ hown hK hP 0 rfl rfl 1 (by decide) fl15 (fun _ h9 => h9) rfl dX0_at_6 ?_
    refine nv_icmp_lt (tgt := 14) hx hb (by omega) (by omega) dX0_at_9 (by decide) (fun c9 => ?_) (fun c9 => ?_)
    · skip
      refine lv_aload_n hx hb dX0_at_14 rfl (lv_at hl 0 rfl) ?_
      refine va_get (D := D) (ci := 0) (v := .ref ca) (C := RX0) (T := TX0) (N := 2) hx hb hts inX0_ hown hK hP 0 rfl rfl 0 (by decide) fl9 (fun _ h9 => h9) rfl dX0_at_15 ?_
      refine lv_iload_n hx hb dX0_at_18 rfl (lv_at hl 1 rfl) ?_
      refine nv_iald hx hb hK hP 1 0 rfl rfl (by omega) (by omega) dX0_at_19 ?_
      refine nv_top (y := (nI (bl.getD i 0))) (ok3 i c9) ?_
      exact ret_i hQ hx hb hr hlocks dX0_at_20 hK hS () (⟨rfl, ok4 i⟩) hP hD
    · skip
      refine lv_iconst (v := (nI 0)) hx hb dX0_at_12 (by decide) ?_
      exact ret_i hQ hx hb hr hlocks dX0_at_13 hK hS () (by rw [getD_big c9]; exact ⟨rfl, by decide⟩) hP hD
set_option maxHeartbeats 4000000 in
set_option maxRecDepth 100000 in
theorem c_X0_replace (l : Launch) (D : va_G) (cyI cyZ : ClassId) (h0 ca cap : Nat) (bl : List Nat) (f : Nat → Int32) (i : Nat) (x : Int32) (ok : okB cap bl f) (hi : i < bl.length) : Cv l D yX0_replace wsX0_replace ({ frames := 0, cells := 0, slots := 0, locals := 0 } : Room) [.ref h0, .int (nI i), .int x] [(h0, .inr (0, [.ref ca, .int (nI bl.length)])), (ca, .inl (cyI, cap, .inl f))] (tyL cyI cyZ) (fun f2 : (Nat → Int32) => okB cap (bl.set i (byte8 x)) f2) (fun f2 : (Nat → Int32) => [(h0, .inr (0, [.ref ca, .int (nI ((bl.set i (byte8 x)).length))])), (ca, .inl (cyI, cap, .inl f2))]) 0 0 := by
  refine mk_Ct (cc := cX0_replace) (maxL := 3) (ret := none) (by decide) rfl rfl ?_
  intro p e s m below meth c A Q ls hx hb hr hts hown hlocks hml hname hA hN hK hP hD hS hQ hl
  have hl : lv_has ls 3 [(0, .ref h0), (1, .int (nI i)), (2, .int x)] := hl
  have inX0_ : ∀ w ∈ u_ws RX0 TX0 2, w ∈ wsX0_replace := fun w h => List.mem_cons_of_mem _ (List.mem_append_right _ h)
  have fl15 : (Cond.fieldLink RX0 15 "OutStation$Bytes" "count" "I").before ([.ref h0, .int (nI i), .int x] : List Value).toArray s = true := hts _ (by decide +kernel)
  have fl9 : (Cond.fieldLink RX0 9 "OutStation$Bytes" "cells" "[I").before ([.ref h0, .int (nI i), .int x] : List Value).toArray s = true := hts _ (by decide +kernel)
  have hown : s.vm.findClass RX0 = some m.cls := hown
  obtain ⟨H, eH9⟩ : ∃ H, H = s.heap := ⟨_, rfl⟩
  have hP : va_P D vwCl [(h0, .inr (0, [.ref ca, .int (nI bl.length)])), (ca, .inl (cyI, cap, .inl f))] H := by rw [eH9]; exact hP
  have hS : va_S A s.heap H [] := by rw [eH9]; exact hS
  obtain ⟨locs, eL9⟩ : ∃ z : List Loc, z = [] := ⟨_, rfl⟩
  rw [← eH9, ← eL9]
  have hS : va_S A s.heap H locs := by rw [eL9]; exact hS
  obtain ⟨ok1, ok2, ok3, ok4⟩ := id ok
  refine lv_iload_n hx hb dX0_replace_0 rfl (lv_at hl 1 rfl) ?_
  refine nv_if_lt (tgt := 23) hx hb (by omega) dX0_replace_1 (by decide) (fun c1 => ?_) (fun c1 => ?_)
  · exact absurd c1 (Nat.not_lt_zero _)
  · skip
    refine lv_iload_n hx hb dX0_replace_4 rfl (lv_at hl 1 rfl) ?_
    refine lv_aload_n hx hb dX0_replace_5 rfl (lv_at hl 0 rfl) ?_
    refine va_get (D := D) (ci := 0) (v := .int (nI bl.length)) (C := RX0) (T := TX0) (N := 2) hx hb hts inX0_ hown hK hP 0 rfl rfl 1 (by decide) fl15 (fun _ h9 => h9) rfl dX0_replace_6 ?_
    refine nv_icmp_ge (tgt := 23) hx hb (by omega) (by omega) dX0_replace_9 (by decide) (fun c9 => ?_) (fun c9 => ?_)
    · exfalso; omega
    · skip
      refine lv_aload_n hx hb dX0_replace_12 rfl (lv_at hl 0 rfl) ?_
      refine va_get (D := D) (ci := 0) (v := .ref ca) (C := RX0) (T := TX0) (N := 2) hx hb hts inX0_ hown hK hP 0 rfl rfl 0 (by decide) fl9 (fun _ h9 => h9) rfl dX0_replace_13 ?_
      refine lv_iload_n hx hb dX0_replace_16 rfl (lv_at hl 1 rfl) ?_
      refine lv_iload_n hx hb dX0_replace_17 rfl (lv_at hl 2 rfl) ?_
      refine lv_sipush (v := (nI 255)) hx hb dX0_replace_18 (by decide) ?_
      refine lv_iand hx hb dX0_replace_21 ?_
      refine nv_top (y := (nI (x.toBitVec.toNat % 256))) (pk_and _ 8 (by decide)) ?_
      refine nv_iast hx hb hK hP hD hS 1 0 rfl rfl (by omega) (by omega) dX0_replace_22 (fun H locs hP hD hS => ?_)
      have hP : va_P D vwCl [(h0, .inr (0, [.ref ca, .int (nI bl.length)])), (ca, .inl (cyI, cap, .inl (upd f i (nI (x.toBitVec.toNat % 256)))))] H := hP
      have hD : va_D A [(h0, .inr (0, [.ref ca, .int (nI bl.length)])), (ca, .inl (cyI, cap, .inl (upd f i (nI (x.toBitVec.toNat % 256)))))] := hD
      have ew9 : ([(h0, .inr (0, [.ref ca, .int (nI ((bl.set i (byte8 x)).length))])), (ca, .inl (cyI, cap, .inl (upd f i (nI (x.toBitVec.toNat % 256)))))] : va_W) = [(h0, .inr (0, [.ref ca, .int (nI bl.length)])), (ca, .inl (cyI, cap, .inl (upd f i (nI (x.toBitVec.toNat % 256)))))] := by simp
      have hP : va_P D vwCl [(h0, .inr (0, [.ref ca, .int (nI ((bl.set i (byte8 x)).length))])), (ca, .inl (cyI, cap, .inl (upd f i (nI (x.toBitVec.toNat % 256)))))] H := by rw [ew9]; exact hP
      have hD : va_D A [(h0, .inr (0, [.ref ca, .int (nI ((bl.set i (byte8 x)).length))])), (ca, .inl (cyI, cap, .inl (upd f i (nI (x.toBitVec.toNat % 256)))))] := by rw [ew9]; exact hD
      exact ret_v hQ hx hb hr hlocks dX0_replace_23 hK hS (upd f i (nI (x.toBitVec.toNat % 256))) (okB_set ok hi (byte8_lt x)) hP hD
set_option maxHeartbeats 4000000 in
set_option maxRecDepth 100000 in
theorem c_X0_dropFirst (l : Launch) (D : va_G) (cyI cyZ : ClassId) (h0 ca cap : Nat) (bl : List Nat) (f : Nat → Int32) (n : Nat) (ok : okB cap bl f) (hn : n ≤ bl.length) : Cv l D yX0_dropFirst wsX0_dropFirst ({ frames := 1, cells := 0, slots := 0, locals := 60 } : Room) [.ref h0, .int (nI n)] [(h0, .inr (0, [.ref ca, .int (nI bl.length)])), (ca, .inl (cyI, cap, .inl f))] (tyL cyI cyZ) (fun f2 : (Nat → Int32) => okB cap (bl.drop n) f2) (fun f2 : (Nat → Int32) => [(h0, .inr (0, [.ref ca, .int (nI ((bl.drop n).length))])), (ca, .inl (cyI, cap, .inl f2))]) 0 0 := by
  refine mk_Ct (cc := cX0_dropFirst) (maxL := 3) (ret := none) (by decide) rfl rfl ?_
  intro p e s m below meth c A Q ls hx hb hr hts hown hlocks hml hname hA hN hK hP hD hS hQ hl
  have hl : lv_has ls 3 [(0, .ref h0), (1, .int (nI n))] := hl
  have ml23 : (Cond.methodLink RX0 23 Lib.Math.max.name).before ([.ref h0, .int (nI n)] : List Value).toArray s = true := hts _ (by decide +kernel)
  have stmax : (Cond.static Lib.Math.max.name).before ([.ref h0, .int (nI n)] : List Value).toArray s = true := hts _ (by decide +kernel)
  have iM : (Cond.initialized "java/lang/Math").before ([.ref h0, .int (nI n)] : List Value).toArray s = true := hts _ (by decide +kernel)
  have comax : (Cond.code Lib.Math.max.name Lib.Math.max.code 2 (some .int)).before ([.ref h0, .int (nI n)] : List Value).toArray s = true := hts _ (by decide +kernel)
  have inX0_ : ∀ w ∈ u_ws RX0 TX0 2, w ∈ wsX0_dropFirst := fun w h => List.mem_cons_of_mem _ (List.mem_append_right _ h)
  have fl15 : (Cond.fieldLink RX0 15 "OutStation$Bytes" "count" "I").before ([.ref h0, .int (nI n)] : List Value).toArray s = true := hts _ (by decide +kernel)
  have ml29 : (Cond.methodLink RX0 29 Lib.Math.min.name).before ([.ref h0, .int (nI n)] : List Value).toArray s = true := hts _ (by decide +kernel)
  have stmin : (Cond.static Lib.Math.min.name).before ([.ref h0, .int (nI n)] : List Value).toArray s = true := hts _ (by decide +kernel)
  have comin : (Cond.code Lib.Math.min.name Lib.Math.min.code 2 (some .int)).before ([.ref h0, .int (nI n)] : List Value).toArray s = true := hts _ (by decide +kernel)
  have fl9 : (Cond.fieldLink RX0 9 "OutStation$Bytes" "cells" "[I").before ([.ref h0, .int (nI n)] : List Value).toArray s = true := hts _ (by decide +kernel)
  have ml32 : (Cond.methodLink RX0 32 arraycopyName).before ([.ref h0, .int (nI n)] : List Value).toArray s = true := hts _ (by decide +kernel)
  have nac : (Cond.native arraycopyName).before ([.ref h0, .int (nI n)] : List Value).toArray s = true := hts _ (by decide +kernel)
  have sac : (Cond.static arraycopyName).before ([.ref h0, .int (nI n)] : List Value).toArray s = true := hts _ (by decide +kernel)
  have iS : (Cond.initialized "java/lang/System").before ([.ref h0, .int (nI n)] : List Value).toArray s = true := hts _ (by decide +kernel)
  have hown : s.vm.findClass RX0 = some m.cls := hown
  obtain ⟨H, eH9⟩ : ∃ H, H = s.heap := ⟨_, rfl⟩
  have hP : va_P D vwCl [(h0, .inr (0, [.ref ca, .int (nI bl.length)])), (ca, .inl (cyI, cap, .inl f))] H := by rw [eH9]; exact hP
  have hS : va_S A s.heap H [] := by rw [eH9]; exact hS
  obtain ⟨locs, eL9⟩ : ∃ z : List Loc, z = [] := ⟨_, rfl⟩
  rw [← eH9, ← eL9]
  have hS : va_S A s.heap H locs := by rw [eL9]; exact hS
  obtain ⟨ok1, ok2, ok3, ok4⟩ := id ok
  refine lv_iload_n hx hb dX0_dropFirst_0 rfl (lv_at hl 1 rfl) ?_
  refine lv_iconst (v := (nI 0)) hx hb dX0_dropFirst_1 (by decide) ?_
  refine va_mmax hx hb (by rw [hml]; exact hl.1.symm) hown ml23 stmax iM comax (Nat.le_of_ble_eq_true rfl) (Nat.le_of_ble_eq_true rfl) (Nat.zero_le _) (Nat.zero_le _) dX0_dropFirst_2 ?_
  refine nv_top (y := (nI (max n 0))) (nI_max (by omega) (by omega)) ?_
  refine lv_aload_n hx hb dX0_dropFirst_5 rfl (lv_at hl 0 rfl) ?_
  refine va_get (D := D) (ci := 0) (v := .int (nI bl.length)) (C := RX0) (T := TX0) (N := 2) hx hb hts inX0_ hown hK hP 0 rfl rfl 1 (by decide) fl15 (fun _ h9 => h9) rfl dX0_dropFirst_6 ?_
  refine va_mmin hx hb (by rw [hml]; exact hl.1.symm) hown ml29 stmin iM comin (Nat.le_of_ble_eq_true rfl) (Nat.le_of_ble_eq_true rfl) (Nat.zero_le _) (Nat.zero_le _) dX0_dropFirst_9 ?_
  refine nv_top (y := (nI (min (max n 0) bl.length))) (nI_min (by omega) (by omega)) ?_
  refine nv_top (y := (nI n)) (by rw [show min (max n 0) bl.length = n by omega]) ?_
  refine lv_istore_n (lv' := [(2, .int (nI n)), (0, .ref h0), (1, .int (nI n))]) hx hb dX0_dropFirst_12 rfl hl (by decide) rfl (fun ls hl => ?_)
  refine lv_aload_n hx hb dX0_dropFirst_13 rfl (lv_at hl 1 rfl) ?_
  refine va_get (D := D) (ci := 0) (v := .ref ca) (C := RX0) (T := TX0) (N := 2) hx hb hts inX0_ hown hK hP 0 rfl rfl 0 (by decide) fl9 (fun _ h9 => h9) rfl dX0_dropFirst_14 ?_
  refine lv_iload_n hx hb dX0_dropFirst_17 rfl (lv_at hl 0 rfl) ?_
  refine lv_aload_n hx hb dX0_dropFirst_18 rfl (lv_at hl 1 rfl) ?_
  refine va_get (D := D) (ci := 0) (v := .ref ca) (C := RX0) (T := TX0) (N := 2) hx hb hts inX0_ hown hK hP 0 rfl rfl 0 (by decide) fl9 (fun _ h9 => h9) rfl dX0_dropFirst_19 ?_
  refine lv_iconst (v := (nI 0)) hx hb dX0_dropFirst_22 (by decide) ?_
  refine lv_aload_n hx hb dX0_dropFirst_23 rfl (lv_at hl 1 rfl) ?_
  refine va_get (D := D) (ci := 0) (v := .int (nI bl.length)) (C := RX0) (T := TX0) (N := 2) hx hb hts inX0_ hown hK hP 0 rfl rfl 1 (by decide) fl15 (fun _ h9 => h9) rfl dX0_dropFirst_24 ?_
  refine lv_iload_n hx hb dX0_dropFirst_27 rfl (lv_at hl 0 rfl) ?_
  refine nv_isub hx hb (by omega) dX0_dropFirst_28 ?_
  refine nv_copy hx hb (by rw [hml]; exact hl.1.symm) hown ml32 nac sac iS hK hP hD hS 1 1 rfl rfl rfl (by omega) (by omega) (by omega) (by omega) (Nat.le_of_ble_eq_true rfl) (Nat.le_of_ble_eq_true rfl) dX0_dropFirst_29 (fun H locs hP hD hS => ?_)
  have hP : va_P D vwCl [(h0, .inr (0, [.ref ca, .int (nI bl.length)])), (ca, .inl (cyI, cap, .inl (va_cpy f f n 0 (bl.length - n))))] H := hP
  have hD : va_D A [(h0, .inr (0, [.ref ca, .int (nI bl.length)])), (ca, .inl (cyI, cap, .inl (va_cpy f f n 0 (bl.length - n))))] := hD
  refine lv_aload_n hx hb dX0_dropFirst_32 rfl (lv_at hl 1 rfl) ?_
  refine lv_dup hx hb dX0_dropFirst_33 rfl ?_
  refine va_get (D := D) (ci := 0) (v := .int (nI bl.length)) (C := RX0) (T := TX0) (N := 2) hx hb hts inX0_ hown hK hP 0 rfl rfl 1 (by decide) fl15 (fun _ h9 => h9) rfl dX0_dropFirst_34 ?_
  refine lv_iload_n hx hb dX0_dropFirst_37 rfl (lv_at hl 0 rfl) ?_
  refine nv_isub hx hb (by omega) dX0_dropFirst_38 ?_
  refine va_put (D := D) (ci := 0) (v := .int (nI (bl.length - n))) (ty := .int) (C := RX0) (T := TX0) (N := 2) hx hb hts inX0_ tyX0 tyX0_ok nmX0 hown hK hP hD hS 0 rfl rfl 1 (by decide) fl15 (fun _ h9 => h9) rfl (by decide +kernel) rfl rfl (Nat.le_of_ble_eq_true rfl) dX0_dropFirst_39 (fun H locs hP hD hS => ?_)
  have hP : va_P D vwCl [(h0, .inr (0, [.ref ca, .int (nI (bl.length - n))])), (ca, .inl (cyI, cap, .inl (va_cpy f f n 0 (bl.length - n))))] H := hP
  have hD : va_D A [(h0, .inr (0, [.ref ca, .int (nI (bl.length - n))])), (ca, .inl (cyI, cap, .inl (va_cpy f f n 0 (bl.length - n))))] := hD
  have ew9 : ([(h0, .inr (0, [.ref ca, .int (nI ((bl.drop n).length))])), (ca, .inl (cyI, cap, .inl (va_cpy f f n 0 (bl.length - n))))] : va_W) = [(h0, .inr (0, [.ref ca, .int (nI (bl.length - n))])), (ca, .inl (cyI, cap, .inl (va_cpy f f n 0 (bl.length - n))))] := by simp
  have hP : va_P D vwCl [(h0, .inr (0, [.ref ca, .int (nI ((bl.drop n).length))])), (ca, .inl (cyI, cap, .inl (va_cpy f f n 0 (bl.length - n))))] H := by rw [ew9]; exact hP
  have hD : va_D A [(h0, .inr (0, [.ref ca, .int (nI ((bl.drop n).length))])), (ca, .inl (cyI, cap, .inl (va_cpy f f n 0 (bl.length - n))))] := by rw [ew9]; exact hD
  exact ret_v hQ hx hb hr hlocks dX0_dropFirst_42 hK hS (va_cpy f f n 0 (bl.length - n)) (okB_drop ok hn) hP hD
theorem c_X0_add_N (l : Launch) (D : va_G) (cyI cyZ : ClassId) (h0 ca cap : Nat) (bl : List Nat) (f : Nat → Int32) (b : Nat) (ok : okB cap bl f) (hlt : bl.length < cap) (hby : b < 256) : Cv l D yX0_add wsX0_add ({ frames := 0, cells := 0, slots := 0, locals := 0 } : Room) [.ref h0, .int (nI b)] [(h0, .inr (0, [.ref ca, .int (nI bl.length)])), (ca, .inl (cyI, cap, .inl f))] (tyL cyI cyZ) (fun f2 : (Nat → Int32) => okB cap (bl ++ [b]) f2) (fun f2 : (Nat → Int32) => [(h0, .inr (0, [.ref ca, .int (nI ((bl ++ [b]).length))])), (ca, .inl (cyI, cap, .inl f2))]) 0 0 := by have h := c_X0_add l D cyI cyZ h0 ca cap bl f (nI b) ok hlt; rw [byte8_b hby] at h; exact h
set_option maxHeartbeats 4000000 in
set_option maxRecDepth 100000 in
theorem c_X0_addValue (l : Launch) (D : va_G) (cyI cyZ : ClassId) (h0 ca cap : Nat) (bl : List Nat) (f : Nat → Int32) (k : Nat) (v : Int32) (ok : okB cap bl f) (hk : k < 2) (hlt : bl.length + (if k = 0 then 1 else 5) ≤ cap) : Cv l D yX0_addValue wsX0_addValue ({ frames := 1, cells := 0, slots := 0, locals := 24 } : Room) [.ref h0, .int (nI k), .int v] [(h0, .inr (0, [.ref ca, .int (nI bl.length)])), (ca, .inl (cyI, cap, .inl f))] (tyL cyI cyZ) (fun f2 : (Nat → Int32) => okB cap (bl ++ valB k v) f2) (fun f2 : (Nat → Int32) => [(h0, .inr (0, [.ref ca, .int (nI ((bl ++ valB k v).length))])), (ca, .inl (cyI, cap, .inl f2))]) 0 0 := by
  refine mk_Ct (cc := cX0_addValue) (maxL := 4) (ret := none) (by decide) rfl rfl ?_
  intro p e s m below meth c A Q ls hx hb hr hts hown hlocks hml hname hA hN hK hP hD hS hQ hl
  have hl : lv_has ls 4 [(0, .ref h0), (1, .int (nI k)), (2, .int v)] := hl
  have hown : s.vm.findClass RX0 = some m.cls := hown
  obtain ⟨H, eH9⟩ : ∃ H, H = s.heap := ⟨_, rfl⟩
  have hP : va_P D vwCl [(h0, .inr (0, [.ref ca, .int (nI bl.length)])), (ca, .inl (cyI, cap, .inl f))] H := by rw [eH9]; exact hP
  have hS : va_S A s.heap H [] := by rw [eH9]; exact hS
  obtain ⟨locs, eL9⟩ : ∃ z : List Loc, z = [] := ⟨_, rfl⟩
  rw [← eH9, ← eL9]
  have hS : va_S A s.heap H locs := by rw [eL9]; exact hS
  obtain ⟨ok1, ok2, ok3, ok4⟩ := id ok
  refine lv_iload_n hx hb dX0_addValue_0 rfl (lv_at hl 1 rfl) ?_
  refine nv_if_ne (tgt := 16) hx hb (by omega) dX0_addValue_1 (by decide) (fun c1 => ?_) (fun c1 => ?_)
  · skip
    have hk5 : bl.length + 5 ≤ cap := by rw [if_neg c1] at hlt; exact hlt
    refine lv_aload_n hx hb dX0_addValue_16 rfl (lv_at hl 0 rfl) ?_
    refine lv_iconst (v := (nI 1)) hx hb dX0_addValue_17 (by decide) ?_
    refine res_v (wW := [(h0, .inr (0, [.ref ca, .int (nI bl.length)])), (ca, .inl (cyI, cap, .inl f))]) (Wc := [(h0, .inr (0, [.ref ca, .int (nI bl.length)])), (ca, .inl (cyI, cap, .inl f))]) (Wr := []) (run_V (QA := fun A => va_Qv _ (bw D _ (tyL cyI cyZ) A) A) (rmC := ({ frames := 0, cells := 0, slots := 0, locals := 0 } : Room)) (mc := 0) (ms := 0) (As := [.int (nI 1)]) (rest := []) (ci := 0) (wW := [(h0, .inr (0, [.ref ca, .int (nI bl.length)])), (ca, .inl (cyI, cap, .inl f))]) (Wc := [(h0, .inr (0, [.ref ca, .int (nI bl.length)])), (ca, .inl (cyI, cap, .inl f))]) ⟨hx, hb, hml, hown, hts⟩ (c_X0_add_N l D cyI cyZ h0 ca cap bl f 1 (by assumption) (by omega) (by omega)) (cwV 1 hts gX0_addValue_X0_add rfl rfl rfl (by decide +kernel) ⟨Nat.le_of_ble_eq_true rfl, Nat.le_of_ble_eq_true rfl⟩) hN hK hP hD [0, 1] rfl (by decide) 0 rfl rfl rfl hl.1 rfl rfl dX0_addValue_18 ⟨Nat.le_of_ble_eq_true rfl, Nat.le_of_ble_eq_true rfl⟩) hP hD hS hA [0, 1] [] rfl rfl (by decide) (by decide) (fun f2_18 H locs w18 hP hD hS => ?_)
    have w18 : okB cap (bl ++ [1]) f2_18 := w18
    have hP : va_P D vwCl [(h0, .inr (0, [.ref ca, .int (nI ((bl ++ [1]).length))])), (ca, .inl (cyI, cap, .inl f2_18))] H := hP
    have hD : va_D A [(h0, .inr (0, [.ref ca, .int (nI ((bl ++ [1]).length))])), (ca, .inl (cyI, cap, .inl f2_18))] := hD
    refine lv_iconst (v := (nI 0)) hx hb dX0_addValue_21 (by decide) ?_
    refine lv_istore_n (lv' := [(3, .int (nI 0)), (0, .ref h0), (1, .int (nI k)), (2, .int v)]) hx hb dX0_addValue_22 rfl hl (by decide) rfl (fun ls hl => ?_)
    have L23 : ∀ (n9 : Nat) (i sh : Nat) (bl1 : List Nat) (f1 : Nat → Int32), (i ≤ 4) → (sh = 8 * i) → (bl1 = bl ++ (1 :: (List.range i).map (sbv v))) → (okB cap bl1 f1) → (4 - i) < n9 → ∀ (H : Heap) (locs : List Loc) (ls : Array Slot), va_P D vwCl [(h0, .inr (0, [.ref ca, .int (nI bl1.length)])), (ca, .inl (cyI, cap, .inl f1))] H → va_D A [(h0, .inr (0, [.ref ca, .int (nI bl1.length)])), (ca, .inl (cyI, cap, .inl f1))] → va_S A s.heap H locs → lv_has ls 4 [(0, .ref h0), (2, .int v), (3, .int (nI sh))] → W p l e ({ frames := 1, cells := 0, slots := 0, locals := 24 } : Room) s m ([.ref h0, .int (nI k), .int v] : List Value).toArray below meth c H locs 0 0 Q (F0 m 23 ls []) := by
      intro n9
      induction n9 with
      | zero =>
        intro i sh bl1 f1 hi hsh hb1 okl hm9
        exact absurd hm9 (Nat.not_lt_zero _)
      | succ n9 ih =>
        intro i sh bl1 f1 hi hsh hb1 okl hm9 H locs ls hP hD hS hl
        have hl1 : bl1.length = bl.length + 1 + i := by rw [hb1]; simp; omega
        refine lv_iload_n hx hb dX0_addValue_23 rfl (lv_at hl 2 rfl) ?_
        refine lv_bipush (v := (nI 32)) hx hb dX0_addValue_24 (by decide) ?_
        refine nv_icmp_ge (tgt := 42) hx hb (by omega) (by omega) dX0_addValue_26 (by decide) (fun c26 => ?_) (fun c26 => ?_)
        · skip
          have ew9 : ([(h0, .inr (0, [.ref ca, .int (nI ((bl ++ valB k v).length))])), (ca, .inl (cyI, cap, .inl f1))] : va_W) = [(h0, .inr (0, [.ref ca, .int (nI bl1.length)])), (ca, .inl (cyI, cap, .inl f1))] := by rw [valB_1 c1, show bl1 = bl ++ (1 :: (List.range 4).map (sbv v)) by rw [hb1, show i = 4 by omega]]
          have hP : va_P D vwCl [(h0, .inr (0, [.ref ca, .int (nI ((bl ++ valB k v).length))])), (ca, .inl (cyI, cap, .inl f1))] H := by rw [ew9]; exact hP
          have hD : va_D A [(h0, .inr (0, [.ref ca, .int (nI ((bl ++ valB k v).length))])), (ca, .inl (cyI, cap, .inl f1))] := by rw [ew9]; exact hD
          exact ret_v hQ hx hb hr hlocks dX0_addValue_42 hK hS f1 (by rw [valB_1 c1]; rw [hb1, show i = 4 by omega] at okl; exact okl) hP hD
        · skip
          refine lv_aload_n hx hb dX0_addValue_29 rfl (lv_at hl 0 rfl) ?_
          refine lv_iload_n hx hb dX0_addValue_30 rfl (lv_at hl 1 rfl) ?_
          refine lv_iload_n hx hb dX0_addValue_31 rfl (lv_at hl 2 rfl) ?_
          refine lv_iushr (v := (v.toUInt32 >>> ((nI sh).toUInt32 &&& Int32.toUInt32 31)).toInt32) hx hb dX0_addValue_32 rfl ?_
          refine res_v (wW := [(h0, .inr (0, [.ref ca, .int (nI bl1.length)])), (ca, .inl (cyI, cap, .inl f1))]) (Wc := [(h0, .inr (0, [.ref ca, .int (nI bl1.length)])), (ca, .inl (cyI, cap, .inl f1))]) (Wr := []) (run_V (QA := fun A => va_Qv _ (bw D _ (tyL cyI cyZ) A) A) (rmC := ({ frames := 0, cells := 0, slots := 0, locals := 0 } : Room)) (mc := 0) (ms := 0) (As := [.int ((v.toUInt32 >>> ((nI sh).toUInt32 &&& Int32.toUInt32 31)).toInt32)]) (rest := []) (ci := 0) (wW := [(h0, .inr (0, [.ref ca, .int (nI bl1.length)])), (ca, .inl (cyI, cap, .inl f1))]) (Wc := [(h0, .inr (0, [.ref ca, .int (nI bl1.length)])), (ca, .inl (cyI, cap, .inl f1))]) ⟨hx, hb, hml, hown, hts⟩ (c_X0_add l D cyI cyZ h0 ca cap bl1 f1 ((v.toUInt32 >>> ((nI sh).toUInt32 &&& Int32.toUInt32 31)).toInt32) (okl) (by omega)) (cwV 1 hts gX0_addValue_X0_add rfl rfl rfl (by decide +kernel) ⟨Nat.le_of_ble_eq_true rfl, Nat.le_of_ble_eq_true rfl⟩) hN hK hP hD [0, 1] rfl (by decide) 0 rfl rfl rfl hl.1 rfl rfl dX0_addValue_33 ⟨Nat.le_of_ble_eq_true rfl, Nat.le_of_ble_eq_true rfl⟩) hP hD hS hA [0, 1] [] rfl rfl (by decide) (by decide) (fun f2_33 H locs w33 hP hD hS => ?_)
          have w33 : okB cap (bl1 ++ [byte8 ((v.toUInt32 >>> ((nI sh).toUInt32 &&& Int32.toUInt32 31)).toInt32)]) f2_33 := w33
          have hP : va_P D vwCl [(h0, .inr (0, [.ref ca, .int (nI ((bl1 ++ [byte8 ((v.toUInt32 >>> ((nI sh).toUInt32 &&& Int32.toUInt32 31)).toInt32)]).length))])), (ca, .inl (cyI, cap, .inl f2_33))] H := hP
          have hD : va_D A [(h0, .inr (0, [.ref ca, .int (nI ((bl1 ++ [byte8 ((v.toUInt32 >>> ((nI sh).toUInt32 &&& Int32.toUInt32 31)).toInt32)]).length))])), (ca, .inl (cyI, cap, .inl f2_33))] := hD
          refine lv_iinc (v := (nI (sh + 8))) (lv' := [(3, .int (nI (sh + 8))), (0, .ref h0), (2, .int v)]) hx hb dX0_addValue_36 hl (k := 2) rfl (nI_add _ _) (by decide) rfl (fun ls hl => ?_)
          refine lv_goto (tgt := 23) hx hb dX0_addValue_39 (by decide) ?_
          exact ih (i + 1) (sh + 8) (bl1 ++ [byte8 ((v.toUInt32 >>> ((nI sh).toUInt32 &&& Int32.toUInt32 31)).toInt32)]) f2_33 (by omega) (by omega) (by rw [sbv_ush hsh (by omega), hb1, List.range_succ]; simp) (w33) (by omega) H locs ls hP hD hS (lv_sub hl [1, 2, 0] rfl)
    exact L23 _ 0 0 (bl ++ [1]) f2_18 (by omega) (by rfl) (by rfl) (w18) (Nat.lt_succ_self _) H locs ls hP hD hS (lv_sub hl [1, 3, 0] rfl)
  · skip
    have hk1 : bl.length + 1 ≤ cap := by rw [if_pos c1] at hlt; exact hlt
    refine lv_aload_n hx hb dX0_addValue_4 rfl (lv_at hl 0 rfl) ?_
    refine lv_iconst (v := (nI 1)) hx hb dX0_addValue_5 (by decide) ?_
    refine lv_sipush (v := (nI 128)) hx hb dX0_addValue_6 (by decide) ?_
    refine lv_iload_n hx hb dX0_addValue_9 rfl (lv_at hl 2 rfl) ?_
    refine lv_imul hx hb dX0_addValue_10 ?_
    refine lv_iadd hx hb dX0_addValue_11 ?_
    refine res_v (wW := [(h0, .inr (0, [.ref ca, .int (nI bl.length)])), (ca, .inl (cyI, cap, .inl f))]) (Wc := [(h0, .inr (0, [.ref ca, .int (nI bl.length)])), (ca, .inl (cyI, cap, .inl f))]) (Wr := []) (run_V (QA := fun A => va_Qv _ (bw D _ (tyL cyI cyZ) A) A) (rmC := ({ frames := 0, cells := 0, slots := 0, locals := 0 } : Room)) (mc := 0) (ms := 0) (As := [.int ((nI 1) + ((nI 128) * v))]) (rest := []) (ci := 0) (wW := [(h0, .inr (0, [.ref ca, .int (nI bl.length)])), (ca, .inl (cyI, cap, .inl f))]) (Wc := [(h0, .inr (0, [.ref ca, .int (nI bl.length)])), (ca, .inl (cyI, cap, .inl f))]) ⟨hx, hb, hml, hown, hts⟩ (c_X0_add l D cyI cyZ h0 ca cap bl f ((nI 1) + ((nI 128) * v)) (by assumption) (by omega)) (cwV 1 hts gX0_addValue_X0_add rfl rfl rfl (by decide +kernel) ⟨Nat.le_of_ble_eq_true rfl, Nat.le_of_ble_eq_true rfl⟩) hN hK hP hD [0, 1] rfl (by decide) 0 rfl rfl rfl hl.1 rfl rfl dX0_addValue_12 ⟨Nat.le_of_ble_eq_true rfl, Nat.le_of_ble_eq_true rfl⟩) hP hD hS hA [0, 1] [] rfl rfl (by decide) (by decide) (fun f2_12 H locs w12 hP hD hS => ?_)
    have w12 : okB cap (bl ++ [byte8 ((nI 1) + ((nI 128) * v))]) f2_12 := w12
    have hP : va_P D vwCl [(h0, .inr (0, [.ref ca, .int (nI ((bl ++ [byte8 ((nI 1) + ((nI 128) * v))]).length))])), (ca, .inl (cyI, cap, .inl f2_12))] H := hP
    have hD : va_D A [(h0, .inr (0, [.ref ca, .int (nI ((bl ++ [byte8 ((nI 1) + ((nI 128) * v))]).length))])), (ca, .inl (cyI, cap, .inl f2_12))] := hD
    have ew9 : ([(h0, .inr (0, [.ref ca, .int (nI ((bl ++ valB k v).length))])), (ca, .inl (cyI, cap, .inl f2_12))] : va_W) = [(h0, .inr (0, [.ref ca, .int (nI ((bl ++ [byte8 ((nI 1) + ((nI 128) * v))]).length))])), (ca, .inl (cyI, cap, .inl f2_12))] := by rw [valB_0 c1]
    have hP : va_P D vwCl [(h0, .inr (0, [.ref ca, .int (nI ((bl ++ valB k v).length))])), (ca, .inl (cyI, cap, .inl f2_12))] H := by rw [ew9]; exact hP
    have hD : va_D A [(h0, .inr (0, [.ref ca, .int (nI ((bl ++ valB k v).length))])), (ca, .inl (cyI, cap, .inl f2_12))] := by rw [ew9]; exact hD
    exact ret_v hQ hx hb hr hlocks dX0_addValue_15 hK hS f2_12 (by rw [valB_0 c1]; exact w12) hP hD
