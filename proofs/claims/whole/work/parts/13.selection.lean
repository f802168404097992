/-! OWN ROWS, written by wip/gen (walk.py, spec_a.py) -/
set_option maxHeartbeats 4000000 in
set_option maxRecDepth 100000 in
theorem c_X8_begin (l : Launch) (D : va_G) (cyI cyZ : ClassId) (h0 : Nat) (th : Bool) (nu ou vl ag : Nat) (nb x v : Nat) : Cv l D yX8_begin wsX8_begin ({ frames := 0, cells := 0, slots := 0, locals := 0 } : Room) [.ref h0, .int (nI nb), .int (nI x), .int (nI v)] [(h0, .inr (8, [.int (bI (th = true)), .int (nI nu), .int (nI ou), .int (nI vl), .int (nI ag)]))] (tyL cyI cyZ) (fun _ : Unit => True) (fun _ : Unit => [(h0, .inr (8, [.int (bI (true = true)), .int (nI nb), .int (nI x), .int (nI v), .int (nI 0)]))]) 0 0 := by
  refine mk_Ct (cc := cX8_begin) (maxL := 4) (ret := none) (by decide) rfl rfl ?_
  intro p e s m below meth c A Q ls hx hb hr hts hown hlocks hml hname hA hN hK hP hD hS hQ hl
  have hl : lv_has ls 4 [(0, .ref h0), (1, .int (nI nb)), (2, .int (nI x)), (3, .int (nI v))] := hl
  have inX8_ : ∀ w ∈ u_ws RX8 TX8 5, w ∈ wsX8_begin := fun w h => List.mem_cons_of_mem _ (List.mem_append_right _ h)
  have fl9 : (Cond.fieldLink RX8 9 "OutStation$Selection" "there" "Z").before ([.ref h0, .int (nI nb), .int (nI x), .int (nI v)] : List Value).toArray s = true := hts _ (by decide +kernel)
  have fl15 : (Cond.fieldLink RX8 15 "OutStation$Selection" "number" "I").before ([.ref h0, .int (nI nb), .int (nI x), .int (nI v)] : List Value).toArray s = true := hts _ (by decide +kernel)
  have fl19 : (Cond.fieldLink RX8 19 "OutStation$Selection" "output" "I").before ([.ref h0, .int (nI nb), .int (nI x), .int (nI v)] : List Value).toArray s = true := hts _ (by decide +kernel)
  have fl22 : (Cond.fieldLink RX8 22 "OutStation$Selection" "value" "I").before ([.ref h0, .int (nI nb), .int (nI x), .int (nI v)] : List Value).toArray s = true := hts _ (by decide +kernel)
  have fl25 : (Cond.fieldLink RX8 25 "OutStation$Selection" "age" "I").before ([.ref h0, .int (nI nb), .int (nI x), .int (nI v)] : List Value).toArray s = true := hts _ (by decide +kernel)
  have hown : s.vm.findClass RX8 = some m.cls := hown
  obtain ⟨H, eH9⟩ : ∃ H, H = s.heap := ⟨_, rfl⟩
  have hP : va_P D vwCl [(h0, .inr (8, [.int (bI (th = true)), .int (nI nu), .int (nI ou), .int (nI vl), .int (nI ag)]))] H := by rw [eH9]; exact hP
  have hS : va_S A s.heap H [] := by rw [eH9]; exact hS
  obtain ⟨locs, eL9⟩ : ∃ z : List Loc, z = [] := ⟨_, rfl⟩
  rw [← eH9, ← eL9]
  have hS : va_S A s.heap H locs := by rw [eL9]; exact hS
  refine lv_aload_n hx hb dX8_begin_0 rfl (lv_at hl 0 rfl) ?_
  refine lv_iconst (v := (nI 1)) hx hb dX8_begin_1 (by decide) ?_
  refine va_put (D := D) (ci := 8) (v := .int (nI 1)) (ty := .boolean) (C := RX8) (T := TX8) (N := 5) hx hb hts inX8_ tyX8 tyX8_ok nmX8 hown hK hP hD hS 0 rfl rfl 0 (by decide) fl9 (fun _ h9 => h9) rfl (by decide +kernel) rfl rfl (Nat.le_of_ble_eq_true rfl) dX8_begin_2 (fun H locs hP hD hS => ?_)
  have hP : va_P D vwCl [(h0, .inr (8, [.int (nI 1), .int (nI nu), .int (nI ou), .int (nI vl), .int (nI ag)]))] H := hP
  have hD : va_D A [(h0, .inr (8, [.int (nI 1), .int (nI nu), .int (nI ou), .int (nI vl), .int (nI ag)]))] := hD
  refine lv_aload_n hx hb dX8_begin_5 rfl (lv_at hl 0 rfl) ?_
  refine lv_iload_n hx hb dX8_begin_6 rfl (lv_at hl 1 rfl) ?_
  refine va_put (D := D) (ci := 8) (v := .int (nI nb)) (ty := .int) (C := RX8) (T := TX8) (N := 5) hx hb hts inX8_ tyX8 tyX8_ok nmX8 hown hK hP hD hS 0 rfl rfl 1 (by decide) fl15 (fun _ h9 => h9) rfl (by decide +kernel) rfl rfl (Nat.le_of_ble_eq_true rfl) dX8_begin_7 (fun H locs hP hD hS => ?_)
  have hP : va_P D vwCl [(h0, .inr (8, [.int (nI 1), .int (nI nb), .int (nI ou), .int (nI vl), .int (nI ag)]))] H := hP
  have hD : va_D A [(h0, .inr (8, [.int (nI 1), .int (nI nb), .int (nI ou), .int (nI vl), .int (nI ag)]))] := hD
  refine lv_aload_n hx hb dX8_begin_10 rfl (lv_at hl 0 rfl) ?_
  refine lv_iload_n hx hb dX8_begin_11 rfl (lv_at hl 2 rfl) ?_
  refine va_put (D := D) (ci := 8) (v := .int (nI x)) (ty := .int) (C := RX8) (T := TX8) (N := 5) hx hb hts inX8_ tyX8 tyX8_ok nmX8 hown hK hP hD hS 0 rfl rfl 2 (by decide) fl19 (fun _ h9 => h9) rfl (by decide +kernel) rfl rfl (Nat.le_of_ble_eq_true rfl) dX8_begin_12 (fun H locs hP hD hS => ?_)
  have hP : va_P D vwCl [(h0, .inr (8, [.int (nI 1), .int (nI nb), .int (nI x), .int (nI vl), .int (nI ag)]))] H := hP
  have hD : va_D A [(h0, .inr (8, [.int (nI 1), .int (nI nb), .int (nI x), .int (nI vl), .int (nI ag)]))] := hD
  refine lv_aload_n hx hb dX8_begin_15 rfl (lv_at hl 0 rfl) ?_
  refine lv_iload_n hx hb dX8_begin_16 rfl (lv_at hl 3 rfl) ?_
  refine va_put (D := D) (ci := 8) (v := .int (nI v)) (ty := .int) (C := RX8) (T := TX8) (N := 5) hx hb hts inX8_ tyX8 tyX8_ok nmX8 hown hK hP hD hS 0 rfl rfl 3 (by decide) fl22 (fun _ h9 => h9) rfl (by decide +kernel) rfl rfl (Nat.le_of_ble_eq_true rfl) dX8_begin_17 (fun H locs hP hD hS => ?_)
  have hP : va_P D vwCl [(h0, .inr (8, [.int (nI 1), .int (nI nb), .int (nI x), .int (nI v), .int (nI ag)]))] H := hP
  have hD : va_D A [(h0, .inr (8, [.int (nI 1), .int (nI nb), .int (nI x), .int (nI v), .int (nI ag)]))] := hD
  refine lv_aload_n hx hb dX8_begin_20 rfl (lv_at hl 0 rfl) ?_
  refine lv_iconst (v := (nI 0)) hx hb dX8_begin_21 (by decide) ?_
  refine va_put (D := D) (ci := 8) (v := .int (nI 0)) (ty := .int) (C := RX8) (T := TX8) (N := 5) hx hb hts inX8_ tyX8 tyX8_ok nmX8 hown hK hP hD hS 0 rfl rfl 4 (by decide) fl25 (fun _ h9 => h9) rfl (by decide +kernel) rfl rfl (Nat.le_of_ble_eq_true rfl) dX8_begin_22 (fun H locs hP hD hS => ?_)
  have hP : va_P D vwCl [(h0, .inr (8, [.int (nI 1), .int (nI nb), .int (nI x), .int (nI v), .int (nI 0)]))] H := hP
  have hD : va_D A [(h0, .inr (8, [.int (nI 1), .int (nI nb), .int (nI x), .int (nI v), .int (nI 0)]))] := hD
  have ew9 : ([(h0, .inr (8, [.int (bI (true = true)), .int (nI nb), .int (nI x), .int (nI v), .int (nI 0)]))] : va_W) = [(h0, .inr (8, [.int (nI 1), .int (nI nb), .int (nI x), .int (nI v), .int (nI 0)]))] := by rfl
  have hP : va_P D vwCl [(h0, .inr (8, [.int (bI (true = true)), .int (nI nb), .int (nI x), .int (nI v), .int (nI 0)]))] H := by rw [ew9]; exact hP
  have hD : va_D A [(h0, .inr (8, [.int (bI (true = true)), .int (nI nb), .int (nI x), .int (nI v), .int (nI 0)]))] := by rw [ew9]; exact hD
  exact ret_v hQ hx hb hr hlocks dX8_begin_25 hK hS () (trivial) hP hD
set_option maxHeartbeats 4000000 in
set_option maxRecDepth 100000 in
theorem c_X8_end (l : Launch) (D : va_G) (cyI cyZ : ClassId) (h0 : Nat) (th : Bool) (nu ou vl ag : Nat) : Cv l D yX8_end wsX8_end ({ frames := 0, cells := 0, slots := 0, locals := 0 } : Room) [.ref h0] [(h0, .inr (8, [.int (bI (th = true)), .int (nI nu), .int (nI ou), .int (nI vl), .int (nI ag)]))] (tyL cyI cyZ) (fun _ : Unit => True) (fun _ : Unit => [(h0, .inr (8, [.int (bI (false = true)), .int (nI nu), .int (nI ou), .int (nI vl), .int (nI ag)]))]) 0 0 := by
  refine mk_Ct (cc := cX8_end) (maxL := 1) (ret := none) (by decide) rfl rfl ?_
  intro p e s m below meth c A Q ls hx hb hr hts hown hlocks hml hname hA hN hK hP hD hS hQ hl
  have hl : lv_has ls 1 [(0, .ref h0)] := hl
  have inX8_ : ∀ w ∈ u_ws RX8 TX8 5, w ∈ wsX8_end := fun w h => List.mem_cons_of_mem _ (List.mem_append_right _ h)
  have fl9 : (Cond.fieldLink RX8 9 "OutStation$Selection" "there" "Z").before ([.ref h0] : List Value).toArray s = true := hts _ (by decide +kernel)
  have hown : s.vm.findClass RX8 = some m.cls := hown
  obtain ⟨H, eH9⟩ : ∃ H, H = s.heap := ⟨_, rfl⟩
  have hP : va_P D vwCl [(h0, .inr (8, [.int (bI (th = true)), .int (nI nu), .int (nI ou), .int (nI vl), .int (nI ag)]))] H := by rw [eH9]; exact hP
  have hS : va_S A s.heap H [] := by rw [eH9]; exact hS
  obtain ⟨locs, eL9⟩ : ∃ z : List Loc, z = [] := ⟨_, rfl⟩
  rw [← eH9, ← eL9]
  have hS : va_S A s.heap H locs := by rw [eL9]; exact hS
  refine lv_aload_n hx hb dX8_end_0 rfl (lv_at hl 0 rfl) ?_
  refine lv_iconst (v := (nI 0)) hx hb dX8_end_1 (by decide) ?_
  refine va_put (D := D) (ci := 8) (v := .int (nI 0)) (ty := .boolean) (C := RX8) (T := TX8) (N := 5) hx hb hts inX8_ tyX8 tyX8_ok nmX8 hown hK hP hD hS 0 rfl rfl 0 (by decide) fl9 (fun _ h9 => h9) rfl (by decide +kernel) rfl rfl (Nat.le_of_ble_eq_true rfl) dX8_end_2 (fun H locs hP hD hS => ?_)
  have hP : va_P D vwCl [(h0, .inr (8, [.int (nI 0), .int (nI nu), .int (nI ou), .int (nI vl), .int (nI ag)]))] H := hP
  have hD : va_D A [(h0, .inr (8, [.int (nI 0), .int (nI nu), .int (nI ou), .int (nI vl), .int (nI ag)]))] := hD
  have ew9 : ([(h0, .inr (8, [.int (bI (false = true)), .int (nI nu), .int (nI ou), .int (nI vl), .int (nI ag)]))] : va_W) = [(h0, .inr (8, [.int (nI 0), .int (nI nu), .int (nI ou), .int (nI vl), .int (nI ag)]))] := by rfl
  have hP : va_P D vwCl [(h0, .inr (8, [.int (bI (false = true)), .int (nI nu), .int (nI ou), .int (nI vl), .int (nI ag)]))] H := by rw [ew9]; exact hP
  have hD : va_D A [(h0, .inr (8, [.int (bI (false = true)), .int (nI nu), .int (nI ou), .int (nI vl), .int (nI ag)]))] := by rw [ew9]; exact hD
  exact ret_v hQ hx hb hr hlocks dX8_end_5 hK hS () (trivial) hP hD
set_option maxHeartbeats 4000000 in
set_option maxRecDepth 100000 in
theorem c_X8_letPass (l : Launch) (D : va_G) (cyI cyZ : ClassId) (h0 : Nat) (th : Bool) (nu ou vl ag : Nat) (t : Nat) (hag : ag < 1000) (ht : t < 1000) : Cv l D yX8_letPass wsX8_letPass ({ frames := 1, cells := 0, slots := 0, locals := 30 } : Room) [.ref h0, .int (nI t)] [(h0, .inr (8, [.int (bI (th = true)), .int (nI nu), .int (nI ou), .int (nI vl), .int (nI ag)]))] (tyL cyI cyZ) (fun _ : Unit => True) (fun _ : Unit => [(h0, .inr (8, [.int (bI (th = true)), .int (nI nu), .int (nI ou), .int (nI vl), .int (nI (min (ag + t) 11))]))]) 0 0 := by
  refine mk_Ct (cc := cX8_letPass) (maxL := 2) (ret := none) (by decide) rfl rfl ?_
  intro p e s m below meth c A Q ls hx hb hr hts hown hlocks hml hname hA hN hK hP hD hS hQ hl
  have hl : lv_has ls 2 [(0, .ref h0), (1, .int (nI t))] := hl
  have inX8_ : ∀ w ∈ u_ws RX8 TX8 5, w ∈ wsX8_letPass := fun w h => List.mem_cons_of_mem _ (List.mem_append_right _ h)
  have fl25 : (Cond.fieldLink RX8 25 "OutStation$Selection" "age" "I").before ([.ref h0, .int (nI t)] : List Value).toArray s = true := hts _ (by decide +kernel)
  have ml28 : (Cond.methodLink RX8 28 Lib.Math.min.name).before ([.ref h0, .int (nI t)] : List Value).toArray s = true := hts _ (by decide +kernel)
  have stmin : (Cond.static Lib.Math.min.name).before ([.ref h0, .int (nI t)] : List Value).toArray s = true := hts _ (by decide +kernel)
  have iM : (Cond.initialized "java/lang/Math").before ([.ref h0, .int (nI t)] : List Value).toArray s = true := hts _ (by decide +kernel)
  have comin : (Cond.code Lib.Math.min.name Lib.Math.min.code 2 (some .int)).before ([.ref h0, .int (nI t)] : List Value).toArray s = true := hts _ (by decide +kernel)
  have hown : s.vm.findClass RX8 = some m.cls := hown
  obtain ⟨H, eH9⟩ : ∃ H, H = s.heap := ⟨_, rfl⟩
  have hP : va_P D vwCl [(h0, .inr (8, [.int (bI (th = true)), .int (nI nu), .int (nI ou), .int (nI vl), .int (nI ag)]))] H := by rw [eH9]; exact hP
  have hS : va_S A s.heap H [] := by rw [eH9]; exact hS
  obtain ⟨locs, eL9⟩ : ∃ z : List Loc, z = [] := ⟨_, rfl⟩
  rw [← eH9, ← eL9]
  have hS : va_S A s.heap H locs := by rw [eL9]; exact hS
  refine lv_aload_n hx hb dX8_letPass_0 rfl (lv_at hl 0 rfl) ?_
  refine lv_aload_n hx hb dX8_letPass_1 rfl (lv_at hl 0 rfl) ?_
  refine va_get (D := D) (ci := 8) (v := .int (nI ag)) (C := RX8) (T := TX8) (N := 5) hx hb hts inX8_ hown hK hP 0 rfl rfl 4 (by decide) fl25 (fun _ h9 => h9) rfl dX8_letPass_2 ?_
  refine lv_iload_n hx hb dX8_letPass_5 rfl (lv_at hl 1 rfl) ?_
  refine nv_iadd hx hb dX8_letPass_6 ?_
  refine lv_bipush (v := (nI 11)) hx hb dX8_letPass_7 (by decide) ?_
  refine va_mmin hx hb (by rw [hml]; exact hl.1.symm) hown ml28 stmin iM comin (Nat.le_of_ble_eq_true rfl) (Nat.le_of_ble_eq_true rfl) (Nat.zero_le _) (Nat.zero_le _) dX8_letPass_9 ?_
  refine nv_top (y := (nI (min (ag + t) 11))) (nI_min (by omega) (by omega)) ?_
  refine va_put (D := D) (ci := 8) (v := .int (nI (min (ag + t) 11))) (ty := .int) (C := RX8) (T := TX8) (N := 5) hx hb hts inX8_ tyX8 tyX8_ok nmX8 hown hK hP hD hS 0 rfl rfl 4 (by decide) fl25 (fun _ h9 => h9) rfl (by decide +kernel) rfl rfl (Nat.le_of_ble_eq_true rfl) dX8_letPass_12 (fun H locs hP hD hS => ?_)
  have hP : va_P D vwCl [(h0, .inr (8, [.int (bI (th = true)), .int (nI nu), .int (nI ou), .int (nI vl), .int (nI (min (ag + t) 11))]))] H := hP
  have hD : va_D A [(h0, .inr (8, [.int (bI (th = true)), .int (nI nu), .int (nI ou), .int (nI vl), .int (nI (min (ag + t) 11))]))] := hD
  exact ret_v hQ hx hb hr hlocks dX8_letPass_15 hK hS () (trivial) hP hD
set_option maxHeartbeats 4000000 in
set_option maxRecDepth 100000 in
theorem c_X8_statusOf (l : Launch) (D : va_G) (cyI cyZ : ClassId) (h0 : Nat) (th : Bool) (nu ou vl ag : Nat) (fn nb x v : Nat) (hb1 : fn < 65536) (hb2 : nb < 65536) (hb3 : x < 65536) (hb4 : v < 65536) (hb5 : nu < 65536) (hb6 : ou < 65536) (hb7 : vl < 65536) (hb8 : ag < 65536) : Ci l D yX8_statusOf wsX8_statusOf ({ frames := 0, cells := 0, slots := 0, locals := 0 } : Room) [.ref h0, .int (nI fn), .int (nI nb), .int (nI x), .int (nI v)] [(h0, .inr (8, [.int (bI (th = true)), .int (nI nu), .int (nI ou), .int (nI vl), .int (nI ag)]))] (tyL cyI cyZ) (fun (r : Int32) (_ : Unit) => r = nI (stSel th nu ou vl ag fn nb x v)) (fun _ : Unit => [(h0, .inr (8, [.int (bI (th = true)), .int (nI nu), .int (nI ou), .int (nI vl), .int (nI ag)]))]) 0 0 := by
  refine mk_Ct (cc := cX8_statusOf) (maxL := 5) (ret := (some .int)) (by decide) rfl rfl ?_
  intro p e s m below meth c A Q ls hx hb hr hts hown hlocks hml hname hA hN hK hP hD hS hQ hl
  have hl : lv_has ls 5 [(0, .ref h0), (1, .int (nI fn)), (2, .int (nI nb)), (3, .int (nI x)), (4, .int (nI v))] := hl
  have inX8_ : ∀ w ∈ u_ws RX8 TX8 5, w ∈ wsX8_statusOf := fun w h => List.mem_cons_of_mem _ (List.mem_append_right _ h)
  have fl9 : (Cond.fieldLink RX8 9 "OutStation$Selection" "there" "Z").before ([.ref h0, .int (nI fn), .int (nI nb), .int (nI x), .int (nI v)] : List Value).toArray s = true := hts _ (by decide +kernel)
  have fl19 : (Cond.fieldLink RX8 19 "OutStation$Selection" "output" "I").before ([.ref h0, .int (nI fn), .int (nI nb), .int (nI x), .int (nI v)] : List Value).toArray s = true := hts _ (by decide +kernel)
  have fl22 : (Cond.fieldLink RX8 22 "OutStation$Selection" "value" "I").before ([.ref h0, .int (nI fn), .int (nI nb), .int (nI x), .int (nI v)] : List Value).toArray s = true := hts _ (by decide +kernel)
  have fl15 : (Cond.fieldLink RX8 15 "OutStation$Selection" "number" "I").before ([.ref h0, .int (nI fn), .int (nI nb), .int (nI x), .int (nI v)] : List Value).toArray s = true := hts _ (by decide +kernel)
  have fl25 : (Cond.fieldLink RX8 25 "OutStation$Selection" "age" "I").before ([.ref h0, .int (nI fn), .int (nI nb), .int (nI x), .int (nI v)] : List Value).toArray s = true := hts _ (by decide +kernel)
  have hown : s.vm.findClass RX8 = some m.cls := hown
  obtain ⟨H, eH9⟩ : ∃ H, H = s.heap := ⟨_, rfl⟩
  have hP : va_P D vwCl [(h0, .inr (8, [.int (bI (th = true)), .int (nI nu), .int (nI ou), .int (nI vl), .int (nI ag)]))] H := by rw [eH9]; exact hP
  have hS : va_S A s.heap H [] := by rw [eH9]; exact hS
  obtain ⟨locs, eL9⟩ : ∃ z : List Loc, z = [] := ⟨_, rfl⟩
  rw [← eH9, ← eL9]
  have hS : va_S A s.heap H locs := by rw [eL9]; exact hS
  refine lv_iload_n hx hb dX8_statusOf_0 rfl (lv_at hl 3 rfl) ?_
  refine lv_iconst (v := (nI 4)) hx hb dX8_statusOf_1 (by decide) ?_
  refine nv_icmp_lt (tgt := 7) hx hb (by omega) (by omega) dX8_statusOf_2 (by decide) (fun c2 => ?_) (fun c2 => ?_)
  · skip
    refine lv_iload hx hb dX8_statusOf_7 (lv_at hl 4 rfl) ?_
    refine lv_iconst (v := (nI 3)) hx hb dX8_statusOf_9 (by decide) ?_
    refine nv_icmp_eq (tgt := 21) hx hb (by omega) (by omega) dX8_statusOf_10 (by decide) (fun c10 => ?_) (fun c10 => ?_)
    · skip
      refine lv_iload_n hx hb dX8_statusOf_21 rfl (lv_at hl 1 rfl) ?_
      refine lv_iconst (v := (nI 4)) hx hb dX8_statusOf_22 (by decide) ?_
      refine nv_icmp_eq (tgt := 28) hx hb (by omega) (by omega) dX8_statusOf_23 (by decide) (fun c23 => ?_) (fun c23 => ?_)
      · skip
        refine lv_aload_n hx hb dX8_statusOf_28 rfl (lv_at hl 0 rfl) ?_
        refine va_get (D := D) (ci := 8) (v := .int (bI (th = true))) (C := RX8) (T := TX8) (N := 5) hx hb hts inX8_ hown hK hP 0 rfl rfl 0 (by decide) fl9 (fun _ h9 => h9) rfl dX8_statusOf_29 ?_
        refine bv_if_eq (tgt := 65) hx hb dX8_statusOf_32 (by decide) (fun c32 => ?_) (fun c32 => ?_)
        · skip
          refine lv_iconst (v := (nI 2)) hx hb dX8_statusOf_65 (by decide) ?_
          exact ret_i hQ hx hb hr hlocks dX8_statusOf_66 hK hS () (congrArg nI (by rcases th with _ | _ <;> simp only [stSel] <;> (repeat' split) <;> first | rfl | omega | (exfalso; simp_all; done) | (exfalso; simp_all; omega))) hP hD
        · skip
          refine lv_aload_n hx hb dX8_statusOf_35 rfl (lv_at hl 0 rfl) ?_
          refine va_get (D := D) (ci := 8) (v := .int (nI ou)) (C := RX8) (T := TX8) (N := 5) hx hb hts inX8_ hown hK hP 0 rfl rfl 2 (by decide) fl19 (fun _ h9 => h9) rfl dX8_statusOf_36 ?_
          refine lv_iload_n hx hb dX8_statusOf_39 rfl (lv_at hl 3 rfl) ?_
          refine nv_icmp_ne (tgt := 65) hx hb (by omega) (by omega) dX8_statusOf_40 (by decide) (fun c40 => ?_) (fun c40 => ?_)
          · skip
            refine lv_iconst (v := (nI 2)) hx hb dX8_statusOf_65 (by decide) ?_
            exact ret_i hQ hx hb hr hlocks dX8_statusOf_66 hK hS () (congrArg nI (by rcases th with _ | _ <;> simp only [stSel] <;> (repeat' split) <;> first | rfl | omega | (exfalso; simp_all; done) | (exfalso; simp_all; omega))) hP hD
          · skip
            refine lv_aload_n hx hb dX8_statusOf_43 rfl (lv_at hl 0 rfl) ?_
            refine va_get (D := D) (ci := 8) (v := .int (nI vl)) (C := RX8) (T := TX8) (N := 5) hx hb hts inX8_ hown hK hP 0 rfl rfl 3 (by decide) fl22 (fun _ h9 => h9) rfl dX8_statusOf_44 ?_
            refine lv_iload hx hb dX8_statusOf_47 (lv_at hl 4 rfl) ?_
            refine nv_icmp_ne (tgt := 65) hx hb (by omega) (by omega) dX8_statusOf_49 (by decide) (fun c49 => ?_) (fun c49 => ?_)
            · skip
              refine lv_iconst (v := (nI 2)) hx hb dX8_statusOf_65 (by decide) ?_
              exact ret_i hQ hx hb hr hlocks dX8_statusOf_66 hK hS () (congrArg nI (by rcases th with _ | _ <;> simp only [stSel] <;> (repeat' split) <;> first | rfl | omega | (exfalso; simp_all; done) | (exfalso; simp_all; omega))) hP hD
            · skip
              refine lv_aload_n hx hb dX8_statusOf_52 rfl (lv_at hl 0 rfl) ?_
              refine va_get (D := D) (ci := 8) (v := .int (nI nu)) (C := RX8) (T := TX8) (N := 5) hx hb hts inX8_ hown hK hP 0 rfl rfl 1 (by decide) fl15 (fun _ h9 => h9) rfl dX8_statusOf_53 ?_
              refine lv_iconst (v := (nI 1)) hx hb dX8_statusOf_56 (by decide) ?_
              refine nv_iadd hx hb dX8_statusOf_57 ?_
              refine lv_bipush (v := (nI 16)) hx hb dX8_statusOf_58 (by decide) ?_
              refine nv_irem hx hb (by omega) (by omega) (by omega) dX8_statusOf_60 ?_
              refine lv_iload_n hx hb dX8_statusOf_61 rfl (lv_at hl 2 rfl) ?_
              refine nv_icmp_eq (tgt := 67) hx hb (by omega) (by omega) dX8_statusOf_62 (by decide) (fun c62 => ?_) (fun c62 => ?_)
              · skip
                refine lv_aload_n hx hb dX8_statusOf_67 rfl (lv_at hl 0 rfl) ?_
                refine va_get (D := D) (ci := 8) (v := .int (nI ag)) (C := RX8) (T := TX8) (N := 5) hx hb hts inX8_ hown hK hP 0 rfl rfl 4 (by decide) fl25 (fun _ h9 => h9) rfl dX8_statusOf_68 ?_
                refine lv_bipush (v := (nI 10)) hx hb dX8_statusOf_71 (by decide) ?_
                refine nv_icmp_le (tgt := 80) hx hb (by omega) (by omega) dX8_statusOf_73 (by decide) (fun c73 => ?_) (fun c73 => ?_)
                · skip
                  refine lv_iconst (v := (nI 0)) hx hb dX8_statusOf_80 (by decide) ?_
                  exact ret_i hQ hx hb hr hlocks dX8_statusOf_81 hK hS () (congrArg nI (by rcases th with _ | _ <;> simp only [stSel] <;> (repeat' split) <;> first | rfl | omega | (exfalso; simp_all; done) | (exfalso; simp_all; omega))) hP hD
                · skip
                  refine lv_iconst (v := (nI 1)) hx hb dX8_statusOf_76 (by decide) ?_
                  refine lv_goto (tgt := 81) hx hb dX8_statusOf_77 (by decide) ?_
                  exact ret_i hQ hx hb hr hlocks dX8_statusOf_81 hK hS () (congrArg nI (by rcases th with _ | _ <;> simp only [stSel] <;> (repeat' split) <;> first | rfl | omega | (exfalso; simp_all; done) | (exfalso; simp_all; omega))) hP hD
              · skip
                refine lv_iconst (v := (nI 2)) hx hb dX8_statusOf_65 (by decide) ?_
                exact ret_i hQ hx hb hr hlocks dX8_statusOf_66 hK hS () (congrArg nI (by rcases th with _ | _ <;> simp only [stSel] <;> (repeat' split) <;> first | rfl | omega | (exfalso; simp_all; done) | (exfalso; simp_all; omega))) hP hD
      · skip
        refine lv_iconst (v := (nI 0)) hx hb dX8_statusOf_26 (by decide) ?_
        exact ret_i hQ hx hb hr hlocks dX8_statusOf_27 hK hS () (congrArg nI (by rcases th with _ | _ <;> simp only [stSel] <;> (repeat' split) <;> first | rfl | omega | (exfalso; simp_all; done) | (exfalso; simp_all; omega))) hP hD
    · skip
      refine lv_iload hx hb dX8_statusOf_13 (lv_at hl 4 rfl) ?_
      refine lv_iconst (v := (nI 4)) hx hb dX8_statusOf_15 (by decide) ?_
      refine nv_icmp_eq (tgt := 21) hx hb (by omega) (by omega) dX8_statusOf_16 (by decide) (fun c16 => ?_) (fun c16 => ?_)
      · skip
        refine lv_iload_n hx hb dX8_statusOf_21 rfl (lv_at hl 1 rfl) ?_
        refine lv_iconst (v := (nI 4)) hx hb dX8_statusOf_22 (by decide) ?_
        refine nv_icmp_eq (tgt := 28) hx hb (by omega) (by omega) dX8_statusOf_23 (by decide) (fun c23 => ?_) (fun c23 => ?_)
        · skip
          refine lv_aload_n hx hb dX8_statusOf_28 rfl (lv_at hl 0 rfl) ?_
          refine va_get (D := D) (ci := 8) (v := .int (bI (th = true))) (C := RX8) (T := TX8) (N := 5) hx hb hts inX8_ hown hK hP 0 rfl rfl 0 (by decide) fl9 (fun _ h9 => h9) rfl dX8_statusOf_29 ?_
          refine bv_if_eq (tgt := 65) hx hb dX8_statusOf_32 (by decide) (fun c32 => ?_) (fun c32 => ?_)
          · skip
            refine lv_iconst (v := (nI 2)) hx hb dX8_statusOf_65 (by decide) ?_
            exact ret_i hQ hx hb hr hlocks dX8_statusOf_66 hK hS () (congrArg nI (by rcases th with _ | _ <;> simp only [stSel] <;> (repeat' split) <;> first | rfl | omega | (exfalso; simp_all; done) | (exfalso; simp_all; omega))) hP hD
          · skip
            refine lv_aload_n hx hb dX8_statusOf_35 rfl (lv_at hl 0 rfl) ?_
            refine va_get (D := D) (ci := 8) (v := .int (nI ou)) (C := RX8) (T := TX8) (N := 5) hx hb hts inX8_ hown hK hP 0 rfl rfl 2 (by decide) fl19 (fun _ h9 => h9) rfl dX8_statusOf_36 ?_
            refine lv_iload_n hx hb dX8_statusOf_39 rfl (lv_at hl 3 rfl) ?_
            refine nv_icmp_ne (tgt := 65) hx hb (by omega) (by omega) dX8_statusOf_40 (by decide) (fun c40 => ?_) (fun c40 => ?_)
            · skip
              refine lv_iconst (v := (nI 2)) hx hb dX8_statusOf_65 (by decide) ?_
              exact ret_i hQ hx hb hr hlocks dX8_statusOf_66 hK hS () (congrArg nI (by rcases th with _ | _ <;> simp only [stSel] <;> (repeat' split) <;> first | rfl | omega | (exfalso; simp_all; done) | (exfalso; simp_all; omega))) hP hD
            · skip
              refine lv_aload_n hx hb dX8_statusOf_43 rfl (lv_at hl 0 rfl) ?_
              refine va_get (D := D) (ci := 8) (v := .int (nI vl)) (C := RX8) (T := TX8) (N := 5) hx hb hts inX8_ hown hK hP 0 rfl rfl 3 (by decide) fl22 (fun _ h9 => h9) rfl dX8_statusOf_44 ?_
              refine lv_iload hx hb dX8_statusOf_47 (lv_at hl 4 rfl) ?_
              refine nv_icmp_ne (tgt := 65) hx hb (by omega) (by omega) dX8_statusOf_49 (by decide) (fun c49 => ?_) (fun c49 => ?_)
              · skip
                refine lv_iconst (v := (nI 2)) hx hb dX8_statusOf_65 (by decide) ?_
                exact ret_i hQ hx hb hr hlocks dX8_statusOf_66 hK hS () (congrArg nI (by rcases th with _ | _ <;> simp only [stSel] <;> (repeat' split) <;> first | rfl | omega | (exfalso; simp_all; done) | (exfalso; simp_all; omega))) hP hD
              · skip
                refine lv_aload_n hx hb dX8_statusOf_52 rfl (lv_at hl 0 rfl) ?_
                refine va_get (D := D) (ci := 8) (v := .int (nI nu)) (C := RX8) (T := TX8) (N := 5) hx hb hts inX8_ hown hK hP 0 rfl rfl 1 (by decide) fl15 (fun _ h9 => h9) rfl dX8_statusOf_53 ?_
                refine lv_iconst (v := (nI 1)) hx hb dX8_statusOf_56 (by decide) ?_
                refine nv_iadd hx hb dX8_statusOf_57 ?_
                refine lv_bipush (v := (nI 16)) hx hb dX8_statusOf_58 (by decide) ?_
                refine nv_irem hx hb (by omega) (by omega) (by omega) dX8_statusOf_60 ?_
                refine lv_iload_n hx hb dX8_statusOf_61 rfl (lv_at hl 2 rfl) ?_
                refine nv_icmp_eq (tgt := 67) hx hb (by omega) (by omega) dX8_statusOf_62 (by decide) (fun c62 => ?_) (fun c62 => ?_)
                · skip
                  refine lv_aload_n hx hb dX8_statusOf_67 rfl (lv_at hl 0 rfl) ?_
                  refine va_get (D := D) (ci := 8) (v := .int (nI ag)) (C := RX8) (T := TX8) (N := 5) hx hb hts inX8_ hown hK hP 0 rfl rfl 4 (by decide) fl25 (fun _ h9 => h9) rfl dX8_statusOf_68 ?_
                  refine lv_bipush (v := (nI 10)) hx hb dX8_statusOf_71 (by decide) ?_
                  refine nv_icmp_le (tgt := 80) hx hb (by omega) (by omega) dX8_statusOf_73 (by decide) (fun c73 => ?_) (fun c73 => ?_)
                  · skip
                    refine lv_iconst (v := (nI 0)) hx hb dX8_statusOf_80 (by decide) ?_
                    exact ret_i hQ hx hb hr hlocks dX8_statusOf_81 hK hS () (congrArg nI (by rcases th with _ | _ <;> simp only [stSel] <;> (repeat' split) <;> first | rfl | omega | (exfalso; simp_all; done) | (exfalso; simp_all; omega))) hP hD
                  · skip
                    refine lv_iconst (v := (nI 1)) hx hb dX8_statusOf_76 (by decide) ?_
                    refine lv_goto (tgt := 81) hx hb dX8_statusOf_77 (by decide) ?_
                    exact ret_i hQ hx hb hr hlocks dX8_statusOf_81 hK hS () (congrArg nI (by rcases th with _ | _ <;> simp only [stSel] <;> (repeat' split) <;> first | rfl | omega | (exfalso; simp_all; done) | (exfalso; simp_all; omega))) hP hD
                · skip
                  refine lv_iconst (v := (nI 2)) hx hb dX8_statusOf_65 (by decide) ?_
                  exact ret_i hQ hx hb hr hlocks dX8_statusOf_66 hK hS () (congrArg nI (by rcases th with _ | _ <;> simp only [stSel] <;> (repeat' split) <;> first | rfl | omega | (exfalso; simp_all; done) | (exfalso; simp_all; omega))) hP hD
        · skip
          refine lv_iconst (v := (nI 0)) hx hb dX8_statusOf_26 (by decide) ?_
          exact ret_i hQ hx hb hr hlocks dX8_statusOf_27 hK hS () (congrArg nI (by rcases th with _ | _ <;> simp only [stSel] <;> (repeat' split) <;> first | rfl | omega | (exfalso; simp_all; done) | (exfalso; simp_all; omega))) hP hD
      · skip
        refine lv_iconst (v := (nI 3)) hx hb dX8_statusOf_19 (by decide) ?_
        exact ret_i hQ hx hb hr hlocks dX8_statusOf_20 hK hS () (congrArg nI (by rcases th with _ | _ <;> simp only [stSel] <;> (repeat' split) <;> first | rfl | omega | (exfalso; simp_all; done) | (exfalso; simp_all; omega))) hP hD
  · skip
    refine lv_iconst (v := (nI 4)) hx hb dX8_statusOf_5 (by decide) ?_
    exact ret_i hQ hx hb hr hlocks dX8_statusOf_6 hK hS () (congrArg nI (by rcases th with _ | _ <;> simp only [stSel] <;> (repeat' split) <;> first | rfl | omega | (exfalso; simp_all; done) | (exfalso; simp_all; omega))) hP hD
