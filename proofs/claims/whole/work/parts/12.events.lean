/-! OWN ROWS, written by wip/gen (walk.py, spec_a.py) -/
set_option maxHeartbeats 4000000 in
set_option maxRecDepth 100000 in
theorem c_X1_size (l : Launch) (D : va_G) (cyI cyZ : ClassId) (h0 pa va : Nat) (evs : List (Nat × Int32)) (ans : Nat) (fp fv : Nat → Int32) : Ci l D yX1_size wsX1_size ({ frames := 0, cells := 0, slots := 0, locals := 0 } : Room) [.ref h0] [(h0, .inr (1, [.ref pa, .ref va, .int (nI evs.length), .int (nI ans)])), (pa, .inl (cyI, 6, .inl fp)), (va, .inl (cyI, 6, .inl fv))] (tyL cyI cyZ) (fun (r : Int32) (_ : Unit) => r = nI evs.length) (fun _ : Unit => [(h0, .inr (1, [.ref pa, .ref va, .int (nI evs.length), .int (nI ans)])), (pa, .inl (cyI, 6, .inl fp)), (va, .inl (cyI, 6, .inl fv))]) 0 0 := by
  refine mk_Ct (cc := cX1_size) (maxL := 1) (ret := (some .int)) (by decide) rfl rfl ?_
  intro p e s m below meth c A Q ls hx hb hr hts hown hlocks hml hname hA hN hK hP hD hS hQ hl
  have hl : lv_has ls 1 [(0, .ref h0)] := hl
  have inX1_ : ∀ w ∈ u_ws RX1 TX1 4, w ∈ wsX1_size := fun w h => List.mem_cons_of_mem _ (List.mem_append_right _ h)
  have fl18 : (Cond.fieldLink RX1 18 "OutStation$EventRow" "count" "I").before ([.ref h0] : List Value).toArray s = true := hts _ (by decide +kernel)
  have hown : s.vm.findClass RX1 = some m.cls := hown
  obtain ⟨H, eH9⟩ : ∃ H, H = s.heap := ⟨_, rfl⟩
  have hP : va_P D vwCl [(h0, .inr (1, [.ref pa, .ref va, .int (nI evs.length), .int (nI ans)])), (pa, .inl (cyI, 6, .inl fp)), (va, .inl (cyI, 6, .inl fv))] H := by rw [eH9]; exact hP
  have hS : va_S A s.heap H [] := by rw [eH9]; exact hS
  obtain ⟨locs, eL9⟩ : ∃ z : List Loc, z = [] := ⟨_, rfl⟩
  rw [← eH9, ← eL9]
  have hS : va_S A s.heap H locs := by rw [eL9]; exact hS
  refine lv_aload_n hx hb dX1_size_0 rfl (lv_at hl 0 rfl) ?_
  refine va_get (D := D) (ci := 1) (v := .int (nI evs.length)) (C := RX1) (T := TX1) (N := 4) hx hb hts inX1_ hown hK hP 0 rfl rfl 2 (by decide) fl18 (fun _ h9 => h9) rfl dX1_size_1 ?_
  exact ret_i hQ hx hb hr hlocks dX1_size_4 hK hS () (by first | rfl | assumption | omega) hP hD
set_option maxHeartbeats 4000000 in
set_option maxRecDepth 100000 in
theorem c_X1_answered (l : Launch) (D : va_G) (cyI cyZ : ClassId) (h0 pa va : Nat) (evs : List (Nat × Int32)) (ans : Nat) (fp fv : Nat → Int32) : Ci l D yX1_answered wsX1_answered ({ frames := 0, cells := 0, slots := 0, locals := 0 } : Room) [.ref h0] [(h0, .inr (1, [.ref pa, .ref va, .int (nI evs.length), .int (nI ans)])), (pa, .inl (cyI, 6, .inl fp)), (va, .inl (cyI, 6, .inl fv))] (tyL cyI cyZ) (fun (r : Int32) (_ : Unit) => r = nI ans) (fun _ : Unit => [(h0, .inr (1, [.ref pa, .ref va, .int (nI evs.length), .int (nI ans)])), (pa, .inl (cyI, 6, .inl fp)), (va, .inl (cyI, 6, .inl fv))]) 0 0 := by
  refine mk_Ct (cc := cX1_answered) (maxL := 1) (ret := (some .int)) (by decide) rfl rfl ?_
  intro p e s m below meth c A Q ls hx hb hr hts hown hlocks hml hname hA hN hK hP hD hS hQ hl
  have hl : lv_has ls 1 [(0, .ref h0)] := hl
  have inX1_ : ∀ w ∈ u_ws RX1 TX1 4, w ∈ wsX1_answered := fun w h => List.mem_cons_of_mem _ (List.mem_append_right _ h)
  have fl22 : (Cond.fieldLink RX1 22 "OutStation$EventRow" "answered" "I").before ([.ref h0] : List Value).toArray s = true := hts _ (by decide +kernel)
  have hown : s.vm.findClass RX1 = some m.cls := hown
  obtain ⟨H, eH9⟩ : ∃ H, H = s.heap := ⟨_, rfl⟩
  have hP : va_P D vwCl [(h0, .inr (1, [.ref pa, .ref va, .int (nI evs.length), .int (nI ans)])), (pa, .inl (cyI, 6, .inl fp)), (va, .inl (cyI, 6, .inl fv))] H := by rw [eH9]; exact hP
  have hS : va_S A s.heap H [] := by rw [eH9]; exact hS
  obtain ⟨locs, eL9⟩ : ∃ z : List Loc, z = [] := ⟨_, rfl⟩
  rw [← eH9, ← eL9]
  have hS : va_S A s.heap H locs := by rw [eL9]; exact hS
  refine lv_aload_n hx hb dX1_answered_0 rfl (lv_at hl 0 rfl) ?_
  refine va_get (D := D) (ci := 1) (v := .int (nI ans)) (C := RX1) (T := TX1) (N := 4) hx hb hts inX1_ hown hK hP 0 rfl rfl 3 (by decide) fl22 (fun _ h9 => h9) rfl dX1_answered_1 ?_
  exact ret_i hQ hx hb hr hlocks dX1_answered_4 hK hS () (by first | rfl | assumption | omega) hP hD
set_option maxHeartbeats 4000000 in
set_option maxRecDepth 100000 in
theorem c_X1_pointAt (l : Launch) (D : va_G) (cyI cyZ : ClassId) (h0 pa va : Nat) (evs : List (Nat × Int32)) (ans : Nat) (fp fv : Nat → Int32) (i : Nat) (ok : okE evs ans fp fv) (hi : i < evs.length) : Ci l D yX1_pointAt wsX1_pointAt ({ frames := 0, cells := 0, slots := 0, locals := 0 } : Room) [.ref h0, .int (nI i)] [(h0, .inr (1, [.ref pa, .ref va, .int (nI evs.length), .int (nI ans)])), (pa, .inl (cyI, 6, .inl fp)), (va, .inl (cyI, 6, .inl fv))] (tyL cyI cyZ) (fun (r : Int32) (_ : Unit) => r = nI (evs.getD i (0, 0)).1 ∧ (evs.getD i (0, 0)).1 < 8) (fun _ : Unit => [(h0, .inr (1, [.ref pa, .ref va, .int (nI evs.length), .int (nI ans)])), (pa, .inl (cyI, 6, .inl fp)), (va, .inl (cyI, 6, .inl fv))]) 0 0 := by
  refine mk_Ct (cc := cX1_pointAt) (maxL := 2) (ret := (some .int)) (by decide) rfl rfl ?_
  intro p e s m below meth c A Q ls hx hb hr hts hown hlocks hml hname hA hN hK hP hD hS hQ hl
  have hl : lv_has ls 2 [(0, .ref h0), (1, .int (nI i))] := hl
  have inX1_ : ∀ w ∈ u_ws RX1 TX1 4, w ∈ wsX1_pointAt := fun w h => List.mem_cons_of_mem _ (List.mem_append_right _ h)
  have fl18 : (Cond.fieldLink RX1 18 "OutStation$EventRow" "count" "I").before ([.ref h0, .int (nI i)] : List Value).toArray s = true := hts _ (by decide +kernel)
  have fl9 : (Cond.fieldLink RX1 9 "OutStation$EventRow" "points" "[I").before ([.ref h0, .int (nI i)] : List Value).toArray s = true := hts _ (by decide +kernel)
  have hown : s.vm.findClass RX1 = some m.cls := hown
  obtain ⟨H, eH9⟩ : ∃ H, H = s.heap := ⟨_, rfl⟩
  have hP : va_P D vwCl [(h0, .inr (1, [.ref pa, .ref va, .int (nI evs.length), .int (nI ans)])), (pa, .inl (cyI, 6, .inl fp)), (va, .inl (cyI, 6, .inl fv))] H := by rw [eH9]; exact hP
  have hS : va_S A s.heap H [] := by rw [eH9]; exact hS
  obtain ⟨locs, eL9⟩ : ∃ z : List Loc, z = [] := ⟨_, rfl⟩
  rw [← eH9, ← eL9]
  have hS : va_S A s.heap H locs := by rw [eL9]; exact hS
  obtain ⟨ok1, ok2, ok3, ok4⟩ := id ok
  refine lv_iload_n hx hb dX1_pointAt_0 rfl (lv_at hl 1 rfl) ?_
  refine nv_if_lt (tgt := 21) hx hb (by omega) dX1_pointAt_1 (by decide) (fun c1 => ?_) (fun c1 => ?_)
  · exact absurd c1 (Nat.not_lt_zero _)
  · skip
    refine lv_iload_n hx hb dX1_pointAt_4 rfl (lv_at hl 1 rfl) ?_
    refine lv_aload_n hx hb dX1_pointAt_5 rfl (lv_at hl 0 rfl) ?_
    refine va_get (D := D) (ci := 1) (v := .int (nI evs.length)) (C := RX1) (T := TX1) (N := 4) hx hb hts inX1_ hown hK hP 0 rfl rfl 2 (by decide) fl18 (fun _ h9 => h9) rfl dX1_pointAt_6 ?_
    refine nv_icmp_ge (tgt := 21) hx hb (by omega) (by omega) dX1_pointAt_9 (by decide) (fun c9 => ?_) (fun c9 => ?_)
    · exfalso; omega
    · skip
      refine lv_aload_n hx hb dX1_pointAt_12 rfl (lv_at hl 0 rfl) ?_
      refine va_get (D := D) (ci := 1) (v := .ref pa) (C := RX1) (T := TX1) (N := 4) hx hb hts inX1_ hown hK hP 0 rfl rfl 0 (by decide) fl9 (fun _ h9 => h9) rfl dX1_pointAt_13 ?_
      refine lv_iload_n hx hb dX1_pointAt_16 rfl (lv_at hl 1 rfl) ?_
      refine nv_iald hx hb hK hP 1 0 rfl rfl (by omega) (by omega) dX1_pointAt_17 ?_
      refine nv_top (y := (nI ((evs.getD i (0, 0)).1))) ((ok3 i hi).1) ?_
      refine lv_goto (tgt := 22) hx hb dX1_pointAt_18 (by decide) ?_
      exact ret_i hQ hx hb hr hlocks dX1_pointAt_22 hK hS () (⟨rfl, ok4 i⟩) hP hD
set_option maxHeartbeats 4000000 in
set_option maxRecDepth 100000 in
theorem c_X1_valueAt (l : Launch) (D : va_G) (cyI cyZ : ClassId) (h0 pa va : Nat) (evs : List (Nat × Int32)) (ans : Nat) (fp fv : Nat → Int32) (i : Nat) (ok : okE evs ans fp fv) (hi : i < evs.length) : Ci l D yX1_valueAt wsX1_valueAt ({ frames := 0, cells := 0, slots := 0, locals := 0 } : Room) [.ref h0, .int (nI i)] [(h0, .inr (1, [.ref pa, .ref va, .int (nI evs.length), .int (nI ans)])), (pa, .inl (cyI, 6, .inl fp)), (va, .inl (cyI, 6, .inl fv))] (tyL cyI cyZ) (fun (r : Int32) (_ : Unit) => r = (evs.getD i (0, 0)).2) (fun _ : Unit => [(h0, .inr (1, [.ref pa, .ref va, .int (nI evs.length), .int (nI ans)])), (pa, .inl (cyI, 6, .inl fp)), (va, .inl (cyI, 6, .inl fv))]) 0 0 := by
  refine mk_Ct (cc := cX1_valueAt) (maxL := 2) (ret := (some .int)) (by decide) rfl rfl ?_
  intro p e s m below meth c A Q ls hx hb hr hts hown hlocks hml hname hA hN hK hP hD hS hQ hl
  have hl : lv_has ls 2 [(0, .ref h0), (1, .int (nI i))] := hl
  have inX1_ : ∀ w ∈ u_ws RX1 TX1 4, w ∈ wsX1_valueAt := fun w h => List.mem_cons_of_mem _ (List.mem_append_right _ h)
  have fl18 : (Cond.fieldLink RX1 18 "OutStation$EventRow" "count" "I").before ([.ref h0, .int (nI i)] : List Value).toArray s = true := hts _ (by decide +kernel)
  have fl15 : (Cond.fieldLink RX1 15 "OutStation$EventRow" "values" "[I").before ([.ref h0, .int (nI i)] : List Value).toArray s = true := hts _ (by decide +kernel)
  have hown : s.vm.findClass RX1 = some m.cls := hown
  obtain ⟨H, eH9⟩ : ∃ H, H = s.heap := ⟨_, rfl⟩
  have hP : va_P D vwCl [(h0, .inr (1, [.ref pa, .ref va, .int (nI evs.length), .int (nI ans)])), (pa, .inl (cyI, 6, .inl fp)), (va, .inl (cyI, 6, .inl fv))] H := by rw [eH9]; exact hP
  have hS : va_S A s.heap H [] := by rw [eH9]; exact hS
  obtain ⟨locs, eL9⟩ : ∃ z : List Loc, z = [] := ⟨_, rfl⟩
  rw [← eH9, ← eL9]
  have hS : va_S A s.heap H locs := by rw [eL9]; exact hS
  obtain ⟨ok1, ok2, ok3, ok4⟩ := id ok
  refine lv_iload_n hx hb dX1_valueAt_0 rfl (lv_at hl 1 rfl) ?_
  refine nv_if_lt (tgt := 21) hx hb (by omega) dX1_valueAt_1 (by decide) (fun c1 => ?_) (fun c1 => ?_)
  · exact absurd c1 (Nat.not_lt_zero _)
  · skip
    refine lv_iload_n hx hb dX1_valueAt_4 rfl (lv_at hl 1 rfl) ?_
    refine lv_aload_n hx hb dX1_valueAt_5 rfl (lv_at hl 0 rfl) ?_
    refine va_get (D := D) (ci := 1) (v := .int (nI evs.length)) (C := RX1) (T := TX1) (N := 4) hx hb hts inX1_ hown hK hP 0 rfl rfl 2 (by decide) fl18 (fun _ h9 => h9) rfl dX1_valueAt_6 ?_
    refine nv_icmp_ge (tgt := 21) hx hb (by omega) (by omega) dX1_valueAt_9 (by decide) (fun c9 => ?_) (fun c9 => ?_)
    · exfalso; omega
    · skip
      refine lv_aload_n hx hb dX1_valueAt_12 rfl (lv_at hl 0 rfl) ?_
      refine va_get (D := D) (ci := 1) (v := .ref va) (C := RX1) (T := TX1) (N := 4) hx hb hts inX1_ hown hK hP 0 rfl rfl 1 (by decide) fl15 (fun _ h9 => h9) rfl dX1_valueAt_13 ?_
      refine lv_iload_n hx hb dX1_valueAt_16 rfl (lv_at hl 1 rfl) ?_
      refine nv_iald hx hb hK hP 2 0 rfl rfl (by omega) (by omega) dX1_valueAt_17 ?_
      refine nv_top (y := ((evs.getD i (0, 0)).2)) ((ok3 i hi).2) ?_
      refine lv_goto (tgt := 22) hx hb dX1_valueAt_18 (by decide) ?_
      exact ret_i hQ hx hb hr hlocks dX1_valueAt_22 hK hS () (by first | rfl | assumption | omega) hP hD
set_option maxHeartbeats 4000000 in
set_option maxRecDepth 100000 in
theorem c_X1_isFull (l : Launch) (D : va_G) (cyI cyZ : ClassId) (h0 pa va : Nat) (evs : List (Nat × Int32)) (ans : Nat) (fp fv : Nat → Int32) (ok : okE evs ans fp fv) : Ci l D yX1_isFull wsX1_isFull ({ frames := 0, cells := 0, slots := 0, locals := 0 } : Room) [.ref h0] [(h0, .inr (1, [.ref pa, .ref va, .int (nI evs.length), .int (nI ans)])), (pa, .inl (cyI, 6, .inl fp)), (va, .inl (cyI, 6, .inl fv))] (tyL cyI cyZ) (fun (r : Int32) (_ : Unit) => r = bI (evs.length = 6)) (fun _ : Unit => [(h0, .inr (1, [.ref pa, .ref va, .int (nI evs.length), .int (nI ans)])), (pa, .inl (cyI, 6, .inl fp)), (va, .inl (cyI, 6, .inl fv))]) 0 0 := by
  refine mk_Ct (cc := cX1_isFull) (maxL := 1) (ret := (some .boolean)) (by decide) rfl rfl ?_
  intro p e s m below meth c A Q ls hx hb hr hts hown hlocks hml hname hA hN hK hP hD hS hQ hl
  have hl : lv_has ls 1 [(0, .ref h0)] := hl
  have inX1_ : ∀ w ∈ u_ws RX1 TX1 4, w ∈ wsX1_isFull := fun w h => List.mem_cons_of_mem _ (List.mem_append_right _ h)
  have fl18 : (Cond.fieldLink RX1 18 "OutStation$EventRow" "count" "I").before ([.ref h0] : List Value).toArray s = true := hts _ (by decide +kernel)
  have hown : s.vm.findClass RX1 = some m.cls := hown
  obtain ⟨H, eH9⟩ : ∃ H, H = s.heap := ⟨_, rfl⟩
  have hP : va_P D vwCl [(h0, .inr (1, [.ref pa, .ref va, .int (nI evs.length), .int (nI ans)])), (pa, .inl (cyI, 6, .inl fp)), (va, .inl (cyI, 6, .inl fv))] H := by rw [eH9]; exact hP
  have hS : va_S A s.heap H [] := by rw [eH9]; exact hS
  obtain ⟨locs, eL9⟩ : ∃ z : List Loc, z = [] := ⟨_, rfl⟩
  rw [← eH9, ← eL9]
  have hS : va_S A s.heap H locs := by rw [eL9]; exact hS
  obtain ⟨ok1, ok2, ok3, ok4⟩ := id ok
  refine lv_aload_n hx hb dX1_isFull_0 rfl (lv_at hl 0 rfl) ?_
  refine va_get (D := D) (ci := 1) (v := .int (nI evs.length)) (C := RX1) (T := TX1) (N := 4) hx hb hts inX1_ hown hK hP 0 rfl rfl 2 (by decide) fl18 (fun _ h9 => h9) rfl dX1_isFull_1 ?_
  refine lv_bipush (v := (nI 6)) hx hb dX1_isFull_4 (by decide) ?_
  refine nv_icmp_ne (tgt := 13) hx hb (by omega) (by omega) dX1_isFull_6 (by decide) (fun c6 => ?_) (fun c6 => ?_)
  · skip
    refine lv_iconst (v := (nI 0)) hx hb dX1_isFull_13 (by decide) ?_
    exact ret_z hQ hx hb hr hlocks dX1_isFull_14 hK hS (rfl) () ((bI_f c6).symm) hP hD
  · skip
    refine lv_iconst (v := (nI 1)) hx hb dX1_isFull_9 (by decide) ?_
    refine lv_goto (tgt := 14) hx hb dX1_isFull_10 (by decide) ?_
    exact ret_z hQ hx hb hr hlocks dX1_isFull_14 hK hS (rfl) () ((bI_t c6).symm) hP hD
set_option maxHeartbeats 4000000 in
set_option maxRecDepth 100000 in
theorem c_X1_forgetAnswered (l : Launch) (D : va_G) (cyI cyZ : ClassId) (h0 pa va : Nat) (evs : List (Nat × Int32)) (ans : Nat) (fp fv : Nat → Int32) : Cv l D yX1_forgetAnswered wsX1_forgetAnswered ({ frames := 0, cells := 0, slots := 0, locals := 0 } : Room) [.ref h0] [(h0, .inr (1, [.ref pa, .ref va, .int (nI evs.length), .int (nI ans)])), (pa, .inl (cyI, 6, .inl fp)), (va, .inl (cyI, 6, .inl fv))] (tyL cyI cyZ) (fun _ : Unit => True) (fun _ : Unit => [(h0, .inr (1, [.ref pa, .ref va, .int (nI evs.length), .int (nI 0)])), (pa, .inl (cyI, 6, .inl fp)), (va, .inl (cyI, 6, .inl fv))]) 0 0 := by
  refine mk_Ct (cc := cX1_forgetAnswered) (maxL := 1) (ret := none) (by decide) rfl rfl ?_
  intro p e s m below meth c A Q ls hx hb hr hts hown hlocks hml hname hA hN hK hP hD hS hQ hl
  have hl : lv_has ls 1 [(0, .ref h0)] := hl
  have inX1_ : ∀ w ∈ u_ws RX1 TX1 4, w ∈ wsX1_forgetAnswered := fun w h => List.mem_cons_of_mem _ (List.mem_append_right _ h)
  have fl22 : (Cond.fieldLink RX1 22 "OutStation$EventRow" "answered" "I").before ([.ref h0] : List Value).toArray s = true := hts _ (by decide +kernel)
  have hown : s.vm.findClass RX1 = some m.cls := hown
  obtain ⟨H, eH9⟩ : ∃ H, H = s.heap := ⟨_, rfl⟩
  have hP : va_P D vwCl [(h0, .inr (1, [.ref pa, .ref va, .int (nI evs.length), .int (nI ans)])), (pa, .inl (cyI, 6, .inl fp)), (va, .inl (cyI, 6, .inl fv))] H := by rw [eH9]; exact hP
  have hS : va_S A s.heap H [] := by rw [eH9]; exact hS
  obtain ⟨locs, eL9⟩ : ∃ z : List Loc, z = [] := ⟨_, rfl⟩
  rw [← eH9, ← eL9]
  have hS : va_S A s.heap H locs := by rw [eL9]; exact hS
  refine lv_aload_n hx hb dX1_forgetAnswered_0 rfl (lv_at hl 0 rfl) ?_
  refine lv_iconst (v := (nI 0)) hx hb dX1_forgetAnswered_1 (by decide) ?_
  refine va_put (D := D) (ci := 1) (v := .int (nI 0)) (ty := .int) (C := RX1) (T := TX1) (N := 4) hx hb hts inX1_ tyX1 tyX1_ok nmX1 hown hK hP hD hS 0 rfl rfl 3 (by decide) fl22 (fun _ h9 => h9) rfl (by decide +kernel) rfl rfl (Nat.le_of_ble_eq_true rfl) dX1_forgetAnswered_2 (fun H locs hP hD hS => ?_)
  have hP : va_P D vwCl [(h0, .inr (1, [.ref pa, .ref va, .int (nI evs.length), .int (nI 0)])), (pa, .inl (cyI, 6, .inl fp)), (va, .inl (cyI, 6, .inl fv))] H := hP
  have hD : va_D A [(h0, .inr (1, [.ref pa, .ref va, .int (nI evs.length), .int (nI 0)])), (pa, .inl (cyI, 6, .inl fp)), (va, .inl (cyI, 6, .inl fv))] := hD
  exact ret_v hQ hx hb hr hlocks dX1_forgetAnswered_5 hK hS () (trivial) hP hD
set_option maxHeartbeats 4000000 in
set_option maxRecDepth 100000 in
theorem c_X1_dropFirst (l : Launch) (D : va_G) (cyI cyZ : ClassId) (h0 pa va : Nat) (evs : List (Nat × Int32)) (ans : Nat) (fp fv : Nat → Int32) (n : Nat) (ok : okE evs ans fp fv) (hn : n ≤ evs.length) : Cv l D yX1_dropFirst wsX1_dropFirst ({ frames := 1, cells := 0, slots := 0, locals := 60 } : Room) [.ref h0, .int (nI n)] [(h0, .inr (1, [.ref pa, .ref va, .int (nI evs.length), .int (nI ans)])), (pa, .inl (cyI, 6, .inl fp)), (va, .inl (cyI, 6, .inl fv))] (tyL cyI cyZ) (fun u : (Nat → Int32) × (Nat → Int32) => match u with | (fp2, fv2) => okE (evs.drop n) (ans - n) fp2 fv2) (fun u : (Nat → Int32) × (Nat → Int32) => match u with | (fp2, fv2) => [(h0, .inr (1, [.ref pa, .ref va, .int (nI ((evs.drop n).length)), .int (nI (ans - n))])), (pa, .inl (cyI, 6, .inl fp2)), (va, .inl (cyI, 6, .inl fv2))]) 0 0 := by
  refine mk_Ct (cc := cX1_dropFirst) (maxL := 3) (ret := none) (by decide) rfl rfl ?_
  intro p e s m below meth c A Q ls hx hb hr hts hown hlocks hml hname hA hN hK hP hD hS hQ hl
  have hl : lv_has ls 3 [(0, .ref h0), (1, .int (nI n))] := hl
  have ml39 : (Cond.methodLink RX1 39 Lib.Math.max.name).before ([.ref h0, .int (nI n)] : List Value).toArray s = true := hts _ (by decide +kernel)
  have stmax : (Cond.static Lib.Math.max.name).before ([.ref h0, .int (nI n)] : List Value).toArray s = true := hts _ (by decide +kernel)
  have iM : (Cond.initialized "java/lang/Math").before ([.ref h0, .int (nI n)] : List Value).toArray s = true := hts _ (by decide +kernel)
  have comax : (Cond.code Lib.Math.max.name Lib.Math.max.code 2 (some .int)).before ([.ref h0, .int (nI n)] : List Value).toArray s = true := hts _ (by decide +kernel)
  have inX1_ : ∀ w ∈ u_ws RX1 TX1 4, w ∈ wsX1_dropFirst := fun w h => List.mem_cons_of_mem _ (List.mem_append_right _ h)
  have fl18 : (Cond.fieldLink RX1 18 "OutStation$EventRow" "count" "I").before ([.ref h0, .int (nI n)] : List Value).toArray s = true := hts _ (by decide +kernel)
  have ml33 : (Cond.methodLink RX1 33 Lib.Math.min.name).before ([.ref h0, .int (nI n)] : List Value).toArray s = true := hts _ (by decide +kernel)
  have stmin : (Cond.static Lib.Math.min.name).before ([.ref h0, .int (nI n)] : List Value).toArray s = true := hts _ (by decide +kernel)
  have comin : (Cond.code Lib.Math.min.name Lib.Math.min.code 2 (some .int)).before ([.ref h0, .int (nI n)] : List Value).toArray s = true := hts _ (by decide +kernel)
  have fl9 : (Cond.fieldLink RX1 9 "OutStation$EventRow" "points" "[I").before ([.ref h0, .int (nI n)] : List Value).toArray s = true := hts _ (by decide +kernel)
  have ml42 : (Cond.methodLink RX1 42 arraycopyName).before ([.ref h0, .int (nI n)] : List Value).toArray s = true := hts _ (by decide +kernel)
  have nac : (Cond.native arraycopyName).before ([.ref h0, .int (nI n)] : List Value).toArray s = true := hts _ (by decide +kernel)
  have sac : (Cond.static arraycopyName).before ([.ref h0, .int (nI n)] : List Value).toArray s = true := hts _ (by decide +kernel)
  have iS : (Cond.initialized "java/lang/System").before ([.ref h0, .int (nI n)] : List Value).toArray s = true := hts _ (by decide +kernel)
  have fl15 : (Cond.fieldLink RX1 15 "OutStation$EventRow" "values" "[I").before ([.ref h0, .int (nI n)] : List Value).toArray s = true := hts _ (by decide +kernel)
  have fl22 : (Cond.fieldLink RX1 22 "OutStation$EventRow" "answered" "I").before ([.ref h0, .int (nI n)] : List Value).toArray s = true := hts _ (by decide +kernel)
  have hown : s.vm.findClass RX1 = some m.cls := hown
  obtain ⟨H, eH9⟩ : ∃ H, H = s.heap := ⟨_, rfl⟩
  have hP : va_P D vwCl [(h0, .inr (1, [.ref pa, .ref va, .int (nI evs.length), .int (nI ans)])), (pa, .inl (cyI, 6, .inl fp)), (va, .inl (cyI, 6, .inl fv))] H := by rw [eH9]; exact hP
  have hS : va_S A s.heap H [] := by rw [eH9]; exact hS
  obtain ⟨locs, eL9⟩ : ∃ z : List Loc, z = [] := ⟨_, rfl⟩
  rw [← eH9, ← eL9]
  have hS : va_S A s.heap H locs := by rw [eL9]; exact hS
  obtain ⟨ok1, ok2, ok3, ok4⟩ := id ok
  refine lv_iload_n hx hb dX1_dropFirst_0 rfl (lv_at hl 1 rfl) ?_
  refine lv_iconst (v := (nI 0)) hx hb dX1_dropFirst_1 (by decide) ?_
  refine va_mmax hx hb (by rw [hml]; exact hl.1.symm) hown ml39 stmax iM comax (Nat.le_of_ble_eq_true rfl) (Nat.le_of_ble_eq_true rfl) (Nat.zero_le _) (Nat.zero_le _) dX1_dropFirst_2 ?_
  refine nv_top (y := (nI (max n 0))) (nI_max (by omega) (by omega)) ?_
  refine lv_aload_n hx hb dX1_dropFirst_5 rfl (lv_at hl 0 rfl) ?_
  refine va_get (D := D) (ci := 1) (v := .int (nI evs.length)) (C := RX1) (T := TX1) (N := 4) hx hb hts inX1_ hown hK hP 0 rfl rfl 2 (by decide) fl18 (fun _ h9 => h9) rfl dX1_dropFirst_6 ?_
  refine va_mmin hx hb (by rw [hml]; exact hl.1.symm) hown ml33 stmin iM comin (Nat.le_of_ble_eq_true rfl) (Nat.le_of_ble_eq_true rfl) (Nat.zero_le _) (Nat.zero_le _) dX1_dropFirst_9 ?_
  refine nv_top (y := (nI (min (max n 0) evs.length))) (nI_min (by omega) (by omega)) ?_
  refine nv_top (y := (nI n)) (by rw [show min (max n 0) evs.length = n by omega]) ?_
  refine lv_istore_n (lv' := [(2, .int (nI n)), (0, .ref h0), (1, .int (nI n))]) hx hb dX1_dropFirst_12 rfl hl (by decide) rfl (fun ls hl => ?_)
  refine lv_aload_n hx hb dX1_dropFirst_13 rfl (lv_at hl 1 rfl) ?_
  refine va_get (D := D) (ci := 1) (v := .ref pa) (C := RX1) (T := TX1) (N := 4) hx hb hts inX1_ hown hK hP 0 rfl rfl 0 (by decide) fl9 (fun _ h9 => h9) rfl dX1_dropFirst_14 ?_
  refine lv_iload_n hx hb dX1_dropFirst_17 rfl (lv_at hl 0 rfl) ?_
  refine lv_aload_n hx hb dX1_dropFirst_18 rfl (lv_at hl 1 rfl) ?_
  refine va_get (D := D) (ci := 1) (v := .ref pa) (C := RX1) (T := TX1) (N := 4) hx hb hts inX1_ hown hK hP 0 rfl rfl 0 (by decide) fl9 (fun _ h9 => h9) rfl dX1_dropFirst_19 ?_
  refine lv_iconst (v := (nI 0)) hx hb dX1_dropFirst_22 (by decide) ?_
  refine lv_aload_n hx hb dX1_dropFirst_23 rfl (lv_at hl 1 rfl) ?_
  refine va_get (D := D) (ci := 1) (v := .int (nI evs.length)) (C := RX1) (T := TX1) (N := 4) hx hb hts inX1_ hown hK hP 0 rfl rfl 2 (by decide) fl18 (fun _ h9 => h9) rfl dX1_dropFirst_24 ?_
  refine lv_iload_n hx hb dX1_dropFirst_27 rfl (lv_at hl 0 rfl) ?_
  refine nv_isub hx hb (by omega) dX1_dropFirst_28 ?_
  refine nv_copy hx hb (by rw [hml]; exact hl.1.symm) hown ml42 nac sac iS hK hP hD hS 1 1 rfl rfl rfl (by omega) (by omega) (by omega) (by omega) (Nat.le_of_ble_eq_true rfl) (Nat.le_of_ble_eq_true rfl) dX1_dropFirst_29 (fun H locs hP hD hS => ?_)
  have hP : va_P D vwCl [(h0, .inr (1, [.ref pa, .ref va, .int (nI evs.length), .int (nI ans)])), (pa, .inl (cyI, 6, .inl (va_cpy fp fp n 0 (evs.length - n)))), (va, .inl (cyI, 6, .inl fv))] H := hP
  have hD : va_D A [(h0, .inr (1, [.ref pa, .ref va, .int (nI evs.length), .int (nI ans)])), (pa, .inl (cyI, 6, .inl (va_cpy fp fp n 0 (evs.length - n)))), (va, .inl (cyI, 6, .inl fv))] := hD
  refine lv_aload_n hx hb dX1_dropFirst_32 rfl (lv_at hl 1 rfl) ?_
  refine va_get (D := D) (ci := 1) (v := .ref va) (C := RX1) (T := TX1) (N := 4) hx hb hts inX1_ hown hK hP 0 rfl rfl 1 (by decide) fl15 (fun _ h9 => h9) rfl dX1_dropFirst_33 ?_
  refine lv_iload_n hx hb dX1_dropFirst_36 rfl (lv_at hl 0 rfl) ?_
  refine lv_aload_n hx hb dX1_dropFirst_37 rfl (lv_at hl 1 rfl) ?_
  refine va_get (D := D) (ci := 1) (v := .ref va) (C := RX1) (T := TX1) (N := 4) hx hb hts inX1_ hown hK hP 0 rfl rfl 1 (by decide) fl15 (fun _ h9 => h9) rfl dX1_dropFirst_38 ?_
  refine lv_iconst (v := (nI 0)) hx hb dX1_dropFirst_41 (by decide) ?_
  refine lv_aload_n hx hb dX1_dropFirst_42 rfl (lv_at hl 1 rfl) ?_
  refine va_get (D := D) (ci := 1) (v := .int (nI evs.length)) (C := RX1) (T := TX1) (N := 4) hx hb hts inX1_ hown hK hP 0 rfl rfl 2 (by decide) fl18 (fun _ h9 => h9) rfl dX1_dropFirst_43 ?_
  refine lv_iload_n hx hb dX1_dropFirst_46 rfl (lv_at hl 0 rfl) ?_
  refine nv_isub hx hb (by omega) dX1_dropFirst_47 ?_
  refine nv_copy hx hb (by rw [hml]; exact hl.1.symm) hown ml42 nac sac iS hK hP hD hS 2 2 rfl rfl rfl (by omega) (by omega) (by omega) (by omega) (Nat.le_of_ble_eq_true rfl) (Nat.le_of_ble_eq_true rfl) dX1_dropFirst_48 (fun H locs hP hD hS => ?_)
  have hP : va_P D vwCl [(h0, .inr (1, [.ref pa, .ref va, .int (nI evs.length), .int (nI ans)])), (pa, .inl (cyI, 6, .inl (va_cpy fp fp n 0 (evs.length - n)))), (va, .inl (cyI, 6, .inl (va_cpy fv fv n 0 (evs.length - n))))] H := hP
  have hD : va_D A [(h0, .inr (1, [.ref pa, .ref va, .int (nI evs.length), .int (nI ans)])), (pa, .inl (cyI, 6, .inl (va_cpy fp fp n 0 (evs.length - n)))), (va, .inl (cyI, 6, .inl (va_cpy fv fv n 0 (evs.length - n))))] := hD
  refine lv_aload_n hx hb dX1_dropFirst_51 rfl (lv_at hl 1 rfl) ?_
  refine lv_dup hx hb dX1_dropFirst_52 rfl ?_
  refine va_get (D := D) (ci := 1) (v := .int (nI evs.length)) (C := RX1) (T := TX1) (N := 4) hx hb hts inX1_ hown hK hP 0 rfl rfl 2 (by decide) fl18 (fun _ h9 => h9) rfl dX1_dropFirst_53 ?_
  refine lv_iload_n hx hb dX1_dropFirst_56 rfl (lv_at hl 0 rfl) ?_
  refine nv_isub hx hb (by omega) dX1_dropFirst_57 ?_
  refine va_put (D := D) (ci := 1) (v := .int (nI (evs.length - n))) (ty := .int) (C := RX1) (T := TX1) (N := 4) hx hb hts inX1_ tyX1 tyX1_ok nmX1 hown hK hP hD hS 0 rfl rfl 2 (by decide) fl18 (fun _ h9 => h9) rfl (by decide +kernel) rfl rfl (Nat.le_of_ble_eq_true rfl) dX1_dropFirst_58 (fun H locs hP hD hS => ?_)
  have hP : va_P D vwCl [(h0, .inr (1, [.ref pa, .ref va, .int (nI (evs.length - n)), .int (nI ans)])), (pa, .inl (cyI, 6, .inl (va_cpy fp fp n 0 (evs.length - n)))), (va, .inl (cyI, 6, .inl (va_cpy fv fv n 0 (evs.length - n))))] H := hP
  have hD : va_D A [(h0, .inr (1, [.ref pa, .ref va, .int (nI (evs.length - n)), .int (nI ans)])), (pa, .inl (cyI, 6, .inl (va_cpy fp fp n 0 (evs.length - n)))), (va, .inl (cyI, 6, .inl (va_cpy fv fv n 0 (evs.length - n))))] := hD
  refine lv_aload_n hx hb dX1_dropFirst_61 rfl (lv_at hl 1 rfl) ?_
  refine lv_aload_n hx hb dX1_dropFirst_62 rfl (lv_at hl 1 rfl) ?_
  refine va_get (D := D) (ci := 1) (v := .int (nI ans)) (C := RX1) (T := TX1) (N := 4) hx hb hts inX1_ hown hK hP 0 rfl rfl 3 (by decide) fl22 (fun _ h9 => h9) rfl dX1_dropFirst_63 ?_
  refine lv_iload_n hx hb dX1_dropFirst_66 rfl (lv_at hl 0 rfl) ?_
  refine lv_isub hx hb dX1_dropFirst_67 ?_
  refine lv_iconst (v := (nI 0)) hx hb dX1_dropFirst_68 (by decide) ?_
  refine va_mmax hx hb (by rw [hml]; exact hl.1.symm) hown ml39 stmax iM comax (Nat.le_of_ble_eq_true rfl) (Nat.le_of_ble_eq_true rfl) (Nat.zero_le _) (Nat.zero_le _) dX1_dropFirst_69 ?_
  refine nv_top (y := (nI (ans - n))) (mx_sub (by omega) (by omega)) ?_
  refine va_put (D := D) (ci := 1) (v := .int (nI (ans - n))) (ty := .int) (C := RX1) (T := TX1) (N := 4) hx hb hts inX1_ tyX1 tyX1_ok nmX1 hown hK hP hD hS 0 rfl rfl 3 (by decide) fl22 (fun _ h9 => h9) rfl (by decide +kernel) rfl rfl (Nat.le_of_ble_eq_true rfl) dX1_dropFirst_72 (fun H locs hP hD hS => ?_)
  have hP : va_P D vwCl [(h0, .inr (1, [.ref pa, .ref va, .int (nI (evs.length - n)), .int (nI (ans - n))])), (pa, .inl (cyI, 6, .inl (va_cpy fp fp n 0 (evs.length - n)))), (va, .inl (cyI, 6, .inl (va_cpy fv fv n 0 (evs.length - n))))] H := hP
  have hD : va_D A [(h0, .inr (1, [.ref pa, .ref va, .int (nI (evs.length - n)), .int (nI (ans - n))])), (pa, .inl (cyI, 6, .inl (va_cpy fp fp n 0 (evs.length - n)))), (va, .inl (cyI, 6, .inl (va_cpy fv fv n 0 (evs.length - n))))] := hD
  have ew9 : ([(h0, .inr (1, [.ref pa, .ref va, .int (nI ((evs.drop n).length)), .int (nI (ans - n))])), (pa, .inl (cyI, 6, .inl (va_cpy fp fp n 0 (evs.length - n)))), (va, .inl (cyI, 6, .inl (va_cpy fv fv n 0 (evs.length - n))))] : va_W) = [(h0, .inr (1, [.ref pa, .ref va, .int (nI (evs.length - n)), .int (nI (ans - n))])), (pa, .inl (cyI, 6, .inl (va_cpy fp fp n 0 (evs.length - n)))), (va, .inl (cyI, 6, .inl (va_cpy fv fv n 0 (evs.length - n))))] := by simp
  have hP : va_P D vwCl [(h0, .inr (1, [.ref pa, .ref va, .int (nI ((evs.drop n).length)), .int (nI (ans - n))])), (pa, .inl (cyI, 6, .inl (va_cpy fp fp n 0 (evs.length - n)))), (va, .inl (cyI, 6, .inl (va_cpy fv fv n 0 (evs.length - n))))] H := by rw [ew9]; exact hP
  have hD : va_D A [(h0, .inr (1, [.ref pa, .ref va, .int (nI ((evs.drop n).length)), .int (nI (ans - n))])), (pa, .inl (cyI, 6, .inl (va_cpy fp fp n 0 (evs.length - n)))), (va, .inl (cyI, 6, .inl (va_cpy fv fv n 0 (evs.length - n))))] := by rw [ew9]; exact hD
  exact ret_v hQ hx hb hr hlocks dX1_dropFirst_75 hK hS (va_cpy fp fp n 0 (evs.length - n), va_cpy fv fv n 0 (evs.length - n)) (okE_drop ok hn) hP hD
set_option maxHeartbeats 4000000 in
set_option maxRecDepth 100000 in
theorem c_X1_append (l : Launch) (D : va_G) (cyI cyZ : ClassId) (h0 pa va : Nat) (evs : List (Nat × Int32)) (ans : Nat) (fp fv : Nat → Int32) (pt : Nat) (x : Int32) (ok : okE evs ans fp fv) (hpt : pt < 8) : Cv l D yX1_append wsX1_append ({ frames := 2, cells := 0, slots := 0, locals := 90 } : Room) [.ref h0, .int (nI pt), .int x] [(h0, .inr (1, [.ref pa, .ref va, .int (nI evs.length), .int (nI ans)])), (pa, .inl (cyI, 6, .inl fp)), (va, .inl (cyI, 6, .inl fv))] (tyL cyI cyZ) (fun u : (Nat → Int32) × (Nat → Int32) => match u with | (fp2, fv2) => okE (apE evs pt x) (apA evs ans) fp2 fv2) (fun u : (Nat → Int32) × (Nat → Int32) => match u with | (fp2, fv2) => [(h0, .inr (1, [.ref pa, .ref va, .int (nI ((apE evs pt x).length)), .int (nI (apA evs ans))])), (pa, .inl (cyI, 6, .inl fp2)), (va, .inl (cyI, 6, .inl fv2))]) 0 0 := by
  refine mk_Ct (cc := cX1_append) (maxL := 3) (ret := none) (by decide) rfl rfl ?_
  intro p e s m below meth c A Q ls hx hb hr hts hown hlocks hml hname hA hN hK hP hD hS hQ hl
  have hl : lv_has ls 3 [(0, .ref h0), (1, .int (nI pt)), (2, .int x)] := hl
  have inX1_ : ∀ w ∈ u_ws RX1 TX1 4, w ∈ wsX1_append := fun w h => List.mem_cons_of_mem _ (List.mem_append_right _ h)
  have fl18 : (Cond.fieldLink RX1 18 "OutStation$EventRow" "count" "I").before ([.ref h0, .int (nI pt), .int x] : List Value).toArray s = true := hts _ (by decide +kernel)
  have fl9 : (Cond.fieldLink RX1 9 "OutStation$EventRow" "points" "[I").before ([.ref h0, .int (nI pt), .int x] : List Value).toArray s = true := hts _ (by decide +kernel)
  have fl15 : (Cond.fieldLink RX1 15 "OutStation$EventRow" "values" "[I").before ([.ref h0, .int (nI pt), .int x] : List Value).toArray s = true := hts _ (by decide +kernel)
  have hown : s.vm.findClass RX1 = some m.cls := hown
  obtain ⟨H, eH9⟩ : ∃ H, H = s.heap := ⟨_, rfl⟩
  have hP : va_P D vwCl [(h0, .inr (1, [.ref pa, .ref va, .int (nI evs.length), .int (nI ans)])), (pa, .inl (cyI, 6, .inl fp)), (va, .inl (cyI, 6, .inl fv))] H := by rw [eH9]; exact hP
  have hS : va_S A s.heap H [] := by rw [eH9]; exact hS
  obtain ⟨locs, eL9⟩ : ∃ z : List Loc, z = [] := ⟨_, rfl⟩
  rw [← eH9, ← eL9]
  have hS : va_S A s.heap H locs := by rw [eL9]; exact hS
  obtain ⟨ok1, ok2, ok3, ok4⟩ := id ok
  refine lv_aload_n hx hb dX1_append_0 rfl (lv_at hl 0 rfl) ?_
  refine res_i (wW := [(h0, .inr (1, [.ref pa, .ref va, .int (nI evs.length), .int (nI ans)])), (pa, .inl (cyI, 6, .inl fp)), (va, .inl (cyI, 6, .inl fv))]) (Wc := [(h0, .inr (1, [.ref pa, .ref va, .int (nI evs.length), .int (nI ans)])), (pa, .inl (cyI, 6, .inl fp)), (va, .inl (cyI, 6, .inl fv))]) (Wr := []) (run_V (QA := fun A => va_Qi _ (bw D _ (tyL cyI cyZ) A) A) (rmC := ({ frames := 0, cells := 0, slots := 0, locals := 0 } : Room)) (mc := 0) (ms := 0) (As := []) (rest := []) (ci := 1) (wW := [(h0, .inr (1, [.ref pa, .ref va, .int (nI evs.length), .int (nI ans)])), (pa, .inl (cyI, 6, .inl fp)), (va, .inl (cyI, 6, .inl fv))]) (Wc := [(h0, .inr (1, [.ref pa, .ref va, .int (nI evs.length), .int (nI ans)])), (pa, .inl (cyI, 6, .inl fp)), (va, .inl (cyI, 6, .inl fv))]) ⟨hx, hb, hml, hown, hts⟩ (c_X1_isFull l D cyI cyZ h0 pa va evs ans fp fv (by assumption)) (cwV 0 hts gX1_append_X1_isFull rfl rfl rfl (by decide +kernel) ⟨Nat.le_of_ble_eq_true rfl, Nat.le_of_ble_eq_true rfl⟩) hN hK hP hD [0, 1, 2] rfl (by decide) 0 rfl rfl rfl hl.1 rfl rfl dX1_append_1 ⟨Nat.le_of_ble_eq_true rfl, Nat.le_of_ble_eq_true rfl⟩) hP hD hS hA [0, 1, 2] [] rfl rfl (by decide) (by decide) (fun r1 u9 H locs w1 hP hD hS => ?_)
  have w1 : r1 = bI (evs.length = 6) := w1
  have hP : va_P D vwCl [(h0, .inr (1, [.ref pa, .ref va, .int (nI evs.length), .int (nI ans)])), (pa, .inl (cyI, 6, .inl fp)), (va, .inl (cyI, 6, .inl fv))] H := hP
  have hD : va_D A [(h0, .inr (1, [.ref pa, .ref va, .int (nI evs.length), .int (nI ans)])), (pa, .inl (cyI, 6, .inl fp)), (va, .inl (cyI, 6, .inl fv))] := hD
  refine nv_top (y := (bI (evs.length = 6))) (w1) ?_
  refine bv_if_eq (tgt := 12) hx hb dX1_append_4 (by decide) (fun c4 => ?_) (fun c4 => ?_)
  · skip
    refine lv_aload_n hx hb dX1_append_12 rfl (lv_at hl 0 rfl) ?_
    refine va_get (D := D) (ci := 1) (v := .int (nI evs.length)) (C := RX1) (T := TX1) (N := 4) hx hb hts inX1_ hown hK hP 0 rfl rfl 2 (by decide) fl18 (fun _ h9 => h9) rfl dX1_append_13 ?_
    refine lv_bipush (v := (nI 6)) hx hb dX1_append_16 (by decide) ?_
    refine nv_icmp_ge (tgt := 51) hx hb (by omega) (by omega) dX1_append_18 (by decide) (fun c18 => ?_) (fun c18 => ?_)
    · exfalso; omega
    · skip
      refine lv_aload_n hx hb dX1_append_21 rfl (lv_at hl 0 rfl) ?_
      refine va_get (D := D) (ci := 1) (v := .ref pa) (C := RX1) (T := TX1) (N := 4) hx hb hts inX1_ hown hK hP 0 rfl rfl 0 (by decide) fl9 (fun _ h9 => h9) rfl dX1_append_22 ?_
      refine lv_aload_n hx hb dX1_append_25 rfl (lv_at hl 0 rfl) ?_
      refine va_get (D := D) (ci := 1) (v := .int (nI evs.length)) (C := RX1) (T := TX1) (N := 4) hx hb hts inX1_ hown hK hP 0 rfl rfl 2 (by decide) fl18 (fun _ h9 => h9) rfl dX1_append_26 ?_
      refine lv_iload_n hx hb dX1_append_29 rfl (lv_at hl 1 rfl) ?_
      refine nv_iast hx hb hK hP hD hS 1 0 rfl rfl (by omega) (by omega) dX1_append_30 (fun H locs hP hD hS => ?_)
      have hP : va_P D vwCl [(h0, .inr (1, [.ref pa, .ref va, .int (nI evs.length), .int (nI ans)])), (pa, .inl (cyI, 6, .inl (upd fp evs.length (nI pt)))), (va, .inl (cyI, 6, .inl fv))] H := hP
      have hD : va_D A [(h0, .inr (1, [.ref pa, .ref va, .int (nI evs.length), .int (nI ans)])), (pa, .inl (cyI, 6, .inl (upd fp evs.length (nI pt)))), (va, .inl (cyI, 6, .inl fv))] := hD
      refine lv_aload_n hx hb dX1_append_31 rfl (lv_at hl 0 rfl) ?_
      refine va_get (D := D) (ci := 1) (v := .ref va) (C := RX1) (T := TX1) (N := 4) hx hb hts inX1_ hown hK hP 0 rfl rfl 1 (by decide) fl15 (fun _ h9 => h9) rfl dX1_append_32 ?_
      refine lv_aload_n hx hb dX1_append_35 rfl (lv_at hl 0 rfl) ?_
      refine va_get (D := D) (ci := 1) (v := .int (nI evs.length)) (C := RX1) (T := TX1) (N := 4) hx hb hts inX1_ hown hK hP 0 rfl rfl 2 (by decide) fl18 (fun _ h9 => h9) rfl dX1_append_36 ?_
      refine lv_iload_n hx hb dX1_append_39 rfl (lv_at hl 2 rfl) ?_
      refine nv_iast hx hb hK hP hD hS 2 0 rfl rfl (by omega) (by omega) dX1_append_40 (fun H locs hP hD hS => ?_)
      have hP : va_P D vwCl [(h0, .inr (1, [.ref pa, .ref va, .int (nI evs.length), .int (nI ans)])), (pa, .inl (cyI, 6, .inl (upd fp evs.length (nI pt)))), (va, .inl (cyI, 6, .inl (upd fv evs.length x)))] H := hP
      have hD : va_D A [(h0, .inr (1, [.ref pa, .ref va, .int (nI evs.length), .int (nI ans)])), (pa, .inl (cyI, 6, .inl (upd fp evs.length (nI pt)))), (va, .inl (cyI, 6, .inl (upd fv evs.length x)))] := hD
      refine lv_aload_n hx hb dX1_append_41 rfl (lv_at hl 0 rfl) ?_
      refine lv_dup hx hb dX1_append_42 rfl ?_
      refine va_get (D := D) (ci := 1) (v := .int (nI evs.length)) (C := RX1) (T := TX1) (N := 4) hx hb hts inX1_ hown hK hP 0 rfl rfl 2 (by decide) fl18 (fun _ h9 => h9) rfl dX1_append_43 ?_
      refine lv_iconst (v := (nI 1)) hx hb dX1_append_46 (by decide) ?_
      refine nv_iadd hx hb dX1_append_47 ?_
      refine va_put (D := D) (ci := 1) (v := .int (nI (evs.length + 1))) (ty := .int) (C := RX1) (T := TX1) (N := 4) hx hb hts inX1_ tyX1 tyX1_ok nmX1 hown hK hP hD hS 0 rfl rfl 2 (by decide) fl18 (fun _ h9 => h9) rfl (by decide +kernel) rfl rfl (Nat.le_of_ble_eq_true rfl) dX1_append_48 (fun H locs hP hD hS => ?_)
      have hP : va_P D vwCl [(h0, .inr (1, [.ref pa, .ref va, .int (nI (evs.length + 1)), .int (nI ans)])), (pa, .inl (cyI, 6, .inl (upd fp evs.length (nI pt)))), (va, .inl (cyI, 6, .inl (upd fv evs.length x)))] H := hP
      have hD : va_D A [(h0, .inr (1, [.ref pa, .ref va, .int (nI (evs.length + 1)), .int (nI ans)])), (pa, .inl (cyI, 6, .inl (upd fp evs.length (nI pt)))), (va, .inl (cyI, 6, .inl (upd fv evs.length x)))] := hD
      have ew9 : ([(h0, .inr (1, [.ref pa, .ref va, .int (nI ((apE evs pt x).length)), .int (nI (apA evs ans))])), (pa, .inl (cyI, 6, .inl (upd fp evs.length (nI pt)))), (va, .inl (cyI, 6, .inl (upd fv evs.length x)))] : va_W) = [(h0, .inr (1, [.ref pa, .ref va, .int (nI (evs.length + 1)), .int (nI ans)])), (pa, .inl (cyI, 6, .inl (upd fp evs.length (nI pt)))), (va, .inl (cyI, 6, .inl (upd fv evs.length x)))] := by rw [apE_n c4, apA_n c4]; simp
      have hP : va_P D vwCl [(h0, .inr (1, [.ref pa, .ref va, .int (nI ((apE evs pt x).length)), .int (nI (apA evs ans))])), (pa, .inl (cyI, 6, .inl (upd fp evs.length (nI pt)))), (va, .inl (cyI, 6, .inl (upd fv evs.length x)))] H := by rw [ew9]; exact hP
      have hD : va_D A [(h0, .inr (1, [.ref pa, .ref va, .int (nI ((apE evs pt x).length)), .int (nI (apA evs ans))])), (pa, .inl (cyI, 6, .inl (upd fp evs.length (nI pt)))), (va, .inl (cyI, 6, .inl (upd fv evs.length x)))] := by rw [ew9]; exact hD
      exact ret_v hQ hx hb hr hlocks dX1_append_51 hK hS (upd fp evs.length (nI pt), upd fv evs.length x) (by rw [apE_n c4, apA_n c4]; exact okE_push ok (by omega) hpt) hP hD
  · skip
    refine lv_aload_n hx hb dX1_append_7 rfl (lv_at hl 0 rfl) ?_
    refine lv_iconst (v := (nI 1)) hx hb dX1_append_8 (by decide) ?_
    refine res_v (wW := [(h0, .inr (1, [.ref pa, .ref va, .int (nI evs.length), .int (nI ans)])), (pa, .inl (cyI, 6, .inl fp)), (va, .inl (cyI, 6, .inl fv))]) (Wc := [(h0, .inr (1, [.ref pa, .ref va, .int (nI evs.length), .int (nI ans)])), (pa, .inl (cyI, 6, .inl fp)), (va, .inl (cyI, 6, .inl fv))]) (Wr := []) (run_V (QA := fun A => va_Qv _ (bw D _ (tyL cyI cyZ) A) A) (rmC := ({ frames := 1, cells := 0, slots := 0, locals := 60 } : Room)) (mc := 0) (ms := 0) (As := [.int (nI 1)]) (rest := []) (ci := 1) (wW := [(h0, .inr (1, [.ref pa, .ref va, .int (nI evs.length), .int (nI ans)])), (pa, .inl (cyI, 6, .inl fp)), (va, .inl (cyI, 6, .inl fv))]) (Wc := [(h0, .inr (1, [.ref pa, .ref va, .int (nI evs.length), .int (nI ans)])), (pa, .inl (cyI, 6, .inl fp)), (va, .inl (cyI, 6, .inl fv))]) ⟨hx, hb, hml, hown, hts⟩ (c_X1_dropFirst l D cyI cyZ h0 pa va evs ans fp fv 1 (by assumption) (by omega)) (cwV 1 hts gX1_append_X1_dropFirst rfl rfl rfl (by decide +kernel) ⟨Nat.le_of_ble_eq_true rfl, Nat.le_of_ble_eq_true rfl⟩) hN hK hP hD [0, 1, 2] rfl (by decide) 0 rfl rfl rfl hl.1 rfl rfl dX1_append_9 ⟨Nat.le_of_ble_eq_true rfl, Nat.le_of_ble_eq_true rfl⟩) hP hD hS hA [0, 1, 2] [] rfl rfl (by decide) (by decide) (fun u9 H locs w9 hP hD hS => ?_)
    obtain ⟨fp2_9, fv2_9⟩ := u9
    have w9 : okE (evs.drop 1) (ans - 1) fp2_9 fv2_9 := w9
    have hP : va_P D vwCl [(h0, .inr (1, [.ref pa, .ref va, .int (nI ((evs.drop 1).length)), .int (nI (ans - 1))])), (pa, .inl (cyI, 6, .inl fp2_9)), (va, .inl (cyI, 6, .inl fv2_9))] H := hP
    have hD : va_D A [(h0, .inr (1, [.ref pa, .ref va, .int (nI ((evs.drop 1).length)), .int (nI (ans - 1))])), (pa, .inl (cyI, 6, .inl fp2_9)), (va, .inl (cyI, 6, .inl fv2_9))] := hD
    have hl9 : (evs.drop 1).length = evs.length - 1 := List.length_drop ..
    refine lv_aload_n hx hb dX1_append_12 rfl (lv_at hl 0 rfl) ?_
    refine va_get (D := D) (ci := 1) (v := .int (nI ((evs.drop 1).length))) (C := RX1) (T := TX1) (N := 4) hx hb hts inX1_ hown hK hP 0 rfl rfl 2 (by decide) fl18 (fun _ h9 => h9) rfl dX1_append_13 ?_
    refine lv_bipush (v := (nI 6)) hx hb dX1_append_16 (by decide) ?_
    refine nv_icmp_ge (tgt := 51) hx hb (by omega) (by omega) dX1_append_18 (by decide) (fun c18 => ?_) (fun c18 => ?_)
    · exfalso; omega
    · skip
      refine lv_aload_n hx hb dX1_append_21 rfl (lv_at hl 0 rfl) ?_
      refine va_get (D := D) (ci := 1) (v := .ref pa) (C := RX1) (T := TX1) (N := 4) hx hb hts inX1_ hown hK hP 0 rfl rfl 0 (by decide) fl9 (fun _ h9 => h9) rfl dX1_append_22 ?_
      refine lv_aload_n hx hb dX1_append_25 rfl (lv_at hl 0 rfl) ?_
      refine va_get (D := D) (ci := 1) (v := .int (nI ((evs.drop 1).length))) (C := RX1) (T := TX1) (N := 4) hx hb hts inX1_ hown hK hP 0 rfl rfl 2 (by decide) fl18 (fun _ h9 => h9) rfl dX1_append_26 ?_
      refine lv_iload_n hx hb dX1_append_29 rfl (lv_at hl 1 rfl) ?_
      refine nv_iast hx hb hK hP hD hS 1 0 rfl rfl (by omega) (by omega) dX1_append_30 (fun H locs hP hD hS => ?_)
      have hP : va_P D vwCl [(h0, .inr (1, [.ref pa, .ref va, .int (nI ((evs.drop 1).length)), .int (nI (ans - 1))])), (pa, .inl (cyI, 6, .inl (upd fp2_9 ((evs.drop 1).length) (nI pt)))), (va, .inl (cyI, 6, .inl fv2_9))] H := hP
      have hD : va_D A [(h0, .inr (1, [.ref pa, .ref va, .int (nI ((evs.drop 1).length)), .int (nI (ans - 1))])), (pa, .inl (cyI, 6, .inl (upd fp2_9 ((evs.drop 1).length) (nI pt)))), (va, .inl (cyI, 6, .inl fv2_9))] := hD
      refine lv_aload_n hx hb dX1_append_31 rfl (lv_at hl 0 rfl) ?_
      refine va_get (D := D) (ci := 1) (v := .ref va) (C := RX1) (T := TX1) (N := 4) hx hb hts inX1_ hown hK hP 0 rfl rfl 1 (by decide) fl15 (fun _ h9 => h9) rfl dX1_append_32 ?_
      refine lv_aload_n hx hb dX1_append_35 rfl (lv_at hl 0 rfl) ?_
      refine va_get (D := D) (ci := 1) (v := .int (nI ((evs.drop 1).length))) (C := RX1) (T := TX1) (N := 4) hx hb hts inX1_ hown hK hP 0 rfl rfl 2 (by decide) fl18 (fun _ h9 => h9) rfl dX1_append_36 ?_
      refine lv_iload_n hx hb dX1_append_39 rfl (lv_at hl 2 rfl) ?_
      refine nv_iast hx hb hK hP hD hS 2 0 rfl rfl (by omega) (by omega) dX1_append_40 (fun H locs hP hD hS => ?_)
      have hP : va_P D vwCl [(h0, .inr (1, [.ref pa, .ref va, .int (nI ((evs.drop 1).length)), .int (nI (ans - 1))])), (pa, .inl (cyI, 6, .inl (upd fp2_9 ((evs.drop 1).length) (nI pt)))), (va, .inl (cyI, 6, .inl (upd fv2_9 ((evs.drop 1).length) x)))] H := hP
      have hD : va_D A [(h0, .inr (1, [.ref pa, .ref va, .int (nI ((evs.drop 1).length)), .int (nI (ans - 1))])), (pa, .inl (cyI, 6, .inl (upd fp2_9 ((evs.drop 1).length) (nI pt)))), (va, .inl (cyI, 6, .inl (upd fv2_9 ((evs.drop 1).length) x)))] := hD
      refine lv_aload_n hx hb dX1_append_41 rfl (lv_at hl 0 rfl) ?_
      refine lv_dup hx hb dX1_append_42 rfl ?_
      refine va_get (D := D) (ci := 1) (v := .int (nI ((evs.drop 1).length))) (C := RX1) (T := TX1) (N := 4) hx hb hts inX1_ hown hK hP 0 rfl rfl 2 (by decide) fl18 (fun _ h9 => h9) rfl dX1_append_43 ?_
      refine lv_iconst (v := (nI 1)) hx hb dX1_append_46 (by decide) ?_
      refine nv_iadd hx hb dX1_append_47 ?_
      refine va_put (D := D) (ci := 1) (v := .int (nI (((evs.drop 1).length) + 1))) (ty := .int) (C := RX1) (T := TX1) (N := 4) hx hb hts inX1_ tyX1 tyX1_ok nmX1 hown hK hP hD hS 0 rfl rfl 2 (by decide) fl18 (fun _ h9 => h9) rfl (by decide +kernel) rfl rfl (Nat.le_of_ble_eq_true rfl) dX1_append_48 (fun H locs hP hD hS => ?_)
      have hP : va_P D vwCl [(h0, .inr (1, [.ref pa, .ref va, .int (nI (((evs.drop 1).length) + 1)), .int (nI (ans - 1))])), (pa, .inl (cyI, 6, .inl (upd fp2_9 ((evs.drop 1).length) (nI pt)))), (va, .inl (cyI, 6, .inl (upd fv2_9 ((evs.drop 1).length) x)))] H := hP
      have hD : va_D A [(h0, .inr (1, [.ref pa, .ref va, .int (nI (((evs.drop 1).length) + 1)), .int (nI (ans - 1))])), (pa, .inl (cyI, 6, .inl (upd fp2_9 ((evs.drop 1).length) (nI pt)))), (va, .inl (cyI, 6, .inl (upd fv2_9 ((evs.drop 1).length) x)))] := hD
      have ew9 : ([(h0, .inr (1, [.ref pa, .ref va, .int (nI ((apE evs pt x).length)), .int (nI (apA evs ans))])), (pa, .inl (cyI, 6, .inl (upd fp2_9 ((evs.drop 1).length) (nI pt)))), (va, .inl (cyI, 6, .inl (upd fv2_9 ((evs.drop 1).length) x)))] : va_W) = [(h0, .inr (1, [.ref pa, .ref va, .int (nI (((evs.drop 1).length) + 1)), .int (nI (ans - 1))])), (pa, .inl (cyI, 6, .inl (upd fp2_9 ((evs.drop 1).length) (nI pt)))), (va, .inl (cyI, 6, .inl (upd fv2_9 ((evs.drop 1).length) x)))] := by rw [apE_f c4, apA_f c4]; simp
      have hP : va_P D vwCl [(h0, .inr (1, [.ref pa, .ref va, .int (nI ((apE evs pt x).length)), .int (nI (apA evs ans))])), (pa, .inl (cyI, 6, .inl (upd fp2_9 ((evs.drop 1).length) (nI pt)))), (va, .inl (cyI, 6, .inl (upd fv2_9 ((evs.drop 1).length) x)))] H := by rw [ew9]; exact hP
      have hD : va_D A [(h0, .inr (1, [.ref pa, .ref va, .int (nI ((apE evs pt x).length)), .int (nI (apA evs ans))])), (pa, .inl (cyI, 6, .inl (upd fp2_9 ((evs.drop 1).length) (nI pt)))), (va, .inl (cyI, 6, .inl (upd fv2_9 ((evs.drop 1).length) x)))] := by rw [ew9]; exact hD
      exact ret_v hQ hx hb hr hlocks dX1_append_51 hK hS (upd fp2_9 ((evs.drop 1).length) (nI pt), upd fv2_9 ((evs.drop 1).length) x) (by rw [apE_f c4, apA_f c4]; exact okE_push w9 (by omega) hpt) hP hD
set_option maxHeartbeats 4000000 in
set_option maxRecDepth 100000 in
theorem c_X1_markAnswered (l : Launch) (D : va_G) (cyI cyZ : ClassId) (h0 pa va : Nat) (evs : List (Nat × Int32)) (ans : Nat) (fp fv : Nat → Int32) (n : Nat) (ok : okE evs ans fp fv) (hn : ans + n ≤ evs.length) : Cv l D yX1_markAnswered wsX1_markAnswered ({ frames := 1, cells := 0, slots := 0, locals := 30 } : Room) [.ref h0, .int (nI n)] [(h0, .inr (1, [.ref pa, .ref va, .int (nI evs.length), .int (nI ans)])), (pa, .inl (cyI, 6, .inl fp)), (va, .inl (cyI, 6, .inl fv))] (tyL cyI cyZ) (fun _ : Unit => True) (fun _ : Unit => [(h0, .inr (1, [.ref pa, .ref va, .int (nI evs.length), .int (nI (ans + n))])), (pa, .inl (cyI, 6, .inl fp)), (va, .inl (cyI, 6, .inl fv))]) 0 0 := by
  refine mk_Ct (cc := cX1_markAnswered) (maxL := 2) (ret := none) (by decide) rfl rfl ?_
  intro p e s m below meth c A Q ls hx hb hr hts hown hlocks hml hname hA hN hK hP hD hS hQ hl
  have hl : lv_has ls 2 [(0, .ref h0), (1, .int (nI n))] := hl
  have inX1_ : ∀ w ∈ u_ws RX1 TX1 4, w ∈ wsX1_markAnswered := fun w h => List.mem_cons_of_mem _ (List.mem_append_right _ h)
  have fl22 : (Cond.fieldLink RX1 22 "OutStation$EventRow" "answered" "I").before ([.ref h0, .int (nI n)] : List Value).toArray s = true := hts _ (by decide +kernel)
  have fl18 : (Cond.fieldLink RX1 18 "OutStation$EventRow" "count" "I").before ([.ref h0, .int (nI n)] : List Value).toArray s = true := hts _ (by decide +kernel)
  have ml33 : (Cond.methodLink RX1 33 Lib.Math.min.name).before ([.ref h0, .int (nI n)] : List Value).toArray s = true := hts _ (by decide +kernel)
  have stmin : (Cond.static Lib.Math.min.name).before ([.ref h0, .int (nI n)] : List Value).toArray s = true := hts _ (by decide +kernel)
  have iM : (Cond.initialized "java/lang/Math").before ([.ref h0, .int (nI n)] : List Value).toArray s = true := hts _ (by decide +kernel)
  have comin : (Cond.code Lib.Math.min.name Lib.Math.min.code 2 (some .int)).before ([.ref h0, .int (nI n)] : List Value).toArray s = true := hts _ (by decide +kernel)
  have hown : s.vm.findClass RX1 = some m.cls := hown
  obtain ⟨H, eH9⟩ : ∃ H, H = s.heap := ⟨_, rfl⟩
  have hP : va_P D vwCl [(h0, .inr (1, [.ref pa, .ref va, .int (nI evs.length), .int (nI ans)])), (pa, .inl (cyI, 6, .inl fp)), (va, .inl (cyI, 6, .inl fv))] H := by rw [eH9]; exact hP
  have hS : va_S A s.heap H [] := by rw [eH9]; exact hS
  obtain ⟨locs, eL9⟩ : ∃ z : List Loc, z = [] := ⟨_, rfl⟩
  rw [← eH9, ← eL9]
  have hS : va_S A s.heap H locs := by rw [eL9]; exact hS
  obtain ⟨ok1, ok2, ok3, ok4⟩ := id ok
  refine lv_aload_n hx hb dX1_markAnswered_0 rfl (lv_at hl 0 rfl) ?_
  refine lv_aload_n hx hb dX1_markAnswered_1 rfl (lv_at hl 0 rfl) ?_
  refine va_get (D := D) (ci := 1) (v := .int (nI ans)) (C := RX1) (T := TX1) (N := 4) hx hb hts inX1_ hown hK hP 0 rfl rfl 3 (by decide) fl22 (fun _ h9 => h9) rfl dX1_markAnswered_2 ?_
  refine lv_iload_n hx hb dX1_markAnswered_5 rfl (lv_at hl 1 rfl) ?_
  refine nv_iadd hx hb dX1_markAnswered_6 ?_
  refine lv_aload_n hx hb dX1_markAnswered_7 rfl (lv_at hl 0 rfl) ?_
  refine va_get (D := D) (ci := 1) (v := .int (nI evs.length)) (C := RX1) (T := TX1) (N := 4) hx hb hts inX1_ hown hK hP 0 rfl rfl 2 (by decide) fl18 (fun _ h9 => h9) rfl dX1_markAnswered_8 ?_
  refine va_mmin hx hb (by rw [hml]; exact hl.1.symm) hown ml33 stmin iM comin (Nat.le_of_ble_eq_true rfl) (Nat.le_of_ble_eq_true rfl) (Nat.zero_le _) (Nat.zero_le _) dX1_markAnswered_11 ?_
  refine nv_top (y := (nI (min (ans + n) evs.length))) (nI_min (by omega) (by omega)) ?_
  refine nv_top (y := (nI (ans + n))) (by rw [show min (ans + n) evs.length = ans + n by omega]) ?_
  refine va_put (D := D) (ci := 1) (v := .int (nI (ans + n))) (ty := .int) (C := RX1) (T := TX1) (N := 4) hx hb hts inX1_ tyX1 tyX1_ok nmX1 hown hK hP hD hS 0 rfl rfl 3 (by decide) fl22 (fun _ h9 => h9) rfl (by decide +kernel) rfl rfl (Nat.le_of_ble_eq_true rfl) dX1_markAnswered_14 (fun H locs hP hD hS => ?_)
  have hP : va_P D vwCl [(h0, .inr (1, [.ref pa, .ref va, .int (nI evs.length), .int (nI (ans + n))])), (pa, .inl (cyI, 6, .inl fp)), (va, .inl (cyI, 6, .inl fv))] H := hP
  have hD : va_D A [(h0, .inr (1, [.ref pa, .ref va, .int (nI evs.length), .int (nI (ans + n))])), (pa, .inl (cyI, 6, .inl fp)), (va, .inl (cyI, 6, .inl fv))] := hD
  exact ret_v hQ hx hb hr hlocks dX1_markAnswered_17 hK hS () (trivial) hP hD
set_option maxHeartbeats 4000000 in
set_option maxRecDepth 100000 in
theorem c_X1_dropAnswered (l : Launch) (D : va_G) (cyI cyZ : ClassId) (h0 pa va : Nat) (evs : List (Nat × Int32)) (ans : Nat) (fp fv : Nat → Int32) (ok : okE evs ans fp fv) : Cv l D yX1_dropAnswered wsX1_dropAnswered ({ frames := 2, cells := 0, slots := 0, locals := 90 } : Room) [.ref h0] [(h0, .inr (1, [.ref pa, .ref va, .int (nI evs.length), .int (nI ans)])), (pa, .inl (cyI, 6, .inl fp)), (va, .inl (cyI, 6, .inl fv))] (tyL cyI cyZ) (fun u : (Nat → Int32) × (Nat → Int32) => match u with | (fp2, fv2) => okE (evs.drop ans) (ans - ans) fp2 fv2) (fun u : (Nat → Int32) × (Nat → Int32) => match u with | (fp2, fv2) => [(h0, .inr (1, [.ref pa, .ref va, .int (nI ((evs.drop ans).length)), .int (nI (ans - ans))])), (pa, .inl (cyI, 6, .inl fp2)), (va, .inl (cyI, 6, .inl fv2))]) 0 0 := by
  refine mk_Ct (cc := cX1_dropAnswered) (maxL := 1) (ret := none) (by decide) rfl rfl ?_
  intro p e s m below meth c A Q ls hx hb hr hts hown hlocks hml hname hA hN hK hP hD hS hQ hl
  have hl : lv_has ls 1 [(0, .ref h0)] := hl
  have inX1_ : ∀ w ∈ u_ws RX1 TX1 4, w ∈ wsX1_dropAnswered := fun w h => List.mem_cons_of_mem _ (List.mem_append_right _ h)
  have fl22 : (Cond.fieldLink RX1 22 "OutStation$EventRow" "answered" "I").before ([.ref h0] : List Value).toArray s = true := hts _ (by decide +kernel)
  have hown : s.vm.findClass RX1 = some m.cls := hown
  obtain ⟨H, eH9⟩ : ∃ H, H = s.heap := ⟨_, rfl⟩
  have hP : va_P D vwCl [(h0, .inr (1, [.ref pa, .ref va, .int (nI evs.length), .int (nI ans)])), (pa, .inl (cyI, 6, .inl fp)), (va, .inl (cyI, 6, .inl fv))] H := by rw [eH9]; exact hP
  have hS : va_S A s.heap H [] := by rw [eH9]; exact hS
  obtain ⟨locs, eL9⟩ : ∃ z : List Loc, z = [] := ⟨_, rfl⟩
  rw [← eH9, ← eL9]
  have hS : va_S A s.heap H locs := by rw [eL9]; exact hS
  obtain ⟨ok1, ok2, ok3, ok4⟩ := id ok
  refine lv_aload_n hx hb dX1_dropAnswered_0 rfl (lv_at hl 0 rfl) ?_
  refine lv_aload_n hx hb dX1_dropAnswered_1 rfl (lv_at hl 0 rfl) ?_
  refine va_get (D := D) (ci := 1) (v := .int (nI ans)) (C := RX1) (T := TX1) (N := 4) hx hb hts inX1_ hown hK hP 0 rfl rfl 3 (by decide) fl22 (fun _ h9 => h9) rfl dX1_dropAnswered_2 ?_
  refine res_v (wW := [(h0, .inr (1, [.ref pa, .ref va, .int (nI evs.length), .int (nI ans)])), (pa, .inl (cyI, 6, .inl fp)), (va, .inl (cyI, 6, .inl fv))]) (Wc := [(h0, .inr (1, [.ref pa, .ref va, .int (nI evs.length), .int (nI ans)])), (pa, .inl (cyI, 6, .inl fp)), (va, .inl (cyI, 6, .inl fv))]) (Wr := []) (run_V (QA := fun A => va_Qv _ (bw D _ (tyL cyI cyZ) A) A) (rmC := ({ frames := 1, cells := 0, slots := 0, locals := 60 } : Room)) (mc := 0) (ms := 0) (As := [.int (nI ans)]) (rest := []) (ci := 1) (wW := [(h0, .inr (1, [.ref pa, .ref va, .int (nI evs.length), .int (nI ans)])), (pa, .inl (cyI, 6, .inl fp)), (va, .inl (cyI, 6, .inl fv))]) (Wc := [(h0, .inr (1, [.ref pa, .ref va, .int (nI evs.length), .int (nI ans)])), (pa, .inl (cyI, 6, .inl fp)), (va, .inl (cyI, 6, .inl fv))]) ⟨hx, hb, hml, hown, hts⟩ (c_X1_dropFirst l D cyI cyZ h0 pa va evs ans fp fv ans (by assumption) (by omega)) (cwV 1 hts gX1_dropAnswered_X1_dropFirst rfl rfl rfl (by decide +kernel) ⟨Nat.le_of_ble_eq_true rfl, Nat.le_of_ble_eq_true rfl⟩) hN hK hP hD [0, 1, 2] rfl (by decide) 0 rfl rfl rfl hl.1 rfl rfl dX1_dropAnswered_5 ⟨Nat.le_of_ble_eq_true rfl, Nat.le_of_ble_eq_true rfl⟩) hP hD hS hA [0, 1, 2] [] rfl rfl (by decide) (by decide) (fun u9 H locs w5 hP hD hS => ?_)
  obtain ⟨fp2_5, fv2_5⟩ := u9
  have w5 : okE (evs.drop ans) (ans - ans) fp2_5 fv2_5 := w5
  have hP : va_P D vwCl [(h0, .inr (1, [.ref pa, .ref va, .int (nI ((evs.drop ans).length)), .int (nI (ans - ans))])), (pa, .inl (cyI, 6, .inl fp2_5)), (va, .inl (cyI, 6, .inl fv2_5))] H := hP
  have hD : va_D A [(h0, .inr (1, [.ref pa, .ref va, .int (nI ((evs.drop ans).length)), .int (nI (ans - ans))])), (pa, .inl (cyI, 6, .inl fp2_5)), (va, .inl (cyI, 6, .inl fv2_5))] := hD
  exact ret_v hQ hx hb hr hlocks dX1_dropAnswered_8 hK hS (fp2_5, fv2_5) (w5) hP hD
