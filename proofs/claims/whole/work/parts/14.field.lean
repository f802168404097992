/-! OWN ROWS, written by wip/gen (walk.py, spec_a.py) -/
set_option maxHeartbeats 4000000 in
set_option maxRecDepth 100000 in
theorem c_X2_has (l : Launch) (D : va_G) (cyI cyZ : ClassId) (h0 : Nat) (k x : Int32) : Ci l D yX2_has wsX2_has ({ frames := 0, cells := 0, slots := 0, locals := 0 } : Room) [.ref h0, .int k, .int x] [] (tyL cyI cyZ) (fun (r : Int32) (_ : Unit) => r = bI (hasI k x)) (fun _ : Unit => []) 0 0 := by
  refine mk_Ct (cc := cX2_has) (maxL := 3) (ret := (some .boolean)) (by decide) rfl rfl ?_
  intro p e s m below meth c A Q ls hx hb hr hts hown hlocks hml hname hA hN hK hP hD hS hQ hl
  have hl : lv_has ls 3 [(0, .ref h0), (1, .int k), (2, .int x)] := hl
  have hown : s.vm.findClass RX2 = some m.cls := hown
  obtain ⟨H, eH9⟩ : ∃ H, H = s.heap := ⟨_, rfl⟩
  have hP : va_P D vwCl [] H := by rw [eH9]; exact hP
  have hS : va_S A s.heap H [] := by rw [eH9]; exact hS
  obtain ⟨locs, eL9⟩ : ∃ z : List Loc, z = [] := ⟨_, rfl⟩
  rw [← eH9, ← eL9]
  have hS : va_S A s.heap H locs := by rw [eL9]; exact hS
  refine lv_iload_n hx hb dX2_has_0 rfl (lv_at hl 1 rfl) ?_
  refine lv_if_lt (tgt := 32) hx hb dX2_has_1 (by decide) (fun c1 => ?_) (fun c1 => ?_)
  · skip
    refine lv_iconst (v := (nI 0)) hx hb dX2_has_32 (by decide) ?_
    exact ret_z hQ hx hb hr hlocks dX2_has_33 hK hS (rfl) () ((bI_f (fun z => hasI_no1 z c1)).symm) hP hD
  · skip
    refine lv_iload_n hx hb dX2_has_4 rfl (lv_at hl 1 rfl) ?_
    refine lv_iconst (v := (nI 2)) hx hb dX2_has_5 (by decide) ?_
    refine lv_icmp_gt (tgt := 32) hx hb dX2_has_6 (by decide) (fun c6 => ?_) (fun c6 => ?_)
    · skip
      refine lv_iconst (v := (nI 0)) hx hb dX2_has_32 (by decide) ?_
      exact ret_z hQ hx hb hr hlocks dX2_has_33 hK hS (rfl) () ((bI_f (fun z => hasI_no2 z c6)).symm) hP hD
    · skip
      refine lv_iload_n hx hb dX2_has_9 rfl (lv_at hl 2 rfl) ?_
      refine lv_if_lt (tgt := 32) hx hb dX2_has_10 (by decide) (fun c10 => ?_) (fun c10 => ?_)
      · skip
        refine lv_iconst (v := (nI 0)) hx hb dX2_has_32 (by decide) ?_
        exact ret_z hQ hx hb hr hlocks dX2_has_33 hK hS (rfl) () ((bI_f (fun z => hasI_no3 z c10)).symm) hP hD
      · skip
        refine lv_iload_n hx hb dX2_has_13 rfl (lv_at hl 2 rfl) ?_
        refine lv_iload_n hx hb dX2_has_14 rfl (lv_at hl 1 rfl) ?_
        refine lv_iconst (v := (nI 2)) hx hb dX2_has_15 (by decide) ?_
        refine lv_icmp_ne (tgt := 23) hx hb dX2_has_16 (by decide) (fun c16 => ?_) (fun c16 => ?_)
        · skip
          refine lv_bipush (v := (nI 8)) hx hb dX2_has_23 (by decide) ?_
          refine lv_icmp_ge (tgt := 32) hx hb dX2_has_25 (by decide) (fun c25 => ?_) (fun c25 => ?_)
          · skip
            refine lv_iconst (v := (nI 0)) hx hb dX2_has_32 (by decide) ?_
            exact ret_z hQ hx hb hr hlocks dX2_has_33 hK hS (rfl) () ((bI_f (fun z => hasI_no4 z c16 c25)).symm) hP hD
          · skip
            refine lv_iconst (v := (nI 1)) hx hb dX2_has_28 (by decide) ?_
            refine lv_goto (tgt := 33) hx hb dX2_has_29 (by decide) ?_
            exact ret_z hQ hx hb hr hlocks dX2_has_33 hK hS (rfl) () ((bI_t (hasI_y4 c1 c6 c10 c16 c25)).symm) hP hD
        · skip
          refine lv_iconst (v := (nI 4)) hx hb dX2_has_19 (by decide) ?_
          refine lv_goto (tgt := 25) hx hb dX2_has_20 (by decide) ?_
          refine lv_icmp_ge (tgt := 32) hx hb dX2_has_25 (by decide) (fun c25 => ?_) (fun c25 => ?_)
          · skip
            refine lv_iconst (v := (nI 0)) hx hb dX2_has_32 (by decide) ?_
            exact ret_z hQ hx hb hr hlocks dX2_has_33 hK hS (rfl) () ((bI_f (fun z => hasI_no5 z c16 c25)).symm) hP hD
          · skip
            refine lv_iconst (v := (nI 1)) hx hb dX2_has_28 (by decide) ?_
            refine lv_goto (tgt := 33) hx hb dX2_has_29 (by decide) ?_
            exact ret_z hQ hx hb hr hlocks dX2_has_33 hK hS (rfl) () ((bI_t (hasI_y5 c1 c6 c10 c16 c25)).symm) hP hD
set_option maxHeartbeats 4000000 in
set_option maxRecDepth 100000 in
theorem c_X2_valuesOf_0 (l : Launch) (D : va_G) (cyI cyZ : ClassId) (h0 ba aa oa eb ea : Nat) (ovf rst : Bool) : Cr l D yX2_valuesOf wsX2_valuesOf ({ frames := 0, cells := 0, slots := 0, locals := 0 } : Room) [.ref h0, .int (nI 0)] [(h0, .inr (2, [.ref ba, .ref aa, .ref oa, .ref eb, .ref ea, .int (bI (ovf = true)), .int (bI (rst = true))]))] (tyL cyI cyZ) ba (fun _ : Unit => True) (fun _ : Unit => [(h0, .inr (2, [.ref ba, .ref aa, .ref oa, .ref eb, .ref ea, .int (bI (ovf = true)), .int (bI (rst = true))]))]) 0 0 := by
  refine mk_Ct (cc := cX2_valuesOf) (maxL := 2) (ret := (some (.array .int))) (by decide) rfl rfl ?_
  intro p e s m below meth c A Q ls hx hb hr hts hown hlocks hml hname hA hN hK hP hD hS hQ hl
  have hl : lv_has ls 2 [(0, .ref h0), (1, .int (nI 0))] := hl
  have inX2_ : ∀ w ∈ u_ws RX2 TX2 7, w ∈ wsX2_valuesOf := fun w h => List.mem_cons_of_mem _ (List.mem_append_right _ h)
  have fl9 : (Cond.fieldLink RX2 9 "OutStation$Field" "binary" "[I").before ([.ref h0, .int (nI 0)] : List Value).toArray s = true := hts _ (by decide +kernel)
  have hown : s.vm.findClass RX2 = some m.cls := hown
  obtain ⟨H, eH9⟩ : ∃ H, H = s.heap := ⟨_, rfl⟩
  have hP : va_P D vwCl [(h0, .inr (2, [.ref ba, .ref aa, .ref oa, .ref eb, .ref ea, .int (bI (ovf = true)), .int (bI (rst = true))]))] H := by rw [eH9]; exact hP
  have hS : va_S A s.heap H [] := by rw [eH9]; exact hS
  obtain ⟨locs, eL9⟩ : ∃ z : List Loc, z = [] := ⟨_, rfl⟩
  rw [← eH9, ← eL9]
  have hS : va_S A s.heap H locs := by rw [eL9]; exact hS
  refine lv_iload_n hx hb dX2_valuesOf_0 rfl (lv_at hl 1 rfl) ?_
  refine nv_if_ne (tgt := 9) hx hb (by omega) dX2_valuesOf_1 (by decide) (fun c1 => ?_) (fun c1 => ?_)
  · exact absurd c1 (by decide)
  · skip
    refine lv_aload_n hx hb dX2_valuesOf_4 rfl (lv_at hl 0 rfl) ?_
    refine va_get (D := D) (ci := 2) (v := .ref ba) (C := RX2) (T := TX2) (N := 7) hx hb hts inX2_ hown hK hP 0 rfl rfl 0 (by decide) fl9 (fun _ h9 => h9) rfl dX2_valuesOf_5 ?_
    exact ret_r hQ hx hb hr hlocks dX2_valuesOf_8 (by first | exact Or.inl ⟨_, rfl⟩ | exact Or.inr ⟨_, rfl⟩) hK hS () (trivial) hP hD
set_option maxHeartbeats 4000000 in
set_option maxRecDepth 100000 in
theorem c_X2_valuesOf_1 (l : Launch) (D : va_G) (cyI cyZ : ClassId) (h0 ba aa oa eb ea : Nat) (ovf rst : Bool) : Cr l D yX2_valuesOf wsX2_valuesOf ({ frames := 0, cells := 0, slots := 0, locals := 0 } : Room) [.ref h0, .int (nI 1)] [(h0, .inr (2, [.ref ba, .ref aa, .ref oa, .ref eb, .ref ea, .int (bI (ovf = true)), .int (bI (rst = true))]))] (tyL cyI cyZ) aa (fun _ : Unit => True) (fun _ : Unit => [(h0, .inr (2, [.ref ba, .ref aa, .ref oa, .ref eb, .ref ea, .int (bI (ovf = true)), .int (bI (rst = true))]))]) 0 0 := by
  refine mk_Ct (cc := cX2_valuesOf) (maxL := 2) (ret := (some (.array .int))) (by decide) rfl rfl ?_
  intro p e s m below meth c A Q ls hx hb hr hts hown hlocks hml hname hA hN hK hP hD hS hQ hl
  have hl : lv_has ls 2 [(0, .ref h0), (1, .int (nI 1))] := hl
  have inX2_ : ∀ w ∈ u_ws RX2 TX2 7, w ∈ wsX2_valuesOf := fun w h => List.mem_cons_of_mem _ (List.mem_append_right _ h)
  have fl15 : (Cond.fieldLink RX2 15 "OutStation$Field" "analog" "[I").before ([.ref h0, .int (nI 1)] : List Value).toArray s = true := hts _ (by decide +kernel)
  have hown : s.vm.findClass RX2 = some m.cls := hown
  obtain ⟨H, eH9⟩ : ∃ H, H = s.heap := ⟨_, rfl⟩
  have hP : va_P D vwCl [(h0, .inr (2, [.ref ba, .ref aa, .ref oa, .ref eb, .ref ea, .int (bI (ovf = true)), .int (bI (rst = true))]))] H := by rw [eH9]; exact hP
  have hS : va_S A s.heap H [] := by rw [eH9]; exact hS
  obtain ⟨locs, eL9⟩ : ∃ z : List Loc, z = [] := ⟨_, rfl⟩
  rw [← eH9, ← eL9]
  have hS : va_S A s.heap H locs := by rw [eL9]; exact hS
  refine lv_iload_n hx hb dX2_valuesOf_0 rfl (lv_at hl 1 rfl) ?_
  refine nv_if_ne (tgt := 9) hx hb (by omega) dX2_valuesOf_1 (by decide) (fun c1 => ?_) (fun c1 => ?_)
  · skip
    refine lv_iload_n hx hb dX2_valuesOf_9 rfl (lv_at hl 1 rfl) ?_
    refine lv_iconst (v := (nI 1)) hx hb dX2_valuesOf_10 (by decide) ?_
    refine nv_icmp_ne (tgt := 21) hx hb (by omega) (by omega) dX2_valuesOf_11 (by decide) (fun c11 => ?_) (fun c11 => ?_)
    · exact absurd c11 (by decide)
    · skip
      refine lv_aload_n hx hb dX2_valuesOf_14 rfl (lv_at hl 0 rfl) ?_
      refine va_get (D := D) (ci := 2) (v := .ref aa) (C := RX2) (T := TX2) (N := 7) hx hb hts inX2_ hown hK hP 0 rfl rfl 1 (by decide) fl15 (fun _ h9 => h9) rfl dX2_valuesOf_15 ?_
      refine lv_goto (tgt := 25) hx hb dX2_valuesOf_18 (by decide) ?_
      exact ret_r hQ hx hb hr hlocks dX2_valuesOf_25 (by first | exact Or.inl ⟨_, rfl⟩ | exact Or.inr ⟨_, rfl⟩) hK hS () (trivial) hP hD
  · exact absurd c1 (by decide)
set_option maxHeartbeats 4000000 in
set_option maxRecDepth 100000 in
theorem c_X2_valuesOf_2 (l : Launch) (D : va_G) (cyI cyZ : ClassId) (h0 ba aa oa eb ea : Nat) (ovf rst : Bool) : Cr l D yX2_valuesOf wsX2_valuesOf ({ frames := 0, cells := 0, slots := 0, locals := 0 } : Room) [.ref h0, .int (nI 2)] [(h0, .inr (2, [.ref ba, .ref aa, .ref oa, .ref eb, .ref ea, .int (bI (ovf = true)), .int (bI (rst = true))]))] (tyL cyI cyZ) oa (fun _ : Unit => True) (fun _ : Unit => [(h0, .inr (2, [.ref ba, .ref aa, .ref oa, .ref eb, .ref ea, .int (bI (ovf = true)), .int (bI (rst = true))]))]) 0 0 := by
  refine mk_Ct (cc := cX2_valuesOf) (maxL := 2) (ret := (some (.array .int))) (by decide) rfl rfl ?_
  intro p e s m below meth c A Q ls hx hb hr hts hown hlocks hml hname hA hN hK hP hD hS hQ hl
  have hl : lv_has ls 2 [(0, .ref h0), (1, .int (nI 2))] := hl
  have inX2_ : ∀ w ∈ u_ws RX2 TX2 7, w ∈ wsX2_valuesOf := fun w h => List.mem_cons_of_mem _ (List.mem_append_right _ h)
  have fl18 : (Cond.fieldLink RX2 18 "OutStation$Field" "outputs" "[I").before ([.ref h0, .int (nI 2)] : List Value).toArray s = true := hts _ (by decide +kernel)
  have hown : s.vm.findClass RX2 = some m.cls := hown
  obtain ⟨H, eH9⟩ : ∃ H, H = s.heap := ⟨_, rfl⟩
  have hP : va_P D vwCl [(h0, .inr (2, [.ref ba, .ref aa, .ref oa, .ref eb, .ref ea, .int (bI (ovf = true)), .int (bI (rst = true))]))] H := by rw [eH9]; exact hP
  have hS : va_S A s.heap H [] := by rw [eH9]; exact hS
  obtain ⟨locs, eL9⟩ : ∃ z : List Loc, z = [] := ⟨_, rfl⟩
  rw [← eH9, ← eL9]
  have hS : va_S A s.heap H locs := by rw [eL9]; exact hS
  refine lv_iload_n hx hb dX2_valuesOf_0 rfl (lv_at hl 1 rfl) ?_
  refine nv_if_ne (tgt := 9) hx hb (by omega) dX2_valuesOf_1 (by decide) (fun c1 => ?_) (fun c1 => ?_)
  · skip
    refine lv_iload_n hx hb dX2_valuesOf_9 rfl (lv_at hl 1 rfl) ?_
    refine lv_iconst (v := (nI 1)) hx hb dX2_valuesOf_10 (by decide) ?_
    refine nv_icmp_ne (tgt := 21) hx hb (by omega) (by omega) dX2_valuesOf_11 (by decide) (fun c11 => ?_) (fun c11 => ?_)
    · skip
      refine lv_aload_n hx hb dX2_valuesOf_21 rfl (lv_at hl 0 rfl) ?_
      refine va_get (D := D) (ci := 2) (v := .ref oa) (C := RX2) (T := TX2) (N := 7) hx hb hts inX2_ hown hK hP 0 rfl rfl 2 (by decide) fl18 (fun _ h9 => h9) rfl dX2_valuesOf_22 ?_
      exact ret_r hQ hx hb hr hlocks dX2_valuesOf_25 (by first | exact Or.inl ⟨_, rfl⟩ | exact Or.inr ⟨_, rfl⟩) hK hS () (trivial) hP hD
    · exact absurd c11 (by decide)
  · exact absurd c1 (by decide)
set_option maxHeartbeats 4000000 in
set_option maxRecDepth 100000 in
theorem c_X2_eventsOf_0 (l : Launch) (D : va_G) (cyI cyZ : ClassId) (h0 ba aa oa eb ea : Nat) (ovf rst : Bool) : Cr l D yX2_eventsOf wsX2_eventsOf ({ frames := 0, cells := 0, slots := 0, locals := 0 } : Room) [.ref h0, .int (nI 0)] [(h0, .inr (2, [.ref ba, .ref aa, .ref oa, .ref eb, .ref ea, .int (bI (ovf = true)), .int (bI (rst = true))]))] (tyL cyI cyZ) eb (fun _ : Unit => True) (fun _ : Unit => [(h0, .inr (2, [.ref ba, .ref aa, .ref oa, .ref eb, .ref ea, .int (bI (ovf = true)), .int (bI (rst = true))]))]) 0 0 := by
  refine mk_Ct (cc := cX2_eventsOf) (maxL := 2) (ret := (some (.object "OutStation$EventRow"))) (by decide) rfl rfl ?_
  intro p e s m below meth c A Q ls hx hb hr hts hown hlocks hml hname hA hN hK hP hD hS hQ hl
  have hl : lv_has ls 2 [(0, .ref h0), (1, .int (nI 0))] := hl
  have inX2_ : ∀ w ∈ u_ws RX2 TX2 7, w ∈ wsX2_eventsOf := fun w h => List.mem_cons_of_mem _ (List.mem_append_right _ h)
  have fl24 : (Cond.fieldLink RX2 24 "OutStation$Field" "binaryEvents" "LOutStation$EventRow;").before ([.ref h0, .int (nI 0)] : List Value).toArray s = true := hts _ (by decide +kernel)
  have hown : s.vm.findClass RX2 = some m.cls := hown
  obtain ⟨H, eH9⟩ : ∃ H, H = s.heap := ⟨_, rfl⟩
  have hP : va_P D vwCl [(h0, .inr (2, [.ref ba, .ref aa, .ref oa, .ref eb, .ref ea, .int (bI (ovf = true)), .int (bI (rst = true))]))] H := by rw [eH9]; exact hP
  have hS : va_S A s.heap H [] := by rw [eH9]; exact hS
  obtain ⟨locs, eL9⟩ : ∃ z : List Loc, z = [] := ⟨_, rfl⟩
  rw [← eH9, ← eL9]
  have hS : va_S A s.heap H locs := by rw [eL9]; exact hS
  refine lv_iload_n hx hb dX2_eventsOf_0 rfl (lv_at hl 1 rfl) ?_
  refine nv_if_ne (tgt := 11) hx hb (by omega) dX2_eventsOf_1 (by decide) (fun c1 => ?_) (fun c1 => ?_)
  · exact absurd c1 (by decide)
  · skip
    refine lv_aload_n hx hb dX2_eventsOf_4 rfl (lv_at hl 0 rfl) ?_
    refine va_get (D := D) (ci := 2) (v := .ref eb) (C := RX2) (T := TX2) (N := 7) hx hb hts inX2_ hown hK hP 0 rfl rfl 3 (by decide) fl24 (fun _ h9 => h9) rfl dX2_eventsOf_5 ?_
    refine lv_goto (tgt := 15) hx hb dX2_eventsOf_8 (by decide) ?_
    exact ret_r hQ hx hb hr hlocks dX2_eventsOf_15 (by first | exact Or.inl ⟨_, rfl⟩ | exact Or.inr ⟨_, rfl⟩) hK hS () (trivial) hP hD
set_option maxHeartbeats 4000000 in
set_option maxRecDepth 100000 in
theorem c_X2_eventsOf_1 (l : Launch) (D : va_G) (cyI cyZ : ClassId) (h0 ba aa oa eb ea : Nat) (ovf rst : Bool) : Cr l D yX2_eventsOf wsX2_eventsOf ({ frames := 0, cells := 0, slots := 0, locals := 0 } : Room) [.ref h0, .int (nI 1)] [(h0, .inr (2, [.ref ba, .ref aa, .ref oa, .ref eb, .ref ea, .int (bI (ovf = true)), .int (bI (rst = true))]))] (tyL cyI cyZ) ea (fun _ : Unit => True) (fun _ : Unit => [(h0, .inr (2, [.ref ba, .ref aa, .ref oa, .ref eb, .ref ea, .int (bI (ovf = true)), .int (bI (rst = true))]))]) 0 0 := by
  refine mk_Ct (cc := cX2_eventsOf) (maxL := 2) (ret := (some (.object "OutStation$EventRow"))) (by decide) rfl rfl ?_
  intro p e s m below meth c A Q ls hx hb hr hts hown hlocks hml hname hA hN hK hP hD hS hQ hl
  have hl : lv_has ls 2 [(0, .ref h0), (1, .int (nI 1))] := hl
  have inX2_ : ∀ w ∈ u_ws RX2 TX2 7, w ∈ wsX2_eventsOf := fun w h => List.mem_cons_of_mem _ (List.mem_append_right _ h)
  have fl28 : (Cond.fieldLink RX2 28 "OutStation$Field" "analogEvents" "LOutStation$EventRow;").before ([.ref h0, .int (nI 1)] : List Value).toArray s = true := hts _ (by decide +kernel)
  have hown : s.vm.findClass RX2 = some m.cls := hown
  obtain ⟨H, eH9⟩ : ∃ H, H = s.heap := ⟨_, rfl⟩
  have hP : va_P D vwCl [(h0, .inr (2, [.ref ba, .ref aa, .ref oa, .ref eb, .ref ea, .int (bI (ovf = true)), .int (bI (rst = true))]))] H := by rw [eH9]; exact hP
  have hS : va_S A s.heap H [] := by rw [eH9]; exact hS
  obtain ⟨locs, eL9⟩ : ∃ z : List Loc, z = [] := ⟨_, rfl⟩
  rw [← eH9, ← eL9]
  have hS : va_S A s.heap H locs := by rw [eL9]; exact hS
  refine lv_iload_n hx hb dX2_eventsOf_0 rfl (lv_at hl 1 rfl) ?_
  refine nv_if_ne (tgt := 11) hx hb (by omega) dX2_eventsOf_1 (by decide) (fun c1 => ?_) (fun c1 => ?_)
  · skip
    refine lv_aload_n hx hb dX2_eventsOf_11 rfl (lv_at hl 0 rfl) ?_
    refine va_get (D := D) (ci := 2) (v := .ref ea) (C := RX2) (T := TX2) (N := 7) hx hb hts inX2_ hown hK hP 0 rfl rfl 4 (by decide) fl28 (fun _ h9 => h9) rfl dX2_eventsOf_12 ?_
    exact ret_r hQ hx hb hr hlocks dX2_eventsOf_15 (by first | exact Or.inl ⟨_, rfl⟩ | exact Or.inr ⟨_, rfl⟩) hK hS () (trivial) hP hD
  · exact absurd c1 (by decide)
set_option maxHeartbeats 4000000 in
set_option maxRecDepth 100000 in
theorem c_X2_overflowSign (l : Launch) (D : va_G) (cyI cyZ : ClassId) (h0 ba aa oa eb ea : Nat) (ovf rst : Bool) : Ci l D yX2_overflowSign wsX2_overflowSign ({ frames := 0, cells := 0, slots := 0, locals := 0 } : Room) [.ref h0] [(h0, .inr (2, [.ref ba, .ref aa, .ref oa, .ref eb, .ref ea, .int (bI (ovf = true)), .int (bI (rst = true))]))] (tyL cyI cyZ) (fun (r : Int32) (_ : Unit) => r = nI (if ovf = true then 8 else 0)) (fun _ : Unit => [(h0, .inr (2, [.ref ba, .ref aa, .ref oa, .ref eb, .ref ea, .int (bI (ovf = true)), .int (bI (rst = true))]))]) 0 0 := by
  refine mk_Ct (cc := cX2_overflowSign) (maxL := 1) (ret := (some .int)) (by decide) rfl rfl ?_
  intro p e s m below meth c A Q ls hx hb hr hts hown hlocks hml hname hA hN hK hP hD hS hQ hl
  have hl : lv_has ls 1 [(0, .ref h0)] := hl
  have inX2_ : ∀ w ∈ u_ws RX2 TX2 7, w ∈ wsX2_overflowSign := fun w h => List.mem_cons_of_mem _ (List.mem_append_right _ h)
  have fl31 : (Cond.fieldLink RX2 31 "OutStation$Field" "overflow" "Z").before ([.ref h0] : List Value).toArray s = true := hts _ (by decide +kernel)
  have hown : s.vm.findClass RX2 = some m.cls := hown
  obtain ⟨H, eH9⟩ : ∃ H, H = s.heap := ⟨_, rfl⟩
  have hP : va_P D vwCl [(h0, .inr (2, [.ref ba, .ref aa, .ref oa, .ref eb, .ref ea, .int (bI (ovf = true)), .int (bI (rst = true))]))] H := by rw [eH9]; exact hP
  have hS : va_S A s.heap H [] := by rw [eH9]; exact hS
  obtain ⟨locs, eL9⟩ : ∃ z : List Loc, z = [] := ⟨_, rfl⟩
  rw [← eH9, ← eL9]
  have hS : va_S A s.heap H locs := by rw [eL9]; exact hS
  refine lv_aload_n hx hb dX2_overflowSign_0 rfl (lv_at hl 0 rfl) ?_
  refine va_get (D := D) (ci := 2) (v := .int (bI (ovf = true))) (C := RX2) (T := TX2) (N := 7) hx hb hts inX2_ hown hK hP 0 rfl rfl 5 (by decide) fl31 (fun _ h9 => h9) rfl dX2_overflowSign_1 ?_
  refine bv_if_eq (tgt := 12) hx hb dX2_overflowSign_4 (by decide) (fun c4 => ?_) (fun c4 => ?_)
  · skip
    refine lv_iconst (v := (nI 0)) hx hb dX2_overflowSign_12 (by decide) ?_
    exact ret_i hQ hx hb hr hlocks dX2_overflowSign_13 hK hS () (by simp_all) hP hD
  · skip
    refine lv_bipush (v := (nI 8)) hx hb dX2_overflowSign_7 (by decide) ?_
    refine lv_goto (tgt := 13) hx hb dX2_overflowSign_9 (by decide) ?_
    exact ret_i hQ hx hb hr hlocks dX2_overflowSign_13 hK hS () (by simp_all) hP hD
set_option maxHeartbeats 4000000 in
set_option maxRecDepth 100000 in
theorem c_X2_endRestart (l : Launch) (D : va_G) (cyI cyZ : ClassId) (h0 ba aa oa eb ea : Nat) (ovf rst : Bool) : Cv l D yX2_endRestart wsX2_endRestart ({ frames := 0, cells := 0, slots := 0, locals := 0 } : Room) [.ref h0] [(h0, .inr (2, [.ref ba, .ref aa, .ref oa, .ref eb, .ref ea, .int (bI (ovf = true)), .int (bI (rst = true))]))] (tyL cyI cyZ) (fun _ : Unit => True) (fun _ : Unit => [(h0, .inr (2, [.ref ba, .ref aa, .ref oa, .ref eb, .ref ea, .int (bI (ovf = true)), .int (bI (false = true))]))]) 0 0 := by
  refine mk_Ct (cc := cX2_endRestart) (maxL := 1) (ret := none) (by decide) rfl rfl ?_
  intro p e s m below meth c A Q ls hx hb hr hts hown hlocks hml hname hA hN hK hP hD hS hQ hl
  have hl : lv_has ls 1 [(0, .ref h0)] := hl
  have inX2_ : ∀ w ∈ u_ws RX2 TX2 7, w ∈ wsX2_endRestart := fun w h => List.mem_cons_of_mem _ (List.mem_append_right _ h)
  have fl35 : (Cond.fieldLink RX2 35 "OutStation$Field" "restart" "Z").before ([.ref h0] : List Value).toArray s = true := hts _ (by decide +kernel)
  have hown : s.vm.findClass RX2 = some m.cls := hown
  obtain ⟨H, eH9⟩ : ∃ H, H = s.heap := ⟨_, rfl⟩
  have hP : va_P D vwCl [(h0, .inr (2, [.ref ba, .ref aa, .ref oa, .ref eb, .ref ea, .int (bI (ovf = true)), .int (bI (rst = true))]))] H := by rw [eH9]; exact hP
  have hS : va_S A s.heap H [] := by rw [eH9]; exact hS
  obtain ⟨locs, eL9⟩ : ∃ z : List Loc, z = [] := ⟨_, rfl⟩
  rw [← eH9, ← eL9]
  have hS : va_S A s.heap H locs := by rw [eL9]; exact hS
  refine lv_aload_n hx hb dX2_endRestart_0 rfl (lv_at hl 0 rfl) ?_
  refine lv_iconst (v := (nI 0)) hx hb dX2_endRestart_1 (by decide) ?_
  refine va_put (D := D) (ci := 2) (v := .int (nI 0)) (ty := .boolean) (C := RX2) (T := TX2) (N := 7) hx hb hts inX2_ tyX2 tyX2_ok nmX2 hown hK hP hD hS 0 rfl rfl 6 (by decide) fl35 (fun _ h9 => h9) rfl (by decide +kernel) rfl rfl (Nat.le_of_ble_eq_true rfl) dX2_endRestart_2 (fun H locs hP hD hS => ?_)
  have hP : va_P D vwCl [(h0, .inr (2, [.ref ba, .ref aa, .ref oa, .ref eb, .ref ea, .int (bI (ovf = true)), .int (nI 0)]))] H := hP
  have hD : va_D A [(h0, .inr (2, [.ref ba, .ref aa, .ref oa, .ref eb, .ref ea, .int (bI (ovf = true)), .int (nI 0)]))] := hD
  have ew9 : ([(h0, .inr (2, [.ref ba, .ref aa, .ref oa, .ref eb, .ref ea, .int (bI (ovf = true)), .int (bI (false = true))]))] : va_W) = [(h0, .inr (2, [.ref ba, .ref aa, .ref oa, .ref eb, .ref ea, .int (bI (ovf = true)), .int (nI 0)]))] := by rfl
  have hP : va_P D vwCl [(h0, .inr (2, [.ref ba, .ref aa, .ref oa, .ref eb, .ref ea, .int (bI (ovf = true)), .int (bI (false = true))]))] H := by rw [ew9]; exact hP
  have hD : va_D A [(h0, .inr (2, [.ref ba, .ref aa, .ref oa, .ref eb, .ref ea, .int (bI (ovf = true)), .int (bI (false = true))]))] := by rw [ew9]; exact hD
  exact ret_v hQ hx hb hr hlocks dX2_endRestart_5 hK hS () (trivial) hP hD
set_option maxHeartbeats 4000000 in
set_option maxRecDepth 100000 in
theorem c_X2_valueOf_0 (l : Launch) (D : va_G) (cyI cyZ : ClassId) (h0 ba aa oa eb ea : Nat) (ovf rst : Bool) (fb : Nat → Int32) (x : Nat) (hxx : x < 8) : Ci l D yX2_valueOf wsX2_valueOf ({ frames := 1, cells := 0, slots := 0, locals := 24 } : Room) [.ref h0, .int (nI 0), .int (nI x)] [(h0, .inr (2, [.ref ba, .ref aa, .ref oa, .ref eb, .ref ea, .int (bI (ovf = true)), .int (bI (rst = true))])), (ba, .inl (cyI, 8, .inl fb))] (tyL cyI cyZ) (fun (r : Int32) (_ : Unit) => r = fb x) (fun _ : Unit => [(h0, .inr (2, [.ref ba, .ref aa, .ref oa, .ref eb, .ref ea, .int (bI (ovf = true)), .int (bI (rst = true))])), (ba, .inl (cyI, 8, .inl fb))]) 0 0 := by
  refine mk_Ct (cc := cX2_valueOf) (maxL := 3) (ret := (some .int)) (by decide) rfl rfl ?_
  intro p e s m below meth c A Q ls hx hb hr hts hown hlocks hml hname hA hN hK hP hD hS hQ hl
  have hl : lv_has ls 3 [(0, .ref h0), (1, .int (nI 0)), (2, .int (nI x))] := hl
  have hown : s.vm.findClass RX2 = some m.cls := hown
  obtain ⟨H, eH9⟩ : ∃ H, H = s.heap := ⟨_, rfl⟩
  have hP : va_P D vwCl [(h0, .inr (2, [.ref ba, .ref aa, .ref oa, .ref eb, .ref ea, .int (bI (ovf = true)), .int (bI (rst = true))])), (ba, .inl (cyI, 8, .inl fb))] H := by rw [eH9]; exact hP
  have hS : va_S A s.heap H [] := by rw [eH9]; exact hS
  obtain ⟨locs, eL9⟩ : ∃ z : List Loc, z = [] := ⟨_, rfl⟩
  rw [← eH9, ← eL9]
  have hS : va_S A s.heap H locs := by rw [eL9]; exact hS
  refine lv_aload_n hx hb dX2_valueOf_0 rfl (lv_at hl 0 rfl) ?_
  refine lv_iload_n hx hb dX2_valueOf_1 rfl (lv_at hl 1 rfl) ?_
  refine lv_iload_n hx hb dX2_valueOf_2 rfl (lv_at hl 2 rfl) ?_
  refine res_i (wW := [(h0, .inr (2, [.ref ba, .ref aa, .ref oa, .ref eb, .ref ea, .int (bI (ovf = true)), .int (bI (rst = true))])), (ba, .inl (cyI, 8, .inl fb))]) (Wc := []) (Wr := [(h0, .inr (2, [.ref ba, .ref aa, .ref oa, .ref eb, .ref ea, .int (bI (ovf = true)), .int (bI (rst = true))])), (ba, .inl (cyI, 8, .inl fb))]) (run_V (QA := fun A => va_Qi _ (bw D _ (tyL cyI cyZ) A) A) (rmC := ({ frames := 0, cells := 0, slots := 0, locals := 0 } : Room)) (mc := 0) (ms := 0) (As := [.int (nI 0), .int (nI x)]) (rest := []) (ci := 2) (wW := [(h0, .inr (2, [.ref ba, .ref aa, .ref oa, .ref eb, .ref ea, .int (bI (ovf = true)), .int (bI (rst = true))])), (ba, .inl (cyI, 8, .inl fb))]) (Wc := []) ⟨hx, hb, hml, hown, hts⟩ (c_X2_has l D cyI cyZ h0 (nI 0) (nI x) ) (cwV 2 hts gX2_valueOf_X2_has rfl rfl rfl (by decide +kernel) ⟨Nat.le_of_ble_eq_true rfl, Nat.le_of_ble_eq_true rfl⟩) hN hK hP hD [] rfl (by decide) 0 rfl rfl rfl hl.1 rfl rfl dX2_valueOf_3 ⟨Nat.le_of_ble_eq_true rfl, Nat.le_of_ble_eq_true rfl⟩) hP hD hS hA [] [0, 1] rfl rfl (by decide) (by decide) (fun r3 u9 H locs w3 hP hD hS => ?_)
  have w3 : r3 = bI (hasI (nI 0) (nI x)) := w3
  have hP : va_P D vwCl [(h0, .inr (2, [.ref ba, .ref aa, .ref oa, .ref eb, .ref ea, .int (bI (ovf = true)), .int (bI (rst = true))])), (ba, .inl (cyI, 8, .inl fb))] H := hP
  have hD : va_D A [(h0, .inr (2, [.ref ba, .ref aa, .ref oa, .ref eb, .ref ea, .int (bI (ovf = true)), .int (bI (rst = true))])), (ba, .inl (cyI, 8, .inl fb))] := hD
  refine nv_top (y := (bI (hasI (nI 0) (nI x)))) (w3) ?_
  refine bv_if_eq (tgt := 19) hx hb dX2_valueOf_6 (by decide) (fun c6 => ?_) (fun c6 => ?_)
  · exact absurd (hasI_nI 0 x (by decide) hxx) c6
  · skip
    refine lv_aload_n hx hb dX2_valueOf_9 rfl (lv_at hl 0 rfl) ?_
    refine lv_iload_n hx hb dX2_valueOf_10 rfl (lv_at hl 1 rfl) ?_
    refine res_r (wW := [(h0, .inr (2, [.ref ba, .ref aa, .ref oa, .ref eb, .ref ea, .int (bI (ovf = true)), .int (bI (rst = true))])), (ba, .inl (cyI, 8, .inl fb))]) (Wc := [(h0, .inr (2, [.ref ba, .ref aa, .ref oa, .ref eb, .ref ea, .int (bI (ovf = true)), .int (bI (rst = true))]))]) (Wr := [(ba, .inl (cyI, 8, .inl fb))]) (run_V (QA := fun A => va_Qr _ (fun u a t => a = _ ∧ bw D _ (tyL cyI cyZ) A u t) A) (rmC := ({ frames := 0, cells := 0, slots := 0, locals := 0 } : Room)) (mc := 0) (ms := 0) (As := [.int (nI 0)]) (rest := []) (ci := 2) (wW := [(h0, .inr (2, [.ref ba, .ref aa, .ref oa, .ref eb, .ref ea, .int (bI (ovf = true)), .int (bI (rst = true))])), (ba, .inl (cyI, 8, .inl fb))]) (Wc := [(h0, .inr (2, [.ref ba, .ref aa, .ref oa, .ref eb, .ref ea, .int (bI (ovf = true)), .int (bI (rst = true))]))]) ⟨hx, hb, hml, hown, hts⟩ (c_X2_valuesOf_0 l D cyI cyZ h0 ba aa oa eb ea ovf rst ) (cwV 1 hts gX2_valueOf_X2_valuesOf rfl rfl rfl (by decide +kernel) ⟨Nat.le_of_ble_eq_true rfl, Nat.le_of_ble_eq_true rfl⟩) hN hK hP hD [0] rfl (by decide) 0 rfl rfl rfl hl.1 rfl rfl dX2_valueOf_11 ⟨Nat.le_of_ble_eq_true rfl, Nat.le_of_ble_eq_true rfl⟩) hP hD hS hA [0] [1] rfl rfl (by decide) (by decide) (fun u9 H locs w11 hP hD hS => ?_)
    have w11 : True := w11
    have hP : va_P D vwCl [(ba, .inl (cyI, 8, .inl fb)), (h0, .inr (2, [.ref ba, .ref aa, .ref oa, .ref eb, .ref ea, .int (bI (ovf = true)), .int (bI (rst = true))]))] H := hP
    have hD : va_D A [(ba, .inl (cyI, 8, .inl fb)), (h0, .inr (2, [.ref ba, .ref aa, .ref oa, .ref eb, .ref ea, .int (bI (ovf = true)), .int (bI (rst = true))]))] := hD
    refine lv_iload_n hx hb dX2_valueOf_14 rfl (lv_at hl 2 rfl) ?_
    refine nv_iald hx hb hK hP 0 0 rfl rfl (by omega) (by omega) dX2_valueOf_15 ?_
    refine lv_goto (tgt := 20) hx hb dX2_valueOf_16 (by decide) ?_
    have hP : va_P D vwCl [(h0, .inr (2, [.ref ba, .ref aa, .ref oa, .ref eb, .ref ea, .int (bI (ovf = true)), .int (bI (rst = true))])), (ba, .inl (cyI, 8, .inl fb))] H := pickP hP [1, 0] rfl
    have hD : va_D A [(h0, .inr (2, [.ref ba, .ref aa, .ref oa, .ref eb, .ref ea, .int (bI (ovf = true)), .int (bI (rst = true))])), (ba, .inl (cyI, 8, .inl fb))] := hD.sub [1, 0] (by decide) rfl
    exact ret_i hQ hx hb hr hlocks dX2_valueOf_20 hK hS () (by first | rfl | assumption | omega) hP hD
set_option maxHeartbeats 4000000 in
set_option maxRecDepth 100000 in
theorem c_X2_valueOf_1 (l : Launch) (D : va_G) (cyI cyZ : ClassId) (h0 ba aa oa eb ea : Nat) (ovf rst : Bool) (fb : Nat → Int32) (x : Nat) (hxx : x < 8) : Ci l D yX2_valueOf wsX2_valueOf ({ frames := 1, cells := 0, slots := 0, locals := 24 } : Room) [.ref h0, .int (nI 1), .int (nI x)] [(h0, .inr (2, [.ref ba, .ref aa, .ref oa, .ref eb, .ref ea, .int (bI (ovf = true)), .int (bI (rst = true))])), (aa, .inl (cyI, 8, .inl fb))] (tyL cyI cyZ) (fun (r : Int32) (_ : Unit) => r = fb x) (fun _ : Unit => [(h0, .inr (2, [.ref ba, .ref aa, .ref oa, .ref eb, .ref ea, .int (bI (ovf = true)), .int (bI (rst = true))])), (aa, .inl (cyI, 8, .inl fb))]) 0 0 := by
  refine mk_Ct (cc := cX2_valueOf) (maxL := 3) (ret := (some .int)) (by decide) rfl rfl ?_
  intro p e s m below meth c A Q ls hx hb hr hts hown hlocks hml hname hA hN hK hP hD hS hQ hl
  have hl : lv_has ls 3 [(0, .ref h0), (1, .int (nI 1)), (2, .int (nI x))] := hl
  have hown : s.vm.findClass RX2 = some m.cls := hown
  obtain ⟨H, eH9⟩ : ∃ H, H = s.heap := ⟨_, rfl⟩
  have hP : va_P D vwCl [(h0, .inr (2, [.ref ba, .ref aa, .ref oa, .ref eb, .ref ea, .int (bI (ovf = true)), .int (bI (rst = true))])), (aa, .inl (cyI, 8, .inl fb))] H := by rw [eH9]; exact hP
  have hS : va_S A s.heap H [] := by rw [eH9]; exact hS
  obtain ⟨locs, eL9⟩ : ∃ z : List Loc, z = [] := ⟨_, rfl⟩
  rw [← eH9, ← eL9]
  have hS : va_S A s.heap H locs := by rw [eL9]; exact hS
  refine lv_aload_n hx hb dX2_valueOf_0 rfl (lv_at hl 0 rfl) ?_
  refine lv_iload_n hx hb dX2_valueOf_1 rfl (lv_at hl 1 rfl) ?_
  refine lv_iload_n hx hb dX2_valueOf_2 rfl (lv_at hl 2 rfl) ?_
  refine res_i (wW := [(h0, .inr (2, [.ref ba, .ref aa, .ref oa, .ref eb, .ref ea, .int (bI (ovf = true)), .int (bI (rst = true))])), (aa, .inl (cyI, 8, .inl fb))]) (Wc := []) (Wr := [(h0, .inr (2, [.ref ba, .ref aa, .ref oa, .ref eb, .ref ea, .int (bI (ovf = true)), .int (bI (rst = true))])), (aa, .inl (cyI, 8, .inl fb))]) (run_V (QA := fun A => va_Qi _ (bw D _ (tyL cyI cyZ) A) A) (rmC := ({ frames := 0, cells := 0, slots := 0, locals := 0 } : Room)) (mc := 0) (ms := 0) (As := [.int (nI 1), .int (nI x)]) (rest := []) (ci := 2) (wW := [(h0, .inr (2, [.ref ba, .ref aa, .ref oa, .ref eb, .ref ea, .int (bI (ovf = true)), .int (bI (rst = true))])), (aa, .inl (cyI, 8, .inl fb))]) (Wc := []) ⟨hx, hb, hml, hown, hts⟩ (c_X2_has l D cyI cyZ h0 (nI 1) (nI x) ) (cwV 2 hts gX2_valueOf_X2_has rfl rfl rfl (by decide +kernel) ⟨Nat.le_of_ble_eq_true rfl, Nat.le_of_ble_eq_true rfl⟩) hN hK hP hD [] rfl (by decide) 0 rfl rfl rfl hl.1 rfl rfl dX2_valueOf_3 ⟨Nat.le_of_ble_eq_true rfl, Nat.le_of_ble_eq_true rfl⟩) hP hD hS hA [] [0, 1] rfl rfl (by decide) (by decide) (fun r3 u9 H locs w3 hP hD hS => ?_)
  have w3 : r3 = bI (hasI (nI 1) (nI x)) := w3
  have hP : va_P D vwCl [(h0, .inr (2, [.ref ba, .ref aa, .ref oa, .ref eb, .ref ea, .int (bI (ovf = true)), .int (bI (rst = true))])), (aa, .inl (cyI, 8, .inl fb))] H := hP
  have hD : va_D A [(h0, .inr (2, [.ref ba, .ref aa, .ref oa, .ref eb, .ref ea, .int (bI (ovf = true)), .int (bI (rst = true))])), (aa, .inl (cyI, 8, .inl fb))] := hD
  refine nv_top (y := (bI (hasI (nI 1) (nI x)))) (w3) ?_
  refine bv_if_eq (tgt := 19) hx hb dX2_valueOf_6 (by decide) (fun c6 => ?_) (fun c6 => ?_)
  · exact absurd (hasI_nI 1 x (by decide) hxx) c6
  · skip
    refine lv_aload_n hx hb dX2_valueOf_9 rfl (lv_at hl 0 rfl) ?_
    refine lv_iload_n hx hb dX2_valueOf_10 rfl (lv_at hl 1 rfl) ?_
    refine res_r (wW := [(h0, .inr (2, [.ref ba, .ref aa, .ref oa, .ref eb, .ref ea, .int (bI (ovf = true)), .int (bI (rst = true))])), (aa, .inl (cyI, 8, .inl fb))]) (Wc := [(h0, .inr (2, [.ref ba, .ref aa, .ref oa, .ref eb, .ref ea, .int (bI (ovf = true)), .int (bI (rst = true))]))]) (Wr := [(aa, .inl (cyI, 8, .inl fb))]) (run_V (QA := fun A => va_Qr _ (fun u a t => a = _ ∧ bw D _ (tyL cyI cyZ) A u t) A) (rmC := ({ frames := 0, cells := 0, slots := 0, locals := 0 } : Room)) (mc := 0) (ms := 0) (As := [.int (nI 1)]) (rest := []) (ci := 2) (wW := [(h0, .inr (2, [.ref ba, .ref aa, .ref oa, .ref eb, .ref ea, .int (bI (ovf = true)), .int (bI (rst = true))])), (aa, .inl (cyI, 8, .inl fb))]) (Wc := [(h0, .inr (2, [.ref ba, .ref aa, .ref oa, .ref eb, .ref ea, .int (bI (ovf = true)), .int (bI (rst = true))]))]) ⟨hx, hb, hml, hown, hts⟩ (c_X2_valuesOf_1 l D cyI cyZ h0 ba aa oa eb ea ovf rst ) (cwV 1 hts gX2_valueOf_X2_valuesOf rfl rfl rfl (by decide +kernel) ⟨Nat.le_of_ble_eq_true rfl, Nat.le_of_ble_eq_true rfl⟩) hN hK hP hD [0] rfl (by decide) 0 rfl rfl rfl hl.1 rfl rfl dX2_valueOf_11 ⟨Nat.le_of_ble_eq_true rfl, Nat.le_of_ble_eq_true rfl⟩) hP hD hS hA [0] [1] rfl rfl (by decide) (by decide) (fun u9 H locs w11 hP hD hS => ?_)
    have w11 : True := w11
    have hP : va_P D vwCl [(aa, .inl (cyI, 8, .inl fb)), (h0, .inr (2, [.ref ba, .ref aa, .ref oa, .ref eb, .ref ea, .int (bI (ovf = true)), .int (bI (rst = true))]))] H := hP
    have hD : va_D A [(aa, .inl (cyI, 8, .inl fb)), (h0, .inr (2, [.ref ba, .ref aa, .ref oa, .ref eb, .ref ea, .int (bI (ovf = true)), .int (bI (rst = true))]))] := hD
    refine lv_iload_n hx hb dX2_valueOf_14 rfl (lv_at hl 2 rfl) ?_
    refine nv_iald hx hb hK hP 0 0 rfl rfl (by omega) (by omega) dX2_valueOf_15 ?_
    refine lv_goto (tgt := 20) hx hb dX2_valueOf_16 (by decide) ?_
    have hP : va_P D vwCl [(h0, .inr (2, [.ref ba, .ref aa, .ref oa, .ref eb, .ref ea, .int (bI (ovf = true)), .int (bI (rst = true))])), (aa, .inl (cyI, 8, .inl fb))] H := pickP hP [1, 0] rfl
    have hD : va_D A [(h0, .inr (2, [.ref ba, .ref aa, .ref oa, .ref eb, .ref ea, .int (bI (ovf = true)), .int (bI (rst = true))])), (aa, .inl (cyI, 8, .inl fb))] := hD.sub [1, 0] (by decide) rfl
    exact ret_i hQ hx hb hr hlocks dX2_valueOf_20 hK hS () (by first | rfl | assumption | omega) hP hD
set_option maxHeartbeats 4000000 in
set_option maxRecDepth 100000 in
theorem c_X2_valueOf_2 (l : Launch) (D : va_G) (cyI cyZ : ClassId) (h0 ba aa oa eb ea : Nat) (ovf rst : Bool) (fb : Nat → Int32) (x : Nat) (hxx : x < 4) : Ci l D yX2_valueOf wsX2_valueOf ({ frames := 1, cells := 0, slots := 0, locals := 24 } : Room) [.ref h0, .int (nI 2), .int (nI x)] [(h0, .inr (2, [.ref ba, .ref aa, .ref oa, .ref eb, .ref ea, .int (bI (ovf = true)), .int (bI (rst = true))])), (oa, .inl (cyI, 4, .inl fb))] (tyL cyI cyZ) (fun (r : Int32) (_ : Unit) => r = fb x) (fun _ : Unit => [(h0, .inr (2, [.ref ba, .ref aa, .ref oa, .ref eb, .ref ea, .int (bI (ovf = true)), .int (bI (rst = true))])), (oa, .inl (cyI, 4, .inl fb))]) 0 0 := by
  refine mk_Ct (cc := cX2_valueOf) (maxL := 3) (ret := (some .int)) (by decide) rfl rfl ?_
  intro p e s m below meth c A Q ls hx hb hr hts hown hlocks hml hname hA hN hK hP hD hS hQ hl
  have hl : lv_has ls 3 [(0, .ref h0), (1, .int (nI 2)), (2, .int (nI x))] := hl
  have hown : s.vm.findClass RX2 = some m.cls := hown
  obtain ⟨H, eH9⟩ : ∃ H, H = s.heap := ⟨_, rfl⟩
  have hP : va_P D vwCl [(h0, .inr (2, [.ref ba, .ref aa, .ref oa, .ref eb, .ref ea, .int (bI (ovf = true)), .int (bI (rst = true))])), (oa, .inl (cyI, 4, .inl fb))] H := by rw [eH9]; exact hP
  have hS : va_S A s.heap H [] := by rw [eH9]; exact hS
  obtain ⟨locs, eL9⟩ : ∃ z : List Loc, z = [] := ⟨_, rfl⟩
  rw [← eH9, ← eL9]
  have hS : va_S A s.heap H locs := by rw [eL9]; exact hS
  refine lv_aload_n hx hb dX2_valueOf_0 rfl (lv_at hl 0 rfl) ?_
  refine lv_iload_n hx hb dX2_valueOf_1 rfl (lv_at hl 1 rfl) ?_
  refine lv_iload_n hx hb dX2_valueOf_2 rfl (lv_at hl 2 rfl) ?_
  refine res_i (wW := [(h0, .inr (2, [.ref ba, .ref aa, .ref oa, .ref eb, .ref ea, .int (bI (ovf = true)), .int (bI (rst = true))])), (oa, .inl (cyI, 4, .inl fb))]) (Wc := []) (Wr := [(h0, .inr (2, [.ref ba, .ref aa, .ref oa, .ref eb, .ref ea, .int (bI (ovf = true)), .int (bI (rst = true))])), (oa, .inl (cyI, 4, .inl fb))]) (run_V (QA := fun A => va_Qi _ (bw D _ (tyL cyI cyZ) A) A) (rmC := ({ frames := 0, cells := 0, slots := 0, locals := 0 } : Room)) (mc := 0) (ms := 0) (As := [.int (nI 2), .int (nI x)]) (rest := []) (ci := 2) (wW := [(h0, .inr (2, [.ref ba, .ref aa, .ref oa, .ref eb, .ref ea, .int (bI (ovf = true)), .int (bI (rst = true))])), (oa, .inl (cyI, 4, .inl fb))]) (Wc := []) ⟨hx, hb, hml, hown, hts⟩ (c_X2_has l D cyI cyZ h0 (nI 2) (nI x) ) (cwV 2 hts gX2_valueOf_X2_has rfl rfl rfl (by decide +kernel) ⟨Nat.le_of_ble_eq_true rfl, Nat.le_of_ble_eq_true rfl⟩) hN hK hP hD [] rfl (by decide) 0 rfl rfl rfl hl.1 rfl rfl dX2_valueOf_3 ⟨Nat.le_of_ble_eq_true rfl, Nat.le_of_ble_eq_true rfl⟩) hP hD hS hA [] [0, 1] rfl rfl (by decide) (by decide) (fun r3 u9 H locs w3 hP hD hS => ?_)
  have w3 : r3 = bI (hasI (nI 2) (nI x)) := w3
  have hP : va_P D vwCl [(h0, .inr (2, [.ref ba, .ref aa, .ref oa, .ref eb, .ref ea, .int (bI (ovf = true)), .int (bI (rst = true))])), (oa, .inl (cyI, 4, .inl fb))] H := hP
  have hD : va_D A [(h0, .inr (2, [.ref ba, .ref aa, .ref oa, .ref eb, .ref ea, .int (bI (ovf = true)), .int (bI (rst = true))])), (oa, .inl (cyI, 4, .inl fb))] := hD
  refine nv_top (y := (bI (hasI (nI 2) (nI x)))) (w3) ?_
  refine bv_if_eq (tgt := 19) hx hb dX2_valueOf_6 (by decide) (fun c6 => ?_) (fun c6 => ?_)
  · exact absurd (hasI_nI 2 x (by decide) hxx) c6
  · skip
    refine lv_aload_n hx hb dX2_valueOf_9 rfl (lv_at hl 0 rfl) ?_
    refine lv_iload_n hx hb dX2_valueOf_10 rfl (lv_at hl 1 rfl) ?_
    refine res_r (wW := [(h0, .inr (2, [.ref ba, .ref aa, .ref oa, .ref eb, .ref ea, .int (bI (ovf = true)), .int (bI (rst = true))])), (oa, .inl (cyI, 4, .inl fb))]) (Wc := [(h0, .inr (2, [.ref ba, .ref aa, .ref oa, .ref eb, .ref ea, .int (bI (ovf = true)), .int (bI (rst = true))]))]) (Wr := [(oa, .inl (cyI, 4, .inl fb))]) (run_V (QA := fun A => va_Qr _ (fun u a t => a = _ ∧ bw D _ (tyL cyI cyZ) A u t) A) (rmC := ({ frames := 0, cells := 0, slots := 0, locals := 0 } : Room)) (mc := 0) (ms := 0) (As := [.int (nI 2)]) (rest := []) (ci := 2) (wW := [(h0, .inr (2, [.ref ba, .ref aa, .ref oa, .ref eb, .ref ea, .int (bI (ovf = true)), .int (bI (rst = true))])), (oa, .inl (cyI, 4, .inl fb))]) (Wc := [(h0, .inr (2, [.ref ba, .ref aa, .ref oa, .ref eb, .ref ea, .int (bI (ovf = true)), .int (bI (rst = true))]))]) ⟨hx, hb, hml, hown, hts⟩ (c_X2_valuesOf_2 l D cyI cyZ h0 ba aa oa eb ea ovf rst ) (cwV 1 hts gX2_valueOf_X2_valuesOf rfl rfl rfl (by decide +kernel) ⟨Nat.le_of_ble_eq_true rfl, Nat.le_of_ble_eq_true rfl⟩) hN hK hP hD [0] rfl (by decide) 0 rfl rfl rfl hl.1 rfl rfl dX2_valueOf_11 ⟨Nat.le_of_ble_eq_true rfl, Nat.le_of_ble_eq_true rfl⟩) hP hD hS hA [0] [1] rfl rfl (by decide) (by decide) (fun u9 H locs w11 hP hD hS => ?_)
    have w11 : True := w11
    have hP : va_P D vwCl [(oa, .inl (cyI, 4, .inl fb)), (h0, .inr (2, [.ref ba, .ref aa, .ref oa, .ref eb, .ref ea, .int (bI (ovf = true)), .int (bI (rst = true))]))] H := hP
    have hD : va_D A [(oa, .inl (cyI, 4, .inl fb)), (h0, .inr (2, [.ref ba, .ref aa, .ref oa, .ref eb, .ref ea, .int (bI (ovf = true)), .int (bI (rst = true))]))] := hD
    refine lv_iload_n hx hb dX2_valueOf_14 rfl (lv_at hl 2 rfl) ?_
    refine nv_iald hx hb hK hP 0 0 rfl rfl (by omega) (by omega) dX2_valueOf_15 ?_
    refine lv_goto (tgt := 20) hx hb dX2_valueOf_16 (by decide) ?_
    have hP : va_P D vwCl [(h0, .inr (2, [.ref ba, .ref aa, .ref oa, .ref eb, .ref ea, .int (bI (ovf = true)), .int (bI (rst = true))])), (oa, .inl (cyI, 4, .inl fb))] H := pickP hP [1, 0] rfl
    have hD : va_D A [(h0, .inr (2, [.ref ba, .ref aa, .ref oa, .ref eb, .ref ea, .int (bI (ovf = true)), .int (bI (rst = true))])), (oa, .inl (cyI, 4, .inl fb))] := hD.sub [1, 0] (by decide) rfl
    exact ret_i hQ hx hb hr hlocks dX2_valueOf_20 hK hS () (by first | rfl | assumption | omega) hP hD
set_option maxHeartbeats 4000000 in
set_option maxRecDepth 100000 in
theorem c_X2_setOutput (l : Launch) (D : va_G) (cyI cyZ : ClassId) (h0 ba aa oa eb ea : Nat) (ovf rst : Bool) (fo : Nat → Int32) (x : Nat) (v : Int32) (hxx : x < 4) : Cv l D yX2_setOutput wsX2_setOutput ({ frames := 1, cells := 0, slots := 0, locals := 24 } : Room) [.ref h0, .int (nI x), .int v] [(h0, .inr (2, [.ref ba, .ref aa, .ref oa, .ref eb, .ref ea, .int (bI (ovf = true)), .int (bI (rst = true))])), (oa, .inl (cyI, 4, .inl fo))] (tyL cyI cyZ) (fun _ : Unit => True) (fun _ : Unit => [(h0, .inr (2, [.ref ba, .ref aa, .ref oa, .ref eb, .ref ea, .int (bI (ovf = true)), .int (bI (rst = true))])), (oa, .inl (cyI, 4, .inl (upd fo x v)))]) 0 0 := by
  refine mk_Ct (cc := cX2_setOutput) (maxL := 3) (ret := none) (by decide) rfl rfl ?_
  intro p e s m below meth c A Q ls hx hb hr hts hown hlocks hml hname hA hN hK hP hD hS hQ hl
  have hl : lv_has ls 3 [(0, .ref h0), (1, .int (nI x)), (2, .int v)] := hl
  have inX2_ : ∀ w ∈ u_ws RX2 TX2 7, w ∈ wsX2_setOutput := fun w h => List.mem_cons_of_mem _ (List.mem_append_right _ h)
  have fl18 : (Cond.fieldLink RX2 18 "OutStation$Field" "outputs" "[I").before ([.ref h0, .int (nI x), .int v] : List Value).toArray s = true := hts _ (by decide +kernel)
  have hown : s.vm.findClass RX2 = some m.cls := hown
  obtain ⟨H, eH9⟩ : ∃ H, H = s.heap := ⟨_, rfl⟩
  have hP : va_P D vwCl [(h0, .inr (2, [.ref ba, .ref aa, .ref oa, .ref eb, .ref ea, .int (bI (ovf = true)), .int (bI (rst = true))])), (oa, .inl (cyI, 4, .inl fo))] H := by rw [eH9]; exact hP
  have hS : va_S A s.heap H [] := by rw [eH9]; exact hS
  obtain ⟨locs, eL9⟩ : ∃ z : List Loc, z = [] := ⟨_, rfl⟩
  rw [← eH9, ← eL9]
  have hS : va_S A s.heap H locs := by rw [eL9]; exact hS
  refine lv_aload_n hx hb dX2_setOutput_0 rfl (lv_at hl 0 rfl) ?_
  refine lv_iconst (v := (nI 2)) hx hb dX2_setOutput_1 (by decide) ?_
  refine lv_iload_n hx hb dX2_setOutput_2 rfl (lv_at hl 1 rfl) ?_
  refine res_i (wW := [(h0, .inr (2, [.ref ba, .ref aa, .ref oa, .ref eb, .ref ea, .int (bI (ovf = true)), .int (bI (rst = true))])), (oa, .inl (cyI, 4, .inl fo))]) (Wc := []) (Wr := [(h0, .inr (2, [.ref ba, .ref aa, .ref oa, .ref eb, .ref ea, .int (bI (ovf = true)), .int (bI (rst = true))])), (oa, .inl (cyI, 4, .inl fo))]) (run_V (QA := fun A => va_Qi _ (bw D _ (tyL cyI cyZ) A) A) (rmC := ({ frames := 0, cells := 0, slots := 0, locals := 0 } : Room)) (mc := 0) (ms := 0) (As := [.int (nI 2), .int (nI x)]) (rest := []) (ci := 2) (wW := [(h0, .inr (2, [.ref ba, .ref aa, .ref oa, .ref eb, .ref ea, .int (bI (ovf = true)), .int (bI (rst = true))])), (oa, .inl (cyI, 4, .inl fo))]) (Wc := []) ⟨hx, hb, hml, hown, hts⟩ (c_X2_has l D cyI cyZ h0 (nI 2) (nI x) ) (cwV 2 hts gX2_setOutput_X2_has rfl rfl rfl (by decide +kernel) ⟨Nat.le_of_ble_eq_true rfl, Nat.le_of_ble_eq_true rfl⟩) hN hK hP hD [] rfl (by decide) 0 rfl rfl rfl hl.1 rfl rfl dX2_setOutput_3 ⟨Nat.le_of_ble_eq_true rfl, Nat.le_of_ble_eq_true rfl⟩) hP hD hS hA [] [0, 1] rfl rfl (by decide) (by decide) (fun r3 u9 H locs w3 hP hD hS => ?_)
  have w3 : r3 = bI (hasI (nI 2) (nI x)) := w3
  have hP : va_P D vwCl [(h0, .inr (2, [.ref ba, .ref aa, .ref oa, .ref eb, .ref ea, .int (bI (ovf = true)), .int (bI (rst = true))])), (oa, .inl (cyI, 4, .inl fo))] H := hP
  have hD : va_D A [(h0, .inr (2, [.ref ba, .ref aa, .ref oa, .ref eb, .ref ea, .int (bI (ovf = true)), .int (bI (rst = true))])), (oa, .inl (cyI, 4, .inl fo))] := hD
  refine nv_top (y := (bI (hasI (nI 2) (nI x)))) (w3) ?_
  refine bv_if_eq (tgt := 16) hx hb dX2_setOutput_6 (by decide) (fun c6 => ?_) (fun c6 => ?_)
  · exact absurd (hasI_nI 2 x (by decide) hxx) c6
  · skip
    refine lv_aload_n hx hb dX2_setOutput_9 rfl (lv_at hl 0 rfl) ?_
    refine va_get (D := D) (ci := 2) (v := .ref oa) (C := RX2) (T := TX2) (N := 7) hx hb hts inX2_ hown hK hP 0 rfl rfl 2 (by decide) fl18 (fun _ h9 => h9) rfl dX2_setOutput_10 ?_
    refine lv_iload_n hx hb dX2_setOutput_13 rfl (lv_at hl 1 rfl) ?_
    refine lv_iload_n hx hb dX2_setOutput_14 rfl (lv_at hl 2 rfl) ?_
    refine nv_iast hx hb hK hP hD hS 1 0 rfl rfl (by omega) (by omega) dX2_setOutput_15 (fun H locs hP hD hS => ?_)
    have hP : va_P D vwCl [(h0, .inr (2, [.ref ba, .ref aa, .ref oa, .ref eb, .ref ea, .int (bI (ovf = true)), .int (bI (rst = true))])), (oa, .inl (cyI, 4, .inl (upd fo x v)))] H := hP
    have hD : va_D A [(h0, .inr (2, [.ref ba, .ref aa, .ref oa, .ref eb, .ref ea, .int (bI (ovf = true)), .int (bI (rst = true))])), (oa, .inl (cyI, 4, .inl (upd fo x v)))] := hD
    exact ret_v hQ hx hb hr hlocks dX2_setOutput_16 hK hS () (trivial) hP hD
