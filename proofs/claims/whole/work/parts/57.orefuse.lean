/-! OWN ROWS, written by wip/gen (walk.py, spec_q.py) -/
set_option maxHeartbeats 4000000 in
set_option maxRecDepth 100000 in
theorem c_X11_change_T (l : Launch) (D : va_G) (cyI cyZ : ClassId) (h0 fd zl zp zq zs zt zk : Nat) (ba aa oa eb ea : Nat) (ovf rst : Bool) (k x v : Int32) (hT : chB k x v) (hl9 : l.stackTraces = false) : CtX l D yX11_change wsX11_change ({ frames := 6, cells := 1, slots := 6, locals := 90 } : Room) [.ref h0, .int k, .int x, .int v] [(h0, .inr (11, [.ref fd, .ref zl, .ref zp, .ref zq, .ref zs, .ref zt, .ref zk])), (fd, .inr (2, [.ref ba, .ref aa, .ref oa, .ref eb, .ref ea, .int (bI (ovf = true)), .int (bI (rst = true))]))] (tyL cyI cyZ) "java/lang/IllegalArgumentException" 1 6 := by
  refine mk_CtX (cc := cX11_change) (maxL := 4) (ret := none) (by decide) rfl rfl ?_
  intro p e s m below meth c A Q ls hx hb hr hts hown hlocks hml hname hA hN hK hP hD hS hXF hEx hQ hl
  have hl : lv_has ls 4 [(0, .ref h0), (1, .int k), (2, .int x), (3, .int v)] := hl
  have cl62 : (Cond.classLink RX11 62 "java/lang/IllegalArgumentException").before ([.ref h0, .int k, .int x, .int v] : List Value).toArray s = true := hts _ (by decide +kernel)
  have iniE : (Cond.initialized "java/lang/IllegalArgumentException").before ([.ref h0, .int k, .int x, .int v] : List Value).toArray s = true := hts _ (by decide +kernel)
  have inX11_ : ∀ w ∈ u_ws RX11 TX11 7, w ∈ wsX11_change := fun w h => List.mem_cons_of_mem _ (List.mem_append_left _ (List.mem_append_left _ (List.mem_append_left _ (List.mem_append_right _ h))))
  have fl10 : (Cond.fieldLink RX11 10 "OutStation" "field" "LOutStation$Field;").before ([.ref h0, .int k, .int x, .int v] : List Value).toArray s = true := hts _ (by decide +kernel)
  have hown : s.vm.findClass RX11 = some m.cls := hown
  obtain ⟨H, eH9⟩ : ∃ H, H = s.heap := ⟨_, rfl⟩
  have hP : va_P D vwCl [(h0, .inr (11, [.ref fd, .ref zl, .ref zp, .ref zq, .ref zs, .ref zt, .ref zk])), (fd, .inr (2, [.ref ba, .ref aa, .ref oa, .ref eb, .ref ea, .int (bI (ovf = true)), .int (bI (rst = true))]))] H := by rw [eH9]; exact hP
  have hS : va_S A s.heap H [] := by rw [eH9]; exact hS
  obtain ⟨locs, eL9⟩ : ∃ z : List Loc, z = [] := ⟨_, rfl⟩
  rw [← eH9, ← eL9]
  have hS : va_S A s.heap H locs := by rw [eL9]; exact hS
  refine lv_iload_n hx hb dX11_change_0 rfl (lv_at hl 1 rfl) ?_
  refine lv_iconst (v := (nI 2)) hx hb dX11_change_1 (by decide) ?_
  refine lv_icmp_eq (tgt := 17) hx hb dX11_change_2 (by decide) (fun c2 => ?_) (fun c2 => ?_)
  · skip
    exact thr_S (E := "java/lang/IllegalArgumentException") (ik := 62) (is := 64) (ic := 66) (tx := "no such point") hQ hx hb hl9 hown (by decide +kernel) cl62 iniE (fun w hw => hts w (List.mem_cons_of_mem _ (List.mem_append_right _ hw))) thr_b66 thr_g66 (by decide) (by decide) hXF hEx hK hP hD hS (hl.1.trans hml.symm) dX11_change_17 dX11_change_20 dX11_change_21 dX11_change_23 dX11_change_26 (Nat.le_of_ble_eq_true rfl) (Nat.le_of_ble_eq_true rfl) (Nat.le_of_ble_eq_true rfl) (Nat.le_of_ble_eq_true rfl) hlocks (Nat.le_of_ble_eq_true rfl) (Nat.le_of_ble_eq_true rfl)
  · skip
    refine lv_aload_n hx hb dX11_change_5 rfl (lv_at hl 0 rfl) ?_
    refine va_get (D := D) (ci := 11) (v := .ref fd) (C := RX11) (T := TX11) (N := 7) hx hb hts inX11_ hown hK hP 0 rfl rfl 0 (by decide) fl10 (fun _ h9 => h9) rfl dX11_change_6 ?_
    refine lv_iload_n hx hb dX11_change_9 rfl (lv_at hl 1 rfl) ?_
    refine lv_iload_n hx hb dX11_change_10 rfl (lv_at hl 2 rfl) ?_
    refine res_i (wW := [(h0, .inr (11, [.ref fd, .ref zl, .ref zp, .ref zq, .ref zs, .ref zt, .ref zk])), (fd, .inr (2, [.ref ba, .ref aa, .ref oa, .ref eb, .ref ea, .int (bI (ovf = true)), .int (bI (rst = true))]))]) (Wc := []) (Wr := [(h0, .inr (11, [.ref fd, .ref zl, .ref zp, .ref zq, .ref zs, .ref zt, .ref zk])), (fd, .inr (2, [.ref ba, .ref aa, .ref oa, .ref eb, .ref ea, .int (bI (ovf = true)), .int (bI (rst = true))]))]) (run_V (QA := fun A => va_Qi _ (bw D _ (tyL cyI cyZ) A) A) (rmC := ({ frames := 0, cells := 0, slots := 0, locals := 0 } : Room)) (mc := 0) (ms := 0) (As := [.int k, .int x]) (rest := []) (ci := 2) (wW := [(h0, .inr (11, [.ref fd, .ref zl, .ref zp, .ref zq, .ref zs, .ref zt, .ref zk])), (fd, .inr (2, [.ref ba, .ref aa, .ref oa, .ref eb, .ref ea, .int (bI (ovf = true)), .int (bI (rst = true))]))]) (Wc := []) ⟨hx, hb, hml, hown, hts⟩ (c_X2_has l D cyI cyZ fd k x ) (cwV 2 hts gX11_change_X2_has rfl rfl rfl (by decide +kernel) ⟨Nat.le_of_ble_eq_true rfl, Nat.le_of_ble_eq_true rfl⟩) hN hK hP hD [] rfl (by decide) 1 rfl rfl rfl hl.1 rfl rfl dX11_change_11 ⟨Nat.le_of_ble_eq_true rfl, Nat.le_of_ble_eq_true rfl⟩) hP hD hS hA [] [0, 1] rfl rfl (by decide) (by decide) (fun r11 u9 H locs w11 hP hD hS => ?_)
    have w11 : r11 = bI (hasI k x) := w11
    have hP : va_P D vwCl [(h0, .inr (11, [.ref fd, .ref zl, .ref zp, .ref zq, .ref zs, .ref zt, .ref zk])), (fd, .inr (2, [.ref ba, .ref aa, .ref oa, .ref eb, .ref ea, .int (bI (ovf = true)), .int (bI (rst = true))]))] H := hP
    have hD : va_D A [(h0, .inr (11, [.ref fd, .ref zl, .ref zp, .ref zq, .ref zs, .ref zt, .ref zk])), (fd, .inr (2, [.ref ba, .ref aa, .ref oa, .ref eb, .ref ea, .int (bI (ovf = true)), .int (bI (rst = true))]))] := hD
    refine nv_top (y := (bI (hasI k x))) (w11) ?_
    refine bv_if_ne (tgt := 27) hx hb dX11_change_14 (by decide) (fun c14 => ?_) (fun c14 => ?_)
    · skip
      refine lv_iload_n hx hb dX11_change_27 rfl (lv_at hl 1 rfl) ?_
      refine lv_if_ne (tgt := 50) hx hb dX11_change_28 (by decide) (fun c28 => ?_) (fun c28 => ?_)
      · exact absurd hT (chB_n c14 c2 (fun z => c28 z.1))
      · skip
        refine lv_iload_n hx hb dX11_change_31 rfl (lv_at hl 3 rfl) ?_
        refine lv_if_eq (tgt := 50) hx hb dX11_change_32 (by decide) (fun c32 => ?_) (fun c32 => ?_)
        · exact absurd hT (chB_n c14 c2 (fun z => absurd z.2 (by rw [c32]; decide)))
        · skip
          refine lv_iload_n hx hb dX11_change_35 rfl (lv_at hl 3 rfl) ?_
          refine lv_iconst (v := (nI 1)) hx hb dX11_change_36 (by decide) ?_
          refine lv_icmp_eq (tgt := 50) hx hb dX11_change_37 (by decide) (fun c37 => ?_) (fun c37 => ?_)
          · exact absurd hT (chB_n c14 c2 (fun z => absurd z.2 (by rw [c37]; decide)))
          · skip
            exact thr_S (E := "java/lang/IllegalArgumentException") (ik := 62) (is := 69) (ic := 66) (tx := "no value of a binary point") hQ hx hb hl9 hown (by decide +kernel) cl62 iniE (fun w hw => hts w (List.mem_cons_of_mem _ (List.mem_append_right _ hw))) thr_b66 thr_g66 (by decide) (by decide) hXF hEx hK hP hD hS (hl.1.trans hml.symm) dX11_change_40 dX11_change_43 dX11_change_44 dX11_change_46 dX11_change_49 (Nat.le_of_ble_eq_true rfl) (Nat.le_of_ble_eq_true rfl) (Nat.le_of_ble_eq_true rfl) (Nat.le_of_ble_eq_true rfl) hlocks (Nat.le_of_ble_eq_true rfl) (Nat.le_of_ble_eq_true rfl)
    · skip
      exact thr_S (E := "java/lang/IllegalArgumentException") (ik := 62) (is := 64) (ic := 66) (tx := "no such point") hQ hx hb hl9 hown (by decide +kernel) cl62 iniE (fun w hw => hts w (List.mem_cons_of_mem _ (List.mem_append_right _ hw))) thr_b66 thr_g66 (by decide) (by decide) hXF hEx hK hP hD hS (hl.1.trans hml.symm) dX11_change_17 dX11_change_20 dX11_change_21 dX11_change_23 dX11_change_26 (Nat.le_of_ble_eq_true rfl) (Nat.le_of_ble_eq_true rfl) (Nat.le_of_ble_eq_true rfl) (Nat.le_of_ble_eq_true rfl) hlocks (Nat.le_of_ble_eq_true rfl) (Nat.le_of_ble_eq_true rfl)
set_option maxHeartbeats 4000000 in
set_option maxRecDepth 100000 in
theorem c_X11_point_T (l : Launch) (D : va_G) (cyI cyZ : ClassId) (h0 fd zl zp zq zs zt zk : Nat) (ba aa oa eb ea : Nat) (ovf rst : Bool) (k x : Int32) (hT : ¬ hasI k x) (hl9 : l.stackTraces = false) : CtX l D yX11_point wsX11_point ({ frames := 6, cells := 1, slots := 6, locals := 90 } : Room) [.ref h0, .int k, .int x] [(h0, .inr (11, [.ref fd, .ref zl, .ref zp, .ref zq, .ref zs, .ref zt, .ref zk])), (fd, .inr (2, [.ref ba, .ref aa, .ref oa, .ref eb, .ref ea, .int (bI (ovf = true)), .int (bI (rst = true))]))] (tyL cyI cyZ) "java/lang/IllegalArgumentException" 1 6 := by
  refine mk_CtX (cc := cX11_point) (maxL := 3) (ret := (some .int)) (by decide) rfl rfl ?_
  intro p e s m below meth c A Q ls hx hb hr hts hown hlocks hml hname hA hN hK hP hD hS hXF hEx hQ hl
  have hl : lv_has ls 3 [(0, .ref h0), (1, .int k), (2, .int x)] := hl
  have inX11_ : ∀ w ∈ u_ws RX11 TX11 7, w ∈ wsX11_point := fun w h => List.mem_cons_of_mem _ (List.mem_append_left _ (List.mem_append_left _ (List.mem_append_right _ h)))
  have fl10 : (Cond.fieldLink RX11 10 "OutStation" "field" "LOutStation$Field;").before ([.ref h0, .int k, .int x] : List Value).toArray s = true := hts _ (by decide +kernel)
  have cl62 : (Cond.classLink RX11 62 "java/lang/IllegalArgumentException").before ([.ref h0, .int k, .int x] : List Value).toArray s = true := hts _ (by decide +kernel)
  have iniE : (Cond.initialized "java/lang/IllegalArgumentException").before ([.ref h0, .int k, .int x] : List Value).toArray s = true := hts _ (by decide +kernel)
  have hown : s.vm.findClass RX11 = some m.cls := hown
  obtain ⟨H, eH9⟩ : ∃ H, H = s.heap := ⟨_, rfl⟩
  have hP : va_P D vwCl [(h0, .inr (11, [.ref fd, .ref zl, .ref zp, .ref zq, .ref zs, .ref zt, .ref zk])), (fd, .inr (2, [.ref ba, .ref aa, .ref oa, .ref eb, .ref ea, .int (bI (ovf = true)), .int (bI (rst = true))]))] H := by rw [eH9]; exact hP
  have hS : va_S A s.heap H [] := by rw [eH9]; exact hS
  obtain ⟨locs, eL9⟩ : ∃ z : List Loc, z = [] := ⟨_, rfl⟩
  rw [← eH9, ← eL9]
  have hS : va_S A s.heap H locs := by rw [eL9]; exact hS
  refine lv_aload_n hx hb dX11_point_0 rfl (lv_at hl 0 rfl) ?_
  refine va_get (D := D) (ci := 11) (v := .ref fd) (C := RX11) (T := TX11) (N := 7) hx hb hts inX11_ hown hK hP 0 rfl rfl 0 (by decide) fl10 (fun _ h9 => h9) rfl dX11_point_1 ?_
  refine lv_iload_n hx hb dX11_point_4 rfl (lv_at hl 1 rfl) ?_
  refine lv_iload_n hx hb dX11_point_5 rfl (lv_at hl 2 rfl) ?_
  refine res_i (wW := [(h0, .inr (11, [.ref fd, .ref zl, .ref zp, .ref zq, .ref zs, .ref zt, .ref zk])), (fd, .inr (2, [.ref ba, .ref aa, .ref oa, .ref eb, .ref ea, .int (bI (ovf = true)), .int (bI (rst = true))]))]) (Wc := []) (Wr := [(h0, .inr (11, [.ref fd, .ref zl, .ref zp, .ref zq, .ref zs, .ref zt, .ref zk])), (fd, .inr (2, [.ref ba, .ref aa, .ref oa, .ref eb, .ref ea, .int (bI (ovf = true)), .int (bI (rst = true))]))]) (run_V (QA := fun A => va_Qi _ (bw D _ (tyL cyI cyZ) A) A) (rmC := ({ frames := 0, cells := 0, slots := 0, locals := 0 } : Room)) (mc := 0) (ms := 0) (As := [.int k, .int x]) (rest := []) (ci := 2) (wW := [(h0, .inr (11, [.ref fd, .ref zl, .ref zp, .ref zq, .ref zs, .ref zt, .ref zk])), (fd, .inr (2, [.ref ba, .ref aa, .ref oa, .ref eb, .ref ea, .int (bI (ovf = true)), .int (bI (rst = true))]))]) (Wc := []) ⟨hx, hb, hml, hown, hts⟩ (c_X2_has l D cyI cyZ fd k x ) (cwV 2 hts gX11_point_X2_has rfl rfl rfl (by decide +kernel) ⟨Nat.le_of_ble_eq_true rfl, Nat.le_of_ble_eq_true rfl⟩) hN hK hP hD [] rfl (by decide) 1 rfl rfl rfl hl.1 rfl rfl dX11_point_6 ⟨Nat.le_of_ble_eq_true rfl, Nat.le_of_ble_eq_true rfl⟩) hP hD hS hA [] [0, 1] rfl rfl (by decide) (by decide) (fun r6 u9 H locs w6 hP hD hS => ?_)
  have w6 : r6 = bI (hasI k x) := w6
  have hP : va_P D vwCl [(h0, .inr (11, [.ref fd, .ref zl, .ref zp, .ref zq, .ref zs, .ref zt, .ref zk])), (fd, .inr (2, [.ref ba, .ref aa, .ref oa, .ref eb, .ref ea, .int (bI (ovf = true)), .int (bI (rst = true))]))] H := hP
  have hD : va_D A [(h0, .inr (11, [.ref fd, .ref zl, .ref zp, .ref zq, .ref zs, .ref zt, .ref zk])), (fd, .inr (2, [.ref ba, .ref aa, .ref oa, .ref eb, .ref ea, .int (bI (ovf = true)), .int (bI (rst = true))]))] := hD
  refine nv_top (y := (bI (hasI k x))) (w6) ?_
  refine bv_if_ne (tgt := 22) hx hb dX11_point_9 (by decide) (fun c9 => ?_) (fun c9 => ?_)
  · exact absurd c9 hT
  · skip
    exact thr_S (E := "java/lang/IllegalArgumentException") (ik := 62) (is := 64) (ic := 66) (tx := "no such point") hQ hx hb hl9 hown (by decide +kernel) cl62 iniE (fun w hw => hts w (List.mem_cons_of_mem _ (List.mem_append_right _ hw))) thr_b66 thr_g66 (by decide) (by decide) hXF hEx hK hP hD hS (hl.1.trans hml.symm) dX11_point_12 dX11_point_15 dX11_point_16 dX11_point_18 dX11_point_21 (Nat.le_of_ble_eq_true rfl) (Nat.le_of_ble_eq_true rfl) (Nat.le_of_ble_eq_true rfl) (Nat.le_of_ble_eq_true rfl) hlocks (Nat.le_of_ble_eq_true rfl) (Nat.le_of_ble_eq_true rfl)
set_option maxHeartbeats 4000000 in
set_option maxRecDepth 100000 in
theorem c_X11_events_T (l : Launch) (D : va_G) (cyI cyZ : ClassId) (h0 : Nat) (k : Int32) (hT : evB k) (hl9 : l.stackTraces = false) : CtX l D yX11_events wsX11_events ({ frames := 6, cells := 1, slots := 6, locals := 90 } : Room) [.ref h0, .int k] [] (tyL cyI cyZ) "java/lang/IllegalArgumentException" 1 6 := by
  refine mk_CtX (cc := cX11_events) (maxL := 2) (ret := (some .int)) (by decide) rfl rfl ?_
  intro p e s m below meth c A Q ls hx hb hr hts hown hlocks hml hname hA hN hK hP hD hS hXF hEx hQ hl
  have hl : lv_has ls 2 [(0, .ref h0), (1, .int k)] := hl
  have cl62 : (Cond.classLink RX11 62 "java/lang/IllegalArgumentException").before ([.ref h0, .int k] : List Value).toArray s = true := hts _ (by decide +kernel)
  have iniE : (Cond.initialized "java/lang/IllegalArgumentException").before ([.ref h0, .int k] : List Value).toArray s = true := hts _ (by decide +kernel)
  have hown : s.vm.findClass RX11 = some m.cls := hown
  obtain ⟨H, eH9⟩ : ∃ H, H = s.heap := ⟨_, rfl⟩
  have hP : va_P D vwCl [] H := by rw [eH9]; exact hP
  have hS : va_S A s.heap H [] := by rw [eH9]; exact hS
  obtain ⟨locs, eL9⟩ : ∃ z : List Loc, z = [] := ⟨_, rfl⟩
  rw [← eH9, ← eL9]
  have hS : va_S A s.heap H locs := by rw [eL9]; exact hS
  refine lv_iload_n hx hb dX11_events_0 rfl (lv_at hl 1 rfl) ?_
  refine lv_if_eq (tgt := 19) hx hb dX11_events_1 (by decide) (fun c1 => ?_) (fun c1 => ?_)
  · exact absurd hT (by rw [c1]; decide)
  · skip
    refine lv_iload_n hx hb dX11_events_4 rfl (lv_at hl 1 rfl) ?_
    refine lv_iconst (v := (nI 1)) hx hb dX11_events_5 (by decide) ?_
    refine lv_icmp_eq (tgt := 19) hx hb dX11_events_6 (by decide) (fun c6 => ?_) (fun c6 => ?_)
    · exact absurd hT (by rw [c6]; decide)
    · skip
      exact thr_S (E := "java/lang/IllegalArgumentException") (ik := 62) (is := 79) (ic := 66) (tx := "no such kind") hQ hx hb hl9 hown (by decide +kernel) cl62 iniE (fun w hw => hts w (List.mem_cons_of_mem _ (List.mem_append_right _ hw))) thr_b66 thr_g66 (by decide) (by decide) hXF hEx hK hP hD hS (hl.1.trans hml.symm) dX11_events_9 dX11_events_12 dX11_events_13 dX11_events_15 dX11_events_18 (Nat.le_of_ble_eq_true rfl) (Nat.le_of_ble_eq_true rfl) (Nat.le_of_ble_eq_true rfl) (Nat.le_of_ble_eq_true rfl) hlocks (Nat.le_of_ble_eq_true rfl) (Nat.le_of_ble_eq_true rfl)
set_option maxHeartbeats 4000000 in
set_option maxRecDepth 100000 in
theorem c_X11_hear_T (l : Launch) (D : va_G) (cyI cyZ : ClassId) (h0 : Nat) (x : Int64) (n : Int32) (hT : heB n) (hl9 : l.stackTraces = false) : CtX l D yX11_hear wsX11_hear ({ frames := 6, cells := 1, slots := 6, locals := 90 } : Room) [.ref h0, .long x, .int n] [] (tyL cyI cyZ) "java/lang/IllegalArgumentException" 1 6 := by
  refine mk_CtX (cc := cX11_hear) (maxL := 6) (ret := (some .int)) (by decide) rfl rfl ?_
  intro p e s m below meth c A Q ls hx hb hr hts hown hlocks hml hname hA hN hK hP hD hS hXF hEx hQ hl
  have hl : lv_has ls 6 [(0, .ref h0), (1, .long x), (3, .int n)] := hl
  have cl62 : (Cond.classLink RX11 62 "java/lang/IllegalArgumentException").before ([.ref h0, .long x, .int n] : List Value).toArray s = true := hts _ (by decide +kernel)
  have iniE : (Cond.initialized "java/lang/IllegalArgumentException").before ([.ref h0, .long x, .int n] : List Value).toArray s = true := hts _ (by decide +kernel)
  have hown : s.vm.findClass RX11 = some m.cls := hown
  obtain ⟨H, eH9⟩ : ∃ H, H = s.heap := ⟨_, rfl⟩
  have hP : va_P D vwCl [] H := by rw [eH9]; exact hP
  have hS : va_S A s.heap H [] := by rw [eH9]; exact hS
  obtain ⟨locs, eL9⟩ : ∃ z : List Loc, z = [] := ⟨_, rfl⟩
  rw [← eH9, ← eL9]
  have hS : va_S A s.heap H locs := by rw [eL9]; exact hS
  refine lv_iload_n hx hb dX11_hear_0 rfl (lv_at hl 2 rfl) ?_
  refine lv_iconst (v := (nI 1)) hx hb dX11_hear_1 (by decide) ?_
  refine lv_icmp_lt (tgt := 11) hx hb dX11_hear_2 (by decide) (fun c2 => ?_) (fun c2 => ?_)
  · skip
    exact thr_S (E := "java/lang/IllegalArgumentException") (ik := 62) (is := 91) (ic := 66) (tx := "not 1 to 8 bytes") hQ hx hb hl9 hown (by decide +kernel) cl62 iniE (fun w hw => hts w (List.mem_cons_of_mem _ (List.mem_append_right _ hw))) thr_b66 thr_g66 (by decide) (by decide) hXF hEx hK hP hD hS (hl.1.trans hml.symm) dX11_hear_11 dX11_hear_14 dX11_hear_15 dX11_hear_17 dX11_hear_20 (Nat.le_of_ble_eq_true rfl) (Nat.le_of_ble_eq_true rfl) (Nat.le_of_ble_eq_true rfl) (Nat.le_of_ble_eq_true rfl) hlocks (Nat.le_of_ble_eq_true rfl) (Nat.le_of_ble_eq_true rfl)
  · skip
    refine lv_iload_n hx hb dX11_hear_5 rfl (lv_at hl 2 rfl) ?_
    refine lv_bipush (v := (nI 8)) hx hb dX11_hear_6 (by decide) ?_
    refine lv_icmp_le (tgt := 21) hx hb dX11_hear_8 (by decide) (fun c8 => ?_) (fun c8 => ?_)
    · exact absurd hT (fun z => z.elim c2 (i32_le c8))
    · skip
      exact thr_S (E := "java/lang/IllegalArgumentException") (ik := 62) (is := 91) (ic := 66) (tx := "not 1 to 8 bytes") hQ hx hb hl9 hown (by decide +kernel) cl62 iniE (fun w hw => hts w (List.mem_cons_of_mem _ (List.mem_append_right _ hw))) thr_b66 thr_g66 (by decide) (by decide) hXF hEx hK hP hD hS (hl.1.trans hml.symm) dX11_hear_11 dX11_hear_14 dX11_hear_15 dX11_hear_17 dX11_hear_20 (Nat.le_of_ble_eq_true rfl) (Nat.le_of_ble_eq_true rfl) (Nat.le_of_ble_eq_true rfl) (Nat.le_of_ble_eq_true rfl) hlocks (Nat.le_of_ble_eq_true rfl) (Nat.le_of_ble_eq_true rfl)
set_option maxHeartbeats 4000000 in
set_option maxRecDepth 100000 in
theorem c_X11_pass_T (l : Launch) (D : va_G) (cyI cyZ : ClassId) (h0 : Nat) (t : Int32) (hT : paB t) (hl9 : l.stackTraces = false) : CtX l D yX11_pass wsX11_pass ({ frames := 6, cells := 1, slots := 6, locals := 90 } : Room) [.ref h0, .int t] [] (tyL cyI cyZ) "java/lang/IllegalArgumentException" 1 6 := by
  refine mk_CtX (cc := cX11_pass) (maxL := 2) (ret := none) (by decide) rfl rfl ?_
  intro p e s m below meth c A Q ls hx hb hr hts hown hlocks hml hname hA hN hK hP hD hS hXF hEx hQ hl
  have hl : lv_has ls 2 [(0, .ref h0), (1, .int t)] := hl
  have cl62 : (Cond.classLink RX11 62 "java/lang/IllegalArgumentException").before ([.ref h0, .int t] : List Value).toArray s = true := hts _ (by decide +kernel)
  have iniE : (Cond.initialized "java/lang/IllegalArgumentException").before ([.ref h0, .int t] : List Value).toArray s = true := hts _ (by decide +kernel)
  have hown : s.vm.findClass RX11 = some m.cls := hown
  obtain ⟨H, eH9⟩ : ∃ H, H = s.heap := ⟨_, rfl⟩
  have hP : va_P D vwCl [] H := by rw [eH9]; exact hP
  have hS : va_S A s.heap H [] := by rw [eH9]; exact hS
  obtain ⟨locs, eL9⟩ : ∃ z : List Loc, z = [] := ⟨_, rfl⟩
  rw [← eH9, ← eL9]
  have hS : va_S A s.heap H locs := by rw [eL9]; exact hS
  refine lv_iload_n hx hb dX11_pass_0 rfl (lv_at hl 1 rfl) ?_
  refine lv_iconst (v := (nI 1)) hx hb dX11_pass_1 (by decide) ?_
  refine lv_icmp_lt (tgt := 11) hx hb dX11_pass_2 (by decide) (fun c2 => ?_) (fun c2 => ?_)
  · skip
    exact thr_S (E := "java/lang/IllegalArgumentException") (ik := 62) (is := 135) (ic := 66) (tx := "not 1 to 100 ticks") hQ hx hb hl9 hown (by decide +kernel) cl62 iniE (fun w hw => hts w (List.mem_cons_of_mem _ (List.mem_append_right _ hw))) thr_b66 thr_g66 (by decide) (by decide) hXF hEx hK hP hD hS (hl.1.trans hml.symm) dX11_pass_11 dX11_pass_14 dX11_pass_15 dX11_pass_17 dX11_pass_20 (Nat.le_of_ble_eq_true rfl) (Nat.le_of_ble_eq_true rfl) (Nat.le_of_ble_eq_true rfl) (Nat.le_of_ble_eq_true rfl) hlocks (Nat.le_of_ble_eq_true rfl) (Nat.le_of_ble_eq_true rfl)
  · skip
    refine lv_iload_n hx hb dX11_pass_5 rfl (lv_at hl 1 rfl) ?_
    refine lv_bipush (v := (nI 100)) hx hb dX11_pass_6 (by decide) ?_
    refine lv_icmp_le (tgt := 21) hx hb dX11_pass_8 (by decide) (fun c8 => ?_) (fun c8 => ?_)
    · exact absurd hT (fun z => z.elim c2 (i32_le c8))
    · skip
      exact thr_S (E := "java/lang/IllegalArgumentException") (ik := 62) (is := 135) (ic := 66) (tx := "not 1 to 100 ticks") hQ hx hb hl9 hown (by decide +kernel) cl62 iniE (fun w hw => hts w (List.mem_cons_of_mem _ (List.mem_append_right _ hw))) thr_b66 thr_g66 (by decide) (by decide) hXF hEx hK hP hD hS (hl.1.trans hml.symm) dX11_pass_11 dX11_pass_14 dX11_pass_15 dX11_pass_17 dX11_pass_20 (Nat.le_of_ble_eq_true rfl) (Nat.le_of_ble_eq_true rfl) (Nat.le_of_ble_eq_true rfl) (Nat.le_of_ble_eq_true rfl) hlocks (Nat.le_of_ble_eq_true rfl) (Nat.le_of_ble_eq_true rfl)
set_option maxHeartbeats 4000000 in
set_option maxRecDepth 100000 in
theorem c_X11_sum_T (l : Launch) (D : va_G) (cyI cyZ : ClassId) (h0 : Nat) (x : Int64) (n : Int32) (hT : suB n) (hl9 : l.stackTraces = false) : CtX l D yX11_sum wsX11_sum ({ frames := 6, cells := 1, slots := 6, locals := 90 } : Room) [.ref h0, .long x, .int n] [] (tyL cyI cyZ) "java/lang/IllegalArgumentException" 1 6 := by
  refine mk_CtX (cc := cX11_sum) (maxL := 5) (ret := (some .int)) (by decide) rfl rfl ?_
  intro p e s m below meth c A Q ls hx hb hr hts hown hlocks hml hname hA hN hK hP hD hS hXF hEx hQ hl
  have hl : lv_has ls 5 [(0, .ref h0), (1, .long x), (3, .int n)] := hl
  have cl62 : (Cond.classLink RX11 62 "java/lang/IllegalArgumentException").before ([.ref h0, .long x, .int n] : List Value).toArray s = true := hts _ (by decide +kernel)
  have iniE : (Cond.initialized "java/lang/IllegalArgumentException").before ([.ref h0, .long x, .int n] : List Value).toArray s = true := hts _ (by decide +kernel)
  have hown : s.vm.findClass RX11 = some m.cls := hown
  obtain ⟨H, eH9⟩ : ∃ H, H = s.heap := ⟨_, rfl⟩
  have hP : va_P D vwCl [] H := by rw [eH9]; exact hP
  have hS : va_S A s.heap H [] := by rw [eH9]; exact hS
  obtain ⟨locs, eL9⟩ : ∃ z : List Loc, z = [] := ⟨_, rfl⟩
  rw [← eH9, ← eL9]
  have hS : va_S A s.heap H locs := by rw [eL9]; exact hS
  refine lv_iload_n hx hb dX11_sum_0 rfl (lv_at hl 2 rfl) ?_
  refine lv_if_lt (tgt := 10) hx hb dX11_sum_1 (by decide) (fun c1 => ?_) (fun c1 => ?_)
  · skip
    exact thr_S (E := "java/lang/IllegalArgumentException") (ik := 62) (is := 156) (ic := 66) (tx := "not 0 to 8 bytes") hQ hx hb hl9 hown (by decide +kernel) cl62 iniE (fun w hw => hts w (List.mem_cons_of_mem _ (List.mem_append_right _ hw))) thr_b66 thr_g66 (by decide) (by decide) hXF hEx hK hP hD hS (hl.1.trans hml.symm) dX11_sum_10 dX11_sum_13 dX11_sum_14 dX11_sum_16 dX11_sum_19 (Nat.le_of_ble_eq_true rfl) (Nat.le_of_ble_eq_true rfl) (Nat.le_of_ble_eq_true rfl) (Nat.le_of_ble_eq_true rfl) hlocks (Nat.le_of_ble_eq_true rfl) (Nat.le_of_ble_eq_true rfl)
  · skip
    refine lv_iload_n hx hb dX11_sum_4 rfl (lv_at hl 2 rfl) ?_
    refine lv_bipush (v := (nI 8)) hx hb dX11_sum_5 (by decide) ?_
    refine lv_icmp_le (tgt := 20) hx hb dX11_sum_7 (by decide) (fun c7 => ?_) (fun c7 => ?_)
    · exact absurd hT (fun z => z.elim c1 (i32_le c7))
    · skip
      exact thr_S (E := "java/lang/IllegalArgumentException") (ik := 62) (is := 156) (ic := 66) (tx := "not 0 to 8 bytes") hQ hx hb hl9 hown (by decide +kernel) cl62 iniE (fun w hw => hts w (List.mem_cons_of_mem _ (List.mem_append_right _ hw))) thr_b66 thr_g66 (by decide) (by decide) hXF hEx hK hP hD hS (hl.1.trans hml.symm) dX11_sum_10 dX11_sum_13 dX11_sum_14 dX11_sum_16 dX11_sum_19 (Nat.le_of_ble_eq_true rfl) (Nat.le_of_ble_eq_true rfl) (Nat.le_of_ble_eq_true rfl) (Nat.le_of_ble_eq_true rfl) hlocks (Nat.le_of_ble_eq_true rfl) (Nat.le_of_ble_eq_true rfl)
set_option maxHeartbeats 4000000 in
set_option maxRecDepth 100000 in
theorem c_X11_ask_T (l : Launch) (D : va_G) (cyI cyZ : ClassId) (h0 : Nat) (x : Int64) (n : Int32) (hT : heB n) (hl9 : l.stackTraces = false) : CtX l D yX11_ask wsX11_ask ({ frames := 6, cells := 1, slots := 6, locals := 90 } : Room) [.ref h0, .long x, .int n] [] (tyL cyI cyZ) "java/lang/IllegalArgumentException" 1 6 := by
  refine mk_CtX (cc := cX11_ask) (maxL := 4) (ret := (some .int)) (by decide) rfl rfl ?_
  intro p e s m below meth c A Q ls hx hb hr hts hown hlocks hml hname hA hN hK hP hD hS hXF hEx hQ hl
  have hl : lv_has ls 4 [(0, .ref h0), (1, .long x), (3, .int n)] := hl
  have cl62 : (Cond.classLink RX11 62 "java/lang/IllegalArgumentException").before ([.ref h0, .long x, .int n] : List Value).toArray s = true := hts _ (by decide +kernel)
  have iniE : (Cond.initialized "java/lang/IllegalArgumentException").before ([.ref h0, .long x, .int n] : List Value).toArray s = true := hts _ (by decide +kernel)
  have hown : s.vm.findClass RX11 = some m.cls := hown
  obtain ⟨H, eH9⟩ : ∃ H, H = s.heap := ⟨_, rfl⟩
  have hP : va_P D vwCl [] H := by rw [eH9]; exact hP
  have hS : va_S A s.heap H [] := by rw [eH9]; exact hS
  obtain ⟨locs, eL9⟩ : ∃ z : List Loc, z = [] := ⟨_, rfl⟩
  rw [← eH9, ← eL9]
  have hS : va_S A s.heap H locs := by rw [eL9]; exact hS
  refine lv_iload_n hx hb dX11_ask_0 rfl (lv_at hl 2 rfl) ?_
  refine lv_iconst (v := (nI 1)) hx hb dX11_ask_1 (by decide) ?_
  refine lv_icmp_lt (tgt := 11) hx hb dX11_ask_2 (by decide) (fun c2 => ?_) (fun c2 => ?_)
  · skip
    exact thr_S (E := "java/lang/IllegalArgumentException") (ik := 62) (is := 91) (ic := 66) (tx := "not 1 to 8 bytes") hQ hx hb hl9 hown (by decide +kernel) cl62 iniE (fun w hw => hts w (List.mem_cons_of_mem _ (List.mem_append_right _ hw))) thr_b66 thr_g66 (by decide) (by decide) hXF hEx hK hP hD hS (hl.1.trans hml.symm) dX11_ask_11 dX11_ask_14 dX11_ask_15 dX11_ask_17 dX11_ask_20 (Nat.le_of_ble_eq_true rfl) (Nat.le_of_ble_eq_true rfl) (Nat.le_of_ble_eq_true rfl) (Nat.le_of_ble_eq_true rfl) hlocks (Nat.le_of_ble_eq_true rfl) (Nat.le_of_ble_eq_true rfl)
  · skip
    refine lv_iload_n hx hb dX11_ask_5 rfl (lv_at hl 2 rfl) ?_
    refine lv_bipush (v := (nI 8)) hx hb dX11_ask_6 (by decide) ?_
    refine lv_icmp_le (tgt := 21) hx hb dX11_ask_8 (by decide) (fun c8 => ?_) (fun c8 => ?_)
    · exact absurd hT (fun z => z.elim c2 (i32_le c8))
    · skip
      exact thr_S (E := "java/lang/IllegalArgumentException") (ik := 62) (is := 91) (ic := 66) (tx := "not 1 to 8 bytes") hQ hx hb hl9 hown (by decide +kernel) cl62 iniE (fun w hw => hts w (List.mem_cons_of_mem _ (List.mem_append_right _ hw))) thr_b66 thr_g66 (by decide) (by decide) hXF hEx hK hP hD hS (hl.1.trans hml.symm) dX11_ask_11 dX11_ask_14 dX11_ask_15 dX11_ask_17 dX11_ask_20 (Nat.le_of_ble_eq_true rfl) (Nat.le_of_ble_eq_true rfl) (Nat.le_of_ble_eq_true rfl) (Nat.le_of_ble_eq_true rfl) hlocks (Nat.le_of_ble_eq_true rfl) (Nat.le_of_ble_eq_true rfl)
set_option maxHeartbeats 4000000 in
set_option maxRecDepth 100000 in
theorem c_X11_sent_T (l : Launch) (D : va_G) (cyI cyZ : ClassId) (h0 fd zl zp zq zs zt zk : Nat) (kp ssm : Nat) (st : List Nat × Nat) (kf : Nat → Int32) (pn : Nat) (k : Int32) (hT : seB st.1.length k) (ok : okS st kf) (hl9 : l.stackTraces = false) : CtX l D yX11_sent wsX11_sent ({ frames := 6, cells := 1, slots := 6, locals := 90 } : Room) [.ref h0, .int k] [(h0, .inr (11, [.ref fd, .ref zl, .ref zp, .ref zq, .ref zs, .ref zt, .ref zk])), (zs, .inr (9, [.ref kp, .ref ssm, .int (nI st.1.length), .int (nI (st.1.length % 256)), .int (nI pn)])), (kp, .inl (cyI, 256, .inl kf)), (ssm, .inr (10, [.int (nI st.2)]))] (tyL cyI cyZ) "java/lang/IndexOutOfBoundsException" 1 6 := by
  refine mk_CtX (cc := cX11_sent) (maxL := 2) (ret := (some .int)) (by decide) rfl rfl ?_
  intro p e s m below meth c A Q ls hx hb hr hts hown hlocks hml hname hA hN hK hP hD hS hXF hEx hQ hl
  have hl : lv_has ls 2 [(0, .ref h0), (1, .int k)] := hl
  have inX11_ : ∀ w ∈ u_ws RX11 TX11 7, w ∈ wsX11_sent := fun w h => List.mem_cons_of_mem _ (List.mem_append_left _ (List.mem_append_left _ (List.mem_append_right _ h)))
  have fl40 : (Cond.fieldLink RX11 40 "OutStation" "sending" "LOutStation$Sending;").before ([.ref h0, .int k] : List Value).toArray s = true := hts _ (by decide +kernel)
  have cl147 : (Cond.classLink RX11 147 "java/lang/IndexOutOfBoundsException").before ([.ref h0, .int k] : List Value).toArray s = true := hts _ (by decide +kernel)
  have iniE : (Cond.initialized "java/lang/IndexOutOfBoundsException").before ([.ref h0, .int k] : List Value).toArray s = true := hts _ (by decide +kernel)
  have hown : s.vm.findClass RX11 = some m.cls := hown
  obtain ⟨H, eH9⟩ : ∃ H, H = s.heap := ⟨_, rfl⟩
  have hP : va_P D vwCl [(h0, .inr (11, [.ref fd, .ref zl, .ref zp, .ref zq, .ref zs, .ref zt, .ref zk])), (zs, .inr (9, [.ref kp, .ref ssm, .int (nI st.1.length), .int (nI (st.1.length % 256)), .int (nI pn)])), (kp, .inl (cyI, 256, .inl kf)), (ssm, .inr (10, [.int (nI st.2)]))] H := by rw [eH9]; exact hP
  have hS : va_S A s.heap H [] := by rw [eH9]; exact hS
  obtain ⟨locs, eL9⟩ : ∃ z : List Loc, z = [] := ⟨_, rfl⟩
  rw [← eH9, ← eL9]
  have hS : va_S A s.heap H locs := by rw [eL9]; exact hS
  obtain ⟨ok1, ok2, ok3⟩ := id ok
  refine lv_iload_n hx hb dX11_sent_0 rfl (lv_at hl 1 rfl) ?_
  refine lv_iconst (v := (-1)) hx hb dX11_sent_1 (by decide) ?_
  refine lv_icmp_ne (tgt := 13) hx hb dX11_sent_2 (by decide) (fun c2 => ?_) (fun c2 => ?_)
  · skip
    refine lv_aload_n hx hb dX11_sent_13 rfl (lv_at hl 0 rfl) ?_
    refine va_get (D := D) (ci := 11) (v := .ref zs) (C := RX11) (T := TX11) (N := 7) hx hb hts inX11_ hown hK hP 0 rfl rfl 4 (by decide) fl40 (fun _ h9 => h9) rfl dX11_sent_14 ?_
    refine lv_iload_n hx hb dX11_sent_17 rfl (lv_at hl 1 rfl) ?_
    refine res_i (wW := [(h0, .inr (11, [.ref fd, .ref zl, .ref zp, .ref zq, .ref zs, .ref zt, .ref zk])), (zs, .inr (9, [.ref kp, .ref ssm, .int (nI st.1.length), .int (nI (st.1.length % 256)), .int (nI pn)])), (kp, .inl (cyI, 256, .inl kf)), (ssm, .inr (10, [.int (nI st.2)]))]) (Wc := [(zs, .inr (9, [.ref kp, .ref ssm, .int (nI st.1.length), .int (nI (st.1.length % 256)), .int (nI pn)])), (kp, .inl (cyI, 256, .inl kf)), (ssm, .inr (10, [.int (nI st.2)]))]) (Wr := [(h0, .inr (11, [.ref fd, .ref zl, .ref zp, .ref zq, .ref zs, .ref zt, .ref zk]))]) (run_V (QA := fun A => va_Qi _ (bw D _ (tyL cyI cyZ) A) A) (rmC := ({ frames := 0, cells := 0, slots := 0, locals := 0 } : Room)) (mc := 0) (ms := 0) (As := [.int k]) (rest := []) (ci := 9) (wW := [(h0, .inr (11, [.ref fd, .ref zl, .ref zp, .ref zq, .ref zs, .ref zt, .ref zk])), (zs, .inr (9, [.ref kp, .ref ssm, .int (nI st.1.length), .int (nI (st.1.length % 256)), .int (nI pn)])), (kp, .inl (cyI, 256, .inl kf)), (ssm, .inr (10, [.int (nI st.2)]))]) (Wc := [(zs, .inr (9, [.ref kp, .ref ssm, .int (nI st.1.length), .int (nI (st.1.length % 256)), .int (nI pn)])), (kp, .inl (cyI, 256, .inl kf)), (ssm, .inr (10, [.int (nI st.2)]))]) ⟨hx, hb, hml, hown, hts⟩ (c_X9_keeps l D cyI cyZ zs kp ssm st kf pn k (by assumption)) (cwV 1 hts gX11_sent_X9_keeps rfl rfl rfl (by decide +kernel) ⟨Nat.le_of_ble_eq_true rfl, Nat.le_of_ble_eq_true rfl⟩) hN hK hP hD [1, 2, 3] rfl (by decide) 1 rfl rfl rfl hl.1 rfl rfl dX11_sent_18 ⟨Nat.le_of_ble_eq_true rfl, Nat.le_of_ble_eq_true rfl⟩) hP hD hS hA [1, 2, 3] [0] rfl rfl (by decide) (by decide) (fun r18 u9 H locs w18 hP hD hS => ?_)
    have w18 : r18 = bI (keepI st k) := w18
    have hP : va_P D vwCl [(h0, .inr (11, [.ref fd, .ref zl, .ref zp, .ref zq, .ref zs, .ref zt, .ref zk])), (zs, .inr (9, [.ref kp, .ref ssm, .int (nI st.1.length), .int (nI (st.1.length % 256)), .int (nI pn)])), (kp, .inl (cyI, 256, .inl kf)), (ssm, .inr (10, [.int (nI st.2)]))] H := hP
    have hD : va_D A [(h0, .inr (11, [.ref fd, .ref zl, .ref zp, .ref zq, .ref zs, .ref zt, .ref zk])), (zs, .inr (9, [.ref kp, .ref ssm, .int (nI st.1.length), .int (nI (st.1.length % 256)), .int (nI pn)])), (kp, .inl (cyI, 256, .inl kf)), (ssm, .inr (10, [.int (nI st.2)]))] := hD
    refine nv_top (y := (bI (keepI st k))) (w18) ?_
    refine bv_if_ne (tgt := 34) hx hb dX11_sent_21 (by decide) (fun c21 => ?_) (fun c21 => ?_)
    · exact absurd hT (seB_keep c21 ok1)
    · skip
      exact thr_S (E := "java/lang/IndexOutOfBoundsException") (ik := 147) (is := 149) (ic := 151) (tx := "no such byte was sent") hQ hx hb hl9 hown (by decide +kernel) cl147 iniE (fun w hw => hts w (List.mem_cons_of_mem _ (List.mem_append_right _ hw))) thr_b151 thr_g151 (by decide) (by decide) hXF hEx hK hP hD hS (hl.1.trans hml.symm) dX11_sent_24 dX11_sent_27 dX11_sent_28 dX11_sent_30 dX11_sent_33 (Nat.le_of_ble_eq_true rfl) (Nat.le_of_ble_eq_true rfl) (Nat.le_of_ble_eq_true rfl) (Nat.le_of_ble_eq_true rfl) hlocks (Nat.le_of_ble_eq_true rfl) (Nat.le_of_ble_eq_true rfl)
  · exact absurd hT (by rw [c2]; exact seB_m1 ok1)
set_option maxHeartbeats 4000000 in
set_option maxRecDepth 100000 in
theorem c_X11_told_T (l : Launch) (D : va_G) (cyI cyZ : ClassId) (h0 fd zl zp zq zs zt zk : Nat) (tl0 tl1 : Nat) (tl : List Nat) (tlf : Nat → Int32) (k : Int32) (hT : toB tl k) (hl9 : l.stackTraces = false) : CtX l D yX11_told wsX11_told ({ frames := 6, cells := 1, slots := 6, locals := 90 } : Room) [.ref h0, .int k] [(h0, .inr (11, [.ref fd, .ref zl, .ref zp, .ref zq, .ref zs, .ref zt, .ref zk])), (zt, .inr (5, [.ref tl0])), (tl0, .inr (0, [.ref tl1, .int (nI tl.length)])), (tl1, .inl (cyI, 10, .inl tlf))] (tyL cyI cyZ) "java/lang/IndexOutOfBoundsException" 1 6 := by
  refine mk_CtX (cc := cX11_told) (maxL := 2) (ret := (some .int)) (by decide) rfl rfl ?_
  intro p e s m below meth c A Q ls hx hb hr hts hown hlocks hml hname hA hN hK hP hD hS hXF hEx hQ hl
  have hl : lv_has ls 2 [(0, .ref h0), (1, .int k)] := hl
  have cl147 : (Cond.classLink RX11 147 "java/lang/IndexOutOfBoundsException").before ([.ref h0, .int k] : List Value).toArray s = true := hts _ (by decide +kernel)
  have iniE : (Cond.initialized "java/lang/IndexOutOfBoundsException").before ([.ref h0, .int k] : List Value).toArray s = true := hts _ (by decide +kernel)
  have inX11_ : ∀ w ∈ u_ws RX11 TX11 7, w ∈ wsX11_told := fun w h => List.mem_cons_of_mem _ (List.mem_append_left _ (List.mem_append_left _ (List.mem_append_left _ (List.mem_append_right _ h))))
  have fl47 : (Cond.fieldLink RX11 47 "OutStation" "questions" "LOutStation$Questions;").before ([.ref h0, .int k] : List Value).toArray s = true := hts _ (by decide +kernel)
  have hown : s.vm.findClass RX11 = some m.cls := hown
  obtain ⟨H, eH9⟩ : ∃ H, H = s.heap := ⟨_, rfl⟩
  have hP : va_P D vwCl [(h0, .inr (11, [.ref fd, .ref zl, .ref zp, .ref zq, .ref zs, .ref zt, .ref zk])), (zt, .inr (5, [.ref tl0])), (tl0, .inr (0, [.ref tl1, .int (nI tl.length)])), (tl1, .inl (cyI, 10, .inl tlf))] H := by rw [eH9]; exact hP
  have hS : va_S A s.heap H [] := by rw [eH9]; exact hS
  obtain ⟨locs, eL9⟩ : ∃ z : List Loc, z = [] := ⟨_, rfl⟩
  rw [← eH9, ← eL9]
  have hS : va_S A s.heap H locs := by rw [eL9]; exact hS
  refine lv_iload_n hx hb dX11_told_0 rfl (lv_at hl 1 rfl) ?_
  refine lv_if_lt (tgt := 18) hx hb dX11_told_1 (by decide) (fun c1 => ?_) (fun c1 => ?_)
  · skip
    exact thr_S (E := "java/lang/IndexOutOfBoundsException") (ik := 147) (is := 175) (ic := 151) (tx := "no such byte was told") hQ hx hb hl9 hown (by decide +kernel) cl147 iniE (fun w hw => hts w (List.mem_cons_of_mem _ (List.mem_append_right _ hw))) thr_b151 thr_g151 (by decide) (by decide) hXF hEx hK hP hD hS (hl.1.trans hml.symm) dX11_told_18 dX11_told_21 dX11_told_22 dX11_told_24 dX11_told_27 (Nat.le_of_ble_eq_true rfl) (Nat.le_of_ble_eq_true rfl) (Nat.le_of_ble_eq_true rfl) (Nat.le_of_ble_eq_true rfl) hlocks (Nat.le_of_ble_eq_true rfl) (Nat.le_of_ble_eq_true rfl)
  · skip
    refine lv_iload_n hx hb dX11_told_4 rfl (lv_at hl 1 rfl) ?_
    refine lv_aload_n hx hb dX11_told_5 rfl (lv_at hl 0 rfl) ?_
    refine va_get (D := D) (ci := 11) (v := .ref zt) (C := RX11) (T := TX11) (N := 7) hx hb hts inX11_ hown hK hP 0 rfl rfl 5 (by decide) fl47 (fun _ h9 => h9) rfl dX11_told_6 ?_
    refine res_r (wW := [(h0, .inr (11, [.ref fd, .ref zl, .ref zp, .ref zq, .ref zs, .ref zt, .ref zk])), (zt, .inr (5, [.ref tl0])), (tl0, .inr (0, [.ref tl1, .int (nI tl.length)])), (tl1, .inl (cyI, 10, .inl tlf))]) (Wc := [(zt, .inr (5, [.ref tl0]))]) (Wr := [(h0, .inr (11, [.ref fd, .ref zl, .ref zp, .ref zq, .ref zs, .ref zt, .ref zk])), (tl0, .inr (0, [.ref tl1, .int (nI tl.length)])), (tl1, .inl (cyI, 10, .inl tlf))]) (run_V (QA := fun A => va_Qr _ (fun u a t => a = _ ∧ bw D _ (tyL cyI cyZ) A u t) A) (rmC := ({ frames := 0, cells := 0, slots := 0, locals := 0 } : Room)) (mc := 0) (ms := 0) (As := []) (rest := [.int k]) (ci := 5) (wW := [(h0, .inr (11, [.ref fd, .ref zl, .ref zp, .ref zq, .ref zs, .ref zt, .ref zk])), (zt, .inr (5, [.ref tl0])), (tl0, .inr (0, [.ref tl1, .int (nI tl.length)])), (tl1, .inl (cyI, 10, .inl tlf))]) (Wc := [(zt, .inr (5, [.ref tl0]))]) ⟨hx, hb, hml, hown, hts⟩ (c_X5_latest l D cyI cyZ zt tl0 ) (cwV 0 hts gX11_told_X5_latest rfl rfl rfl (by decide +kernel) ⟨Nat.le_of_ble_eq_true rfl, Nat.le_of_ble_eq_true rfl⟩) hN hK hP hD [1] rfl (by decide) 1 rfl rfl rfl hl.1 rfl rfl dX11_told_9 ⟨Nat.le_of_ble_eq_true rfl, Nat.le_of_ble_eq_true rfl⟩) hP hD hS hA [1] [0, 2, 3] rfl rfl (by decide) (by decide) (fun u9 H locs w9 hP hD hS => ?_)
    have w9 : True := w9
    have hP : va_P D vwCl [(h0, .inr (11, [.ref fd, .ref zl, .ref zp, .ref zq, .ref zs, .ref zt, .ref zk])), (tl0, .inr (0, [.ref tl1, .int (nI tl.length)])), (tl1, .inl (cyI, 10, .inl tlf)), (zt, .inr (5, [.ref tl0]))] H := hP
    have hD : va_D A [(h0, .inr (11, [.ref fd, .ref zl, .ref zp, .ref zq, .ref zs, .ref zt, .ref zk])), (tl0, .inr (0, [.ref tl1, .int (nI tl.length)])), (tl1, .inl (cyI, 10, .inl tlf)), (zt, .inr (5, [.ref tl0]))] := hD
    refine res_i (wW := [(h0, .inr (11, [.ref fd, .ref zl, .ref zp, .ref zq, .ref zs, .ref zt, .ref zk])), (tl0, .inr (0, [.ref tl1, .int (nI tl.length)])), (tl1, .inl (cyI, 10, .inl tlf)), (zt, .inr (5, [.ref tl0]))]) (Wc := [(tl0, .inr (0, [.ref tl1, .int (nI tl.length)])), (tl1, .inl (cyI, 10, .inl tlf))]) (Wr := [(h0, .inr (11, [.ref fd, .ref zl, .ref zp, .ref zq, .ref zs, .ref zt, .ref zk])), (zt, .inr (5, [.ref tl0]))]) (run_V (QA := fun A => va_Qi _ (bw D _ (tyL cyI cyZ) A) A) (rmC := ({ frames := 0, cells := 0, slots := 0, locals := 0 } : Room)) (mc := 0) (ms := 0) (As := []) (rest := [.int k]) (ci := 0) (wW := [(h0, .inr (11, [.ref fd, .ref zl, .ref zp, .ref zq, .ref zs, .ref zt, .ref zk])), (tl0, .inr (0, [.ref tl1, .int (nI tl.length)])), (tl1, .inl (cyI, 10, .inl tlf)), (zt, .inr (5, [.ref tl0]))]) (Wc := [(tl0, .inr (0, [.ref tl1, .int (nI tl.length)])), (tl1, .inl (cyI, 10, .inl tlf))]) ⟨hx, hb, hml, hown, hts⟩ (c_X0_length l D cyI cyZ tl0 tl1 10 tl tlf ) (cwV 0 hts gX11_told_X0_length rfl rfl rfl (by decide +kernel) ⟨Nat.le_of_ble_eq_true rfl, Nat.le_of_ble_eq_true rfl⟩) hN hK hP hD [1, 2] rfl (by decide) 1 rfl rfl rfl hl.1 rfl rfl dX11_told_12 ⟨Nat.le_of_ble_eq_true rfl, Nat.le_of_ble_eq_true rfl⟩) hP hD hS hA [1, 2] [0, 3] rfl rfl (by decide) (by decide) (fun r12 u9 H locs w12 hP hD hS => ?_)
    have w12 : r12 = nI tl.length := w12
    have hP : va_P D vwCl [(h0, .inr (11, [.ref fd, .ref zl, .ref zp, .ref zq, .ref zs, .ref zt, .ref zk])), (zt, .inr (5, [.ref tl0])), (tl0, .inr (0, [.ref tl1, .int (nI tl.length)])), (tl1, .inl (cyI, 10, .inl tlf))] H := hP
    have hD : va_D A [(h0, .inr (11, [.ref fd, .ref zl, .ref zp, .ref zq, .ref zs, .ref zt, .ref zk])), (zt, .inr (5, [.ref tl0])), (tl0, .inr (0, [.ref tl1, .int (nI tl.length)])), (tl1, .inl (cyI, 10, .inl tlf))] := hD
    refine nv_top (y := (nI tl.length)) (w12) ?_
    refine lv_icmp_lt (tgt := 28) hx hb dX11_told_15 (by decide) (fun c15 => ?_) (fun c15 => ?_)
    · exact absurd hT (fun z => z.elim c1 (i32_nle c15))
    · skip
      exact thr_S (E := "java/lang/IndexOutOfBoundsException") (ik := 147) (is := 175) (ic := 151) (tx := "no such byte was told") hQ hx hb hl9 hown (by decide +kernel) cl147 iniE (fun w hw => hts w (List.mem_cons_of_mem _ (List.mem_append_right _ hw))) thr_b151 thr_g151 (by decide) (by decide) hXF hEx hK hP hD hS (hl.1.trans hml.symm) dX11_told_18 dX11_told_21 dX11_told_22 dX11_told_24 dX11_told_27 (Nat.le_of_ble_eq_true rfl) (Nat.le_of_ble_eq_true rfl) (Nat.le_of_ble_eq_true rfl) (Nat.le_of_ble_eq_true rfl) hlocks (Nat.le_of_ble_eq_true rfl) (Nat.le_of_ble_eq_true rfl)
