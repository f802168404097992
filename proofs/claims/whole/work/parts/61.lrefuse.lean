/-! OWN ROWS, written by wip/gen (walk.py, spec_r.py) -/
set_option maxHeartbeats 4000000 in
set_option maxRecDepth 100000 in
theorem c_L_change_T (l : Launch) (D : va_G) (cyI cyZ cyJ : ClassId) (h0 fd zl zp zq zs zt zk : Nat) (ba aa oa eb ea : Nat) (ovf rst : Bool) (k x v : Int32) (hT : chB k x v) (hl9 : l.stackTraces = false) : CiF l D yL_change wsL_change ({ frames := 7, cells := 1, slots := 6, locals := 130 } : Room) [.ref h0, .int k, .int x, .int v] [(h0, .inr (11, [.ref fd, .ref zl, .ref zp, .ref zq, .ref zs, .ref zt, .ref zk])), (fd, .inr (2, [.ref ba, .ref aa, .ref oa, .ref eb, .ref ea, .int (bI (ovf = true)), .int (bI (rst = true))]))] (tyJ cyI cyZ cyJ) (fun (r : Int32) (_ : Unit) => r = nI 1) (fun _ : Unit => [(h0, .inr (11, [.ref fd, .ref zl, .ref zp, .ref zq, .ref zs, .ref zt, .ref zk])), (fd, .inr (2, [.ref ba, .ref aa, .ref oa, .ref eb, .ref ea, .int (bI (ovf = true)), .int (bI (rst = true))]))]) 1 6 := by
  refine mk_CtF (cc := cL_change) (maxL := 5) (ret := (some .int)) (by decide) rfl rfl ?_
  intro p e s m below meth c A Q ls hx hb hr hts hown hlocks hml hname hA hN hK hP hD hS hXF hTab hQ hl
  have hKL : va_K D vwCl (tyL cyI cyZ) s := tyJ_L hK
  have hl : lv_has ls 5 [(0, .ref h0), (1, .int k), (2, .int x), (3, .int v)] := hl
  have clE : (Cond.classLink RL 13 "java/lang/IllegalArgumentException").before ([.ref h0, .int k, .int x, .int v] : List Value).toArray s = true := hts _ (by decide +kernel)
  have hown : s.vm.findClass RL = some m.cls := hown
  obtain ⟨H, eH9⟩ : ∃ H, H = s.heap := ⟨_, rfl⟩
  have hP : va_P D vwCl [(h0, .inr (11, [.ref fd, .ref zl, .ref zp, .ref zq, .ref zs, .ref zt, .ref zk])), (fd, .inr (2, [.ref ba, .ref aa, .ref oa, .ref eb, .ref ea, .int (bI (ovf = true)), .int (bI (rst = true))]))] H := by rw [eH9]; exact hP
  have hS : va_S A s.heap H [] := by rw [eH9]; exact hS
  obtain ⟨locs, eL9⟩ : ∃ z : List Loc, z = [] := ⟨_, rfl⟩
  rw [← eH9, ← eL9]
  have hS : va_S A s.heap H locs := by rw [eL9]; exact hS
  refine lv_aload_n hx hb dL_change_0 rfl (lv_at hl 0 rfl) ?_
  refine lv_iload_n hx hb dL_change_1 rfl (lv_at hl 1 rfl) ?_
  refine lv_iload_n hx hb dL_change_2 rfl (lv_at hl 2 rfl) ?_
  refine lv_iload_n hx hb dL_change_3 rfl (lv_at hl 3 rfl) ?_
  refine res_X (wW := [(h0, .inr (11, [.ref fd, .ref zl, .ref zp, .ref zq, .ref zs, .ref zt, .ref zk])), (fd, .inr (2, [.ref ba, .ref aa, .ref oa, .ref eb, .ref ea, .int (bI (ovf = true)), .int (bI (rst = true))]))]) (Wc := [(h0, .inr (11, [.ref fd, .ref zl, .ref zp, .ref zq, .ref zs, .ref zt, .ref zk])), (fd, .inr (2, [.ref ba, .ref aa, .ref oa, .ref eb, .ref ea, .int (bI (ovf = true)), .int (bI (rst = true))]))]) (Wr := []) (run_VX (rmC := ({ frames := 6, cells := 1, slots := 6, locals := 90 } : Room)) (mc := 1) (ms := 6) (E := "java/lang/IllegalArgumentException") (As := [.int k, .int x, .int v]) (rest := []) (ci := 11) (wW := [(h0, .inr (11, [.ref fd, .ref zl, .ref zp, .ref zq, .ref zs, .ref zt, .ref zk])), (fd, .inr (2, [.ref ba, .ref aa, .ref oa, .ref eb, .ref ea, .int (bI (ovf = true)), .int (bI (rst = true))]))]) (Wc := [(h0, .inr (11, [.ref fd, .ref zl, .ref zp, .ref zq, .ref zs, .ref zt, .ref zk])), (fd, .inr (2, [.ref ba, .ref aa, .ref oa, .ref eb, .ref ea, .int (bI (ovf = true)), .int (bI (rst = true))]))]) ⟨hx, hb, hml, hown, hts⟩ (c_X11_change_T l D cyI cyZ h0 fd zl zp zq zs zt zk ba aa oa eb ea ovf rst k x v (by assumption) hl9) (cwV 3 hts gL_change_X11_change rfl rfl rfl (by decide +kernel) ⟨Nat.le_of_ble_eq_true rfl, Nat.le_of_ble_eq_true rfl⟩) hN hKL hP hD hXF hS hA [0, 1] rfl (by decide) 0 rfl rfl rfl hl.1 rfl rfl dL_change_4 ⟨Nat.le_of_ble_eq_true rfl, Nat.le_of_ble_eq_true rfl⟩) hP hD hS hA [0, 1] [] rfl rfl (by decide) (by decide) (fun ce q9 H locs hP hD hS hce hcv hcl => ?_)
  have hP : va_P D vwCl [(h0, .inr (11, [.ref fd, .ref zl, .ref zp, .ref zq, .ref zs, .ref zt, .ref zk])), (fd, .inr (2, [.ref ba, .ref aa, .ref oa, .ref eb, .ref ea, .int (bI (ovf = true)), .int (bI (rst = true))]))] H := hP
  have hD : va_D A [(h0, .inr (11, [.ref fd, .ref zl, .ref zp, .ref zq, .ref zs, .ref zt, .ref zk])), (fd, .inr (2, [.ref ba, .ref aa, .ref oa, .ref eb, .ref ea, .int (bI (ovf = true)), .int (bI (rst = true))]))] := hD
  refine vx_catch (own := RL) (name := "java/lang/IllegalArgumentException") (E := "java/lang/IllegalArgumentException") hown ⟨0, 7, 10, 13⟩ [] (by rw [hTab]; rfl) (by decide) (by decide) clE (va_Nw.use rfl (hXF.1 "java/lang/IllegalArgumentException" (by decide))) hce hcv hcl ?_
  refine lv_astore (lv' := [(4, .ref q9), (0, .ref h0), (1, .int k), (2, .int x), (3, .int v)]) hx hb dL_change_10 hl (by decide) rfl (fun ls hl => ?_)
  refine lv_iconst (v := (nI 1)) hx hb dL_change_12 (by decide) ?_
  exact ret_i hQ hx hb hr hlocks dL_change_13 hK hS () (rfl) hP hD
set_option maxHeartbeats 4000000 in
set_option maxRecDepth 100000 in
theorem c_L_point_T (l : Launch) (D : va_G) (cyI cyZ cyJ : ClassId) (h0 fd zl zp zq zs zt zk : Nat) (ba aa oa eb ea : Nat) (ovf rst : Bool) (k x : Int32) (oj : Nat) (hT : ¬ hasI k x) (hl9 : l.stackTraces = false) : CiF l D yL_point wsL_point ({ frames := 7, cells := 1, slots := 6, locals := 130 } : Room) [.ref h0, .int k, .int x, .ref oj] [(h0, .inr (11, [.ref fd, .ref zl, .ref zp, .ref zq, .ref zs, .ref zt, .ref zk])), (fd, .inr (2, [.ref ba, .ref aa, .ref oa, .ref eb, .ref ea, .int (bI (ovf = true)), .int (bI (rst = true))]))] (tyJ cyI cyZ cyJ) (fun (r : Int32) (_ : Unit) => r = nI 1) (fun _ : Unit => [(h0, .inr (11, [.ref fd, .ref zl, .ref zp, .ref zq, .ref zs, .ref zt, .ref zk])), (fd, .inr (2, [.ref ba, .ref aa, .ref oa, .ref eb, .ref ea, .int (bI (ovf = true)), .int (bI (rst = true))]))]) 1 6 := by
  refine mk_CtF (cc := cL_point) (maxL := 5) (ret := (some .int)) (by decide) rfl rfl ?_
  intro p e s m below meth c A Q ls hx hb hr hts hown hlocks hml hname hA hN hK hP hD hS hXF hTab hQ hl
  have hKL : va_K D vwCl (tyL cyI cyZ) s := tyJ_L hK
  have hl : lv_has ls 5 [(0, .ref h0), (1, .int k), (2, .int x), (3, .ref oj)] := hl
  have clE : (Cond.classLink RL 13 "java/lang/IllegalArgumentException").before ([.ref h0, .int k, .int x, .ref oj] : List Value).toArray s = true := hts _ (by decide +kernel)
  have hown : s.vm.findClass RL = some m.cls := hown
  obtain ⟨H, eH9⟩ : ∃ H, H = s.heap := ⟨_, rfl⟩
  have hP : va_P D vwCl [(h0, .inr (11, [.ref fd, .ref zl, .ref zp, .ref zq, .ref zs, .ref zt, .ref zk])), (fd, .inr (2, [.ref ba, .ref aa, .ref oa, .ref eb, .ref ea, .int (bI (ovf = true)), .int (bI (rst = true))]))] H := by rw [eH9]; exact hP
  have hS : va_S A s.heap H [] := by rw [eH9]; exact hS
  obtain ⟨locs, eL9⟩ : ∃ z : List Loc, z = [] := ⟨_, rfl⟩
  rw [← eH9, ← eL9]
  have hS : va_S A s.heap H locs := by rw [eL9]; exact hS
  refine lv_aload_n hx hb dL_point_0 rfl (lv_at hl 3 rfl) ?_
  refine lv_iconst (v := (nI 0)) hx hb dL_point_1 (by decide) ?_
  refine lv_aload_n hx hb dL_point_2 rfl (lv_at hl 0 rfl) ?_
  refine lv_iload_n hx hb dL_point_3 rfl (lv_at hl 1 rfl) ?_
  refine lv_iload_n hx hb dL_point_4 rfl (lv_at hl 2 rfl) ?_
  refine res_X (wW := [(h0, .inr (11, [.ref fd, .ref zl, .ref zp, .ref zq, .ref zs, .ref zt, .ref zk])), (fd, .inr (2, [.ref ba, .ref aa, .ref oa, .ref eb, .ref ea, .int (bI (ovf = true)), .int (bI (rst = true))]))]) (Wc := [(h0, .inr (11, [.ref fd, .ref zl, .ref zp, .ref zq, .ref zs, .ref zt, .ref zk])), (fd, .inr (2, [.ref ba, .ref aa, .ref oa, .ref eb, .ref ea, .int (bI (ovf = true)), .int (bI (rst = true))]))]) (Wr := []) (run_VX (rmC := ({ frames := 6, cells := 1, slots := 6, locals := 90 } : Room)) (mc := 1) (ms := 6) (E := "java/lang/IllegalArgumentException") (As := [.int k, .int x]) (rest := [.int (nI 0), .ref oj]) (ci := 11) (wW := [(h0, .inr (11, [.ref fd, .ref zl, .ref zp, .ref zq, .ref zs, .ref zt, .ref zk])), (fd, .inr (2, [.ref ba, .ref aa, .ref oa, .ref eb, .ref ea, .int (bI (ovf = true)), .int (bI (rst = true))]))]) (Wc := [(h0, .inr (11, [.ref fd, .ref zl, .ref zp, .ref zq, .ref zs, .ref zt, .ref zk])), (fd, .inr (2, [.ref ba, .ref aa, .ref oa, .ref eb, .ref ea, .int (bI (ovf = true)), .int (bI (rst = true))]))]) ⟨hx, hb, hml, hown, hts⟩ (c_X11_point_T l D cyI cyZ h0 fd zl zp zq zs zt zk ba aa oa eb ea ovf rst k x (by assumption) hl9) (cwV 2 hts gL_point_X11_point rfl rfl rfl (by decide +kernel) ⟨Nat.le_of_ble_eq_true rfl, Nat.le_of_ble_eq_true rfl⟩) hN hKL hP hD hXF hS hA [0, 1] rfl (by decide) 0 rfl rfl rfl hl.1 rfl rfl dL_point_5 ⟨Nat.le_of_ble_eq_true rfl, Nat.le_of_ble_eq_true rfl⟩) hP hD hS hA [0, 1] [] rfl rfl (by decide) (by decide) (fun ce q9 H locs hP hD hS hce hcv hcl => ?_)
  have hP : va_P D vwCl [(h0, .inr (11, [.ref fd, .ref zl, .ref zp, .ref zq, .ref zs, .ref zt, .ref zk])), (fd, .inr (2, [.ref ba, .ref aa, .ref oa, .ref eb, .ref ea, .int (bI (ovf = true)), .int (bI (rst = true))]))] H := hP
  have hD : va_D A [(h0, .inr (11, [.ref fd, .ref zl, .ref zp, .ref zq, .ref zs, .ref zt, .ref zk])), (fd, .inr (2, [.ref ba, .ref aa, .ref oa, .ref eb, .ref ea, .int (bI (ovf = true)), .int (bI (rst = true))]))] := hD
  refine vx_catch (own := RL) (name := "java/lang/IllegalArgumentException") (E := "java/lang/IllegalArgumentException") hown ⟨0, 10, 13, 13⟩ [] (by rw [hTab]; rfl) (by decide) (by decide) clE (va_Nw.use rfl (hXF.1 "java/lang/IllegalArgumentException" (by decide))) hce hcv hcl ?_
  refine lv_astore (lv' := [(4, .ref q9), (0, .ref h0), (1, .int k), (2, .int x), (3, .ref oj)]) hx hb dL_point_13 hl (by decide) rfl (fun ls hl => ?_)
  refine lv_iconst (v := (nI 1)) hx hb dL_point_15 (by decide) ?_
  exact ret_i hQ hx hb hr hlocks dL_point_16 hK hS () (rfl) hP hD
set_option maxHeartbeats 4000000 in
set_option maxRecDepth 100000 in
theorem c_L_events_T (l : Launch) (D : va_G) (cyI cyZ cyJ : ClassId) (h0 fd zl zp zq zs zt zk : Nat) (k : Int32) (oj : Nat) (hT : evB k) (hl9 : l.stackTraces = false) : CiF l D yL_events wsL_events ({ frames := 7, cells := 1, slots := 6, locals := 130 } : Room) [.ref h0, .int k, .ref oj] [(h0, .inr (11, [.ref fd, .ref zl, .ref zp, .ref zq, .ref zs, .ref zt, .ref zk]))] (tyJ cyI cyZ cyJ) (fun (r : Int32) (_ : Unit) => r = nI 1) (fun _ : Unit => [(h0, .inr (11, [.ref fd, .ref zl, .ref zp, .ref zq, .ref zs, .ref zt, .ref zk]))]) 1 6 := by
  refine mk_CtF (cc := cL_events) (maxL := 4) (ret := (some .int)) (by decide) rfl rfl ?_
  intro p e s m below meth c A Q ls hx hb hr hts hown hlocks hml hname hA hN hK hP hD hS hXF hTab hQ hl
  have hKL : va_K D vwCl (tyL cyI cyZ) s := tyJ_L hK
  have hl : lv_has ls 4 [(0, .ref h0), (1, .int k), (2, .ref oj)] := hl
  have clE : (Cond.classLink RL 13 "java/lang/IllegalArgumentException").before ([.ref h0, .int k, .ref oj] : List Value).toArray s = true := hts _ (by decide +kernel)
  have hown : s.vm.findClass RL = some m.cls := hown
  obtain ⟨H, eH9⟩ : ∃ H, H = s.heap := ⟨_, rfl⟩
  have hP : va_P D vwCl [(h0, .inr (11, [.ref fd, .ref zl, .ref zp, .ref zq, .ref zs, .ref zt, .ref zk]))] H := by rw [eH9]; exact hP
  have hS : va_S A s.heap H [] := by rw [eH9]; exact hS
  obtain ⟨locs, eL9⟩ : ∃ z : List Loc, z = [] := ⟨_, rfl⟩
  rw [← eH9, ← eL9]
  have hS : va_S A s.heap H locs := by rw [eL9]; exact hS
  refine lv_aload_n hx hb dL_events_0 rfl (lv_at hl 2 rfl) ?_
  refine lv_iconst (v := (nI 0)) hx hb dL_events_1 (by decide) ?_
  refine lv_aload_n hx hb dL_events_2 rfl (lv_at hl 0 rfl) ?_
  refine lv_iload_n hx hb dL_events_3 rfl (lv_at hl 1 rfl) ?_
  refine res_X (wW := [(h0, .inr (11, [.ref fd, .ref zl, .ref zp, .ref zq, .ref zs, .ref zt, .ref zk]))]) (Wc := []) (Wr := [(h0, .inr (11, [.ref fd, .ref zl, .ref zp, .ref zq, .ref zs, .ref zt, .ref zk]))]) (run_VX (rmC := ({ frames := 6, cells := 1, slots := 6, locals := 90 } : Room)) (mc := 1) (ms := 6) (E := "java/lang/IllegalArgumentException") (As := [.int k]) (rest := [.int (nI 0), .ref oj]) (ci := 11) (wW := [(h0, .inr (11, [.ref fd, .ref zl, .ref zp, .ref zq, .ref zs, .ref zt, .ref zk]))]) (Wc := []) ⟨hx, hb, hml, hown, hts⟩ (c_X11_events_T l D cyI cyZ h0 k (by assumption) hl9) (cwV 1 hts gL_events_X11_events rfl rfl rfl (by decide +kernel) ⟨Nat.le_of_ble_eq_true rfl, Nat.le_of_ble_eq_true rfl⟩) hN hKL hP hD hXF hS hA [] rfl (by decide) 0 rfl rfl rfl hl.1 rfl rfl dL_events_4 ⟨Nat.le_of_ble_eq_true rfl, Nat.le_of_ble_eq_true rfl⟩) hP hD hS hA [] [0] rfl rfl (by decide) (by decide) (fun ce q9 H locs hP hD hS hce hcv hcl => ?_)
  have hP : va_P D vwCl [(h0, .inr (11, [.ref fd, .ref zl, .ref zp, .ref zq, .ref zs, .ref zt, .ref zk]))] H := hP
  have hD : va_D A [(h0, .inr (11, [.ref fd, .ref zl, .ref zp, .ref zq, .ref zs, .ref zt, .ref zk]))] := hD
  refine vx_catch (own := RL) (name := "java/lang/IllegalArgumentException") (E := "java/lang/IllegalArgumentException") hown ⟨0, 9, 12, 13⟩ [] (by rw [hTab]; rfl) (by decide) (by decide) clE (va_Nw.use rfl (hXF.1 "java/lang/IllegalArgumentException" (by decide))) hce hcv hcl ?_
  refine lv_astore_n (lv' := [(3, .ref q9), (0, .ref h0), (1, .int k), (2, .ref oj)]) hx hb dL_events_12 rfl hl (by decide) rfl (fun ls hl => ?_)
  refine lv_iconst (v := (nI 1)) hx hb dL_events_13 (by decide) ?_
  exact ret_i hQ hx hb hr hlocks dL_events_14 hK hS () (rfl) hP hD
set_option maxHeartbeats 4000000 in
set_option maxRecDepth 100000 in
theorem c_L_hear_T (l : Launch) (D : va_G) (cyI cyZ cyJ : ClassId) (h0 fd zl zp zq zs zt zk : Nat) (x : Int64) (n : Int32) (oj : Nat) (hT : heB n) (hl9 : l.stackTraces = false) : CiF l D yL_hear wsL_hear ({ frames := 7, cells := 1, slots := 6, locals := 130 } : Room) [.ref h0, .long x, .int n, .ref oj] [(h0, .inr (11, [.ref fd, .ref zl, .ref zp, .ref zq, .ref zs, .ref zt, .ref zk]))] (tyJ cyI cyZ cyJ) (fun (r : Int32) (_ : Unit) => r = nI 1) (fun _ : Unit => [(h0, .inr (11, [.ref fd, .ref zl, .ref zp, .ref zq, .ref zs, .ref zt, .ref zk]))]) 1 6 := by
  refine mk_CtF (cc := cL_hear) (maxL := 6) (ret := (some .int)) (by decide) rfl rfl ?_
  intro p e s m below meth c A Q ls hx hb hr hts hown hlocks hml hname hA hN hK hP hD hS hXF hTab hQ hl
  have hKL : va_K D vwCl (tyL cyI cyZ) s := tyJ_L hK
  have hl : lv_has ls 6 [(0, .ref h0), (1, .long x), (3, .int n), (4, .ref oj)] := hl
  have clE : (Cond.classLink RL 13 "java/lang/IllegalArgumentException").before ([.ref h0, .long x, .int n, .ref oj] : List Value).toArray s = true := hts _ (by decide +kernel)
  have hown : s.vm.findClass RL = some m.cls := hown
  obtain ⟨H, eH9⟩ : ∃ H, H = s.heap := ⟨_, rfl⟩
  have hP : va_P D vwCl [(h0, .inr (11, [.ref fd, .ref zl, .ref zp, .ref zq, .ref zs, .ref zt, .ref zk]))] H := by rw [eH9]; exact hP
  have hS : va_S A s.heap H [] := by rw [eH9]; exact hS
  obtain ⟨locs, eL9⟩ : ∃ z : List Loc, z = [] := ⟨_, rfl⟩
  rw [← eH9, ← eL9]
  have hS : va_S A s.heap H locs := by rw [eL9]; exact hS
  refine lv_aload hx hb dL_hear_0 (lv_at hl 3 rfl) ?_
  refine lv_iconst (v := (nI 0)) hx hb dL_hear_2 (by decide) ?_
  refine lv_aload_n hx hb dL_hear_3 rfl (lv_at hl 0 rfl) ?_
  refine lv_lload_n hx hb dL_hear_4 rfl (lv_at hl 1 rfl) ?_
  refine lv_iload_n hx hb dL_hear_5 rfl (lv_at hl 2 rfl) ?_
  refine res_X (wW := [(h0, .inr (11, [.ref fd, .ref zl, .ref zp, .ref zq, .ref zs, .ref zt, .ref zk]))]) (Wc := []) (Wr := [(h0, .inr (11, [.ref fd, .ref zl, .ref zp, .ref zq, .ref zs, .ref zt, .ref zk]))]) (run_VX (rmC := ({ frames := 6, cells := 1, slots := 6, locals := 90 } : Room)) (mc := 1) (ms := 6) (E := "java/lang/IllegalArgumentException") (As := [.long x, .int n]) (rest := [.int (nI 0), .ref oj]) (ci := 11) (wW := [(h0, .inr (11, [.ref fd, .ref zl, .ref zp, .ref zq, .ref zs, .ref zt, .ref zk]))]) (Wc := []) ⟨hx, hb, hml, hown, hts⟩ (c_X11_hear_T l D cyI cyZ h0 x n (by assumption) hl9) (cwV 2 hts gL_hear_X11_hear rfl rfl rfl (by decide +kernel) ⟨Nat.le_of_ble_eq_true rfl, Nat.le_of_ble_eq_true rfl⟩) hN hKL hP hD hXF hS hA [] rfl (by decide) 0 rfl rfl rfl hl.1 rfl rfl dL_hear_6 ⟨Nat.le_of_ble_eq_true rfl, Nat.le_of_ble_eq_true rfl⟩) hP hD hS hA [] [0] rfl rfl (by decide) (by decide) (fun ce q9 H locs hP hD hS hce hcv hcl => ?_)
  have hP : va_P D vwCl [(h0, .inr (11, [.ref fd, .ref zl, .ref zp, .ref zq, .ref zs, .ref zt, .ref zk]))] H := hP
  have hD : va_D A [(h0, .inr (11, [.ref fd, .ref zl, .ref zp, .ref zq, .ref zs, .ref zt, .ref zk]))] := hD
  refine vx_catch (own := RL) (name := "java/lang/IllegalArgumentException") (E := "java/lang/IllegalArgumentException") hown ⟨0, 11, 14, 13⟩ [] (by rw [hTab]; rfl) (by decide) (by decide) clE (va_Nw.use rfl (hXF.1 "java/lang/IllegalArgumentException" (by decide))) hce hcv hcl ?_
  refine lv_astore (lv' := [(5, .ref q9), (0, .ref h0), (1, .long x), (3, .int n), (4, .ref oj)]) hx hb dL_hear_14 hl (by decide) rfl (fun ls hl => ?_)
  refine lv_iconst (v := (nI 1)) hx hb dL_hear_16 (by decide) ?_
  exact ret_i hQ hx hb hr hlocks dL_hear_17 hK hS () (rfl) hP hD
set_option maxHeartbeats 4000000 in
set_option maxRecDepth 100000 in
theorem c_L_pass_T (l : Launch) (D : va_G) (cyI cyZ cyJ : ClassId) (h0 fd zl zp zq zs zt zk : Nat) (t : Int32) (hT : paB t) (hl9 : l.stackTraces = false) : CiF l D yL_pass wsL_pass ({ frames := 7, cells := 1, slots := 6, locals := 130 } : Room) [.ref h0, .int t] [(h0, .inr (11, [.ref fd, .ref zl, .ref zp, .ref zq, .ref zs, .ref zt, .ref zk]))] (tyJ cyI cyZ cyJ) (fun (r : Int32) (_ : Unit) => r = nI 1) (fun _ : Unit => [(h0, .inr (11, [.ref fd, .ref zl, .ref zp, .ref zq, .ref zs, .ref zt, .ref zk]))]) 1 6 := by
  refine mk_CtF (cc := cL_pass) (maxL := 3) (ret := (some .int)) (by decide) rfl rfl ?_
  intro p e s m below meth c A Q ls hx hb hr hts hown hlocks hml hname hA hN hK hP hD hS hXF hTab hQ hl
  have hKL : va_K D vwCl (tyL cyI cyZ) s := tyJ_L hK
  have hl : lv_has ls 3 [(0, .ref h0), (1, .int t)] := hl
  have clE : (Cond.classLink RL 13 "java/lang/IllegalArgumentException").before ([.ref h0, .int t] : List Value).toArray s = true := hts _ (by decide +kernel)
  have hown : s.vm.findClass RL = some m.cls := hown
  obtain ⟨H, eH9⟩ : ∃ H, H = s.heap := ⟨_, rfl⟩
  have hP : va_P D vwCl [(h0, .inr (11, [.ref fd, .ref zl, .ref zp, .ref zq, .ref zs, .ref zt, .ref zk]))] H := by rw [eH9]; exact hP
  have hS : va_S A s.heap H [] := by rw [eH9]; exact hS
  obtain ⟨locs, eL9⟩ : ∃ z : List Loc, z = [] := ⟨_, rfl⟩
  rw [← eH9, ← eL9]
  have hS : va_S A s.heap H locs := by rw [eL9]; exact hS
  refine lv_aload_n hx hb dL_pass_0 rfl (lv_at hl 0 rfl) ?_
  refine lv_iload_n hx hb dL_pass_1 rfl (lv_at hl 1 rfl) ?_
  refine res_X (wW := [(h0, .inr (11, [.ref fd, .ref zl, .ref zp, .ref zq, .ref zs, .ref zt, .ref zk]))]) (Wc := []) (Wr := [(h0, .inr (11, [.ref fd, .ref zl, .ref zp, .ref zq, .ref zs, .ref zt, .ref zk]))]) (run_VX (rmC := ({ frames := 6, cells := 1, slots := 6, locals := 90 } : Room)) (mc := 1) (ms := 6) (E := "java/lang/IllegalArgumentException") (As := [.int t]) (rest := []) (ci := 11) (wW := [(h0, .inr (11, [.ref fd, .ref zl, .ref zp, .ref zq, .ref zs, .ref zt, .ref zk]))]) (Wc := []) ⟨hx, hb, hml, hown, hts⟩ (c_X11_pass_T l D cyI cyZ h0 t (by assumption) hl9) (cwV 1 hts gL_pass_X11_pass rfl rfl rfl (by decide +kernel) ⟨Nat.le_of_ble_eq_true rfl, Nat.le_of_ble_eq_true rfl⟩) hN hKL hP hD hXF hS hA [] rfl (by decide) 0 rfl rfl rfl hl.1 rfl rfl dL_pass_2 ⟨Nat.le_of_ble_eq_true rfl, Nat.le_of_ble_eq_true rfl⟩) hP hD hS hA [] [0] rfl rfl (by decide) (by decide) (fun ce q9 H locs hP hD hS hce hcv hcl => ?_)
  have hP : va_P D vwCl [(h0, .inr (11, [.ref fd, .ref zl, .ref zp, .ref zq, .ref zs, .ref zt, .ref zk]))] H := hP
  have hD : va_D A [(h0, .inr (11, [.ref fd, .ref zl, .ref zp, .ref zq, .ref zs, .ref zt, .ref zk]))] := hD
  refine vx_catch (own := RL) (name := "java/lang/IllegalArgumentException") (E := "java/lang/IllegalArgumentException") hown ⟨0, 5, 8, 13⟩ [] (by rw [hTab]; rfl) (by decide) (by decide) clE (va_Nw.use rfl (hXF.1 "java/lang/IllegalArgumentException" (by decide))) hce hcv hcl ?_
  refine lv_astore_n (lv' := [(2, .ref q9), (0, .ref h0), (1, .int t)]) hx hb dL_pass_8 rfl hl (by decide) rfl (fun ls hl => ?_)
  refine lv_iconst (v := (nI 1)) hx hb dL_pass_9 (by decide) ?_
  exact ret_i hQ hx hb hr hlocks dL_pass_10 hK hS () (rfl) hP hD
set_option maxHeartbeats 4000000 in
set_option maxRecDepth 100000 in
theorem c_L_sum_T (l : Launch) (D : va_G) (cyI cyZ cyJ : ClassId) (h0 fd zl zp zq zs zt zk : Nat) (x : Int64) (n : Int32) (oj : Nat) (hT : suB n) (hl9 : l.stackTraces = false) : CiF l D yL_sum wsL_sum ({ frames := 7, cells := 1, slots := 6, locals := 130 } : Room) [.ref h0, .long x, .int n, .ref oj] [(h0, .inr (11, [.ref fd, .ref zl, .ref zp, .ref zq, .ref zs, .ref zt, .ref zk]))] (tyJ cyI cyZ cyJ) (fun (r : Int32) (_ : Unit) => r = nI 1) (fun _ : Unit => [(h0, .inr (11, [.ref fd, .ref zl, .ref zp, .ref zq, .ref zs, .ref zt, .ref zk]))]) 1 6 := by
  refine mk_CtF (cc := cL_sum) (maxL := 6) (ret := (some .int)) (by decide) rfl rfl ?_
  intro p e s m below meth c A Q ls hx hb hr hts hown hlocks hml hname hA hN hK hP hD hS hXF hTab hQ hl
  have hKL : va_K D vwCl (tyL cyI cyZ) s := tyJ_L hK
  have hl : lv_has ls 6 [(0, .ref h0), (1, .long x), (3, .int n), (4, .ref oj)] := hl
  have clE : (Cond.classLink RL 13 "java/lang/IllegalArgumentException").before ([.ref h0, .long x, .int n, .ref oj] : List Value).toArray s = true := hts _ (by decide +kernel)
  have hown : s.vm.findClass RL = some m.cls := hown
  obtain ⟨H, eH9⟩ : ∃ H, H = s.heap := ⟨_, rfl⟩
  have hP : va_P D vwCl [(h0, .inr (11, [.ref fd, .ref zl, .ref zp, .ref zq, .ref zs, .ref zt, .ref zk]))] H := by rw [eH9]; exact hP
  have hS : va_S A s.heap H [] := by rw [eH9]; exact hS
  obtain ⟨locs, eL9⟩ : ∃ z : List Loc, z = [] := ⟨_, rfl⟩
  rw [← eH9, ← eL9]
  have hS : va_S A s.heap H locs := by rw [eL9]; exact hS
  refine lv_aload hx hb dL_sum_0 (lv_at hl 3 rfl) ?_
  refine lv_iconst (v := (nI 0)) hx hb dL_sum_2 (by decide) ?_
  refine lv_aload_n hx hb dL_sum_3 rfl (lv_at hl 0 rfl) ?_
  refine lv_lload_n hx hb dL_sum_4 rfl (lv_at hl 1 rfl) ?_
  refine lv_iload_n hx hb dL_sum_5 rfl (lv_at hl 2 rfl) ?_
  refine res_X (wW := [(h0, .inr (11, [.ref fd, .ref zl, .ref zp, .ref zq, .ref zs, .ref zt, .ref zk]))]) (Wc := []) (Wr := [(h0, .inr (11, [.ref fd, .ref zl, .ref zp, .ref zq, .ref zs, .ref zt, .ref zk]))]) (run_VX (rmC := ({ frames := 6, cells := 1, slots := 6, locals := 90 } : Room)) (mc := 1) (ms := 6) (E := "java/lang/IllegalArgumentException") (As := [.long x, .int n]) (rest := [.int (nI 0), .ref oj]) (ci := 11) (wW := [(h0, .inr (11, [.ref fd, .ref zl, .ref zp, .ref zq, .ref zs, .ref zt, .ref zk]))]) (Wc := []) ⟨hx, hb, hml, hown, hts⟩ (c_X11_sum_T l D cyI cyZ h0 x n (by assumption) hl9) (cwV 2 hts gL_sum_X11_sum rfl rfl rfl (by decide +kernel) ⟨Nat.le_of_ble_eq_true rfl, Nat.le_of_ble_eq_true rfl⟩) hN hKL hP hD hXF hS hA [] rfl (by decide) 0 rfl rfl rfl hl.1 rfl rfl dL_sum_6 ⟨Nat.le_of_ble_eq_true rfl, Nat.le_of_ble_eq_true rfl⟩) hP hD hS hA [] [0] rfl rfl (by decide) (by decide) (fun ce q9 H locs hP hD hS hce hcv hcl => ?_)
  have hP : va_P D vwCl [(h0, .inr (11, [.ref fd, .ref zl, .ref zp, .ref zq, .ref zs, .ref zt, .ref zk]))] H := hP
  have hD : va_D A [(h0, .inr (11, [.ref fd, .ref zl, .ref zp, .ref zq, .ref zs, .ref zt, .ref zk]))] := hD
  refine vx_catch (own := RL) (name := "java/lang/IllegalArgumentException") (E := "java/lang/IllegalArgumentException") hown ⟨0, 11, 14, 13⟩ [] (by rw [hTab]; rfl) (by decide) (by decide) clE (va_Nw.use rfl (hXF.1 "java/lang/IllegalArgumentException" (by decide))) hce hcv hcl ?_
  refine lv_astore (lv' := [(5, .ref q9), (0, .ref h0), (1, .long x), (3, .int n), (4, .ref oj)]) hx hb dL_sum_14 hl (by decide) rfl (fun ls hl => ?_)
  refine lv_iconst (v := (nI 1)) hx hb dL_sum_16 (by decide) ?_
  exact ret_i hQ hx hb hr hlocks dL_sum_17 hK hS () (rfl) hP hD
set_option maxHeartbeats 4000000 in
set_option maxRecDepth 100000 in
theorem c_L_ask_T (l : Launch) (D : va_G) (cyI cyZ cyJ : ClassId) (h0 fd zl zp zq zs zt zk : Nat) (x : Int64) (n : Int32) (oj : Nat) (hT : heB n) (hl9 : l.stackTraces = false) : CiF l D yL_ask wsL_ask ({ frames := 7, cells := 1, slots := 6, locals := 130 } : Room) [.ref h0, .long x, .int n, .ref oj] [(h0, .inr (11, [.ref fd, .ref zl, .ref zp, .ref zq, .ref zs, .ref zt, .ref zk]))] (tyJ cyI cyZ cyJ) (fun (r : Int32) (_ : Unit) => r = nI 1) (fun _ : Unit => [(h0, .inr (11, [.ref fd, .ref zl, .ref zp, .ref zq, .ref zs, .ref zt, .ref zk]))]) 1 6 := by
  refine mk_CtF (cc := cL_ask) (maxL := 6) (ret := (some .int)) (by decide) rfl rfl ?_
  intro p e s m below meth c A Q ls hx hb hr hts hown hlocks hml hname hA hN hK hP hD hS hXF hTab hQ hl
  have hKL : va_K D vwCl (tyL cyI cyZ) s := tyJ_L hK
  have hl : lv_has ls 6 [(0, .ref h0), (1, .long x), (3, .int n), (4, .ref oj)] := hl
  have clE : (Cond.classLink RL 13 "java/lang/IllegalArgumentException").before ([.ref h0, .long x, .int n, .ref oj] : List Value).toArray s = true := hts _ (by decide +kernel)
  have hown : s.vm.findClass RL = some m.cls := hown
  obtain ⟨H, eH9⟩ : ∃ H, H = s.heap := ⟨_, rfl⟩
  have hP : va_P D vwCl [(h0, .inr (11, [.ref fd, .ref zl, .ref zp, .ref zq, .ref zs, .ref zt, .ref zk]))] H := by rw [eH9]; exact hP
  have hS : va_S A s.heap H [] := by rw [eH9]; exact hS
  obtain ⟨locs, eL9⟩ : ∃ z : List Loc, z = [] := ⟨_, rfl⟩
  rw [← eH9, ← eL9]
  have hS : va_S A s.heap H locs := by rw [eL9]; exact hS
  refine lv_aload hx hb dL_ask_0 (lv_at hl 3 rfl) ?_
  refine lv_iconst (v := (nI 0)) hx hb dL_ask_2 (by decide) ?_
  refine lv_aload_n hx hb dL_ask_3 rfl (lv_at hl 0 rfl) ?_
  refine lv_lload_n hx hb dL_ask_4 rfl (lv_at hl 1 rfl) ?_
  refine lv_iload_n hx hb dL_ask_5 rfl (lv_at hl 2 rfl) ?_
  refine res_X (wW := [(h0, .inr (11, [.ref fd, .ref zl, .ref zp, .ref zq, .ref zs, .ref zt, .ref zk]))]) (Wc := []) (Wr := [(h0, .inr (11, [.ref fd, .ref zl, .ref zp, .ref zq, .ref zs, .ref zt, .ref zk]))]) (run_VX (rmC := ({ frames := 6, cells := 1, slots := 6, locals := 90 } : Room)) (mc := 1) (ms := 6) (E := "java/lang/IllegalArgumentException") (As := [.long x, .int n]) (rest := [.int (nI 0), .ref oj]) (ci := 11) (wW := [(h0, .inr (11, [.ref fd, .ref zl, .ref zp, .ref zq, .ref zs, .ref zt, .ref zk]))]) (Wc := []) ⟨hx, hb, hml, hown, hts⟩ (c_X11_ask_T l D cyI cyZ h0 x n (by assumption) hl9) (cwV 2 hts gL_ask_X11_ask rfl rfl rfl (by decide +kernel) ⟨Nat.le_of_ble_eq_true rfl, Nat.le_of_ble_eq_true rfl⟩) hN hKL hP hD hXF hS hA [] rfl (by decide) 0 rfl rfl rfl hl.1 rfl rfl dL_ask_6 ⟨Nat.le_of_ble_eq_true rfl, Nat.le_of_ble_eq_true rfl⟩) hP hD hS hA [] [0] rfl rfl (by decide) (by decide) (fun ce q9 H locs hP hD hS hce hcv hcl => ?_)
  have hP : va_P D vwCl [(h0, .inr (11, [.ref fd, .ref zl, .ref zp, .ref zq, .ref zs, .ref zt, .ref zk]))] H := hP
  have hD : va_D A [(h0, .inr (11, [.ref fd, .ref zl, .ref zp, .ref zq, .ref zs, .ref zt, .ref zk]))] := hD
  refine vx_catch (own := RL) (name := "java/lang/IllegalArgumentException") (E := "java/lang/IllegalArgumentException") hown ⟨0, 11, 14, 13⟩ [] (by rw [hTab]; rfl) (by decide) (by decide) clE (va_Nw.use rfl (hXF.1 "java/lang/IllegalArgumentException" (by decide))) hce hcv hcl ?_
  refine lv_astore (lv' := [(5, .ref q9), (0, .ref h0), (1, .long x), (3, .int n), (4, .ref oj)]) hx hb dL_ask_14 hl (by decide) rfl (fun ls hl => ?_)
  refine lv_iconst (v := (nI 1)) hx hb dL_ask_16 (by decide) ?_
  exact ret_i hQ hx hb hr hlocks dL_ask_17 hK hS () (rfl) hP hD
set_option maxHeartbeats 4000000 in
set_option maxRecDepth 100000 in
theorem c_L_sent_T (l : Launch) (D : va_G) (cyI cyZ cyJ : ClassId) (h0 fd zl zp zq zs zt zk : Nat) (kp ssm : Nat) (st : List Nat × Nat) (kf : Nat → Int32) (pn : Nat) (k : Int32) (oj : Nat) (hT : seB st.1.length k) (ok : okS st kf) (hl9 : l.stackTraces = false) : CiF l D yL_sent wsL_sent ({ frames := 7, cells := 1, slots := 6, locals := 130 } : Room) [.ref h0, .int k, .ref oj] [(h0, .inr (11, [.ref fd, .ref zl, .ref zp, .ref zq, .ref zs, .ref zt, .ref zk])), (zs, .inr (9, [.ref kp, .ref ssm, .int (nI st.1.length), .int (nI (st.1.length % 256)), .int (nI pn)])), (kp, .inl (cyI, 256, .inl kf)), (ssm, .inr (10, [.int (nI st.2)]))] (tyJ cyI cyZ cyJ) (fun (r : Int32) (_ : Unit) => r = nI 1) (fun _ : Unit => [(h0, .inr (11, [.ref fd, .ref zl, .ref zp, .ref zq, .ref zs, .ref zt, .ref zk])), (zs, .inr (9, [.ref kp, .ref ssm, .int (nI st.1.length), .int (nI (st.1.length % 256)), .int (nI pn)])), (kp, .inl (cyI, 256, .inl kf)), (ssm, .inr (10, [.int (nI st.2)]))]) 1 6 := by
  refine mk_CtF (cc := cL_sent) (maxL := 4) (ret := (some .int)) (by decide) rfl rfl ?_
  intro p e s m below meth c A Q ls hx hb hr hts hown hlocks hml hname hA hN hK hP hD hS hXF hTab hQ hl
  have hKL : va_K D vwCl (tyL cyI cyZ) s := tyJ_L hK
  have hl : lv_has ls 4 [(0, .ref h0), (1, .int k), (2, .ref oj)] := hl
  have clE : (Cond.classLink RL 34 "java/lang/IndexOutOfBoundsException").before ([.ref h0, .int k, .ref oj] : List Value).toArray s = true := hts _ (by decide +kernel)
  have hown : s.vm.findClass RL = some m.cls := hown
  obtain ⟨H, eH9⟩ : ∃ H, H = s.heap := ⟨_, rfl⟩
  have hP : va_P D vwCl [(h0, .inr (11, [.ref fd, .ref zl, .ref zp, .ref zq, .ref zs, .ref zt, .ref zk])), (zs, .inr (9, [.ref kp, .ref ssm, .int (nI st.1.length), .int (nI (st.1.length % 256)), .int (nI pn)])), (kp, .inl (cyI, 256, .inl kf)), (ssm, .inr (10, [.int (nI st.2)]))] H := by rw [eH9]; exact hP
  have hS : va_S A s.heap H [] := by rw [eH9]; exact hS
  obtain ⟨locs, eL9⟩ : ∃ z : List Loc, z = [] := ⟨_, rfl⟩
  rw [← eH9, ← eL9]
  have hS : va_S A s.heap H locs := by rw [eL9]; exact hS
  refine lv_aload_n hx hb dL_sent_0 rfl (lv_at hl 2 rfl) ?_
  refine lv_iconst (v := (nI 0)) hx hb dL_sent_1 (by decide) ?_
  refine lv_aload_n hx hb dL_sent_2 rfl (lv_at hl 0 rfl) ?_
  refine lv_iload_n hx hb dL_sent_3 rfl (lv_at hl 1 rfl) ?_
  refine res_X (wW := [(h0, .inr (11, [.ref fd, .ref zl, .ref zp, .ref zq, .ref zs, .ref zt, .ref zk])), (zs, .inr (9, [.ref kp, .ref ssm, .int (nI st.1.length), .int (nI (st.1.length % 256)), .int (nI pn)])), (kp, .inl (cyI, 256, .inl kf)), (ssm, .inr (10, [.int (nI st.2)]))]) (Wc := [(h0, .inr (11, [.ref fd, .ref zl, .ref zp, .ref zq, .ref zs, .ref zt, .ref zk])), (zs, .inr (9, [.ref kp, .ref ssm, .int (nI st.1.length), .int (nI (st.1.length % 256)), .int (nI pn)])), (kp, .inl (cyI, 256, .inl kf)), (ssm, .inr (10, [.int (nI st.2)]))]) (Wr := []) (run_VX (rmC := ({ frames := 6, cells := 1, slots := 6, locals := 90 } : Room)) (mc := 1) (ms := 6) (E := "java/lang/IndexOutOfBoundsException") (As := [.int k]) (rest := [.int (nI 0), .ref oj]) (ci := 11) (wW := [(h0, .inr (11, [.ref fd, .ref zl, .ref zp, .ref zq, .ref zs, .ref zt, .ref zk])), (zs, .inr (9, [.ref kp, .ref ssm, .int (nI st.1.length), .int (nI (st.1.length % 256)), .int (nI pn)])), (kp, .inl (cyI, 256, .inl kf)), (ssm, .inr (10, [.int (nI st.2)]))]) (Wc := [(h0, .inr (11, [.ref fd, .ref zl, .ref zp, .ref zq, .ref zs, .ref zt, .ref zk])), (zs, .inr (9, [.ref kp, .ref ssm, .int (nI st.1.length), .int (nI (st.1.length % 256)), .int (nI pn)])), (kp, .inl (cyI, 256, .inl kf)), (ssm, .inr (10, [.int (nI st.2)]))]) ⟨hx, hb, hml, hown, hts⟩ (c_X11_sent_T l D cyI cyZ h0 fd zl zp zq zs zt zk kp ssm st kf pn k (by assumption) (by assumption) hl9) (cwV 1 hts gL_sent_X11_sent rfl rfl rfl (by decide +kernel) ⟨Nat.le_of_ble_eq_true rfl, Nat.le_of_ble_eq_true rfl⟩) hN hKL hP hD hXF hS hA [0, 1, 2, 3] rfl (by decide) 0 rfl rfl rfl hl.1 rfl rfl dL_sent_4 ⟨Nat.le_of_ble_eq_true rfl, Nat.le_of_ble_eq_true rfl⟩) hP hD hS hA [0, 1, 2, 3] [] rfl rfl (by decide) (by decide) (fun ce q9 H locs hP hD hS hce hcv hcl => ?_)
  have hP : va_P D vwCl [(h0, .inr (11, [.ref fd, .ref zl, .ref zp, .ref zq, .ref zs, .ref zt, .ref zk])), (zs, .inr (9, [.ref kp, .ref ssm, .int (nI st.1.length), .int (nI (st.1.length % 256)), .int (nI pn)])), (kp, .inl (cyI, 256, .inl kf)), (ssm, .inr (10, [.int (nI st.2)]))] H := hP
  have hD : va_D A [(h0, .inr (11, [.ref fd, .ref zl, .ref zp, .ref zq, .ref zs, .ref zt, .ref zk])), (zs, .inr (9, [.ref kp, .ref ssm, .int (nI st.1.length), .int (nI (st.1.length % 256)), .int (nI pn)])), (kp, .inl (cyI, 256, .inl kf)), (ssm, .inr (10, [.int (nI st.2)]))] := hD
  refine vx_catch (own := RL) (name := "java/lang/IndexOutOfBoundsException") (E := "java/lang/IndexOutOfBoundsException") hown ⟨0, 9, 12, 34⟩ [] (by rw [hTab]; rfl) (by decide) (by decide) clE (va_Nw.use rfl (hXF.1 "java/lang/IndexOutOfBoundsException" (by decide))) hce hcv hcl ?_
  refine lv_astore_n (lv' := [(3, .ref q9), (0, .ref h0), (1, .int k), (2, .ref oj)]) hx hb dL_sent_12 rfl hl (by decide) rfl (fun ls hl => ?_)
  refine lv_iconst (v := (nI 1)) hx hb dL_sent_13 (by decide) ?_
  exact ret_i hQ hx hb hr hlocks dL_sent_14 hK hS () (rfl) hP hD
set_option maxHeartbeats 4000000 in
set_option maxRecDepth 100000 in
theorem c_L_told_T (l : Launch) (D : va_G) (cyI cyZ cyJ : ClassId) (h0 fd zl zp zq zs zt zk : Nat) (tl0 tl1 : Nat) (tl : List Nat) (tlf : Nat → Int32) (k : Int32) (oj : Nat) (hT : toB tl k) (hl9 : l.stackTraces = false) : CiF l D yL_told wsL_told ({ frames := 7, cells := 1, slots := 6, locals := 130 } : Room) [.ref h0, .int k, .ref oj] [(h0, .inr (11, [.ref fd, .ref zl, .ref zp, .ref zq, .ref zs, .ref zt, .ref zk])), (zt, .inr (5, [.ref tl0])), (tl0, .inr (0, [.ref tl1, .int (nI tl.length)])), (tl1, .inl (cyI, 10, .inl tlf))] (tyJ cyI cyZ cyJ) (fun (r : Int32) (_ : Unit) => r = nI 1) (fun _ : Unit => [(h0, .inr (11, [.ref fd, .ref zl, .ref zp, .ref zq, .ref zs, .ref zt, .ref zk])), (zt, .inr (5, [.ref tl0])), (tl0, .inr (0, [.ref tl1, .int (nI tl.length)])), (tl1, .inl (cyI, 10, .inl tlf))]) 1 6 := by
  refine mk_CtF (cc := cL_told) (maxL := 4) (ret := (some .int)) (by decide) rfl rfl ?_
  intro p e s m below meth c A Q ls hx hb hr hts hown hlocks hml hname hA hN hK hP hD hS hXF hTab hQ hl
  have hKL : va_K D vwCl (tyL cyI cyZ) s := tyJ_L hK
  have hl : lv_has ls 4 [(0, .ref h0), (1, .int k), (2, .ref oj)] := hl
  have clE : (Cond.classLink RL 34 "java/lang/IndexOutOfBoundsException").before ([.ref h0, .int k, .ref oj] : List Value).toArray s = true := hts _ (by decide +kernel)
  have hown : s.vm.findClass RL = some m.cls := hown
  obtain ⟨H, eH9⟩ : ∃ H, H = s.heap := ⟨_, rfl⟩
  have hP : va_P D vwCl [(h0, .inr (11, [.ref fd, .ref zl, .ref zp, .ref zq, .ref zs, .ref zt, .ref zk])), (zt, .inr (5, [.ref tl0])), (tl0, .inr (0, [.ref tl1, .int (nI tl.length)])), (tl1, .inl (cyI, 10, .inl tlf))] H := by rw [eH9]; exact hP
  have hS : va_S A s.heap H [] := by rw [eH9]; exact hS
  obtain ⟨locs, eL9⟩ : ∃ z : List Loc, z = [] := ⟨_, rfl⟩
  rw [← eH9, ← eL9]
  have hS : va_S A s.heap H locs := by rw [eL9]; exact hS
  refine lv_aload_n hx hb dL_told_0 rfl (lv_at hl 2 rfl) ?_
  refine lv_iconst (v := (nI 0)) hx hb dL_told_1 (by decide) ?_
  refine lv_aload_n hx hb dL_told_2 rfl (lv_at hl 0 rfl) ?_
  refine lv_iload_n hx hb dL_told_3 rfl (lv_at hl 1 rfl) ?_
  refine res_X (wW := [(h0, .inr (11, [.ref fd, .ref zl, .ref zp, .ref zq, .ref zs, .ref zt, .ref zk])), (zt, .inr (5, [.ref tl0])), (tl0, .inr (0, [.ref tl1, .int (nI tl.length)])), (tl1, .inl (cyI, 10, .inl tlf))]) (Wc := [(h0, .inr (11, [.ref fd, .ref zl, .ref zp, .ref zq, .ref zs, .ref zt, .ref zk])), (zt, .inr (5, [.ref tl0])), (tl0, .inr (0, [.ref tl1, .int (nI tl.length)])), (tl1, .inl (cyI, 10, .inl tlf))]) (Wr := []) (run_VX (rmC := ({ frames := 6, cells := 1, slots := 6, locals := 90 } : Room)) (mc := 1) (ms := 6) (E := "java/lang/IndexOutOfBoundsException") (As := [.int k]) (rest := [.int (nI 0), .ref oj]) (ci := 11) (wW := [(h0, .inr (11, [.ref fd, .ref zl, .ref zp, .ref zq, .ref zs, .ref zt, .ref zk])), (zt, .inr (5, [.ref tl0])), (tl0, .inr (0, [.ref tl1, .int (nI tl.length)])), (tl1, .inl (cyI, 10, .inl tlf))]) (Wc := [(h0, .inr (11, [.ref fd, .ref zl, .ref zp, .ref zq, .ref zs, .ref zt, .ref zk])), (zt, .inr (5, [.ref tl0])), (tl0, .inr (0, [.ref tl1, .int (nI tl.length)])), (tl1, .inl (cyI, 10, .inl tlf))]) ⟨hx, hb, hml, hown, hts⟩ (c_X11_told_T l D cyI cyZ h0 fd zl zp zq zs zt zk tl0 tl1 tl tlf k (by assumption) hl9) (cwV 1 hts gL_told_X11_told rfl rfl rfl (by decide +kernel) ⟨Nat.le_of_ble_eq_true rfl, Nat.le_of_ble_eq_true rfl⟩) hN hKL hP hD hXF hS hA [0, 1, 2, 3] rfl (by decide) 0 rfl rfl rfl hl.1 rfl rfl dL_told_4 ⟨Nat.le_of_ble_eq_true rfl, Nat.le_of_ble_eq_true rfl⟩) hP hD hS hA [0, 1, 2, 3] [] rfl rfl (by decide) (by decide) (fun ce q9 H locs hP hD hS hce hcv hcl => ?_)
  have hP : va_P D vwCl [(h0, .inr (11, [.ref fd, .ref zl, .ref zp, .ref zq, .ref zs, .ref zt, .ref zk])), (zt, .inr (5, [.ref tl0])), (tl0, .inr (0, [.ref tl1, .int (nI tl.length)])), (tl1, .inl (cyI, 10, .inl tlf))] H := hP
  have hD : va_D A [(h0, .inr (11, [.ref fd, .ref zl, .ref zp, .ref zq, .ref zs, .ref zt, .ref zk])), (zt, .inr (5, [.ref tl0])), (tl0, .inr (0, [.ref tl1, .int (nI tl.length)])), (tl1, .inl (cyI, 10, .inl tlf))] := hD
  refine vx_catch (own := RL) (name := "java/lang/IndexOutOfBoundsException") (E := "java/lang/IndexOutOfBoundsException") hown ⟨0, 9, 12, 34⟩ [] (by rw [hTab]; rfl) (by decide) (by decide) clE (va_Nw.use rfl (hXF.1 "java/lang/IndexOutOfBoundsException" (by decide))) hce hcv hcl ?_
  refine lv_astore_n (lv' := [(3, .ref q9), (0, .ref h0), (1, .int k), (2, .ref oj)]) hx hb dL_told_12 rfl hl (by decide) rfl (fun ls hl => ?_)
  refine lv_iconst (v := (nI 1)) hx hb dL_told_13 (by decide) ?_
  exact ret_i hQ hx hb hr hlocks dL_told_14 hK hS () (rfl) hP hD
