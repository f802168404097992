/-! OWN ROWS, written by wip/gen (walk.py, spec_a.py) -/
set_option maxHeartbeats 4000000 in
set_option maxRecDepth 100000 in
theorem c_X10_clear (l : Launch) (D : va_G) (cyI cyZ : ClassId) (h0 cv : Nat) : Cv l D yX10_clear wsX10_clear ({ frames := 0, cells := 0, slots := 0, locals := 0 } : Room) [.ref h0] [(h0, .inr (10, [.int (nI cv)]))] (tyL cyI cyZ) (fun _ : Unit => True) (fun _ : Unit => [(h0, .inr (10, [.int (nI 0)]))]) 0 0 := by
  refine mk_Ct (cc := cX10_clear) (maxL := 1) (ret := none) (by decide) rfl rfl ?_
  intro p e s m below meth c A Q ls hx hb hr hts hown hlocks hml hname hA hN hK hP hD hS hQ hl
  have hl : lv_has ls 1 [(0, .ref h0)] := hl
  have inX10_ : ∀ w ∈ u_ws RX10 TX10 1, w ∈ wsX10_clear := fun w h => List.mem_cons_of_mem _ (List.mem_append_right _ h)
  have fl7 : (Cond.fieldLink RX10 7 "OutStation$Sum" "c" "I").before ([.ref h0] : List Value).toArray s = true := hts _ (by decide +kernel)
  have hown : s.vm.findClass RX10 = some m.cls := hown
  obtain ⟨H, eH9⟩ : ∃ H, H = s.heap := ⟨_, rfl⟩
  have hP : va_P D vwCl [(h0, .inr (10, [.int (nI cv)]))] H := by rw [eH9]; exact hP
  have hS : va_S A s.heap H [] := by rw [eH9]; exact hS
  obtain ⟨locs, eL9⟩ : ∃ z : List Loc, z = [] := ⟨_, rfl⟩
  rw [← eH9, ← eL9]
  have hS : va_S A s.heap H locs := by rw [eL9]; exact hS
  refine lv_aload_n hx hb dX10_clear_0 rfl (lv_at hl 0 rfl) ?_
  refine lv_iconst (v := (nI 0)) hx hb dX10_clear_1 (by decide) ?_
  refine va_put (D := D) (ci := 10) (v := .int (nI 0)) (ty := .int) (C := RX10) (T := TX10) (N := 1) hx hb hts inX10_ tyX10 tyX10_ok nmX10 hown hK hP hD hS 0 rfl rfl 0 (by decide) fl7 (fun _ h9 => h9) rfl (by decide +kernel) rfl rfl (Nat.le_of_ble_eq_true rfl) dX10_clear_2 (fun H locs hP hD hS => ?_)
  have hP : va_P D vwCl [(h0, .inr (10, [.int (nI 0)]))] H := hP
  have hD : va_D A [(h0, .inr (10, [.int (nI 0)]))] := hD
  exact ret_v hQ hx hb hr hlocks dX10_clear_5 hK hS () (trivial) hP hD
set_option maxHeartbeats 4000000 in
set_option maxRecDepth 100000 in
theorem c_X10_value (l : Launch) (D : va_G) (cyI cyZ : ClassId) (h0 cv : Nat) (hc : cv < 65536) : Ci l D yX10_value wsX10_value ({ frames := 0, cells := 0, slots := 0, locals := 0 } : Room) [.ref h0] [(h0, .inr (10, [.int (nI cv)]))] (tyL cyI cyZ) (fun (r : Int32) (_ : Unit) => r = nI (65535 - cv)) (fun _ : Unit => [(h0, .inr (10, [.int (nI cv)]))]) 0 0 := by
  refine mk_Ct (cc := cX10_value) (maxL := 1) (ret := (some .int)) (by decide) rfl rfl ?_
  intro p e s m below meth c A Q ls hx hb hr hts hown hlocks hml hname hA hN hK hP hD hS hQ hl
  have hl : lv_has ls 1 [(0, .ref h0)] := hl
  have kc14 : (Cond.constant RX10 14 (nI 65535)).before ([.ref h0] : List Value).toArray s = true := hts _ (by decide +kernel)
  have inX10_ : ∀ w ∈ u_ws RX10 TX10 1, w ∈ wsX10_value := fun w h => List.mem_cons_of_mem _ (List.mem_append_right _ h)
  have fl7 : (Cond.fieldLink RX10 7 "OutStation$Sum" "c" "I").before ([.ref h0] : List Value).toArray s = true := hts _ (by decide +kernel)
  have hown : s.vm.findClass RX10 = some m.cls := hown
  obtain ⟨H, eH9⟩ : ∃ H, H = s.heap := ⟨_, rfl⟩
  have hP : va_P D vwCl [(h0, .inr (10, [.int (nI cv)]))] H := by rw [eH9]; exact hP
  have hS : va_S A s.heap H [] := by rw [eH9]; exact hS
  obtain ⟨locs, eL9⟩ : ∃ z : List Loc, z = [] := ⟨_, rfl⟩
  rw [← eH9, ← eL9]
  have hS : va_S A s.heap H locs := by rw [eL9]; exact hS
  refine lv_ldc (v := (nI 65535)) hx hb hown kc14 dX10_value_0 ?_
  refine lv_aload_n hx hb dX10_value_2 rfl (lv_at hl 0 rfl) ?_
  refine va_get (D := D) (ci := 10) (v := .int (nI cv)) (C := RX10) (T := TX10) (N := 1) hx hb hts inX10_ hown hK hP 0 rfl rfl 0 (by decide) fl7 (fun _ h9 => h9) rfl dX10_value_3 ?_
  refine nv_isub hx hb (by omega) dX10_value_6 ?_
  exact ret_i hQ hx hb hr hlocks dX10_value_7 hK hS () (by first | rfl | assumption | omega) hP hD
set_option maxHeartbeats 4000000 in
set_option maxRecDepth 100000 in
theorem c_X10_add (l : Launch) (D : va_G) (cyI cyZ : ClassId) (h0 cv : Nat) (x : Int32) (hc : cv < 65536) : Cv l D yX10_add wsX10_add ({ frames := 0, cells := 0, slots := 0, locals := 0 } : Room) [.ref h0, .int x] [(h0, .inr (10, [.int (nI cv)]))] (tyL cyI cyZ) (fun _ : Unit => True) (fun _ : Unit => [(h0, .inr (10, [.int (nI (mixB cv (byte8 x)))]))]) 0 0 := by
  refine mk_Ct (cc := cX10_add) (maxL := 4) (ret := none) (by decide) rfl rfl ?_
  intro p e s m below meth c A Q ls hx hb hr hts hown hlocks hml hname hA hN hK hP hD hS hQ hl
  have hl : lv_has ls 4 [(0, .ref h0), (1, .int x)] := hl
  have inX10_ : ∀ w ∈ u_ws RX10 TX10 1, w ∈ wsX10_add := fun w h => List.mem_cons_of_mem _ (List.mem_append_right _ h)
  have fl7 : (Cond.fieldLink RX10 7 "OutStation$Sum" "c" "I").before ([.ref h0, .int x] : List Value).toArray s = true := hts _ (by decide +kernel)
  have kc13 : (Cond.constant RX10 13 (nI 42684)).before ([.ref h0, .int x] : List Value).toArray s = true := hts _ (by decide +kernel)
  have hown : s.vm.findClass RX10 = some m.cls := hown
  obtain ⟨H, eH9⟩ : ∃ H, H = s.heap := ⟨_, rfl⟩
  have hP : va_P D vwCl [(h0, .inr (10, [.int (nI cv)]))] H := by rw [eH9]; exact hP
  have hS : va_S A s.heap H [] := by rw [eH9]; exact hS
  obtain ⟨locs, eL9⟩ : ∃ z : List Loc, z = [] := ⟨_, rfl⟩
  rw [← eH9, ← eL9]
  have hS : va_S A s.heap H locs := by rw [eL9]; exact hS
  have hx8 := byte8_lt x
  have hxb : x.toBitVec.toNat % 256 = byte8 x := rfl
  refine lv_aload_n hx hb dX10_add_0 rfl (lv_at hl 0 rfl) ?_
  refine lv_dup hx hb dX10_add_1 rfl ?_
  refine va_get (D := D) (ci := 10) (v := .int (nI cv)) (C := RX10) (T := TX10) (N := 1) hx hb hts inX10_ hown hK hP 0 rfl rfl 0 (by decide) fl7 (fun _ h9 => h9) rfl dX10_add_2 ?_
  refine lv_iload_n hx hb dX10_add_5 rfl (lv_at hl 1 rfl) ?_
  refine lv_sipush (v := (nI 255)) hx hb dX10_add_6 (by decide) ?_
  refine lv_iand hx hb dX10_add_9 ?_
  refine nv_top (y := (nI (x.toBitVec.toNat % 256))) (pk_and _ 8 (by decide)) ?_
  refine lv_ixor hx hb dX10_add_10 ?_
  refine nv_top (y := (nI (cv ^^^ (x.toBitVec.toNat % 256)))) (nx_xor _ _) ?_
  refine va_put (D := D) (ci := 10) (v := .int (nI (cv ^^^ (x.toBitVec.toNat % 256)))) (ty := .int) (C := RX10) (T := TX10) (N := 1) hx hb hts inX10_ tyX10 tyX10_ok nmX10 hown hK hP hD hS 0 rfl rfl 0 (by decide) fl7 (fun _ h9 => h9) rfl (by decide +kernel) rfl rfl (Nat.le_of_ble_eq_true rfl) dX10_add_11 (fun H locs hP hD hS => ?_)
  have hP : va_P D vwCl [(h0, .inr (10, [.int (nI (cv ^^^ (x.toBitVec.toNat % 256)))]))] H := hP
  have hD : va_D A [(h0, .inr (10, [.int (nI (cv ^^^ (x.toBitVec.toNat % 256)))]))] := hD
  refine lv_iconst (v := (nI 0)) hx hb dX10_add_14 (by decide) ?_
  refine lv_istore_n (lv' := [(2, .int (nI 0)), (0, .ref h0), (1, .int x)]) hx hb dX10_add_15 rfl hl (by decide) rfl (fun ls hl => ?_)
  have L16 : ∀ (n9 : Nat) (i v : Nat), (i ≤ 8) → (v = mixk i (cv ^^^ byte8 x)) → (8 - i) < n9 → ∀ (H : Heap) (locs : List Loc) (ls : Array Slot), va_P D vwCl [(h0, .inr (10, [.int (nI v)]))] H → va_D A [(h0, .inr (10, [.int (nI v)]))] → va_S A s.heap H locs → lv_has ls 4 [(0, .ref h0), (1, .int x), (2, .int (nI i))] → W p l e ({ frames := 0, cells := 0, slots := 0, locals := 0 } : Room) s m ([.ref h0, .int x] : List Value).toArray below meth c H locs 0 0 Q (F0 m 16 ls []) := by
    intro n9
    induction n9 with
    | zero =>
      intro i v hi hv hm9
      exact absurd hm9 (Nat.not_lt_zero _)
    | succ n9 ih =>
      intro i v hi hv hm9 H locs ls hP hD hS hl
      have hvl : v < 65536 := by rw [hv]; exact mixk_lt i (xor_lt16 hc (by omega))
      refine lv_iload_n hx hb dX10_add_16 rfl (lv_at hl 2 rfl) ?_
      refine lv_bipush (v := (nI 8)) hx hb dX10_add_17 (by decide) ?_
      refine nv_icmp_ge (tgt := 68) hx hb (by omega) (by omega) dX10_add_19 (by decide) (fun c19 => ?_) (fun c19 => ?_)
      · skip
        have ew9 : ([(h0, .inr (10, [.int (nI (mixB cv (byte8 x)))]))] : va_W) = [(h0, .inr (10, [.int (nI v)]))] := by (have e8 : i = 8 := by omega); subst e8; rw [hv]; rfl
        have hP : va_P D vwCl [(h0, .inr (10, [.int (nI (mixB cv (byte8 x)))]))] H := by rw [ew9]; exact hP
        have hD : va_D A [(h0, .inr (10, [.int (nI (mixB cv (byte8 x)))]))] := by rw [ew9]; exact hD
        exact ret_v hQ hx hb hr hlocks dX10_add_68 hK hS () (trivial) hP hD
      · skip
        refine lv_aload_n hx hb dX10_add_22 rfl (lv_at hl 0 rfl) ?_
        refine va_get (D := D) (ci := 10) (v := .int (nI v)) (C := RX10) (T := TX10) (N := 1) hx hb hts inX10_ hown hK hP 0 rfl rfl 0 (by decide) fl7 (fun _ h9 => h9) rfl dX10_add_23 ?_
        refine lv_iconst (v := (nI 1)) hx hb dX10_add_26 (by decide) ?_
        refine lv_iand hx hb dX10_add_27 ?_
        refine nv_top (y := (nI (v % 2))) (pk_andN (by omega) 1 (by decide)) ?_
        refine nv_if_eq (tgt := 35) hx hb (by omega) dX10_add_28 (by decide) (fun c28 => ?_) (fun c28 => ?_)
        · skip
          refine lv_iconst (v := (nI 0)) hx hb dX10_add_35 (by decide) ?_
          refine lv_istore_n (lv' := [(3, .int (nI 0)), (0, .ref h0), (1, .int x), (2, .int (nI i))]) hx hb dX10_add_36 rfl hl (by decide) rfl (fun ls hl => ?_)
          refine lv_aload_n hx hb dX10_add_37 rfl (lv_at hl 1 rfl) ?_
          refine lv_dup hx hb dX10_add_38 rfl ?_
          refine va_get (D := D) (ci := 10) (v := .int (nI v)) (C := RX10) (T := TX10) (N := 1) hx hb hts inX10_ hown hK hP 0 rfl rfl 0 (by decide) fl7 (fun _ h9 => h9) rfl dX10_add_39 ?_
          refine lv_iconst (v := (nI 1)) hx hb dX10_add_42 (by decide) ?_
          refine lv_iushr (v := ((nI v).toUInt32 >>> ((nI 1).toUInt32 &&& Int32.toUInt32 31)).toInt32) hx hb dX10_add_43 rfl ?_
          refine nv_top (y := (nI (v / 2))) (pk_ushrN (by omega) _ 1 (by decide)) ?_
          refine va_put (D := D) (ci := 10) (v := .int (nI (v / 2))) (ty := .int) (C := RX10) (T := TX10) (N := 1) hx hb hts inX10_ tyX10 tyX10_ok nmX10 hown hK hP hD hS 0 rfl rfl 0 (by decide) fl7 (fun _ h9 => h9) rfl (by decide +kernel) rfl rfl (Nat.le_of_ble_eq_true rfl) dX10_add_44 (fun H locs hP hD hS => ?_)
          have hP : va_P D vwCl [(h0, .inr (10, [.int (nI (v / 2))]))] H := hP
          have hD : va_D A [(h0, .inr (10, [.int (nI (v / 2))]))] := hD
          refine lv_iload_n hx hb dX10_add_47 rfl (lv_at hl 0 rfl) ?_
          refine nv_if_eq (tgt := 62) hx hb (by omega) dX10_add_48 (by decide) (fun c48 => ?_) (fun c48 => ?_)
          · skip
            refine lv_iinc (v := (nI (i + 1))) (lv' := [(2, .int (nI (i + 1))), (3, .int (nI 0)), (0, .ref h0), (1, .int x)]) hx hb dX10_add_62 hl (k := 3) rfl (nI_add _ _) (by decide) rfl (fun ls hl => ?_)
            refine lv_goto (tgt := 16) hx hb dX10_add_65 (by decide) ?_
            exact ih (i + 1) (v / 2) (by omega) (by rw [mixk_succ', ← hv]; unfold mix1; rw [if_neg (by omega)]) (by omega) H locs ls hP hD hS (lv_sub hl [2, 3, 0] rfl)
          · exact absurd c48 (by decide)
        · skip
          refine lv_iconst (v := (nI 1)) hx hb dX10_add_31 (by decide) ?_
          refine lv_goto (tgt := 36) hx hb dX10_add_32 (by decide) ?_
          refine lv_istore_n (lv' := [(3, .int (nI 1)), (0, .ref h0), (1, .int x), (2, .int (nI i))]) hx hb dX10_add_36 rfl hl (by decide) rfl (fun ls hl => ?_)
          refine lv_aload_n hx hb dX10_add_37 rfl (lv_at hl 1 rfl) ?_
          refine lv_dup hx hb dX10_add_38 rfl ?_
          refine va_get (D := D) (ci := 10) (v := .int (nI v)) (C := RX10) (T := TX10) (N := 1) hx hb hts inX10_ hown hK hP 0 rfl rfl 0 (by decide) fl7 (fun _ h9 => h9) rfl dX10_add_39 ?_
          refine lv_iconst (v := (nI 1)) hx hb dX10_add_42 (by decide) ?_
          refine lv_iushr (v := ((nI v).toUInt32 >>> ((nI 1).toUInt32 &&& Int32.toUInt32 31)).toInt32) hx hb dX10_add_43 rfl ?_
          refine nv_top (y := (nI (v / 2))) (pk_ushrN (by omega) _ 1 (by decide)) ?_
          refine va_put (D := D) (ci := 10) (v := .int (nI (v / 2))) (ty := .int) (C := RX10) (T := TX10) (N := 1) hx hb hts inX10_ tyX10 tyX10_ok nmX10 hown hK hP hD hS 0 rfl rfl 0 (by decide) fl7 (fun _ h9 => h9) rfl (by decide +kernel) rfl rfl (Nat.le_of_ble_eq_true rfl) dX10_add_44 (fun H locs hP hD hS => ?_)
          have hP : va_P D vwCl [(h0, .inr (10, [.int (nI (v / 2))]))] H := hP
          have hD : va_D A [(h0, .inr (10, [.int (nI (v / 2))]))] := hD
          refine lv_iload_n hx hb dX10_add_47 rfl (lv_at hl 0 rfl) ?_
          refine nv_if_eq (tgt := 62) hx hb (by omega) dX10_add_48 (by decide) (fun c48 => ?_) (fun c48 => ?_)
          · exact absurd c48 (by decide)
          · skip
            refine lv_aload_n hx hb dX10_add_51 rfl (lv_at hl 1 rfl) ?_
            refine lv_dup hx hb dX10_add_52 rfl ?_
            refine va_get (D := D) (ci := 10) (v := .int (nI (v / 2))) (C := RX10) (T := TX10) (N := 1) hx hb hts inX10_ hown hK hP 0 rfl rfl 0 (by decide) fl7 (fun _ h9 => h9) rfl dX10_add_53 ?_
            refine lv_ldc (v := (nI 42684)) hx hb hown kc13 dX10_add_56 ?_
            refine lv_ixor hx hb dX10_add_58 ?_
            refine nv_top (y := (nI ((v / 2) ^^^ 42684))) (nx_xor _ _) ?_
            refine va_put (D := D) (ci := 10) (v := .int (nI ((v / 2) ^^^ 42684))) (ty := .int) (C := RX10) (T := TX10) (N := 1) hx hb hts inX10_ tyX10 tyX10_ok nmX10 hown hK hP hD hS 0 rfl rfl 0 (by decide) fl7 (fun _ h9 => h9) rfl (by decide +kernel) rfl rfl (Nat.le_of_ble_eq_true rfl) dX10_add_59 (fun H locs hP hD hS => ?_)
            have hP : va_P D vwCl [(h0, .inr (10, [.int (nI ((v / 2) ^^^ 42684))]))] H := hP
            have hD : va_D A [(h0, .inr (10, [.int (nI ((v / 2) ^^^ 42684))]))] := hD
            refine lv_iinc (v := (nI (i + 1))) (lv' := [(2, .int (nI (i + 1))), (3, .int (nI 1)), (0, .ref h0), (1, .int x)]) hx hb dX10_add_62 hl (k := 3) rfl (nI_add _ _) (by decide) rfl (fun ls hl => ?_)
            refine lv_goto (tgt := 16) hx hb dX10_add_65 (by decide) ?_
            exact ih (i + 1) ((v / 2) ^^^ 42684) (by omega) (by rw [mixk_succ', ← hv]; unfold mix1; rw [if_pos (by omega)]) (by omega) H locs ls hP hD hS (lv_sub hl [2, 3, 0] rfl)
  exact L16 _ 0 (cv ^^^ (x.toBitVec.toNat % 256)) (by omega) (by rfl) (Nat.lt_succ_self _) H locs ls hP hD hS (lv_sub hl [1, 2, 0] rfl)
theorem c_X10_add_N (l : Launch) (D : va_G) (cyI cyZ : ClassId) (h0 cv : Nat) (b : Nat) (hc : cv < 65536) (hby : b < 256) : Cv l D yX10_add wsX10_add ({ frames := 0, cells := 0, slots := 0, locals := 0 } : Room) [.ref h0, .int (nI b)] [(h0, .inr (10, [.int (nI cv)]))] (tyL cyI cyZ) (fun _ : Unit => True) (fun _ : Unit => [(h0, .inr (10, [.int (nI (mixB cv b))]))]) 0 0 := by have h := c_X10_add l D cyI cyZ h0 cv (nI b) hc; rw [byte8_b hby] at h; exact h
