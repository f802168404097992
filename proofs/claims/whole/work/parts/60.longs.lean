/-! OWN ROWS: the row of one long that the law hands to its helpers; calls of helpers that have a table; the script. -/
abbrev tyJ (cyI cyZ cyJ : ClassId) : List (ClassId × FieldType) := [(cyI, .int), (cyZ, .boolean), (cyJ, .long)]
theorem tyJ_L {D : va_G} {s : State} {cyI cyZ cyJ : ClassId} (h : va_K D vwCl (tyJ cyI cyZ cyJ) s) : va_K D vwCl (tyL cyI cyZ) s := h.sub [0, 1] rfl
def upJ (g : Nat → Int64) (x : Int64) : Nat → Int64 := vp_updL g 0 x
theorem upJ_0 (g : Nat → Int64) (x : Int64) : upJ g x 0 = x := by simp [upJ, vp_updL]
theorem lg_same {x y : Int64} (h : x = y) : lg_cmp x y = 0 := by subst h; simp [lg_cmp]
section LNG
variable {p : Program} {l : Launch} {e : Env} {R : Room} {s : State} {m : MethodId} {args : Array Value} {below : List Frame} {meth : Method} {c : Code} {H : Heap} {locs : List Loc} {cells slots : Nat} {Q : State → Prop} {D : va_G} {tys : List (ClassId × FieldType)} {A : Nat → Prop} {pc : Nat} {ls : Array Slot} {rest st0 : List Value} {cc : ByteArray}
theorem nv_last (hx : p.tables.exec = Jvm.exec) (hb : c.code = cc) {wW : va_W} {a : Addr} (hK : va_K D vwCl tys s) (hP : va_P D vwCl wW H) (hD : va_D A wW) (hS : va_S A s.heap H locs) (q0 t0 : Nat) {cA : ClassId} {f : Nat → Int64} (ha : wW[q0]? = some (a, .inl (cA, 1, .inr (.inl f)))) (ht : tys[t0]? = some (cA, .long)) {x : Int64} (hdg : decode cc pc = .ok (.lastore, 1))
    (kk : ∀ (H1 : Heap) (locs1 : List Loc), va_P D vwCl (wW.set q0 (a, .inl (cA, 1, .inr (.inl (upJ f x))))) H1 → va_D A (wW.set q0 (a, .inl (cA, 1, .inr (.inl (upJ f x))))) → va_S A s.heap H1 locs1 → W p l e R s m args below meth c H1 locs1 cells slots Q (F0 m (pc + 1) ls rest)) : W p l e R s m args below meth c H locs cells slots Q (F0 m pc ls (.long x :: .int (nI 0) :: .ref a :: rest)) := by
  refine va_last hx hb hK hP hD hS q0 t0 ha ht (vp_in_nI (by decide) (by decide)) hdg ?_
  rw [nI_clamp (by decide)]
  exact kk
theorem nv_lald (hx : p.tables.exec = Jvm.exec) (hb : c.code = cc) {wW : va_W} {a : Addr} (hK : va_K D vwCl tys s) (hP : va_P D vwCl wW H) (q0 t0 : Nat) {cA : ClassId} {f : Nat → Int64} (ha : wW[q0]? = some (a, .inl (cA, 1, .inr (.inl f)))) (ht : tys[t0]? = some (cA, .long)) (hdg : decode cc pc = .ok (.laload, 1))
    (k : W p l e R s m args below meth c H locs cells slots Q (F0 m (pc + 1) ls (.long (f 0) :: rest))) : W p l e R s m args below meth c H locs cells slots Q (F0 m pc ls (.int (nI 0) :: .ref a :: rest)) := by
  refine va_lald hx hb hK hP q0 t0 ha ht (vp_in_nI (by decide) (by decide)) hdg ?_
  rw [nI_clamp (by decide)]
  exact k
theorem nv_sld (hx : p.tables.exec = Jvm.exec) (hb : c.code = cc) {b L : Nat} {xs : Nat → Int32} (hX : va_X b L xs s s.heap) (hbl : b < s.heap.size) (hbA : ¬ A b) (hS : va_S A s.heap H locs) {i : Nat} (hi : i < L) (hL : L < 2147483648) (hdg : decode cc pc = .ok (.iaload, 1))
    (k : W p l e R s m args below meth c H locs cells slots Q (F0 m (pc + 1) ls (.int (xs i) :: rest))) : W p l e R s m args below meth c H locs cells slots Q (F0 m pc ls (.int (nI i) :: .ref b :: rest)) := by
  refine va_sld hx hb hX hbl hbA hS (vp_in_nI hi hL) hdg ?_
  rw [nI_clamp (Nat.lt_trans hi hL)]
  exact k
variable {y : MethodName} {bytes : ByteArray} {maxL nL mc ms n index : Nat} {ret : Option FieldType} {hh : List (Nat × Nat × Nat × Nat)} {wsC : List Cond} {rmC : Room} {Ts : List Cond} {own : String} {As : List Value} {QA : (Nat → Prop) → Array Value → State → Outcome → State → Prop} {wW Wc : va_W}
theorem run_SW (F : CallFix p m c cc nL s args Ts own) (hct : Ct l D y wsC rmC As Wc tys QA mc ms) (cw : vx_CSW R s args own index y bytes maxL ret hh wsC rmC mc ms n) (hN : NL s) (hK : va_K D vwCl tys s) (hP : va_P D vwCl wW H) (hD : va_D A wW) (isC : List Nat) (hC : isC.map (fun i => wW[i]?) = Wc.map some) (hnd : va_nd isC = true)
    (hn : As.length = n) (hls : ls.size = nL) (hst : st0 = As.reverse ++ rest) (hW : Nat.ble (rest.map fun v => v.category).sum 8 = true) (hdg : decode cc pc = .ok (.invokestatic index, 3)) (hf : cells + mc ≤ R.cells ∧ slots + ms ≤ R.slots) :
    va_Run p l e R s m args below meth c H locs cells slots mc ms (F0 m pc ls st0) rest (QA (va_A Wc H.size) As.toArray) (va_A Wc H.size) :=
  vx_runSW (As := As) (rest := rest) F (hct H.size) cw ⟨blindW, fun U hU hW => ⟨rfl, by rw [hU], by rw [hU]; exact pickP hP isC hC, va_K.moved hW.alike hK, (hD.sub isC hnd hC).weaken (fun _ _ _ _ => trivial), hN.moved hW⟩⟩ rfl hn hls hst (lv_room (Nat.le_of_ble_eq_true hW)) hdg hf
theorem run_SF (F : CallFix p m c cc nL s args Ts own) (hct : CtF l D y wsC rmC As Wc tys QA mc ms) (cw : vx_CSW R s args own index y bytes maxL ret hh wsC rmC mc ms n) (hN : NL s) (hK : va_K D vwCl tys s) (hP : va_P D vwCl wW H) (hD : va_D A wW) (hXF : XF A s s.heap) (hS : va_S A s.heap H locs) (hA : ∀ q : Nat, s.heap.size ≤ q → A q) (isC : List Nat) (hC : isC.map (fun i => wW[i]?) = Wc.map some) (hnd : va_nd isC = true)
    (hn : As.length = n) (hls : ls.size = nL) (hst : st0 = As.reverse ++ rest) (hW : Nat.ble (rest.map fun v => v.category).sum 8 = true) (hdg : decode cc pc = .ok (.invokestatic index, 3)) (hf : cells + mc ≤ R.cells ∧ slots + ms ≤ R.slots) :
    va_Run p l e R s m args below meth c H locs cells slots mc ms (F0 m pc ls st0) rest (QA (va_A Wc H.size) As.toArray) (va_A Wc H.size) :=
  vx_runSW (As := As) (rest := rest) F (hct H.size) cw ⟨blindF, fun U hU hW => ⟨rfl, by rw [hU], by rw [hU]; exact pickP hP isC hC, va_K.moved hW.alike hK, (hD.sub isC hnd hC).weaken (fun _ _ _ _ => trivial), hN.moved hW, by rw [hU]; exact ((hXF.kept hS.2.1).narrow (va_free (wc := Wc) hD hS hA isC hC)).moved hW⟩⟩ rfl hn hls hst (lv_room (Nat.le_of_ble_eq_true hW)) hdg hf
end LNG
