/-! OWN ROWS: methods that end by a throw, and callers that catch. -/
abbrev xfC : List String := ["java/lang/IllegalArgumentException", "java/lang/IndexOutOfBoundsException"]
abbrev xfN : List String := ["java/lang/RuntimeException", "java/lang/Exception"]
abbrev xfD : List MethodName := [⟨"java/lang/RuntimeException", "<init>", "(Ljava/lang/String;)V"⟩, ⟨"java/lang/Exception", "<init>", "(Ljava/lang/String;)V"⟩, ⟨"java/lang/Throwable", "<init>", "(Ljava/lang/String;)V"⟩]
abbrev xfQ : List (Nat × String) := [(64, "no such point"), (69, "no value of a binary point"), (79, "no such kind"), (91, "not 1 to 8 bytes"), (135, "not 1 to 100 ticks"), (149, "no such byte was sent"), (156, "not 0 to 8 bytes"), (175, "no such byte was told")]
/-- what a throw needs of the tables, of the texts, and of two statics that stay -/
def XF (A : Nat → Prop) (U : State) (H : Heap) : Prop := (∀ q ∈ xfC, va_Nw (.castable q q) U) ∧ (∀ y ∈ xfD, va_Nw (.declares y) U) ∧ (∀ q ∈ xfQ, ∃ a : Nat, vk_R RX11 q.1 q.2 a U) ∧ vx_Zq Bundle.tN "UNASSIGNED_STACK" Bundle.steD A U H ∧ vx_Zq Bundle.tN "SUPPRESSED_SENTINEL" Bundle.listD A U H
theorem XF.moved {A : Nat → Prop} {s U : State} {H : Heap} (hW : s.WarmedH U.vm) (h : XF A s H) : XF A U H :=
  ⟨fun q hq => va_Nw.warmC hW (h.1 q hq), fun y hy => va_Nw.warmD hW (h.2.1 y hy), fun q hq => (h.2.2.1 q hq).imp (fun _ ha => vk_R.warm hW ha), vx_Zq.moved hW.alike h.2.2.2.1, vx_Zq.moved hW.alike h.2.2.2.2⟩
theorem XF.same {A : Nat → Prop} {s U : State} {H : Heap} (hv : s.vm = U.vm) (h : XF A s H) : XF A U H := by
  have ha : s.vm.Alike U.vm := by rw [← hv]; exact Vm.Alike.refl _
  exact ⟨fun q hq => va_Nw.same rfl hv (h.1 q hq), fun y hy => va_Nw.same rfl hv (h.2.1 y hy), fun q hq => (h.2.2.1 q hq).imp (fun _ ha => vk_R.same hv.symm ha), vx_Zq.moved ha h.2.2.2.1, vx_Zq.moved ha h.2.2.2.2⟩
theorem XF.kept {A : Nat → Prop} {U : State} {H H1 : Heap} (h : XF A U H) (hq : ∀ a : Nat, a < H.size → ¬ A a → H1[a]? = H[a]?) : XF A U H1 := ⟨h.1, h.2.1, h.2.2.1, h.2.2.2.1.kept hq, h.2.2.2.2.kept hq⟩
theorem XF.narrow {A B : Nat → Prop} {U : State} {H : Heap} (h : XF A U H) (hAB : ∀ q, B q → A q) : XF B U H := ⟨h.1, h.2.1, h.2.2.1, h.2.2.2.1.narrow hAB, h.2.2.2.2.narrow hAB⟩
def PcF (D : va_G) (W0 : va_W) (tys : List (ClassId × FieldType)) (av : List Value) (sz : Nat) : Array Value → State → Prop := va_Pc av (fun U => U.heap.size = sz ∧ va_P D vwCl W0 U.heap ∧ va_K D vwCl tys U ∧ va_D (fun _ => True) W0 ∧ NL U ∧ XF (va_A W0 sz) U U.heap)
theorem blindF {D : va_G} {W0 : va_W} {tys : List (ClassId × FieldType)} {av : List Value} {sz : Nat} : FrameBlind (PcF D W0 tys av sz) := fun a U g mk q => by
  obtain ⟨q0, q1, qP, qK, qD, qN, qX⟩ := q
  exact ⟨q0, q1, qP, va_K.moved (u := U) (U := U.calling g mk a) (Vm.Alike.refl U.vm) qK, qD, NL.same (s := U) (U := U.calling g mk a) rfl qN, XF.same (s := U) (U := U.calling g mk a) rfl qX⟩
def xQ (D : va_G) (W0 : va_W) (tys : List (ClassId × FieldType)) (E : String) (A : Nat → Prop) : String → State → State → Prop := vx_X (S := Unit) (fun _ => True) (fun E' _ t => E' = E ∧ va_P D vwCl W0 t.heap ∧ va_K D vwCl tys t ∧ va_D A W0) A
/-- a contract that throws E and leaves the cells as they were -/
def CtX (l : Launch) (D : va_G) (y : MethodName) (ws : List Cond) (rm : Room) (av : List Value) (W0 : va_W) (tys : List (ClassId × FieldType)) (E : String) (mc ms : Nat) : Prop :=
  ∀ sz : Nat, vx_Met l y ws rm (PcF D W0 tys av sz) (fun _ _ _ _ => False) (xQ D W0 tys E (va_A W0 sz)) mc ms (va_A W0 sz)
/-- a contract whose method may need to throw and catch -/
def CtF (l : Launch) (D : va_G) (y : MethodName) (ws : List Cond) (rm : Room) (av : List Value) (W0 : va_W) (tys : List (ClassId × FieldType)) (QA : (Nat → Prop) → Array Value → State → Outcome → State → Prop) (mc ms : Nat) : Prop :=
  ∀ sz : Nat, Met l y ws rm (PcF D W0 tys av sz) (QA (va_A W0 sz)) mc ms (va_A W0 sz)
abbrev CiF {S : Type} (l : Launch) (D : va_G) (y : MethodName) (ws : List Cond) (rm : Room) (av : List Value) (W0 : va_W) (tys : List (ClassId × FieldType)) (post : Int32 → S → Prop) (w2 : S → va_W) (mc ms : Nat) : Prop := CtF l D y ws rm av W0 tys (fun A => va_Qi post (bw D w2 tys A) A) mc ms
set_option maxHeartbeats 4000000 in
theorem mk_CtX {l : Launch} {D : va_G} {y : MethodName} {ws ws' : List Cond} {rm : Room} {av : List Value} {W0 : va_W} {tys : List (ClassId × FieldType)} {E : String} {mc ms : Nat} {cc : ByteArray} {maxL : Nat} {ret : Option FieldType}
    (hy : plainName y.cls = true) (hw : ws = Cond.code y cc maxL ret :: ws') (hle : Nat.ble (lg_sl av).length maxL = true)
    (body : ∀ (p : Program) (e : Env) (s : State) (m : MethodId) (below : List Frame) (meth : Method) (c : Code) (A : Nat → Prop) (Q : State → Prop) (ls : Array Slot), p.tables.exec = Jvm.exec → c.code = cc → meth.sig.returnType = ret → (∀ w ∈ ws, w.before av.toArray s = true) → s.vm.findClass y.cls = some m.cls → meth.locks = false → c.maxLocals = maxL → meth.name = y.name → (∀ q : Nat, s.heap.size ≤ q → A q) → NL s → va_K D vwCl tys s → va_P D vwCl W0 s.heap → va_D A W0 → va_S A s.heap s.heap [] → XF A s s.heap → (∀ x ∈ c.exceptionTable.toList, False) → Q = vx_MQ below (fun _ _ _ _ => False) (xQ D W0 tys E A) av.toArray s mc ms A → lv_has ls maxL (lv_args 0 av) → W p l e rm s m av.toArray below meth c s.heap [] 0 0 Q (F0 m 0 ls [])) : CtX l D y ws rm av W0 tys E mc ms := by
  intro sz
  refine vx_ofW (cc := cc) (maxL := maxL) (ret := ret) hy hw ?_
  intro p e s m args below meth c s₁ B hml hEx hv
  obtain ⟨rfl, hsz, hP, hK, hD0, hN, hX⟩ := hv
  subst hsz
  have hD := hD0.self (sz := s.heap.size)
  have hl := lv_entry av (n := maxL) (Nat.le_of_ble_eq_true hle)
  rw [lg_entry_eq]
  exact body p e s m below meth c (va_A W0 s.heap.size) _ _ B.exec B.bytes B.returns (atoms_spec (ws := ws) B.pre) (findClass_of_methodNamed B.named) B.notSynchronized hml (name_of_methodNamed B.named B.method).1 (fun q h => Or.inr h) hN hK hP hD va_S.rf hX hEx rfl hl
set_option maxHeartbeats 4000000 in
theorem mk_CtW {l : Launch} {D : va_G} {y : MethodName} {ws ws' : List Cond} {rm : Room} {av : List Value} {W0 : va_W} {tys : List (ClassId × FieldType)} {QA : (Nat → Prop) → Array Value → State → Outcome → State → Prop} {mc ms : Nat} {cc : ByteArray} {maxL : Nat} {ret : Option FieldType} {hh : List (Nat × Nat × Nat × Nat)}
    (hy : plainName y.cls = true) (hw : ws = Cond.codeWith y cc maxL ret hh :: ws') (hle : Nat.ble (lg_sl av).length maxL = true)
    (body : ∀ (p : Program) (e : Env) (s : State) (m : MethodId) (below : List Frame) (meth : Method) (c : Code) (A : Nat → Prop) (Q : State → Prop) (ls : Array Slot), p.tables.exec = Jvm.exec → c.code = cc → meth.sig.returnType = ret → (∀ w ∈ ws, w.before av.toArray s = true) → s.vm.findClass y.cls = some m.cls → meth.locks = false → c.maxLocals = maxL → meth.name = y.name → (∀ q : Nat, s.heap.size ≤ q → A q) → NL s → va_K D vwCl tys s → va_P D vwCl W0 s.heap → va_D A W0 → va_S A s.heap s.heap [] → Q = MQ below (QA A) av.toArray s mc ms A → lv_has ls maxL (lv_args 0 av) → W p l e rm s m av.toArray below meth c s.heap [] 0 0 Q (F0 m 0 ls [])) : Ct l D y ws rm av W0 tys QA mc ms := by
  intro sz
  refine va_MetW (cc := cc) (maxL := maxL) (ret := ret) (hh := hh) hy hw ?_
  intro p e s m args below meth c s₁ B hml hv
  obtain ⟨rfl, hsz, hP, hK, hD0, hN⟩ := hv
  subst hsz
  have hD := hD0.self (sz := s.heap.size)
  have hl := lv_entry av (n := maxL) (Nat.le_of_ble_eq_true hle)
  rw [lg_entry_eq]
  exact body p e s m below meth c (va_A W0 s.heap.size) _ _ B.exec B.bytes B.returns (atoms_spec (ws := ws) B.pre) (findClass_of_methodNamed B.named) B.notSynchronized hml (name_of_methodNamed B.named B.method).1 (fun q h => Or.inr h) hN hK hP hD va_S.rf rfl hl
set_option maxHeartbeats 4000000 in
theorem mk_CtF {l : Launch} {D : va_G} {y : MethodName} {ws ws' : List Cond} {rm : Room} {av : List Value} {W0 : va_W} {tys : List (ClassId × FieldType)} {QA : (Nat → Prop) → Array Value → State → Outcome → State → Prop} {mc ms : Nat} {cc : ByteArray} {maxL : Nat} {ret : Option FieldType} {hh : List (Nat × Nat × Nat × Nat)}
    (hy : plainName y.cls = true) (hw : ws = Cond.codeWith y cc maxL ret hh :: ws') (hle : Nat.ble (lg_sl av).length maxL = true)
    (body : ∀ (p : Program) (e : Env) (s : State) (m : MethodId) (below : List Frame) (meth : Method) (c : Code) (A : Nat → Prop) (Q : State → Prop) (ls : Array Slot), p.tables.exec = Jvm.exec → c.code = cc → meth.sig.returnType = ret → (∀ w ∈ ws, w.before av.toArray s = true) → s.vm.findClass y.cls = some m.cls → meth.locks = false → c.maxLocals = maxL → meth.name = y.name → (∀ q : Nat, s.heap.size ≤ q → A q) → NL s → va_K D vwCl tys s → va_P D vwCl W0 s.heap → va_D A W0 → va_S A s.heap s.heap [] → XF A s s.heap → c.exceptionTable.toList = tableOf hh → Q = MQ below (QA A) av.toArray s mc ms A → lv_has ls maxL (lv_args 0 av) → W p l e rm s m av.toArray below meth c s.heap [] 0 0 Q (F0 m 0 ls [])) : CtF l D y ws rm av W0 tys QA mc ms := by
  intro sz
  refine va_MetW (cc := cc) (maxL := maxL) (ret := ret) (hh := hh) hy hw ?_
  intro p e s m args below meth c s₁ B hml hv
  have hT : c.exceptionTable.toList = tableOf hh := vx_table (x := y) B (atoms_spec (ws := ws) B.pre _ (by rw [hw]; exact List.mem_cons_self))
  obtain ⟨rfl, hsz, hP, hK, hD0, hN, hX⟩ := hv
  subst hsz
  have hD := hD0.self (sz := s.heap.size)
  have hl := lv_entry av (n := maxL) (Nat.le_of_ble_eq_true hle)
  rw [lg_entry_eq]
  exact body p e s m below meth c (va_A W0 s.heap.size) _ _ B.exec B.bytes B.returns (atoms_spec (ws := ws) B.pre) (findClass_of_methodNamed B.named) B.notSynchronized hml (name_of_methodNamed B.named B.method).1 (fun q h => Or.inr h) hN hK hP hD va_S.rf hX hT rfl hl
section THR
variable {p : Program} {l : Launch} {e : Env} {R : Room} {s : State} {m : MethodId} {args : Array Value} {below : List Frame} {meth : Method} {c : Code} {H : Heap} {locs : List Loc} {cells slots : Nat} {Q : State → Prop} {D : va_G} {tys : List (ClassId × FieldType)} {A : Nat → Prop} {pc : Nat} {ls : Array Slot} {rest st0 : List Value} {cc : ByteArray}
theorem thr_S {W0 : va_W} {E tx : String} {ik is ic mc ms : Nat} (hQ : Q = vx_MQ below (fun _ _ _ _ => False) (xQ D W0 tys E A) args s mc ms A) (hx : p.tables.exec = Jvm.exec) (hb : c.code = cc) (hl9 : l.stackTraces = false) (hown : s.vm.findClass RX11 = some m.cls) (hcls : Bundle.fit E = true)
    (hk : (Cond.classLink RX11 ik E).before args s = true) (hini : (Cond.initialized E).before args s = true) (hgw : ∀ w ∈ (vx_atS RX11 ic E xfN).filter goodWord, w.before args s = true) (hbad : ∀ w ∈ (vx_atS RX11 ic E xfN).filter (fun w => !goodWord w), w ∈ Cond.castable E E :: xfD.map Cond.declares)
    (hgood : ∀ w ∈ Cond.classLink RX11 ik E :: Cond.initialized E :: vx_atS RX11 ic E xfN, vx_ot w = true) (hE : E ∈ xfC) (hq : (is, tx) ∈ xfQ) (hXF : XF A s s.heap) (hEx : ∀ x ∈ c.exceptionTable.toList, False) (hK : va_K D vwCl tys s) (hP : va_P D vwCl W0 H) (hD : va_D A W0) (hS : va_S A s.heap H locs) (hsize : ls.size = c.maxLocals)
    (d0 : decode cc pc = .ok (.new ik, 3)) (d3 : decode cc (pc + 3) = .ok (.dup, 1)) (d4 : decode cc (pc + 4) = .ok (.ldc is, 2)) (d6 : decode cc (pc + 6) = .ok (.invokespecial ic, 3)) (d9 : decode cc (pc + 9) = .ok (.athrow, 1))
    (hRf : 5 < R.frames) (hRl : 82 ≤ R.locals) (hRc : cells + 1 ≤ R.cells) (hRs : slots + 6 ≤ R.slots) (hlocks : meth.locks = false) (hc : cells + 1 ≤ mc) (hs : slots + 6 ≤ ms) : W p l e R s m args below meth c H locs cells slots Q (F0 m pc ls []) := by
  subst hQ
  obtain ⟨sa, hsa⟩ := hXF.2.2.1 (is, tx) hq
  refine vx_throwS (own := RX11) (cls := E) (names := xfN) hx hb hl9 hown hcls (by decide +kernel) hk hini hsa (vx_hat hgw hbad (fun w hw => ?_)) hgood hXF.2.2.2.1 hXF.2.2.2.2 hS hsize d0 d3 d4 d6 d9 (fun x hx => (hEx x hx).elim) hRf (Nat.le_trans (by decide) hRl) hRc hRs hlocks (fun t ha hsz hk9 => ⟨(), trivial, ⟨rfl, hP.kept (fun k q hq => hk9 q.1 (hP k q hq).lt), va_K.moved ha hK, hD⟩, Nat.le_trans hS.1 hsz, fun q h1 h2 => (hk9 q (Nat.lt_of_lt_of_le h1 hS.1)).trans (hS.2.1 q h1 h2)⟩) hS.2.2 hc hs
  rcases List.mem_cons.mp hw with rfl | hw
  · exact va_Nw.use rfl (hXF.1 E hE)
  · obtain ⟨y, hy, rfl⟩ := List.mem_map.mp hw
    exact va_Nw.use rfl (hXF.2.1 y hy)
variable {y : MethodName} {bytes : ByteArray} {maxL nL mc ms n index : Nat} {ret : Option FieldType} {wsC : List Cond} {rmC : Room} {Ts : List Cond} {own C E : String} {b : Addr} {As : List Value} {QA : (Nat → Prop) → Array Value → State → Outcome → State → Prop} {wW Wc Wr : va_W}
theorem run_VX {ci : Nat} {fs : List Value} {T : u_T} {N : Nat} (F : CallFix p m c cc nL s args Ts own) (hct : CtX l D y wsC rmC (.ref b :: As) Wc tys E mc ms) (cw : CallW R s args own C index y bytes maxL ret wsC rmC mc ms n) (hN : NL s) (hK : va_K D vwCl tys s) (hP : va_P D vwCl wW H) (hD : va_D A wW) (hXF : XF A s s.heap) (hS : va_S A s.heap H locs) (hA : ∀ q : Nat, s.heap.size ≤ q → A q) (isC : List Nat) (hC : isC.map (fun i => wW[i]?) = Wc.map some) (hnd : va_nd isC = true) (q0 : Nat) (he : wW[q0]? = some (b, .inr (ci, fs))) (hcl : vwCl[ci]? = some (C, T, N))
    (hn : As.length = n) (hls : ls.size = nL) (hst : st0 = As.reverse ++ .ref b :: rest) (hW : Nat.ble (rest.map fun v => v.category).sum 8 = true) (hdg : decode cc pc = .ok (.invokevirtual index, 3)) (hf : cells + mc ≤ R.cells ∧ slots + ms ≤ R.slots) :
    vx_Run p l e R s m args below meth c H locs cells slots mc ms (F0 m pc ls st0) rest (fun _ _ _ => False) (xQ D Wc tys E (va_A Wc H.size)) (va_A Wc H.size) :=
  vx_runV (As := As) (rest := rest) F (hct H.size) cw ⟨blindF, va_recv hK hP hcl he, fun U hU hW => ⟨rfl, by rw [hU], by rw [hU]; exact pickP hP isC hC, va_K.moved hW.alike hK, (hD.sub isC hnd hC).weaken (fun _ _ _ _ => trivial), hN.moved hW, by rw [hU]; exact ((hXF.kept hS.2.1).narrow (va_free (wc := Wc) hD hS hA isC hC)).moved hW⟩⟩ rfl hn hls hst (lv_room (Nat.le_of_ble_eq_true hW)) hdg hf
theorem res_X (hr : vx_Run p l e R s m args below meth c H locs cells slots mc ms (F0 m pc ls st0) rest (fun _ _ _ => False) (xQ D Wc tys E (va_A Wc H.size)) (va_A Wc H.size)) (hP : va_P D vwCl wW H) (hD : va_D A wW) (hS : va_S A s.heap H locs) (hA : ∀ q : Nat, s.heap.size ≤ q → A q) (isC isR : List Nat) (hC : isC.map (fun i => wW[i]?) = Wc.map some) (hR : isR.map (fun i => wW[i]?) = Wr.map some) (hnd : va_nd isR = true) (hdis : ∀ i ∈ isR, i ∉ isC)
    (kx : ∀ (ce : Cell) (q9 : Nat) (H1 : Heap) (locs1 : List Loc), va_P D vwCl (Wr ++ Wc) H1 → va_D A (Wr ++ Wc) → va_S A s.heap H1 locs1 → H1[q9]? = some ce → ce.vm = .none → s.vm.findClass E = some ce.cls → vx_W p l e R s m args below meth c H1 locs1 (cells + mc) (slots + ms) Q (F0 m pc ls rest) q9) : W p l e R s m args below meth c H locs cells slots Q (F0 m pc ls st0) := by
  have hFc := va_free (wc := Wc) hD hS hA isC hC
  intro T hT X
  rcases hr T hT X with ⟨v, st₀, t, T', L, h0, X', hL, e1, e2, hfa, st⟩ | ⟨q, st₀, t, T', L, E9, ce, h0, X', hL, e1, e2, ⟨u, hp, ⟨rfl, hP1, hK1, hD1⟩, hF⟩, hce, hcv, hcl, st⟩
  · exact hfa.elim
  · obtain ⟨k1, k2, k3⟩ := vx_keep h0 e1 hS (fun q _ h => hFc q h) hFc hL hF
    rw [← e1] at hP1
    obtain ⟨hP2, hD2⟩ := va_join (wr := Wr) (w1 := Wc) hP hD isC isR hC hR hnd hdis k2 hFc hP1 hD1
    obtain ⟨t2, a1, b1⟩ := kx ce q T'.heap (locs ++ L) hP2 hD2 k3 (by rw [e1]; exact hce) hcv hcl T' rfl X'
    exact ⟨t2, st.trans a1, b1⟩
end THR
theorem thr_b66 : ∀ w ∈ (vx_atS RX11 66 "java/lang/IllegalArgumentException" xfN).filter (fun w => !goodWord w), w ∈ Cond.castable "java/lang/IllegalArgumentException" "java/lang/IllegalArgumentException" :: xfD.map Cond.declares := by decide +kernel
theorem thr_g66 : ∀ w ∈ Cond.classLink RX11 62 "java/lang/IllegalArgumentException" :: Cond.initialized "java/lang/IllegalArgumentException" :: vx_atS RX11 66 "java/lang/IllegalArgumentException" xfN, vx_ot w = true := by decide +kernel
theorem thr_b151 : ∀ w ∈ (vx_atS RX11 151 "java/lang/IndexOutOfBoundsException" xfN).filter (fun w => !goodWord w), w ∈ Cond.castable "java/lang/IndexOutOfBoundsException" "java/lang/IndexOutOfBoundsException" :: xfD.map Cond.declares := by decide +kernel
theorem thr_g151 : ∀ w ∈ Cond.classLink RX11 147 "java/lang/IndexOutOfBoundsException" :: Cond.initialized "java/lang/IndexOutOfBoundsException" :: vx_atS RX11 151 "java/lang/IndexOutOfBoundsException" xfN, vx_ot w = true := by decide +kernel
