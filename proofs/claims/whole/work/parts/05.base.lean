/-! OWN ROWS: contracts over a list of cells, calls, returns, rows over naturals. -/
/-- a truth as a Java boolean -/
def bI (P : Prop) [Decidable P] : Int32 := if P then 1 else 0
theorem bI_t {P : Prop} [Decidable P] (h : P) : bI P = 1 := if_pos h
theorem bI_f {P : Prop} [Decidable P] (h : ¬ P) : bI P = 0 := if_neg h
theorem bI_narrow (P : Prop) [Decidable P] : narrow .boolean (.int (bI P)) = .int (bI P) := by unfold bI; split <;> rfl
theorem bI_fits (P : Prop) [Decidable P] : fits .boolean (.int (bI P)) = true := by unfold bI; split <;> rfl
theorem bI_congr {P R : Prop} [Decidable P] [Decidable R] (h : P ↔ R) : bI P = bI R := by
  by_cases hp : P
  · rw [bI_t hp, bI_t (h.mp hp)]
  · rw [bI_f hp, bI_f (fun z => hp (h.mpr z))]
abbrev tyL (cyI cyZ : ClassId) : List (ClassId × FieldType) := [(cyI, .int), (cyZ, .boolean)]
/-- the links to nest mates: words on tables that stay -/
def nestQ : List (String × Nat × MethodName × String) := [("OutStation", 18, ⟨"OutStation$Line", "<init>", "()V"⟩, "OutStation"), ("OutStation", 25, ⟨"OutStation$Parts", "<init>", "()V"⟩, "OutStation"), ("OutStation", 32, ⟨"OutStation$Requests", "<init>", "()V"⟩, "OutStation"), ("OutStation", 39, ⟨"OutStation$Sending", "<init>", "()V"⟩, "OutStation"), ("OutStation", 46, ⟨"OutStation$Questions", "<init>", "()V"⟩, "OutStation"), ("OutStation", 53, ⟨"OutStation$Sum", "<init>", "()V"⟩, "OutStation"), ("OutStation", 9, ⟨"OutStation$Field", "<init>", "()V"⟩, "OutStation"), ("OutStation$Field", 23, ⟨"OutStation$EventRow", "<init>", "()V"⟩, "OutStation"), ("OutStation$Line", 22, ⟨"OutStation$Sum", "<init>", "()V"⟩, "OutStation"), ("OutStation$Questions", 23, ⟨"OutStation", "byteOf", "(JII)I"⟩, "OutStation"), ("OutStation$Requests", 22, ⟨"OutStation$Reading", "<init>", "()V"⟩, "OutStation"), ("OutStation$Requests", 29, ⟨"OutStation$Selection", "<init>", "()V"⟩, "OutStation"), ("OutStation$Sending", 17, ⟨"OutStation$Sum", "<init>", "()V"⟩, "OutStation")]
def NL (U : State) : Prop := ∀ q ∈ nestQ, va_Nw (.methodLinkNest q.1 q.2.1 q.2.2.1 q.2.2.2) U
theorem NL.moved {s U : State} (hW : s.WarmedH U.vm) (h : NL s) : NL U := fun q hq => va_Nw.warmM hW (h q hq)
theorem NL.same {s U : State} (hv : s.vm = U.vm) (h : NL s) : NL U := fun q hq => va_Nw.same rfl hv (h q hq)
/-- a contract over the cells W0 -/
def Ct (l : Launch) (D : va_G) (y : MethodName) (ws : List Cond) (rm : Room) (av : List Value) (W0 : va_W) (tys : List (ClassId × FieldType)) (QA : (Nat → Prop) → Array Value → State → Outcome → State → Prop) (mc ms : Nat) : Prop :=
  ∀ sz : Nat, Met l y ws rm (va_Pc av (fun U => U.heap.size = sz ∧ va_P D vwCl W0 U.heap ∧ va_K D vwCl tys U ∧ va_D (fun _ => True) W0 ∧ NL U)) (QA (va_A W0 sz)) mc ms (va_A W0 sz)
def bw {S : Type} (D : va_G) (w2 : S → va_W) (tys : List (ClassId × FieldType)) (A : Nat → Prop) (u : S) (t : State) : Prop := va_P D vwCl (w2 u) t.heap ∧ va_K D vwCl tys t ∧ va_D A (w2 u)
/-- answers an int, nothing, a reference (u.1) -/
abbrev Ci {S : Type} (l : Launch) (D : va_G) (y : MethodName) (ws : List Cond) (rm : Room) (av : List Value) (W0 : va_W) (tys : List (ClassId × FieldType)) (post : Int32 → S → Prop) (w2 : S → va_W) (mc ms : Nat) : Prop := Ct l D y ws rm av W0 tys (fun A => va_Qi post (bw D w2 tys A) A) mc ms
abbrev Cv {S : Type} (l : Launch) (D : va_G) (y : MethodName) (ws : List Cond) (rm : Room) (av : List Value) (W0 : va_W) (tys : List (ClassId × FieldType)) (post : S → Prop) (w2 : S → va_W) (mc ms : Nat) : Prop := Ct l D y ws rm av W0 tys (fun A => va_Qv post (bw D w2 tys A) A) mc ms
abbrev Cr {S : Type} (l : Launch) (D : va_G) (y : MethodName) (ws : List Cond) (rm : Room) (av : List Value) (W0 : va_W) (tys : List (ClassId × FieldType)) (ad : Nat) (post : S → Prop) (w2 : S → va_W) (mc ms : Nat) : Prop := Ct l D y ws rm av W0 tys (fun A => va_Qr post (fun u a t => a = ad ∧ bw D w2 tys A u t) A) mc ms
set_option maxHeartbeats 4000000 in
theorem mk_Ct {l : Launch} {D : va_G} {y : MethodName} {ws ws' : List Cond} {rm : Room} {av : List Value} {W0 : va_W} {tys : List (ClassId × FieldType)} {QA : (Nat → Prop) → Array Value → State → Outcome → State → Prop} {mc ms : Nat} {cc : ByteArray} {maxL : Nat} {ret : Option FieldType}
    (hy : plainName y.cls = true) (hw : ws = Cond.code y cc maxL ret :: ws') (hle : Nat.ble (lg_sl av).length maxL = true)
    (body : ∀ (p : Program) (e : Env) (s : State) (m : MethodId) (below : List Frame) (meth : Method) (c : Code) (A : Nat → Prop) (Q : State → Prop) (ls : Array Slot), p.tables.exec = Jvm.exec → c.code = cc → meth.sig.returnType = ret → (∀ w ∈ ws, w.before av.toArray s = true) → s.vm.findClass y.cls = some m.cls → meth.locks = false → c.maxLocals = maxL → meth.name = y.name → (∀ q : Nat, s.heap.size ≤ q → A q) → NL s → va_K D vwCl tys s → va_P D vwCl W0 s.heap → va_D A W0 → va_S A s.heap s.heap [] → Q = MQ below (QA A) av.toArray s mc ms A → lv_has ls maxL (lv_args 0 av) → W p l e rm s m av.toArray below meth c s.heap [] 0 0 Q (F0 m 0 ls [])) : Ct l D y ws rm av W0 tys QA mc ms := by
  intro sz
  refine Met.ofW (cc := cc) (maxL := maxL) (ret := ret) hy hw ?_
  intro p e s m args below meth c s₁ B hml hv
  obtain ⟨rfl, hsz, hP, hK, hD0, hN⟩ := hv
  subst hsz
  have hD := hD0.self (sz := s.heap.size)
  have hl := lv_entry av (n := maxL) (Nat.le_of_ble_eq_true hle)
  rw [lg_entry_eq]
  exact body p e s m below meth c (va_A W0 s.heap.size) _ _ B.exec B.bytes B.returns (atoms_spec (ws := ws) B.pre) (findClass_of_methodNamed B.named) B.notSynchronized hml (name_of_methodNamed B.named B.method).1 (fun q h => Or.inr h) hN hK hP hD va_S.rf rfl hl
section OWN
variable {p : Program} {l : Launch} {e : Env} {R : Room} {s : State} {m : MethodId} {args : Array Value} {below : List Frame} {meth : Method} {c : Code} {H : Heap} {locs : List Loc} {cells slots : Nat} {Q : State → Prop} {D : va_G} {tys : List (ClassId × FieldType)} {A : Nat → Prop} {pc : Nat} {ls : Array Slot} {rest st0 : List Value} {cc : ByteArray}
theorem ret_i {S : Type} {post : Int32 → S → Prop} {w2 : S → va_W} {r : Int32} (hQ : Q = MQ below (va_Qi post (bw D w2 tys A) A) args s cells slots A) (hx : p.tables.exec = Jvm.exec) (hb : c.code = cc) (hr : meth.sig.returnType = some .int) (hlocks : meth.locks = false) (hdg : decode cc pc = .ok (.ireturn, 1)) (hK : va_K D vwCl tys s) (hS : va_S A s.heap H locs) (u : S) (hpost : post r u) (hP : va_P D vwCl (w2 u) H) (hD : va_D A (w2 u)) : W p l e R s m args below meth c H locs cells slots Q (F0 m pc ls [.int r]) := by
  subst hQ
  exact W.iret (v := r) hx hb hr (fun t ht hW => ⟨⟨r, u, rfl, hpost, by rw [ht]; exact hP, va_K.moved hW.alike hK, hD⟩, hS.F ht⟩) hS.2.2 hdg
theorem ret_z {S : Type} {post : Int32 → S → Prop} {w2 : S → va_W} {r : Int32} (hQ : Q = MQ below (va_Qi post (bw D w2 tys A) A) args s cells slots A) (hx : p.tables.exec = Jvm.exec) (hb : c.code = cc) (hr : meth.sig.returnType = some .boolean) (hlocks : meth.locks = false) (hdg : decode cc pc = .ok (.ireturn, 1)) (hK : va_K D vwCl tys s) (hS : va_S A s.heap H locs) (hn : narrow .boolean (.int r) = .int r) (u : S) (hpost : post r u) (hP : va_P D vwCl (w2 u) H) (hD : va_D A (w2 u)) : W p l e R s m args below meth c H locs cells slots Q (F0 m pc ls [.int r]) := by
  subst hQ
  exact W.zret (v := r) hx hb hr hn (fun t ht hW => ⟨⟨r, u, rfl, hpost, by rw [ht]; exact hP, va_K.moved hW.alike hK, hD⟩, hS.F ht⟩) hS.2.2 hdg
theorem ret_v {S : Type} {post : S → Prop} {w2 : S → va_W} (hQ : Q = MQ below (va_Qv post (bw D w2 tys A) A) args s cells slots A) (hx : p.tables.exec = Jvm.exec) (hb : c.code = cc) (hr : meth.sig.returnType = none) (hlocks : meth.locks = false) (hdg : decode cc pc = .ok (.return_, 1)) (hK : va_K D vwCl tys s) (hS : va_S A s.heap H locs) (u : S) (hpost : post u) (hP : va_P D vwCl (w2 u) H) (hD : va_D A (w2 u)) : W p l e R s m args below meth c H locs cells slots Q (F0 m pc ls []) := by
  subst hQ
  exact W.vret hx hb hr (fun t ht hW => ⟨⟨u, rfl, hpost, by rw [ht]; exact hP, va_K.moved hW.alike hK, hD⟩, hS.F ht⟩) hS.2.2 hdg
/-- which cells a callee gets, by their places -/
theorem pickP {ws wc : va_W} (h : va_P D vwCl ws H) (isC : List Nat) (hC : isC.map (fun i => ws[i]?) = wc.map some) : va_P D vwCl wc H := by
  intro k q hk
  have h1 : (isC.map (fun i => ws[i]?))[k]? = some (some q) := by rw [hC, List.getElem?_map, hk]; rfl
  rw [List.getElem?_map] at h1
  cases hi : isC[k]? with
  | none => rw [hi] at h1; cases h1
  | some i => rw [hi] at h1; exact h i q (Option.some.inj h1)
theorem blindW {av : List Value} {sz : Nat} {W0 : va_W} : FrameBlind (va_Pc av (fun U => U.heap.size = sz ∧ va_P D vwCl W0 U.heap ∧ va_K D vwCl tys U ∧ va_D (fun _ => True) W0 ∧ NL U)) := fun a U g mk q => by
  obtain ⟨q0, q1, qP, qK, qD, qN⟩ := q
  exact ⟨q0, q1, qP, va_K.moved (u := U) (U := U.calling g mk a) (Vm.Alike.refl U.vm) qK, qD, NL.same (s := U) (U := U.calling g mk a) rfl qN⟩
variable {y : MethodName} {bytes : ByteArray} {maxL nL mc ms n index : Nat} {ret : Option FieldType} {wsC : List Cond} {rmC : Room} {Ts : List Cond} {own C : String} {b : Addr} {As : List Value} {QA : (Nat → Prop) → Array Value → State → Outcome → State → Prop} {wW Wc Wr : va_W}
theorem run_V {ci : Nat} {fs : List Value} {T : u_T} {N : Nat} (F : CallFix p m c cc nL s args Ts own) (hct : Ct l D y wsC rmC (.ref b :: As) Wc tys QA mc ms) (cw : CallW R s args own C index y bytes maxL ret wsC rmC mc ms n) (hN : NL s) (hK : va_K D vwCl tys s) (hP : va_P D vwCl wW H) (hD : va_D A wW) (isC : List Nat) (hC : isC.map (fun i => wW[i]?) = Wc.map some) (hnd : va_nd isC = true) (q0 : Nat) (he : wW[q0]? = some (b, .inr (ci, fs))) (hcl : vwCl[ci]? = some (C, T, N))
    (hn : As.length = n) (hls : ls.size = nL) (hst : st0 = As.reverse ++ .ref b :: rest) (hW : Nat.ble (rest.map fun v => v.category).sum 8 = true) (hdg : decode cc pc = .ok (.invokevirtual index, 3)) (hf : cells + mc ≤ R.cells ∧ slots + ms ≤ R.slots) :
    va_Run p l e R s m args below meth c H locs cells slots mc ms (F0 m pc ls st0) rest (QA (va_A Wc H.size) (Value.ref b :: As).toArray) (va_A Wc H.size) :=
  va_runV (As := As) (rest := rest) F (hct H.size) cw ⟨blindW, va_recv hK hP hcl he, fun U hU hW => ⟨rfl, by rw [hU], by rw [hU]; exact pickP hP isC hC, va_K.moved hW.alike hK, (hD.sub isC hnd hC).weaken (fun _ _ _ _ => trivial), hN.moved hW⟩⟩ rfl hn hls hst (lv_room (Nat.le_of_ble_eq_true hW)) hdg hf
theorem run_S (F : CallFix p m c cc nL s args Ts own) (hct : Ct l D y wsC rmC As Wc tys QA mc ms) (cw : CallB R s args own index y bytes maxL ret wsC rmC mc ms n ∧ (Cond.static y).before args s = true) (hN : NL s) (hK : va_K D vwCl tys s) (hP : va_P D vwCl wW H) (hD : va_D A wW) (isC : List Nat) (hC : isC.map (fun i => wW[i]?) = Wc.map some) (hnd : va_nd isC = true)
    (hn : As.length = n) (hls : ls.size = nL) (hst : st0 = As.reverse ++ rest) (hW : Nat.ble (rest.map fun v => v.category).sum 8 = true) (hdg : decode cc pc = .ok (.invokestatic index, 3)) (hf : cells + mc ≤ R.cells ∧ slots + ms ≤ R.slots) :
    va_Run p l e R s m args below meth c H locs cells slots mc ms (F0 m pc ls st0) rest (QA (va_A Wc H.size) As.toArray) (va_A Wc H.size) :=
  va_runS (As := As) (rest := rest) F (hct H.size) cw ⟨blindW, fun U hU hW => ⟨rfl, by rw [hU], by rw [hU]; exact pickP hP isC hC, va_K.moved hW.alike hK, (hD.sub isC hnd hC).weaken (fun _ _ _ _ => trivial), hN.moved hW⟩⟩ rfl hn hls hst (lv_room (Nat.le_of_ble_eq_true hW)) hdg hf
theorem run_SN {host : String} (F : CallFix p m c cc nL s args Ts own) (hct : Ct l D y wsC rmC As Wc tys QA mc ms) (cw : va_CN R s args own index y host bytes maxL ret wsC rmC mc ms n ∧ (Cond.static y).before args s = true ∧ True) (hN : NL s) (hK : va_K D vwCl tys s) (hP : va_P D vwCl wW H) (hD : va_D A wW) (isC : List Nat) (hC : isC.map (fun i => wW[i]?) = Wc.map some) (hnd : va_nd isC = true)
    (hn : As.length = n) (hls : ls.size = nL) (hst : st0 = As.reverse ++ rest) (hW : Nat.ble (rest.map fun v => v.category).sum 8 = true) (hdg : decode cc pc = .ok (.invokestatic index, 3)) (hf : cells + mc ≤ R.cells ∧ slots + ms ≤ R.slots) :
    va_Run p l e R s m args below meth c H locs cells slots mc ms (F0 m pc ls st0) rest (QA (va_A Wc H.size) As.toArray) (va_A Wc H.size) :=
  va_runSN (As := As) (rest := rest) F (hct H.size) cw ⟨blindW, fun U hU hW => ⟨rfl, by rw [hU], by rw [hU]; exact pickP hP isC hC, va_K.moved hW.alike hK, (hD.sub isC hnd hC).weaken (fun _ _ _ _ => trivial), hN.moved hW⟩⟩ rfl hn hls hst (lv_room (Nat.le_of_ble_eq_true hW)) hdg hf
theorem run_I (F : CallFix p m c cc nL s args Ts own) (hct : Ct l D y wsC rmC (.ref b :: As) Wc tys QA mc ms) (cw : CallB R s args own index y bytes maxL none wsC rmC mc ms n ∧ y.name = "<init>" ∧ (Cond.instanceMethod y).before args s = true) (hN : NL s) (hK : va_K D vwCl tys s) (hP : va_P D vwCl wW H) (hD : va_D A wW) (isC : List Nat) (hC : isC.map (fun i => wW[i]?) = Wc.map some) (hnd : va_nd isC = true)
    (hn : As.length = n) (hls : ls.size = nL) (hst : st0 = As.reverse ++ .ref b :: rest) (hW : Nat.ble (rest.map fun v => v.category).sum 8 = true) (hdg : decode cc pc = .ok (.invokespecial index, 3)) (hf : cells + mc ≤ R.cells ∧ slots + ms ≤ R.slots) :
    va_Run p l e R s m args below meth c H locs cells slots mc ms (F0 m pc ls st0) rest (QA (va_A Wc H.size) (Value.ref b :: As).toArray) (va_A Wc H.size) :=
  va_runI (As := As) (rest := rest) F (hct H.size) cw ⟨blindW, fun U hU hW => ⟨rfl, by rw [hU], by rw [hU]; exact pickP hP isC hC, va_K.moved hW.alike hK, (hD.sub isC hnd hC).weaken (fun _ _ _ _ => trivial), hN.moved hW⟩⟩ rfl hn hls hst (lv_room (Nat.le_of_ble_eq_true hW)) hdg hf
theorem run_IN {host : String} (F : CallFix p m c cc nL s args Ts own) (hct : Ct l D y wsC rmC (.ref b :: As) Wc tys QA mc ms) (cw : va_CN R s args own index y host bytes maxL none wsC rmC mc ms n ∧ y.name = "<init>" ∧ (Cond.instanceMethod y).before args s = true) (hN : NL s) (hK : va_K D vwCl tys s) (hP : va_P D vwCl wW H) (hD : va_D A wW) (isC : List Nat) (hC : isC.map (fun i => wW[i]?) = Wc.map some) (hnd : va_nd isC = true)
    (hn : As.length = n) (hls : ls.size = nL) (hst : st0 = As.reverse ++ .ref b :: rest) (hW : Nat.ble (rest.map fun v => v.category).sum 8 = true) (hdg : decode cc pc = .ok (.invokespecial index, 3)) (hf : cells + mc ≤ R.cells ∧ slots + ms ≤ R.slots) :
    va_Run p l e R s m args below meth c H locs cells slots mc ms (F0 m pc ls st0) rest (QA (va_A Wc H.size) (Value.ref b :: As).toArray) (va_A Wc H.size) :=
  va_runIN (As := As) (rest := rest) F (hct H.size) cw ⟨blindW, fun U hU hW => ⟨rfl, by rw [hU], by rw [hU]; exact pickP hP isC hC, va_K.moved hW.alike hK, (hD.sub isC hnd hC).weaken (fun _ _ _ _ => trivial), hN.moved hW⟩⟩ rfl hn hls hst (lv_room (Nat.le_of_ble_eq_true hW)) hdg hf
variable {S : Type} {a : Array Value}
theorem res_i {post : Int32 → S → Prop} {w2 : S → va_W} (hr : va_Run p l e R s m args below meth c H locs cells slots mc ms (F0 m pc ls st0) rest (va_Qi post (bw D w2 tys (va_A Wc H.size)) (va_A Wc H.size) a) (va_A Wc H.size)) (hP : va_P D vwCl wW H) (hD : va_D A wW) (hS : va_S A s.heap H locs) (hA : ∀ q : Nat, s.heap.size ≤ q → A q) (isC isR : List Nat) (hC : isC.map (fun i => wW[i]?) = Wc.map some) (hR : isR.map (fun i => wW[i]?) = Wr.map some) (hnd : va_nd isR = true) (hdis : ∀ i ∈ isR, i ∉ isC)
    (kk : ∀ (r : Int32) (u : S) (H1 : Heap) (locs1 : List Loc), post r u → va_P D vwCl (Wr ++ w2 u) H1 → va_D A (Wr ++ w2 u) → va_S A s.heap H1 locs1 → W p l e R s m args below meth c H1 locs1 (cells + mc) (slots + ms) Q (F0 m (pc + 3) ls (.int r :: rest))) : W p l e R s m args below meth c H locs cells slots Q (F0 m pc ls st0) := by
  have hFc := va_free (wc := Wc) hD hS hA isC hC
  refine va_calli hr hS (fun q _ h => hFc q h) hFc (fun r u t H1 locs1 ht hvm hw hB hz1 hk1 hS1 => ?_)
  obtain ⟨hP1, hK1, hD1⟩ := hB
  rw [ht] at hP1
  obtain ⟨hP2, hD2⟩ := va_join (wr := Wr) (w1 := w2 u) hP hD isC isR hC hR hnd hdis hk1 hFc hP1 hD1
  exact kk r u H1 locs1 hw hP2 hD2 hS1
theorem res_v {post : S → Prop} {w2 : S → va_W} (hr : va_Run p l e R s m args below meth c H locs cells slots mc ms (F0 m pc ls st0) rest (va_Qv post (bw D w2 tys (va_A Wc H.size)) (va_A Wc H.size) a) (va_A Wc H.size)) (hP : va_P D vwCl wW H) (hD : va_D A wW) (hS : va_S A s.heap H locs) (hA : ∀ q : Nat, s.heap.size ≤ q → A q) (isC isR : List Nat) (hC : isC.map (fun i => wW[i]?) = Wc.map some) (hR : isR.map (fun i => wW[i]?) = Wr.map some) (hnd : va_nd isR = true) (hdis : ∀ i ∈ isR, i ∉ isC)
    (kk : ∀ (u : S) (H1 : Heap) (locs1 : List Loc), post u → va_P D vwCl (Wr ++ w2 u) H1 → va_D A (Wr ++ w2 u) → va_S A s.heap H1 locs1 → W p l e R s m args below meth c H1 locs1 (cells + mc) (slots + ms) Q (F0 m (pc + 3) ls rest)) : W p l e R s m args below meth c H locs cells slots Q (F0 m pc ls st0) := by
  have hFc := va_free (wc := Wc) hD hS hA isC hC
  refine va_callv hr hS (fun q _ h => hFc q h) hFc (fun u t H1 locs1 ht hvm hw hB hz1 hk1 hS1 => ?_)
  obtain ⟨hP1, hK1, hD1⟩ := hB
  rw [ht] at hP1
  obtain ⟨hP2, hD2⟩ := va_join (wr := Wr) (w1 := w2 u) hP hD isC isR hC hR hnd hdis hk1 hFc hP1 hD1
  exact kk u H1 locs1 hw hP2 hD2 hS1
theorem res_r {ad : Nat} {post : S → Prop} {w2 : S → va_W} (hr : va_Run p l e R s m args below meth c H locs cells slots mc ms (F0 m pc ls st0) rest (va_Qr post (fun u a t => a = ad ∧ bw D w2 tys (va_A Wc H.size) u t) (va_A Wc H.size) a) (va_A Wc H.size)) (hP : va_P D vwCl wW H) (hD : va_D A wW) (hS : va_S A s.heap H locs) (hA : ∀ q : Nat, s.heap.size ≤ q → A q) (isC isR : List Nat) (hC : isC.map (fun i => wW[i]?) = Wc.map some) (hR : isR.map (fun i => wW[i]?) = Wr.map some) (hnd : va_nd isR = true) (hdis : ∀ i ∈ isR, i ∉ isC)
    (kk : ∀ (u : S) (H1 : Heap) (locs1 : List Loc), post u → va_P D vwCl (Wr ++ w2 u) H1 → va_D A (Wr ++ w2 u) → va_S A s.heap H1 locs1 → W p l e R s m args below meth c H1 locs1 (cells + mc) (slots + ms) Q (F0 m (pc + 3) ls (.ref ad :: rest))) : W p l e R s m args below meth c H locs cells slots Q (F0 m pc ls st0) := by
  have hFc := va_free (wc := Wc) hD hS hA isC hC
  refine va_callr hr hS (fun q _ h => hFc q h) hFc (fun u ra t H1 locs1 ht hvm hw hB hz1 hk1 hS1 => ?_)
  obtain ⟨rfl, hP1, hK1, hD1⟩ := hB
  rw [ht] at hP1
  obtain ⟨hP2, hD2⟩ := va_join (wr := Wr) (w1 := w2 u) hP hD isC isR hC hR hnd hdis hk1 hFc hP1 hD1
  exact kk u H1 locs1 hw hP2 hD2 hS1
theorem ret_r {post : S → Prop} {w2 : S → va_W} {ad : Nat} {rt : FieldType} (hQ : Q = MQ below (va_Qr post (fun u a t => a = ad ∧ bw D w2 tys A u t) A) args s cells slots A) (hx : p.tables.exec = Jvm.exec) (hb : c.code = cc) (hr : meth.sig.returnType = some rt) (hlocks : meth.locks = false) (hdg : decode cc pc = .ok (.areturn, 1)) (hrt : (∃ n, rt = .object n) ∨ ∃ t, rt = .array t) (hK : va_K D vwCl tys s) (hS : va_S A s.heap H locs) (u : S) (hpost : post u) (hP : va_P D vwCl (w2 u) H) (hD : va_D A (w2 u)) : W p l e R s m args below meth c H locs cells slots Q (F0 m pc ls [.ref ad]) := by
  subst hQ
  exact W.aret (v := .ref ad) hx hb hr hrt (Or.inr ⟨ad, rfl⟩) (fun t ht hW => ⟨⟨u, ad, rfl, hpost, rfl, by rw [ht]; exact hP, va_K.moved hW.alike hK, hD⟩, hS.F ht⟩) hS.2.2 hdg
end OWN
section OWN2
variable {p : Program} {l : Launch} {e : Env} {R : Room} {s : State} {m : MethodId} {args : Array Value} {below : List Frame} {meth : Method} {c : Code} {H : Heap} {locs : List Loc} {cells slots : Nat} {Q : State → Prop} {D : va_G} {tys : List (ClassId × FieldType)} {A : Nat → Prop} {pc : Nat} {ls : Array Slot} {rest : List Value} {cc : ByteArray}
theorem nv_iadd (hx : p.tables.exec = Jvm.exec) (hb : c.code = cc) {a b : Nat} (hdg : decode cc pc = .ok (.iadd, 1)) (k : W p l e R s m args below meth c H locs cells slots Q (F0 m (pc + 1) ls (.int (nI (a + b)) :: rest))) : W p l e R s m args below meth c H locs cells slots Q (F0 m pc ls (.int (nI b) :: .int (nI a) :: rest)) := lv_iadd hx hb hdg (by rw [nI_add]; exact k)
theorem nv_isub (hx : p.tables.exec = Jvm.exec) (hb : c.code = cc) {a b : Nat} (h : b ≤ a) (hdg : decode cc pc = .ok (.isub, 1)) (k : W p l e R s m args below meth c H locs cells slots Q (F0 m (pc + 1) ls (.int (nI (a - b)) :: rest))) : W p l e R s m args below meth c H locs cells slots Q (F0 m pc ls (.int (nI b) :: .int (nI a) :: rest)) := lv_isub hx hb hdg (by rw [pk_sub h]; exact k)
theorem nv_imul (hx : p.tables.exec = Jvm.exec) (hb : c.code = cc) {a b : Nat} (hdg : decode cc pc = .ok (.imul, 1)) (k : W p l e R s m args below meth c H locs cells slots Q (F0 m (pc + 1) ls (.int (nI (a * b)) :: rest))) : W p l e R s m args below meth c H locs cells slots Q (F0 m pc ls (.int (nI b) :: .int (nI a) :: rest)) := lv_imul hx hb hdg (by rw [pk_mul]; exact k)
theorem nv_idiv (hx : p.tables.exec = Jvm.exec) (hb : c.code = cc) {a b : Nat} (ha : a < 2147483648) (h0 : 0 < b) (hb2 : b < 2147483648) (hdg : decode cc pc = .ok (.idiv, 1)) (k : W p l e R s m args below meth c H locs cells slots Q (F0 m (pc + 1) ls (.int (nI (a / b)) :: rest))) : W p l e R s m args below meth c H locs cells slots Q (F0 m pc ls (.int (nI b) :: .int (nI a) :: rest)) := lv_idiv hx hb hdg (nI_ne0 h0 hb2) (by rw [pk_div ha h0 hb2]; exact k)
theorem nv_irem (hx : p.tables.exec = Jvm.exec) (hb : c.code = cc) {a b : Nat} (ha : a < 2147483648) (h0 : 0 < b) (hb2 : b < 2147483648) (hdg : decode cc pc = .ok (.irem, 1)) (k : W p l e R s m args below meth c H locs cells slots Q (F0 m (pc + 1) ls (.int (nI (a % b)) :: rest))) : W p l e R s m args below meth c H locs cells slots Q (F0 m pc ls (.int (nI b) :: .int (nI a) :: rest)) := lv_irem hx hb hdg (nI_ne0 h0 hb2) (by rw [pk_rem ha h0 hb2]; exact k)
theorem nv_icmp_eq (hx : p.tables.exec = Jvm.exec) (hb : c.code = cc) {a b : Nat} {off : Int} {tgt : Nat} (h1 : a < 2147483648) (h2 : b < 2147483648) (hdg : decode cc pc = .ok (.if_icmp .eq off, 3)) (ht : (pc : Int) + off = (tgt : Int)) (kt : a = b → W p l e R s m args below meth c H locs cells slots Q (F0 m tgt ls (rest))) (kf : a ≠ b → W p l e R s m args below meth c H locs cells slots Q (F0 m (pc + 3) ls (rest))) : W p l e R s m args below meth c H locs cells slots Q (F0 m pc ls (.int (nI b) :: .int (nI a) :: rest)) := lv_icmp_eq hx hb hdg ht (fun z => kt (by have z2 := (nI_eq h1 h2).mp z; omega)) (fun z => kf (by have z2 := (not_congr (nI_eq h1 h2)).mp z; omega))
theorem nv_icmp_ne (hx : p.tables.exec = Jvm.exec) (hb : c.code = cc) {a b : Nat} {off : Int} {tgt : Nat} (h1 : a < 2147483648) (h2 : b < 2147483648) (hdg : decode cc pc = .ok (.if_icmp .ne off, 3)) (ht : (pc : Int) + off = (tgt : Int)) (kt : a ≠ b → W p l e R s m args below meth c H locs cells slots Q (F0 m tgt ls (rest))) (kf : a = b → W p l e R s m args below meth c H locs cells slots Q (F0 m (pc + 3) ls (rest))) : W p l e R s m args below meth c H locs cells slots Q (F0 m pc ls (.int (nI b) :: .int (nI a) :: rest)) := lv_icmp_ne hx hb hdg ht (fun z => kt (by have z2 := (not_congr (nI_eq h1 h2)).mp z; omega)) (fun z => kf ((nI_eq h1 h2).mp z))
theorem nv_icmp_lt (hx : p.tables.exec = Jvm.exec) (hb : c.code = cc) {a b : Nat} {off : Int} {tgt : Nat} (h1 : a < 2147483648) (h2 : b < 2147483648) (hdg : decode cc pc = .ok (.if_icmp .lt off, 3)) (ht : (pc : Int) + off = (tgt : Int)) (kt : a < b → W p l e R s m args below meth c H locs cells slots Q (F0 m tgt ls (rest))) (kf : b ≤ a → W p l e R s m args below meth c H locs cells slots Q (F0 m (pc + 3) ls (rest))) : W p l e R s m args below meth c H locs cells slots Q (F0 m pc ls (.int (nI b) :: .int (nI a) :: rest)) := lv_icmp_lt hx hb hdg ht (fun z => kt (by have z2 := (nI_ltI h1 h2).mp z; omega)) (fun z => kf (by have z2 := (not_congr (nI_ltI h1 h2)).mp z; omega))
theorem nv_icmp_ge (hx : p.tables.exec = Jvm.exec) (hb : c.code = cc) {a b : Nat} {off : Int} {tgt : Nat} (h1 : a < 2147483648) (h2 : b < 2147483648) (hdg : decode cc pc = .ok (.if_icmp .ge off, 3)) (ht : (pc : Int) + off = (tgt : Int)) (kt : b ≤ a → W p l e R s m args below meth c H locs cells slots Q (F0 m tgt ls (rest))) (kf : a < b → W p l e R s m args below meth c H locs cells slots Q (F0 m (pc + 3) ls (rest))) : W p l e R s m args below meth c H locs cells slots Q (F0 m pc ls (.int (nI b) :: .int (nI a) :: rest)) := lv_icmp_ge hx hb hdg ht (fun z => kt (by have z2 := (nI_leI h2 h1).mp z; omega)) (fun z => kf (by have z2 := (not_congr (nI_leI h2 h1)).mp z; omega))
theorem nv_icmp_gt (hx : p.tables.exec = Jvm.exec) (hb : c.code = cc) {a b : Nat} {off : Int} {tgt : Nat} (h1 : a < 2147483648) (h2 : b < 2147483648) (hdg : decode cc pc = .ok (.if_icmp .gt off, 3)) (ht : (pc : Int) + off = (tgt : Int)) (kt : b < a → W p l e R s m args below meth c H locs cells slots Q (F0 m tgt ls (rest))) (kf : a ≤ b → W p l e R s m args below meth c H locs cells slots Q (F0 m (pc + 3) ls (rest))) : W p l e R s m args below meth c H locs cells slots Q (F0 m pc ls (.int (nI b) :: .int (nI a) :: rest)) := lv_icmp_gt hx hb hdg ht (fun z => kt (by have z2 := (nI_ltI h2 h1).mp z; omega)) (fun z => kf (by have z2 := (not_congr (nI_ltI h2 h1)).mp z; omega))
theorem nv_icmp_le (hx : p.tables.exec = Jvm.exec) (hb : c.code = cc) {a b : Nat} {off : Int} {tgt : Nat} (h1 : a < 2147483648) (h2 : b < 2147483648) (hdg : decode cc pc = .ok (.if_icmp .le off, 3)) (ht : (pc : Int) + off = (tgt : Int)) (kt : a ≤ b → W p l e R s m args below meth c H locs cells slots Q (F0 m tgt ls (rest))) (kf : b < a → W p l e R s m args below meth c H locs cells slots Q (F0 m (pc + 3) ls (rest))) : W p l e R s m args below meth c H locs cells slots Q (F0 m pc ls (.int (nI b) :: .int (nI a) :: rest)) := lv_icmp_le hx hb hdg ht (fun z => kt (by have z2 := (nI_leI h1 h2).mp z; omega)) (fun z => kf (by have z2 := (not_congr (nI_leI h1 h2)).mp z; omega))
theorem nv_if_eq (hx : p.tables.exec = Jvm.exec) (hb : c.code = cc) {a : Nat} {off : Int} {tgt : Nat} (h1 : a < 2147483648) (hdg : decode cc pc = .ok (.ifCond .eq off, 3)) (ht : (pc : Int) + off = (tgt : Int)) (kt : a = 0 → W p l e R s m args below meth c H locs cells slots Q (F0 m tgt ls (rest))) (kf : a ≠ 0 → W p l e R s m args below meth c H locs cells slots Q (F0 m (pc + 3) ls (rest))) : W p l e R s m args below meth c H locs cells slots Q (F0 m pc ls (.int (nI a) :: rest)) := by
  have z0 : (0 : Nat) < 2147483648 := by decide
  refine lv_if_eq hx hb hdg ht (fun z => kt ?_) (fun z => kf ?_)
  · rw [← nI_0] at z
    have z2 := (nI_eq h1 z0).mp z
    omega
  · rw [← nI_0] at z
    have z2 := (not_congr (nI_eq h1 z0)).mp z
    omega
theorem nv_if_ne (hx : p.tables.exec = Jvm.exec) (hb : c.code = cc) {a : Nat} {off : Int} {tgt : Nat} (h1 : a < 2147483648) (hdg : decode cc pc = .ok (.ifCond .ne off, 3)) (ht : (pc : Int) + off = (tgt : Int)) (kt : a ≠ 0 → W p l e R s m args below meth c H locs cells slots Q (F0 m tgt ls (rest))) (kf : a = 0 → W p l e R s m args below meth c H locs cells slots Q (F0 m (pc + 3) ls (rest))) : W p l e R s m args below meth c H locs cells slots Q (F0 m pc ls (.int (nI a) :: rest)) := by
  have z0 : (0 : Nat) < 2147483648 := by decide
  refine lv_if_ne hx hb hdg ht (fun z => kt ?_) (fun z => kf ?_)
  · rw [← nI_0] at z
    have z2 := (not_congr (nI_eq h1 z0)).mp z
    omega
  · rw [← nI_0] at z
    exact (nI_eq h1 z0).mp z
theorem nv_if_lt (hx : p.tables.exec = Jvm.exec) (hb : c.code = cc) {a : Nat} {off : Int} {tgt : Nat} (h1 : a < 2147483648) (hdg : decode cc pc = .ok (.ifCond .lt off, 3)) (ht : (pc : Int) + off = (tgt : Int)) (kt : a < 0 → W p l e R s m args below meth c H locs cells slots Q (F0 m tgt ls (rest))) (kf : 0 ≤ a → W p l e R s m args below meth c H locs cells slots Q (F0 m (pc + 3) ls (rest))) : W p l e R s m args below meth c H locs cells slots Q (F0 m pc ls (.int (nI a) :: rest)) := by
  have z0 : (0 : Nat) < 2147483648 := by decide
  refine lv_if_lt hx hb hdg ht (fun z => kt ?_) (fun z => kf ?_)
  · rw [← nI_0] at z
    have z2 := (nI_ltI h1 z0).mp z
    omega
  · rw [← nI_0] at z
    have z2 := (not_congr (nI_ltI h1 z0)).mp z
    omega
theorem nv_if_ge (hx : p.tables.exec = Jvm.exec) (hb : c.code = cc) {a : Nat} {off : Int} {tgt : Nat} (h1 : a < 2147483648) (hdg : decode cc pc = .ok (.ifCond .ge off, 3)) (ht : (pc : Int) + off = (tgt : Int)) (kt : 0 ≤ a → W p l e R s m args below meth c H locs cells slots Q (F0 m tgt ls (rest))) (kf : a < 0 → W p l e R s m args below meth c H locs cells slots Q (F0 m (pc + 3) ls (rest))) : W p l e R s m args below meth c H locs cells slots Q (F0 m pc ls (.int (nI a) :: rest)) := by
  have z0 : (0 : Nat) < 2147483648 := by decide
  refine lv_if_ge hx hb hdg ht (fun z => kt ?_) (fun z => kf ?_)
  · rw [← nI_0] at z
    have z2 := (nI_leI z0 h1).mp z
    omega
  · rw [← nI_0] at z
    have z2 := (not_congr (nI_leI z0 h1)).mp z
    omega
theorem nv_if_gt (hx : p.tables.exec = Jvm.exec) (hb : c.code = cc) {a : Nat} {off : Int} {tgt : Nat} (h1 : a < 2147483648) (hdg : decode cc pc = .ok (.ifCond .gt off, 3)) (ht : (pc : Int) + off = (tgt : Int)) (kt : 0 < a → W p l e R s m args below meth c H locs cells slots Q (F0 m tgt ls (rest))) (kf : a ≤ 0 → W p l e R s m args below meth c H locs cells slots Q (F0 m (pc + 3) ls (rest))) : W p l e R s m args below meth c H locs cells slots Q (F0 m pc ls (.int (nI a) :: rest)) := by
  have z0 : (0 : Nat) < 2147483648 := by decide
  refine lv_if_gt hx hb hdg ht (fun z => kt ?_) (fun z => kf ?_)
  · rw [← nI_0] at z
    have z2 := (nI_ltI z0 h1).mp z
    omega
  · rw [← nI_0] at z
    have z2 := (not_congr (nI_ltI z0 h1)).mp z
    omega
theorem nv_if_le (hx : p.tables.exec = Jvm.exec) (hb : c.code = cc) {a : Nat} {off : Int} {tgt : Nat} (h1 : a < 2147483648) (hdg : decode cc pc = .ok (.ifCond .le off, 3)) (ht : (pc : Int) + off = (tgt : Int)) (kt : a ≤ 0 → W p l e R s m args below meth c H locs cells slots Q (F0 m tgt ls (rest))) (kf : 0 < a → W p l e R s m args below meth c H locs cells slots Q (F0 m (pc + 3) ls (rest))) : W p l e R s m args below meth c H locs cells slots Q (F0 m pc ls (.int (nI a) :: rest)) := by
  have z0 : (0 : Nat) < 2147483648 := by decide
  refine lv_if_le hx hb hdg ht (fun z => kt ?_) (fun z => kf ?_)
  · rw [← nI_0] at z
    have z2 := (nI_leI h1 z0).mp z
    omega
  · rw [← nI_0] at z
    have z2 := (not_congr (nI_leI h1 z0)).mp z
    omega
theorem bv_if_eq (hx : p.tables.exec = Jvm.exec) (hb : c.code = cc) {P : Prop} [Decidable P] {off : Int} {tgt : Nat} (hdg : decode cc pc = .ok (.ifCond .eq off, 3)) (ht : (pc : Int) + off = (tgt : Int)) (kt : ¬ P → W p l e R s m args below meth c H locs cells slots Q (F0 m tgt ls (rest))) (kf : P → W p l e R s m args below meth c H locs cells slots Q (F0 m (pc + 3) ls (rest))) : W p l e R s m args below meth c H locs cells slots Q (F0 m pc ls (.int (bI P) :: rest)) := lv_if_eq hx hb hdg ht (fun z => kt (fun h => by rw [bI_t h] at z; exact absurd z (by decide))) (fun z => kf (by by_cases h : P; exact h; exact absurd (bI_f h) z))
theorem bv_if_ne (hx : p.tables.exec = Jvm.exec) (hb : c.code = cc) {P : Prop} [Decidable P] {off : Int} {tgt : Nat} (hdg : decode cc pc = .ok (.ifCond .ne off, 3)) (ht : (pc : Int) + off = (tgt : Int)) (kt : P → W p l e R s m args below meth c H locs cells slots Q (F0 m tgt ls (rest))) (kf : ¬ P → W p l e R s m args below meth c H locs cells slots Q (F0 m (pc + 3) ls (rest))) : W p l e R s m args below meth c H locs cells slots Q (F0 m pc ls (.int (bI P) :: rest)) := lv_if_ne hx hb hdg ht (fun z => kt (by by_cases h : P; exact h; exact absurd (bI_f h) z)) (fun z => kf (fun h => by rw [bI_t h] at z; exact absurd z (by decide)))
theorem nv_top {x y : Int32} (h : x = y) (k : W p l e R s m args below meth c H locs cells slots Q (F0 m pc ls (.int y :: rest))) : W p l e R s m args below meth c H locs cells slots Q (F0 m pc ls (.int x :: rest)) := by rw [h]; exact k
theorem nv_iald (hx : p.tables.exec = Jvm.exec) (hb : c.code = cc) {wW : va_W} {a : Addr} (hK : va_K D vwCl tys s) (hP : va_P D vwCl wW H) (q0 t0 : Nat) {cA : ClassId} {n : Nat} {f : Nat → Int32} (ha : wW[q0]? = some (a, .inl (cA, n, .inl f))) (ht : tys[t0]? = some (cA, .int)) {i : Nat} (hi : i < n) (hn : n < 2147483648) (hdg : decode cc pc = .ok (.iaload, 1)) (k : W p l e R s m args below meth c H locs cells slots Q (F0 m (pc + 1) ls (.int (f i) :: rest))) : W p l e R s m args below meth c H locs cells slots Q (F0 m pc ls (.int (nI i) :: .ref a :: rest)) := va_iald hx hb hK hP q0 t0 ha ht (vp_in_nI hi hn) hdg (by rw [nI_clamp (Nat.lt_trans hi hn)]; exact k)
theorem nv_iast (hx : p.tables.exec = Jvm.exec) (hb : c.code = cc) {wW : va_W} {a : Addr} (hK : va_K D vwCl tys s) (hP : va_P D vwCl wW H) (hD : va_D A wW) (hS : va_S A s.heap H locs) (q0 t0 : Nat) {cA : ClassId} {n : Nat} {f : Nat → Int32} (ha : wW[q0]? = some (a, .inl (cA, n, .inl f))) (ht : tys[t0]? = some (cA, .int)) {i : Nat} {x : Int32} (hi : i < n) (hn : n < 2147483648) (hdg : decode cc pc = .ok (.iastore, 1)) (kk : ∀ (H1 : Heap) (locs1 : List Loc), va_P D vwCl (wW.set q0 (a, .inl (cA, n, .inl (upd f i x)))) H1 → va_D A (wW.set q0 (a, .inl (cA, n, .inl (upd f i x)))) → va_S A s.heap H1 locs1 → W p l e R s m args below meth c H1 locs1 cells slots Q (F0 m (pc + 1) ls rest)) : W p l e R s m args below meth c H locs cells slots Q (F0 m pc ls (.int x :: .int (nI i) :: .ref a :: rest)) := va_iast hx hb hK hP hD hS q0 t0 ha ht (vp_in_nI hi hn) hdg (by rw [nI_clamp (Nat.lt_trans hi hn)]; exact kk)
theorem nv_copy (hx : p.tables.exec = Jvm.exec) (hb : c.code = cc) (hml : c.maxLocals = ls.size) {own : String} {index : Nat} (hown : s.vm.findClass own = some m.cls) (hlink : (Cond.methodLink own index arraycopyName).before args s = true) (hnat : (Cond.native arraycopyName).before args s = true) (hstat : (Cond.static arraycopyName).before args s = true) (hini : (Cond.initialized "java/lang/System").before args s = true) {cyI cyZ : ClassId} {wW : va_W} {a a0 : Addr}
    (hK : va_K D vwCl (tyL cyI cyZ) s) (hP : va_P D vwCl wW H) (hD : va_D A wW) (hS : va_S A s.heap H locs) (q0 q1 : Nat) {n0 n1 : Nat} {f g : Nat → Int32} (ha0 : wW[q0]? = some (a0, .inl (cyI, n0, .inl f))) (ha1 : wW[q1]? = some (a, .inl (cyI, n1, .inl g))) (hz : (0 : Nat) = 0) {sp dp n : Nat} (h4 : sp + n ≤ n0) (h5 : dp + n ≤ n1) (hl0 : n0 < 2147483648) (hl1 : n1 < 2147483648)
    (hframes : 1 ≤ R.frames) (hlocals : (rest.map fun v => v.category).sum + (nativeFrameWords "java/lang/System" "arraycopy" 5 + 11) ≤ R.locals) (hdg : decode cc pc = .ok (.invokestatic index, 3))
    (kk : ∀ (H1 : Heap) (locs1 : List Loc), va_P D vwCl (wW.set q1 (a, .inl (cyI, n1, .inl (va_cpy f g sp dp n)))) H1 → va_D A (wW.set q1 (a, .inl (cyI, n1, .inl (va_cpy f g sp dp n)))) → va_S A s.heap H1 locs1 → W p l e R s m args below meth c H1 locs1 cells slots Q (F0 m (pc + 3) ls rest)) : W p l e R s m args below meth c H locs cells slots Q (F0 m pc ls (.int (nI n) :: .int (nI dp) :: .ref a :: .int (nI sp) :: .ref a0 :: rest)) := by
  have e1 := nI_clamp (n := sp) (by omega)
  have e2 := nI_clamp (n := dp) (by omega)
  have e3 := nI_clamp (n := n) (by omega)
  refine va_copyi hx hb hml hown hlink hnat hstat hini hK hP hD hS q0 q1 0 0 ha0 ha1 rfl rfl rfl (nI_pos (by omega)) (nI_pos (by omega)) (nI_pos (by omega)) (by rw [e1, e3]; exact h4) (by rw [e2, e3]; exact h5) (fun i _ => rfl) hframes hlocals hdg (fun H1 locs1 hP1 hD1 hS1 => ?_)
  rw [e1, e2, e3] at hP1 hD1
  exact kk H1 locs1 hP1 hD1 hS1
theorem tyI_one {cyI cyZ cA : ClassId} (hK : va_K D vwCl (tyL cyI cyZ ++ [(cA, .int)]) s) : cA = cyI := by
  have h0 : s.vm.findClass ("[" ++ FieldType.int.toString) = some cyI := (hK.2 0 (cyI, .int) rfl).2
  have h2 : s.vm.findClass ("[" ++ FieldType.int.toString) = some cA := (hK.2 2 (cA, .int) rfl).2
  exact Option.some.inj (h2.symm.trans h0)
theorem tyZ_one {cyI cyZ cA : ClassId} (hK : va_K D vwCl (tyL cyI cyZ ++ [(cA, .boolean)]) s) : cA = cyZ := by
  have h0 : s.vm.findClass ("[" ++ FieldType.boolean.toString) = some cyZ := (hK.2 1 (cyZ, .boolean) rfl).2
  have h2 : s.vm.findClass ("[" ++ FieldType.boolean.toString) = some cA := (hK.2 2 (cA, .boolean) rfl).2
  exact Option.some.inj (h2.symm.trans h0)
theorem nv_newa (hx : p.tables.exec = Jvm.exec) (hb : c.code = cc) (harr : (Cond.arrayClass .int).before args s = true) {cyI cyZ : ClassId} {wW : va_W} (hK : va_K D vwCl (tyL cyI cyZ) s) (hP : va_P D vwCl wW H) (hD : va_D A wW) (hS : va_S A s.heap H locs) (hA : ∀ q : Nat, s.heap.size ≤ q → A q) {n : Nat} (hn : n < 2147483648) (hby : n * 4 ≤ 536870912) (hcells : cells + 1 ≤ R.cells) (hslots : slots + n ≤ R.slots) (hdg : decode cc pc = .ok (.newarray .int, 2))
    (kk : ∀ (q : Nat) (H1 : Heap), va_P D vwCl (wW ++ [(q, .inl (cyI, n, .inl (fun _ => 0)))]) H1 → va_D A (wW ++ [(q, .inl (cyI, n, .inl (fun _ => 0)))]) → va_S A s.heap H1 locs → W p l e R s m args below meth c H1 locs (cells + 1) (slots + n) Q (F0 m (pc + 2) ls (.ref q :: rest))) : W p l e R s m args below meth c H locs cells slots Q (F0 m pc ls (.int (nI n) :: rest)) := by
  refine va_newa (atype := .int) (ty := .int) hx hb harr rfl hK hP hD hS hA (N' := n) (a0 := (n, .inl (fun _ => 0))) (fun cA => rfl) (nI_pos hn) (nI_clamp hn) hby hcells hslots hdg (fun q cA H1 hK1 hP1 hD1 hS1 => ?_)
  have e := tyI_one hK1
  subst e
  exact kk q H1 hP1 hD1 hS1
theorem nv_newaz (hx : p.tables.exec = Jvm.exec) (hb : c.code = cc) (harr : (Cond.arrayClass .boolean).before args s = true) {cyI cyZ : ClassId} {wW : va_W} (hK : va_K D vwCl (tyL cyI cyZ) s) (hP : va_P D vwCl wW H) (hD : va_D A wW) (hS : va_S A s.heap H locs) (hA : ∀ q : Nat, s.heap.size ≤ q → A q) {n : Nat} (hn : n < 2147483648) (hby : n * 1 ≤ 536870912) (hcells : cells + 1 ≤ R.cells) (hslots : slots + n ≤ R.slots) (hdg : decode cc pc = .ok (.newarray .boolean, 2))
    (kk : ∀ (q : Nat) (H1 : Heap), va_P D vwCl (wW ++ [(q, .inl (cyZ, n, .inl (fun _ => 0)))]) H1 → va_D A (wW ++ [(q, .inl (cyZ, n, .inl (fun _ => 0)))]) → va_S A s.heap H1 locs → W p l e R s m args below meth c H1 locs (cells + 1) (slots + n) Q (F0 m (pc + 2) ls (.ref q :: rest))) : W p l e R s m args below meth c H locs cells slots Q (F0 m pc ls (.int (nI n) :: rest)) := by
  refine va_newa (atype := .boolean) (ty := .boolean) hx hb harr rfl hK hP hD hS hA (N' := n) (a0 := (n, .inl (fun _ => 0))) (fun cA => rfl) (nI_pos hn) (nI_clamp hn) hby hcells hslots hdg (fun q cA H1 hK1 hP1 hD1 hS1 => ?_)
  have e := tyZ_one hK1
  subst e
  exact kk q H1 hP1 hD1 hS1
end OWN2
