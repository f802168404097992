/-! OWN ROWS: the law from its entry; then the end as the skeleton has it, with the launch without stack traces handed down. -/
set_option maxRecDepth 100000 in
theorem nest_in : ∀ q ∈ nestQ, Cond.methodLinkNest q.1 q.2.1 q.2.2.1 q.2.2.2 ∈ tables_1 := by
  intro q hq
  simp only [nestQ, List.mem_cons, List.not_mem_nil, or_false] at hq
  rcases hq with rfl | rfl | rfl | rfl | rfl | rfl | rfl | rfl | rfl | rfl | rfl | rfl | rfl
  · exact List.mem_of_getElem? (i := 79) rfl
  · exact List.mem_of_getElem? (i := 118) rfl
  · exact List.mem_of_getElem? (i := 139) rfl
  · exact List.mem_of_getElem? (i := 192) rfl
  · exact List.mem_of_getElem? (i := 216) rfl
  · exact List.mem_of_getElem? (i := 227) rfl
  · exact List.mem_of_getElem? (i := 31) rfl
  · exact List.mem_of_getElem? (i := 37) rfl
  · exact List.mem_of_getElem? (i := 98) rfl
  · exact List.mem_of_getElem? (i := 759) rfl
  · exact List.mem_of_getElem? (i := 147) rfl
  · exact List.mem_of_getElem? (i := 154) rfl
  · exact List.mem_of_getElem? (i := 197) rfl
theorem str_of {args : Array Value} {s : State} {own : String} {k : Nat} (h : (Cond.exactly (.string own k) "java/lang/String").before args s = true) : ∃ a : Nat, (Term.string own k).eval args s none [] s = some (.ref a) := by
  obtain ⟨a, c, cell, k, h1, -⟩ := Cond.exactly_spec h
  exact ⟨a, h1⟩
def R_law : String := "OutStationLaw"
def lw_P (b : Addr) (xs : List Int32) (args : Array Value) (s : State) : Prop := args = #[.ref b] ∧ s.IntsAt b xs ∧ xs.length ≤ 2048 ∧ (Jvm.Cond.and given_1 narrow_1).before args s = true
def lw_Q (_ : Array Value) (s : State) (o : Outcome) (t : State) : Prop := o = .returned (some (.int 1)) ∧ Framed s o t [] 611914 7260363
def lw_Z (below : List Frame) (a : Array Value) (s : State) : State → Prop := fun t => ∃ o, t.status = .running ∧ Ended t below o ∧ lw_Q a s o t
/-- the law's own end, with 1 on the stack, nothing written that was there before, its room as the claim has it -/
theorem lw_ret {p : Program} {l : Launch} {e : Env} {s : State} {m : MethodId} {below : List Frame} {meth : Method} {c : Code} {b : Nat} (hx : p.tables.exec = Jvm.exec) (hb : c.code = code) (hr : meth.sig.returnType = ret) (hlocks : meth.locks = false) {pc : Nat} {H : Heap} {ls : Array Slot} (hdg : decode code pc = .ok (.ireturn, 1)) : W p l e room_1 s m #[Value.ref b] below meth c H [] 611914 7260363 (lw_Z below #[Value.ref b] s) (F0 m pc ls [.int 1]) := by
  intro T hT X
  obtain ⟨fs, hret, hrun, hended, hW, hframe⟩ := X.leave (v := some (.int 1)) (hlocks := hlocks) (fun h => by rw [hr] at h; cases h)
  have hmeth' : T.vm.method? m = some meth := X.method'
  refine ⟨T.setFrames fs, ?_, .returned (some (.int 1)), hrun, hended, rfl, ⟨_, rfl⟩, hW, hframe⟩
  jvm_step X.here [X.here.top, hx, hb, hdg, hmeth', hr, ret, narrow_b1]
  (try refine ⟨rfl, ?_⟩); (try refine ⟨rfl, ?_⟩)
  first | (intro acts; rw [hret _ acts rfl rfl rfl]) | rw [hret _ _ rfl rfl rfl]
  exact Steps.refl _
/-- what holds at the law's entry: the machine, the code, the tables' words (any of lw_tbl by 'hts w (by decide +kernel)'), the script of L ints xs at the cell b, what the Statement gives of the start (any of its parts by flat_of_before) -/
def lw_At (p : Program) (s : State) (m : MethodId) (meth : Method) (c : Code) (b L : Nat) (xs : Nat → Int32) : Prop :=
  p.tables.exec = Jvm.exec ∧ c.code = code ∧ meth.sig.returnType = ret ∧ c.maxLocals = 7 ∧ s.vm.findClass R_law = some m.cls ∧ (∀ w ∈ lw_tbl, w.before #[Value.ref b] s = true) ∧ va_X b L xs s s.heap ∧ b < s.heap.size ∧ meth.locks = false ∧ (Jvm.Cond.and given_1 narrow_1).before #[Value.ref b] s = true
set_option maxHeartbeats 4000000 in
set_option maxRecDepth 100000 in
theorem whole_start {p : Program} {e : Env} {s : State} {m : MethodId} {below : List Frame} {meth : Method} {c : Code} (l : Launch) (hl9 : l.stackTraces = false) {b L : Nat} {xs : Nat → Int32} (hL : L ≤ 2048) (C0 : lw_At p s m meth c b L xs) : W p l e room_1 s m #[Value.ref b] below meth c s.heap [] 0 0 (lw_Z below #[Value.ref b] s) (entryFrame m ([Value.ref b] : List Value).toArray 7) := by
  obtain ⟨hx, hb, hr, hml, hown, hts0, hX, hbl, hlocks, hgv⟩ := id C0
  have hts : ∀ w ∈ wsL_law, w.before #[Value.ref b] s = true := fun w h => hts0 w (wsL_law_in w h)
  obtain ⟨c0, iS0, hKn0⟩ := u_known (C := RX0) (T := TX0) (N := 2) (n := 2) hts0 inX0 (hts0 (.instantiable RX0 2) (List.mem_append_right _ (List.mem_of_getElem? (i := 84) rfl)))
  obtain ⟨c1, iS1, hKn1⟩ := u_known (C := RX1) (T := TX1) (N := 4) (n := 4) hts0 inX1 (hts0 (.instantiable RX1 4) (List.mem_append_right _ (List.mem_of_getElem? (i := 36) rfl)))
  obtain ⟨c2, iS2, hKn2⟩ := u_known (C := RX2) (T := TX2) (N := 7) (n := 7) hts0 inX2 (hts0 (.instantiable RX2 7) (List.mem_append_right _ (List.mem_of_getElem? (i := 30) rfl)))
  obtain ⟨c3, iS3, hKn3⟩ := u_known (C := RX3) (T := TX3) (N := 3) (n := 3) hts0 inX3 (hts0 (.instantiable RX3 3) (List.mem_append_right _ (List.mem_of_getElem? (i := 78) rfl)))
  obtain ⟨c4, iS4, hKn4⟩ := u_known (C := RX4) (T := TX4) (N := 4) (n := 4) hts0 inX4 (hts0 (.instantiable RX4 4) (List.mem_append_right _ (List.mem_of_getElem? (i := 117) rfl)))
  obtain ⟨c5, iS5, hKn5⟩ := u_known (C := RX5) (T := TX5) (N := 1) (n := 1) hts0 inX5 (hts0 (.instantiable RX5 1) (List.mem_append_right _ (List.mem_of_getElem? (i := 215) rfl)))
  obtain ⟨c6, iS6, hKn6⟩ := u_known (C := RX6) (T := TX6) (N := 0) (n := 0) hts0 inX6 (hts0 (.instantiable RX6 0) (List.mem_append_right _ (List.mem_of_getElem? (i := 146) rfl)))
  obtain ⟨c7, iS7, hKn7⟩ := u_known (C := RX7) (T := TX7) (N := 5) (n := 5) hts0 inX7 (hts0 (.instantiable RX7 5) (List.mem_append_right _ (List.mem_of_getElem? (i := 138) rfl)))
  obtain ⟨c8, iS8, hKn8⟩ := u_known (C := RX8) (T := TX8) (N := 5) (n := 5) hts0 inX8 (hts0 (.instantiable RX8 5) (List.mem_append_right _ (List.mem_of_getElem? (i := 153) rfl)))
  obtain ⟨c9, iS9, hKn9⟩ := u_known (C := RX9) (T := TX9) (N := 5) (n := 5) hts0 inX9 (hts0 (.instantiable RX9 5) (List.mem_append_right _ (List.mem_of_getElem? (i := 191) rfl)))
  obtain ⟨c10, iS10, hKn10⟩ := u_known (C := RX10) (T := TX10) (N := 1) (n := 1) hts0 inX10 (hts0 (.instantiable RX10 1) (List.mem_append_right _ (List.mem_of_getElem? (i := 97) rfl)))
  obtain ⟨c11, iS11, hKn11⟩ := u_known (C := RX11) (T := TX11) (N := 7) (n := 7) hts0 inX11 (hts0 (.instantiable RX11 7) (List.mem_append_right _ (List.mem_of_getElem? (i := 22) rfl)))
  obtain ⟨c12, iS12, hKn12⟩ := u_known (C := RX12) (T := TX12) (N := 32) (n := 32) hts0 inX12 (hts0 (.instantiable RX12 32) (List.mem_append_right _ (List.mem_of_getElem? (i := 794) rfl)))
  obtain ⟨D, hKc⟩ : ∃ D : va_G, ∀ (k : Nat) (q : vw_C), vwCl[k]? = some q → u_Kn s q.1 q.2.1 q.2.2 (D.1 k) (D.2 k) := by
    refine ⟨(fun k => if k = 0 then c0 else if k = 1 then c1 else if k = 2 then c2 else if k = 3 then c3 else if k = 4 then c4 else if k = 5 then c5 else if k = 6 then c6 else if k = 7 then c7 else if k = 8 then c8 else if k = 9 then c9 else if k = 10 then c10 else if k = 11 then c11 else c12, fun k => if k = 0 then iS0 else if k = 1 then iS1 else if k = 2 then iS2 else if k = 3 then iS3 else if k = 4 then iS4 else if k = 5 then iS5 else if k = 6 then iS6 else if k = 7 then iS7 else if k = 8 then iS8 else if k = 9 then iS9 else if k = 10 then iS10 else if k = 11 then iS11 else iS12), ?_⟩
    intro k q hq
    match k, hq with
    | 0, hq => cases hq; exact hKn0
    | 1, hq => cases hq; exact hKn1
    | 2, hq => cases hq; exact hKn2
    | 3, hq => cases hq; exact hKn3
    | 4, hq => cases hq; exact hKn4
    | 5, hq => cases hq; exact hKn5
    | 6, hq => cases hq; exact hKn6
    | 7, hq => cases hq; exact hKn7
    | 8, hq => cases hq; exact hKn8
    | 9, hq => cases hq; exact hKn9
    | 10, hq => cases hq; exact hKn10
    | 11, hq => cases hq; exact hKn11
    | 12, hq => cases hq; exact hKn12
    | k + 13, hq => simp [vwCl] at hq
  obtain ⟨cyI, aI1, aI2⟩ := arr_of (ty := .int) (hts0 (.arrayClass .int) (List.mem_append_right _ (List.mem_of_getElem? (i := 54) rfl)))
  obtain ⟨cyZ, aZ1, aZ2⟩ := arr_of (ty := .boolean) (hts0 (.arrayClass .boolean) (List.mem_append_right _ (List.mem_of_getElem? (i := 896) rfl)))
  obtain ⟨cyJ, aJ1, aJ2⟩ := arr_of (ty := .long) (hts0 (.arrayClass .long) (List.mem_append_right _ (List.mem_of_getElem? (i := 1043) rfl)))
  have hK : va_K D vwCl (tyJ cyI cyZ cyJ) s := ⟨hKc, fun k q hk => by
    match k, hk with
    | 0, hk => cases hk; exact ⟨aI1, aI2⟩
    | 1, hk => cases hk; exact ⟨aZ1, aZ2⟩
    | 2, hk => cases hk; exact ⟨aJ1, aJ2⟩
    | k + 3, hk => simp at hk⟩
  have hN : NL s := fun q hq => va_Nw.of rfl (hts0 _ (List.mem_append_right _ (nest_in q hq)))
  have hfl := flat_of_before _ hgv
  obtain ⟨sa64, hs64⟩ := str_of (own := RX11) (k := 64) (hfl (.exactly (.string "OutStation" 64) "java/lang/String") (by decide +kernel))
  have hR64 : vk_R RX11 64 "no such point" sa64 s := vk_R.of (hts0 (.stringRef "OutStation" 64 "no such point") (List.mem_append_right _ (List.mem_of_getElem? (i := 302) rfl))) hs64
  obtain ⟨sa69, hs69⟩ := str_of (own := RX11) (k := 69) (hfl (.exactly (.string "OutStation" 69) "java/lang/String") (by decide +kernel))
  have hR69 : vk_R RX11 69 "no value of a binary point" sa69 s := vk_R.of (hts0 (.stringRef "OutStation" 69 "no value of a binary point") (List.mem_append_right _ (List.mem_of_getElem? (i := 329) rfl))) hs69
  obtain ⟨sa79, hs79⟩ := str_of (own := RX11) (k := 79) (hfl (.exactly (.string "OutStation" 79) "java/lang/String") (by decide +kernel))
  have hR79 : vk_R RX11 79 "no such kind" sa79 s := vk_R.of (hts0 (.stringRef "OutStation" 79 "no such kind") (List.mem_append_right _ (List.mem_of_getElem? (i := 383) rfl))) hs79
  obtain ⟨sa91, hs91⟩ := str_of (own := RX11) (k := 91) (hfl (.exactly (.string "OutStation" 91) "java/lang/String") (by decide +kernel))
  have hR91 : vk_R RX11 91 "not 1 to 8 bytes" sa91 s := vk_R.of (hts0 (.stringRef "OutStation" 91 "not 1 to 8 bytes") (List.mem_append_right _ (List.mem_of_getElem? (i := 396) rfl))) hs91
  obtain ⟨sa135, hs135⟩ := str_of (own := RX11) (k := 135) (hfl (.exactly (.string "OutStation" 135) "java/lang/String") (by decide +kernel))
  have hR135 : vk_R RX11 135 "not 1 to 100 ticks" sa135 s := vk_R.of (hts0 (.stringRef "OutStation" 135 "not 1 to 100 ticks") (List.mem_append_right _ (List.mem_of_getElem? (i := 689) rfl))) hs135
  obtain ⟨sa149, hs149⟩ := str_of (own := RX11) (k := 149) (hfl (.exactly (.string "OutStation" 149) "java/lang/String") (by decide +kernel))
  have hR149 : vk_R RX11 149 "no such byte was sent" sa149 s := vk_R.of (hts0 (.stringRef "OutStation" 149 "no such byte was sent") (List.mem_append_right _ (List.mem_of_getElem? (i := 724) rfl))) hs149
  obtain ⟨sa156, hs156⟩ := str_of (own := RX11) (k := 156) (hfl (.exactly (.string "OutStation" 156) "java/lang/String") (by decide +kernel))
  have hR156 : vk_R RX11 156 "not 0 to 8 bytes" sa156 s := vk_R.of (hts0 (.stringRef "OutStation" 156 "not 0 to 8 bytes") (List.mem_append_right _ (List.mem_of_getElem? (i := 743) rfl))) hs156
  obtain ⟨sa175, hs175⟩ := str_of (own := RX11) (k := 175) (hfl (.exactly (.string "OutStation" 175) "java/lang/String") (by decide +kernel))
  have hR175 : vk_R RX11 175 "no such byte was told" sa175 s := vk_R.of (hts0 (.stringRef "OutStation" 175 "no such byte was told") (List.mem_append_right _ (List.mem_of_getElem? (i := 791) rfl))) hs175
  have hXF : XF (fun q : Nat => s.heap.size ≤ q) s s.heap := by
    refine ⟨fun q hq => ?_, fun y hy => ?_, fun q hq => ?_, vx_Zqof (A := fun q : Nat => s.heap.size ≤ q) (hts0 (.laysStatic "java/lang/Throwable" "UNASSIGNED_STACK" "[Ljava/lang/StackTraceElement;") (List.mem_append_right _ (List.mem_of_getElem? (i := 289) rfl))) (hts0 (.initialized "java/lang/Throwable") (List.mem_append_right _ (List.mem_of_getElem? (i := 14) rfl))) (hfl (.isRef (.static "java/lang/Throwable" "UNASSIGNED_STACK" "[Ljava/lang/StackTraceElement;")) (by decide +kernel)) (fun a h9 => Nat.not_le.mpr h9), vx_Zqof (A := fun q : Nat => s.heap.size ≤ q) (hts0 (.laysStatic "java/lang/Throwable" "SUPPRESSED_SENTINEL" "Ljava/util/List;") (List.mem_append_right _ (List.mem_of_getElem? (i := 291) rfl))) (hts0 (.initialized "java/lang/Throwable") (List.mem_append_right _ (List.mem_of_getElem? (i := 14) rfl))) (hfl (.isRef (.static "java/lang/Throwable" "SUPPRESSED_SENTINEL" "Ljava/util/List;")) (by decide +kernel)) (fun a h9 => Nat.not_le.mpr h9)⟩
    · simp only [xfC, List.mem_cons, List.not_mem_nil, or_false] at hq
      rcases hq with rfl | rfl
      · exact va_Nw.of rfl (hts0 (.castable "java/lang/IllegalArgumentException" "java/lang/IllegalArgumentException") (List.mem_append_right _ (List.mem_of_getElem? (i := 264) rfl)))
      · exact va_Nw.of rfl (hts0 (.castable "java/lang/IndexOutOfBoundsException" "java/lang/IndexOutOfBoundsException") (List.mem_append_right _ (List.mem_of_getElem? (i := 717) rfl)))
    · simp only [xfD, List.mem_cons, List.not_mem_nil, or_false] at hy
      rcases hy with rfl | rfl | rfl
      · exact va_Nw.of rfl (hts0 (.declares ⟨"java/lang/RuntimeException", "<init>", "(Ljava/lang/String;)V"⟩) (List.mem_append_right _ (List.mem_of_getElem? (i := 266) rfl)))
      · exact va_Nw.of rfl (hts0 (.declares ⟨"java/lang/Exception", "<init>", "(Ljava/lang/String;)V"⟩) (List.mem_append_right _ (List.mem_of_getElem? (i := 268) rfl)))
      · exact va_Nw.of rfl (hts0 (.declares ⟨"java/lang/Throwable", "<init>", "(Ljava/lang/String;)V"⟩) (List.mem_append_right _ (List.mem_of_getElem? (i := 270) rfl)))
    · simp only [xfQ, List.mem_cons, List.not_mem_nil, or_false] at hq
      rcases hq with rfl | rfl | rfl | rfl | rfl | rfl | rfl | rfl
      · exact ⟨sa64, hR64⟩
      · exact ⟨sa69, hR69⟩
      · exact ⟨sa79, hR79⟩
      · exact ⟨sa91, hR91⟩
      · exact ⟨sa135, hR135⟩
      · exact ⟨sa149, hR149⟩
      · exact ⟨sa156, hR156⟩
      · exact ⟨sa175, hR175⟩
  have hl := lv_entry ([.ref b]) (n := 7) (Nat.le_of_ble_eq_true rfl)
  rw [lg_entry_eq]
  generalize (lg_sl ([.ref b]) ++ List.replicate (7 - (lg_sl ([.ref b])).length) Slot.unset).toArray = ls at hl ⊢
  have hl : lv_has ls 7 [(0, .ref b)] := hl
  refine law_start (D := D) (A := fun q : Nat => s.heap.size ≤ q) (cyI := cyI) (cyZ := cyZ) (cyJ := cyJ) (L := L) (xs := xs) ⟨hx, hb, hml, hown, hts, hX, hbl, Nat.not_le.mpr hbl, fun _ h => h, hN, hK, hXF, hl9, hL⟩ ?_ (fun k q h => by simp at h) ⟨fun i j p q h => by simp at h, fun k q h => by simp at h⟩ va_S.rf hl
  intro H locs ls k n hS hk hn
  refine lv_iconst (v := 1) hx hb dL_law_726 (by decide) ?_
  refine va_forget (fun q hq => hS.2.2 q hq) ?_
  refine W.widen (k := 611914) (n := 7260363) hk hn ?_
  exact lw_ret hx hb hr hlocks dL_law_727
set_option maxHeartbeats 4000000 in
theorem lw_walk (l : Launch) (hl9 : l.stackTraces = false) (b : Addr) (xs : List Int32) : MetFree l x (headSpec (Jvm.Cond.code x code maxLocals ret :: tables_1) room_1) (lw_P b xs) (fun _ _ _ _ _ => True) lw_Q := by
  refine MetFree.of_bodyS (code := code) (maxLocals := maxLocals) (ret := ret) (by decide) ?_ ?_
  · intro args s m h hn
    obtain ⟨meth, c, h1, h2, h3, h4, h5, h6, -, -⟩ := Cond.code_spec hn (atoms_spec (ws := Jvm.Cond.code x code maxLocals ret :: tables_1) h _ List.mem_cons_self)
    exact ⟨meth, c, h1, h2, h3, h4, h5, h6⟩
  · intro p e s m args below meth c s₁ B hml0 hP _
    obtain ⟨rfl, hx, hbd, hgv⟩ := hP
    obtain ⟨scr, harrAt, hlist, hof, hsmall⟩ := hx
    obtain ⟨hcb, hkn, -, -⟩ := State.arrayAt?_spec harrAt
    have hown : s.vm.findClass R_law = some m.cls := findClass_of_methodNamed B.named
    have hts0 : ∀ c ∈ (Jvm.Cond.code x code maxLocals ret :: tables_1), c.before #[Value.ref b] s = true := atoms_spec (ws := Jvm.Cond.code x code maxLocals ret :: tables_1) B.pre
    have hts : ∀ w ∈ lw_tbl, w.before #[Value.ref b] s = true := k2_hts_sels lw_privs (fun w hw => hts0 w (List.mem_cons_of_mem _ hw)) lw_privs_ok
    have hml : c.maxLocals = 7 := B.maxLocals_eq (hts0 _ List.mem_cons_self)
    have X₀ : Stand p l e room_1 s m #[Value.ref b] below meth c s₁ [] 0 0 := Stand.of_body B
    have hh0 : s₁.heap = s.heap := by rw [B.state]; rfl
    have hsz : scr.slots.size = xs.length := by rw [← Array.length_toList, hlist, List.length_map]
    have hval : ∀ j : Nat, j < xs.length → scr.slots[j]? = some (.int (xs.getD j 0)) := fun j hj => by
      rw [← Array.getElem?_toList, hlist]
      simp [hj]
    have hbl : b < s.heap.size := (Array.getElem?_eq_some_iff.mp hcb).1
    have hX : va_X b xs.length (fun j => xs.getD j 0) s s.heap := ⟨scr, hcb, hof, hkn, hsz, hval⟩
    have K : W p l e room_1 s m #[Value.ref b] below meth c s₁.heap [] 0 0 (lw_Z below #[Value.ref b] s) (entryFrame m ([Value.ref b] : List Value).toArray 7) := by
      rw [hh0]
      exact whole_start l hl9 hbd ⟨B.exec, B.bytes, B.returns, hml, hown, hts, hX, hbl, B.notSynchronized, hgv⟩
    obtain ⟨t, a1, o, b1, b2, b3⟩ := K s₁ rfl X₀
    exact ⟨t, o, a1, b1, b2, b3⟩
theorem lw_pre_spec {args : Array Value} {s : State} (h : (Jvm.Cond.and given_1 narrow_1).before args s = true) (hr : rest_1_c.before args s = true) : ∃ (b : Addr) (xs : List Int32), lw_P b xs args s := by
  have hs := flat_of_before _ h
  have hq := flat_of_before _ hr
  have hc : (Cond.count 1).before args s = true := hs _ (by decide +kernel)
  have harr : (Cond.arrayOf (.arg 0) .int).before args s = true := hs _ (by decide +kernel)
  have hle : (Cond.le (.length (.arg 0)) (.int 2048)).before args s = true := hs _ (by decide +kernel)
  have hlen : (Cond.isInt (.length (.arg 0))).before args s = true := hq _ (by decide +kernel)
  have hall : (Cond.all (.arg 0) (.isInt (.elem (.arg 0) (.index 0)))).before args s = true := hq _ (by decide +kernel)
  obtain ⟨b, xs, hb, hx⟩ := State.ints_of_pre rfl harr hlen hall
  have hsm : xs.length < 2 ^ 31 := hx.choose_spec.2.2.2
  have hev : (Term.length (.arg 0)).eval args s none [] s = some (.int xs.length.toInt32) := hx.length_eval hb
  have hv := Cond.le_ints hev (show (Term.int 2048).eval args s none [] s = some (.int 2048) from rfl)
  have hd : xs.length.toInt32 ≤ 2048 := by
    simpa [Cond.before, Cond.holds, hv] using hle
  have hN : xs.length ≤ 2048 := (Int32.ofNat_le_ofNat hsm (by decide)).mp (show Int32.ofNat xs.length ≤ Int32.ofNat 2048 from hd)
  exact ⟨b, xs, Cond.one_arg hc (show args[0]? = some (.ref b) from hb), hx, hN, h⟩
theorem lw_comes (l : Launch) (hl9 : l.stackTraces = false) : Comes l x (Jvm.Cond.code x code maxLocals ret :: tables_1) room_1 (fun tb e args s => Calls_1 tb e args s ∧ rest_1 tb e args s ∧ Pre_1 tb e args s)
    (fun _ _ args s o t => lw_Q args s o t) := by
  intro p e ha hc hk s m args below hf hfit hheap happ hpre
  obtain ⟨b, xs, hP⟩ := lw_pre_spec hpre.2.2 hpre.2.1
  obtain ⟨k, o, h1, h2, h3, hQ⟩ := lw_walk l hl9 b xs p e ha hc hk s m args below hf ((Spec.applies_iff_loose hf).mp happ).1 hP trivial
  exact ⟨k, o, h1, h2, h3, hQ⟩
theorem lw_frame {s t : State} {o : Outcome} {args : Array Value} (h : Framed s o t [] 611914 7260363) :
    Framed s o t (fieldLocs frame_1_writes args s ++ arrayLocs frame_1_arrays args s ++ staticLocs frame_1_statics s) 611914 7260363 := h
theorem lw_limb (L : Cond) (hL : ∀ (args : Array Value) (s t : State), L.after args s (.returned (some (.int 1))) t = true) :
    ArmFor flags0 classFile x code maxLocals ret World_1 tables_1 room_1 Calls_1 rest_1 Pre_1
      (fun tb e a s o t => postC L tb e a s o t ∧ Framed s o t (fieldLocs frame_1_writes a s ++ arrayLocs frame_1_arrays a s ++ staticLocs frame_1_statics s) 611914 7260363) := by
  intro l hfl _ _ p e ha hc hk s m args below hf hfit hheap happ hpre
  have hl9 : l.stackTraces = false := by unfold Launch.stackTraces; rw [hfl]; decide
  obtain ⟨k, o, h1, h2, h3, rfl, hF⟩ := lw_comes l hl9 p e ha hc hk s m args below hf hfit hheap happ hpre
  exact ⟨k, _, h1, h2, h3, hL args s _, lw_frame hF⟩
theorem i_vc : Claimed_1_1 ∧ Claimed_1_2 := ⟨lw_limb limb_1_1 (fun args s t => by simp [limb_1_1, Cond.after, Cond.holds, Cond.value]), lw_limb limb_1_2 (fun args s t => Cond.after_iff.mpr (by
  first | (rw [show limb_1_2 = Cond.eq .result (.int 1) from rfl, Cond.eq_ints (x := 1) (y := 1) rfl rfl]; simp; done) | (simp [limb_1_2, Cond.value, Term.eval]; done)))⟩
