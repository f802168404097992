/-! OWN ROWS: the law's arguments by cases; the state at its start; words of the script. -/
theorem ch_cases (k x v : Int32) : chB k x v ∨ (∃ xn : Nat, x = nI xn ∧ xn < 8 ∧ k = nI 0 ∧ (v = 0 ∨ v = 1)) ∨ ∃ xn : Nat, x = nI xn ∧ xn < 8 ∧ k = nI 1 := by
  by_cases h : chB k x v
  · exact Or.inl h
  · obtain ⟨xn, e, hx, h1⟩ := chB_of h
    rcases h1 with ⟨h1, h2⟩ | h1
    · exact Or.inr (Or.inl ⟨xn, e, hx, h1, h2⟩)
    · exact Or.inr (Or.inr ⟨xn, e, hx, h1⟩)
theorem pt_cases (k x : Int32) : (¬ hasI k x) ∨ (∃ xn : Nat, k = nI 0 ∧ x = nI xn ∧ xn < 8) ∨ (∃ xn : Nat, k = nI 1 ∧ x = nI xn ∧ xn < 8) ∨ ∃ xn : Nat, k = nI 2 ∧ x = nI xn ∧ xn < 4 := by
  by_cases h : hasI k x
  · obtain ⟨kn, xn, e1, e2, h1, h2⟩ := hasI_of h
    right
    rcases (show kn = 0 ∨ kn = 1 ∨ kn = 2 by omega) with rfl | rfl | rfl
    · exact Or.inl ⟨xn, e1, e2, h2⟩
    · exact Or.inr (Or.inl ⟨xn, e1, e2, h2⟩)
    · exact Or.inr (Or.inr ⟨xn, e1, e2, h2⟩)
  · exact Or.inl h
theorem ev_cases (k : Int32) : evB k ∨ k = nI 0 ∨ k = nI 1 := by
  by_cases h : evB k
  · exact Or.inl h
  · exact Or.inr (evB_of h)
theorem he_cases (n : Int32) : heB n ∨ ∃ k : Nat, n = nI k ∧ 1 ≤ k ∧ k ≤ 8 := by
  by_cases h : heB n
  · exact Or.inl h
  · exact Or.inr (heB_of h)
theorem pa_cases (n : Int32) : paB n ∨ ∃ k : Nat, n = nI k ∧ 1 ≤ k ∧ k ≤ 100 := by
  by_cases h : paB n
  · exact Or.inl h
  · exact Or.inr (paB_of h)
theorem su_cases (n : Int32) : suB n ∨ ∃ k : Nat, n = nI k ∧ k ≤ 8 := by
  by_cases h : suB n
  · exact Or.inl h
  · exact Or.inr (suB_of h)
theorem se_cases (k : Int32) {n : Nat} (hn : n < 1073741824) : seB n k ∨ k = (-1) ∨ ∃ kn : Nat, k = nI kn ∧ kn < 256 ∧ kn < n := by
  by_cases h : seB n k
  · exact Or.inl h
  · exact Or.inr (seB_of hn h)
theorem to_cases (k : Int32) {tl : List Nat} (ht : tl.length ≤ 10) : toB tl k ∨ ∃ kn : Nat, k = nI kn ∧ kn < tl.length := by
  by_cases h : toB tl k
  · exact Or.inl h
  · exact Or.inr (toB_of (by omega) h)
theorem h01_ch {fb fb2 : Nat → Int32} {x : Nat} {v : Int32} (h : ∀ i, i < 8 → fb i = 0 ∨ fb i = 1) (hv : v = 0 ∨ v = 1) (e : fb2 = (if fb x = v then fb else upd fb x v)) : ∀ i, i < 8 → fb2 i = 0 ∨ fb2 i = 1 := by
  intro i hi
  rw [e]
  by_cases h1 : fb x = v
  · rw [if_pos h1]; exact h i hi
  · rw [if_neg h1]
    by_cases h2 : i = x
    · have e2 : upd fb x v i = v := by simp [upd, h2]
      rw [e2]; exact hv
    · have e2 : upd fb x v i = fb i := by simp [upd, h2]
      rw [e2]; exact h i hi
theorem YY_inj {bg bg2 th th2 cf cf2 ovf ovf2 rst rst2 : Bool} {pa pa2 fm fm2 nu nu2 ou ou2 vl vl2 ag ag2 nb nb2 anb anb2 ana ana2 pn pn2 : Nat} {fl fl2 an an2 : List Nat} {fo fo2 : Nat → Int32} {evb evb2 eva eva2 : List (Nat × Int32)} {st st2 : List Nat × Nat}
    (h : (((bg, pa, fm, fl), ((th, nu, ou, vl, ag), cf, nb, fo, ovf, rst, evb, anb, eva, ana, an, (st.1, st.2, pn))) : YT) = ((bg2, pa2, fm2, fl2), ((th2, nu2, ou2, vl2, ag2), cf2, nb2, fo2, ovf2, rst2, evb2, anb2, eva2, ana2, an2, (st2.1, st2.2, pn2)))) :
    bg = bg2 ∧ pa = pa2 ∧ fm = fm2 ∧ fl = fl2 ∧ th = th2 ∧ nu = nu2 ∧ ou = ou2 ∧ vl = vl2 ∧ ag = ag2 ∧ cf = cf2 ∧ nb = nb2 ∧ fo = fo2 ∧ ovf = ovf2 ∧ rst = rst2 ∧ evb = evb2 ∧ anb = anb2 ∧ eva = eva2 ∧ ana = ana2 ∧ an = an2 ∧ st = st2 ∧ pn = pn2 := by
  simp only [Prod.mk.injEq] at h
  obtain ⟨⟨h1, h2, h3, h4⟩, ⟨h5, h6, h7, h8, h9⟩, h10, h11, h12, h13, h14, h15, h16, h17, h18, h19, h20, h21, h22⟩ := h
  exact ⟨h1, h2, h3, h4, h5, h6, h7, h8, h9, h10, h11, h12, h13, h14, h15, h16, h17, h18, h19, Prod.ext h20 h21, h22⟩
theorem law_in {L j : Nat} (hL : L ≤ 2048) (h1 : 4 * j ≤ L) (h : ¬ nI L - nI 4 < nI (4 * j)) : 4 * j + 4 ≤ L := by
  have e := pk_sub_toInt (a := L) (b := 4) (by omega) (by decide)
  rw [Int32.lt_iff_toInt_lt, e, nI_toInt (by omega)] at h
  omega
theorem okE_z : okE [] 0 (fun _ => 0) (fun _ => 0) := ⟨by decide, by decide, fun j hj => absurd hj (Nat.not_lt_zero _), fun j => by simp⟩
theorem okS_z : okS (([] : List Nat), 0) (fun _ => 0) := ⟨by decide, by decide, fun j hj => absurd hj (Nat.not_lt_zero _)⟩
theorem okMev_z (k : Nat) : okMev k [] 0 (fun _ => 0) (fun _ => 0) (fun _ => 0) (fun _ => 0) := ⟨by decide, by decide, rfl, rfl, fun j hj => absurd hj (Nat.not_lt_zero _), fun j => by simp⟩
theorem loR_z : loR false (fun _ => 0) := ⟨Or.inl rfl, Or.inl rfl, ⟨fun z => absurd z (by decide), fun z => z.elim (fun y => absurd y (by decide)) (fun y => absurd y (by decide))⟩⟩
theorem selR_z : selR false 0 0 0 0 (-1) 0 0 0 0 := ⟨Or.inr ⟨rfl, rfl⟩, ⟨by decide, by decide, by decide, by decide⟩, by decide, by decide, by decide, by decide⟩
theorem cfR_z : cfR false 0 (-1) := ⟨Or.inr ⟨rfl, rfl⟩, by decide⟩
theorem mOK_z : mOK ((false, 0, 0, 0, 0), false, 0, (fun _ => 0), false, true, [], 0, [], 0, [], ([], 0, 0)) (fun _ => 0) (fun _ => 0) (fun _ => 0) (fun _ => 0) (fun _ => 0) (fun _ => 0) (fun _ => 0) (-1) (-1) 0 0 0 0 := ⟨⟨okB_nil (by decide) _, by decide⟩, okMev_z 0, okMev_z 1, loR_z, selR_z, cfR_z, okS_z, rfl, by decide⟩
theorem arr_of {args : Array Value} {s : State} {ty : FieldType} (h : (Cond.arrayClass ty).before args s = true) : ∃ cA : ClassId, ArrOfT s cA ty ∧ s.vm.findClass ("[" ++ ty.toString) = some cA := by
  obtain ⟨cB, kB, comp, h1, h2, h3⟩ := Cond.arrayClass_spec h
  exact ⟨cB, fun n z => ⟨fun k h => (by cases h), kB, h2, comp, h3⟩, h1⟩
theorem nv_newaJ {p : Program} {l : Launch} {e : Env} {R : Room} {s : State} {m : MethodId} {args : Array Value} {below : List Frame} {meth : Method} {c : Code} {H : Heap} {locs : List Loc} {cells slots : Nat} {Q : State → Prop} {D : va_G} {A : Nat → Prop} {pc : Nat} {ls : Array Slot} {rest : List Value} {cc : ByteArray} (hx : p.tables.exec = Jvm.exec) (hb : c.code = cc) (harr : (Cond.arrayClass .long).before args s = true) {cyI cyZ cyJ : ClassId} {wW : va_W} (hK : va_K D vwCl (tyJ cyI cyZ cyJ) s) (hP : va_P D vwCl wW H) (hD : va_D A wW) (hS : va_S A s.heap H locs) (hA : ∀ q : Nat, s.heap.size ≤ q → A q) {n : Nat} (hn : n < 2147483648) (hby : n * 8 ≤ 536870912) (hcells : cells + 1 ≤ R.cells) (hslots : slots + n ≤ R.slots) (hdg : decode cc pc = .ok (.newarray .long, 2))
    (kk : ∀ (q : Nat) (H1 : Heap), va_P D vwCl (wW ++ [(q, .inl (cyJ, n, .inr (.inl (fun _ => 0))))]) H1 → va_D A (wW ++ [(q, .inl (cyJ, n, .inr (.inl (fun _ => 0))))]) → va_S A s.heap H1 locs → W p l e R s m args below meth c H1 locs (cells + 1) (slots + n) Q (F0 m (pc + 2) ls (.ref q :: rest))) : W p l e R s m args below meth c H locs cells slots Q (F0 m pc ls (.int (nI n) :: rest)) := by
  refine va_newa (atype := .long) (ty := .long) hx hb harr rfl hK hP hD hS hA (N' := n) (a0 := (n, .inr (.inl (fun _ => 0)))) (fun cA => rfl) (nI_pos hn) (nI_clamp hn) hby hcells hslots hdg (fun q cA H1 hK1 hP1 hD1 hS1 => ?_)
  have h0 : s.vm.findClass ("[" ++ FieldType.long.toString) = some cyJ := (hK1.2 2 (cyJ, .long) rfl).2
  have h2 : s.vm.findClass ("[" ++ FieldType.long.toString) = some cA := (hK1.2 3 (cA, .long) rfl).2
  have e : cA = cyJ := Option.some.inj (h2.symm.trans h0)
  subst e
  exact kk q H1 hP1 hD1 hS1
theorem nv_topl {p : Program} {l : Launch} {e : Env} {R : Room} {s : State} {m : MethodId} {args : Array Value} {below : List Frame} {meth : Method} {c : Code} {H : Heap} {locs : List Loc} {cells slots : Nat} {Q : State → Prop} {pc : Nat} {ls : Array Slot} {rest : List Value} {x y : Int64} (h : x = y) (k : W p l e R s m args below meth c H locs cells slots Q (F0 m pc ls (.long y :: rest))) : W p l e R s m args below meth c H locs cells slots Q (F0 m pc ls (.long x :: rest)) := by rw [h]; exact k
