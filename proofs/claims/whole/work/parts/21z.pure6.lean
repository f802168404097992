/-! OWN ROWS: what requests do. -/
theorem bI_dec (P : Prop) [Decidable P] : bI (decide P = true) = bI P := bI_congr decide_eq_true_iff
def cfS (cf : Bool) (nb nr : Nat) (ovf : Bool) (evb : List (Nat × Int32)) (anb : Nat) (eva : List (Nat × Int32)) (ana : Nat) : Bool × Bool × List (Nat × Int32) × Nat × List (Nat × Int32) × Nat := if cf = true ∧ nr = nb then (false, false, evb.drop anb, 0, eva.drop ana, 0) else (cf, ovf, evb, anb, eva, ana)
theorem cfS_n {cf : Bool} {nb nr : Nat} {ovf : Bool} {evb eva : List (Nat × Int32)} {anb ana : Nat} (h : ¬ (cf = true ∧ nr = nb)) : cfS cf nb nr ovf evb anb eva ana = (cf, ovf, evb, anb, eva, ana) := if_neg h
theorem cfS_y {cf : Bool} {nb nr : Nat} {ovf : Bool} {evb eva : List (Nat × Int32)} {anb ana : Nat} (h : cf = true) (h2 : nr = nb) : cfS cf nb nr ovf evb anb eva ana = (false, false, evb.drop anb, anb - anb, eva.drop ana, ana - ana) := by
  unfold cfS
  rw [if_pos ⟨h, h2⟩, Nat.sub_self, Nat.sub_self]
def cpA (an : List Nat) (nr sg anb ana : Nat) (evb eva : List (Nat × Int32)) (rst ovf : Bool) : List Nat := (((an.set 0 (192 + nr + (if 0 < anb ∨ 0 < ana then 32 else 0))).set 1 129).set 2 ((if 0 < evb.length then 2 else 0) + (if 0 < eva.length then 4 else 0) + (if rst = true then 128 else 0))).set 3 (sg + (if ovf = true then 8 else 0))
theorem cpA_y {an : List Nat} {nr sg anb ana : Nat} {evb eva : List (Nat × Int32)} {rst ovf : Bool} (h : 0 < anb ∨ 0 < ana) : cpA an nr sg anb ana evb eva rst ovf = (((an.set 0 (192 + nr + 32)).set 1 129).set 2 ((if 0 < evb.length then 2 else 0) + (if 0 < eva.length then 4 else 0) + (if rst = true then 128 else 0))).set 3 (sg + (if ovf = true then 8 else 0)) := by unfold cpA; rw [if_pos h]
theorem cpA_n {an : List Nat} {nr sg anb ana : Nat} {evb eva : List (Nat × Int32)} {rst ovf : Bool} (h : ¬ (0 < anb ∨ 0 < ana)) : cpA an nr sg anb ana evb eva rst ovf = (((an.set 0 (192 + nr + 0)).set 1 129).set 2 ((if 0 < evb.length then 2 else 0) + (if 0 < eva.length then 4 else 0) + (if rst = true then 128 else 0))).set 3 (sg + (if ovf = true then 8 else 0)) := by unfold cpA; rw [if_neg h]
abbrev wrP (rq : List Nat) : Prop := rq.length = 8 ∧ rq.getD 2 0 = 80 ∧ rq.getD 3 0 = 1 ∧ rq.getD 4 0 = 0 ∧ rq.getD 5 0 = 7 ∧ rq.getD 6 0 = 7 ∧ rq.getD 7 0 = 0
abbrev cmP (rq : List Nat) : Prop := rq.length = 8 ∧ rq.getD 2 0 = 12 ∧ rq.getD 3 0 = 1 ∧ rq.getD 4 0 = 23 ∧ rq.getD 5 0 = 1
theorem stSel_le (th : Bool) (nu ou vl ag fn nb x v : Nat) : stSel th nu ou vl ag fn nb x v ≤ 4 := by
  unfold stSel
  repeat' split
  all_goals omega
theorem stSel_x {th : Bool} {nu ou vl ag fn nb x v : Nat} (h : stSel th nu ou vl ag fn nb x v = 0) : x < 4 := by
  unfold stSel at h
  split at h
  · omega
  · omega
abbrev Sel5 : Type := Bool × Nat × Nat × Nat × Nat
def cmS (rq : List Nat) (fn nr : Nat) (S : Sel5) (fo : Nat → Int32) (an : List Nat) : Nat × Sel5 × (Nat → Int32) × List Nat :=
  if cmP rq then (0, (if stSel S.1 S.2.1 S.2.2.1 S.2.2.2.1 S.2.2.2.2 fn nr (rq.getD 6 0) (rq.getD 7 0) = 0 ∧ fn = 3 then (true, nr, rq.getD 6 0, rq.getD 7 0, 0) else (false, S.2.1, S.2.2.1, S.2.2.2.1, S.2.2.2.2)), (if stSel S.1 S.2.1 S.2.2.1 S.2.2.2.1 S.2.2.2.2 fn nr (rq.getD 6 0) (rq.getD 7 0) = 0 ∧ fn ≠ 3 then upd fo (rq.getD 6 0) (if rq.getD 7 0 = 3 then 1 else 0) else fo), an ++ (List.range 6).map (fun z => rq.getD (z + 2) 0) ++ [stSel S.1 S.2.1 S.2.2.1 S.2.2.2.1 S.2.2.2.2 fn nr (rq.getD 6 0) (rq.getD 7 0)])
  else (4, (false, S.2.1, S.2.2.1, S.2.2.2.1, S.2.2.2.2), fo, an)
theorem cmS_y {rq : List Nat} {fn nr : Nat} {th : Bool} {nu ou vl ag : Nat} {fo : Nat → Int32} {an : List Nat} (h : cmP rq) : cmS rq fn nr (th, nu, ou, vl, ag) fo an = (0, (if stSel th nu ou vl ag fn nr (rq.getD 6 0) (rq.getD 7 0) = 0 ∧ fn = 3 then (true, nr, rq.getD 6 0, rq.getD 7 0, 0) else (false, nu, ou, vl, ag)), (if stSel th nu ou vl ag fn nr (rq.getD 6 0) (rq.getD 7 0) = 0 ∧ fn ≠ 3 then upd fo (rq.getD 6 0) (if rq.getD 7 0 = 3 then 1 else 0) else fo), an ++ (List.range 6).map (fun z => rq.getD (z + 2) 0) ++ [stSel th nu ou vl ag fn nr (rq.getD 6 0) (rq.getD 7 0)]) := if_pos h
theorem cmS_n {rq : List Nat} {fn nr : Nat} {th : Bool} {nu ou vl ag : Nat} {fo : Nat → Int32} {an : List Nat} (h : ¬ cmP rq) : cmS rq fn nr (th, nu, ou, vl, ag) fo an = (4, (false, nu, ou, vl, ag), fo, an) := if_neg h
