/-! OWN ROWS: a header of a READ. -/
def rx0 (rq : List Nat) (a0 : Nat) : Nat := if rq.getD (a0 + 2) 0 = 6 then 0 else rq.getD (a0 + 3) 0
def rx1 (rq : List Nat) (a0 : Nat) : Nat := if rq.getD (a0 + 2) 0 = 6 then 7 else rq.getD (a0 + 4) 0
def rmo (rq : List Nat) (a0 : Nat) : Nat := if rq.getD (a0 + 2) 0 = 6 then 6 else rq.getD (a0 + 3) 0
theorem rx0_6 {rq : List Nat} {a0 : Nat} (h : rq.getD (a0 + 2) 0 = 6) : rx0 rq a0 = 0 := if_pos h
theorem rx0_n {rq : List Nat} {a0 : Nat} (h : ¬ rq.getD (a0 + 2) 0 = 6) : rx0 rq a0 = rq.getD (a0 + 3) 0 := if_neg h
theorem rx1_6 {rq : List Nat} {a0 : Nat} (h : rq.getD (a0 + 2) 0 = 6) : rx1 rq a0 = 7 := if_pos h
theorem rx1_n {rq : List Nat} {a0 : Nat} (h : ¬ rq.getD (a0 + 2) 0 = 6) : rx1 rq a0 = rq.getD (a0 + 4) 0 := if_neg h
theorem rmo_6 {rq : List Nat} {a0 : Nat} (h : rq.getD (a0 + 2) 0 = 6) : rmo rq a0 = 6 := if_pos h
theorem rmo_n {rq : List Nat} {a0 : Nat} (h : ¬ rq.getD (a0 + 2) 0 = 6) : rmo rq a0 = rq.getD (a0 + 3) 0 := if_neg h
def rdH (fb fa : Nat → Int32) (evb eva : List (Nat × Int32)) (rq : List Nat) (a0 : Nat) (S : List Nat × Nat × Nat) : Nat × List Nat × Nat × Nat :=
  if ((rq.getD a0 0 = 1 ∧ rq.getD (a0 + 1) 0 = 2) ∧ (rq.getD (a0 + 2) 0 = 0 ∨ rq.getD (a0 + 2) 0 = 6)) then (if (a0 + 3 + bbL (rq.getD (a0 + 2) 0) ≤ rq.length) then (if gpBad 0 (rx0 rq a0) (rx1 rq a0) S.1 then 4 else 0, gpL 0 fb (rx0 rq a0) (rx1 rq a0) S.1, S.2.1, S.2.2) else (4, S.1, S.2.1, S.2.2))
  else if ((rq.getD a0 0 = 30 ∧ rq.getD (a0 + 1) 0 = 1) ∧ (rq.getD (a0 + 2) 0 = 0 ∨ rq.getD (a0 + 2) 0 = 6)) then (if (a0 + 3 + bbL (rq.getD (a0 + 2) 0) ≤ rq.length) then (if gpBad 1 (rx0 rq a0) (rx1 rq a0) S.1 then 4 else 0, gpL 1 fa (rx0 rq a0) (rx1 rq a0) S.1, S.2.1, S.2.2) else (4, S.1, S.2.1, S.2.2))
  else if (rq.getD a0 0 = 60 ∧ rq.getD (a0 + 1) 0 = 1 ∧ rq.getD (a0 + 2) 0 = 6) then (if 62 - S.1.length < 58 then (4, S.1, S.2.1, S.2.2) else (if gpBad 1 0 7 (gpL 0 fb 0 7 S.1) then 4 else 0, gpL 1 fa 0 7 (gpL 0 fb 0 7 S.1), S.2.1, S.2.2))
  else if ((rq.getD a0 0 = 60 ∧ rq.getD (a0 + 1) 0 = 2) ∧ (rq.getD (a0 + 2) 0 = 7 ∨ rq.getD (a0 + 2) 0 = 6)) then (if (a0 + 3 + bbL (rq.getD (a0 + 2) 0) ≤ rq.length) then (0, geL 0 2 (rmo rq a0) evb S.2.1 S.1, S.2.1 + geN 2 (rmo rq a0) evb S.2.1 S.1, S.2.2) else (4, S.1, S.2.1, S.2.2))
  else if ((rq.getD a0 0 = 60 ∧ rq.getD (a0 + 1) 0 = 3) ∧ (rq.getD (a0 + 2) 0 = 7 ∨ rq.getD (a0 + 2) 0 = 6)) then (if (a0 + 3 + bbL (rq.getD (a0 + 2) 0) ≤ rq.length) then (0, geL 1 6 (rmo rq a0) eva S.2.2 S.1, S.2.1, S.2.2 + geN 6 (rmo rq a0) eva S.2.2 S.1) else (4, S.1, S.2.1, S.2.2))
  else (2, S.1, S.2.1, S.2.2)
theorem rdH_1 {fb fa : Nat → Int32} {evb eva : List (Nat × Int32)} {rq : List Nat} {a0 : Nat} {an : List Nat} {anb ana : Nat} (h : (rq.getD a0 0 = 1 ∧ rq.getD (a0 + 1) 0 = 2)) (hq : (rq.getD (a0 + 2) 0 = 0 ∨ rq.getD (a0 + 2) 0 = 6)) (hw : (a0 + 3 + bbL (rq.getD (a0 + 2) 0) ≤ rq.length)) : rdH fb fa evb eva rq a0 (an, anb, ana) = (if gpBad 0 (rx0 rq a0) (rx1 rq a0) an then 4 else 0, gpL 0 fb (rx0 rq a0) (rx1 rq a0) an, anb, ana) := by
  unfold rdH
  rw [if_pos ⟨h, hq⟩, if_pos hw]
theorem rdH_1n {fb fa : Nat → Int32} {evb eva : List (Nat × Int32)} {rq : List Nat} {a0 : Nat} {an : List Nat} {anb ana : Nat} (h : (rq.getD a0 0 = 1 ∧ rq.getD (a0 + 1) 0 = 2)) (hq : (rq.getD (a0 + 2) 0 = 0 ∨ rq.getD (a0 + 2) 0 = 6)) (hw : ¬ (a0 + 3 + bbL (rq.getD (a0 + 2) 0) ≤ rq.length)) : rdH fb fa evb eva rq a0 (an, anb, ana) = (4, an, anb, ana) := by
  unfold rdH
  rw [if_pos ⟨h, hq⟩, if_neg hw]
theorem rdH_2 {fb fa : Nat → Int32} {evb eva : List (Nat × Int32)} {rq : List Nat} {a0 : Nat} {an : List Nat} {anb ana : Nat} (h : (rq.getD a0 0 = 30 ∧ rq.getD (a0 + 1) 0 = 1)) (hq : (rq.getD (a0 + 2) 0 = 0 ∨ rq.getD (a0 + 2) 0 = 6)) (hw : (a0 + 3 + bbL (rq.getD (a0 + 2) 0) ≤ rq.length)) : rdH fb fa evb eva rq a0 (an, anb, ana) = (if gpBad 1 (rx0 rq a0) (rx1 rq a0) an then 4 else 0, gpL 1 fa (rx0 rq a0) (rx1 rq a0) an, anb, ana) := by
  unfold rdH
  rw [if_neg (show ¬ ((rq.getD a0 0 = 1 ∧ rq.getD (a0 + 1) 0 = 2) ∧ (rq.getD (a0 + 2) 0 = 0 ∨ rq.getD (a0 + 2) 0 = 6)) from fun z => by omega), if_pos ⟨h, hq⟩, if_pos hw]
theorem rdH_2n {fb fa : Nat → Int32} {evb eva : List (Nat × Int32)} {rq : List Nat} {a0 : Nat} {an : List Nat} {anb ana : Nat} (h : (rq.getD a0 0 = 30 ∧ rq.getD (a0 + 1) 0 = 1)) (hq : (rq.getD (a0 + 2) 0 = 0 ∨ rq.getD (a0 + 2) 0 = 6)) (hw : ¬ (a0 + 3 + bbL (rq.getD (a0 + 2) 0) ≤ rq.length)) : rdH fb fa evb eva rq a0 (an, anb, ana) = (4, an, anb, ana) := by
  unfold rdH
  rw [if_neg (show ¬ ((rq.getD a0 0 = 1 ∧ rq.getD (a0 + 1) 0 = 2) ∧ (rq.getD (a0 + 2) 0 = 0 ∨ rq.getD (a0 + 2) 0 = 6)) from fun z => by omega), if_pos ⟨h, hq⟩, if_neg hw]
theorem rdH_3 {fb fa : Nat → Int32} {evb eva : List (Nat × Int32)} {rq : List Nat} {a0 : Nat} {an : List Nat} {anb ana : Nat} (n1 : ¬ ((rq.getD a0 0 = 1 ∧ rq.getD (a0 + 1) 0 = 2) ∧ (rq.getD (a0 + 2) 0 = 0 ∨ rq.getD (a0 + 2) 0 = 6))) (n2 : ¬ ((rq.getD a0 0 = 30 ∧ rq.getD (a0 + 1) 0 = 1) ∧ (rq.getD (a0 + 2) 0 = 0 ∨ rq.getD (a0 + 2) 0 = 6))) (h : (rq.getD a0 0 = 60 ∧ rq.getD (a0 + 1) 0 = 1 ∧ rq.getD (a0 + 2) 0 = 6)) (hw : ¬ 62 - an.length < 58) : rdH fb fa evb eva rq a0 (an, anb, ana) = (if gpBad 1 0 7 (gpL 0 fb 0 7 an) then 4 else 0, gpL 1 fa 0 7 (gpL 0 fb 0 7 an), anb, ana) := by
  unfold rdH
  rw [if_neg n1, if_neg n2, if_pos h, if_neg hw]
theorem rdH_3n {fb fa : Nat → Int32} {evb eva : List (Nat × Int32)} {rq : List Nat} {a0 : Nat} {an : List Nat} {anb ana : Nat} (n1 : ¬ ((rq.getD a0 0 = 1 ∧ rq.getD (a0 + 1) 0 = 2) ∧ (rq.getD (a0 + 2) 0 = 0 ∨ rq.getD (a0 + 2) 0 = 6))) (n2 : ¬ ((rq.getD a0 0 = 30 ∧ rq.getD (a0 + 1) 0 = 1) ∧ (rq.getD (a0 + 2) 0 = 0 ∨ rq.getD (a0 + 2) 0 = 6))) (h : (rq.getD a0 0 = 60 ∧ rq.getD (a0 + 1) 0 = 1 ∧ rq.getD (a0 + 2) 0 = 6)) (hw : 62 - an.length < 58) : rdH fb fa evb eva rq a0 (an, anb, ana) = (4, an, anb, ana) := by
  unfold rdH
  rw [if_neg n1, if_neg n2, if_pos h, if_pos hw]
theorem rdH_4 {fb fa : Nat → Int32} {evb eva : List (Nat × Int32)} {rq : List Nat} {a0 : Nat} {an : List Nat} {anb ana : Nat} (n1 : ¬ ((rq.getD a0 0 = 1 ∧ rq.getD (a0 + 1) 0 = 2) ∧ (rq.getD (a0 + 2) 0 = 0 ∨ rq.getD (a0 + 2) 0 = 6))) (n2 : ¬ ((rq.getD a0 0 = 30 ∧ rq.getD (a0 + 1) 0 = 1) ∧ (rq.getD (a0 + 2) 0 = 0 ∨ rq.getD (a0 + 2) 0 = 6))) (n3 : ¬ (rq.getD a0 0 = 60 ∧ rq.getD (a0 + 1) 0 = 1 ∧ rq.getD (a0 + 2) 0 = 6)) (h : (rq.getD a0 0 = 60 ∧ rq.getD (a0 + 1) 0 = 2)) (hq : (rq.getD (a0 + 2) 0 = 7 ∨ rq.getD (a0 + 2) 0 = 6)) (hw : (a0 + 3 + bbL (rq.getD (a0 + 2) 0) ≤ rq.length)) : rdH fb fa evb eva rq a0 (an, anb, ana) = (0, geL 0 2 (rmo rq a0) evb anb an, anb + geN 2 (rmo rq a0) evb anb an, ana) := by
  unfold rdH
  rw [if_neg n1, if_neg n2, if_neg n3, if_pos ⟨h, hq⟩, if_pos hw]
theorem rdH_4n {fb fa : Nat → Int32} {evb eva : List (Nat × Int32)} {rq : List Nat} {a0 : Nat} {an : List Nat} {anb ana : Nat} (n1 : ¬ ((rq.getD a0 0 = 1 ∧ rq.getD (a0 + 1) 0 = 2) ∧ (rq.getD (a0 + 2) 0 = 0 ∨ rq.getD (a0 + 2) 0 = 6))) (n2 : ¬ ((rq.getD a0 0 = 30 ∧ rq.getD (a0 + 1) 0 = 1) ∧ (rq.getD (a0 + 2) 0 = 0 ∨ rq.getD (a0 + 2) 0 = 6))) (n3 : ¬ (rq.getD a0 0 = 60 ∧ rq.getD (a0 + 1) 0 = 1 ∧ rq.getD (a0 + 2) 0 = 6)) (h : (rq.getD a0 0 = 60 ∧ rq.getD (a0 + 1) 0 = 2)) (hq : (rq.getD (a0 + 2) 0 = 7 ∨ rq.getD (a0 + 2) 0 = 6)) (hw : ¬ (a0 + 3 + bbL (rq.getD (a0 + 2) 0) ≤ rq.length)) : rdH fb fa evb eva rq a0 (an, anb, ana) = (4, an, anb, ana) := by
  unfold rdH
  rw [if_neg n1, if_neg n2, if_neg n3, if_pos ⟨h, hq⟩, if_neg hw]
theorem rdH_5 {fb fa : Nat → Int32} {evb eva : List (Nat × Int32)} {rq : List Nat} {a0 : Nat} {an : List Nat} {anb ana : Nat} (n1 : ¬ ((rq.getD a0 0 = 1 ∧ rq.getD (a0 + 1) 0 = 2) ∧ (rq.getD (a0 + 2) 0 = 0 ∨ rq.getD (a0 + 2) 0 = 6))) (n2 : ¬ ((rq.getD a0 0 = 30 ∧ rq.getD (a0 + 1) 0 = 1) ∧ (rq.getD (a0 + 2) 0 = 0 ∨ rq.getD (a0 + 2) 0 = 6))) (n3 : ¬ (rq.getD a0 0 = 60 ∧ rq.getD (a0 + 1) 0 = 1 ∧ rq.getD (a0 + 2) 0 = 6)) (h : (rq.getD a0 0 = 60 ∧ rq.getD (a0 + 1) 0 = 3)) (hq : (rq.getD (a0 + 2) 0 = 7 ∨ rq.getD (a0 + 2) 0 = 6)) (hw : (a0 + 3 + bbL (rq.getD (a0 + 2) 0) ≤ rq.length)) : rdH fb fa evb eva rq a0 (an, anb, ana) = (0, geL 1 6 (rmo rq a0) eva ana an, anb, ana + geN 6 (rmo rq a0) eva ana an) := by
  unfold rdH
  rw [if_neg n1, if_neg n2, if_neg n3, if_neg (show ¬ ((rq.getD a0 0 = 60 ∧ rq.getD (a0 + 1) 0 = 2) ∧ (rq.getD (a0 + 2) 0 = 7 ∨ rq.getD (a0 + 2) 0 = 6)) from fun z => by omega), if_pos ⟨h, hq⟩, if_pos hw]
theorem rdH_5n {fb fa : Nat → Int32} {evb eva : List (Nat × Int32)} {rq : List Nat} {a0 : Nat} {an : List Nat} {anb ana : Nat} (n1 : ¬ ((rq.getD a0 0 = 1 ∧ rq.getD (a0 + 1) 0 = 2) ∧ (rq.getD (a0 + 2) 0 = 0 ∨ rq.getD (a0 + 2) 0 = 6))) (n2 : ¬ ((rq.getD a0 0 = 30 ∧ rq.getD (a0 + 1) 0 = 1) ∧ (rq.getD (a0 + 2) 0 = 0 ∨ rq.getD (a0 + 2) 0 = 6))) (n3 : ¬ (rq.getD a0 0 = 60 ∧ rq.getD (a0 + 1) 0 = 1 ∧ rq.getD (a0 + 2) 0 = 6)) (h : (rq.getD a0 0 = 60 ∧ rq.getD (a0 + 1) 0 = 3)) (hq : (rq.getD (a0 + 2) 0 = 7 ∨ rq.getD (a0 + 2) 0 = 6)) (hw : ¬ (a0 + 3 + bbL (rq.getD (a0 + 2) 0) ≤ rq.length)) : rdH fb fa evb eva rq a0 (an, anb, ana) = (4, an, anb, ana) := by
  unfold rdH
  rw [if_neg n1, if_neg n2, if_neg n3, if_neg (show ¬ ((rq.getD a0 0 = 60 ∧ rq.getD (a0 + 1) 0 = 2) ∧ (rq.getD (a0 + 2) 0 = 7 ∨ rq.getD (a0 + 2) 0 = 6)) from fun z => by omega), if_pos ⟨h, hq⟩, if_neg hw]
theorem rdH_6 {fb fa : Nat → Int32} {evb eva : List (Nat × Int32)} {rq : List Nat} {a0 : Nat} {an : List Nat} {anb ana : Nat} (n1 : ¬ ((rq.getD a0 0 = 1 ∧ rq.getD (a0 + 1) 0 = 2) ∧ (rq.getD (a0 + 2) 0 = 0 ∨ rq.getD (a0 + 2) 0 = 6))) (n2 : ¬ ((rq.getD a0 0 = 30 ∧ rq.getD (a0 + 1) 0 = 1) ∧ (rq.getD (a0 + 2) 0 = 0 ∨ rq.getD (a0 + 2) 0 = 6))) (n3 : ¬ (rq.getD a0 0 = 60 ∧ rq.getD (a0 + 1) 0 = 1 ∧ rq.getD (a0 + 2) 0 = 6)) (n4 : ¬ ((rq.getD a0 0 = 60 ∧ rq.getD (a0 + 1) 0 = 2) ∧ (rq.getD (a0 + 2) 0 = 7 ∨ rq.getD (a0 + 2) 0 = 6))) (n5 : ¬ ((rq.getD a0 0 = 60 ∧ rq.getD (a0 + 1) 0 = 3) ∧ (rq.getD (a0 + 2) 0 = 7 ∨ rq.getD (a0 + 2) 0 = 6))) : rdH fb fa evb eva rq a0 (an, anb, ana) = (2, an, anb, ana) := by
  unfold rdH
  rw [if_neg n1, if_neg n2, if_neg n3, if_neg n4, if_neg n5]
def rdA (fb fa : Nat → Int32) (evb eva : List (Nat × Int32)) (rq : List Nat) : Nat → Nat → List Nat × Nat × Nat → Nat × List Nat × Nat × Nat
  | 0, _, S => (0, S)
  | n + 1, a0, S => if a0 < rq.length then (if rq.length < a0 + 3 then (4, S) else if (rdH fb fa evb eva rq a0 S).1 = 0 then rdA fb fa evb eva rq n (a0 + (3 + bbL (rq.getD (a0 + 2) 0))) (rdH fb fa evb eva rq a0 S).2 else rdH fb fa evb eva rq a0 S) else (0, S)
theorem rdA_end {fb fa : Nat → Int32} {evb eva : List (Nat × Int32)} {rq : List Nat} {n a0 : Nat} {S : List Nat × Nat × Nat} (h : rq.length ≤ a0) : rdA fb fa evb eva rq n a0 S = (0, S) := by
  cases n with
  | zero => rfl
  | succ n => show (if a0 < rq.length then _ else _) = _; rw [if_neg (by omega)]
theorem rdA_short {fb fa : Nat → Int32} {evb eva : List (Nat × Int32)} {rq : List Nat} {n a0 : Nat} {S : List Nat × Nat × Nat} (h : a0 < rq.length) (h3 : rq.length < a0 + 3) : rdA fb fa evb eva rq (n + 1) a0 S = (4, S) := by
  show (if a0 < rq.length then (if rq.length < a0 + 3 then _ else _) else _) = _; rw [if_pos h, if_pos h3]
theorem rdA_stop {fb fa : Nat → Int32} {evb eva : List (Nat × Int32)} {rq : List Nat} {n a0 : Nat} {S : List Nat × Nat × Nat} (h : a0 < rq.length) (h3 : ¬ rq.length < a0 + 3) (h0 : ¬ (rdH fb fa evb eva rq a0 S).1 = 0) : rdA fb fa evb eva rq (n + 1) a0 S = rdH fb fa evb eva rq a0 S := by
  show (if a0 < rq.length then (if rq.length < a0 + 3 then _ else if _ then _ else _) else _) = _; rw [if_pos h, if_neg h3, if_neg h0]
theorem rdA_go {fb fa : Nat → Int32} {evb eva : List (Nat × Int32)} {rq : List Nat} {n a0 : Nat} {S : List Nat × Nat × Nat} (h : a0 < rq.length) (h3 : ¬ rq.length < a0 + 3) (h0 : (rdH fb fa evb eva rq a0 S).1 = 0) : rdA fb fa evb eva rq (n + 1) a0 S = rdA fb fa evb eva rq n (a0 + (3 + bbL (rq.getD (a0 + 2) 0))) (rdH fb fa evb eva rq a0 S).2 := by
  show (if a0 < rq.length then (if rq.length < a0 + 3 then _ else if _ then _ else _) else _) = _; rw [if_pos h, if_neg h3, if_pos h0]
theorem rdH_sg {fb fa : Nat → Int32} {evb eva : List (Nat × Int32)} {rq : List Nat} {a0 : Nat} {S : List Nat × Nat × Nat} {sg : Nat} {x : List Nat × Nat × Nat} (h : (sg, x) = rdH fb fa evb eva rq a0 S) : sg ≤ 4 := by
  have h1 : sg = (rdH fb fa evb eva rq a0 S).1 := congrArg Prod.fst h
  rw [h1]
  unfold rdH
  repeat' split
  all_goals first | exact Nat.le_refl 4 | exact Nat.zero_le 4 | exact (show (2 : Nat) ≤ 4 by decide) | simp
