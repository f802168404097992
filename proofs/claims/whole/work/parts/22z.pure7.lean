/-! OWN ROWS: a request as a whole. -/
theorem sub192 {x : Int32} {b : Nat} (h : x = nI b - nI 192) (hx : ¬ x < 0) (hb : b < 1073741824) : 192 ≤ b ∧ x = nI (b - 192) := by
  by_cases h1 : 192 ≤ b
  · exact ⟨h1, by rw [h, pk_sub h1]⟩
  · exact absurd (by rw [h]; exact pk_sneg (by decide) (by omega)) hx
theorem sub192n {x : Int32} {b : Nat} (h : x = nI b - nI 192) (hx : x < 0) (hb : b < 1073741824) : b < 192 := by
  by_cases h1 : 192 ≤ b
  · rw [h, pk_sub h1] at hx
    exact absurd hx (nI_pos (by omega))
  · omega
theorem okE_0 {evs : List (Nat × Int32)} {ans : Nat} {fp fv : Nat → Int32} (h : okE evs ans fp fv) : okE evs 0 fp fv := ⟨h.1, Nat.zero_le _, h.2.2⟩
theorem gpL_len (k : Nat) (g : Nat → Int32) (x0 x1 : Nat) (an : List Nat) : an.length ≤ (gpL k g x0 x1 an).length := by
  unfold gpL
  split
  · exact Nat.le_refl _
  · simp only [List.length_append]; omega
theorem geL_len (k w mo : Nat) (evs : List (Nat × Int32)) (ans : Nat) (an : List Nat) : an.length ≤ (geL k w mo evs ans an).length := by
  unfold geL
  split
  · exact Nat.le_refl _
  · simp only [List.length_append]; omega
theorem rdH_len (fb fa : Nat → Int32) (evb eva : List (Nat × Int32)) (rq : List Nat) (a0 : Nat) (S : List Nat × Nat × Nat) : S.1.length ≤ (rdH fb fa evb eva rq a0 S).2.1.length := by
  unfold rdH
  split
  · split
    · exact gpL_len _ _ _ _ _
    · exact Nat.le_refl _
  · split
    · split
      · exact gpL_len _ _ _ _ _
      · exact Nat.le_refl _
    · split
      · split
        · exact Nat.le_refl _
        · exact Nat.le_trans (gpL_len _ _ _ _ _) (gpL_len _ _ _ _ _)
      · split
        · split
          · exact geL_len _ _ _ _ _ _
          · exact Nat.le_refl _
        · split
          · split
            · exact geL_len _ _ _ _ _ _
            · exact Nat.le_refl _
          · exact Nat.le_refl _
theorem rdA_len (fb fa : Nat → Int32) (evb eva : List (Nat × Int32)) (rq : List Nat) : ∀ (n a0 : Nat) (S : List Nat × Nat × Nat), S.1.length ≤ (rdA fb fa evb eva rq n a0 S).2.1.length
  | 0, _, _ => Nat.le_refl _
  | n + 1, a0, S => by
    by_cases h : a0 < rq.length
    · by_cases h3 : rq.length < a0 + 3
      · rw [rdA_short h h3]; exact Nat.le_refl _
      · by_cases h0 : (rdH fb fa evb eva rq a0 S).1 = 0
        · rw [rdA_go h h3 h0]; exact Nat.le_trans (rdH_len fb fa evb eva rq a0 S) (rdA_len fb fa evb eva rq n _ _)
        · rw [rdA_stop h h3 h0]; exact rdH_len fb fa evb eva rq a0 S
    · rw [rdA_end (by omega)]; exact Nat.le_refl _
theorem rdA_sg (fb fa : Nat → Int32) (evb eva : List (Nat × Int32)) (rq : List Nat) : ∀ (n a0 : Nat) (S : List Nat × Nat × Nat), (rdA fb fa evb eva rq n a0 S).1 ≤ 4
  | 0, _, _ => Nat.zero_le _
  | n + 1, a0, S => by
    by_cases h : a0 < rq.length
    · by_cases h3 : rq.length < a0 + 3
      · rw [rdA_short h h3]; exact Nat.le_refl _
      · by_cases h0 : (rdH fb fa evb eva rq a0 S).1 = 0
        · rw [rdA_go h h3 h0]; exact rdA_sg fb fa evb eva rq n _ _
        · rw [rdA_stop h h3 h0]; exact rdH_sg (x := (rdH fb fa evb eva rq a0 S).2) (S := S) rfl
    · rw [rdA_end (by omega)]; exact Nat.zero_le _
def mdS (fb fa : Nat → Int32) (rq : List Nat) (fn nr : Nat) (S : Sel5) (fo : Nat → Int32) (rst : Bool) (evb eva : List (Nat × Int32)) : Nat × Sel5 × (Nat → Int32) × Bool × Nat × Nat × List Nat :=
  if fn = 1 then ((rdA fb fa evb eva rq 60 2 ([0, 0, 0, 0], 0, 0)).1, (false, S.2), fo, rst, (rdA fb fa evb eva rq 60 2 ([0, 0, 0, 0], 0, 0)).2.2.1, (rdA fb fa evb eva rq 60 2 ([0, 0, 0, 0], 0, 0)).2.2.2, (rdA fb fa evb eva rq 60 2 ([0, 0, 0, 0], 0, 0)).2.1)
  else if fn = 2 then ((if wrP rq then 0 else 4), (false, S.2), fo, (if wrP rq then false else rst), 0, 0, [0, 0, 0, 0])
  else if fn = 3 ∨ fn = 4 ∨ fn = 5 then ((cmS rq fn nr ((if fn = 3 ∨ fn = 4 then S.1 else false), S.2) fo [0, 0, 0, 0]).1, (cmS rq fn nr ((if fn = 3 ∨ fn = 4 then S.1 else false), S.2) fo [0, 0, 0, 0]).2.1, (cmS rq fn nr ((if fn = 3 ∨ fn = 4 then S.1 else false), S.2) fo [0, 0, 0, 0]).2.2.1, rst, 0, 0, (cmS rq fn nr ((if fn = 3 ∨ fn = 4 then S.1 else false), S.2) fo [0, 0, 0, 0]).2.2.2)
  else (1, (false, S.2), fo, rst, 0, 0, [0, 0, 0, 0])
section MD
variable {fb fa fo : Nat → Int32} {rq : List Nat} {fn nr nu ou vl ag : Nat} {th th1 rst : Bool} {evb eva : List (Nat × Int32)}
theorem mdS_1 {sg : Nat} {an2 : List Nat} {anb2 ana2 : Nat} (h : fn = 1) (ht : th1 = (if fn = 3 ∨ fn = 4 then th else false)) (hr : (sg, an2, anb2, ana2) = rdA fb fa evb eva rq 60 2 ([0, 0, 0, 0], 0, 0)) : (sg, (th1, nu, ou, vl, ag), fo, rst, anb2, ana2, an2) = mdS fb fa rq fn nr (th, nu, ou, vl, ag) fo rst evb eva := by
  unfold mdS
  rw [if_pos h, ← hr, ht, if_neg (by omega)]
theorem mdS_2 {sg : Nat} {rst2 : Bool} (h : fn = 2) (ht : th1 = (if fn = 3 ∨ fn = 4 then th else false)) (h1 : sg = (if wrP rq then 0 else 4)) (h2 : rst2 = (if wrP rq then false else rst)) : (sg, (th1, nu, ou, vl, ag), fo, rst2, 0, 0, [0, 0, 0, 0]) = mdS fb fa rq fn nr (th, nu, ou, vl, ag) fo rst evb eva := by
  unfold mdS
  rw [if_neg (by omega), if_pos h, ht, if_neg (show ¬ (fn = 3 ∨ fn = 4) by omega), h1, h2]
theorem mdS_3 {sg : Nat} {S2 : Sel5} {fo2 : Nat → Int32} {an2 : List Nat} (h : fn = 3 ∨ fn = 4 ∨ fn = 5) (ht : th1 = (if fn = 3 ∨ fn = 4 then th else false)) (hr : (sg, S2, fo2, an2) = cmS rq fn nr (th1, nu, ou, vl, ag) fo [0, 0, 0, 0]) : (sg, S2, fo2, rst, 0, 0, an2) = mdS fb fa rq fn nr (th, nu, ou, vl, ag) fo rst evb eva := by
  unfold mdS
  rw [if_neg (by omega), if_neg (by omega), if_pos h]
  show _ = ((cmS rq fn nr ((if fn = 3 ∨ fn = 4 then th else false), nu, ou, vl, ag) fo [0, 0, 0, 0]).1, (cmS rq fn nr ((if fn = 3 ∨ fn = 4 then th else false), nu, ou, vl, ag) fo [0, 0, 0, 0]).2.1, (cmS rq fn nr ((if fn = 3 ∨ fn = 4 then th else false), nu, ou, vl, ag) fo [0, 0, 0, 0]).2.2.1, rst, 0, 0, (cmS rq fn nr ((if fn = 3 ∨ fn = 4 then th else false), nu, ou, vl, ag) fo [0, 0, 0, 0]).2.2.2)
  rw [← ht, ← hr]
theorem mdS_o (h : ¬ fn = 1 ∧ ¬ fn = 2 ∧ ¬ (fn = 3 ∨ fn = 4 ∨ fn = 5)) (ht : th1 = (if fn = 3 ∨ fn = 4 then th else false)) : (1, (th1, nu, ou, vl, ag), fo, rst, 0, 0, [0, 0, 0, 0]) = mdS fb fa rq fn nr (th, nu, ou, vl, ag) fo rst evb eva := by
  unfold mdS
  rw [if_neg h.1, if_neg h.2.1, if_neg h.2.2, ht, if_neg (by omega)]
theorem mdS_all {S : Sel5} : (mdS fb fa rq fn nr S fo rst evb eva).1 < 8 ∧ 4 ≤ (mdS fb fa rq fn nr S fo rst evb eva).2.2.2.2.2.2.length := by
  unfold mdS
  split
  · exact ⟨Nat.lt_of_le_of_lt (rdA_sg fb fa evb eva rq 60 2 _) (by decide), rdA_len fb fa evb eva rq 60 2 ([0, 0, 0, 0], 0, 0)⟩
  · split
    · refine ⟨?_, Nat.le_refl 4⟩
      show (if wrP rq then 0 else 4) < 8
      split <;> decide
    · split
      · unfold cmS
        split
        · exact ⟨(show (0 : Nat) < 8 by decide), by simp⟩
        · exact ⟨(show (4 : Nat) < 8 by decide), Nat.le_refl 4⟩
      · exact ⟨(show (1 : Nat) < 8 by decide), Nat.le_refl 4⟩
theorem mdS_sg {S S2 : Sel5} {sg : Nat} {x : (Nat → Int32) × Bool × Nat × Nat × List Nat} (h : (sg, S2, x) = mdS fb fa rq fn nr S fo rst evb eva) : sg < 8 := by
  have := (mdS_all (fb := fb) (fa := fa) (rq := rq) (fn := fn) (nr := nr) (fo := fo) (rst := rst) (evb := evb) (eva := eva) (S := S)).1
  rw [← h] at this
  exact this
theorem mdS_len {S S2 : Sel5} {sg : Nat} {f2 : Nat → Int32} {r2 : Bool} {a2 b2 : Nat} {an2 : List Nat} (h : (sg, S2, f2, r2, a2, b2, an2) = mdS fb fa rq fn nr S fo rst evb eva) : 4 ≤ an2.length := by
  have := (mdS_all (fb := fb) (fa := fa) (rq := rq) (fn := fn) (nr := nr) (fo := fo) (rst := rst) (evb := evb) (eva := eva) (S := S)).2
  rw [← h] at this
  exact this
abbrev HdT : Type := Bool × Sel5 × Bool × Nat × (Nat → Int32) × Bool × Bool × List (Nat × Int32) × Nat × List (Nat × Int32) × Nat × List Nat
def hdS (fb fa : Nat → Int32) (rq : List Nat) (S : Sel5) (cf : Bool) (nb : Nat) (fo : Nat → Int32) (ovf rst : Bool) (evb : List (Nat × Int32)) (anb : Nat) (eva : List (Nat × Int32)) (ana : Nat) (an : List Nat) : HdT :=
  if 2 ≤ rq.length ∧ 192 ≤ rq.getD 0 0 ∧ rq.getD 0 0 < 208 then
    (if rq.getD 1 0 = 0 then (false, S, (cfS cf nb (rq.getD 0 0 - 192) ovf evb anb eva ana).1, nb, fo, (cfS cf nb (rq.getD 0 0 - 192) ovf evb anb eva ana).2.1, rst, (cfS cf nb (rq.getD 0 0 - 192) ovf evb anb eva ana).2.2.1, (cfS cf nb (rq.getD 0 0 - 192) ovf evb anb eva ana).2.2.2.1, (cfS cf nb (rq.getD 0 0 - 192) ovf evb anb eva ana).2.2.2.2.1, (cfS cf nb (rq.getD 0 0 - 192) ovf evb anb eva ana).2.2.2.2.2, an)
    else (match mdS fb fa rq (rq.getD 1 0) (rq.getD 0 0 - 192) S fo rst evb eva with
      | (sg, S2, fo2, rst2, anb2, ana2, an2) => (true, S2, decide (0 < anb2 ∨ 0 < ana2), rq.getD 0 0 - 192, fo2, ovf, rst2, evb, anb2, eva, ana2, cpA an2 (rq.getD 0 0 - 192) sg anb2 ana2 evb eva rst2 ovf)))
  else (false, S, cf, nb, fo, ovf, rst, evb, anb, eva, ana, an)
variable {S : Sel5} {cf ovf : Bool} {nb anb ana : Nat} {an : List Nat}
theorem hdS_skip (h : ¬ (2 ≤ rq.length ∧ 192 ≤ rq.getD 0 0 ∧ rq.getD 0 0 < 208)) : hdS fb fa rq S cf nb fo ovf rst evb anb eva ana an = (false, S, cf, nb, fo, ovf, rst, evb, anb, eva, ana, an) := if_neg h
theorem hdS_conf {cf2 ovf2 : Bool} {evb2 eva2 : List (Nat × Int32)} {anb2 ana2 : Nat} (h : 2 ≤ rq.length ∧ 192 ≤ rq.getD 0 0 ∧ rq.getD 0 0 < 208) (h0 : rq.getD 1 0 = 0) (hc : (cf2, ovf2, evb2, anb2, eva2, ana2) = cfS cf nb (rq.getD 0 0 - 192) ovf evb anb eva ana) : hdS fb fa rq S cf nb fo ovf rst evb anb eva ana an = (false, S, cf2, nb, fo, ovf2, rst, evb2, anb2, eva2, ana2, an) := by
  unfold hdS
  rw [if_pos h, if_pos h0, ← hc]
theorem hdS_ans {sg : Nat} {S2 : Sel5} {fo2 : Nat → Int32} {rst2 : Bool} {anb2 ana2 : Nat} {an2 : List Nat} (h : 2 ≤ rq.length ∧ 192 ≤ rq.getD 0 0 ∧ rq.getD 0 0 < 208) (h0 : ¬ rq.getD 1 0 = 0) (hm : (sg, S2, fo2, rst2, anb2, ana2, an2) = mdS fb fa rq (rq.getD 1 0) (rq.getD 0 0 - 192) S fo rst evb eva) : hdS fb fa rq S cf nb fo ovf rst evb anb eva ana an = (true, S2, decide (0 < anb2 ∨ 0 < ana2), rq.getD 0 0 - 192, fo2, ovf, rst2, evb, anb2, eva, ana2, cpA an2 (rq.getD 0 0 - 192) sg anb2 ana2 evb eva rst2 ovf) := by
  unfold hdS
  rw [if_pos h, if_neg h0, ← hm]
end MD
