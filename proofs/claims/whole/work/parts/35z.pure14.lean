/-! OWN ROWS: the reference's READ and its commands. -/
section RO
variable {fb fa : Nat → Int32} {evb eva : List (Nat × Int32)} {rq : List Nat} {a0 : Nat} {an : List Nat} {anb ana : Nat}
theorem ro1b {x0 x1 : Nat} (h : rq.getD a0 0 = 1 ∧ rq.getD (a0 + 1) 0 = 2) (hq : rq.getD (a0 + 2) 0 = 0 ∨ rq.getD (a0 + 2) 0 = 6) (hw : a0 + 3 + bbL (rq.getD (a0 + 2) 0) ≤ rq.length) (hx0 : rx0 rq a0 = x0) (hx1 : rx1 rq a0 = x1) (hb : gpBad 0 x0 x1 an) : (4, an, anb, ana) = rdH fb fa evb eva rq a0 (an, anb, ana) := by
  rw [rdH_1 h hq hw, hx0, hx1, if_pos hb, gpL_bad hb]
theorem ro1o {x0 x1 : Nat} (h : rq.getD a0 0 = 1 ∧ rq.getD (a0 + 1) 0 = 2) (hq : rq.getD (a0 + 2) 0 = 0 ∨ rq.getD (a0 + 2) 0 = 6) (hw : a0 + 3 + bbL (rq.getD (a0 + 2) 0) ≤ rq.length) (hx0 : rx0 rq a0 = x0) (hx1 : rx1 rq a0 = x1) (hb : ¬ gpBad 0 x0 x1 an) : (0, an ++ gpHd 0 x0 x1 ++ gpV 0 fb x0 (x1 - x0 + 1), anb, ana) = rdH fb fa evb eva rq a0 (an, anb, ana) := by
  rw [rdH_1 h hq hw, hx0, hx1, if_neg hb, gpL_ok hb]
theorem ro2b {x0 x1 : Nat} (h : rq.getD a0 0 = 30 ∧ rq.getD (a0 + 1) 0 = 1) (hq : rq.getD (a0 + 2) 0 = 0 ∨ rq.getD (a0 + 2) 0 = 6) (hw : a0 + 3 + bbL (rq.getD (a0 + 2) 0) ≤ rq.length) (hx0 : rx0 rq a0 = x0) (hx1 : rx1 rq a0 = x1) (hb : gpBad 1 x0 x1 an) : (4, an, anb, ana) = rdH fb fa evb eva rq a0 (an, anb, ana) := by
  rw [rdH_2 h hq hw, hx0, hx1, if_pos hb, gpL_bad hb]
theorem ro2o {x0 x1 : Nat} (h : rq.getD a0 0 = 30 ∧ rq.getD (a0 + 1) 0 = 1) (hq : rq.getD (a0 + 2) 0 = 0 ∨ rq.getD (a0 + 2) 0 = 6) (hw : a0 + 3 + bbL (rq.getD (a0 + 2) 0) ≤ rq.length) (hx0 : rx0 rq a0 = x0) (hx1 : rx1 rq a0 = x1) (hb : ¬ gpBad 1 x0 x1 an) : (0, an ++ gpHd 1 x0 x1 ++ gpV 1 fa x0 (x1 - x0 + 1), anb, ana) = rdH fb fa evb eva rq a0 (an, anb, ana) := by
  rw [rdH_2 h hq hw, hx0, hx1, if_neg hb, gpL_ok hb]
theorem ro3 (h : rq.getD a0 0 = 60 ∧ rq.getD (a0 + 1) 0 = 1 ∧ rq.getD (a0 + 2) 0 = 6) (hw : ¬ 62 - an.length < 58) : (0, an ++ gpHd 0 0 7 ++ gpV 0 fb 0 (7 - 0 + 1) ++ gpHd 1 0 7 ++ gpV 1 fa 0 (7 - 0 + 1), anb, ana) = rdH fb fa evb eva rq a0 (an, anb, ana) := by
  have h1 : ¬ gpBad 0 0 7 an := by simp only [gpBad, gpWm_0]; omega
  have h2 : ¬ gpBad 1 0 7 (an ++ gpHd 0 0 7 ++ gpV 0 fb 0 (7 - 0 + 1)) := by
    simp only [gpBad, gpWm_1, List.length_append, gpV_len0]
    rw [show (gpHd 0 0 7).length = 5 from rfl]
    omega
  rw [rdH_3 (by omega) (by omega) h hw, gpL_ok h1, if_neg h2, gpL_ok h2]
theorem ro3n (h : rq.getD a0 0 = 60 ∧ rq.getD (a0 + 1) 0 = 1 ∧ rq.getD (a0 + 2) 0 = 6) (hw : 62 - an.length < 58) : (4, an, anb, ana) = rdH fb fa evb eva rq a0 (an, anb, ana) := by
  rw [rdH_3n (by omega) (by omega) h hw]
theorem ro4 {mo : Nat} (h : rq.getD a0 0 = 60 ∧ rq.getD (a0 + 1) 0 = 2) (hq : rq.getD (a0 + 2) 0 = 7 ∨ rq.getD (a0 + 2) 0 = 6) (hw : a0 + 3 + bbL (rq.getD (a0 + 2) 0) ≤ rq.length) (hm : rmo rq a0 = mo) : (0, geL 0 2 mo evb anb an, anb + geN 2 mo evb anb an, ana) = rdH fb fa evb eva rq a0 (an, anb, ana) := by
  rw [rdH_4 (by omega) (by omega) (by omega) h hq hw, hm]
theorem ro5 {mo : Nat} (h : rq.getD a0 0 = 60 ∧ rq.getD (a0 + 1) 0 = 3) (hq : rq.getD (a0 + 2) 0 = 7 ∨ rq.getD (a0 + 2) 0 = 6) (hw : a0 + 3 + bbL (rq.getD (a0 + 2) 0) ≤ rq.length) (hm : rmo rq a0 = mo) : (0, geL 1 6 mo eva ana an, anb, ana + geN 6 mo eva ana an) = rdH fb fa evb eva rq a0 (an, anb, ana) := by
  rw [rdH_5 (by omega) (by omega) (by omega) h hq hw, hm]
end RO
theorem gpL_62 (k : Nat) (hk : k < 2) (g : Nat → Int32) (x0 x1 : Nat) (an : List Nat) (h : an.length ≤ 62) : (gpL k g x0 x1 an).length ≤ 62 := by
  unfold gpL
  split
  · exact h
  · rename_i hb
    rcases (show k = 0 ∨ k = 1 by omega) with rfl | rfl
    · simp only [gpBad, gpWm_0] at hb
      simp only [List.length_append, gpV_len0]
      rw [show (gpHd 0 x0 x1).length = 5 from rfl]
      omega
    · simp only [gpBad, gpWm_1] at hb
      simp only [List.length_append, gpV_len1]
      rw [show (gpHd 1 x0 x1).length = 5 from rfl]
      omega
theorem geL_62a (mo : Nat) (evs : List (Nat × Int32)) (ans : Nat) (an : List Nat) (h : an.length ≤ 62) : (geL 0 2 mo evs ans an).length ≤ 62 := by
  unfold geL
  split
  · exact h
  · rename_i hb
    have hg : geN 2 mo evs ans an = min (min mo (evs.length - ans)) ((62 - an.length - 4) / 2) := rfl
    simp only [List.length_append, List.length_cons, List.length_nil, geV_len0]
    omega
theorem geL_62b (mo : Nat) (evs : List (Nat × Int32)) (ans : Nat) (an : List Nat) (h : an.length ≤ 62) : (geL 1 6 mo evs ans an).length ≤ 62 := by
  unfold geL
  split
  · exact h
  · rename_i hb
    have hg : geN 6 mo evs ans an = min (min mo (evs.length - ans)) ((62 - an.length - 4) / 6) := rfl
    simp only [List.length_append, List.length_cons, List.length_nil, geV_len1]
    omega
theorem rdH_62 {fb fa : Nat → Int32} {evb eva : List (Nat × Int32)} {rq : List Nat} {a0 : Nat} {S : List Nat × Nat × Nat} {sg : Nat} {an2 : List Nat} {x : Nat × Nat} (e : (sg, an2, x) = rdH fb fa evb eva rq a0 S) (h : S.1.length ≤ 62) : an2.length ≤ 62 := by
  have e2 : an2 = (rdH fb fa evb eva rq a0 S).2.1 := by rw [← e]
  rw [e2]
  unfold rdH
  split
  · split
    · exact gpL_62 0 (by decide) _ _ _ _ h
    · exact h
  · split
    · split
      · exact gpL_62 1 (by decide) _ _ _ _ h
      · exact h
    · split
      · split
        · exact h
        · exact gpL_62 1 (by decide) _ _ _ _ (gpL_62 0 (by decide) _ _ _ _ h)
      · split
        · split
          · exact geL_62a _ _ _ _ h
          · exact h
        · split
          · split
            · exact geL_62b _ _ _ _ h
            · exact h
          · exact h
theorem bbL_le (q : Nat) : bbL q ≤ 2 := by unfold bbL; split; exact Nat.le_refl 2; split <;> decide
abbrev knP (g v q : Nat) : Prop := ((g = 1 ∧ v = 2) ∧ (q = 0 ∨ q = 6)) ∨ ((g = 30 ∧ v = 1) ∧ (q = 0 ∨ q = 6)) ∨ (g = 60 ∧ v = 1 ∧ q = 6) ∨ ((g = 60 ∧ v = 2) ∧ (q = 7 ∨ q = 6)) ∨ ((g = 60 ∧ v = 3) ∧ (q = 7 ∨ q = 6))
def knQ (g v q : Nat) : Prop := knP g v q
theorem rd_un {fb fa : Nat → Int32} {evb eva : List (Nat × Int32)} {rq : List Nat} {a0 : Nat} {an : List Nat} {anb ana : Nat} (h : ¬ knQ (rq.getD a0 0) (rq.getD (a0 + 1) 0) (rq.getD (a0 + 2) 0)) : (2, an, anb, ana) = rdH fb fa evb eva rq a0 (an, anb, ana) := by
  unfold knQ at h
  rw [rdH_6 (by omega) (by omega) (by omega) (by omega) (by omega)]
theorem rd_sh {fb fa : Nat → Int32} {evb eva : List (Nat × Int32)} {rq : List Nat} {a0 : Nat} {an : List Nat} {anb ana : Nat} (h : knQ (rq.getD a0 0) (rq.getD (a0 + 1) 0) (rq.getD (a0 + 2) 0)) (h3 : a0 + 3 ≤ rq.length) (hw : ¬ a0 + 3 + bbL (rq.getD (a0 + 2) 0) ≤ rq.length) : (4, an, anb, ana) = rdH fb fa evb eva rq a0 (an, anb, ana) := by
  have h6 : ¬ rq.getD (a0 + 2) 0 = 6 := fun z => by rw [z] at hw; exact hw h3
  rcases h with h | h | h | h | h
  · rw [rdH_1n h.1 h.2 hw]
  · rw [rdH_2n h.1 h.2 hw]
  · exact absurd h.2.2 h6
  · rw [rdH_4n (by omega) (by omega) (by omega) h.1 h.2 hw]
  · rw [rdH_5n (by omega) (by omega) (by omega) h.1 h.2 hw]
def rdF (fb fa : Nat → Int32) (evb eva : List (Nat × Int32)) (rq : List Nat) (sg n a0 : Nat) (S : List Nat × Nat × Nat) : Nat × List Nat × Nat × Nat := if sg = 0 then rdA fb fa evb eva rq n a0 S else (sg, S)
theorem rdF_e {fb fa : Nat → Int32} {evb eva : List (Nat × Int32)} {rq : List Nat} {sg n a0 : Nat} {S : List Nat × Nat × Nat} (h : sg ≠ 0 ∨ rq.length ≤ a0) : rdF fb fa evb eva rq sg n a0 S = (sg, S) := by
  unfold rdF
  split
  · rename_i h0
    rw [rdA_end (h.resolve_left (fun z => z h0)), h0]
  · rfl
theorem rd_step {fb fa : Nat → Int32} {evb eva : List (Nat × Int32)} {rq : List Nat} {sg n a0 b0 : Nat} {S S2 : List Nat × Nat × Nat} (h : a0 < rq.length) (h3 : ¬ rq.length < a0 + 3) (e : (sg, S2) = rdH fb fa evb eva rq a0 S) (hb : b0 = a0 + 3 + bbL (rq.getD (a0 + 2) 0)) : rdF fb fa evb eva rq sg n b0 S2 = rdA fb fa evb eva rq (n + 1) a0 S := by
  have e1 : (rdH fb fa evb eva rq a0 S).1 = sg := by rw [← e]
  unfold rdF
  split
  · rename_i h0
    rw [rdA_go h h3 (by rw [e1, h0]), ← e, hb, Nat.add_assoc]
  · rename_i h0
    rw [rdA_stop h h3 (by rw [e1]; exact h0), ← e]
/-- the reference's selection, and the class's -/
def selR (th : Bool) (nu ou vl ag : Nat) (sl : Int32) (wt bn si ti : Nat) : Prop := ((th = true ∧ sl = nI ou ∧ wt = vl ∧ bn = nu ∧ ag = min (ti - si) 11) ∨ (th = false ∧ sl = (-1))) ∧ (nu < 65536 ∧ ou < 65536 ∧ vl < 65536 ∧ ag < 65536) ∧ wt < 65536 ∧ bn < 65536 ∧ si ≤ ti ∧ ti < 1000000
theorem nI_m1 {n : Nat} (h : n < 65536) : ¬ (-1 : Int32) = nI n := fun z => by
  have h1 : (-1 : Int32).toInt = (nI n).toInt := by rw [z]
  rw [nI_toInt (by omega)] at h1
  have h2 : (-1 : Int32).toInt = -1 := by decide
  omega
theorem selR_f {th : Bool} {nu ou vl ag : Nat} {sl : Int32} {wt bn si ti : Nat} (h : selR th nu ou vl ag sl wt bn si ti) : selR false nu ou vl ag (-1) wt bn si ti := ⟨Or.inr ⟨rfl, rfl⟩, h.2⟩
theorem stS {th : Bool} {nu ou vl ag : Nat} {sl : Int32} {wt bn si ti x v fn nr : Nat} {ot : Bool} (h : selR th nu ou vl ag sl wt bn si ti) (hx : x < 65536) (ho : ot = true ↔ (¬ sl = nI x ∨ ¬ wt = v ∨ ¬ (bn + 1) % 16 = nr)) : stSel th nu ou vl ag fn nr x v = if 4 ≤ x then 4 else if v ≠ 3 ∧ v ≠ 4 then 3 else if fn ≠ 4 then 0 else if ot = true then 2 else if si + 10 < ti then 1 else 0 := by
  unfold stSel
  by_cases h1 : 4 ≤ x
  · rw [if_pos h1, if_pos h1]
  · rw [if_neg h1, if_neg h1]
    by_cases h2 : v ≠ 3 ∧ v ≠ 4
    · rw [if_pos h2, if_pos h2]
    · rw [if_neg h2, if_neg h2]
      by_cases h3 : fn ≠ 4
      · rw [if_pos h3, if_pos h3]
      · rw [if_neg h3, if_neg h3]
        rcases h.1 with ⟨e1, e2, e3, e4, e5⟩ | ⟨e1, e2⟩
        · subst e1
          have hq : ot = true ↔ (true = false ∨ ou ≠ x ∨ vl ≠ v ∨ (nu + 1) % 16 ≠ nr) := by
            rw [ho, e2, e3, e4]
            constructor
            · rintro (z | z | z)
              · exact Or.inr (Or.inl (fun y => z (by rw [y])))
              · exact Or.inr (Or.inr (Or.inl z))
              · exact Or.inr (Or.inr (Or.inr z))
            · rintro (z | z | z | z)
              · exact absurd z (by decide)
              · exact Or.inl (fun y => z (by have hy := congrArg Int32.toInt y; rw [nI_toInt (by have := h.2.1; omega), nI_toInt (by omega)] at hy; omega))
              · exact Or.inr (Or.inl z)
              · exact Or.inr (Or.inr z)
          have hg : 10 < ag ↔ si + 10 < ti := by have := h.2.2.2.2.1; omega
          by_cases h4 : ot = true
          · rw [if_pos h4, if_pos (hq.mp h4)]
          · rw [if_neg h4, if_neg (fun z => h4 (hq.mpr z))]
            by_cases h5 : 10 < ag
            · rw [if_pos h5, if_pos (hg.mp h5)]
            · rw [if_neg h5, if_neg (fun z => h5 (hg.mpr z))]
        · have h4 : ot = true := ho.mpr (Or.inl (by rw [e2]; exact nI_m1 hx))
          rw [if_pos (Or.inl e1), if_pos h4]
theorem stSel_v {th : Bool} {nu ou vl ag fn nb x v : Nat} (h : stSel th nu ou vl ag fn nb x v = 0) : v = 3 ∨ v = 4 := by
  unfold stSel at h
  split at h
  · omega
  · split at h
    · omega
    · omega
theorem selR_y {th : Bool} {nu ou vl ag : Nat} {sl : Int32} {wt bn si ti x v nr : Nat} (h : selR th nu ou vl ag sl wt bn si ti) (hx : x < 256) (hv : v < 256) (hn : nr < 16) : selR true nr x v 0 (nI x) v nr ti ti := ⟨Or.inl ⟨rfl, rfl, rfl, rfl, by omega⟩, ⟨by omega, by omega, by omega, by omega⟩, by omega, by omega, Nat.le_refl _, h.2.2.2.2.2⟩
theorem upd_v {fo : Nat → Int32} {x v : Nat} (h : v = 3 ∨ v = 4) : upd fo x (nI (4 - v)) = upd fo x (if v = 3 then 1 else 0) := by
  rcases h with rfl | rfl <;> rfl
