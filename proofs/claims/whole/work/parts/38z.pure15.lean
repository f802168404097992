/-! OWN ROWS: a whole request, for both. -/
/-- heads of the same length make no difference -/
theorem gpL_hd (k : Nat) (g : Nat → Int32) (x0 x1 : Nat) (h h2 t : List Nat) (hl : h.length = h2.length) : ∃ t2, gpL k g x0 x1 (h ++ t) = h ++ t2 ∧ gpL k g x0 x1 (h2 ++ t) = h2 ++ t2 := by
  unfold gpL
  have e : (h ++ t).length = (h2 ++ t).length := by simp [hl]
  by_cases hb : gpBad k x0 x1 (h ++ t)
  · have hb2 : gpBad k x0 x1 (h2 ++ t) := by unfold gpBad at hb ⊢; rw [← e]; exact hb
    exact ⟨t, by rw [if_pos hb], by rw [if_pos hb2]⟩
  · have hb2 : ¬ gpBad k x0 x1 (h2 ++ t) := by unfold gpBad at hb ⊢; rw [← e]; exact hb
    exact ⟨t ++ gpHd k x0 x1 ++ gpV k g x0 (x1 - x0 + 1), by rw [if_neg hb]; simp only [List.append_assoc], by rw [if_neg hb2]; simp only [List.append_assoc]⟩
theorem gpBad_hd {k x0 x1 : Nat} {h h2 t : List Nat} (hl : h.length = h2.length) : gpBad k x0 x1 (h ++ t) ↔ gpBad k x0 x1 (h2 ++ t) := by
  have e : (h ++ t).length = (h2 ++ t).length := by simp [hl]
  unfold gpBad
  rw [e]
theorem geL_hd (k w mo : Nat) (evs : List (Nat × Int32)) (ans : Nat) (h h2 t : List Nat) (hl : h.length = h2.length) : ∃ t2, geL k w mo evs ans (h ++ t) = h ++ t2 ∧ geL k w mo evs ans (h2 ++ t) = h2 ++ t2 := by
  have e : geN w mo evs ans (h ++ t) = geN w mo evs ans (h2 ++ t) := by unfold geN; simp [hl]
  unfold geL
  rw [e]
  by_cases hb : geN w mo evs ans (h2 ++ t) = 0
  · exact ⟨t, by rw [if_pos hb], by rw [if_pos hb]⟩
  · exact ⟨t ++ [geHd k, 1, 23, geN w mo evs ans (h2 ++ t)] ++ geV k evs ans (geN w mo evs ans (h2 ++ t)), by rw [if_neg hb]; simp only [List.append_assoc], by rw [if_neg hb]; simp only [List.append_assoc]⟩
theorem geN_hd {w mo : Nat} {evs : List (Nat × Int32)} {ans : Nat} {h h2 t : List Nat} (hl : h.length = h2.length) : geN w mo evs ans (h ++ t) = geN w mo evs ans (h2 ++ t) := by unfold geN; simp [hl]
theorem ite_iff {α : Type} {P Q : Prop} [Decidable P] [Decidable Q] (h : P ↔ Q) (a b : α) : (if P then a else b) = (if Q then a else b) := by
  by_cases p : P
  · rw [if_pos p, if_pos (h.mp p)]
  · rw [if_neg p, if_neg (fun q => p (h.mpr q))]
theorem rdH_hd (fb fa : Nat → Int32) (evb eva : List (Nat × Int32)) (rq : List Nat) (a0 : Nat) (h h2 t : List Nat) (b a : Nat) (hl : h.length = h2.length) : ∃ sg t2 b2 a2, rdH fb fa evb eva rq a0 (h ++ t, b, a) = (sg, h ++ t2, b2, a2) ∧ rdH fb fa evb eva rq a0 (h2 ++ t, b, a) = (sg, h2 ++ t2, b2, a2) := by
  have e : (h ++ t).length = (h2 ++ t).length := by simp [hl]
  unfold rdH
  simp only []
  by_cases c1 : ((rq.getD a0 0 = 1 ∧ rq.getD (a0 + 1) 0 = 2) ∧ (rq.getD (a0 + 2) 0 = 0 ∨ rq.getD (a0 + 2) 0 = 6))
  · rw [if_pos c1, if_pos c1]
    by_cases cw : a0 + 3 + bbL (rq.getD (a0 + 2) 0) ≤ rq.length
    · rw [if_pos cw, if_pos cw]
      obtain ⟨t2, e1, e2⟩ := gpL_hd 0 fb (rx0 rq a0) (rx1 rq a0) h h2 t hl
      exact ⟨_, t2, b, a, by rw [e1], by rw [e2, ite_iff (gpBad_hd hl)]⟩
    · rw [if_neg cw, if_neg cw]
      exact ⟨4, t, b, a, rfl, rfl⟩
  · rw [if_neg c1, if_neg c1]
    by_cases c2 : ((rq.getD a0 0 = 30 ∧ rq.getD (a0 + 1) 0 = 1) ∧ (rq.getD (a0 + 2) 0 = 0 ∨ rq.getD (a0 + 2) 0 = 6))
    · rw [if_pos c2, if_pos c2]
      by_cases cw : a0 + 3 + bbL (rq.getD (a0 + 2) 0) ≤ rq.length
      · rw [if_pos cw, if_pos cw]
        obtain ⟨t2, e1, e2⟩ := gpL_hd 1 fa (rx0 rq a0) (rx1 rq a0) h h2 t hl
        exact ⟨_, t2, b, a, by rw [e1], by rw [e2, ite_iff (gpBad_hd hl)]⟩
      · rw [if_neg cw, if_neg cw]
        exact ⟨4, t, b, a, rfl, rfl⟩
    · rw [if_neg c2, if_neg c2]
      by_cases c3 : (rq.getD a0 0 = 60 ∧ rq.getD (a0 + 1) 0 = 1 ∧ rq.getD (a0 + 2) 0 = 6)
      · rw [if_pos c3, if_pos c3, e]
        by_cases cw : 62 - (h2 ++ t).length < 58
        · rw [if_pos cw, if_pos cw]
          exact ⟨4, t, b, a, rfl, rfl⟩
        · rw [if_neg cw, if_neg cw]
          obtain ⟨t2, e1, e2⟩ := gpL_hd 0 fb 0 7 h h2 t hl
          rw [e1, e2]
          obtain ⟨t3, e3, e4⟩ := gpL_hd 1 fa 0 7 h h2 t2 hl
          exact ⟨_, t3, b, a, by rw [e3], by rw [e4, ite_iff (gpBad_hd hl)]⟩
      · rw [if_neg c3, if_neg c3]
        by_cases c4 : ((rq.getD a0 0 = 60 ∧ rq.getD (a0 + 1) 0 = 2) ∧ (rq.getD (a0 + 2) 0 = 7 ∨ rq.getD (a0 + 2) 0 = 6))
        · rw [if_pos c4, if_pos c4]
          by_cases cw : a0 + 3 + bbL (rq.getD (a0 + 2) 0) ≤ rq.length
          · rw [if_pos cw, if_pos cw]
            obtain ⟨t2, e1, e2⟩ := geL_hd 0 2 (rmo rq a0) evb b h h2 t hl
            exact ⟨0, t2, b + geN 2 (rmo rq a0) evb b (h ++ t), a, by rw [e1], by rw [e2, geN_hd hl]⟩
          · rw [if_neg cw, if_neg cw]
            exact ⟨4, t, b, a, rfl, rfl⟩
        · rw [if_neg c4, if_neg c4]
          by_cases c5 : ((rq.getD a0 0 = 60 ∧ rq.getD (a0 + 1) 0 = 3) ∧ (rq.getD (a0 + 2) 0 = 7 ∨ rq.getD (a0 + 2) 0 = 6))
          · rw [if_pos c5, if_pos c5]
            by_cases cw : a0 + 3 + bbL (rq.getD (a0 + 2) 0) ≤ rq.length
            · rw [if_pos cw, if_pos cw]
              obtain ⟨t2, e1, e2⟩ := geL_hd 1 6 (rmo rq a0) eva a h h2 t hl
              exact ⟨0, t2, b, a + geN 6 (rmo rq a0) eva a (h ++ t), by rw [e1], by rw [e2, geN_hd hl]⟩
            · rw [if_neg cw, if_neg cw]
              exact ⟨4, t, b, a, rfl, rfl⟩
          · rw [if_neg c5, if_neg c5]
            exact ⟨2, t, b, a, rfl, rfl⟩
theorem rdA_hd (fb fa : Nat → Int32) (evb eva : List (Nat × Int32)) (rq : List Nat) (h h2 : List Nat) (hl : h.length = h2.length) : ∀ (n a0 : Nat) (t : List Nat) (b a : Nat), ∃ sg t2 b2 a2, rdA fb fa evb eva rq n a0 (h ++ t, b, a) = (sg, h ++ t2, b2, a2) ∧ rdA fb fa evb eva rq n a0 (h2 ++ t, b, a) = (sg, h2 ++ t2, b2, a2)
  | 0, _, t, b, a => ⟨0, t, b, a, rfl, rfl⟩
  | n + 1, a0, t, b, a => by
    by_cases c1 : a0 < rq.length
    · by_cases c3 : rq.length < a0 + 3
      · exact ⟨4, t, b, a, rdA_short c1 c3, rdA_short c1 c3⟩
      · obtain ⟨sg, t2, b2, a2, e1, e2⟩ := rdH_hd fb fa evb eva rq a0 h h2 t b a hl
        by_cases c0 : sg = 0
        · rw [rdA_go c1 c3 (by rw [e1]; exact c0), rdA_go c1 c3 (by rw [e2]; exact c0), e1, e2]
          exact rdA_hd fb fa evb eva rq h h2 hl n _ t2 b2 a2
        · exact ⟨sg, t2, b2, a2, by rw [rdA_stop c1 c3 (by rw [e1]; exact c0), e1], by rw [rdA_stop c1 c3 (by rw [e2]; exact c0), e2]⟩
    · exact ⟨0, t, b, a, rdA_end (by omega), rdA_end (by omega)⟩
theorem rd_hd {fb fa : Nat → Int32} {evb eva : List (Nat × Int32)} {rq h an2 : List Nat} {sg b2 a2 : Nat} (hl : h.length = 4) (e : (sg, an2, b2, a2) = rdA fb fa evb eva rq 60 2 (h, 0, 0)) : ∃ t, an2 = h ++ t ∧ (sg, [0, 0, 0, 0] ++ t, b2, a2) = rdA fb fa evb eva rq 60 2 ([0, 0, 0, 0], 0, 0) := by
  obtain ⟨sg9, t, b9, a9, e1, e2⟩ := rdA_hd fb fa evb eva rq h [0, 0, 0, 0] hl 60 2 [] 0 0
  rw [List.append_nil] at e1 e2
  rw [← e] at e1
  injection e1 with x1 x2
  injection x2 with x2 x3
  injection x3 with x3 x4
  exact ⟨t, x2, by rw [e2, x1, x3, x4]⟩
theorem stSel_5 {th th2 : Bool} {nu ou vl ag fn nr x v : Nat} (h : fn ≠ 4) : stSel th nu ou vl ag fn nr x v = stSel th2 nu ou vl ag fn nr x v := by
  unfold stSel
  rw [if_pos h, if_pos h]
theorem cm_hd {rq h an2 : List Nat} {fn nr sg : Nat} {th : Bool} {nu ou vl ag : Nat} {S2 : Sel5} {fo fo2 : Nat → Int32} (hf : fn = 3 ∨ fn = 4 ∨ fn = 5) (e : (sg, S2, fo2, an2) = cmS rq fn nr (th, nu, ou, vl, ag) fo h) : ∃ t, an2 = h ++ t ∧ (sg, S2, fo2, [0, 0, 0, 0] ++ t) = cmS rq fn nr ((if fn = 3 ∨ fn = 4 then th else false), nu, ou, vl, ag) fo [0, 0, 0, 0] := by
  have es : stSel (if fn = 3 ∨ fn = 4 then th else false) nu ou vl ag fn nr (rq.getD 6 0) (rq.getD 7 0) = stSel th nu ou vl ag fn nr (rq.getD 6 0) (rq.getD 7 0) := by
    by_cases h5 : fn = 3 ∨ fn = 4
    · rw [if_pos h5]
    · exact stSel_5 (by omega)
  by_cases hc : cmP rq
  · rw [cmS_y hc] at e
    rw [cmS_y hc, es]
    injection e with x1 x2
    injection x2 with x2 x3
    injection x3 with x3 x4
    refine ⟨(List.range 6).map (fun z => rq.getD (z + 2) 0) ++ [stSel th nu ou vl ag fn nr (rq.getD 6 0) (rq.getD 7 0)], by rw [x4, List.append_assoc], by rw [x1, x2, x3, List.append_assoc]⟩
  · rw [cmS_n hc] at e
    rw [cmS_n hc]
    injection e with x1 x2
    injection x2 with x2 x3
    injection x3 with x3 x4
    exact ⟨[], by rw [x4, List.append_nil], by rw [x1, x2, x3, List.append_nil]⟩
theorem cpA_hd {t : List Nat} {h0 h1 h2 h3 nr sg anb ana : Nat} {evb eva : List (Nat × Int32)} {rst ovf : Bool} {b0 b2 b3 : Nat} (e0 : b0 = 192 + nr + (if 0 < anb ∨ 0 < ana then 32 else 0)) (e1 : h1 = 129) (e2 : b2 = (if 0 < evb.length then 2 else 0) + (if 0 < eva.length then 4 else 0) + (if rst = true then 128 else 0)) (e3 : b3 = sg + (if ovf = true then 8 else 0)) : ((([h0, h1, h2, h3] ++ t).set 0 b0).set 2 b2).set 3 b3 = cpA ([0, 0, 0, 0] ++ t) nr sg anb ana evb eva rst ovf := by
  unfold cpA
  rw [e0, e1, e2, e3]
  rfl
theorem sendL_z {an : List Nat} {to : Nat} : ∀ (n a0 : Nat) (st : List Nat × Nat × Nat), st.2.1 = 0 → (sendL an to n a0 st).2.1 = 0
  | 0, _, _, h => h
  | n + 1, a0, st, h => by
    by_cases c : a0 < an.length
    · rw [sendL_step c]; exact sendL_z n _ _ rfl
    · rw [sendL_stop (by omega)]; exact h
theorem sendL_p {an : List Nat} {to : Nat} : ∀ (n a0 : Nat) (st : List Nat × Nat × Nat), st.2.2 < 64 → (sendL an to n a0 st).2.2 < 64
  | 0, _, _, h => h
  | n + 1, a0, st, h => by
    by_cases c : a0 < an.length
    · rw [sendL_step c]; exact sendL_p n _ _ (Nat.mod_lt _ (by decide))
    · rw [sendL_stop (by omega)]; exact h
theorem sendL_l {an : List Nat} {to : Nat} : ∀ (n a0 : Nat) (st : List Nat × Nat × Nat), (sendL an to n a0 st).1.length ≤ st.1.length + 160 * n
  | 0, _, _ => Nat.le_refl _
  | n + 1, a0, st => by
    by_cases c : a0 < an.length
    · rw [sendL_step c]
      have h1 := sendL_l (an := an) (to := to) n (a0 + 39) ((partL an a0 (min (an.length - a0) 39) st.2.2 (headL (st.1, st.2.1) (1 + min (an.length - a0) 39) to)).1, (partL an a0 (min (an.length - a0) 39) st.2.2 (headL (st.1, st.2.1) (1 + min (an.length - a0) 39) to)).2, (st.2.2 + 1) % 64)
      have h2 := partL_len an a0 (min (an.length - a0) 39) st.2.2 (headL (st.1, st.2.1) (1 + min (an.length - a0) 39) to) (by omega)
      have h3 := headL_len (st.1, st.2.1) (1 + min (an.length - a0) 39) to
      simp only [] at h1 h3
      omega
    · rw [sendL_stop (by omega)]; omega
/-- the reference's number that may be confirmed, and the class's -/
def cfR (cf : Bool) (nb : Nat) (cm : Int32) : Prop := ((cf = true ∧ cm = nI nb) ∨ (cf = false ∧ cm = (-1))) ∧ nb < 16
theorem cfR_y {cf : Bool} {nb nr : Nat} {cm : Int32} (h : cfR cf nb cm) (hn : nr < 16) (e : cm = nI nr) : cf = true ∧ nr = nb := by
  rcases h.1 with ⟨h1, h2⟩ | ⟨h1, h2⟩
  · refine ⟨h1, ?_⟩
    have h3 := congrArg Int32.toInt (h2.symm.trans e)
    rw [nI_toInt (by have := h.2; omega), nI_toInt (by omega)] at h3
    omega
  · exact absurd (h2.symm.trans e) (nI_m1 (by omega))
theorem cfR_n {cf : Bool} {nb nr : Nat} {cm : Int32} (h : cfR cf nb cm) (e : ¬ cm = nI nr) : ¬ (cf = true ∧ nr = nb) := fun z => by
  rcases h.1 with ⟨h1, h2⟩ | ⟨h1, h2⟩
  · exact e (by rw [h2, z.2])
  · rw [h1] at z; exact absurd z.1 (by decide)
theorem cfR_a {anb ana nr : Nat} (hn : nr < 16) (h : 0 < anb + ana) : cfR (decide (0 < anb ∨ 0 < ana)) nr (nI nr) := ⟨Or.inl ⟨decide_eq_true (by omega), rfl⟩, hn⟩
theorem cfR_b {anb ana nr : Nat} (hn : nr < 16) (h : ¬ 0 < anb + ana) : cfR (decide (0 < anb ∨ 0 < ana)) nr (-1) := ⟨Or.inr ⟨decide_eq_false (by omega), rfl⟩, hn⟩
theorem loR_1 {ovf : Bool} {lof : Nat → Int32} (h : loR ovf lof) (e : ¬ lof 0 = 0) : ovf = true := h.2.2.mpr (Or.inl (h.1.resolve_left e))
theorem loR_2 {ovf : Bool} {lof : Nat → Int32} (h : loR ovf lof) (e : ¬ lof 1 = 0) : ovf = true := h.2.2.mpr (Or.inr (h.2.1.resolve_left e))
theorem loR_3 {ovf : Bool} {lof : Nat → Int32} (h : loR ovf lof) (e : lof 0 = 0) (e2 : lof 1 = 0) : ¬ ovf = true := fun z => by
  rcases h.2.2.mp z with z | z
  · rw [e] at z; exact absurd z (by decide)
  · rw [e2] at z; exact absurd z (by decide)
abbrev SdT : Type := List Nat × Nat × Nat
abbrev CoT : Type := Sel5 × Bool × Nat × (Nat → Int32) × Bool × Bool × List (Nat × Int32) × Nat × List (Nat × Int32) × Nat × List Nat × SdT
def rqE (h : HdT) (mm : Nat) (sd : SdT) : CoT := (h.2.1, h.2.2.1, h.2.2.2.1, h.2.2.2.2.1, h.2.2.2.2.2.1, h.2.2.2.2.2.2.1, h.2.2.2.2.2.2.2.1, h.2.2.2.2.2.2.2.2.1, h.2.2.2.2.2.2.2.2.2.1, h.2.2.2.2.2.2.2.2.2.2.1, h.2.2.2.2.2.2.2.2.2.2.2, if h.1 = true then sendL h.2.2.2.2.2.2.2.2.2.2.2 mm 3 0 sd else sd)
/-- what a request does, its answer's frames too -/
def rqS (fb fa : Nat → Int32) (rq : List Nat) (mm : Nat) (X : CoT) : CoT := rqE (hdS fb fa rq X.1 X.2.1 X.2.2.1 X.2.2.2.1 X.2.2.2.2.1 X.2.2.2.2.2.1 X.2.2.2.2.2.2.1 X.2.2.2.2.2.2.2.1 X.2.2.2.2.2.2.2.2.1 X.2.2.2.2.2.2.2.2.2.1 X.2.2.2.2.2.2.2.2.2.2.1) mm X.2.2.2.2.2.2.2.2.2.2.2
/-- what holds of the reference's fields -/
def mOK (X : CoT) (anf enf tkf epf evf lof kf : Nat → Int32) (sl cm : Int32) (wt bn si ti : Nat) : Prop := (okB 80 X.2.2.2.2.2.2.2.2.2.2.1 anf ∧ X.2.2.2.2.2.2.2.2.2.2.1.length ≤ 62) ∧ okMev 0 X.2.2.2.2.2.2.1 X.2.2.2.2.2.2.2.1 enf tkf epf evf ∧ okMev 1 X.2.2.2.2.2.2.2.2.1 X.2.2.2.2.2.2.2.2.2.1 enf tkf epf evf ∧ loR X.2.2.2.2.1 lof ∧ selR X.1.1 X.1.2.1 X.1.2.2.1 X.1.2.2.2.1 X.1.2.2.2.2 sl wt bn si ti ∧ cfR X.2.1 X.2.2.1 cm ∧ okS (X.2.2.2.2.2.2.2.2.2.2.2.1, X.2.2.2.2.2.2.2.2.2.2.2.2.1) kf ∧ X.2.2.2.2.2.2.2.2.2.2.2.2.1 = 0 ∧ X.2.2.2.2.2.2.2.2.2.2.2.2.2 < 64
section RQ
variable {fb fa fo : Nat → Int32} {rq : List Nat} {mm : Nat} {S : Sel5} {cf ovf rst : Bool} {nb anb ana : Nat} {evb eva : List (Nat × Int32)} {an : List Nat} {sd : SdT}
theorem rqS_skip (h : ¬ (2 ≤ rq.length ∧ 192 ≤ rq.getD 0 0 ∧ rq.getD 0 0 < 208)) : (S, cf, nb, fo, ovf, rst, evb, anb, eva, ana, an, sd) = rqS fb fa rq mm (S, cf, nb, fo, ovf, rst, evb, anb, eva, ana, an, sd) := by
  unfold rqS
  rw [hdS_skip h]
  rfl
theorem rqS_conf {cf2 ovf2 : Bool} {evb2 eva2 : List (Nat × Int32)} {anb2 ana2 : Nat} (h : 2 ≤ rq.length ∧ 192 ≤ rq.getD 0 0 ∧ rq.getD 0 0 < 208) (h0 : rq.getD 1 0 = 0) (hc : (cf2, ovf2, evb2, anb2, eva2, ana2) = cfS cf nb (rq.getD 0 0 - 192) ovf evb anb eva ana) : (S, cf2, nb, fo, ovf2, rst, evb2, anb2, eva2, ana2, an, sd) = rqS fb fa rq mm (S, cf, nb, fo, ovf, rst, evb, anb, eva, ana, an, sd) := by
  unfold rqS
  rw [hdS_conf h h0 hc]
  rfl
theorem rqS_ans {sg : Nat} {S2 : Sel5} {fo2 : Nat → Int32} {rst2 : Bool} {anb2 ana2 : Nat} {an2 : List Nat} (h : 2 ≤ rq.length ∧ 192 ≤ rq.getD 0 0 ∧ rq.getD 0 0 < 208) (h0 : ¬ rq.getD 1 0 = 0) (hm : (sg, S2, fo2, rst2, anb2, ana2, an2) = mdS fb fa rq (rq.getD 1 0) (rq.getD 0 0 - 192) S fo rst evb eva) : (S2, decide (0 < anb2 ∨ 0 < ana2), rq.getD 0 0 - 192, fo2, ovf, rst2, evb, anb2, eva, ana2, cpA an2 (rq.getD 0 0 - 192) sg anb2 ana2 evb eva rst2 ovf, sendL (cpA an2 (rq.getD 0 0 - 192) sg anb2 ana2 evb eva rst2 ovf) mm 3 0 sd) = rqS fb fa rq mm (S, cf, nb, fo, ovf, rst, evb, anb, eva, ana, an, sd) := by
  unfold rqS
  rw [hdS_ans h h0 hm]
  rfl
end RQ
theorem out192 {a : Nat} (ha : a < 1000) : ((nI a - nI 192) < 0 ∨ nI 16 ≤ (nI a - nI 192)) ↔ (a < 192 ∨ 208 ≤ a) := by
  have h := pk_sub_toInt (a := a) (b := 192) (by omega) (by decide)
  rw [Int32.lt_iff_toInt_lt, Int32.le_iff_toInt_le, h, show (0 : Int32).toInt = 0 from rfl, show (nI 16).toInt = 16 from rfl]
  omega
theorem okMev_0 {enf tkf epf evf : Nat → Int32} {evs : List (Nat × Int32)} {ans : Nat} (h : okMev 0 evs ans enf tkf epf evf) : okMev 0 evs 0 enf (upd (upd tkf 0 (nI 0)) 1 (nI 0)) epf evf := ⟨h.1, Nat.zero_le _, h.2.2.1, rfl, h.2.2.2.2⟩
theorem okMev_1 {enf tkf epf evf : Nat → Int32} {evs : List (Nat × Int32)} {ans : Nat} (h : okMev 1 evs ans enf tkf epf evf) : okMev 1 evs 0 enf (upd (upd tkf 0 (nI 0)) 1 (nI 0)) epf evf := ⟨h.1, Nat.zero_le _, h.2.2.1, rfl, h.2.2.2.2⟩
