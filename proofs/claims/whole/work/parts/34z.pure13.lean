/-! OWN ROWS: the reference's answers. -/
/-- the reference's two signs of what was lost, and the class's one -/
def loR (ovf : Bool) (lof : Nat → Int32) : Prop := (lof 0 = 0 ∨ lof 0 = 1) ∧ (lof 1 = 0 ∨ lof 1 = 1) ∧ (ovf = true ↔ (lof 0 = 1 ∨ lof 1 = 1))
theorem loR_f {lof : Nat → Int32} : loR false (upd (upd lof 0 (nI 0)) 1 (nI 0)) := by
  refine ⟨Or.inl rfl, Or.inl rfl, ⟨fun z => absurd z (by decide), fun z => ?_⟩⟩
  rcases z with z | z
  · exact absurd z (by show ¬ nI 0 = 1; decide)
  · exact absurd z (by show ¬ nI 0 = 1; decide)
def mvR (fb fa mv : Nat → Int32) : Prop := ∀ j, j < 8 → mv j = fb j ∧ mv (8 + j) = fa j
theorem okMev_d {k : Nat} {evs : List (Nat × Int32)} {ans : Nat} {enf tkf epf evf : Nat → Int32} (h : okMev k (evs.drop ans) (ans - ans) enf tkf epf evf) : okMev k (evs.drop ans) 0 enf tkf epf evf := by rw [Nat.sub_self] at h; exact h
theorem okMev_t {k n : Nat} {evs : List (Nat × Int32)} {ans : Nat} {enf tkf epf evf : Nat → Int32} (h : okMev k evs ans enf tkf epf evf) (hn : n ≤ evs.length) : okMev k evs n enf (upd tkf k (nI n)) epf evf := ⟨h.1, hn, h.2.2.1, by simp [upd], h.2.2.2.2⟩
theorem frM_t {k : Nat} {x : Int32} {enf tkf epf evf : Nat → Int32} : frM k enf tkf epf evf enf (upd tkf k x) epf evf := ⟨fun y hy => ⟨rfl, by simp only [upd, if_neg hy]⟩, fun _ _ => ⟨rfl, rfl⟩⟩
theorem frM_r {k : Nat} {enf tkf epf evf : Nat → Int32} : frM k enf tkf epf evf enf tkf epf evf := ⟨fun _ _ => ⟨rfl, rfl⟩, fun _ _ => ⟨rfl, rfl⟩⟩
