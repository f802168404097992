/-! OWN ROWS: the reference's events. -/
def okMev (k : Nat) (evs : List (Nat × Int32)) (ans : Nat) (enf tkf epf evf : Nat → Int32) : Prop := evs.length ≤ 6 ∧ ans ≤ evs.length ∧ enf k = nI evs.length ∧ tkf k = nI ans ∧ (∀ j, j < evs.length → epf (6 * k + j) = nI (evs.getD j (0, 0)).1 ∧ evf (6 * k + j) = (evs.getD j (0, 0)).2) ∧ ∀ j, (evs.getD j (0, 0)).1 < 8
/-- what another kind keeps -/
def frM (k : Nat) (enf tkf epf evf enf2 tkf2 epf2 evf2 : Nat → Int32) : Prop := (∀ x, x ≠ k → enf2 x = enf x ∧ tkf2 x = tkf x) ∧ ∀ x, (x < 6 * k ∨ 6 * k + 6 ≤ x) → epf2 x = epf x ∧ evf2 x = evf x
theorem frM_ok {k k2 : Nat} {enf tkf epf evf enf2 tkf2 epf2 evf2 : Nat → Int32} {evs : List (Nat × Int32)} {ans : Nat} (hk : k2 ≠ k) (h : frM k enf tkf epf evf enf2 tkf2 epf2 evf2) (ho : okMev k2 evs ans enf tkf epf evf) : okMev k2 evs ans enf2 tkf2 epf2 evf2 := by
  obtain ⟨h1, h2, h3, h4, h5, h6⟩ := ho
  refine ⟨h1, h2, by rw [(h.1 k2 hk).1]; exact h3, by rw [(h.1 k2 hk).2]; exact h4, fun j hj => ?_, h6⟩
  have := h.2 (6 * k2 + j) (by omega)
  rw [this.1, this.2]
  exact h5 j hj
section FG
variable {epf evf epf1 evf1 enf tkf : Nat → Int32} {n k i : Nat} {evs : List (Nat × Int32)} {ans : Nat}
theorem fg_1 (hi : n ≤ i) (h1 : ∀ j, j < i - n → epf1 (6 * k + j) = epf (6 * k + (n + j)) ∧ evf1 (6 * k + j) = evf (6 * k + (n + j))) (h2 : ∀ x, (x < 6 * k ∨ 6 * k + (i - n) ≤ x) → epf1 x = epf x ∧ evf1 x = evf x) : ∀ j, j < i + 1 - n → (upd epf1 (6 * k + i - n) (epf1 (6 * k + i))) (6 * k + j) = epf (6 * k + (n + j)) ∧ (upd evf1 (6 * k + i - n) (evf1 (6 * k + i))) (6 * k + j) = evf (6 * k + (n + j)) := by
  intro j hj
  by_cases e : j = i - n
  · subst e
    have e2 : 6 * k + (i - n) = 6 * k + i - n := by omega
    simp only [upd, if_pos e2]
    rw [show 6 * k + (n + (i - n)) = 6 * k + i by omega]
    exact h2 _ (by omega)
  · have e2 : ¬ 6 * k + j = 6 * k + i - n := by omega
    simp only [upd, if_neg e2]
    exact h1 j (by omega)
theorem fg_2 (hi : n ≤ i) (h2 : ∀ x, (x < 6 * k ∨ 6 * k + (i - n) ≤ x) → epf1 x = epf x ∧ evf1 x = evf x) : ∀ x, (x < 6 * k ∨ 6 * k + (i + 1 - n) ≤ x) → (upd epf1 (6 * k + i - n) (epf1 (6 * k + i))) x = epf x ∧ (upd evf1 (6 * k + i - n) (evf1 (6 * k + i))) x = evf x := by
  intro x hx
  have e : ¬ x = 6 * k + i - n := by omega
  simp only [upd, if_neg e]
  exact h2 x (by omega)
theorem fg_end {t9 : Nat} (h : okMev k evs ans enf tkf epf evf) (hk : k < 2) (hn : n ≤ evs.length) (hi : i = evs.length) (h1 : ∀ j, j < i - n → epf1 (6 * k + j) = epf (6 * k + (n + j)) ∧ evf1 (6 * k + j) = evf (6 * k + (n + j))) (h2 : ∀ x, (x < 6 * k ∨ 6 * k + (i - n) ≤ x) → epf1 x = epf x ∧ evf1 x = evf x) (ht : t9 = ans - n) : okMev k (evs.drop n) (ans - n) (upd enf k (nI (evs.length - n))) (upd tkf k (nI t9)) epf1 evf1 ∧ frM k enf tkf epf evf (upd enf k (nI (evs.length - n))) (upd tkf k (nI t9)) epf1 evf1 := by
  obtain ⟨a1, a2, a3, a4, a5, a6⟩ := h
  refine ⟨⟨by simp; omega, by simp; omega, by simp [upd], by simp [upd, ht], fun j hj => ?_, fun j => ?_⟩, fun x hx => ?_, fun x hx => h2 x (by omega)⟩
  · rw [List.length_drop] at hj
    have := h1 j (by omega)
    rw [this.1, this.2, (a5 (n + j) (by omega)).1, (a5 (n + j) (by omega)).2]
    simp
  · have := a6 (n + j)
    simpa using this
  · simp only [upd, if_neg hx]
    exact ⟨trivial, trivial⟩
end FG
section ZZ
variable {p : Program} {l : Launch} {e : Env} {R : Room} {s : State} {m : MethodId} {args : Array Value} {below : List Frame} {meth : Method} {c : Code} {H : Heap} {locs : List Loc} {cells slots : Nat} {Q : State → Prop} {D : va_G} {tys : List (ClassId × FieldType)} {A : Nat → Prop} {pc : Nat} {ls : Array Slot} {rest : List Value} {cc : ByteArray}
theorem nv_zald (hx : p.tables.exec = Jvm.exec) (hb : c.code = cc) {wW : va_W} {a : Addr} (hK : va_K D vwCl tys s) (hP : va_P D vwCl wW H) (q0 t0 : Nat) {cA : ClassId} {n : Nat} {f : Nat → Int32} (ha : wW[q0]? = some (a, .inl (cA, n, .inl f))) (ht : tys[t0]? = some (cA, .boolean)) {i : Nat} (hi : i < n) (hn : n < 2147483648) (hdg : decode cc pc = .ok (.baload, 1)) (k : W p l e R s m args below meth c H locs cells slots Q (F0 m (pc + 1) ls (.int (f i) :: rest))) : W p l e R s m args below meth c H locs cells slots Q (F0 m pc ls (.int (nI i) :: .ref a :: rest)) := va_zald hx hb hK hP q0 t0 ha ht (vp_in_nI hi hn) hdg (by rw [nI_clamp (Nat.lt_trans hi hn)]; exact k)
theorem nv_zast (hx : p.tables.exec = Jvm.exec) (hb : c.code = cc) {wW : va_W} {a : Addr} (hK : va_K D vwCl tys s) (hP : va_P D vwCl wW H) (hD : va_D A wW) (hS : va_S A s.heap H locs) (q0 t0 : Nat) {cA : ClassId} {n : Nat} {f : Nat → Int32} (ha : wW[q0]? = some (a, .inl (cA, n, .inl f))) (ht : tys[t0]? = some (cA, .boolean)) {i : Nat} {x : Int32} (hi : i < n) (hn : n < 2147483648) (hz : vp_nar .boolean x = x) (hdg : decode cc pc = .ok (.bastore, 1)) (kk : ∀ (H1 : Heap) (locs1 : List Loc), va_P D vwCl (wW.set q0 (a, .inl (cA, n, .inl (upd f i x)))) H1 → va_D A (wW.set q0 (a, .inl (cA, n, .inl (upd f i x)))) → va_S A s.heap H1 locs1 → W p l e R s m args below meth c H1 locs1 cells slots Q (F0 m (pc + 1) ls rest)) : W p l e R s m args below meth c H locs cells slots Q (F0 m pc ls (.int x :: .int (nI i) :: .ref a :: rest)) := va_zast hx hb hK hP hD hS q0 t0 ha ht (vp_in_nI hi hn) hdg (by rw [nI_clamp (Nat.lt_trans hi hn), hz]; exact kk)
end ZZ
