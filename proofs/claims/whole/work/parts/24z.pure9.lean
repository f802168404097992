/-! OWN ROWS: the ring of bytes sent. -/
abbrev keepI (st : List Nat × Nat) (k : Int32) : Prop := ¬ k < 0 ∧ ¬ nI 256 ≤ k ∧ ¬ nI st.1.length ≤ k
theorem keepI_y {st : List Nat × Nat} {k : Int32} (h1 : ¬ k < 0) (h2 : ¬ nI 256 ≤ k) (h3 : ¬ nI st.1.length ≤ k) : keepI st k := ⟨h1, h2, h3⟩
theorem keepI_n1 {st : List Nat × Nat} {k : Int32} (h : k < 0) : ¬ keepI st k := fun z => z.1 h
theorem keepI_n2 {st : List Nat × Nat} {k : Int32} (h : nI 256 ≤ k) : ¬ keepI st k := fun z => z.2.1 h
theorem keepI_n3 {st : List Nat × Nat} {k : Int32} (h : nI st.1.length ≤ k) : ¬ keepI st k := fun z => z.2.2 h
theorem keepI_nI {st : List Nat × Nat} {k : Nat} (h : k < 256) (h2 : k < st.1.length) (hl : st.1.length < 1073741824) : keepI st (nI k) := by
  refine ⟨nI_pos (by omega), fun z => ?_, fun z => ?_⟩
  · have := (nI_leI (a := 256) (b := k) (by omega) (by omega)).mp z
    omega
  · have := (nI_leI (a := st.1.length) (b := k) (by omega) (by omega)).mp z
    omega
theorem keepI_of {st : List Nat × Nat} {k : Int32} (h : keepI st k) (hl : st.1.length < 1073741824) : ∃ kn : Nat, k = nI kn ∧ kn < 256 ∧ kn < st.1.length := by
  obtain ⟨kn, hk, rfl⟩ := nI_of h.1
  refine ⟨kn, rfl, ?_, ?_⟩
  · exact Nat.lt_of_not_le (fun z => h.2.1 ((nI_leI (a := 256) (b := kn) (by omega) hk).mpr z))
  · exact Nat.lt_of_not_le (fun z => h.2.2 ((nI_leI (a := st.1.length) (b := kn) (by omega) hk).mpr z))
theorem ring_at {out : List Nat} {kf : Nat → Int32} {k : Nat} (h : ∀ j, j < out.length → out.length ≤ j + 256 → kf (j % 256) = nI (out.getD j 0)) (hk : k < 256) (h2 : k < out.length) : kf ((out.length % 256 + 256 - 1 - k) % 256) = nI (out.getD (out.length - 1 - k) 0) := by
  rw [← h (out.length - 1 - k) (by omega) (by omega)]
  congr 1
  omega
