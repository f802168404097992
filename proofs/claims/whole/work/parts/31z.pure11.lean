/-! OWN ROWS: the reference's row. -/
abbrev isW (bl : List Nat) (b0 n : Nat) : Prop := b0 + n + 2 ≤ bl.length ∧ ¬ sumOK bl b0 n
theorem sh_1 {hf hf1 : Nat → Int32} {bl : List Nat} {n k : Nat} (hk : n ≤ k) (h1 : ∀ j, j < k - n → hf1 j = nI (bl.getD (n + j) 0)) (h2 : ∀ j, k - n ≤ j → hf1 j = hf j) (h3 : hf k = nI (bl.getD k 0)) : ∀ j, j < k + 1 - n → (upd hf1 (k - n) (hf1 k)) j = nI (bl.getD (n + j) 0) := by
  intro j hj
  by_cases e : j = k - n
  · subst e
    simp only [upd, if_true]
    rw [h2 k (by omega), h3, show n + (k - n) = k by omega]
  · simp only [upd, if_neg e]
    exact h1 j (by omega)
theorem sh_2 {hf hf1 : Nat → Int32} {n k : Nat} (hk : n ≤ k) (h2 : ∀ j, k - n ≤ j → hf1 j = hf j) : ∀ j, k + 1 - n ≤ j → (upd hf1 (k - n) (hf1 k)) j = hf j := by
  intro j hj
  have e : ¬ j = k - n := by omega
  simp only [upd, if_neg e]
  exact h2 j (by omega)
theorem sh_end {hf hf1 : Nat → Int32} {bl : List Nat} {n k : Nat} (h : okB 80 bl hf) (hn : n ≤ bl.length) (hk : k = bl.length) (h1 : ∀ j, j < k - n → hf1 j = nI (bl.getD (n + j) 0)) : okB 80 (bl.drop n) hf1 := by
  obtain ⟨a1, a2, a3, a4⟩ := h
  refine ⟨by simp; omega, a2, fun j hj => ?_, fun j => ?_⟩
  · rw [List.length_drop] at hj
    rw [h1 j (by omega)]
    simp
  · have := a4 (n + j)
    simpa using this
theorem begBad_3 {bl : List Nat} (h : ¬ begBad bl) (hl : 3 ≤ bl.length) : 6 ≤ bl.getD 2 0 ∧ bl.getD 2 0 ≤ 45 := by unfold begBad at h; omega
theorem out_iff {a : Nat} (ha : a < 1000) : ((nI a - nI 6) < 0 ∨ nI 40 ≤ (nI a - nI 6)) ↔ (a < 6 ∨ 45 < a) := by
  have h := pk_sub_toInt (a := a) (b := 6) (by omega) (by decide)
  rw [Int32.lt_iff_toInt_lt, Int32.le_iff_toInt_le, h, show (0 : Int32).toInt = 0 from rfl, show (nI 40).toInt = 40 from rfl]
  omega
theorem spW_0 {P : Prop} [Decidable P] {Q : Nat → Prop} : decide P = true ↔ (P ∨ ∃ j, j < 0 ∧ Q j) := by
  rw [decide_eq_true_iff]
  exact ⟨Or.inl, fun h => h.elim id (fun ⟨j, hj, _⟩ => absurd hj (Nat.not_lt_zero _))⟩
theorem spW_t {P : Prop} {Q : Nat → Prop} {b : Bool} {k : Nat} (h : b = true ↔ (P ∨ ∃ j, j < k ∧ Q j)) (hb : b = true) : true = true ↔ (P ∨ ∃ j, j < k + 1 ∧ Q j) := by
  refine ⟨fun _ => ?_, fun _ => rfl⟩
  rcases h.mp hb with h | ⟨j, h1, h2⟩
  · exact Or.inl h
  · exact Or.inr ⟨j, by omega, h2⟩
theorem spW_y {P : Prop} {Q : Nat → Prop} {k : Nat} (hq : Q k) : true = true ↔ (P ∨ ∃ j, j < k + 1 ∧ Q j) := ⟨fun _ => Or.inr ⟨k, Nat.lt_succ_self k, hq⟩, fun _ => rfl⟩
theorem spW_n {P : Prop} {Q : Nat → Prop} {b : Bool} {k : Nat} (h : b = true ↔ (P ∨ ∃ j, j < k ∧ Q j)) (hb : ¬ b = true) (hq : ¬ Q k) : false = true ↔ (P ∨ ∃ j, j < k + 1 ∧ Q j) := by
  refine ⟨fun z => absurd z (by decide), fun z => ?_⟩
  rcases z with z | ⟨j, h1, h2⟩
  · exact absurd (h.mpr (Or.inl z)) hb
  · by_cases e : j = k
    · subst e; exact absurd h2 hq
    · exact absurd (h.mpr (Or.inr ⟨j, by omega, h2⟩)) hb
theorem sp_short {bl : List Nat} (h : ¬ begBad bl) (hl : bl.length < 3) : ¬ spoilt bl := by
  rintro (z | ⟨z, -⟩)
  · exact h z
  · omega
theorem sp_all {bl : List Nat} {k : Nat} {b : Bool} (h : ¬ begBad bl) (hl : 3 ≤ bl.length) (h1 : plL bl ≤ 16 * k) (h2 : 16 * k < plL bl + 16) (hb : b = true ↔ (isW bl 0 8 ∨ ∃ j, j < k ∧ isW bl (10 + 18 * j) (min (plL bl - 16 * j) 16))) : b = true ↔ spoilt bl := by
  rw [hb]
  constructor
  · rintro (z | ⟨j, z1, z2, z3⟩)
    · exact Or.inr ⟨hl, Or.inl ⟨by have := z.1; omega, z.2⟩⟩
    · exact Or.inr ⟨hl, Or.inr ⟨j, by omega, by omega, z3⟩⟩
  · rintro (z | ⟨-, ⟨z1, z2⟩ | ⟨j, z1, z2, z3⟩⟩)
    · exact absurd z h
    · exact Or.inl ⟨by omega, z2⟩
    · exact Or.inr ⟨j, by omega, by omega, z3⟩
theorem headL_m {st1 : List Nat × Nat} {sz mm : Nat} (hz : st1.2 = 0) : headL st1 (1 + sz) mm = putSumL (putL (putL (putL (putL (putL (putL (putL (putL st1 5) 100) (sz + 6)) 68) (mm % 256)) (mm / 256)) 10) 0) := by
  unfold headL
  rw [show (st1.1, 0) = st1 from by rw [← hz], show 5 + (1 + sz) = sz + 6 by omega]
