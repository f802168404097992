/-! OWN ROWS: cleaning a row, parts. -/
theorem ckInv_lt {bl : List Nat} {ck : Nat} (h : ckInv bl ck) (hl : bl.length ≤ 56) : ck < 1000 := by
  rcases h with h | ⟨j, h1, -, -, -, -, h6, -⟩ <;> omega
theorem ckJ_0 {bl : List Nat} (h1 : ¬ begBad bl) (h2 : 10 ≤ bl.length) (h3 : sumOK bl 0 8) : ckJ bl 10 := by
  have h := begBad_2 h1 h2
  exact ⟨0, rfl, h1, h2, h3, by unfold plL; omega, h2, fun k hk => absurd hk (Nat.not_lt_zero _)⟩
theorem frR_of0 {bl : List Nat} {ck : Nat} (hs : spoilt bl) : frR bl 0 ck := ⟨by decide, ⟨fun _ => hs, fun _ => rfl⟩, ⟨fun h => absurd h (by decide), fun h => absurd hs h.1⟩, fun h => absurd h (by decide), fun h => absurd h (by decide)⟩
theorem frR_b {bl : List Nat} {ck : Nat} (h : begBad bl) : frR bl 0 ck := frR_of0 (Or.inl h)
theorem frR_h {bl : List Nat} {ck : Nat} (h : 10 ≤ bl.length) (h2 : ¬ sumOK bl 0 8) : frR bl 0 ck := frR_of0 (Or.inr ⟨by omega, Or.inl ⟨h, h2⟩⟩)
theorem frR_s {bl : List Nat} {ck : Nat} (h : ¬ begBad bl) (h2 : bl.length < 10) (h3 : ck = 0) : frR bl 1 ck := by
  have hs : ¬ spoilt bl := by
    rintro (h9 | ⟨-, ⟨h9, -⟩ | ⟨k, k1, k2, k3⟩⟩)
    · exact h h9
    · omega
    · omega
  have hw : ¬ wholeF bl := fun h9 => by
    have := h9.2.2
    unfold allL at this
    omega
  exact ⟨by decide, ⟨fun h => absurd h (by decide), fun h => absurd h hs⟩, ⟨fun h => absurd h (by decide), fun h => absurd h hw⟩, fun _ => Or.inl h3, fun h => absurd h (by decide)⟩
/-- first bytes go until a frame can begin -/
def cleanR (bl bl2 : List Nat) : Prop := ∃ n, bl2 = bl.drop n ∧ n ≤ bl.length ∧ (∀ k, k < n → spoilt (bl.drop k)) ∧ ¬ spoilt bl2
theorem spoilt_nil {bl : List Nat} (h : bl.length = 0) : ¬ spoilt bl := by
  rintro (h9 | ⟨h9, -⟩)
  · unfold begBad at h9; omega
  · omega
theorem wholeF_nil {bl : List Nat} (h : bl.length = 0) : ¬ wholeF bl := fun h9 => by
  have := h9.2.1
  omega
theorem cleanR_step {bl bl1 : List Nat} (h : ∃ n, bl1 = bl.drop n ∧ n ≤ bl.length ∧ ∀ k, k < n → spoilt (bl.drop k)) (hs : spoilt bl1) (hl : 0 < bl1.length) : ∃ n, bl1.drop 1 = bl.drop n ∧ n ≤ bl.length ∧ ∀ k, k < n → spoilt (bl.drop k) := by
  obtain ⟨n, rfl, h2, h3⟩ := h
  rw [List.length_drop] at hl
  refine ⟨n + 1, by rw [List.drop_drop], by omega, fun k hk => ?_⟩
  by_cases e : k = n
  · subst e; exact hs
  · exact h3 k (by omega)
theorem cleanR_end {bl bl1 : List Nat} (h : ∃ n, bl1 = bl.drop n ∧ n ≤ bl.length ∧ ∀ k, k < n → spoilt (bl.drop k)) (hs : ¬ spoilt bl1) : cleanR bl bl1 := by
  obtain ⟨n, h1, h2, h3⟩ := h
  exact ⟨n, h1, h2, h3, hs⟩
theorem cleanR_one {bl a b : List Nat} (ha : cleanR bl a) (hb : cleanR bl b) : a = b := by
  obtain ⟨n, h1, h2, h3, h4⟩ := ha
  obtain ⟨k, g1, g2, g3, g4⟩ := hb
  rcases Nat.lt_trichotomy n k with h | h | h
  · exact absurd (h1 ▸ g3 n h) h4
  · rw [h1, g1, h]
  · exact absurd (g1 ▸ h3 k h) g4
theorem nx_and (a b : Nat) : nI a &&& nI b = nI (a &&& b) := by
  apply Int32.toBitVec_inj.1
  show BitVec.ofNat 32 a &&& BitVec.ofNat 32 b = BitVec.ofNat 32 (a &&& b)
  apply BitVec.eq_of_getLsbD_eq
  intro i hi
  simp [BitVec.getLsbD_and, BitVec.getLsbD_ofNat, hi, Nat.testBit_and]
theorem nI_subl {a b : Nat} (h : b ≤ a) : nI a + -(nI b) = nI (a - b) := by rw [← Int32.sub_eq_add_neg]; exact pk_sub h
theorem and_le (a b : Nat) : a &&& b ≤ b := Nat.and_le_right
theorem and64_all : ∀ h, h < 256 → (h &&& 64 = 0 ↔ h / 64 % 2 = 0) := by decide +kernel
theorem and64 {h : Nat} (hh : h < 256) : h &&& 64 = 0 ↔ h / 64 % 2 = 0 := and64_all h hh
theorem and128_all : ∀ h, h < 256 → (h &&& 128 = 0 ↔ h < 128) := by decide +kernel
theorem and128 {h : Nat} (hh : h < 256) (z : h &&& 128 ≠ 0) : 128 ≤ h := Nat.le_of_not_lt (fun z2 => z ((and128_all h hh).mpr z2))
theorem and128n {h : Nat} (hh : h < 256) (z : h &&& 128 = 0) : h < 128 := (and128_all h hh).mp z
abbrev goesP (bl : List Nat) (bg : Bool) (nu fm : Nat) (fl : List Nat) (nx : Nat) : Prop := bg = true ∧ fromL bl = fm ∧ nx = (nu + 1) % 64 ∧ plL bl - 1 ≤ 60 - fl.length
def payB (bl : List Nat) : List Nat := (List.range (plL bl - 1)).map (fun z => patL bl (z + 1))
def takeS (bl : List Nat) (bg : Bool) (nu fm : Nat) (fl : List Nat) : Bool × Nat × Nat × List Nat × Bool :=
  if patL bl 0 / 64 % 2 = 1 ∨ goesP bl bg nu fm fl (patL bl 0 % 64) then (decide (patL bl 0 < 128), patL bl 0 % 64, fromL bl, (if patL bl 0 / 64 % 2 = 1 then [] else fl) ++ payB bl, decide (128 ≤ patL bl 0)) else (false, nu, fm, fl, false)
theorem takeS_no {bl : List Nat} {bg : Bool} {nu fm : Nat} {fl : List Nat} (h : ¬ patL bl 0 / 64 % 2 = 1) (h2 : ¬ goesP bl bg nu fm fl (patL bl 0 % 64)) : takeS bl bg nu fm fl = (false, nu, fm, fl, false) := by
  unfold takeS
  rw [if_neg (fun z => z.elim h h2)]
theorem pay_step {bl fl0 fl1 : List Nat} {i : Nat} (hi : 1 ≤ i) (h : fl1 = fl0 ++ (List.range (i - 1)).map (fun z => patL bl (z + 1))) : fl1 ++ [patL bl i] = fl0 ++ (List.range (i + 1 - 1)).map (fun z => patL bl (z + 1)) := by
  rw [h, show i + 1 - 1 = (i - 1) + 1 by omega, List.range_succ]
  simp [show i - 1 + 1 = i by omega]
theorem takeS_yes {bl fl fl0 fl1 : List Nat} {bg : Bool} {nu fm i : Nat} (hi : i = plL bl) (ho : patL bl 0 / 64 % 2 = 1 ∨ goesP bl bg nu fm fl (patL bl 0 % 64)) (h : fl1 = fl0 ++ (List.range (i - 1)).map (fun z => patL bl (z + 1))) (h0 : fl0 = if patL bl 0 / 64 % 2 = 1 then [] else fl) (_ : True) (hl : 128 ≤ patL bl 0) : takeS bl bg nu fm fl = (false, patL bl 0 % 64, fromL bl, fl1, true) := by
  unfold takeS
  rw [if_pos ho, ← h0, decide_eq_false (show ¬ patL bl 0 < 128 by omega), decide_eq_true hl, h, hi]; rfl
theorem takeS_yesN {bl fl fl0 fl1 : List Nat} {bg : Bool} {nu fm i : Nat} (hi : i = plL bl) (ho : patL bl 0 / 64 % 2 = 1 ∨ goesP bl bg nu fm fl (patL bl 0 % 64)) (h : fl1 = fl0 ++ (List.range (i - 1)).map (fun z => patL bl (z + 1))) (h0 : fl0 = if patL bl 0 / 64 % 2 = 1 then [] else fl) (_ : True) (hl : patL bl 0 < 128) : takeS bl bg nu fm fl = (true, patL bl 0 % 64, fromL bl, fl1, false) := by
  unfold takeS
  rw [if_pos ho, ← h0, decide_eq_true hl, decide_eq_false (show ¬ 128 ≤ patL bl 0 by omega), h, hi]; rfl
