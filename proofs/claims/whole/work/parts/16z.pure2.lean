/-! OWN ROWS: frames in a row of bytes. -/
def crcR (bl : List Nat) (b0 : Nat) : Nat → Nat
  | 0 => 0
  | n + 1 => mixB (crcR bl b0 n) (bl.getD (b0 + n) 0)
theorem crcR_succ (bl : List Nat) (b0 n : Nat) : crcR bl b0 (n + 1) = mixB (crcR bl b0 n) (bl.getD (b0 + n) 0) := rfl
theorem crcR_lt {bl : List Nat} (h : ∀ j, bl.getD j 0 < 256) (b0 : Nat) : ∀ n, crcR bl b0 n < 65536
  | 0 => Nat.zero_lt_succ _
  | n + 1 => mixB_lt (crcR_lt h b0 n) (h _)
abbrev sumOK (bl : List Nat) (b0 n : Nat) : Prop := bl.getD (b0 + n) 0 + 256 * bl.getD (b0 + n + 1) 0 = 65535 - crcR bl b0 n
abbrev begBad (bl : List Nat) : Prop := (0 < bl.length ∧ bl.getD 0 0 ≠ 5) ∨ (1 < bl.length ∧ bl.getD 1 0 ≠ 100) ∨ (2 < bl.length ∧ (bl.getD 2 0 < 6 ∨ 45 < bl.getD 2 0))
abbrev forThis (bl : List Nat) : Prop := bl.getD 3 0 = 196 ∧ bl.getD 4 0 + 256 * bl.getD 5 0 = 10
def fromL (bl : List Nat) : Nat := bl.getD 6 0 + 256 * bl.getD 7 0
def plL (bl : List Nat) : Nat := bl.getD 2 0 - 5
def patL (bl : List Nat) (i : Nat) : Nat := bl.getD (10 + i + i / 16 * 2) 0
abbrev blkOK (bl : List Nat) (k : Nat) : Prop := sumOK bl (10 + 18 * k) (min (plL bl - 16 * k) 16)
def allL (bl : List Nat) : Nat := 10 + plL bl + 2 * ((plL bl + 15) / 16)
def spoilt (bl : List Nat) : Prop := begBad bl ∨ (3 ≤ bl.length ∧ ((10 ≤ bl.length ∧ ¬ sumOK bl 0 8) ∨ ∃ k, 16 * k < plL bl ∧ 10 + 18 * k + min (plL bl - 16 * k) 16 + 2 ≤ bl.length ∧ ¬ blkOK bl k))
def wholeF (bl : List Nat) : Prop := ¬ spoilt bl ∧ 3 ≤ bl.length ∧ allL bl ≤ bl.length
/-- how far sums have been looked at: j blocks are right, and there is more to come -/
def ckJ (bl : List Nat) (ck : Nat) : Prop := ∃ j, ck = 10 + 18 * j ∧ ¬ begBad bl ∧ 10 ≤ bl.length ∧ sumOK bl 0 8 ∧ 16 * j < plL bl ∧ ck ≤ bl.length ∧ ∀ k, k < j → blkOK bl k
def ckInv (bl : List Nat) (ck : Nat) : Prop := ck = 0 ∨ ckJ bl ck
/-- what the state of a row is: 0 broken, 1 begun, 2 a whole frame -/
def frR (bl : List Nat) (sr ck : Nat) : Prop := sr ≤ 2 ∧ (sr = 0 ↔ spoilt bl) ∧ (sr = 2 ↔ wholeF bl) ∧ (sr = 1 → ckInv bl ck) ∧ (sr = 2 → ck = allL bl)
theorem begBad_2 {bl : List Nat} (h : ¬ begBad bl) (hl : 10 ≤ bl.length) : 6 ≤ bl.getD 2 0 ∧ bl.getD 2 0 ≤ 45 := by unfold begBad at h; omega
theorem frR_1 {bl : List Nat} {j ck : Nat} (h2 : ¬ begBad bl) (h3 : 10 ≤ bl.length) (h4 : sumOK bl 0 8) (h9 : 16 * j < plL bl) (hb : ∀ k, k < j → blkOK bl k) (hc : ck = 10 + 18 * j ∧ ck ≤ bl.length) (hn : bl.length < 10 + 18 * j + min (plL bl - 16 * j) 16 + 2) : frR bl 1 ck := by
  have hs : ¬ spoilt bl := by
    rintro (h | ⟨-, ⟨-, h⟩ | ⟨k, k1, k2, k3⟩⟩)
    · exact h2 h
    · exact h h4
    · exact k3 (hb k (by omega))
  have hw : ¬ wholeF bl := fun h => by
    have := h.2.2
    unfold allL at this
    omega
  exact ⟨by decide, ⟨fun h => absurd h (by decide), fun h => absurd h hs⟩, ⟨fun h => absurd h (by decide), fun h => absurd h hw⟩, fun _ => Or.inr ⟨j, hc.1, h2, h3, h4, h9, hc.2, hb⟩, fun h => absurd h (by decide)⟩
theorem frR_0 {bl : List Nat} {j ck : Nat} (h3 : 10 ≤ bl.length) (h9 : 16 * j < plL bl) (ht : 10 + 18 * j + min (plL bl - 16 * j) 16 + 2 ≤ bl.length) (hw : ¬ blkOK bl j) : frR bl 0 ck := by
  have hs : spoilt bl := Or.inr ⟨by omega, Or.inr ⟨j, h9, ht, hw⟩⟩
  exact ⟨by decide, ⟨fun _ => hs, fun _ => rfl⟩, ⟨fun h => absurd h (by decide), fun h => absurd hs h.1⟩, fun h => absurd h (by decide), fun h => absurd h (by decide)⟩
theorem frR_2 {bl : List Nat} {j ck : Nat} (h2 : ¬ begBad bl) (h3 : 10 ≤ bl.length) (h4 : sumOK bl 0 8) (hb : ∀ k, k < j → blkOK bl k) (hp : plL bl ≤ 16 * j) (hj : 16 * j < plL bl + 16) (hc : ck = 10 + min (16 * j) (plL bl) + 2 * j) (hl : ck ≤ bl.length) : frR bl 2 ck := by
  have hs : ¬ spoilt bl := by
    rintro (h | ⟨-, ⟨-, h⟩ | ⟨k, k1, k2, k3⟩⟩)
    · exact h2 h
    · exact h h4
    · exact k3 (hb k (by omega))
  have ha : ck = allL bl := by unfold allL; omega
  have hw : wholeF bl := ⟨hs, by omega, by omega⟩
  exact ⟨by decide, ⟨fun h => absurd h (by decide), fun h => absurd h hs⟩, ⟨fun _ => hw, fun _ => rfl⟩, fun h => absurd h (by decide), fun _ => ha⟩
theorem left_nat {x : Int32} {a j : Nat} (h : x.toInt = (a : Int) - 16 * (j : Int)) (hx : ¬ x ≤ 0) (ha : a < 1073741824) : ∃ L : Nat, L = a - 16 * j ∧ x = nI L := by
  have h1 : ¬ x.toInt ≤ 0 := fun z => hx (Int32.le_iff_toInt_le.mpr z)
  refine ⟨a - 16 * j, rfl, Int32.toInt_inj.mp ?_⟩
  rw [nI_toInt (by omega), h]
  omega
theorem left_lt {x : Int32} {a j : Nat} (h : x.toInt = (a : Int) - 16 * (j : Int)) (hx : ¬ x ≤ 0) : 16 * j < a := by
  have h1 : ¬ x.toInt ≤ 0 := fun z => hx (Int32.le_iff_toInt_le.mpr z)
  omega
theorem left_ge {x : Int32} {a j : Nat} (h : x.toInt = (a : Int) - 16 * (j : Int)) (hx : x ≤ 0) : a ≤ 16 * j := by
  have h1 : x.toInt ≤ 0 := Int32.le_iff_toInt_le.mp hx
  omega
theorem left_next {L : Nat} (h : L < 1073741824) : (nI L + Int32.ofInt (-16)).toInt = (L : Int) - 16 := by
  rw [show nI L + Int32.ofInt (-16) = nI L - nI 16 from by rw [Int32.sub_eq_add_neg]; rfl]
  exact pk_sub_toInt h (by decide)
