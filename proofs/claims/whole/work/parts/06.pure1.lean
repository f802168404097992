/-! OWN ROWS: numbers, bytes, sums, rows of bytes. -/
theorem nI_max {a b : Nat} (ha : a < 2147483648) (hb : b < 2147483648) : (if nI a < nI b then nI b else nI a) = nI (max a b) := by
  by_cases h : a < b
  · rw [if_pos ((nI_ltI ha hb).mpr h), Nat.max_eq_right (Nat.le_of_lt h)]
  · rw [if_neg (fun z => h ((nI_ltI ha hb).mp z)), Nat.max_eq_left (Nat.le_of_not_lt h)]
theorem nI_min {a b : Nat} (ha : a < 2147483648) (hb : b < 2147483648) : (if nI b < nI a then nI b else nI a) = nI (min a b) := by
  by_cases h : b < a
  · rw [if_pos ((nI_ltI hb ha).mpr h), Nat.min_eq_right (Nat.le_of_lt h)]
  · rw [if_neg (fun z => h ((nI_ltI hb ha).mp z)), Nat.min_eq_left (Nat.le_of_not_lt h)]
theorem nx_xor (a b : Nat) : nI a ^^^ nI b = nI (a ^^^ b) := by
  apply Int32.toBitVec_inj.1
  show BitVec.ofNat 32 a ^^^ BitVec.ofNat 32 b = BitVec.ofNat 32 (a ^^^ b)
  apply BitVec.eq_of_getLsbD_eq
  intro i hi
  simp [BitVec.getLsbD_xor, BitVec.getLsbD_ofNat, hi, Nat.testBit_xor]
def byte8 (x : Int32) : Nat := x.toBitVec.toNat % 256
theorem byte8_lt (x : Int32) : byte8 x < 256 := Nat.mod_lt _ (by decide)
theorem byte8_nI {n : Nat} (h : n < 4294967296) : byte8 (nI n) = n % 256 := by
  unfold byte8
  rw [pk_tn h]
def mix1 (v : Nat) : Nat := if v % 2 = 1 then (v / 2) ^^^ 42684 else v / 2
theorem mix1_lt {v : Nat} (h : v < 65536) : mix1 v < 65536 := by
  unfold mix1
  split
  · exact Nat.xor_lt_two_pow (n := 16) (by omega) (by decide)
  · omega
def mixk : Nat → Nat → Nat
  | 0, v => v
  | k + 1, v => mixk k (mix1 v)
theorem mixk_succ' : ∀ (k v : Nat), mixk (k + 1) v = mix1 (mixk k v)
  | 0, _ => rfl
  | k + 1, v => mixk_succ' k (mix1 v)
theorem mixk_lt : ∀ (k : Nat) {v : Nat}, v < 65536 → mixk k v < 65536
  | 0, _, h => h
  | k + 1, _, h => mixk_lt k (mix1_lt h)
def mixB (c b : Nat) : Nat := mixk 8 (c ^^^ b)
theorem xor_lt16 {a b : Nat} (ha : a < 65536) (hb : b < 65536) : a ^^^ b < 65536 := Nat.xor_lt_two_pow (n := 16) ha hb
theorem mixB_lt {c b : Nat} (hc : c < 65536) (hb : b < 256) : mixB c b < 65536 := mixk_lt 8 (xor_lt16 hc (by omega))
/-- a row of bytes in an array of 'cap' places -/
def okB (cap : Nat) (bl : List Nat) (f : Nat → Int32) : Prop := bl.length ≤ cap ∧ cap ≤ 256 ∧ (∀ j, j < bl.length → f j = nI (bl.getD j 0)) ∧ ∀ j, bl.getD j 0 < 256
theorem okB_nil {cap : Nat} (h : cap ≤ 256) (f : Nat → Int32) : okB cap [] f := ⟨Nat.zero_le _, h, fun j hj => absurd hj (Nat.not_lt_zero _), fun j => by simp⟩
theorem okB_push {cap : Nat} {bl : List Nat} {f : Nat → Int32} {b : Nat} (h : okB cap bl f) (hl : bl.length < cap) (hb : b < 256) : okB cap (bl ++ [b]) (upd f bl.length (nI b)) := by
  obtain ⟨h1, h2, h3, h4⟩ := h
  refine ⟨by simp; omega, h2, fun j hj => ?_, fun j => ?_⟩
  · rw [List.length_append, List.length_singleton] at hj
    by_cases e : j = bl.length
    · subst e
      simp [upd]
    · have : j < bl.length := by omega
      simp only [upd, if_neg e]
      rw [h3 j this]
      simp [List.getElem?_append_left this]
  · by_cases e : j < bl.length
    · have := h4 j
      simpa [List.getElem?_append_left e] using this
    · by_cases e2 : j = bl.length
      · subst e2; simpa using hb
      · have : bl.length + 1 ≤ j := by omega
        simp [List.getElem?_eq_none (l := bl ++ [b]) (i := j) (by simp; omega)]
theorem okB_drop {cap : Nat} {bl : List Nat} {f : Nat → Int32} {n : Nat} (h : okB cap bl f) (hn : n ≤ bl.length) : okB cap (bl.drop n) (va_cpy f f n 0 (bl.length - n)) := by
  obtain ⟨h1, h2, h3, h4⟩ := h
  refine ⟨by simp; omega, h2, fun j hj => ?_, fun j => ?_⟩
  · rw [List.length_drop] at hj
    rw [pk_cpy_in (Nat.zero_le _) (by omega), Nat.sub_zero, h3 _ (by omega)]
    simp
  · have := h4 (n + j)
    simpa using this
theorem okB_set {cap : Nat} {bl : List Nat} {f : Nat → Int32} {i b : Nat} (h : okB cap bl f) (hi : i < bl.length) (hb : b < 256) : okB cap (bl.set i b) (upd f i (nI b)) := by
  obtain ⟨h1, h2, h3, h4⟩ := h
  refine ⟨by simpa using h1, h2, fun j hj => ?_, fun j => ?_⟩
  · rw [List.length_set] at hj
    by_cases e : j = i
    · subst e; simp [upd, hi]
    · simp only [upd, if_neg e]
      rw [h3 j hj]
      simp [List.getElem?_set_ne (Ne.symm e)]
  · by_cases e : j = i
    · subst e; simpa [hi] using hb
    · have := h4 j
      simpa [List.getElem?_set_ne (Ne.symm e)] using this
theorem getD_big {bl : List Nat} {i : Nat} (h : bl.length ≤ i) : bl.getD i 0 = 0 := by simp [List.getElem?_eq_none (l := bl) (i := i) h]
/-- the bytes of a value as an answer has it -/
def sbv (v : Int32) (k : Nat) : Nat := v.toBitVec.toNat / 2 ^ (8 * k) % 256
theorem sbv_lt (v : Int32) (k : Nat) : sbv v k < 256 := Nat.mod_lt _ (by decide)
def valB (kind : Nat) (v : Int32) : List Nat := if kind = 0 then [byte8 (1 + 128 * v)] else 1 :: (List.range 4).map (sbv v)
theorem valB_len (kind : Nat) (v : Int32) : (valB kind v).length = if kind = 0 then 1 else 5 := by
  unfold valB
  split <;> simp
