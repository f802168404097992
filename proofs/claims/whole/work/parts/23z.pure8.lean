/-! rows of kit/laws/BITS.to-paste (wb_ family), then OWN ROWS: bytes of longs, questions. -/
theorem wb_tb (n : Nat) : (lN n).toBitVec = BitVec.ofNat 64 n := rfl
theorem wb_inj {a b : Int64} (h : a.toBitVec = b.toBitVec) : a = b := Int64.toBitVec_inj.mp h
theorem wb_tn {n : Nat} (h : n < 2 ^ 64) : (lN n).toBitVec.toNat = n := by rw [wb_tb, BitVec.toNat_ofNat, Nat.mod_eq_of_lt h]
theorem wb_of (x : Int64) : ∃ n, n < 2 ^ 64 ∧ x = lN n := ⟨x.toBitVec.toNat, x.toBitVec.isLt, wb_inj (by rw [wb_tb]; simp)⟩
theorem wb_of32 (x : Int32) : ∃ n, n < 2 ^ 32 ∧ x = nI n := ⟨x.toBitVec.toNat, x.toBitVec.isLt, Int32.toBitVec_inj.mp (by show _ = BitVec.ofNat 32 _; simp)⟩
theorem wb_c : ∀ k, k < 64 → ((nI k).toInt64 &&& 63) = lN k := by decide +kernel
theorem wb_cu : ∀ k, k < 64 → ((nI k).toInt64.toUInt64 &&& Int64.toUInt64 63) = UInt64.ofNat k := by decide +kernel
theorem wb_sm : ∀ k, k < 64 → (BitVec.ofNat 64 k).smod 64 = BitVec.ofNat 64 k := by decide +kernel
theorem wb_pw {a b : Nat} (h : a ≤ b) : 2 ^ b = 2 ^ a * 2 ^ (b - a) := by rw [← Nat.pow_add]; congr 1; omega
theorem wb_lt2 {a b : Nat} (h : a < b) : 2 ^ a < 2 ^ b := Nat.pow_lt_pow_right (by decide) h
theorem wb_mod (n : Nat) : lN n = lN (n % 2 ^ 64) := wb_inj (by rw [wb_tb, wb_tb]; apply BitVec.eq_of_toNat_eq; rw [BitVec.toNat_ofNat, BitVec.toNat_ofNat, Nat.mod_mod])
theorem wb_shr {n k : Nat} (hn : n < 2 ^ 64) (hk : k < 64) : ((lN n).toUInt64 >>> ((nI k).toInt64.toUInt64 &&& Int64.toUInt64 63)).toInt64 = lN (n / 2 ^ k) := by
  rw [wb_cu k hk]
  apply wb_inj
  apply BitVec.eq_of_toNat_eq
  show ((lN n).toUInt64 >>> UInt64.ofNat k).toNat = (BitVec.ofNat 64 _).toNat
  have h1 : (UInt64.ofNat k).toNat = k := by
    show (BitVec.ofNat 64 k).toNat = k
    rw [BitVec.toNat_ofNat, Nat.mod_eq_of_lt (by omega)]
  have h2 : (lN n).toUInt64.toNat = n := wb_tn hn
  rw [UInt64.toNat_shiftRight, h1, h2, Nat.mod_eq_of_lt hk, Nat.shiftRight_eq_div_pow, BitVec.toNat_ofNat, Nat.mod_eq_of_lt (Nat.lt_of_le_of_lt (Nat.div_le_self _ _) hn)]
theorem wb_and {a b : Nat} (ha : a < 2 ^ 64) (hb : b < 2 ^ 64) : lN a &&& lN b = lN (a &&& b) := by
  apply wb_inj
  rw [Int64.toBitVec_and, wb_tb, wb_tb, wb_tb]
  apply BitVec.eq_of_toNat_eq
  rw [BitVec.toNat_and, BitVec.toNat_ofNat, BitVec.toNat_ofNat, BitVec.toNat_ofNat, Nat.mod_eq_of_lt ha, Nat.mod_eq_of_lt hb, Nat.mod_eq_of_lt (Nat.and_lt_two_pow _ hb)]
theorem wb_mask {n k : Nat} (hn : n < 2 ^ 64) (hk : k < 64) : lN n &&& lN (2 ^ k - 1) = lN (n % 2 ^ k) := by
  rw [wb_and hn (by have := wb_lt2 hk; omega), Nat.and_two_pow_sub_one_eq_mod]
/-- byte k, word k of a long -/
def lb (x : Int64) (k : Nat) : Nat := x.toBitVec.toNat / 2 ^ (8 * k) % 256
def lw (x : Int64) (k : Nat) : Nat := x.toBitVec.toNat / 2 ^ (16 * k) % 65536
theorem lb_lt (x : Int64) (k : Nat) : lb x k < 256 := Nat.mod_lt _ (by decide)
theorem lw_lt (x : Int64) (k : Nat) : lw x k < 65536 := Nat.mod_lt _ (by decide)
theorem nI_tn (n : Nat) : (nI n).toBitVec.toNat = n % 4294967296 := BitVec.toNat_ofNat ..
theorem ushr_tn (x : Int64) {sh : Nat} (hs : sh < 64) : ((x.toUInt64 >>> ((nI sh).toInt64.toUInt64 &&& Int64.toUInt64 63)).toInt64.toInt32).toBitVec.toNat = x.toBitVec.toNat / 2 ^ sh % 4294967296 := by
  obtain ⟨n, hn, rfl⟩ := wb_of x
  rw [wb_shr hn hs, lN_i, nI_tn, wb_tn hn]
theorem lb_ush (x : Int64) {k sh : Nat} (h : sh = 8 * k) (hk : k < 8) : ((x.toUInt64 >>> ((nI sh).toInt64.toUInt64 &&& Int64.toUInt64 63)).toInt64.toInt32).toBitVec.toNat % 256 = lb x k := by
  rw [ushr_tn x (by omega), h]
  unfold lb
  omega
theorem lw_1 (x : Int64) : ((x.toUInt64 >>> ((nI 16).toInt64.toUInt64 &&& Int64.toUInt64 63)).toInt64.toInt32).toBitVec.toNat % 65536 = lw x 1 := by
  rw [ushr_tn x (by decide)]
  unfold lw
  omega
theorem lw_0 (x : Int64) : x.toInt32.toBitVec.toNat % 65536 = lw x 0 := by
  obtain ⟨n, hn, rfl⟩ := wb_of x
  rw [lN_i, nI_tn]
  unfold lw
  rw [wb_tn hn]
  omega
def bitsN (fb : Nat → Int32) (x0 : Nat) : Nat → Nat
  | 0 => 0
  | n + 1 => bitsN fb x0 n + (if fb (x0 + n) = 1 then 2 ^ n else 0)
theorem bitsN_lt (fb : Nat → Int32) (x0 : Nat) : ∀ n, bitsN fb x0 n < 2 ^ n
  | 0 => Nat.zero_lt_one
  | n + 1 => by
    have := bitsN_lt fb x0 n
    show bitsN fb x0 n + (if fb (x0 + n) = 1 then 2 ^ n else 0) < 2 ^ (n + 1)
    rw [Nat.pow_succ]
    split <;> omega
theorem or_bit : ∀ n, n < 8 → ∀ a, a < 2 ^ n → nI a ||| ((1 : Int32) <<< (nI n &&& 31)) = nI (a + 2 ^ n) := by decide +kernel
theorem or_bit0 : ∀ n, n < 8 → ∀ a, a < 2 ^ n → nI a ||| ((0 : Int32) <<< (nI n &&& 31)) = nI a := by decide +kernel
theorem bits_or {fb : Nat → Int32} {x0 n : Nat} (hn : n < 8) (h : fb (x0 + n) = 0 ∨ fb (x0 + n) = 1) : nI (bitsN fb x0 n) ||| (fb (x0 + n) <<< (nI n &&& 31)) = nI (bitsN fb x0 (n + 1)) := by
  have hl := bitsN_lt fb x0 n
  show _ = nI (bitsN fb x0 n + (if fb (x0 + n) = 1 then 2 ^ n else 0))
  rcases h with h | h
  · rw [h, or_bit0 n hn _ hl, if_neg (by decide), Nat.add_zero]
  · rw [h, or_bit n hn _ hl, if_pos rfl]
theorem ush16 (v : Int32) : (v.toUInt32 >>> ((nI 16).toUInt32 &&& Int32.toUInt32 31)).toInt32 = nI (v.toBitVec.toNat / 65536) := by
  apply Int32.toBitVec_inj.1
  apply BitVec.eq_of_toNat_eq
  rw [pk_ushr v (nI 16) 16 (s_u 16 (by decide)), nI_tn]
  have := v.toBitVec.isLt
  omega
def wordB (fa : Nat → Int32) (w : Nat) : List Nat := if w % 2 = 0 then [sbv (fa (w / 2)) 3, sbv (fa (w / 2)) 2] else [sbv (fa (w / 2)) 1, sbv (fa (w / 2)) 0]
theorem wordB_0 {fa : Nat → Int32} {w : Nat} (h : w % 2 = 0) : wordB fa w = [(fa (w / 2)).toBitVec.toNat / 65536 / 256, byte8 (nI ((fa (w / 2)).toBitVec.toNat / 65536))] := by
  unfold wordB sbv
  have := (fa (w / 2)).toBitVec.isLt
  rw [if_pos h, byte8_nI (by omega)]
  congr 1
  omega
theorem wordB_1 {fa : Nat → Int32} {w : Nat} (h : ¬ w % 2 = 0) : wordB fa w = [(fa (w / 2)).toBitVec.toNat % 65536 / 256, byte8 (nI ((fa (w / 2)).toBitVec.toNat % 65536))] := by
  unfold wordB sbv
  have := (fa (w / 2)).toBitVec.isLt
  rw [if_neg h, byte8_nI (by omega)]
  congr 1
  · omega
  · congr 1
    omega
def wdV (fa : Nat → Int32) (x0 : Nat) : Nat → List Nat
  | 0 => []
  | n + 1 => wdV fa x0 n ++ wordB fa (x0 + n)
theorem wdV_succ (fa : Nat → Int32) (x0 n : Nat) : wdV fa x0 (n + 1) = wdV fa x0 n ++ wordB fa (x0 + n) := rfl
theorem wdV_len (fa : Nat → Int32) (x0 : Nat) : ∀ n, (wdV fa x0 n).length = 2 * n
  | 0 => rfl
  | n + 1 => by
    rw [wdV_succ, List.length_append, wdV_len fa x0 n]
    have : (wordB fa (x0 + n)).length = 2 := by unfold wordB; split <;> rfl
    omega
def asA (fb fa : Nat → Int32) (fn x0 my : Nat) : List Nat := if my < 1 ∨ (if fn = 1 then 8 else 4) < my then [fn % 128 + 128, 3] else if (if fn = 1 then 8 else 16) < x0 + my then [fn % 128 + 128, 2] else if fn = 1 then [1, 1, bitsN fb x0 my] else [4, 2 * my] ++ wdV fa x0 my
def asT (fb fa : Nat → Int32) (x : Int64) (n : Nat) : List Nat := if lb x (n - 1) ≠ 1 ∧ lb x (n - 1) ≠ 4 then [lb x (n - 1) % 128 + 128, 1] else if n ≠ 5 then [lb x (n - 1) % 128 + 128, 3] else asA fb fa (lb x (n - 1)) (lw x 1) (lw x 0)
