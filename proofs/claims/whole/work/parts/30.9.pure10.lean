/-! OWN ROWS: for the reference. -/
theorem valB_k {k : Nat} {v : Int32} {i : Nat} (hk : k < 2) (h0 : k = 0 → i = 0) (h1 : ¬ k = 0 → i = 4) : (if k = 0 then [byte8 (nI 1 + nI 128 * v)] else [1]) ++ (List.range i).map (sbv v) = valB k v := by
  by_cases h : k = 0
  · rw [if_pos h, h0 h, valB_0 h]; rfl
  · rw [if_neg h, h1 h, valB_1 h]; rfl
theorem s_l : ∀ n, n < 32 → ((nI n &&& 31).toBitVec.smod 32).toNat = n := by decide +kernel
theorem tn_ti (v : Int32) : (v.toBitVec.toNat : Int) = v.toInt % 4294967296 := by
  have h : v.toInt = if 2 * v.toBitVec.toNat < 2 ^ 32 then (v.toBitVec.toNat : Int) else (v.toBitVec.toNat : Int) - (2 ^ 32 : Nat) := BitVec.toInt_eq_toNat_cond v.toBitVec
  have h2 := v.toBitVec.isLt
  split at h <;> omega
theorem sbv_shr0 {v : Int32} {i p : Nat} (hi : 8 * i < 32) (hp : 2 ^ (8 * i) = p) (hp0 : p = 1 ∨ p = 256 ∨ p = 65536 ∨ p = 16777216) : byte8 (v >>> (nI (8 * i) &&& 31)) = v.toBitVec.toNat / p % 256 := by
  unfold byte8
  have h1 : (v >>> (nI (8 * i) &&& 31)).toInt = v.toInt >>> (8 * i) := pk_shr v _ (8 * i) (s_l (8 * i) hi)
  have h2 := tn_ti (v >>> (nI (8 * i) &&& 31))
  have h3 := tn_ti v
  rw [h1, Int.shiftRight_eq_div_pow, hp] at h2
  generalize (v >>> (nI (8 * i) &&& 31)).toBitVec.toNat = a at h2 ⊢
  generalize v.toBitVec.toNat = b at h3 ⊢
  generalize v.toInt = z at h2 h3
  rcases hp0 with rfl | rfl | rfl | rfl <;> omega
theorem sbv_shr {v : Int32} {i : Nat} (hi : i < 4) : byte8 (v >>> (nI (8 * i) &&& 31)) = sbv v i := by
  unfold sbv
  refine sbv_shr0 (by omega) rfl ?_
  rcases (show i = 0 ∨ i = 1 ∨ i = 2 ∨ i = 3 by omega) with rfl | rfl | rfl | rfl <;> decide
