/-! OWN ROWS: the reference's questions. -/
theorem out_m1 {a b : Nat} (ha : a < 1073741824) (hb : b < 1073741824) : ((nI a - nI 1) < 0 ∨ nI b ≤ (nI a - nI 1)) ↔ (a < 1 ∨ b < a) := by
  have h := pk_sub_toInt (a := a) (b := 1) ha (by decide)
  rw [Int32.lt_iff_toInt_lt, Int32.le_iff_toInt_le, h, show (0 : Int32).toInt = 0 from rfl, nI_toInt (by omega)]
  omega
theorem bit_add : ∀ n, n < 8 → ∀ a, a < 2 ^ n → nI a + ((1 : Int32) <<< (nI n &&& 31)) = nI (a + 2 ^ n) := by decide +kernel
theorem bit_add0 : ∀ n, n < 8 → ((0 : Int32) <<< (nI n &&& 31)) = 0 := by decide +kernel
theorem bits_add {fb : Nat → Int32} {x0 n : Nat} (hn : n < 8) (h : fb (x0 + n) = 0 ∨ fb (x0 + n) = 1) : nI (bitsN fb x0 n) + (fb (x0 + n) <<< (nI n &&& 31)) = nI (bitsN fb x0 (n + 1)) := by
  have hl := bitsN_lt fb x0 n
  show _ = nI (bitsN fb x0 n + (if fb (x0 + n) = 1 then 2 ^ n else 0))
  rcases h with h | h
  · rw [h, bit_add0 n hn, if_neg (by decide), Nat.add_zero, Int32.add_zero]
  · rw [h, bit_add n hn _ hl, if_pos rfl]
theorem byte8_32 (v : Int32) : byte8 ((v >>> (nI 16 &&& 31)) >>> (nI 8 &&& 31)) = sbv v 3 := by
  unfold byte8 sbv
  have h1 : (v >>> (nI 16 &&& 31)).toInt = v.toInt >>> 16 := pk_shr v _ 16 (s_l 16 (by decide))
  have h1b : ((v >>> (nI 16 &&& 31)) >>> (nI 8 &&& 31)).toInt = (v >>> (nI 16 &&& 31)).toInt >>> 8 := pk_shr _ _ 8 (s_l 8 (by decide))
  have h2 := tn_ti ((v >>> (nI 16 &&& 31)) >>> (nI 8 &&& 31))
  have h3 := tn_ti v
  rw [h1b, h1, Int.shiftRight_eq_div_pow, Int.shiftRight_eq_div_pow] at h2
  generalize ((v >>> (nI 16 &&& 31)) >>> (nI 8 &&& 31)).toBitVec.toNat = a at h2 ⊢
  have h4 := v.toBitVec.isLt
  generalize v.toBitVec.toNat = b at h3 h4 ⊢
  generalize v.toInt = z at h2 h3
  simp only [Nat.reducePow, Nat.reduceMul] at *
  omega
theorem byte8_2 (v : Int32) : byte8 (v >>> (nI 16 &&& 31)) = sbv v 2 := sbv_shr (i := 2) (by decide)
theorem byte8_1 (v : Int32) : byte8 (v >>> (nI 8 &&& 31)) = sbv v 1 := sbv_shr (i := 1) (by decide)
theorem byte8_0 (v : Int32) : byte8 v = sbv v 0 := by
  unfold byte8 sbv
  simp
def rpI (fb fa : Nat → Int32) (fn x0 my i : Nat) (rpf : Nat → Int32) : Prop := (fn = 1 → rpf 0 = nI 1 ∧ rpf 1 = nI 1 ∧ rpf 2 = nI (bitsN fb x0 i)) ∧ (¬ fn = 1 → rpf 0 = nI fn ∧ rpf 1 = nI (2 * my) ∧ ∀ j, j < 2 * i → rpf (2 + j) = nI ((wdV fa x0 i).getD j 0))
theorem rpI_0 {fb fa rpf : Nat → Int32} {fn x0 my a : Nat} (h1 : fn = 1 → a = 1) (h2 : ¬ fn = 1 → a = 2 * my) : rpI fb fa fn x0 my 0 (upd (upd (upd rpf 0 (nI fn)) 1 (nI a)) 2 (nI 0)) := by
  refine ⟨fun h => ⟨by rw [h]; rfl, by rw [h1 h]; rfl, rfl⟩, fun h => ⟨rfl, by rw [h2 h]; rfl, fun j hj => by omega⟩⟩
theorem rpI_b {fb fa rpf : Nat → Int32} {fn x0 my i : Nat} (h : rpI fb fa fn x0 my i rpf) (hf : fn = 1) : rpI fb fa fn x0 my (i + 1) (upd rpf 2 (nI (bitsN fb x0 (i + 1)))) := by
  obtain ⟨h1, h2, h3⟩ := h.1 hf
  exact ⟨fun _ => ⟨h1, h2, rfl⟩, fun z => absurd hf z⟩
theorem rpI_w {fb fa rpf : Nat → Int32} {fn x0 my i p q a b : Nat} (h : rpI fb fa fn x0 my i rpf) (hf : ¬ fn = 1) (hw : wordB fa (x0 + i) = [a, b]) (hp : p = 2 + 2 * i) (hq : q = 3 + 2 * i) : rpI fb fa fn x0 my (i + 1) (upd (upd rpf p (nI a)) q (nI b)) := by
  obtain ⟨h1, h2, h3⟩ := h.2 hf
  have hl := wdV_len fa x0 i
  refine ⟨fun z => absurd z hf, fun _ => ⟨?_, ?_, fun j hj => ?_⟩⟩
  · have e1 : ¬ (0 : Nat) = p := by omega
    have e2 : ¬ (0 : Nat) = q := by omega
    simp only [upd, if_neg e1, if_neg e2]
    exact h1
  · have e1 : ¬ (1 : Nat) = p := by omega
    have e2 : ¬ (1 : Nat) = q := by omega
    simp only [upd, if_neg e1, if_neg e2]
    exact h2
  · rw [wdV_succ, hw]
    by_cases e : j < 2 * i
    · have e1 : ¬ 2 + j = p := by omega
      have e2 : ¬ 2 + j = q := by omega
      simp only [upd, if_neg e1, if_neg e2]
      rw [h3 j e]
      simp [List.getElem?_append_left (show j < (wdV fa x0 i).length by omega)]
    · by_cases e4 : j = 2 * i
      · have e1 : 2 + j = p := by omega
        have e2 : ¬ 2 + j = q := by omega
        simp only [upd, if_pos e1, if_neg e2]
        simp [List.getElem?_append_right (show (wdV fa x0 i).length ≤ j by omega), show j - (wdV fa x0 i).length = 0 by omega]
      · have e2 : 2 + j = q := by omega
        simp only [upd, if_pos e2]
        simp [List.getElem?_append_right (show (wdV fa x0 i).length ≤ j by omega), show j - (wdV fa x0 i).length = 1 by omega]
theorem wordB_e {fa : Nat → Int32} {w : Nat} (h : w % 2 = 0) : wordB fa w = [sbv (fa (w / 2)) 3, sbv (fa (w / 2)) 2] := if_pos h
theorem wordB_o {fa : Nat → Int32} {w : Nat} (h : ¬ w % 2 = 0) : wordB fa w = [sbv (fa (w / 2)) 1, sbv (fa (w / 2)) 0] := if_neg h
theorem wdV_lt (fa : Nat → Int32) (x0 : Nat) : ∀ n j, (wdV fa x0 n).getD j 0 < 256
  | 0, j => by simp [wdV]
  | n + 1, j => by
    rw [wdV_succ]
    by_cases e : j < (wdV fa x0 n).length
    · have := wdV_lt fa x0 n j
      simpa [List.getElem?_append_left e] using this
    · unfold wordB
      split
      · rcases (show j - (wdV fa x0 n).length = 0 ∨ j - (wdV fa x0 n).length = 1 ∨ 2 ≤ j - (wdV fa x0 n).length by omega) with h | h | h
        · simpa [List.getElem?_append_right (show (wdV fa x0 n).length ≤ j by omega), h] using sbv_lt _ _
        · simpa [List.getElem?_append_right (show (wdV fa x0 n).length ≤ j by omega), h] using sbv_lt _ _
        · rw [List.getD_eq_getElem?_getD, List.getElem?_eq_none (by simp; omega)]; decide
      · rcases (show j - (wdV fa x0 n).length = 0 ∨ j - (wdV fa x0 n).length = 1 ∨ 2 ≤ j - (wdV fa x0 n).length by omega) with h | h | h
        · simpa [List.getElem?_append_right (show (wdV fa x0 n).length ≤ j by omega), h] using sbv_lt _ _
        · simpa [List.getElem?_append_right (show (wdV fa x0 n).length ≤ j by omega), h] using sbv_lt _ _
        · rw [List.getD_eq_getElem?_getD, List.getElem?_eq_none (by simp; omega)]; decide
theorem rpI_e1 {fb fa rpf : Nat → Int32} {fn x0 my : Nat} (h : rpI fb fa fn x0 my my rpf) (hf : fn = 1) (hm : my ≤ 8) : okB 10 [1, 1, bitsN fb x0 my] rpf := by
  obtain ⟨h1, h2, h3⟩ := h.1 hf
  have hb := bitsN_lt fb x0 my
  have h8 : 2 ^ my ≤ 2 ^ 8 := Nat.pow_le_pow_right (by decide) hm
  refine ⟨by simp, by decide, fun j hj => ?_, fun j => ?_⟩
  · rcases (show j = 0 ∨ j = 1 ∨ j = 2 by simp at hj; omega) with rfl | rfl | rfl
    · exact h1
    · exact h2
    · exact h3
  · rcases (show j = 0 ∨ j = 1 ∨ j = 2 ∨ 3 ≤ j by omega) with rfl | rfl | rfl | h
    · exact (show (1 : Nat) < 256 by decide)
    · exact (show (1 : Nat) < 256 by decide)
    · show bitsN fb x0 my < 256
      omega
    · rw [List.getD_eq_getElem?_getD, List.getElem?_eq_none (by simp; omega)]; decide
theorem rpI_e4 {fb fa rpf : Nat → Int32} {fn x0 my : Nat} (h : rpI fb fa fn x0 my my rpf) (hf : fn = 4) (hm : my ≤ 4) : okB 10 ([4, 2 * my] ++ wdV fa x0 my) rpf := by
  obtain ⟨h1, h2, h3⟩ := h.2 (by omega)
  have hl := wdV_len fa x0 my
  refine ⟨by simp; omega, by decide, fun j hj => ?_, fun j => ?_⟩
  · rw [List.length_append] at hj
    simp only [List.length_cons, List.length_nil] at hj
    rcases (show j = 0 ∨ j = 1 ∨ 2 ≤ j by omega) with rfl | rfl | h9
    · rw [h1, hf]; rfl
    · exact h2
    · have := h3 (j - 2) (by omega)
      rw [show 2 + (j - 2) = j by omega] at this
      rw [this]
      rw [List.getD_eq_getElem?_getD, List.getD_eq_getElem?_getD, List.getElem?_append_right (by simp; omega)]
      rfl
  · rcases (show j = 0 ∨ j = 1 ∨ 2 ≤ j by omega) with rfl | rfl | h9
    · exact (show (4 : Nat) < 256 by decide)
    · show 2 * my < 256; omega
    · have := wdV_lt fa x0 my (j - 2)
      rw [List.getD_eq_getElem?_getD, List.getElem?_append_right (by simp; omega)]
      rw [List.getD_eq_getElem?_getD] at this
      exact this
theorem okB_2 {rpf : Nat → Int32} {a b : Nat} (ha : a < 256) (hb : b < 256) : okB 10 [a, b] (upd (upd rpf 0 (nI a)) 1 (nI b)) := by
  refine ⟨by simp, by decide, fun j hj => ?_, fun j => ?_⟩
  · rcases (show j = 0 ∨ j = 1 by simp at hj; omega) with rfl | rfl <;> rfl
  · rcases (show j = 0 ∨ j = 1 ∨ 2 ≤ j by omega) with rfl | rfl | h
    · exact ha
    · exact hb
    · rw [List.getD_eq_getElem?_getD, List.getElem?_eq_none (by simp; omega)]; decide
section AS
variable {fb fa : Nat → Int32} {x : Int64} {n : Nat}
theorem as_1 (h : ¬ lb x (n - 1) = 1) (h2 : ¬ lb x (n - 1) = 4) : asT fb fa x n = [lb x (n - 1) % 128 + 128, 1] := by unfold asT; rw [if_pos ⟨h, h2⟩]
theorem as_3a (h : lb x (n - 1) = 1 ∨ lb x (n - 1) = 4) (h5 : ¬ n = 5) : asT fb fa x n = [lb x (n - 1) % 128 + 128, 3] := by unfold asT; rw [if_neg (by omega), if_pos h5]
theorem as_3b (h5 : n = 5) (h : (lb x (n - 1) = 1 ∧ (lw x 0 < 1 ∨ 8 < lw x 0)) ∨ (lb x (n - 1) = 4 ∧ (lw x 0 < 1 ∨ 4 < lw x 0))) : asT fb fa x n = [lb x (n - 1) % 128 + 128, 3] := by
  unfold asT asA
  rw [if_neg (by omega), if_neg (by omega)]
  rcases h with ⟨h, h2⟩ | ⟨h, h2⟩
  · rw [if_pos (by rw [if_pos h]; omega)]
  · rw [if_pos (by rw [if_neg (show ¬ lb x (n - 1) = 1 by omega)]; omega)]
theorem as_2 (h5 : n = 5) (h : (lb x (n - 1) = 1 ∧ (1 ≤ lw x 0 ∧ lw x 0 ≤ 8) ∧ 8 < lw x 1 + lw x 0) ∨ (lb x (n - 1) = 4 ∧ (1 ≤ lw x 0 ∧ lw x 0 ≤ 4) ∧ 16 < lw x 1 + lw x 0)) : asT fb fa x n = [lb x (n - 1) % 128 + 128, 2] := by
  unfold asT asA
  rw [if_neg (by omega), if_neg (by omega)]
  rcases h with ⟨h, h2⟩ | ⟨h, h2⟩
  · rw [if_neg (by rw [if_pos h]; omega), if_pos (by rw [if_pos h]; omega)]
  · rw [if_neg (by rw [if_neg (show ¬ lb x (n - 1) = 1 by omega)]; omega), if_pos (by rw [if_neg (show ¬ lb x (n - 1) = 1 by omega)]; omega)]
theorem as_b (h5 : n = 5) (h : lb x (n - 1) = 1) (h2 : (1 ≤ lw x 0 ∧ lw x 0 ≤ 8) ∧ lw x 1 + lw x 0 ≤ 8) : asT fb fa x n = [1, 1, bitsN fb (lw x 1) (lw x 0)] := by
  unfold asT asA
  rw [if_neg (by omega), if_neg (by omega), if_neg (by rw [if_pos h]; omega), if_neg (by rw [if_pos h]; omega), if_pos h]
theorem as_w (h5 : n = 5) (h : lb x (n - 1) = 4) (h2 : (1 ≤ lw x 0 ∧ lw x 0 ≤ 4) ∧ lw x 1 + lw x 0 ≤ 16) : asT fb fa x n = [4, 2 * lw x 0] ++ wdV fa (lw x 1) (lw x 0) := by
  unfold asT asA
  rw [if_neg (by omega), if_neg (by omega), if_neg (by rw [if_neg (show ¬ lb x (n - 1) = 1 by omega)]; omega), if_neg (by rw [if_neg (show ¬ lb x (n - 1) = 1 by omega)]; omega), if_neg (show ¬ lb x (n - 1) = 1 by omega)]
end AS
