/-! OWN ROWS: bytes of longs by the other shift; frames and bytes heard, for both. -/
theorem sar_and (x : Int64) {s w : Nat} (hs : s + w ≤ 64) (hw : w < 64) (hs2 : s < 64) : ((x >>> ((nI s).toInt64 &&& 63)) &&& lN (2 ^ w - 1)) = lN (x.toBitVec.toNat / 2 ^ s % 2 ^ w) := by
  rw [wb_c s hs2]
  apply wb_inj
  apply BitVec.eq_of_getLsbD_eq
  intro i hi
  rw [Int64.toBitVec_and, BitVec.getLsbD_and, Int64.toBitVec_shiftRight, wb_tb, wb_tb, wb_tb, wb_sm s hs2, BitVec.sshiftRight', BitVec.getLsbD_sshiftRight, BitVec.toNat_ofNat, Nat.mod_eq_of_lt (show s < 2 ^ 64 from Nat.lt_trans hs2 (by decide)), BitVec.getLsbD_ofNat, BitVec.getLsbD_ofNat, Nat.testBit_two_pow_sub_one, Nat.testBit_mod_two_pow, Nat.testBit_div_two_pow]
  by_cases h : i < w
  · have e2 : s + i < 64 := by omega
    simp only [hi, h, e2, decide_true, Bool.true_and, Bool.and_true, if_true, Nat.not_le.mpr hi, decide_false, Bool.not_false]
    rw [Nat.add_comm s i]
    rfl
  · simp only [h, decide_false, Bool.false_and, Bool.and_false]
theorem lb_sar (x : Int64) {k : Nat} (hk : k < 8) : ((x >>> ((nI (8 * k)).toInt64 &&& 63)) &&& 255).toInt32 = nI (lb x k) := by
  have h := sar_and x (s := 8 * k) (w := 8) (by omega) (by decide) (by omega)
  rw [show (255 : Int64) = lN (2 ^ 8 - 1) from rfl, h, lN_i]
  rfl
theorem lw_sar (x : Int64) : ((x >>> ((nI 16).toInt64 &&& 63)) &&& 65535).toInt32 = nI (lw x 1) := by
  have h := sar_and x (s := 16) (w := 16) (by decide) (by decide) (by decide)
  rw [show (65535 : Int64) = lN (2 ^ 16 - 1) from rfl, h, lN_i]
  rfl
theorem lw_and (x : Int64) : (x &&& 65535).toInt32 = nI (lw x 0) := by
  obtain ⟨n, hn, rfl⟩ := wb_of x
  rw [show (65535 : Int64) = lN (2 ^ 16 - 1) from rfl, wb_mask hn (by decide), lN_i]
  unfold lw
  rw [wb_tn hn, show 2 ^ (16 * 0) = 1 from rfl, Nat.div_one]
theorem down_nat {x : Int32} {a j : Nat} (h : x.toInt = (a : Int) - 1 - (j : Int)) (hx : ¬ x < 0) (ha : a < 1073741824) : ∃ L : Nat, L = a - 1 - j ∧ j < a ∧ x = nI L := by
  have h1 : ¬ x.toInt < 0 := fun z => hx (Int32.lt_iff_toInt_lt.mpr z)
  refine ⟨a - 1 - j, rfl, by omega, Int32.toInt_inj.mp ?_⟩
  rw [nI_toInt (by omega), h]
  omega
theorem down_ge {x : Int32} {a j : Nat} (h : x.toInt = (a : Int) - 1 - (j : Int)) (hx : x < 0) : a ≤ j := by
  have h1 : x.toInt < 0 := Int32.lt_iff_toInt_lt.mp hx
  omega
theorem down_next {L : Nat} (h : L < 1073741824) : (nI L + Int32.ofInt (-1)).toInt = (L : Int) - 1 := by
  rw [show nI L + Int32.ofInt (-1) = nI L - nI 1 from by rw [Int32.sub_eq_add_neg]; rfl]
  exact pk_sub_toInt h (by decide)
theorem down_0 {n : Nat} (h1 : 1 ≤ n) (h : n < 1073741824) : (nI (n - 1)).toInt = (n : Int) - 1 - (0 : Nat) := by
  rw [nI_toInt (by omega)]
  omega
/-- parts: begun, number, from, fragment -/
abbrev PtT : Type := Bool × Nat × Nat × List Nat
abbrev YT : Type := PtT × CoT
def tkE (fb fa : Nat → Int32) (t : Bool × Nat × Nat × List Nat × Bool) (X : CoT) : YT := ((t.1, t.2.1, t.2.2.1, t.2.2.2.1), if t.2.2.2.2 = true then rqS fb fa t.2.2.2.1 t.2.2.1 X else X)
def tkS (fb fa : Nat → Int32) (bl : List Nat) (Y : YT) : YT := tkE fb fa (takeS bl Y.1.1 Y.1.2.1 Y.1.2.2.1 Y.1.2.2.2) Y.2
def fwS (fb fa : Nat → Int32) (bl : List Nat) (Y : YT) : YT := if forThis bl then tkS fb fa bl Y else Y
section TK
variable {fb fa : Nat → Int32} {bl fl fl1 : List Nat} {bg : Bool} {nu fm nx fr : Nat} {X X2 : CoT}
theorem tk_no (h : takeS bl bg nu fm fl = (false, nu, fm, fl, false)) : ((false, nu, fm, fl), X) = tkS fb fa bl ((bg, nu, fm, fl), X) := by
  unfold tkS
  show _ = tkE fb fa (takeS bl bg nu fm fl) X
  rw [h]
  rfl
theorem tk_y (h : takeS bl bg nu fm fl = (false, nx, fr, fl1, true)) (e : X2 = rqS fb fa fl1 fr X) : ((false, nx, fr, fl1), X2) = tkS fb fa bl ((bg, nu, fm, fl), X) := by
  unfold tkS
  show _ = tkE fb fa (takeS bl bg nu fm fl) X
  rw [h, e]
  rfl
theorem tk_n (h : takeS bl bg nu fm fl = (true, nx, fr, fl1, false)) : ((true, nx, fr, fl1), X) = tkS fb fa bl ((bg, nu, fm, fl), X) := by
  unfold tkS
  show _ = tkE fb fa (takeS bl bg nu fm fl) X
  rw [h]
  rfl
end TK
/-- one look at the row: a whole frame is taken, or there is none -/
def tookR (fb fa : Nat → Int32) (tb : Bool) (bl : List Nat) (Y : YT) (bl2 : List Nat) (Y2 : YT) : Prop := ∃ bl1, cleanR bl bl1 ∧ ((tb = false ∧ ¬ wholeF bl1 ∧ bl2 = bl1 ∧ Y2 = Y) ∨ (tb = true ∧ wholeF bl1 ∧ bl2 = bl1.drop (allL bl1) ∧ Y2 = fwS fb fa bl1 Y))
/-- looks until there is no whole frame -/
def goR (fb fa : Nat → Int32) : Nat → List Nat → YT → List Nat → YT → Prop
  | 0, _, _, _, _ => False
  | n + 1, bl, Y, bl3, Y3 => (tookR fb fa false bl Y bl3 Y3) ∨ ∃ bl2 Y2, tookR fb fa true bl Y bl2 Y2 ∧ goR fb fa n bl2 Y2 bl3 Y3
theorem tookR_one {fb fa : Nat → Int32} {t1 t2 : Bool} {bl b1 b2 : List Nat} {Y Y1 Y2 : YT} (h1 : tookR fb fa t1 bl Y b1 Y1) (h2 : tookR fb fa t2 bl Y b2 Y2) : t1 = t2 ∧ b1 = b2 ∧ Y1 = Y2 := by
  obtain ⟨c1, e1, g1⟩ := h1
  obtain ⟨c2, e2, g2⟩ := h2
  have hc := cleanR_one e1 e2
  subst hc
  rcases g1 with ⟨p1, p2, p3, p4⟩ | ⟨p1, p2, p3, p4⟩ <;> rcases g2 with ⟨q1, q2, q3, q4⟩ | ⟨q1, q2, q3, q4⟩
  · exact ⟨by rw [p1, q1], by rw [p3, q3], by rw [p4, q4]⟩
  · exact absurd q2 p2
  · exact absurd p2 q2
  · exact ⟨by rw [p1, q1], by rw [p3, q3], by rw [p4, q4]⟩
theorem goR_one {fb fa : Nat → Int32} : ∀ {n k : Nat} {bl b1 b2 : List Nat} {Y Y1 Y2 : YT}, goR fb fa n bl Y b1 Y1 → goR fb fa k bl Y b2 Y2 → b1 = b2 ∧ Y1 = Y2
  | 0, _, _, _, _, _, _, _, h, _ => h.elim
  | _ + 1, 0, _, _, _, _, _, _, _, h => h.elim
  | n + 1, k + 1, bl, b1, b2, Y, Y1, Y2, h1, h2 => by
    rcases h1 with h1 | ⟨c1, Z1, t1, g1⟩ <;> rcases h2 with h2 | ⟨c2, Z2, t2, g2⟩
    · exact (tookR_one h1 h2).2
    · exact absurd (tookR_one h1 t2).1 (by decide)
    · exact absurd (tookR_one t1 h2).1 (by decide)
    · obtain ⟨-, e1, e2⟩ := tookR_one t1 t2
      subst e1 e2
      exact goR_one g1 g2
/-- i bytes of n in a long -/
def heR (fb fa : Nat → Int32) (x : Int64) (n : Nat) : Nat → List Nat → YT → List Nat → YT → Prop
  | 0, bl, Y, bl2, Y2 => bl2 = bl ∧ Y2 = Y
  | i + 1, bl, Y, bl3, Y3 => ∃ bl2 Y2, heR fb fa x n i bl Y bl2 Y2 ∧ ∃ m, goR fb fa m (bl2 ++ [lb x (n - 1 - i)]) Y2 bl3 Y3
theorem heR_one {fb fa : Nat → Int32} {x : Int64} {n : Nat} : ∀ {i : Nat} {bl b1 b2 : List Nat} {Y Y1 Y2 : YT}, heR fb fa x n i bl Y b1 Y1 → heR fb fa x n i bl Y b2 Y2 → b1 = b2 ∧ Y1 = Y2
  | 0, _, _, _, _, _, _, h1, h2 => ⟨by rw [h1.1, h2.1], by rw [h1.2, h2.2]⟩
  | i + 1, _, _, _, _, _, _, ⟨_, _, p1, _, p2⟩, ⟨_, _, q1, _, q2⟩ => by
    obtain ⟨e1, e2⟩ := heR_one p1 q1
    subst e1 e2
    exact goR_one p2 q2
theorem heR_step {fb fa : Nat → Int32} {x : Int64} {n i : Nat} {bl bl2 bl3 : List Nat} {Y Y2 Y3 : YT} (h : heR fb fa x n i bl Y bl2 Y2) (g : ∃ m, goR fb fa m (bl2 ++ [lb x (n - 1 - i)]) Y2 bl3 Y3) : heR fb fa x n (i + 1) bl Y bl3 Y3 := ⟨bl2, Y2, h, g⟩
theorem lt56 {bl : List Nat} (h1 : ¬ spoilt bl) (h2 : ¬ wholeF bl) : bl.length ≤ 55 := by
  by_cases h3 : 3 ≤ bl.length
  · have h4 := begBad_3 (fun z => h1 (Or.inl z)) h3
    have h5 : ¬ allL bl ≤ bl.length := fun z => h2 ⟨h1, h3, z⟩
    unfold allL plL at h5
    omega
  · omega
theorem cleanR_len {bl bl1 : List Nat} (h : cleanR bl bl1) : bl1.length ≤ bl.length := by
  obtain ⟨n, h1, -⟩ := h
  rw [h1, List.length_drop]
  omega
theorem tookR_len {fb fa : Nat → Int32} {tb : Bool} {bl bl2 : List Nat} {Y Y2 : YT} (h : tookR fb fa tb bl Y bl2 Y2) : bl2.length + (if tb = true then 1 else 0) ≤ bl.length := by
  obtain ⟨c1, e1, g1⟩ := h
  have hl := cleanR_len e1
  rcases g1 with ⟨p1, p2, p3, p4⟩ | ⟨p1, p2, p3, p4⟩
  · rw [p1, p3, if_neg (by decide)]; exact hl
  · rw [p1, p3, if_pos rfl, List.length_drop]
    have := p2.2.2
    have h9 : 10 ≤ allL c1 := by unfold allL; omega
    omega
theorem tookR_55 {fb fa : Nat → Int32} {bl bl2 : List Nat} {Y Y2 : YT} (h : tookR fb fa false bl Y bl2 Y2) : bl2.length ≤ 55 := by
  obtain ⟨c1, e1, g1⟩ := h
  rcases g1 with ⟨p1, p2, p3, p4⟩ | ⟨p1, p2, p3, p4⟩
  · rw [p3]; obtain ⟨n, h1, h2, h3, h4⟩ := e1; exact lt56 h4 p2
  · exact absurd p1 (by decide)
/-- a loop of looks: what is left to do, and what is done -/
def lkR (fb fa : Nat → Int32) (mr : Bool) (bl0 : List Nat) (Y0 : YT) (bl : List Nat) (Y : YT) : Prop := if mr = true then (∀ b3 Y3, (∃ m, goR fb fa m bl Y b3 Y3) → ∃ m, goR fb fa m bl0 Y0 b3 Y3) else ∃ m, goR fb fa m bl0 Y0 bl Y
theorem lkR_0 {fb fa : Nat → Int32} {bl0 : List Nat} {Y0 : YT} : lkR fb fa true bl0 Y0 bl0 Y0 := by
  unfold lkR
  rw [if_pos rfl]
  exact fun _ _ h => h
theorem lkR_s {fb fa : Nat → Int32} {tb : Bool} {bl0 bl bl2 : List Nat} {Y0 Y Y2 : YT} (h : lkR fb fa true bl0 Y0 bl Y) (t : tookR fb fa tb bl Y bl2 Y2) : lkR fb fa tb bl0 Y0 bl2 Y2 := by
  unfold lkR at h ⊢
  rw [if_pos rfl] at h
  cases tb with
  | true =>
    rw [if_pos rfl]
    rintro b3 Y3 ⟨m, hm⟩
    exact h b3 Y3 ⟨m + 1, Or.inr ⟨bl2, Y2, t, hm⟩⟩
  | false =>
    rw [if_neg (by decide)]
    exact h bl2 Y2 ⟨1, Or.inl t⟩
theorem lkR_e {fb fa : Nat → Int32} {mr : Bool} {bl0 bl : List Nat} {Y0 Y : YT} (h : lkR fb fa mr bl0 Y0 bl Y) (hm : ¬ mr = true) : ∃ m, goR fb fa m bl0 Y0 bl Y := by
  unfold lkR at h
  rw [if_neg hm] at h
  exact h
theorem takeS_b {bl fl : List Nat} {bg : Bool} {nu fm : Nat} (hnu : nu < 64) (hfm : fm < 65536) (hf : fromL bl < 65536) : (takeS bl bg nu fm fl).2.1 < 64 ∧ (takeS bl bg nu fm fl).2.2.1 < 65536 := by
  unfold takeS
  split
  · exact ⟨Nat.mod_lt _ (by decide), hf⟩
  · exact ⟨hnu, hfm⟩
