/-! OWN ROWS: numbers, bytes, sums, rows of bytes. -/
theorem nI_max {a b : Nat} (ha : a < 2147483648) (hb : b < 2147483648) : (if nI a < nI b then nI b else nI a) = nI (max a b) := by
  by_cases h : a < b
  · rw [if_pos ((nI_ltI ha hb).mpr h), Nat.max_eq_right (Nat.le_of_lt h)]
  · rw [if_neg (fun z => h ((nI_ltI ha hb).mp z)), Nat.max_eq_left (Nat.le_of_not_lt h)]
theorem nI_min {a b : Nat} (ha : a < 2147483648) (hb : b < 2147483648) : (if nI b < nI a then nI b else nI a) = nI (min a b) := by
  by_cases h : b < a
  · rw [if_pos ((nI_ltI hb ha).mpr h), Nat.min_eq_right (Nat.le_of_lt h)]
  · rw [if_neg (fun z => h ((nI_ltI hb ha).mp z)), Nat.min_eq_left (Nat.le_of_not_lt h)]
theorem nx_xor (a b : Nat) : nI a ^^^ nI b = nI (a ^^^ b) := by
  apply Int32.toBitVec_inj.1
  show BitVec.ofNat 32 a ^^^ BitVec.ofNat 32 b = BitVec.ofNat 32 (a ^^^ b)
  apply BitVec.eq_of_getLsbD_eq
  intro i hi
  simp [BitVec.getLsbD_xor, BitVec.getLsbD_ofNat, hi, Nat.testBit_xor]
def byte8 (x : Int32) : Nat := x.toBitVec.toNat % 256
theorem byte8_lt (x : Int32) : byte8 x < 256 := Nat.mod_lt _ (by decide)
theorem byte8_nI {n : Nat} (h : n < 4294967296) : byte8 (nI n) = n % 256 := by
  unfold byte8
  rw [pk_tn h]
def mix1 (v : Nat) : Nat := if v % 2 = 1 then (v / 2) ^^^ 42684 else v / 2
theorem mix1_lt {v : Nat} (h : v < 65536) : mix1 v < 65536 := by
  unfold mix1
  split
  · exact Nat.xor_lt_two_pow (n := 16) (by omega) (by decide)
  · omega
def mixk : Nat → Nat → Nat
  | 0, v => v
  | k + 1, v => mixk k (mix1 v)
theorem mixk_succ' : ∀ (k v : Nat), mixk (k + 1) v = mix1 (mixk k v)
  | 0, _ => rfl
  | k + 1, v => mixk_succ' k (mix1 v)
theorem mixk_lt : ∀ (k : Nat) {v : Nat}, v < 65536 → mixk k v < 65536
  | 0, _, h => h
  | k + 1, _, h => mixk_lt k (mix1_lt h)
def mixB (c b : Nat) : Nat := mixk 8 (c ^^^ b)
theorem xor_lt16 {a b : Nat} (ha : a < 65536) (hb : b < 65536) : a ^^^ b < 65536 := Nat.xor_lt_two_pow (n := 16) ha hb
theorem mixB_lt {c b : Nat} (hc : c < 65536) (hb : b < 256) : mixB c b < 65536 := mixk_lt 8 (xor_lt16 hc (by omega))
/-- a row of bytes in an array of 'cap' places -/
def okB (cap : Nat) (bl : List Nat) (f : Nat → Int32) : Prop := bl.length ≤ cap ∧ cap ≤ 256 ∧ (∀ j, j < bl.length → f j = nI (bl.getD j 0)) ∧ ∀ j, bl.getD j 0 < 256
theorem okB_nil {cap : Nat} (h : cap ≤ 256) (f : Nat → Int32) : okB cap [] f := ⟨Nat.zero_le _, h, fun j hj => absurd hj (Nat.not_lt_zero _), fun j => by simp⟩
theorem okB_push {cap : Nat} {bl : List Nat} {f : Nat → Int32} {b : Nat} (h : okB cap bl f) (hl : bl.length < cap) (hb : b < 256) : okB cap (bl ++ [b]) (upd f bl.length (nI b)) := by
  obtain ⟨h1, h2, h3, h4⟩ := h
  refine ⟨by simp; omega, h2, fun j hj => ?_, fun j => ?_⟩
  · rw [List.length_append, List.length_singleton] at hj
    by_cases e : j = bl.length
    · subst e
      simp [upd]
    · have : j < bl.length := by omega
      simp only [upd, if_neg e]
      rw [h3 j this]
      simp [List.getElem?_append_left this]
  · by_cases e : j < bl.length
    · have := h4 j
      simpa [List.getElem?_append_left e] using this
    · by_cases e2 : j = bl.length
      · subst e2; simpa using hb
      · have : bl.length + 1 ≤ j := by omega
        simp [List.getElem?_eq_none (l := bl ++ [b]) (i := j) (by simp; omega)]
theorem okB_drop {cap : Nat} {bl : List Nat} {f : Nat → Int32} {n : Nat} (h : okB cap bl f) (hn : n ≤ bl.length) : okB cap (bl.drop n) (va_cpy f f n 0 (bl.length - n)) := by
  obtain ⟨h1, h2, h3, h4⟩ := h
  refine ⟨by simp; omega, h2, fun j hj => ?_, fun j => ?_⟩
  · rw [List.length_drop] at hj
    rw [pk_cpy_in (Nat.zero_le _) (by omega), Nat.sub_zero, h3 _ (by omega)]
    simp
  · have := h4 (n + j)
    simpa using this
theorem okB_set {cap : Nat} {bl : List Nat} {f : Nat → Int32} {i b : Nat} (h : okB cap bl f) (hi : i < bl.length) (hb : b < 256) : okB cap (bl.set i b) (upd f i (nI b)) := by
  obtain ⟨h1, h2, h3, h4⟩ := h
  refine ⟨by simpa using h1, h2, fun j hj => ?_, fun j => ?_⟩
  · rw [List.length_set] at hj
    by_cases e : j = i
    · subst e; simp [upd, hi]
    · simp only [upd, if_neg e]
      rw [h3 j hj]
      simp [List.getElem?_set_ne (Ne.symm e)]
  · by_cases e : j = i
    · subst e; simpa [hi] using hb
    · have := h4 j
      simpa [List.getElem?_set_ne (Ne.symm e)] using this
theorem getD_big {bl : List Nat} {i : Nat} (h : bl.length ≤ i) : bl.getD i 0 = 0 := by simp [List.getElem?_eq_none (l := bl) (i := i) h]
/-- the bytes of a value as an answer has it -/
def sbv (v : Int32) (k : Nat) : Nat := v.toBitVec.toNat / 2 ^ (8 * k) % 256
theorem sbv_lt (v : Int32) (k : Nat) : sbv v k < 256 := Nat.mod_lt _ (by decide)
def valB (kind : Nat) (v : Int32) : List Nat := if kind = 0 then [byte8 (1 + 128 * v)] else 1 :: (List.range 4).map (sbv v)
theorem valB_len (kind : Nat) (v : Int32) : (valB kind v).length = if kind = 0 then 1 else 5 := by
  unfold valB
  split <;> simp
theorem valB_0 {k : Nat} {v : Int32} (h : k = 0) : valB k v = [byte8 (nI 1 + nI 128 * v)] := by
  unfold valB
  rw [if_pos h]; rfl
theorem valB_1 {k : Nat} {v : Int32} (h : k ≠ 0) : valB k v = 1 :: (List.range 4).map (sbv v) := by
  unfold valB
  rw [if_neg h]
theorem s_u : ∀ n, n < 32 → (((nI n).toUInt32 &&& Int32.toUInt32 31).toBitVec % 32).toNat = n := by decide
theorem sbv_ush {v : Int32} {sh i : Nat} (h : sh = 8 * i) (hi : i < 4) : byte8 ((v.toUInt32 >>> ((nI sh).toUInt32 &&& Int32.toUInt32 31)).toInt32) = sbv v i := by
  unfold byte8 sbv
  rw [pk_ushr v (nI sh) sh (s_u sh (by omega)), h]
/-- the events of a kind: rows, how many are in the last answer -/
def okE (evs : List (Nat × Int32)) (ans : Nat) (fp fv : Nat → Int32) : Prop := evs.length ≤ 6 ∧ ans ≤ evs.length ∧ (∀ j, j < evs.length → fp j = nI (evs.getD j (0, 0)).1 ∧ fv j = (evs.getD j (0, 0)).2) ∧ ∀ j, (evs.getD j (0, 0)).1 < 8
def apE (evs : List (Nat × Int32)) (pt : Nat) (x : Int32) : List (Nat × Int32) := (if evs.length = 6 then evs.drop 1 else evs) ++ [(pt, x)]
def apA (evs : List (Nat × Int32)) (ans : Nat) : Nat := if evs.length = 6 then ans - 1 else ans
theorem okE_drop {evs : List (Nat × Int32)} {ans n : Nat} {fp fv : Nat → Int32} (h : okE evs ans fp fv) (hn : n ≤ evs.length) : okE (evs.drop n) (ans - n) (va_cpy fp fp n 0 (evs.length - n)) (va_cpy fv fv n 0 (evs.length - n)) := by
  obtain ⟨h1, h2, h3, h4⟩ := h
  refine ⟨by simp; omega, by simp; omega, fun j hj => ?_, fun j => ?_⟩
  · rw [List.length_drop] at hj
    have h9 := h3 (n + j) (by omega)
    rw [pk_cpy_in (Nat.zero_le _) (by omega), pk_cpy_in (Nat.zero_le _) (by omega), Nat.sub_zero, h9.1, h9.2]
    simp
  · have := h4 (n + j)
    simpa using this
theorem okE_push {evs : List (Nat × Int32)} {ans pt : Nat} {x : Int32} {fp fv : Nat → Int32} (h : okE evs ans fp fv) (hl : evs.length < 6) (hp : pt < 8) : okE (evs ++ [(pt, x)]) ans (upd fp evs.length (nI pt)) (upd fv evs.length x) := by
  obtain ⟨h1, h2, h3, h4⟩ := h
  refine ⟨by simp; omega, by simp; omega, fun j hj => ?_, fun j => ?_⟩
  · rw [List.length_append, List.length_singleton] at hj
    by_cases e : j = evs.length
    · subst e; simp [upd]
    · have e2 : j < evs.length := by omega
      simp only [upd, if_neg e]
      rw [(h3 j e2).1, (h3 j e2).2]
      simp [List.getElem?_append_left e2]
  · by_cases e : j < evs.length
    · have := h4 j
      simpa [List.getElem?_append_left e] using this
    · by_cases e2 : j = evs.length
      · subst e2; simpa using hp
      · simp [List.getElem?_eq_none (l := evs ++ [(pt, x)]) (i := j) (by simp; omega)]
theorem apE_n {evs : List (Nat × Int32)} {pt : Nat} {x : Int32} (h : ¬ evs.length = 6) : apE evs pt x = evs ++ [(pt, x)] := by unfold apE; rw [if_neg h]
theorem apE_f {evs : List (Nat × Int32)} {pt : Nat} {x : Int32} (h : evs.length = 6) : apE evs pt x = evs.drop 1 ++ [(pt, x)] := by unfold apE; rw [if_pos h]
theorem apA_n {evs : List (Nat × Int32)} {ans : Nat} (h : ¬ evs.length = 6) : apA evs ans = ans := if_neg h
theorem apA_f {evs : List (Nat × Int32)} {ans : Nat} (h : evs.length = 6) : apA evs ans = ans - 1 := if_pos h
theorem mx_sub {a b : Nat} (ha : a < 1073741824) (hb : b < 1073741824) : (if nI a - nI b < nI 0 then nI 0 else nI a - nI b) = nI (a - b) := by
  by_cases h : b ≤ a
  · rw [pk_sub h, if_neg (fun z => absurd ((nI_ltI (by omega) (by omega)).mp z) (Nat.not_lt_zero _))]
  · have := pk_sneg (a := a) (b := b) hb (by omega)
    rw [nI_0, if_pos this, show a - b = 0 by omega, nI_0]
def stSel (th : Bool) (nu ou vl ag fn nb x v : Nat) : Nat := if 4 ≤ x then 4 else if v ≠ 3 ∧ v ≠ 4 then 3 else if fn ≠ 4 then 0 else if th = false ∨ ou ≠ x ∨ vl ≠ v ∨ (nu + 1) % 16 ≠ nb then 2 else if 10 < ag then 1 else 0
/-- there is such a point or output -/
abbrev hasI (k x : Int32) : Prop := ¬ k < 0 ∧ ¬ 2 < k ∧ ¬ x < 0 ∧ ((k = 2 ∧ x < 4) ∨ (¬ k = 2 ∧ x < 8))
theorem hasI_no1 {k x : Int32} (z : hasI k x) (h : k < 0) : False := z.1 h
theorem hasI_no2 {k x : Int32} (z : hasI k x) (h : nI 2 < k) : False := z.2.1 h
theorem hasI_no3 {k x : Int32} (z : hasI k x) (h : x < 0) : False := z.2.2.1 h
theorem i32_le {x y : Int32} (h : y ≤ x) : ¬ x < y := fun z => Int32.lt_irrefl (Int32.lt_of_lt_of_le z h)
theorem i32_lt {x y : Int32} (h : ¬ y ≤ x) : x < y := Int32.not_le.mp h
theorem hasI_no4 {k x : Int32} (z : hasI k x) (h : ¬ k = nI 2) (h2 : nI 8 ≤ x) : False := by
  rcases z.2.2.2 with ⟨a, -⟩ | ⟨-, a⟩
  · exact h a
  · exact i32_le h2 a
theorem hasI_no5 {k x : Int32} (z : hasI k x) (h : k = nI 2) (h2 : nI 4 ≤ x) : False := by
  rcases z.2.2.2 with ⟨-, a⟩ | ⟨a, -⟩
  · exact i32_le h2 a
  · exact a h
theorem hasI_y4 {k x : Int32} (h1 : ¬ k < 0) (h2 : ¬ nI 2 < k) (h3 : ¬ x < 0) (h : ¬ k = nI 2) (h4 : ¬ nI 8 ≤ x) : hasI k x := ⟨h1, h2, h3, Or.inr ⟨h, i32_lt h4⟩⟩
theorem hasI_y5 {k x : Int32} (h1 : ¬ k < 0) (h2 : ¬ nI 2 < k) (h3 : ¬ x < 0) (h : k = nI 2) (h4 : ¬ nI 4 ≤ x) : hasI k x := ⟨h1, h2, h3, Or.inl ⟨h, i32_lt h4⟩⟩
theorem hasI_nI (k x : Nat) (hk : k ≤ 2) (hx : x < (if k = 2 then 4 else 8)) : hasI (nI k) (nI x) := by
  have hx8 : x < 8 := by split at hx <;> omega
  refine ⟨nI_pos (by omega), fun z => ?_, nI_pos (by omega), ?_⟩
  · have := (nI_ltI (a := 2) (b := k) (by omega) (by omega)).mp z
    omega
  · by_cases e : k = 2
    · subst e
      rw [if_pos rfl] at hx
      exact Or.inl ⟨rfl, (nI_ltI (a := x) (b := 4) (by omega) (by omega)).mpr hx⟩
    · exact Or.inr ⟨fun z => e ((nI_eq (a := k) (b := 2) (by omega) (by omega)).mp z), (nI_ltI (a := x) (b := 8) (by omega) (by omega)).mpr hx8⟩
theorem hasI_of {k x : Int32} (h : hasI k x) : ∃ kn xn : Nat, k = nI kn ∧ x = nI xn ∧ kn ≤ 2 ∧ xn < (if kn = 2 then 4 else 8) := by
  obtain ⟨h1, h2, h3, h4⟩ := h
  obtain ⟨kn, hk, rfl⟩ := nI_of h1
  obtain ⟨xn, hx, rfl⟩ := nI_of h3
  have hk2 : kn ≤ 2 := Nat.le_of_not_lt (fun z => h2 ((nI_ltI (a := 2) (b := kn) (by omega) hk).mpr z))
  refine ⟨kn, xn, rfl, rfl, hk2, ?_⟩
  rcases h4 with ⟨a, b⟩ | ⟨a, b⟩
  · have e := (nI_eq (a := kn) (b := 2) hk (by omega)).mp a
    rw [if_pos e]
    exact (nI_ltI (a := xn) (b := 4) hx (by omega)).mp b
  · have e : ¬ kn = 2 := fun z => a (by rw [z]; rfl)
    rw [if_neg e]
    exact (nI_ltI (a := xn) (b := 8) hx (by omega)).mp b
theorem byte8_b {b : Nat} (h : b < 256) : byte8 (nI b) = b := by rw [byte8_nI (by omega), Nat.mod_eq_of_lt h]
/-- bytes that go out on the line, with the running sum -/
def putL (st : List Nat × Nat) (b : Nat) : List Nat × Nat := (st.1 ++ [b], mixB st.2 b)
def putSumL (st : List Nat × Nat) : List Nat × Nat := (st.1 ++ [(65535 - st.2) % 256, (65535 - st.2) / 256], 0)
def headL (st : List Nat × Nat) (pl to : Nat) : List Nat × Nat := putSumL (putL (putL (putL (putL (putL (putL (putL (putL (st.1, 0) 5) 100) (5 + pl)) 68) (to % 256)) (to / 256)) 10) 0)
def bodyL (an : List Nat) (a0 : Nat) : Nat → List Nat × Nat → List Nat × Nat
  | 0, st => st
  | n + 1, st => putL (if (n + 1) % 16 = 0 then putSumL (bodyL an a0 n st) else bodyL an a0 n st) (an.getD (a0 + n) 0)
def partL (an : List Nat) (a0 sz pn : Nat) (st : List Nat × Nat) : List Nat × Nat := putSumL (bodyL an a0 sz (putL st ((if a0 = 0 then 64 else 0) + (if a0 + sz = an.length then 128 else 0) + pn)))
def sendL (an : List Nat) (to : Nat) : Nat → Nat → List Nat × Nat × Nat → List Nat × Nat × Nat
  | 0, _, st => st
  | n + 1, a0, st => if a0 < an.length then (let r := partL an a0 (min (an.length - a0) 39) st.2.2 (headL (st.1, st.2.1) (1 + min (an.length - a0) 39) to); sendL an to n (a0 + 39) (r.1, r.2, (st.2.2 + 1) % 64)) else st
/-- the bytes sent, the latest 256 of them in a ring -/
def okS (st : List Nat × Nat) (kf : Nat → Int32) : Prop := st.1.length < 1073741824 ∧ st.2 < 65536 ∧ ∀ j, j < st.1.length → st.1.length ≤ j + 256 → kf (j % 256) = nI (st.1.getD j 0)
theorem okS_push {st : List Nat × Nat} {kf : Nat → Int32} {b : Nat} (h : okS st kf) (hl : st.1.length + 1 < 1073741824) (hb : b < 256) : okS (st.1 ++ [b], st.2) (upd kf (st.1.length % 256) (nI b)) := by
  obtain ⟨h1, h2, h3⟩ := h
  refine ⟨by simpa using hl, h2, fun j hj hk => ?_⟩
  rw [List.length_append, List.length_singleton] at hj hk
  by_cases e : j = st.1.length
  · subst e; simp [upd]
  · have e2 : j < st.1.length := by omega
    have e3 : ¬ j % 256 = st.1.length % 256 := by omega
    simp only [upd, if_neg e3]
    rw [h3 j e2 (by omega)]
    simp [List.getElem?_append_left e2]
theorem okS_mix {st : List Nat × Nat} {kf : Nat → Int32} {b : Nat} (h : okS st kf) (hb : b < 256) : okS (st.1, mixB st.2 b) kf := ⟨h.1, mixB_lt h.2.1 hb, h.2.2⟩
theorem okS_zero {st : List Nat × Nat} {kf : Nat → Int32} (h : okS st kf) : okS (st.1, 0) kf := ⟨h.1, Nat.zero_lt_succ _, h.2.2⟩
theorem partL_eq {an : List Nat} {a0 sz pn hb9 : Nat} {st : List Nat × Nat} (h : hb9 = (if a0 = 0 then 64 else 0) + (if a0 + sz = an.length then 128 else 0) + pn) : partL an a0 sz pn st = putSumL (bodyL an a0 sz (putL st hb9)) := by rw [h]; rfl
theorem bodyL_n {an : List Nat} {a0 n : Nat} {st : List Nat × Nat} (h : (n + 1) % 16 ≠ 0) : bodyL an a0 (n + 1) st = putL (bodyL an a0 n st) (an.getD (a0 + n) 0) := by
  show putL (if (n + 1) % 16 = 0 then _ else _) _ = _
  rw [if_neg h]
theorem bodyL_y {an : List Nat} {a0 n : Nat} {st : List Nat × Nat} (h : (n + 1) % 16 = 0) : bodyL an a0 (n + 1) st = putL (putSumL (bodyL an a0 n st)) (an.getD (a0 + n) 0) := by
  show putL (if (n + 1) % 16 = 0 then _ else _) _ = _
  rw [if_pos h]
theorem bodyL_len (an : List Nat) (a0 : Nat) : ∀ (n : Nat) (st : List Nat × Nat), (bodyL an a0 n st).1.length ≤ st.1.length + 3 * n
  | 0, _ => Nat.le_refl _
  | n + 1, st => by
    have ih := bodyL_len an a0 n st
    by_cases h : (n + 1) % 16 = 0
    · rw [bodyL_y h]; simp only [putL, putSumL, List.length_append, List.length_cons, List.length_nil]; omega
    · rw [bodyL_n h]; simp only [putL, List.length_append, List.length_cons, List.length_nil]; omega
theorem headL_len (st : List Nat × Nat) (pl to : Nat) : (headL st pl to).1.length = st.1.length + 10 := by
  simp [headL, putL, putSumL]
theorem partL_len (an : List Nat) (a0 sz pn : Nat) (st : List Nat × Nat) (h : sz ≤ 39) : (partL an a0 sz pn st).1.length ≤ st.1.length + 150 := by
  have := bodyL_len an a0 sz (putL st ((if a0 = 0 then 64 else 0) + (if a0 + sz = an.length then 128 else 0) + pn))
  simp only [partL, putSumL, List.length_append, List.length_cons, List.length_nil]
  have h2 : (putL st ((if a0 = 0 then 64 else 0) + (if a0 + sz = an.length then 128 else 0) + pn)).1.length = st.1.length + 1 := by simp [putL]
  omega
theorem sendL_step {an : List Nat} {to n a0 : Nat} {st : List Nat × Nat × Nat} (h : a0 < an.length) : sendL an to (n + 1) a0 st = sendL an to n (a0 + 39) ((partL an a0 (min (an.length - a0) 39) st.2.2 (headL (st.1, st.2.1) (1 + min (an.length - a0) 39) to)).1, (partL an a0 (min (an.length - a0) 39) st.2.2 (headL (st.1, st.2.1) (1 + min (an.length - a0) 39) to)).2, (st.2.2 + 1) % 64) := by
  show (if a0 < an.length then _ else _) = _
  rw [if_pos h]
theorem sendL_stop {an : List Nat} {to n a0 : Nat} {st : List Nat × Nat × Nat} (h : an.length ≤ a0) : sendL an to n a0 st = st := by
  cases n with
  | zero => rfl
  | succ n =>
    show (if a0 < an.length then _ else _) = _
    rw [if_neg (by omega)]
