/-! OWN ROWS: arguments that are refused; changes; time; sums. -/
abbrev heB (n : Int32) : Prop := n < nI 1 ∨ nI 8 < n
abbrev suB (n : Int32) : Prop := n < 0 ∨ nI 8 < n
abbrev evB (k : Int32) : Prop := k < 0 ∨ nI 2 ≤ k
abbrev paB (t : Int32) : Prop := t < nI 1 ∨ nI 100 < t
abbrev chB (k x v : Int32) : Prop := evB k ∨ (x < 0 ∨ nI 8 ≤ x) ∨ (k = 0 ∧ (v < 0 ∨ nI 2 ≤ v))
abbrev toB (rl : List Nat) (k : Int32) : Prop := k < 0 ∨ nI rl.length ≤ k
abbrev seB (n : Nat) (k : Int32) : Prop := k < (-1) ∨ nI 255 < k ∨ nI n ≤ k
theorem i32_toNat {x : Int32} {b : Nat} (h0 : ¬ x < 0) (h : ¬ nI b < x) (hb : b < 1073741824) : ∃ n : Nat, x = nI n ∧ n ≤ b := by
  obtain ⟨n, hn, rfl⟩ := nI_of h0
  refine ⟨n, rfl, Nat.le_of_not_lt (fun z => h ?_)⟩
  rw [Int32.lt_iff_toInt_lt, nI_toInt (by omega), nI_toInt (by omega)]
  omega
theorem i32_toNat2 {x : Int32} {b : Nat} (h0 : ¬ x < 0) (h : ¬ nI b ≤ x) (hb : b < 1073741824) : ∃ n : Nat, x = nI n ∧ n < b := by
  obtain ⟨n, hn, rfl⟩ := nI_of h0
  refine ⟨n, rfl, Nat.lt_of_not_le (fun z => h ?_)⟩
  rw [Int32.le_iff_toInt_le, nI_toInt (by omega), nI_toInt (by omega)]
  omega
theorem i32_lt1 {x : Int32} (h : ¬ x < nI 1) : ¬ x < 0 := fun z => h (by
  rw [Int32.lt_iff_toInt_lt] at z ⊢
  rw [show (0 : Int32).toInt = 0 from rfl] at z
  rw [show (nI 1).toInt = 1 from rfl]
  omega)
theorem nI_ge1 {n : Nat} (hn : n < 1073741824) (h : ¬ nI n < nI 1) : 1 ≤ n := Nat.le_of_not_lt (fun z => h (by
  rw [Int32.lt_iff_toInt_lt, nI_toInt (by omega), nI_toInt (by omega)]
  omega))
theorem heB_of {n : Int32} (h : ¬ heB n) : ∃ k : Nat, n = nI k ∧ 1 ≤ k ∧ k ≤ 8 := by
  have h1 : ¬ n < nI 1 := fun z => h (Or.inl z)
  obtain ⟨k, rfl, hk⟩ := i32_toNat (i32_lt1 h1) (fun z => h (Or.inr z)) (by decide)
  exact ⟨k, rfl, nI_ge1 (by omega) h1, hk⟩
theorem suB_of {n : Int32} (h : ¬ suB n) : ∃ k : Nat, n = nI k ∧ k ≤ 8 := i32_toNat (fun z => h (Or.inl z)) (fun z => h (Or.inr z)) (by decide)
theorem paB_of {n : Int32} (h : ¬ paB n) : ∃ k : Nat, n = nI k ∧ 1 ≤ k ∧ k ≤ 100 := by
  have h1 : ¬ n < nI 1 := fun z => h (Or.inl z)
  obtain ⟨k, rfl, hk⟩ := i32_toNat (i32_lt1 h1) (fun z => h (Or.inr z)) (by decide)
  exact ⟨k, rfl, nI_ge1 (by omega) h1, hk⟩
theorem evB_of {n : Int32} (h : ¬ evB n) : n = nI 0 ∨ n = nI 1 := by
  obtain ⟨k, rfl, hk⟩ := i32_toNat2 (b := 2) (fun z => h (Or.inl z)) (fun z => h (Or.inr z)) (by decide)
  rcases (show k = 0 ∨ k = 1 by omega) with rfl | rfl
  · exact Or.inl rfl
  · exact Or.inr rfl
theorem chB_of {k x v : Int32} (h : ¬ chB k x v) : ∃ xn : Nat, x = nI xn ∧ xn < 8 ∧ ((k = nI 0 ∧ (v = 0 ∨ v = 1)) ∨ k = nI 1) := by
  have h1 : ¬ evB k := fun z => h (Or.inl z)
  obtain ⟨xn, rfl, hx⟩ := i32_toNat2 (x := x) (b := 8) (fun z => h (Or.inr (Or.inl (Or.inl z)))) (fun z => h (Or.inr (Or.inl (Or.inr z)))) (by decide)
  refine ⟨xn, rfl, hx, ?_⟩
  rcases evB_of h1 with rfl | rfl
  · left
    refine ⟨rfl, ?_⟩
    have hv : ¬ evB v := fun z => h (Or.inr (Or.inr ⟨rfl, z⟩))
    exact evB_of hv
  · exact Or.inr rfl
theorem toB_of {rl : List Nat} {k : Int32} (hl : rl.length < 1000) (h : ¬ toB rl k) : ∃ kn : Nat, k = nI kn ∧ kn < rl.length := i32_toNat2 (fun z => h (Or.inl z)) (fun z => h (Or.inr z)) (by omega)
theorem m1_lt0 : (-1 : Int32) < 0 := by decide
theorem seB_of {n : Nat} {k : Int32} (hn : n < 1073741824) (h : ¬ seB n k) : k = (-1) ∨ ∃ kn : Nat, k = nI kn ∧ kn < 256 ∧ kn < n := by
  by_cases h0 : k < 0
  · left
    have h1 : ¬ k < (-1) := fun z => h (Or.inl z)
    apply Int32.toInt_inj.mp
    rw [Int32.lt_iff_toInt_lt] at h0 h1
    rw [show (0 : Int32).toInt = 0 from rfl] at h0
    rw [show (-1 : Int32).toInt = -1 from by decide] at h1 ⊢
    omega
  · right
    obtain ⟨kn, rfl, hk⟩ := i32_toNat (b := 255) h0 (fun z => h (Or.inr (Or.inl z))) (by decide)
    refine ⟨kn, rfl, by omega, Nat.lt_of_not_le (fun z => h (Or.inr (Or.inr ?_)))⟩
    exact (nI_leI (by omega) (by omega)).mpr z
theorem out_in {x b : Nat} (h : x < b) (hb : b < 1073741824) : ¬ (nI x < 0 ∨ nI b ≤ nI x) := fun z => by
  rcases z with z | z
  · exact nI_pos (by omega) z
  · have := (nI_leI (by omega) (by omega)).mp z
    omega
theorem out_01 {v : Int32} (h : v = 0 ∨ v = 1) : ¬ (v < 0 ∨ nI 2 ≤ v) := by
  rcases h with rfl | rfl <;> decide
theorem tick_iff (t : Int32) : (t - nI 1 < 0 ∨ nI 100 ≤ t - nI 1) ↔ paB t := by
  have h1 : (t - nI 1).toInt = (t.toInt - (nI 1).toInt).bmod (2 ^ 32) := Int32.toInt_sub ..
  have h2 := t.toInt_lt
  have h3 := t.le_toInt
  rw [Int32.lt_iff_toInt_lt, Int32.le_iff_toInt_le, h1]
  unfold paB
  rw [Int32.lt_iff_toInt_lt, Int32.lt_iff_toInt_lt, show (0 : Int32).toInt = 0 from rfl, show (nI 1).toInt = 1 from rfl, show (nI 100).toInt = 100 from rfl]
  unfold Int.bmod
  simp only [Nat.reducePow, Int.reduceNeg] at *
  omega
/-- the other kind's rows -/
theorem okMev_push {k i : Nat} {evs : List (Nat × Int32)} {ans pt : Nat} {x : Int32} {enf tkf epf evf : Nat → Int32} (h : okMev k evs ans enf tkf epf evf) (hl : evs.length < 6) (hp : pt < 8) (hi : i = 6 * k + evs.length) : okMev k (evs ++ [(pt, x)]) ans (upd enf k (nI (evs.length + 1))) tkf (upd epf i (nI pt)) (upd evf i x) := by
  obtain ⟨a1, a2, a3, a4, a5, a6⟩ := h
  refine ⟨by simp; omega, by simp; omega, by simp [upd], a4, fun j hj => ?_, fun j => ?_⟩
  · rw [List.length_append, List.length_singleton] at hj
    by_cases e : j = evs.length
    · subst e
      rw [← hi]
      simp [upd]
    · have e2 : j < evs.length := by omega
      have e3 : ¬ 6 * k + j = i := by omega
      simp only [upd, if_neg e3]
      rw [(a5 j e2).1, (a5 j e2).2]
      simp [List.getElem?_append_left e2]
  · by_cases e2 : j < evs.length
    · have := a6 j
      simpa [List.getElem?_append_left e2] using this
    · by_cases e : j = evs.length
      · subst e; simpa using hp
      · rw [List.getD_eq_getElem?_getD, List.getElem?_eq_none (by simp; omega)]; decide
theorem frM_push {k i : Nat} {n : Nat} {pt x y : Int32} {enf tkf epf evf : Nat → Int32} (hn : n < 6) (hi : i = 6 * k + n) : frM k enf tkf epf evf (upd enf k y) tkf (upd epf i pt) (upd evf i x) := by
  refine ⟨fun z hz => ⟨by simp only [upd, if_neg hz], rfl⟩, fun z hz => ?_⟩
  have e : ¬ z = i := by omega
  simp only [upd, if_neg e]
  exact ⟨trivial, trivial⟩
theorem mvR_b {fb fa mv : Nat → Int32} {x i : Nat} {v : Int32} (h : mvR fb fa mv) (hx : x < 8) (hi : i = x) : mvR (upd fb x v) fa (upd mv i v) := by
  subst hi
  intro j hj
  refine ⟨?_, ?_⟩
  · simp only [upd]
    split
    · rfl
    · exact (h j hj).1
  · have e : ¬ 8 + j = i := by omega
    simp only [upd, if_neg e]
    exact (h j hj).2
theorem mvR_a {fb fa mv : Nat → Int32} {x i : Nat} {v : Int32} (h : mvR fb fa mv) (_ : x < 8) (hi : i = 8 + x) : mvR fb (upd fa x v) (upd mv i v) := by
  subst hi
  intro j hj
  refine ⟨?_, ?_⟩
  · have e : ¬ j = 8 + x := by omega
    simp only [upd, if_neg e]
    exact (h j hj).1
  · by_cases e : j = x
    · subst e; simp [upd]
    · have e2 : ¬ 8 + j = 8 + x := by omega
      simp only [upd, if_neg e, if_neg e2]
      exact (h j hj).2
theorem loR_s0 {ovf : Bool} {lof : Nat → Int32} (h : loR ovf lof) : loR true (upd lof 0 (nI 1)) := ⟨Or.inr rfl, h.2.1, ⟨fun _ => Or.inl rfl, fun _ => rfl⟩⟩
theorem loR_s1 {ovf : Bool} {lof : Nat → Int32} (h : loR ovf lof) : loR true (upd lof 1 (nI 1)) := ⟨h.1, Or.inr rfl, ⟨fun _ => Or.inr rfl, fun _ => rfl⟩⟩
theorem selR_p {th : Bool} {nu ou vl ag : Nat} {sl : Int32} {wt bn si ti t : Nat} (h : selR th nu ou vl ag sl wt bn si ti) (ht : ti + t < 1000000) : selR th nu ou vl (min (ag + t) 11) sl wt bn si (ti + t) := by
  obtain ⟨h1, h2, h3, h4, h5, h6⟩ := h
  refine ⟨?_, ⟨h2.1, h2.2.1, h2.2.2.1, by omega⟩, h3, h4, by omega, ht⟩
  rcases h1 with ⟨e1, e2, e3, e4, e5⟩ | ⟨e1, e2⟩
  · exact Or.inl ⟨e1, e2, e3, e4, by omega⟩
  · exact Or.inr ⟨e1, e2⟩
def smN (x : Int64) (n : Nat) : Nat → Nat
  | 0 => 0
  | i + 1 => mixB (smN x n i) (lb x (n - 1 - i))
theorem smN_lt (x : Int64) (n : Nat) : ∀ i, smN x n i < 65536
  | 0 => Nat.zero_lt_succ _
  | i + 1 => mixB_lt (smN_lt x n i) (lb_lt x _)
theorem ring_m {out : List Nat} {kf : Nat → Int32} {k : Nat} (h : ∀ j, j < out.length → out.length ≤ j + 256 → kf (j % 256) = nI (out.getD j 0)) (hk : k < 256) (h2 : k < out.length) : kf ((out.length - 1 - k) % 256) = nI (out.getD (out.length - 1 - k) 0) := h (out.length - 1 - k) (by omega) (by omega)
theorem ptT_n {k x : Int32} (h1 : ¬ (k < 0 ∨ nI 3 ≤ k)) (h2 : ¬ k = nI 2) (h3 : ¬ (x < 0 ∨ nI 8 ≤ x)) : hasI k x := by
  obtain ⟨kn, rfl, hk⟩ := i32_toNat2 (b := 3) (fun z => h1 (Or.inl z)) (fun z => h1 (Or.inr z)) (by decide)
  refine hasI_y4 (nI_pos (by omega)) (fun z => ?_) (fun z => h3 (Or.inl z)) h2 (fun z => h3 (Or.inr z))
  have := (nI_ltI (by omega) (by omega)).mp z
  omega
theorem ptT_2 {x : Int32} (h3 : ¬ (x < 0 ∨ nI 4 ≤ x)) : hasI (nI 2) x := hasI_y5 (by decide) (by decide) (fun z => h3 (Or.inl z)) rfl (fun z => h3 (Or.inr z))
theorem m1_ltN {n : Nat} (h : n < 1073741824) : (-1 : Int32) < nI n := by
  rw [Int32.lt_iff_toInt_lt, nI_toInt (by omega), show (-1 : Int32).toInt = -1 from by decide]
  omega
