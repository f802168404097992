/-! OWN ROWS: bounds that a request keeps; frames by the class's own steps; a row that grows; refused arguments by the class's tests. -/
abbrev selB (S : Sel5) : Prop := S.2.1 < 65536 ∧ S.2.2.1 < 65536 ∧ S.2.2.2.1 < 65536 ∧ S.2.2.2.2 < 1000
theorem selB_ite {c : Prop} [Decidable c] {a b : Sel5} (ha : selB a) (hb : selB b) : selB (if c then a else b) := by
  by_cases h : c
  · rw [if_pos h]; exact ha
  · rw [if_neg h]; exact hb
theorem cmS_b {rq : List Nat} {fn nr : Nat} {S : Sel5} {fo : Nat → Int32} {an : List Nat} (hq : ∀ j, rq.getD j 0 < 256) (hn : nr < 65536) (h : selB S) : selB (cmS rq fn nr S fo an).2.1 := by
  have h6 : rq.getD 6 0 < 65536 := Nat.lt_trans (hq 6) (by decide)
  have h7 : rq.getD 7 0 < 65536 := Nat.lt_trans (hq 7) (by decide)
  have h' : selB (false, S.2.1, S.2.2.1, S.2.2.2.1, S.2.2.2.2) := h
  have h8 : selB (true, nr, rq.getD 6 0, rq.getD 7 0, 0) := ⟨hn, h6, h7, (by decide : 0 < 1000)⟩
  unfold cmS
  by_cases hc : cmP rq
  · rw [if_pos hc]; exact selB_ite h8 h'
  · rw [if_neg hc]; exact h'
theorem mdS_b {fb fa : Nat → Int32} {rq : List Nat} {fn nr : Nat} {S : Sel5} {fo : Nat → Int32} {rst : Bool} {evb eva : List (Nat × Int32)} (hq : ∀ j, rq.getD j 0 < 256) (hn : nr < 65536) (h : selB S) : selB (mdS fb fa rq fn nr S fo rst evb eva).2.1 := by
  have h' : selB (false, S.2) := h
  unfold mdS
  by_cases h1 : fn = 1
  · rw [if_pos h1]; exact h'
  · rw [if_neg h1]
    by_cases h2 : fn = 2
    · rw [if_pos h2]; exact h'
    · rw [if_neg h2]
      by_cases h3 : fn = 3 ∨ fn = 4 ∨ fn = 5
      · rw [if_pos h3]; exact cmS_b hq hn (show selB (_, S.2) from h)
      · rw [if_neg h3]; exact h'
theorem hd_b {fb fa : Nat → Int32} {rq : List Nat} {S S2 : Sel5} {cf ovf rst rr cf2 ovf2 rst2 : Bool} {nb nb2 : Nat} {fo fo2 : Nat → Int32} {evb eva evb2 eva2 : List (Nat × Int32)} {anb ana anb2 ana2 : Nat} {an an2 : List Nat} (hh : (rr, S2, cf2, nb2, fo2, ovf2, rst2, evb2, anb2, eva2, ana2, an2) = hdS fb fa rq S cf nb fo ovf rst evb anb eva ana an) (hq : ∀ j, rq.getD j 0 < 256) (hs : selB S) (hnb : nb < 16) : selB S2 ∧ nb2 < 16 := by
  by_cases h : 2 ≤ rq.length ∧ 192 ≤ rq.getD 0 0 ∧ rq.getD 0 0 < 208
  · by_cases h0 : rq.getD 1 0 = 0
    · unfold hdS at hh
      rw [if_pos h, if_pos h0] at hh
      simp only [Prod.mk.injEq] at hh
      obtain ⟨-, rfl, -, rfl, -⟩ := hh
      exact ⟨hs, hnb⟩
    · unfold hdS at hh
      rw [if_pos h, if_neg h0] at hh
      have hb9 := mdS_b (fb := fb) (fa := fa) (fn := rq.getD 1 0) (nr := rq.getD 0 0 - 192) (fo := fo) (rst := rst) (evb := evb) (eva := eva) hq (by omega) hs
      generalize mdS fb fa rq (rq.getD 1 0) (rq.getD 0 0 - 192) S fo rst evb eva = M at hh hb9
      obtain ⟨sg, S3, fo3, rst3, anb3, ana3, an3⟩ := M
      simp only [Prod.mk.injEq] at hh
      rw [hh.2.1, hh.2.2.2.1]
      exact ⟨hb9, by omega⟩
  · rw [hdS_skip h] at hh
    simp only [Prod.mk.injEq] at hh
    obtain ⟨-, rfl, -, rfl, -⟩ := hh
    exact ⟨hs, hnb⟩
section FW
variable {fb fa fo fo2 : Nat → Int32} {bl fl fl2 : List Nat} {bg bg2 cf cf2 ovf ovf2 rst rst2 rr : Bool} {nu fm nu2 fm2 nb nb2 anb anb2 ana ana2 : Nat} {S S2 : Sel5} {evb eva evb2 eva2 : List (Nat × Int32)} {an an2 : List Nat} {sd : SdT} {X : CoT} {Y : YT}
theorem fw_0 (h : ¬ forThis bl) : Y = fwS fb fa bl Y := by
  unfold fwS
  rw [if_neg h]
theorem fw_1 (h : forThis bl) (ht : (bg2, nu2, fm2, fl2, false) = takeS bl bg nu fm fl) : ((bg2, nu2, fm2, fl2), X) = fwS fb fa bl ((bg, nu, fm, fl), X) := by
  unfold fwS tkS
  rw [if_pos h]
  show _ = tkE fb fa (takeS bl bg nu fm fl) X
  rw [← ht]
  rfl
theorem fw_g (h : forThis bl) (ht : (bg2, nu2, fm2, fl2, true) = takeS bl bg nu fm fl) (hh : (rr, S2, cf2, nb2, fo2, ovf2, rst2, evb2, anb2, eva2, ana2, an2) = hdS fb fa fl2 S cf nb fo ovf rst evb anb eva ana an) : ((bg2, nu2, fm2, fl2), (S2, cf2, nb2, fo2, ovf2, rst2, evb2, anb2, eva2, ana2, an2, if rr = true then sendL an2 fm2 3 0 sd else sd)) = fwS fb fa bl ((bg, nu, fm, fl), (S, cf, nb, fo, ovf, rst, evb, anb, eva, ana, an, sd)) := by
  unfold fwS tkS
  rw [if_pos h]
  show _ = tkE fb fa (takeS bl bg nu fm fl) (S, cf, nb, fo, ovf, rst, evb, anb, eva, ana, an, sd)
  rw [← ht]
  show _ = ((bg2, nu2, fm2, fl2), rqE (hdS fb fa fl2 S cf nb fo ovf rst evb anb eva ana an) fm2 sd)
  rw [← hh]
  rfl
theorem fw_2 (h : forThis bl) (ht : (bg2, nu2, fm2, fl2, true) = takeS bl bg nu fm fl) (hh : (false, S2, cf2, nb2, fo2, ovf2, rst2, evb2, anb2, eva2, ana2, an2) = hdS fb fa fl2 S cf nb fo ovf rst evb anb eva ana an) : ((bg2, nu2, fm2, fl2), (S2, cf2, nb2, fo2, ovf2, rst2, evb2, anb2, eva2, ana2, an2, sd)) = fwS fb fa bl ((bg, nu, fm, fl), (S, cf, nb, fo, ovf, rst, evb, anb, eva, ana, an, sd)) := fw_g h ht hh
theorem fw_3 (h : forThis bl) (ht : (bg2, nu2, fm2, fl2, true) = takeS bl bg nu fm fl) (hh : (true, S2, cf2, nb2, fo2, ovf2, rst2, evb2, anb2, eva2, ana2, an2) = hdS fb fa fl2 S cf nb fo ovf rst evb anb eva ana an) : ((bg2, nu2, fm2, fl2), (S2, cf2, nb2, fo2, ovf2, rst2, evb2, anb2, eva2, ana2, an2, sendL an2 fm2 3 0 sd)) = fwS fb fa bl ((bg, nu, fm, fl), (S, cf, nb, fo, ovf, rst, evb, anb, eva, ana, an, sd)) := fw_g h ht hh
theorem tk_b {rq : Bool} (ht : (bg2, nu2, fm2, fl2, rq) = takeS bl bg nu fm fl) (hnu : nu < 64) (hfm : fm < 65536) (hq : ∀ j, bl.getD j 0 < 256) : nu2 < 64 ∧ fm2 < 65536 := by
  have h := takeS_b (bl := bl) (fl := fl) (bg := bg) hnu hfm (by have q1 := hq 6; have q2 := hq 7; unfold fromL; omega)
  rw [← ht] at h
  exact h
end FW
theorem getD_push {bl : List Nat} {b j : Nat} (h : j < bl.length) : (bl ++ [b]).getD j 0 = bl.getD j 0 := by
  rw [List.getD_eq_getElem?_getD, List.getD_eq_getElem?_getD, List.getElem?_append_left h]
theorem crcR_push {bl : List Nat} {b b0 : Nat} : ∀ n, b0 + n ≤ bl.length → crcR (bl ++ [b]) b0 n = crcR bl b0 n
  | 0, _ => rfl
  | n + 1, h => by rw [crcR_succ, crcR_succ, crcR_push n (by omega), getD_push (by omega)]
theorem sumOK_push {bl : List Nat} {b b0 n : Nat} (h : b0 + n + 2 ≤ bl.length) (hs : sumOK bl b0 n) : sumOK (bl ++ [b]) b0 n := by
  unfold sumOK
  rw [crcR_push n (by omega), getD_push (by omega), getD_push (by omega)]
  exact hs
theorem ckInv_push {bl : List Nat} {b ck : Nat} (h : ckInv bl ck) : ckInv (bl ++ [b]) ck := by
  rcases h with h | ⟨j, h1, h2, h3, h4, h5, h6, h7⟩
  · exact Or.inl h
  · have e0 := getD_push (b := b) (show 0 < bl.length by omega)
    have e1 := getD_push (b := b) (show 1 < bl.length by omega)
    have e2 := getD_push (b := b) (show 2 < bl.length by omega)
    have hl : (bl ++ [b]).length = bl.length + 1 := by rw [List.length_append, List.length_singleton]
    have ep : plL (bl ++ [b]) = plL bl := by unfold plL; rw [e2]
    refine Or.inr ⟨j, h1, ?_, by omega, sumOK_push (by omega) h4, by rw [ep]; exact h5, by omega, fun k hk => ?_⟩
    · unfold begBad at h2 ⊢
      rw [e0, e1, e2, hl]
      omega
    · have h9 := h7 k hk
      unfold blkOK at h9 ⊢
      rw [ep]
      exact sumOK_push (by omega) h9
theorem whole_len {bl : List Nat} (h : wholeF bl) : 6 ≤ bl.getD 2 0 ∧ bl.getD 2 0 ≤ 45 ∧ allL bl ≤ bl.length ∧ 10 ≤ allL bl := by
  obtain ⟨h1, h2, h3⟩ := h
  have h4 := begBad_3 (fun z => h1 (Or.inl z)) h2
  exact ⟨h4.1, h4.2, h3, by unfold allL; omega⟩
theorem i32_nle {a b : Int32} (h : a < b) : ¬ b ≤ a := fun z => Int32.lt_irrefl (Int32.lt_of_lt_of_le h z)
theorem hasI_ch {k x : Int32} (h : hasI k x) (h2 : ¬ k = nI 2) : ¬ evB k ∧ ¬ (x < 0 ∨ nI 8 ≤ x) := by
  refine ⟨fun z => ?_, fun z => z.elim h.2.2.1 (fun y => hasI_no4 h h2 y)⟩
  rcases z with z | z
  · exact h.1 z
  · apply h2
    apply Int32.toInt_inj.mp
    have a := h.2.1
    rw [Int32.lt_iff_toInt_lt, show (2 : Int32).toInt = 2 from rfl] at a
    rw [Int32.le_iff_toInt_le, show (nI 2).toInt = 2 from rfl] at z
    rw [show (nI 2).toInt = 2 from rfl]
    omega
theorem chB_n {k x v : Int32} (h : hasI k x) (h2 : ¬ k = nI 2) (h3 : ¬ (k = 0 ∧ (v < 0 ∨ nI 2 ≤ v))) : ¬ chB k x v := fun z => z.elim (hasI_ch h h2).1 (fun z => z.elim (hasI_ch h h2).2 h3)
theorem seB_keep {st : List Nat × Nat} {k : Int32} (h : keepI st k) (hl : st.1.length < 1073741824) : ¬ seB st.1.length k := by
  obtain ⟨kn, rfl, a, b⟩ := keepI_of h hl
  rintro (z | z | z)
  · exact nI_pos (by omega) (Int32.lt_trans z m1_lt0)
  · have := (nI_ltI (by omega) (by omega)).mp z
    omega
  · have := (nI_leI (by omega) (by omega)).mp z
    omega
theorem seB_m1 {n : Nat} (hn : n < 1073741824) : ¬ seB n (-1) := by
  rintro (z | z | z)
  · exact absurd z (by decide)
  · exact absurd z (by decide)
  · exact i32_nle (m1_ltN hn) z
