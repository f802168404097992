/-! OWN ROWS, written by wip/gen (walk.py, spec_s.py) -/
set_option maxHeartbeats 4000000 in
set_option maxRecDepth 100000 in
theorem law_loop {p : Program} {l : Launch} {e : Env} {s : State} {m : MethodId} {below : List Frame} {meth : Method} {c : Code} {D : va_G} {A : Nat → Prop} {Q : State → Prop} {cyI cyZ cyJ : ClassId} {b L : Nat} {xs : Nat → Int32} {xo fd zl zp zq zs zt zk ba aa oa eb ea pb vb qa wa rw lsm ra fr fra an0 anx rd0 se0 kp ssm tl0 tl1 mo va0 ep0 ev0 en0 tk0 lo0 ou0 hd0 fr0 am0 sn0 rp0 oj : Nat} (C : lawC p l s m c D A cyI cyZ cyJ b L xs) (hE : ∀ (H : Heap) (locs : List Loc) (ls : Array Slot) (k n : Nat), va_S A s.heap H locs → k ≤ 611914 → n ≤ 7260363 → W p l e room_1 s m #[Value.ref b] below meth c H locs k n Q (F0 m 726 ls [])) : ∀ n j : Nat, 4 * j ≤ L → L < 4 * j + n → lawK p l e s m below meth c D A Q cyI cyZ cyJ b xo fd zl zp zq zs zt zk ba aa oa eb ea pb vb qa wa rw lsm ra fr fra an0 anx rd0 se0 kp ssm tl0 tl1 mo va0 ep0 ev0 en0 tk0 lo0 ou0 hd0 fr0 am0 sn0 rp0 oj j 23 := by
  intro n
  induction n with
  | zero =>
    intro j h1 h2
    exact absurd h2 (by omega)
  | succ n ih =>
    intro j h1 h2
    obtain ⟨hx, hb, hml, hown, hts, hX, hbl, hbA, hA, hN, hK, hXF, hl9, hL⟩ := id C
    intro fb fa fo ovf rst evb anb eva ana th nu ou vl ag cf nb an st pn bg pa fm fl bl tl fpb fvb fpa fva anf kf ff f ck cv tlf zc mv epf evf enf tkf lof amf knf frf hf rpf sl cm wt bn si ti ov sgv mth gj okp oka okb okc hse hnb oks hpn hpa hfm okl hck hcv h55 okt hb01 hM hmv okf okh okr hti hsl H locs ls hP hD hS hl
    refine lv_iload hx hb dL_law_23 (lv_at hl 4 rfl) ?_
    refine lv_aload_n hx hb dL_law_25 rfl (lv_at hl 0 rfl) ?_
    refine va_slen hx hb hX hbl hbA hS dL_law_26 ?_
    refine lv_iconst (v := nI 4) hx hb dL_law_27 (by decide) ?_
    refine lv_isub hx hb dL_law_28 ?_
    refine lv_icmp_gt (tgt := 726) hx hb dL_law_29 (by decide) (fun c29 => ?_) (fun c29 => ?_)
    · exact hE H locs ls _ _ hS (by omega) (by omega)
    · have hj : 4 * j + 4 ≤ L := law_in hL h1 c29
      have KK : lawK p l e s m below meth c D A Q cyI cyZ cyJ b xo fd zl zp zq zs zt zk ba aa oa eb ea pb vb qa wa rw lsm ra fr fra an0 anx rd0 se0 kp ssm tl0 tl1 mo va0 ep0 ev0 en0 tk0 lo0 ou0 hd0 fr0 am0 sn0 rp0 oj (j + 1) 23 := ih (j + 1) (by omega) (by omega)
      refine lv_aload_n hx hb dL_law_32 rfl (lv_at hl 0 rfl) ?_
      refine lv_iload hx hb dL_law_33 (lv_at hl 4 rfl) ?_
      refine nv_sld (i := 4 * j) hx hb hX hbl hbA hS (by omega) (by omega) dL_law_35 ?_
      refine lv_bipush (v := nI 15) hx hb dL_law_36 (by decide) ?_
      refine lv_iand hx hb dL_law_38 ?_
      refine nv_top (y := nI ((xs (4 * j)).toBitVec.toNat % 16)) (pk_and _ 4 (by decide)) ?_
      obtain ⟨kk, ek⟩ : ∃ kk : Nat, kk = (xs (4 * j)).toBitVec.toNat % 16 := ⟨_, rfl⟩
      have hk16 : kk < 16 := by rw [ek]; exact Nat.mod_lt _ (by decide)
      rw [← ek]
      rcases (show kk = 0 ∨ kk = 1 ∨ kk = 2 ∨ kk = 3 ∨ kk = 4 ∨ kk = 5 ∨ kk = 6 ∨ kk = 7 ∨ kk = 8 ∨ 9 ≤ kk by omega) with rfl | rfl | rfl | rfl | rfl | rfl | rfl | rfl | rfl | h9
      · refine lv_tableIn (tgt := 88) hx hb dL_law_39 (by decide) (by decide) rfl (by decide) ?_
        exact lc_0 C hj KK fb fa fo ovf rst evb anb eva ana th nu ou vl ag cf nb an st pn bg pa fm fl bl tl fpb fvb fpa fva anf kf ff f ck cv tlf zc mv epf evf enf tkf lof amf knf frf hf rpf sl cm wt bn si ti ov sgv mth gj okp oka okb okc hse hnb oks hpn hpa hfm okl hck hcv h55 okt hb01 hM hmv okf okh okr hti hsl H locs ls hP hD hS hl
      · refine lv_tableIn (tgt := 148) hx hb dL_law_39 (by decide) (by decide) rfl (by decide) ?_
        exact lc_1 C hj KK fb fa fo ovf rst evb anb eva ana th nu ou vl ag cf nb an st pn bg pa fm fl bl tl fpb fvb fpa fva anf kf ff f ck cv tlf zc mv epf evf enf tkf lof amf knf frf hf rpf sl cm wt bn si ti ov sgv mth gj okp oka okb okc hse hnb oks hpn hpa hfm okl hck hcv h55 okt hb01 hM hmv okf okh okr hti hsl H locs ls hP hD hS hl
      · refine lv_tableIn (tgt := 216) hx hb dL_law_39 (by decide) (by decide) rfl (by decide) ?_
        exact lc_2 C hj KK fb fa fo ovf rst evb anb eva ana th nu ou vl ag cf nb an st pn bg pa fm fl bl tl fpb fvb fpa fva anf kf ff f ck cv tlf zc mv epf evf enf tkf lof amf knf frf hf rpf sl cm wt bn si ti ov sgv mth gj okp oka okb okc hse hnb oks hpn hpa hfm okl hck hcv h55 okt hb01 hM hmv okf okh okr hti hsl H locs ls hP hD hS hl
      · refine lv_tableIn (tgt := 272) hx hb dL_law_39 (by decide) (by decide) rfl (by decide) ?_
        exact lc_3 C hj KK fb fa fo ovf rst evb anb eva ana th nu ou vl ag cf nb an st pn bg pa fm fl bl tl fpb fvb fpa fva anf kf ff f ck cv tlf zc mv epf evf enf tkf lof amf knf frf hf rpf sl cm wt bn si ti ov sgv mth gj okp oka okb okc hse hnb oks hpn hpa hfm okl hck hcv h55 okt hb01 hM hmv okf okh okr hti hsl H locs ls hP hD hS hl
      · refine lv_tableIn (tgt := 372) hx hb dL_law_39 (by decide) (by decide) rfl (by decide) ?_
        exact lc_4 C hj KK fb fa fo ovf rst evb anb eva ana th nu ou vl ag cf nb an st pn bg pa fm fl bl tl fpb fvb fpa fva anf kf ff f ck cv tlf zc mv epf evf enf tkf lof amf knf frf hf rpf sl cm wt bn si ti ov sgv mth gj okp oka okb okc hse hnb oks hpn hpa hfm okl hck hcv h55 okt hb01 hM hmv okf okh okr hti hsl H locs ls hP hD hS hl
      · refine lv_tableIn (tgt := 408) hx hb dL_law_39 (by decide) (by decide) rfl (by decide) ?_
        exact lc_5 C hj KK fb fa fo ovf rst evb anb eva ana th nu ou vl ag cf nb an st pn bg pa fm fl bl tl fpb fvb fpa fva anf kf ff f ck cv tlf zc mv epf evf enf tkf lof amf knf frf hf rpf sl cm wt bn si ti ov sgv mth gj okp oka okb okc hse hnb oks hpn hpa hfm okl hck hcv h55 okt hb01 hM hmv okf okh okr hti hsl H locs ls hP hD hS hl
      · refine lv_tableIn (tgt := 464) hx hb dL_law_39 (by decide) (by decide) rfl (by decide) ?_
        exact lc_6 C hj KK fb fa fo ovf rst evb anb eva ana th nu ou vl ag cf nb an st pn bg pa fm fl bl tl fpb fvb fpa fva anf kf ff f ck cv tlf zc mv epf evf enf tkf lof amf knf frf hf rpf sl cm wt bn si ti ov sgv mth gj okp oka okb okc hse hnb oks hpn hpa hfm okl hck hcv h55 okt hb01 hM hmv okf okh okr hti hsl H locs ls hP hD hS hl
      · refine lv_tableIn (tgt := 564) hx hb dL_law_39 (by decide) (by decide) rfl (by decide) ?_
        exact lc_7 C hj KK fb fa fo ovf rst evb anb eva ana th nu ou vl ag cf nb an st pn bg pa fm fl bl tl fpb fvb fpa fva anf kf ff f ck cv tlf zc mv epf evf enf tkf lof amf knf frf hf rpf sl cm wt bn si ti ov sgv mth gj okp oka okb okc hse hnb oks hpn hpa hfm okl hck hcv h55 okt hb01 hM hmv okf okh okr hti hsl H locs ls hP hD hS hl
      · refine lv_tableIn (tgt := 664) hx hb dL_law_39 (by decide) (by decide) rfl (by decide) ?_
        exact lc_8 C hj KK fb fa fo ovf rst evb anb eva ana th nu ou vl ag cf nb an st pn bg pa fm fl bl tl fpb fvb fpa fva anf kf ff f ck cv tlf zc mv epf evf enf tkf lof amf knf frf hf rpf sl cm wt bn si ti ov sgv mth gj okp oka okb okc hse hnb oks hpn hpa hfm okl hck hcv h55 okt hb01 hM hmv okf okh okr hti hsl H locs ls hP hD hS hl
      · refine lv_tableOut (tgt := 720) hx hb dL_law_39 (Or.inr (by rw [nI_toInt (by omega)]; omega)) (by decide) ?_
        exact lc_9 C hj KK fb fa fo ovf rst evb anb eva ana th nu ou vl ag cf nb an st pn bg pa fm fl bl tl fpb fvb fpa fva anf kf ff f ck cv tlf zc mv epf evf enf tkf lof amf knf frf hf rpf sl cm wt bn si ti ov sgv mth gj okp oka okb okc hse hnb oks hpn hpa hfm okl hck hcv h55 okt hb01 hM hmv okf okh okr hti hsl H locs ls hP hD hS hl

