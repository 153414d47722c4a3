/-! ===== the law: its loop, its beginning ===== -/
set_option maxRecDepth 100000 in
set_option maxHeartbeats 4000000 in
theorem law_loop {X : zX} {b LL : Nat} {xs : Nat → Int32} (hC : zC X RL code 4 9 600000 7302250) (hX : zXs X b LL xs) (hLL : LL ≤ 320) (hret : ∀ (L : List (Option Value)) (k n : Nat) (σ : zSt), k ≤ 600000 → n ≤ 7302250 → zV X 4 838 L [.int 1] k n σ) : ∀ (r i B kk nn : Nat) (σ : zSt) (S : pS), LL + 5 ≤ i + 5 * r → i ≤ LL + 5 → B + r ≤ 200 → kk + r ≤ 500 → nn + r ≤ 50000 → zCl σ S → zMd σ S → pOk B S → zV X 4 18 [some (.retAddr b), some (.ref 0), some (.ref 53), some (.int (nI i))] [] kk nn σ := by
  intro r
  induction r with
  | zero =>
    intro i B kk nn σ S hr hi hB hk hn hCl hMd ok
    have c23 : nI LL - 5 < nI i ↔ LL < i + 5 := by
      have e := pk_sub_toInt (a := LL) (b := 5) (by omega) (by omega)
      rw [Int32.lt_iff_toInt_lt, nI_toInt (by omega)]
      have e2 : (nI LL - 5).toInt = (LL : Int) - 5 := e
      rw [e2]
      omega
    refine v_iload_n (q := 19) hC dL_law_18 rfl rfl rfl ?_
    refine v_aloadS_n (q := 20) hC dL_law_19 rfl rfl rfl ?_
    refine v_slen (q := 21) hC dL_law_20 rfl hX ?_
    refine v_iconst (q := 22) (v := 5) hC dL_law_21 rfl (by decide) ?_
    refine v_isub (q := 23) hC dL_law_22 rfl ?_
    refine v_icmp_gt (q := 26) (tgt := 837) hC dL_law_23 rfl (by decide) (fun h23 => ?_) (fun h23 => ?_)
    · refine v_iconst (q := 838) (v := 1) hC dL_law_837 rfl (by decide) ?_
      exact hret _ _ _ _ (by omega) (by omega)
    · exact absurd (c23.mpr (by omega)) h23
  | succ r ih =>
    intro i B kk nn σ S hr hi hB hk hn hCl hMd ok
    have c23 : nI LL - 5 < nI i ↔ LL < i + 5 := by
      have e := pk_sub_toInt (a := LL) (b := 5) (by omega) (by omega)
      rw [Int32.lt_iff_toInt_lt, nI_toInt (by omega)]
      have e2 : (nI LL - 5).toInt = (LL : Int) - 5 := e
      rw [e2]
      omega
    have j831 : ∀ (i2 : Nat) (σ2 : zSt) (S2 : pS) (k2 n2 : Nat), i2 = i + 5 → i + 5 ≤ LL → zCl σ2 S2 → zMd σ2 S2 → pOk (B + 1) S2 → k2 ≤ kk + 1 → n2 ≤ nn + 1 → zV X 4 831 [some (.retAddr b), some (.ref 0), some (.ref 53), some (.int (nI i))] [] k2 n2 σ2 := by
      intro i2 σ2 S2 k2 n2 hi2 hi5 g1 g2 g3 g4 g5
      refine v_iinc (q := 834) (v := 5) (L' := [_, _, _, _]) hC dL_law_831 rfl rfl (by decide) (by decide) rfl rfl ?_
      refine v_goto (q := 18) hC dL_law_834 (by decide) ?_
      rw [show nI i + 5 = nI (i + 5) from nI_add i 5]
      exact ih (i + 5) (B + 1) k2 n2 σ2 S2 (by omega) (by omega) (by omega) (by omega) (by omega) g1 g2 g3
    have j26 : i + 5 ≤ LL → zV X 4 26 [some (.retAddr b), some (.ref 0), some (.ref 53), some (.int (nI i))] [] kk nn σ := by
      intro hi5
      refine v_aloadS_n (q := 27) hC dL_law_26 rfl rfl rfl ?_
      refine v_iload_n (q := 28) hC dL_law_27 rfl rfl rfl ?_
      refine v_sld (q := 29) hC dL_law_28 rfl hX rfl (by omega) hLL ?_
      refine v_bipush (q := 31) (v := 31) hC dL_law_29 rfl (by decide) ?_
      refine v_iand (q := 32) hC dL_law_31 rfl ?_
      generalize xs i &&& 31 = v
      by_cases h0 : v = 0
      · refine v_tableIn (q := 152) (off := 120) hC dL_law_32 (by rw [h0]; decide) (by rw [h0]; decide) (by rw [h0]; rfl) (by decide) ?_
        exact law_case_0 hC hX hi5 hLL hCl hMd ok (by omega) (by omega) (by omega) (fun σ2 S2 k2 n2 g1 g2 g3 g4 g5 => j831 (i + 5) σ2 S2 k2 n2 rfl hi5 g1 g2 g3 g4 g5)
      by_cases h1 : v = 1
      · refine v_tableIn (q := 175) (off := 143) hC dL_law_32 (by rw [h1]; decide) (by rw [h1]; decide) (by rw [h1]; rfl) (by decide) ?_
        exact law_case_1 hC hX hi5 hLL hCl hMd ok (by omega) (by omega) (by omega) (fun σ2 S2 k2 n2 g1 g2 g3 g4 g5 => j831 (i + 5) σ2 S2 k2 n2 rfl hi5 g1 g2 g3 g4 g5)
      by_cases h2 : v = 2
      · refine v_tableIn (q := 188) (off := 156) hC dL_law_32 (by rw [h2]; decide) (by rw [h2]; decide) (by rw [h2]; rfl) (by decide) ?_
        exact law_case_2 hC hX hi5 hLL hCl hMd ok (by omega) (by omega) (by omega) (fun σ2 S2 k2 n2 g1 g2 g3 g4 g5 => j831 (i + 5) σ2 S2 k2 n2 rfl hi5 g1 g2 g3 g4 g5)
      by_cases h3 : v = 3
      · refine v_tableIn (q := 201) (off := 169) hC dL_law_32 (by rw [h3]; decide) (by rw [h3]; decide) (by rw [h3]; rfl) (by decide) ?_
        exact law_case_3 hC hX hi5 hLL hCl hMd ok (by omega) (by omega) (by omega) (fun σ2 S2 k2 n2 g1 g2 g3 g4 g5 => j831 (i + 5) σ2 S2 k2 n2 rfl hi5 g1 g2 g3 g4 g5)
      by_cases h4 : v = 4
      · refine v_tableIn (q := 214) (off := 182) hC dL_law_32 (by rw [h4]; decide) (by rw [h4]; decide) (by rw [h4]; rfl) (by decide) ?_
        exact law_case_4 hC hX hi5 hLL hCl hMd ok (by omega) (by omega) (by omega) (fun σ2 S2 k2 n2 g1 g2 g3 g4 g5 => j831 (i + 5) σ2 S2 k2 n2 rfl hi5 g1 g2 g3 g4 g5)
      by_cases h5 : v = 5
      · refine v_tableIn (q := 247) (off := 215) hC dL_law_32 (by rw [h5]; decide) (by rw [h5]; decide) (by rw [h5]; rfl) (by decide) ?_
        exact law_case_5 hC hX hi5 hLL hCl hMd ok (by omega) (by omega) (by omega) (fun σ2 S2 k2 n2 g1 g2 g3 g4 g5 => j831 (i + 5) σ2 S2 k2 n2 rfl hi5 g1 g2 g3 g4 g5)
      by_cases h6 : v = 6
      · refine v_tableIn (q := 270) (off := 238) hC dL_law_32 (by rw [h6]; decide) (by rw [h6]; decide) (by rw [h6]; rfl) (by decide) ?_
        exact law_case_6 hC hX hi5 hLL hCl hMd ok (by omega) (by omega) (by omega) (fun σ2 S2 k2 n2 g1 g2 g3 g4 g5 => j831 (i + 5) σ2 S2 k2 n2 rfl hi5 g1 g2 g3 g4 g5)
      by_cases h7 : v = 7
      · refine v_tableIn (q := 303) (off := 271) hC dL_law_32 (by rw [h7]; decide) (by rw [h7]; decide) (by rw [h7]; rfl) (by decide) ?_
        exact law_case_7 hC hX hi5 hLL hCl hMd ok (by omega) (by omega) (by omega) (fun σ2 S2 k2 n2 g1 g2 g3 g4 g5 => j831 (i + 5) σ2 S2 k2 n2 rfl hi5 g1 g2 g3 g4 g5)
      by_cases h8 : v = 8
      · refine v_tableIn (q := 336) (off := 304) hC dL_law_32 (by rw [h8]; decide) (by rw [h8]; decide) (by rw [h8]; rfl) (by decide) ?_
        exact law_case_8 hC hX hi5 hLL hCl hMd ok (by omega) (by omega) (by omega) (fun σ2 S2 k2 n2 g1 g2 g3 g4 g5 => j831 (i + 5) σ2 S2 k2 n2 rfl hi5 g1 g2 g3 g4 g5)
      by_cases h9 : v = 9
      · refine v_tableIn (q := 389) (off := 357) hC dL_law_32 (by rw [h9]; decide) (by rw [h9]; decide) (by rw [h9]; rfl) (by decide) ?_
        exact law_case_9 hC hX hi5 hLL hCl hMd ok (by omega) (by omega) (by omega) (fun σ2 S2 k2 n2 g1 g2 g3 g4 g5 => j831 (i + 5) σ2 S2 k2 n2 rfl hi5 g1 g2 g3 g4 g5)
      by_cases h10 : v = 10
      · refine v_tableIn (q := 442) (off := 410) hC dL_law_32 (by rw [h10]; decide) (by rw [h10]; decide) (by rw [h10]; rfl) (by decide) ?_
        exact law_case_10 hC hX hi5 hLL hCl hMd ok (by omega) (by omega) (by omega) (fun σ2 S2 k2 n2 g1 g2 g3 g4 g5 => j831 (i + 5) σ2 S2 k2 n2 rfl hi5 g1 g2 g3 g4 g5)
      by_cases h11 : v = 11
      · refine v_tableIn (q := 475) (off := 443) hC dL_law_32 (by rw [h11]; decide) (by rw [h11]; decide) (by rw [h11]; rfl) (by decide) ?_
        exact law_case_11 hC hX hi5 hLL hCl hMd ok (by omega) (by omega) (by omega) (fun σ2 S2 k2 n2 g1 g2 g3 g4 g5 => j831 (i + 5) σ2 S2 k2 n2 rfl hi5 g1 g2 g3 g4 g5)
      by_cases h12 : v = 12
      · refine v_tableIn (q := 488) (off := 456) hC dL_law_32 (by rw [h12]; decide) (by rw [h12]; decide) (by rw [h12]; rfl) (by decide) ?_
        exact law_case_12 hC hX hi5 hLL hCl hMd ok (by omega) (by omega) (by omega) (fun σ2 S2 k2 n2 g1 g2 g3 g4 g5 => j831 (i + 5) σ2 S2 k2 n2 rfl hi5 g1 g2 g3 g4 g5)
      by_cases h13 : v = 13
      · refine v_tableIn (q := 531) (off := 499) hC dL_law_32 (by rw [h13]; decide) (by rw [h13]; decide) (by rw [h13]; rfl) (by decide) ?_
        exact law_case_13 hC hX hi5 hLL hCl hMd ok (by omega) (by omega) (by omega) (fun σ2 S2 k2 n2 g1 g2 g3 g4 g5 => j831 (i + 5) σ2 S2 k2 n2 rfl hi5 g1 g2 g3 g4 g5)
      by_cases h14 : v = 14
      · refine v_tableIn (q := 554) (off := 522) hC dL_law_32 (by rw [h14]; decide) (by rw [h14]; decide) (by rw [h14]; rfl) (by decide) ?_
        exact law_case_14 hC hX hi5 hLL hCl hMd ok (by omega) (by omega) (by omega) (fun σ2 S2 k2 n2 g1 g2 g3 g4 g5 => j831 (i + 5) σ2 S2 k2 n2 rfl hi5 g1 g2 g3 g4 g5)
      by_cases h15 : v = 15
      · refine v_tableIn (q := 587) (off := 555) hC dL_law_32 (by rw [h15]; decide) (by rw [h15]; decide) (by rw [h15]; rfl) (by decide) ?_
        exact law_case_15 hC hX hi5 hLL hCl hMd ok (by omega) (by omega) (by omega) (fun σ2 S2 k2 n2 g1 g2 g3 g4 g5 => j831 (i + 5) σ2 S2 k2 n2 rfl hi5 g1 g2 g3 g4 g5)
      by_cases h16 : v = 16
      · refine v_tableIn (q := 620) (off := 588) hC dL_law_32 (by rw [h16]; decide) (by rw [h16]; decide) (by rw [h16]; rfl) (by decide) ?_
        exact law_case_16 hC hX hi5 hLL hCl hMd ok (by omega) (by omega) (by omega) (fun σ2 S2 k2 n2 g1 g2 g3 g4 g5 => j831 (i + 5) σ2 S2 k2 n2 rfl hi5 g1 g2 g3 g4 g5)
      by_cases h17 : v = 17
      · refine v_tableIn (q := 653) (off := 621) hC dL_law_32 (by rw [h17]; decide) (by rw [h17]; decide) (by rw [h17]; rfl) (by decide) ?_
        exact law_case_17 hC hX hi5 hLL hCl hMd ok (by omega) (by omega) (by omega) (fun σ2 S2 k2 n2 g1 g2 g3 g4 g5 => j831 (i + 5) σ2 S2 k2 n2 rfl hi5 g1 g2 g3 g4 g5)
      by_cases h18 : v = 18
      · refine v_tableIn (q := 676) (off := 644) hC dL_law_32 (by rw [h18]; decide) (by rw [h18]; decide) (by rw [h18]; rfl) (by decide) ?_
        exact law_case_18 hC hX hi5 hLL hCl hMd ok (by omega) (by omega) (by omega) (fun σ2 S2 k2 n2 g1 g2 g3 g4 g5 => j831 (i + 5) σ2 S2 k2 n2 rfl hi5 g1 g2 g3 g4 g5)
      by_cases h19 : v = 19
      · refine v_tableIn (q := 689) (off := 657) hC dL_law_32 (by rw [h19]; decide) (by rw [h19]; decide) (by rw [h19]; rfl) (by decide) ?_
        exact law_case_19 hC hX hi5 hLL hCl hMd ok (by omega) (by omega) (by omega) (fun σ2 S2 k2 n2 g1 g2 g3 g4 g5 => j831 (i + 5) σ2 S2 k2 n2 rfl hi5 g1 g2 g3 g4 g5)
      by_cases h20 : v = 20
      · refine v_tableIn (q := 702) (off := 670) hC dL_law_32 (by rw [h20]; decide) (by rw [h20]; decide) (by rw [h20]; rfl) (by decide) ?_
        exact law_case_20 hC hX hi5 hLL hCl hMd ok (by omega) (by omega) (by omega) (fun σ2 S2 k2 n2 g1 g2 g3 g4 g5 => j831 (i + 5) σ2 S2 k2 n2 rfl hi5 g1 g2 g3 g4 g5)
      by_cases h21 : v = 21
      · refine v_tableIn (q := 725) (off := 693) hC dL_law_32 (by rw [h21]; decide) (by rw [h21]; decide) (by rw [h21]; rfl) (by decide) ?_
        exact law_case_21 hC hX hi5 hLL hCl hMd ok (by omega) (by omega) (by omega) (fun σ2 S2 k2 n2 g1 g2 g3 g4 g5 => j831 (i + 5) σ2 S2 k2 n2 rfl hi5 g1 g2 g3 g4 g5)
      by_cases h22 : v = 22
      · refine v_tableIn (q := 768) (off := 736) hC dL_law_32 (by rw [h22]; decide) (by rw [h22]; decide) (by rw [h22]; rfl) (by decide) ?_
        exact law_case_22 hC hX hi5 hLL hCl hMd ok (by omega) (by omega) (by omega) (fun σ2 S2 k2 n2 g1 g2 g3 g4 g5 => j831 (i + 5) σ2 S2 k2 n2 rfl hi5 g1 g2 g3 g4 g5)
      by_cases h23 : v = 23
      · refine v_tableIn (q := 781) (off := 749) hC dL_law_32 (by rw [h23]; decide) (by rw [h23]; decide) (by rw [h23]; rfl) (by decide) ?_
        exact law_case_23 hC hX hi5 hLL hCl hMd ok (by omega) (by omega) (by omega) (fun σ2 S2 k2 n2 g1 g2 g3 g4 g5 => j831 (i + 5) σ2 S2 k2 n2 rfl hi5 g1 g2 g3 g4 g5)
      by_cases h24 : v = 24
      · refine v_tableIn (q := 794) (off := 762) hC dL_law_32 (by rw [h24]; decide) (by rw [h24]; decide) (by rw [h24]; rfl) (by decide) ?_
        exact law_case_24 hC hX hi5 hLL hCl hMd ok (by omega) (by omega) (by omega) (fun σ2 S2 k2 n2 g1 g2 g3 g4 g5 => j831 (i + 5) σ2 S2 k2 n2 rfl hi5 g1 g2 g3 g4 g5)
      by_cases h25 : v = 25
      · refine v_tableIn (q := 817) (off := 785) hC dL_law_32 (by rw [h25]; decide) (by rw [h25]; decide) (by rw [h25]; rfl) (by decide) ?_
        exact law_case_25 hC hX hi5 hLL hCl hMd ok (by omega) (by omega) (by omega) (fun σ2 S2 k2 n2 g1 g2 g3 g4 g5 => j831 (i + 5) σ2 S2 k2 n2 rfl hi5 g1 g2 g3 g4 g5)
      refine v_tableOut (q := 831) hC dL_law_32 (by have := lv_neT (a := 0) h0 rfl; have := lv_neT (a := 1) h1 rfl; have := lv_neT (a := 2) h2 rfl; have := lv_neT (a := 3) h3 rfl; have := lv_neT (a := 4) h4 rfl; have := lv_neT (a := 5) h5 rfl; have := lv_neT (a := 6) h6 rfl; have := lv_neT (a := 7) h7 rfl; have := lv_neT (a := 8) h8 rfl; have := lv_neT (a := 9) h9 rfl; have := lv_neT (a := 10) h10 rfl; have := lv_neT (a := 11) h11 rfl; have := lv_neT (a := 12) h12 rfl; have := lv_neT (a := 13) h13 rfl; have := lv_neT (a := 14) h14 rfl; have := lv_neT (a := 15) h15 rfl; have := lv_neT (a := 16) h16 rfl; have := lv_neT (a := 17) h17 rfl; have := lv_neT (a := 18) h18 rfl; have := lv_neT (a := 19) h19 rfl; have := lv_neT (a := 20) h20 rfl; have := lv_neT (a := 21) h21 rfl; have := lv_neT (a := 22) h22 rfl; have := lv_neT (a := 23) h23 rfl; have := lv_neT (a := 24) h24 rfl; have := lv_neT (a := 25) h25 rfl; omega) (by decide) ?_
      exact j831 (i + 5) σ S kk nn rfl hi5 hCl hMd (ok.up (by omega)) (by omega) (by omega)
    refine v_iload_n (q := 19) hC dL_law_18 rfl rfl rfl ?_
    refine v_aloadS_n (q := 20) hC dL_law_19 rfl rfl rfl ?_
    refine v_slen (q := 21) hC dL_law_20 rfl hX ?_
    refine v_iconst (q := 22) (v := 5) hC dL_law_21 rfl (by decide) ?_
    refine v_isub (q := 23) hC dL_law_22 rfl ?_
    refine v_icmp_gt (q := 26) (tgt := 837) hC dL_law_23 rfl (by decide) (fun h23 => ?_) (fun h23 => ?_)
    · refine v_iconst (q := 838) (v := 1) hC dL_law_837 rfl (by decide) ?_
      exact hret _ _ _ _ (by omega) (by omega)
    · exact j26 (by have : ¬ LL < i + 5 := fun z => h23 (c23.mpr z); omega)

set_option maxRecDepth 100000 in
set_option maxHeartbeats 4000000 in
theorem law_begin {X : zX} {b LL : Nat} {xs : Nat → Int32} (hC : zC X RL code 4 9 600000 7302250) (hX : zXs X b LL xs) (hLL : LL ≤ 320) (hret : ∀ (L : List (Option Value)) (k n : Nat) (σ : zSt), k ≤ 600000 → n ≤ 7302250 → zV X 4 838 L [.int 1] k n σ) : zV X 4 0 [some (.retAddr b), none, none, none] [] 0 0 zE0 := by
  refine v_new (q := 3) hC dL_law_0 rfl nL_7 (by decide) ?_
  refine v_dup (q := 4) hC dL_law_3 rfl rfl ?_
  refine v_callI (q := 7) (As := []) hC dL_law_4 rfl lL_9 mX11_init iX11_init rfl (ct_X11_init 0) rfl rfl (by omega) (by decide) (Nat.le_of_ble_eq_true rfl) ?_
  rintro _ _ ⟨rfl, rfl⟩
  refine v_astore_n (q := 8) (L' := [_, _, _, _]) hC dL_law_7 rfl rfl (by decide) rfl rfl ?_
  refine v_new (q := 11) hC dL_law_8 rfl nL_10 (by decide) ?_
  refine v_dup (q := 12) hC dL_law_11 rfl rfl ?_
  refine v_callI (q := 15) (As := []) hC dL_law_12 rfl lL_12 mX12_init iX12_init rfl (ct_X12_init 0 zN_new) rfl rfl (by omega) (by decide) (Nat.le_of_ble_eq_true rfl) ?_
  rintro _ _ ⟨rfl, rfl⟩
  rw [zFin_len]
  rw [show zMoI (zN zMaI (0, 12)) 53 = zFin from rfl]
  refine v_astore_n (q := 16) (L' := [_, _, _, _]) hC dL_law_15 rfl rfl (by decide) rfl rfl ?_
  refine v_iconst (q := 17) (v := 0) hC dL_law_16 rfl (by decide) ?_
  refine v_istore_n (q := 18) (L' := [_, _, _, _]) hC dL_law_17 rfl rfl (by decide) rfl rfl ?_
  exact law_loop hC hX hLL hret 65 0 0 _ _ zFin pS0 (by omega) (by omega) (by omega) (by decide) (by decide) zFin_cl zFin_md ok_0

