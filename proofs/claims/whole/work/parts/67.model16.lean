/-! ===== the model: diaries ===== -/
theorem zpm (i : Nat) : nI (i + 1) + -1 = nI i := by
  rw [← nI_1, Int32.add_assoc, show (1 : Int32) + -1 = 0 from rfl, Int32.add_zero]
theorem pSum_s {f : Nat → Nat} {v y : Nat} (h : f v = y) : pSum f (v + 1) = pSum f v + y := by show pSum f v + f v = _; rw [h]
theorem pAny_s {f : Nat → Bool} {v : Nat} {y : Bool} (h : f v = y) : pAny f (v + 1) = (pAny f v || y) := by show (pAny f v || f v) = _; rw [h]
theorem zcb1 {p : Nat} {t : Int32} (h : t = -1 ∨ t = nI p) : pCb p t = true := by unfold pCb; rcases h with h | h <;> simp [h]
theorem zcb0 {p : Nat} {t : Int32} (h1 : ¬ t = -1) (h2 : ¬ t = nI p) : pCb p t = false := by unfold pCb; simp [h1, h2]

set_option maxRecDepth 100000 in
set_option maxHeartbeats 4000000 in
theorem ct_X12_fitsAt_0 (d : Nat) {σ : zSt} (hL : zLay σ) {n : Nat} {kd : Nat → Nat} {kin met : Nat → Nat → Bool} {t : Nat} (hF : zMf σ n kd kin met t) (hs : zMs σ none none) (hsy : ∀ a b, a < 6 → b < 6 → kin a b = kin b a) {m : Nat} {W : Nat → Int32} (hy : zMy σ m W) {x : Nat → Nat} {p : Nat} (hp : p < n) (hi : 0 < m) (hput : ∀ k, k < 0 → zI σ 66 k = nI (x k) ∧ x k < n) : zEv (d + 3) MX12_fitsAt [.ref 53, .int (nI 0), .int (nI p)] σ (some (.int (zb (pFa (pGv kd kin met) (pSn kin) W x 0 p)))) σ := by
  refine zCt.of (L := [some (.ref 53), some (.int (nI 0)), some (.int (nI p))]) (by decide) (Nat.le_of_ble_eq_true rfl) rfl (fun X hC hB => ?_)
  have hC : zC X RX12 cX12_fitsAt 3 (d + 3) 0 0 := hC
  have hB : zB X (some .boolean) 0 0 "fitsAt" σ _ := hB
  show zV X 3 0 [some (.ref 53), some (.int (nI 0)), some (.int (nI p))] [] 0 0 σ
  have hn6 := hF.2.1
  have hm7 := hy.2.1
  refine v_aload_n (q := 1) hC dX12_fitsAt_0 rfl rfl rfl ?_
  refine v_getR (q := 4) (r := 65) hC dX12_fitsAt_1 rfl fX12_43 (hL.1 53 (by decide)) (hL.2 53 29 65 rfl) ?_
  refine v_iload_n (q := 5) hC dX12_fitsAt_4 rfl rfl rfl ?_
  refine v_ialdN (q := 6) (j := 0) hC dX12_fitsAt_5 rfl (hL.1 65 (by decide)) rfl (by omega) (by decide) ?_
  rw [hy.2.2 0 hi]
  refine v_iconst (q := 7) (v := -1) hC dX12_fitsAt_6 rfl (by decide) ?_
  refine v_icmp_eq (q := 10) (tgt := 22) hC dX12_fitsAt_7 rfl (by decide) (fun h7 => ?_) (fun h7 => ?_)
  · refine v_iload_n (q := 23) hC dX12_fitsAt_22 rfl rfl rfl ?_
    refine v_if_eq (q := 26) (tgt := 59) hC dX12_fitsAt_23 rfl (by decide) (fun h23 => ?_) (fun h23 => ?_)
    · refine v_iconst (q := 60) (v := 1) hC dX12_fitsAt_59 rfl (by decide) ?_
      refine v_goto (q := 64) hC dX12_fitsAt_60 (by decide) ?_
      refine v_zreturn hC hB dX12_fitsAt_64 ⟨Nat.le_refl _, Nat.le_refl _⟩ (by first | exact Or.inl rfl | exact Or.inr rfl | exact zb_01 _) ?_
      have hcb : pCb p (W 0) = true := by first | exact zcb1 (Or.inl h7) | exact zcb1 (Or.inr h17)
      exact ⟨by unfold pFa; rw [hcb]; rfl, rfl⟩
    · exact absurd rfl h23
  · refine v_aload_n (q := 11) hC dX12_fitsAt_10 rfl rfl rfl ?_
    refine v_getR (q := 14) (r := 65) hC dX12_fitsAt_11 rfl fX12_43 (hL.1 53 (by decide)) (hL.2 53 29 65 rfl) ?_
    refine v_iload_n (q := 15) hC dX12_fitsAt_14 rfl rfl rfl ?_
    refine v_ialdN (q := 16) (j := 0) hC dX12_fitsAt_15 rfl (hL.1 65 (by decide)) rfl (by omega) (by decide) ?_
    rw [hy.2.2 0 hi]
    refine v_iload_n (q := 17) hC dX12_fitsAt_16 rfl rfl rfl ?_
    refine v_icmp_eq (q := 20) (tgt := 22) hC dX12_fitsAt_17 rfl (by decide) (fun h17 => ?_) (fun h17 => ?_)
    · refine v_iload_n (q := 23) hC dX12_fitsAt_22 rfl rfl rfl ?_
      refine v_if_eq (q := 26) (tgt := 59) hC dX12_fitsAt_23 rfl (by decide) (fun h23 => ?_) (fun h23 => ?_)
      · refine v_iconst (q := 60) (v := 1) hC dX12_fitsAt_59 rfl (by decide) ?_
        refine v_goto (q := 64) hC dX12_fitsAt_60 (by decide) ?_
        refine v_zreturn hC hB dX12_fitsAt_64 ⟨Nat.le_refl _, Nat.le_refl _⟩ (by first | exact Or.inl rfl | exact Or.inr rfl | exact zb_01 _) ?_
        have hcb : pCb p (W 0) = true := by first | exact zcb1 (Or.inl h7) | exact zcb1 (Or.inr h17)
        exact ⟨by unfold pFa; rw [hcb]; rfl, rfl⟩
      · exact absurd rfl h23
    · refine v_iconst (q := 21) (v := 0) hC dX12_fitsAt_20 rfl (by decide) ?_
      refine v_zreturn hC hB dX12_fitsAt_21 ⟨Nat.le_refl _, Nat.le_refl _⟩ (by first | exact Or.inl rfl | exact Or.inr rfl | exact zb_01 _) ?_
      exact ⟨zbf (by unfold pFa; rw [zcb0 h7 h17]; rfl), rfl⟩

set_option maxRecDepth 100000 in
set_option maxHeartbeats 4000000 in
theorem ct_X12_fitsAt_1 (d : Nat) {σ : zSt} (hL : zLay σ) {n : Nat} {kd : Nat → Nat} {kin met : Nat → Nat → Bool} {t : Nat} (hF : zMf σ n kd kin met t) (hs : zMs σ none none) (hsy : ∀ a b, a < 6 → b < 6 → kin a b = kin b a) {m : Nat} {W : Nat → Int32} (hy : zMy σ m W) {x : Nat → Nat} {p : Nat} (hp : p < n) (hi : 1 < m) (hput : ∀ k, k < 1 → zI σ 66 k = nI (x k) ∧ x k < n) : zEv (d + 3) MX12_fitsAt [.ref 53, .int (nI 1), .int (nI p)] σ (some (.int (zb (pFa (pGv kd kin met) (pSn kin) W x 1 p)))) σ := by
  refine zCt.of (L := [some (.ref 53), some (.int (nI 1)), some (.int (nI p))]) (by decide) (Nat.le_of_ble_eq_true rfl) rfl (fun X hC hB => ?_)
  have hC : zC X RX12 cX12_fitsAt 3 (d + 3) 0 0 := hC
  have hB : zB X (some .boolean) 0 0 "fitsAt" σ _ := hB
  show zV X 3 0 [some (.ref 53), some (.int (nI 1)), some (.int (nI p))] [] 0 0 σ
  have hn6 := hF.2.1
  have hm7 := hy.2.1
  refine v_aload_n (q := 1) hC dX12_fitsAt_0 rfl rfl rfl ?_
  refine v_getR (q := 4) (r := 65) hC dX12_fitsAt_1 rfl fX12_43 (hL.1 53 (by decide)) (hL.2 53 29 65 rfl) ?_
  refine v_iload_n (q := 5) hC dX12_fitsAt_4 rfl rfl rfl ?_
  refine v_ialdN (q := 6) (j := 1) hC dX12_fitsAt_5 rfl (hL.1 65 (by decide)) rfl (by omega) (by decide) ?_
  rw [hy.2.2 1 hi]
  refine v_iconst (q := 7) (v := -1) hC dX12_fitsAt_6 rfl (by decide) ?_
  refine v_icmp_eq (q := 10) (tgt := 22) hC dX12_fitsAt_7 rfl (by decide) (fun h7 => ?_) (fun h7 => ?_)
  · refine v_iload_n (q := 23) hC dX12_fitsAt_22 rfl rfl rfl ?_
    refine v_if_eq (q := 26) (tgt := 59) hC dX12_fitsAt_23 rfl (by decide) (fun h23 => ?_) (fun h23 => ?_)
    · exact absurd h23 (by decide)
    · refine v_aload_n (q := 27) hC dX12_fitsAt_26 rfl rfl rfl ?_
      refine v_iload_n (q := 28) hC dX12_fitsAt_27 rfl rfl rfl ?_
      refine v_iconst (q := 29) (v := 1) hC dX12_fitsAt_28 rfl (by decide) ?_
      refine v_icmp_ne (q := 32) (tgt := 36) hC dX12_fitsAt_29 rfl (by decide) (fun h29 => ?_) (fun h29 => ?_)
      · exact absurd rfl h29
      · refine v_iconst (q := 33) (v := -1) hC dX12_fitsAt_32 rfl (by decide) ?_
        refine v_goto (q := 44) hC dX12_fitsAt_33 (by decide) ?_
        refine v_aload_n (q := 45) hC dX12_fitsAt_44 rfl rfl rfl ?_
        refine v_getR (q := 48) (r := 66) hC dX12_fitsAt_45 rfl fX12_46 (hL.1 53 (by decide)) (hL.2 53 30 66 rfl) ?_
        refine v_iload_n (q := 49) hC dX12_fitsAt_48 rfl rfl rfl ?_
        refine v_iconst (q := 50) (v := 1) hC dX12_fitsAt_49 rfl (by decide) ?_
        refine v_isub (q := 51) hC dX12_fitsAt_50 rfl ?_
        refine v_ialdN (q := 52) (j := 0) hC dX12_fitsAt_51 rfl (hL.1 66 (by decide)) rfl (by omega) (by decide) ?_
        rw [(hput 0 (by omega)).1]
        refine v_iload_n (q := 53) hC dX12_fitsAt_52 rfl rfl rfl ?_
        rw [show (-1 : Int32) = zo none from rfl]
        refine v_callV1 (q := 56) (As := [_, _, _]) hC dX12_fitsAt_53 rfl lX12_189 mX12_follows iX12_follows eX12_follows rfl (hL.1 53 (by decide)) (ct_X12_followsG d hL hF hs hsy (i := none) (fun g hg => by cases hg) (hput 0 (by omega)).2 hp) rfl rfl (by omega) rfl (Nat.le_of_ble_eq_true rfl) ?_
        refine v_if_eq (q := 59) (tgt := 63) hC dX12_fitsAt_56 rfl (by decide) (fun h56 => ?_) (fun h56 => ?_)
        · refine v_iconst (q := 64) (v := 0) hC dX12_fitsAt_63 rfl (by decide) ?_
          refine v_zreturn hC hB dX12_fitsAt_64 ⟨Nat.le_refl _, Nat.le_refl _⟩ (by first | exact Or.inl rfl | exact Or.inr rfl | exact zb_01 _) ?_
          have hcb : pCb p (W 1) = true := by first | exact zcb1 (Or.inl h7) | exact zcb1 (Or.inr h17)
          first
            | exact ⟨zbt (by unfold pFa; rw [hcb]; have := zb_ne h56; simpa [pFw, pFl] using this), rfl⟩
            | exact ⟨zbf (by unfold pFa; rw [hcb]; have := zb_eq0.mp h56; simpa [pFw, pFl] using this), rfl⟩
        · refine v_iconst (q := 60) (v := 1) hC dX12_fitsAt_59 rfl (by decide) ?_
          refine v_goto (q := 64) hC dX12_fitsAt_60 (by decide) ?_
          refine v_zreturn hC hB dX12_fitsAt_64 ⟨Nat.le_refl _, Nat.le_refl _⟩ (by first | exact Or.inl rfl | exact Or.inr rfl | exact zb_01 _) ?_
          have hcb : pCb p (W 1) = true := by first | exact zcb1 (Or.inl h7) | exact zcb1 (Or.inr h17)
          first
            | exact ⟨zbt (by unfold pFa; rw [hcb]; have := zb_ne h56; simpa [pFw, pFl] using this), rfl⟩
            | exact ⟨zbf (by unfold pFa; rw [hcb]; have := zb_eq0.mp h56; simpa [pFw, pFl] using this), rfl⟩
  · refine v_aload_n (q := 11) hC dX12_fitsAt_10 rfl rfl rfl ?_
    refine v_getR (q := 14) (r := 65) hC dX12_fitsAt_11 rfl fX12_43 (hL.1 53 (by decide)) (hL.2 53 29 65 rfl) ?_
    refine v_iload_n (q := 15) hC dX12_fitsAt_14 rfl rfl rfl ?_
    refine v_ialdN (q := 16) (j := 1) hC dX12_fitsAt_15 rfl (hL.1 65 (by decide)) rfl (by omega) (by decide) ?_
    rw [hy.2.2 1 hi]
    refine v_iload_n (q := 17) hC dX12_fitsAt_16 rfl rfl rfl ?_
    refine v_icmp_eq (q := 20) (tgt := 22) hC dX12_fitsAt_17 rfl (by decide) (fun h17 => ?_) (fun h17 => ?_)
    · refine v_iload_n (q := 23) hC dX12_fitsAt_22 rfl rfl rfl ?_
      refine v_if_eq (q := 26) (tgt := 59) hC dX12_fitsAt_23 rfl (by decide) (fun h23 => ?_) (fun h23 => ?_)
      · exact absurd h23 (by decide)
      · refine v_aload_n (q := 27) hC dX12_fitsAt_26 rfl rfl rfl ?_
        refine v_iload_n (q := 28) hC dX12_fitsAt_27 rfl rfl rfl ?_
        refine v_iconst (q := 29) (v := 1) hC dX12_fitsAt_28 rfl (by decide) ?_
        refine v_icmp_ne (q := 32) (tgt := 36) hC dX12_fitsAt_29 rfl (by decide) (fun h29 => ?_) (fun h29 => ?_)
        · exact absurd rfl h29
        · refine v_iconst (q := 33) (v := -1) hC dX12_fitsAt_32 rfl (by decide) ?_
          refine v_goto (q := 44) hC dX12_fitsAt_33 (by decide) ?_
          refine v_aload_n (q := 45) hC dX12_fitsAt_44 rfl rfl rfl ?_
          refine v_getR (q := 48) (r := 66) hC dX12_fitsAt_45 rfl fX12_46 (hL.1 53 (by decide)) (hL.2 53 30 66 rfl) ?_
          refine v_iload_n (q := 49) hC dX12_fitsAt_48 rfl rfl rfl ?_
          refine v_iconst (q := 50) (v := 1) hC dX12_fitsAt_49 rfl (by decide) ?_
          refine v_isub (q := 51) hC dX12_fitsAt_50 rfl ?_
          refine v_ialdN (q := 52) (j := 0) hC dX12_fitsAt_51 rfl (hL.1 66 (by decide)) rfl (by omega) (by decide) ?_
          rw [(hput 0 (by omega)).1]
          refine v_iload_n (q := 53) hC dX12_fitsAt_52 rfl rfl rfl ?_
          rw [show (-1 : Int32) = zo none from rfl]
          refine v_callV1 (q := 56) (As := [_, _, _]) hC dX12_fitsAt_53 rfl lX12_189 mX12_follows iX12_follows eX12_follows rfl (hL.1 53 (by decide)) (ct_X12_followsG d hL hF hs hsy (i := none) (fun g hg => by cases hg) (hput 0 (by omega)).2 hp) rfl rfl (by omega) rfl (Nat.le_of_ble_eq_true rfl) ?_
          refine v_if_eq (q := 59) (tgt := 63) hC dX12_fitsAt_56 rfl (by decide) (fun h56 => ?_) (fun h56 => ?_)
          · refine v_iconst (q := 64) (v := 0) hC dX12_fitsAt_63 rfl (by decide) ?_
            refine v_zreturn hC hB dX12_fitsAt_64 ⟨Nat.le_refl _, Nat.le_refl _⟩ (by first | exact Or.inl rfl | exact Or.inr rfl | exact zb_01 _) ?_
            have hcb : pCb p (W 1) = true := by first | exact zcb1 (Or.inl h7) | exact zcb1 (Or.inr h17)
            first
              | exact ⟨zbt (by unfold pFa; rw [hcb]; have := zb_ne h56; simpa [pFw, pFl] using this), rfl⟩
              | exact ⟨zbf (by unfold pFa; rw [hcb]; have := zb_eq0.mp h56; simpa [pFw, pFl] using this), rfl⟩
          · refine v_iconst (q := 60) (v := 1) hC dX12_fitsAt_59 rfl (by decide) ?_
            refine v_goto (q := 64) hC dX12_fitsAt_60 (by decide) ?_
            refine v_zreturn hC hB dX12_fitsAt_64 ⟨Nat.le_refl _, Nat.le_refl _⟩ (by first | exact Or.inl rfl | exact Or.inr rfl | exact zb_01 _) ?_
            have hcb : pCb p (W 1) = true := by first | exact zcb1 (Or.inl h7) | exact zcb1 (Or.inr h17)
            first
              | exact ⟨zbt (by unfold pFa; rw [hcb]; have := zb_ne h56; simpa [pFw, pFl] using this), rfl⟩
              | exact ⟨zbf (by unfold pFa; rw [hcb]; have := zb_eq0.mp h56; simpa [pFw, pFl] using this), rfl⟩
    · refine v_iconst (q := 21) (v := 0) hC dX12_fitsAt_20 rfl (by decide) ?_
      refine v_zreturn hC hB dX12_fitsAt_21 ⟨Nat.le_refl _, Nat.le_refl _⟩ (by first | exact Or.inl rfl | exact Or.inr rfl | exact zb_01 _) ?_
      exact ⟨zbf (by unfold pFa; rw [zcb0 h7 h17]; rfl), rfl⟩

set_option maxRecDepth 100000 in
set_option maxHeartbeats 4000000 in
theorem ct_X12_fitsAt_2 (d : Nat) {σ : zSt} (hL : zLay σ) {n : Nat} {kd : Nat → Nat} {kin met : Nat → Nat → Bool} {t : Nat} (hF : zMf σ n kd kin met t) (hs : zMs σ none none) (hsy : ∀ a b, a < 6 → b < 6 → kin a b = kin b a) {m : Nat} {W : Nat → Int32} (hy : zMy σ m W) {x : Nat → Nat} {p : Nat} (hp : p < n) {i : Nat} (hi : (i + 2) < m) (hput : ∀ k, k < (i + 2) → zI σ 66 k = nI (x k) ∧ x k < n) : zEv (d + 3) MX12_fitsAt [.ref 53, .int (nI (i + 2)), .int (nI p)] σ (some (.int (zb (pFa (pGv kd kin met) (pSn kin) W x (i + 2) p)))) σ := by
  refine zCt.of (L := [some (.ref 53), some (.int (nI (i + 2))), some (.int (nI p))]) (by decide) (Nat.le_of_ble_eq_true rfl) rfl (fun X hC hB => ?_)
  have hC : zC X RX12 cX12_fitsAt 3 (d + 3) 0 0 := hC
  have hB : zB X (some .boolean) 0 0 "fitsAt" σ _ := hB
  show zV X 3 0 [some (.ref 53), some (.int (nI (i + 2))), some (.int (nI p))] [] 0 0 σ
  have hn6 := hF.2.1
  have hm7 := hy.2.1
  refine v_aload_n (q := 1) hC dX12_fitsAt_0 rfl rfl rfl ?_
  refine v_getR (q := 4) (r := 65) hC dX12_fitsAt_1 rfl fX12_43 (hL.1 53 (by decide)) (hL.2 53 29 65 rfl) ?_
  refine v_iload_n (q := 5) hC dX12_fitsAt_4 rfl rfl rfl ?_
  refine v_ialdN (q := 6) (j := (i + 2)) hC dX12_fitsAt_5 rfl (hL.1 65 (by decide)) rfl (by omega) (by decide) ?_
  rw [hy.2.2 (i + 2) hi]
  refine v_iconst (q := 7) (v := -1) hC dX12_fitsAt_6 rfl (by decide) ?_
  refine v_icmp_eq (q := 10) (tgt := 22) hC dX12_fitsAt_7 rfl (by decide) (fun h7 => ?_) (fun h7 => ?_)
  · refine v_iload_n (q := 23) hC dX12_fitsAt_22 rfl rfl rfl ?_
    refine v_if_eq (q := 26) (tgt := 59) hC dX12_fitsAt_23 rfl (by decide) (fun h23 => ?_) (fun h23 => ?_)
    · exact absurd ((nI_eq (a := i + 2) (b := 0) (by omega) (by omega)).mp h23) (by omega)
    · refine v_aload_n (q := 27) hC dX12_fitsAt_26 rfl rfl rfl ?_
      refine v_iload_n (q := 28) hC dX12_fitsAt_27 rfl rfl rfl ?_
      refine v_iconst (q := 29) (v := 1) hC dX12_fitsAt_28 rfl (by decide) ?_
      refine v_icmp_ne (q := 32) (tgt := 36) hC dX12_fitsAt_29 rfl (by decide) (fun h29 => ?_) (fun h29 => ?_)
      · refine v_aload_n (q := 37) hC dX12_fitsAt_36 rfl rfl rfl ?_
        refine v_getR (q := 40) (r := 66) hC dX12_fitsAt_37 rfl fX12_46 (hL.1 53 (by decide)) (hL.2 53 30 66 rfl) ?_
        refine v_iload_n (q := 41) hC dX12_fitsAt_40 rfl rfl rfl ?_
        refine v_iconst (q := 42) (v := 2) hC dX12_fitsAt_41 rfl (by decide) ?_
        refine v_isub (q := 43) hC dX12_fitsAt_42 rfl ?_
        refine v_ialdN (q := 44) (j := i) hC dX12_fitsAt_43 rfl (hL.1 66 (by decide)) (by have := pk_sub (a := i + 2) (b := 2) (by omega); exact this) (by omega) (by decide) ?_
        rw [(hput i (by omega)).1, show nI (x i) = zo (some (x i)) from rfl]
        refine v_aload_n (q := 45) hC dX12_fitsAt_44 rfl rfl rfl ?_
        refine v_getR (q := 48) (r := 66) hC dX12_fitsAt_45 rfl fX12_46 (hL.1 53 (by decide)) (hL.2 53 30 66 rfl) ?_
        refine v_iload_n (q := 49) hC dX12_fitsAt_48 rfl rfl rfl ?_
        refine v_iconst (q := 50) (v := 1) hC dX12_fitsAt_49 rfl (by decide) ?_
        refine v_isub (q := 51) hC dX12_fitsAt_50 rfl ?_
        refine v_ialdN (q := 52) (j := i + 1) hC dX12_fitsAt_51 rfl (hL.1 66 (by decide)) (by have := pk_sub (a := i + 2) (b := 1) (by omega); exact this) (by omega) (by decide) ?_
        rw [(hput (i + 1) (by omega)).1]
        refine v_iload_n (q := 53) hC dX12_fitsAt_52 rfl rfl rfl ?_
        refine v_callV1 (q := 56) (As := [_, _, _]) hC dX12_fitsAt_53 rfl lX12_189 mX12_follows iX12_follows eX12_follows rfl (hL.1 53 (by decide)) (ct_X12_followsG d hL hF hs hsy (i := some (x i)) (fun g hg => by cases hg; exact (hput i (by omega)).2) (hput (i + 1) (by omega)).2 hp) rfl rfl (by omega) rfl (Nat.le_of_ble_eq_true rfl) ?_
        refine v_if_eq (q := 59) (tgt := 63) hC dX12_fitsAt_56 rfl (by decide) (fun h56 => ?_) (fun h56 => ?_)
        · refine v_iconst (q := 64) (v := 0) hC dX12_fitsAt_63 rfl (by decide) ?_
          refine v_zreturn hC hB dX12_fitsAt_64 ⟨Nat.le_refl _, Nat.le_refl _⟩ (by first | exact Or.inl rfl | exact Or.inr rfl | exact zb_01 _) ?_
          have hcb : pCb p (W (i + 2)) = true := by first | exact zcb1 (Or.inl h7) | exact zcb1 (Or.inr h17)
          first
            | exact ⟨zbt (by unfold pFa; rw [hcb]; have := zb_ne h56; simpa [pFw, pFl] using this), rfl⟩
            | exact ⟨zbf (by unfold pFa; rw [hcb]; have := zb_eq0.mp h56; simpa [pFw, pFl] using this), rfl⟩
        · refine v_iconst (q := 60) (v := 1) hC dX12_fitsAt_59 rfl (by decide) ?_
          refine v_goto (q := 64) hC dX12_fitsAt_60 (by decide) ?_
          refine v_zreturn hC hB dX12_fitsAt_64 ⟨Nat.le_refl _, Nat.le_refl _⟩ (by first | exact Or.inl rfl | exact Or.inr rfl | exact zb_01 _) ?_
          have hcb : pCb p (W (i + 2)) = true := by first | exact zcb1 (Or.inl h7) | exact zcb1 (Or.inr h17)
          first
            | exact ⟨zbt (by unfold pFa; rw [hcb]; have := zb_ne h56; simpa [pFw, pFl] using this), rfl⟩
            | exact ⟨zbf (by unfold pFa; rw [hcb]; have := zb_eq0.mp h56; simpa [pFw, pFl] using this), rfl⟩
      · exact absurd ((nI_eq (a := i + 2) (b := 1) (by omega) (by omega)).mp h29) (by omega)
  · refine v_aload_n (q := 11) hC dX12_fitsAt_10 rfl rfl rfl ?_
    refine v_getR (q := 14) (r := 65) hC dX12_fitsAt_11 rfl fX12_43 (hL.1 53 (by decide)) (hL.2 53 29 65 rfl) ?_
    refine v_iload_n (q := 15) hC dX12_fitsAt_14 rfl rfl rfl ?_
    refine v_ialdN (q := 16) (j := (i + 2)) hC dX12_fitsAt_15 rfl (hL.1 65 (by decide)) rfl (by omega) (by decide) ?_
    rw [hy.2.2 (i + 2) hi]
    refine v_iload_n (q := 17) hC dX12_fitsAt_16 rfl rfl rfl ?_
    refine v_icmp_eq (q := 20) (tgt := 22) hC dX12_fitsAt_17 rfl (by decide) (fun h17 => ?_) (fun h17 => ?_)
    · refine v_iload_n (q := 23) hC dX12_fitsAt_22 rfl rfl rfl ?_
      refine v_if_eq (q := 26) (tgt := 59) hC dX12_fitsAt_23 rfl (by decide) (fun h23 => ?_) (fun h23 => ?_)
      · exact absurd ((nI_eq (a := i + 2) (b := 0) (by omega) (by omega)).mp h23) (by omega)
      · refine v_aload_n (q := 27) hC dX12_fitsAt_26 rfl rfl rfl ?_
        refine v_iload_n (q := 28) hC dX12_fitsAt_27 rfl rfl rfl ?_
        refine v_iconst (q := 29) (v := 1) hC dX12_fitsAt_28 rfl (by decide) ?_
        refine v_icmp_ne (q := 32) (tgt := 36) hC dX12_fitsAt_29 rfl (by decide) (fun h29 => ?_) (fun h29 => ?_)
        · refine v_aload_n (q := 37) hC dX12_fitsAt_36 rfl rfl rfl ?_
          refine v_getR (q := 40) (r := 66) hC dX12_fitsAt_37 rfl fX12_46 (hL.1 53 (by decide)) (hL.2 53 30 66 rfl) ?_
          refine v_iload_n (q := 41) hC dX12_fitsAt_40 rfl rfl rfl ?_
          refine v_iconst (q := 42) (v := 2) hC dX12_fitsAt_41 rfl (by decide) ?_
          refine v_isub (q := 43) hC dX12_fitsAt_42 rfl ?_
          refine v_ialdN (q := 44) (j := i) hC dX12_fitsAt_43 rfl (hL.1 66 (by decide)) (by have := pk_sub (a := i + 2) (b := 2) (by omega); exact this) (by omega) (by decide) ?_
          rw [(hput i (by omega)).1, show nI (x i) = zo (some (x i)) from rfl]
          refine v_aload_n (q := 45) hC dX12_fitsAt_44 rfl rfl rfl ?_
          refine v_getR (q := 48) (r := 66) hC dX12_fitsAt_45 rfl fX12_46 (hL.1 53 (by decide)) (hL.2 53 30 66 rfl) ?_
          refine v_iload_n (q := 49) hC dX12_fitsAt_48 rfl rfl rfl ?_
          refine v_iconst (q := 50) (v := 1) hC dX12_fitsAt_49 rfl (by decide) ?_
          refine v_isub (q := 51) hC dX12_fitsAt_50 rfl ?_
          refine v_ialdN (q := 52) (j := i + 1) hC dX12_fitsAt_51 rfl (hL.1 66 (by decide)) (by have := pk_sub (a := i + 2) (b := 1) (by omega); exact this) (by omega) (by decide) ?_
          rw [(hput (i + 1) (by omega)).1]
          refine v_iload_n (q := 53) hC dX12_fitsAt_52 rfl rfl rfl ?_
          refine v_callV1 (q := 56) (As := [_, _, _]) hC dX12_fitsAt_53 rfl lX12_189 mX12_follows iX12_follows eX12_follows rfl (hL.1 53 (by decide)) (ct_X12_followsG d hL hF hs hsy (i := some (x i)) (fun g hg => by cases hg; exact (hput i (by omega)).2) (hput (i + 1) (by omega)).2 hp) rfl rfl (by omega) rfl (Nat.le_of_ble_eq_true rfl) ?_
          refine v_if_eq (q := 59) (tgt := 63) hC dX12_fitsAt_56 rfl (by decide) (fun h56 => ?_) (fun h56 => ?_)
          · refine v_iconst (q := 64) (v := 0) hC dX12_fitsAt_63 rfl (by decide) ?_
            refine v_zreturn hC hB dX12_fitsAt_64 ⟨Nat.le_refl _, Nat.le_refl _⟩ (by first | exact Or.inl rfl | exact Or.inr rfl | exact zb_01 _) ?_
            have hcb : pCb p (W (i + 2)) = true := by first | exact zcb1 (Or.inl h7) | exact zcb1 (Or.inr h17)
            first
              | exact ⟨zbt (by unfold pFa; rw [hcb]; have := zb_ne h56; simpa [pFw, pFl] using this), rfl⟩
              | exact ⟨zbf (by unfold pFa; rw [hcb]; have := zb_eq0.mp h56; simpa [pFw, pFl] using this), rfl⟩
          · refine v_iconst (q := 60) (v := 1) hC dX12_fitsAt_59 rfl (by decide) ?_
            refine v_goto (q := 64) hC dX12_fitsAt_60 (by decide) ?_
            refine v_zreturn hC hB dX12_fitsAt_64 ⟨Nat.le_refl _, Nat.le_refl _⟩ (by first | exact Or.inl rfl | exact Or.inr rfl | exact zb_01 _) ?_
            have hcb : pCb p (W (i + 2)) = true := by first | exact zcb1 (Or.inl h7) | exact zcb1 (Or.inr h17)
            first
              | exact ⟨zbt (by unfold pFa; rw [hcb]; have := zb_ne h56; simpa [pFw, pFl] using this), rfl⟩
              | exact ⟨zbf (by unfold pFa; rw [hcb]; have := zb_eq0.mp h56; simpa [pFw, pFl] using this), rfl⟩
        · exact absurd ((nI_eq (a := i + 2) (b := 1) (by omega) (by omega)).mp h29) (by omega)
    · refine v_iconst (q := 21) (v := 0) hC dX12_fitsAt_20 rfl (by decide) ?_
      refine v_zreturn hC hB dX12_fitsAt_21 ⟨Nat.le_refl _, Nat.le_refl _⟩ (by first | exact Or.inl rfl | exact Or.inr rfl | exact zb_01 _) ?_
      exact ⟨zbf (by unfold pFa; rw [zcb0 h7 h17]; rfl), rfl⟩

theorem ct_X12_fitsAt (d : Nat) {σ : zSt} (hL : zLay σ) {n : Nat} {kd : Nat → Nat} {kin met : Nat → Nat → Bool} {t : Nat} (hF : zMf σ n kd kin met t) (hs : zMs σ none none) (hsy : ∀ a b, a < 6 → b < 6 → kin a b = kin b a) {m : Nat} {W : Nat → Int32} (hy : zMy σ m W) {x : Nat → Nat} {p : Nat} (hp : p < n) {i : Nat} (hi : i < m) (hput : ∀ k, k < i → zI σ 66 k = nI (x k) ∧ x k < n) : zEv (d + 3) MX12_fitsAt [.ref 53, .int (nI i), .int (nI p)] σ (some (.int (zb (pFa (pGv kd kin met) (pSn kin) W x i p)))) σ := by
  match i, hi, hput with
  | 0, hi, hput => exact ct_X12_fitsAt_0 d hL hF hs hsy hy hp hi hput
  | 1, hi, hput => exact ct_X12_fitsAt_1 d hL hF hs hsy hy hp hi hput
  | i + 2, hi, hput => exact ct_X12_fitsAt_2 d hL hF hs hsy hy hp hi hput
/-- who stands where -/
def zPu (σ : zSt) (i : Nat) (x : Nat → Nat) (v : Int32) : Prop := (∀ k, k < i → zI σ 66 k = nI (x k)) ∧ zI σ 66 i = v ∧ ∀ k, i < k → k < 7 → zI σ 66 k = -1
theorem zPu.dn {σ : zSt} {i v : Nat} {x : Nat → Nat} {u : Int32} (h : zPu σ i x u) (hi : i + 1 < 7) : zPu (zsI σ 66 i (nI v)) (i + 1) (zuN x i v) (-1) := by
  refine ⟨fun k hk => ?_, ?_, fun k h1 h2 => ?_⟩
  · unfold zuN
    rw [zI_sI]
    by_cases e : k = i
    · rw [if_pos ⟨rfl, e⟩, if_pos e]
    · rw [if_neg (fun z => e z.2), if_neg e]; exact h.1 k (by omega)
  · rw [zI_ne (by omega)]; exact h.2.2 (i + 1) (by omega) hi
  · rw [zI_ne (by omega)]; exact h.2.2 k (by omega) h2
theorem zPu.up {σ : zSt} {i v : Nat} {x : Nat → Nat} (h : zPu σ (i + 1) (zuN x i v) (-1)) : zPu σ i x (nI (v + 1) - 1) := by
  refine ⟨fun k hk => ?_, ?_, fun k h1 h2 => ?_⟩
  · rw [h.1 k (by omega)]; unfold zuN; rw [if_neg (by omega)]
  · rw [h.1 i (by omega)]; unfold zuN; rw [if_pos rfl, nI_pred]
  · by_cases e : k = i + 1
    · rw [e]; exact h.2.1
    · exact h.2.2 k (by omega) h2
theorem zPu.at {σ : zSt} {i v : Nat} {x : Nat → Nat} {u : Int32} (h : zPu σ i x u) : zPu (zsI σ 66 i (nI v)) i x (nI (v + 1) - 1) := by
  refine ⟨fun k hk => by rw [zI_ne (by omega)]; exact h.1 k hk, by rw [zI_eq, nI_pred], fun k h1 h2 => by rw [zI_ne (by omega)]; exact h.2.2 k h1 h2⟩
theorem zPu.sa {σ σ' : zSt} {i : Nat} {x : Nat → Nat} {u : Int32} (h : zPu σ i x u) (e : ∀ k, zI σ' 66 k = zI σ 66 k) : zPu σ' i x u := ⟨fun k hk => by rw [e]; exact h.1 k hk, by rw [e]; exact h.2.1, fun k h1 h2 => by rw [e]; exact h.2.2 k h1 h2⟩
def zBe (σ : zSt) (m : Nat) (K : Nat → Nat → Bool) : Prop := ∀ k, k < m → zMb (zI σ 67 k) (K k)
theorem zBe.eq {σ : zSt} {m : Nat} {K K' : Nat → Nat → Bool} (h : zBe σ m K) (e : ∀ k b, k < m → b < 6 → K' k b = K k b) : zBe σ m K' := fun k hk => (h k hk).congr (fun b hb => e k b hk hb)
theorem zBe.sa {σ σ' : zSt} {m : Nat} {K : Nat → Nat → Bool} (h : zBe σ m K) (e : ∀ k, zI σ' 67 k = zI σ 67 k) : zBe σ' m K := fun k hk => by rw [e]; exact h k hk

set_option maxRecDepth 100000 in
set_option maxHeartbeats 4000000 in
theorem ct_X12_layFits (d : Nat) {σ : zSt} (hL : zLay σ) {n : Nat} {kd : Nat → Nat} {kin met : Nat → Nat → Bool} {t : Nat} (hF : zMf σ n kd kin met t) (hs : zMs σ none none) (hsy : ∀ a b, a < 6 → b < 6 → kin a b = kin b a) {m : Nat} {W : Nat → Int32} (hy : zMy σ m W) : zCt (d + 4) MX12_layFits [.ref 53] σ (fun r σ' => r = some (.int (nI (pDf n (pGv kd kin met) (pSn kin) W m 0 (fun _ => 0)))) ∧ zSm [66, 67] [] σ σ' ∧ zBe σ' m (fun k b => pDe n (pGv kd kin met) (pSn kin) W k b m 0 (fun _ => 0))) := by
  refine zCt.of (L := [some (.ref 53), none, none, none]) (by decide) (Nat.le_of_ble_eq_true rfl) rfl (fun X hC hB => ?_)
  have hC : zC X RX12 cX12_layFits 4 (d + 4) 0 0 := hC
  have hB : zB X (some .int) 0 0 "layFits" σ _ := hB
  show zV X 4 0 [some (.ref 53), none, none, none] [] 0 0 σ
  have hn6 := hF.2.1
  have hm7 := hy.2.1
  have dfs : ∀ (j i : Nat) (x : Nat → Nat) (c : Nat) (K : Nat → Nat → Bool) (o3 : Option Value) (σ1 : zSt), i + j + 1 = m → zSm [66, 67] [] σ σ1 → (∀ k, k < i → x k < n) → zPu σ1 i x (-1) → zBe σ1 m K → (∀ (o3 : Option Value) (σ2 : zSt), zSm [66, 67] [] σ σ2 → zPu σ2 i x (-1) → zBe σ2 m (fun k b => K k b || pDe n (pGv kd kin met) (pSn kin) W k b (j + 1) i x) → zV X 4 41 [some (.ref 53), some (.int (nI (c + pDf n (pGv kd kin met) (pSn kin) W (j + 1) i x))), some (.int (nI i + -1)), o3] [] 0 0 σ2) → zV X 4 41 [some (.ref 53), some (.int (nI (c))), some (.int (nI i)), o3] [] 0 0 σ1 := by
    intro j
    induction j with
    | zero =>
      intro i x c K o3 σ1 hi hS hx hu hB hK
      have inn : ∀ (r : Nat) (v : Nat) (o3 : Option Value) (σ1 : zSt), v + r = n → zSm [66, 67] [] σ σ1 → zPu σ1 i x (nI v - 1) → zBe σ1 m (fun k b => K k b || pAny (fun p => pFa (pGv kd kin met) (pSn kin) W x i p && pDe n (pGv kd kin met) (pSn kin) W k b 0 (i + 1) (zuN x i p)) v) → zV X 4 41 [some (.ref 53), some (.int (nI (c + pSum (fun p => if pFa (pGv kd kin met) (pSn kin) W x i p then pDf n (pGv kd kin met) (pSn kin) W 0 (i + 1) (zuN x i p) else 0) v))), some (.int (nI i)), o3] [] 0 0 σ1 := by
        intro r
        induction r with
        | zero =>
          intro v o3 σ1 hv hS hu hB
          have hL1 := hS.lay hL
          have hF1 := hF.sm hS rfl rfl
          have hS2 : zSm [66, 67] [] σ (zsI σ1 66 i (nI v)) := hS.c (by simp) (by decide)
          have hL2 := hS2.lay hL
          have hF2 := hF.sm hS2 rfl rfl
          have hs2 := hs.sm hS2 rfl
          have hy2 := hy.sm hS2 rfl rfl
          have h42n : ¬ nI i < 0 := fun z => absurd ((nI_ltI (a := i) (b := 0) (by omega) (by omega)).mp z) (by omega)
          have hu2 : zPu (zsI σ1 66 i (nI v)) i x (nI (v + 1) - 1) := hu.at
          have hB2 : zBe (zsI σ1 66 i (nI v)) m (fun k b => K k b || pAny (fun p => pFa (pGv kd kin met) (pSn kin) W x i p && pDe n (pGv kd kin met) (pSn kin) W k b 0 (i + 1) (zuN x i p)) v) := hB.sa (fun k => zI_ne (by omega))
          refine v_iload_n (q := 42) hC dX12_layFits_41 rfl rfl rfl ?_
          refine v_if_lt (q := 45) (tgt := 150) hC dX12_layFits_42 rfl (by decide) (fun h42 => ?_) (fun h42 => ?_)
          · exact absurd h42 h42n
          · refine v_aload_n (q := 46) hC dX12_layFits_45 rfl rfl rfl ?_
            refine v_getR (q := 49) (r := 66) hC dX12_layFits_46 rfl fX12_46 (hL1.1 53 (by decide)) (hL1.2 53 30 66 rfl) ?_
            refine v_iload_n (q := 50) hC dX12_layFits_49 rfl rfl rfl ?_
            refine v_dup2 (q := 51) hC dX12_layFits_50 rfl rfl rfl ?_
            refine v_ialdN (q := 52) (j := i) hC dX12_layFits_51 rfl (hL1.1 66 (by decide)) rfl (by omega) (by decide) ?_
            rw [hu.2.1]
            refine v_iconst (q := 53) (v := 1) hC dX12_layFits_52 rfl (by decide) ?_
            refine v_iadd (q := 54) hC dX12_layFits_53 rfl ?_
            rw [Int32.sub_add_cancel]
            refine v_iastN (q := 55) (j := i) hC dX12_layFits_54 rfl (hL1.1 66 (by decide)) rfl (by omega) (by decide) ?_
            refine v_aload_n (q := 56) hC dX12_layFits_55 rfl rfl rfl ?_
            refine v_getR (q := 59) (r := 66) hC dX12_layFits_56 rfl fX12_46 (hL1.1 53 (by decide)) (hL1.2 53 30 66 rfl) ?_
            refine v_iload_n (q := 60) hC dX12_layFits_59 rfl rfl rfl ?_
            refine v_ialdN (q := 61) (j := i) hC dX12_layFits_60 rfl (hL1.1 66 (by decide)) rfl (by omega) (by decide) ?_
            rw [zI_eq]
            refine v_aload_n (q := 62) hC dX12_layFits_61 rfl rfl rfl ?_
            refine v_getI (q := 65) hC dX12_layFits_62 rfl fX12_126 (hL1.1 53 (by decide)) ?_
            rw [hF2.1]
            refine v_icmp_lt (q := 68) (tgt := 81) hC dX12_layFits_65 rfl (by decide) (fun h65 => ?_) (fun h65 => ?_)
            · exact absurd ((nI_ltI (a := v) (b := n) (by omega) (by omega)).mp h65) (by omega)
            · refine v_aload_n (q := 69) hC dX12_layFits_68 rfl rfl rfl ?_
              refine v_getR (q := 72) (r := 66) hC dX12_layFits_69 rfl fX12_46 (hL1.1 53 (by decide)) (hL1.2 53 30 66 rfl) ?_
              refine v_iload_n (q := 73) hC dX12_layFits_72 rfl rfl rfl ?_
              refine v_iconst (q := 74) (v := -1) hC dX12_layFits_73 rfl (by decide) ?_
              refine v_iastN (q := 75) (j := i) hC dX12_layFits_74 rfl (hL1.1 66 (by decide)) rfl (by omega) (by decide) ?_
              refine v_iinc (q := 78) (v := -1) (L' := [_, _, _, _]) hC dX12_layFits_75 rfl rfl (by decide) (by decide) rfl rfl ?_
              refine v_goto (q := 41) hC dX12_layFits_78 (by decide) ?_
              have e : v = n := by omega
              subst e
              exact hK _ _ (hS2.c (by simp) (by decide)) ⟨fun k hk => by rw [zI_ne (by omega)]; exact hu2.1 k hk, zI_eq, fun k h1 h2 => by rw [zI_ne (by omega)]; exact hu2.2.2 k h1 h2⟩ (hB2.sa (fun k => zI_ne (by omega)))
        | succ r ih =>
          intro v o3 σ1 hv hS hu hB
          have hL1 := hS.lay hL
          have hF1 := hF.sm hS rfl rfl
          have hS2 : zSm [66, 67] [] σ (zsI σ1 66 i (nI v)) := hS.c (by simp) (by decide)
          have hL2 := hS2.lay hL
          have hF2 := hF.sm hS2 rfl rfl
          have hs2 := hs.sm hS2 rfl
          have hy2 := hy.sm hS2 rfl rfl
          have h42n : ¬ nI i < 0 := fun z => absurd ((nI_ltI (a := i) (b := 0) (by omega) (by omega)).mp z) (by omega)
          have hu2 : zPu (zsI σ1 66 i (nI v)) i x (nI (v + 1) - 1) := hu.at
          have hB2 : zBe (zsI σ1 66 i (nI v)) m (fun k b => K k b || pAny (fun p => pFa (pGv kd kin met) (pSn kin) W x i p && pDe n (pGv kd kin met) (pSn kin) W k b 0 (i + 1) (zuN x i p)) v) := hB.sa (fun k => zI_ne (by omega))
          refine v_iload_n (q := 42) hC dX12_layFits_41 rfl rfl rfl ?_
          refine v_if_lt (q := 45) (tgt := 150) hC dX12_layFits_42 rfl (by decide) (fun h42 => ?_) (fun h42 => ?_)
          · exact absurd h42 h42n
          · refine v_aload_n (q := 46) hC dX12_layFits_45 rfl rfl rfl ?_
            refine v_getR (q := 49) (r := 66) hC dX12_layFits_46 rfl fX12_46 (hL1.1 53 (by decide)) (hL1.2 53 30 66 rfl) ?_
            refine v_iload_n (q := 50) hC dX12_layFits_49 rfl rfl rfl ?_
            refine v_dup2 (q := 51) hC dX12_layFits_50 rfl rfl rfl ?_
            refine v_ialdN (q := 52) (j := i) hC dX12_layFits_51 rfl (hL1.1 66 (by decide)) rfl (by omega) (by decide) ?_
            rw [hu.2.1]
            refine v_iconst (q := 53) (v := 1) hC dX12_layFits_52 rfl (by decide) ?_
            refine v_iadd (q := 54) hC dX12_layFits_53 rfl ?_
            rw [Int32.sub_add_cancel]
            refine v_iastN (q := 55) (j := i) hC dX12_layFits_54 rfl (hL1.1 66 (by decide)) rfl (by omega) (by decide) ?_
            refine v_aload_n (q := 56) hC dX12_layFits_55 rfl rfl rfl ?_
            refine v_getR (q := 59) (r := 66) hC dX12_layFits_56 rfl fX12_46 (hL1.1 53 (by decide)) (hL1.2 53 30 66 rfl) ?_
            refine v_iload_n (q := 60) hC dX12_layFits_59 rfl rfl rfl ?_
            refine v_ialdN (q := 61) (j := i) hC dX12_layFits_60 rfl (hL1.1 66 (by decide)) rfl (by omega) (by decide) ?_
            rw [zI_eq]
            refine v_aload_n (q := 62) hC dX12_layFits_61 rfl rfl rfl ?_
            refine v_getI (q := 65) hC dX12_layFits_62 rfl fX12_126 (hL1.1 53 (by decide)) ?_
            rw [hF2.1]
            refine v_icmp_lt (q := 68) (tgt := 81) hC dX12_layFits_65 rfl (by decide) (fun h65 => ?_) (fun h65 => ?_)
            · have hvn : v < n := by omega
              refine v_aload_n (q := 82) hC dX12_layFits_81 rfl rfl rfl ?_
              refine v_iload_n (q := 83) hC dX12_layFits_82 rfl rfl rfl ?_
              refine v_aload_n (q := 84) hC dX12_layFits_83 rfl rfl rfl ?_
              refine v_getR (q := 87) (r := 66) hC dX12_layFits_84 rfl fX12_46 (hL1.1 53 (by decide)) (hL1.2 53 30 66 rfl) ?_
              refine v_iload_n (q := 88) hC dX12_layFits_87 rfl rfl rfl ?_
              refine v_ialdN (q := 89) (j := i) hC dX12_layFits_88 rfl (hL1.1 66 (by decide)) rfl (by omega) (by decide) ?_
              rw [zI_eq]
              refine v_callV1 (q := 92) (As := [_, _]) hC dX12_layFits_89 rfl lX12_241 mX12_fitsAt iX12_fitsAt eX12_fitsAt rfl (hL1.1 53 (by decide)) (ct_X12_fitsAt d hL2 hF2 hs2 hsy hy2 hvn (show i < m by omega) (fun k hk => ⟨hu2.1 k hk, hx k hk⟩)) rfl rfl (by omega) rfl (Nat.le_of_ble_eq_true rfl) ?_
              refine v_if_eq (q := 95) (tgt := 41) hC dX12_layFits_92 rfl (by decide) (fun h92 => ?_) (fun h92 => ?_)
              · have hfa := zb_eq0.mp h92
                have eS : pSum (fun p => if pFa (pGv kd kin met) (pSn kin) W x i p then pDf n (pGv kd kin met) (pSn kin) W 0 (i + 1) (zuN x i p) else 0) (v + 1) = pSum (fun p => if pFa (pGv kd kin met) (pSn kin) W x i p then pDf n (pGv kd kin met) (pSn kin) W 0 (i + 1) (zuN x i p) else 0) v := pSum_s (y := 0) (if_neg (by rw [hfa]; decide))
                rw [← eS]
                refine ih (v + 1) _ _ (by omega) hS2 hu2 (hB2.eq (fun k b _ _ => ?_))
                show (K k b || pAny _ (v + 1)) = _
                rw [pAny_s (y := false) (by show (_ && _) = false; rw [hfa]; rfl), Bool.or_false]
              · have hfa := zb_ne h92
                refine v_iload_n (q := 96) hC dX12_layFits_95 rfl rfl rfl ?_
                refine v_aload_n (q := 97) hC dX12_layFits_96 rfl rfl rfl ?_
                refine v_getI (q := 100) hC dX12_layFits_97 rfl fX12_132 (hL1.1 53 (by decide)) ?_
                refine v_iconst (q := 101) (v := 1) hC dX12_layFits_100 rfl (by decide) ?_
                rw [hy2.1]
                refine v_isub (q := 102) hC dX12_layFits_101 rfl ?_
                rw [show nI m - 1 = nI (m - 1) from pk_sub (a := m) (b := 1) (by omega)]
                refine v_icmp_ne (q := 105) (tgt := 144) hC dX12_layFits_102 rfl (by decide) (fun h102 => ?_) (fun h102 => ?_)
                · exact absurd (congrArg nI (show i = m - 1 by omega)) h102
                · refine v_iinc (q := 108) (v := 1) (L' := [_, _, _, _]) hC dX12_layFits_105 rfl rfl (by decide) (by decide) rfl rfl ?_
                  refine v_iconst (q := 109) (v := 0) hC dX12_layFits_108 rfl (by decide) ?_
                  refine v_istore_n (q := 110) (L' := [_, _, _, _]) hC dX12_layFits_109 rfl rfl (by decide) rfl rfl ?_
                  have ihv := ih
                  have lpm : ∀ (rm : Nat) (q : Nat) (σ3 : zSt), q + rm = m → zSm [66, 67] [] σ σ3 → (∀ k, zI σ3 66 k = zI (zsI σ1 66 i (nI v)) 66 k) → zBe σ3 m (fun k b => (K k b || pAny (fun p => pFa (pGv kd kin met) (pSn kin) W x i p && pDe n (pGv kd kin met) (pSn kin) W k b 0 (i + 1) (zuN x i p)) v) || (decide (k < q) && decide (b = (zuN x i v) k))) → zV X 4 110 [some (.ref 53), some (.int (nI (c + pSum (fun p => if pFa (pGv kd kin met) (pSn kin) W x i p then pDf n (pGv kd kin met) (pSn kin) W 0 (i + 1) (zuN x i p) else 0) v) + 1)), some (.int (nI i)), some (.int (nI q))] [] 0 0 σ3 := by
                    intro rm
                    induction rm with
                    | zero =>
                      intro q σ3 hq hS3 hp3 hb3
                      have hL3 := hS3.lay hL
                      have hy3 := hy.sm hS3 rfl rfl
                      refine v_iload_n (q := 111) hC dX12_layFits_110 rfl rfl rfl ?_
                      refine v_aload_n (q := 112) hC dX12_layFits_111 rfl rfl rfl ?_
                      refine v_getI (q := 115) hC dX12_layFits_112 rfl fX12_132 (hL3.1 53 (by decide)) ?_
                      rw [hy3.1]
                      refine v_icmp_ge (q := 118) (tgt := 141) hC dX12_layFits_115 rfl (by decide) (fun h115 => ?_) (fun h115 => ?_)
                      · refine v_goto (q := 41) hC dX12_layFits_141 (by decide) ?_
                        have eS : pSum (fun p => if pFa (pGv kd kin met) (pSn kin) W x i p then pDf n (pGv kd kin met) (pSn kin) W 0 (i + 1) (zuN x i p) else 0) (v + 1) = pSum (fun p => if pFa (pGv kd kin met) (pSn kin) W x i p then pDf n (pGv kd kin met) (pSn kin) W 0 (i + 1) (zuN x i p) else 0) v + 1 := pSum_s (if_pos hfa)
                        rw [nI_1, Nat.add_assoc, ← eS]
                        refine ihv (v + 1) _ _ (by omega) hS3 (hu2.sa hp3) (hb3.eq (fun k b hk _ => ?_))
                        show (K k b || (pAny _ v || (pFa (pGv kd kin met) (pSn kin) W x i v && decide (zuN x i v k = b)))) = _
                        rw [hfa, Bool.true_and, show decide (k < q) = true from decide_eq_true (by omega), Bool.true_and, ← Bool.or_assoc]
                        congr 1
                        exact decide_eq_decide.mpr eq_comm
                      · exact absurd (nI_le (a := m) (b := q) (by omega) (by omega)) h115
                    | succ rm ih =>
                      intro q σ3 hq hS3 hp3 hb3
                      have ih_m := ih
                      have hL3 := hS3.lay hL
                      have hy3 := hy.sm hS3 rfl rfl
                      refine v_iload_n (q := 111) hC dX12_layFits_110 rfl rfl rfl ?_
                      refine v_aload_n (q := 112) hC dX12_layFits_111 rfl rfl rfl ?_
                      refine v_getI (q := 115) hC dX12_layFits_112 rfl fX12_132 (hL3.1 53 (by decide)) ?_
                      rw [hy3.1]
                      refine v_icmp_ge (q := 118) (tgt := 141) hC dX12_layFits_115 rfl (by decide) (fun h115 => ?_) (fun h115 => ?_)
                      · exact absurd h115 (nI_ge (a := q) (b := m) (by omega) (by omega))
                      · refine v_aload_n (q := 119) hC dX12_layFits_118 rfl rfl rfl ?_
                        refine v_getR (q := 122) (r := 67) hC dX12_layFits_119 rfl fX12_49 (hL3.1 53 (by decide)) (hL3.2 53 31 67 rfl) ?_
                        refine v_iload_n (q := 123) hC dX12_layFits_122 rfl rfl rfl ?_
                        refine v_dup2 (q := 124) hC dX12_layFits_123 rfl rfl rfl ?_
                        refine v_ialdN (q := 125) (j := q) hC dX12_layFits_124 rfl (hL3.1 67 (by decide)) rfl (by omega) (by decide) ?_
                        refine v_iconst (q := 126) (v := 1) hC dX12_layFits_125 rfl (by decide) ?_
                        refine v_aload_n (q := 127) hC dX12_layFits_126 rfl rfl rfl ?_
                        refine v_getR (q := 130) (r := 66) hC dX12_layFits_127 rfl fX12_46 (hL3.1 53 (by decide)) (hL3.2 53 30 66 rfl) ?_
                        refine v_iload_n (q := 131) hC dX12_layFits_130 rfl rfl rfl ?_
                        refine v_ialdN (q := 132) (j := q) hC dX12_layFits_131 rfl (hL3.1 66 (by decide)) rfl (by omega) (by decide) ?_
                        have hpq : zI σ3 66 q = nI ((zuN x i v) q) ∧ (zuN x i v) q < n := by
                          rw [hp3]
                          unfold zuN
                          rw [zI_sI]
                          by_cases e : q = i
                          · rw [if_pos ⟨rfl, e⟩, if_pos e]; exact ⟨rfl, hvn⟩
                          · rw [if_neg (fun z => e z.2), if_neg e]; exact ⟨hu.1 q (by omega), hx q (by omega)⟩
                        rw [hpq.1]
                        refine v_ishl (q := 133) hC dX12_layFits_132 rfl ?_
                        refine v_ior (q := 134) hC dX12_layFits_133 rfl ?_
                        refine v_iastN (q := 135) (j := q) hC dX12_layFits_134 rfl (hL3.1 67 (by decide)) rfl (by omega) (by decide) ?_
                        refine v_iinc (q := 138) (v := 1) (L' := [_, _, _, _]) hC dX12_layFits_135 rfl rfl (by decide) (by decide) rfl rfl ?_
                        refine v_goto (q := 110) hC dX12_layFits_138 (by decide) ?_
                        rw [nI_1 q]
                        refine ih_m (q + 1) _ (by omega) (hS3.c (by simp) (by decide)) (fun k => by rw [zI_ne (by omega)]; exact hp3 k) (fun k hk => ?_)
                        rw [zI_sI]
                        by_cases e : k = q
                        · subst e
                          rw [if_pos ⟨rfl, rfl⟩]
                          refine ((hb3 k hk).or (show (zuN x i v) k < 6 by omega)).congr (fun b hb => ?_)
                          dsimp only
                          rw [show decide (k < k) = false from decide_eq_false (Nat.lt_irrefl k), show decide (k < k + 1) = true from decide_eq_true (Nat.lt_succ_self k), Bool.false_and, Bool.or_false, Bool.true_and]
                        · rw [if_neg (fun z => e z.2)]
                          refine (hb3 k hk).congr (fun b hb => ?_)
                          dsimp only
                          rw [show decide (k < q + 1) = decide (k < q) from decide_eq_decide.mpr (by omega)]
                  exact lpm m 0 _ (by omega) hS2 (fun k => rfl) (hB2.eq (fun k b _ _ => by simp))
            · exact absurd ((nI_ltI (a := v) (b := n) (by omega) (by omega)).mpr (by omega)) h65
      rw [show c = c + pSum (fun p => if pFa (pGv kd kin met) (pSn kin) W x i p then pDf n (pGv kd kin met) (pSn kin) W 0 (i + 1) (zuN x i p) else 0) 0 from rfl]
      exact inn n 0 _ σ1 (by omega) hS hu (hB.eq (fun k b _ _ => by simp [pAny]))
    | succ j ihj =>
      intro i x c K o3 σ1 hi hS hx hu hB hK
      have inn : ∀ (r : Nat) (v : Nat) (o3 : Option Value) (σ1 : zSt), v + r = n → zSm [66, 67] [] σ σ1 → zPu σ1 i x (nI v - 1) → zBe σ1 m (fun k b => K k b || pAny (fun p => pFa (pGv kd kin met) (pSn kin) W x i p && pDe n (pGv kd kin met) (pSn kin) W k b (j + 1) (i + 1) (zuN x i p)) v) → zV X 4 41 [some (.ref 53), some (.int (nI (c + pSum (fun p => if pFa (pGv kd kin met) (pSn kin) W x i p then pDf n (pGv kd kin met) (pSn kin) W (j + 1) (i + 1) (zuN x i p) else 0) v))), some (.int (nI i)), o3] [] 0 0 σ1 := by
        intro r
        induction r with
        | zero =>
          intro v o3 σ1 hv hS hu hB
          have hL1 := hS.lay hL
          have hF1 := hF.sm hS rfl rfl
          have hS2 : zSm [66, 67] [] σ (zsI σ1 66 i (nI v)) := hS.c (by simp) (by decide)
          have hL2 := hS2.lay hL
          have hF2 := hF.sm hS2 rfl rfl
          have hs2 := hs.sm hS2 rfl
          have hy2 := hy.sm hS2 rfl rfl
          have h42n : ¬ nI i < 0 := fun z => absurd ((nI_ltI (a := i) (b := 0) (by omega) (by omega)).mp z) (by omega)
          have hu2 : zPu (zsI σ1 66 i (nI v)) i x (nI (v + 1) - 1) := hu.at
          have hB2 : zBe (zsI σ1 66 i (nI v)) m (fun k b => K k b || pAny (fun p => pFa (pGv kd kin met) (pSn kin) W x i p && pDe n (pGv kd kin met) (pSn kin) W k b (j + 1) (i + 1) (zuN x i p)) v) := hB.sa (fun k => zI_ne (by omega))
          refine v_iload_n (q := 42) hC dX12_layFits_41 rfl rfl rfl ?_
          refine v_if_lt (q := 45) (tgt := 150) hC dX12_layFits_42 rfl (by decide) (fun h42 => ?_) (fun h42 => ?_)
          · exact absurd h42 h42n
          · refine v_aload_n (q := 46) hC dX12_layFits_45 rfl rfl rfl ?_
            refine v_getR (q := 49) (r := 66) hC dX12_layFits_46 rfl fX12_46 (hL1.1 53 (by decide)) (hL1.2 53 30 66 rfl) ?_
            refine v_iload_n (q := 50) hC dX12_layFits_49 rfl rfl rfl ?_
            refine v_dup2 (q := 51) hC dX12_layFits_50 rfl rfl rfl ?_
            refine v_ialdN (q := 52) (j := i) hC dX12_layFits_51 rfl (hL1.1 66 (by decide)) rfl (by omega) (by decide) ?_
            rw [hu.2.1]
            refine v_iconst (q := 53) (v := 1) hC dX12_layFits_52 rfl (by decide) ?_
            refine v_iadd (q := 54) hC dX12_layFits_53 rfl ?_
            rw [Int32.sub_add_cancel]
            refine v_iastN (q := 55) (j := i) hC dX12_layFits_54 rfl (hL1.1 66 (by decide)) rfl (by omega) (by decide) ?_
            refine v_aload_n (q := 56) hC dX12_layFits_55 rfl rfl rfl ?_
            refine v_getR (q := 59) (r := 66) hC dX12_layFits_56 rfl fX12_46 (hL1.1 53 (by decide)) (hL1.2 53 30 66 rfl) ?_
            refine v_iload_n (q := 60) hC dX12_layFits_59 rfl rfl rfl ?_
            refine v_ialdN (q := 61) (j := i) hC dX12_layFits_60 rfl (hL1.1 66 (by decide)) rfl (by omega) (by decide) ?_
            rw [zI_eq]
            refine v_aload_n (q := 62) hC dX12_layFits_61 rfl rfl rfl ?_
            refine v_getI (q := 65) hC dX12_layFits_62 rfl fX12_126 (hL1.1 53 (by decide)) ?_
            rw [hF2.1]
            refine v_icmp_lt (q := 68) (tgt := 81) hC dX12_layFits_65 rfl (by decide) (fun h65 => ?_) (fun h65 => ?_)
            · exact absurd ((nI_ltI (a := v) (b := n) (by omega) (by omega)).mp h65) (by omega)
            · refine v_aload_n (q := 69) hC dX12_layFits_68 rfl rfl rfl ?_
              refine v_getR (q := 72) (r := 66) hC dX12_layFits_69 rfl fX12_46 (hL1.1 53 (by decide)) (hL1.2 53 30 66 rfl) ?_
              refine v_iload_n (q := 73) hC dX12_layFits_72 rfl rfl rfl ?_
              refine v_iconst (q := 74) (v := -1) hC dX12_layFits_73 rfl (by decide) ?_
              refine v_iastN (q := 75) (j := i) hC dX12_layFits_74 rfl (hL1.1 66 (by decide)) rfl (by omega) (by decide) ?_
              refine v_iinc (q := 78) (v := -1) (L' := [_, _, _, _]) hC dX12_layFits_75 rfl rfl (by decide) (by decide) rfl rfl ?_
              refine v_goto (q := 41) hC dX12_layFits_78 (by decide) ?_
              have e : v = n := by omega
              subst e
              exact hK _ _ (hS2.c (by simp) (by decide)) ⟨fun k hk => by rw [zI_ne (by omega)]; exact hu2.1 k hk, zI_eq, fun k h1 h2 => by rw [zI_ne (by omega)]; exact hu2.2.2 k h1 h2⟩ (hB2.sa (fun k => zI_ne (by omega)))
        | succ r ih =>
          intro v o3 σ1 hv hS hu hB
          have hL1 := hS.lay hL
          have hF1 := hF.sm hS rfl rfl
          have hS2 : zSm [66, 67] [] σ (zsI σ1 66 i (nI v)) := hS.c (by simp) (by decide)
          have hL2 := hS2.lay hL
          have hF2 := hF.sm hS2 rfl rfl
          have hs2 := hs.sm hS2 rfl
          have hy2 := hy.sm hS2 rfl rfl
          have h42n : ¬ nI i < 0 := fun z => absurd ((nI_ltI (a := i) (b := 0) (by omega) (by omega)).mp z) (by omega)
          have hu2 : zPu (zsI σ1 66 i (nI v)) i x (nI (v + 1) - 1) := hu.at
          have hB2 : zBe (zsI σ1 66 i (nI v)) m (fun k b => K k b || pAny (fun p => pFa (pGv kd kin met) (pSn kin) W x i p && pDe n (pGv kd kin met) (pSn kin) W k b (j + 1) (i + 1) (zuN x i p)) v) := hB.sa (fun k => zI_ne (by omega))
          refine v_iload_n (q := 42) hC dX12_layFits_41 rfl rfl rfl ?_
          refine v_if_lt (q := 45) (tgt := 150) hC dX12_layFits_42 rfl (by decide) (fun h42 => ?_) (fun h42 => ?_)
          · exact absurd h42 h42n
          · refine v_aload_n (q := 46) hC dX12_layFits_45 rfl rfl rfl ?_
            refine v_getR (q := 49) (r := 66) hC dX12_layFits_46 rfl fX12_46 (hL1.1 53 (by decide)) (hL1.2 53 30 66 rfl) ?_
            refine v_iload_n (q := 50) hC dX12_layFits_49 rfl rfl rfl ?_
            refine v_dup2 (q := 51) hC dX12_layFits_50 rfl rfl rfl ?_
            refine v_ialdN (q := 52) (j := i) hC dX12_layFits_51 rfl (hL1.1 66 (by decide)) rfl (by omega) (by decide) ?_
            rw [hu.2.1]
            refine v_iconst (q := 53) (v := 1) hC dX12_layFits_52 rfl (by decide) ?_
            refine v_iadd (q := 54) hC dX12_layFits_53 rfl ?_
            rw [Int32.sub_add_cancel]
            refine v_iastN (q := 55) (j := i) hC dX12_layFits_54 rfl (hL1.1 66 (by decide)) rfl (by omega) (by decide) ?_
            refine v_aload_n (q := 56) hC dX12_layFits_55 rfl rfl rfl ?_
            refine v_getR (q := 59) (r := 66) hC dX12_layFits_56 rfl fX12_46 (hL1.1 53 (by decide)) (hL1.2 53 30 66 rfl) ?_
            refine v_iload_n (q := 60) hC dX12_layFits_59 rfl rfl rfl ?_
            refine v_ialdN (q := 61) (j := i) hC dX12_layFits_60 rfl (hL1.1 66 (by decide)) rfl (by omega) (by decide) ?_
            rw [zI_eq]
            refine v_aload_n (q := 62) hC dX12_layFits_61 rfl rfl rfl ?_
            refine v_getI (q := 65) hC dX12_layFits_62 rfl fX12_126 (hL1.1 53 (by decide)) ?_
            rw [hF2.1]
            refine v_icmp_lt (q := 68) (tgt := 81) hC dX12_layFits_65 rfl (by decide) (fun h65 => ?_) (fun h65 => ?_)
            · have hvn : v < n := by omega
              refine v_aload_n (q := 82) hC dX12_layFits_81 rfl rfl rfl ?_
              refine v_iload_n (q := 83) hC dX12_layFits_82 rfl rfl rfl ?_
              refine v_aload_n (q := 84) hC dX12_layFits_83 rfl rfl rfl ?_
              refine v_getR (q := 87) (r := 66) hC dX12_layFits_84 rfl fX12_46 (hL1.1 53 (by decide)) (hL1.2 53 30 66 rfl) ?_
              refine v_iload_n (q := 88) hC dX12_layFits_87 rfl rfl rfl ?_
              refine v_ialdN (q := 89) (j := i) hC dX12_layFits_88 rfl (hL1.1 66 (by decide)) rfl (by omega) (by decide) ?_
              rw [zI_eq]
              refine v_callV1 (q := 92) (As := [_, _]) hC dX12_layFits_89 rfl lX12_241 mX12_fitsAt iX12_fitsAt eX12_fitsAt rfl (hL1.1 53 (by decide)) (ct_X12_fitsAt d hL2 hF2 hs2 hsy hy2 hvn (show i < m by omega) (fun k hk => ⟨hu2.1 k hk, hx k hk⟩)) rfl rfl (by omega) rfl (Nat.le_of_ble_eq_true rfl) ?_
              refine v_if_eq (q := 95) (tgt := 41) hC dX12_layFits_92 rfl (by decide) (fun h92 => ?_) (fun h92 => ?_)
              · first
                  | (
                     have hfa := zb_eq0.mp h92
                     have eS : pSum (fun p => if pFa (pGv kd kin met) (pSn kin) W x i p then pDf n (pGv kd kin met) (pSn kin) W (j + 1) (i + 1) (zuN x i p) else 0) (v + 1) = pSum (fun p => if pFa (pGv kd kin met) (pSn kin) W x i p then pDf n (pGv kd kin met) (pSn kin) W (j + 1) (i + 1) (zuN x i p) else 0) v := pSum_s (y := 0) (if_neg (by rw [hfa]; decide))
                     rw [← eS]
                     refine ih (v + 1) _ _ (by omega) hS2 hu2 (hB2.eq (fun k b _ _ => ?_))
                     show (K k b || pAny _ (v + 1)) = _
                     rw [pAny_s (y := false) (by show (_ && _) = false; rw [hfa]; rfl), Bool.or_false])
                  | (rw [nI_1 i]
                     refine ihj (i + 1) (zuN x i v) _ (fun k b => K k b || pAny (fun p => pFa (pGv kd kin met) (pSn kin) W x i p && pDe n (pGv kd kin met) (pSn kin) W k b (j + 1) (i + 1) (zuN x i p)) v) _ _ (by omega) hS2 (fun k hk => by unfold zuN; split; exact hvn; exact hx k (by omega)) (hu.dn (by omega)) hB2 (fun o3 σ3 hS3 hu3 hB3 => ?_)
                     have eS : pSum (fun p => if pFa (pGv kd kin met) (pSn kin) W x i p then pDf n (pGv kd kin met) (pSn kin) W (j + 1) (i + 1) (zuN x i p) else 0) (v + 1) = pSum (fun p => if pFa (pGv kd kin met) (pSn kin) W x i p then pDf n (pGv kd kin met) (pSn kin) W (j + 1) (i + 1) (zuN x i p) else 0) v + pDf n (pGv kd kin met) (pSn kin) W (j + 1) (i + 1) (zuN x i v) := pSum_s (if_pos hfa)
                     rw [zpm, Nat.add_assoc, ← eS]
                     refine ih (v + 1) _ _ (by omega) hS3 hu3.up (hB3.eq (fun k b _ _ => ?_))
                     show (K k b || (pAny _ v || (pFa (pGv kd kin met) (pSn kin) W x i v && pDe n (pGv kd kin met) (pSn kin) W k b (j + 1) (i + 1) (zuN x i v)))) = _
                     rw [hfa, Bool.true_and, ← Bool.or_assoc])
              · have hfa := zb_ne h92
                refine v_iload_n (q := 96) hC dX12_layFits_95 rfl rfl rfl ?_
                refine v_aload_n (q := 97) hC dX12_layFits_96 rfl rfl rfl ?_
                refine v_getI (q := 100) hC dX12_layFits_97 rfl fX12_132 (hL1.1 53 (by decide)) ?_
                refine v_iconst (q := 101) (v := 1) hC dX12_layFits_100 rfl (by decide) ?_
                rw [hy2.1]
                refine v_isub (q := 102) hC dX12_layFits_101 rfl ?_
                rw [show nI m - 1 = nI (m - 1) from pk_sub (a := m) (b := 1) (by omega)]
                refine v_icmp_ne (q := 105) (tgt := 144) hC dX12_layFits_102 rfl (by decide) (fun h102 => ?_) (fun h102 => ?_)
                · refine v_iinc (q := 147) (v := 1) (L' := [_, _, _, _]) hC dX12_layFits_144 rfl rfl (by decide) (by decide) rfl rfl ?_
                  refine v_goto (q := 41) hC dX12_layFits_147 (by decide) ?_
                  first
                    | (
                       have hfa := zb_eq0.mp h92
                       have eS : pSum (fun p => if pFa (pGv kd kin met) (pSn kin) W x i p then pDf n (pGv kd kin met) (pSn kin) W (j + 1) (i + 1) (zuN x i p) else 0) (v + 1) = pSum (fun p => if pFa (pGv kd kin met) (pSn kin) W x i p then pDf n (pGv kd kin met) (pSn kin) W (j + 1) (i + 1) (zuN x i p) else 0) v := pSum_s (y := 0) (if_neg (by rw [hfa]; decide))
                       rw [← eS]
                       refine ih (v + 1) _ _ (by omega) hS2 hu2 (hB2.eq (fun k b _ _ => ?_))
                       show (K k b || pAny _ (v + 1)) = _
                       rw [pAny_s (y := false) (by show (_ && _) = false; rw [hfa]; rfl), Bool.or_false])
                    | (rw [nI_1 i]
                       refine ihj (i + 1) (zuN x i v) _ (fun k b => K k b || pAny (fun p => pFa (pGv kd kin met) (pSn kin) W x i p && pDe n (pGv kd kin met) (pSn kin) W k b (j + 1) (i + 1) (zuN x i p)) v) _ _ (by omega) hS2 (fun k hk => by unfold zuN; split; exact hvn; exact hx k (by omega)) (hu.dn (by omega)) hB2 (fun o3 σ3 hS3 hu3 hB3 => ?_)
                       have eS : pSum (fun p => if pFa (pGv kd kin met) (pSn kin) W x i p then pDf n (pGv kd kin met) (pSn kin) W (j + 1) (i + 1) (zuN x i p) else 0) (v + 1) = pSum (fun p => if pFa (pGv kd kin met) (pSn kin) W x i p then pDf n (pGv kd kin met) (pSn kin) W (j + 1) (i + 1) (zuN x i p) else 0) v + pDf n (pGv kd kin met) (pSn kin) W (j + 1) (i + 1) (zuN x i v) := pSum_s (if_pos hfa)
                       rw [zpm, Nat.add_assoc, ← eS]
                       refine ih (v + 1) _ _ (by omega) hS3 hu3.up (hB3.eq (fun k b _ _ => ?_))
                       show (K k b || (pAny _ v || (pFa (pGv kd kin met) (pSn kin) W x i v && pDe n (pGv kd kin met) (pSn kin) W k b (j + 1) (i + 1) (zuN x i v)))) = _
                       rw [hfa, Bool.true_and, ← Bool.or_assoc])
                · exact absurd ((nI_eq (a := i) (b := m - 1) (by omega) (by omega)).mp h102) (by omega)
            · exact absurd ((nI_ltI (a := v) (b := n) (by omega) (by omega)).mpr (by omega)) h65
      rw [show c = c + pSum (fun p => if pFa (pGv kd kin met) (pSn kin) W x i p then pDf n (pGv kd kin met) (pSn kin) W (j + 1) (i + 1) (zuN x i p) else 0) 0 from rfl]
      exact inn n 0 _ σ1 (by omega) hS hu (hB.eq (fun k b _ _ => by simp [pAny]))
  have lp1 : ∀ (r : Nat) (q : Nat) (σ1 : zSt), q + r = 7 → zSm [66, 67] [] σ σ1 → (∀ k, k < q → zI σ1 67 k = 0 ∧ zI σ1 66 k = -1) → zV X 4 2 [some (.ref 53), some (.int (nI q)), none, none] [] 0 0 σ1 := by
    intro r
    induction r with
    | zero =>
      intro q σ1 hq hS hc
      have hL1 := hS.lay hL
      refine v_iload_n (q := 3) hC dX12_layFits_2 rfl rfl rfl ?_
      refine v_bipush (q := 5) (v := 7) hC dX12_layFits_3 rfl (by decide) ?_
      refine v_icmp_ge (q := 8) (tgt := 28) hC dX12_layFits_5 rfl (by decide) (fun h5 => ?_) (fun h5 => ?_)
      · refine v_aload_n (q := 29) hC dX12_layFits_28 rfl rfl rfl ?_
        refine v_getI (q := 32) hC dX12_layFits_29 rfl fX12_132 (hL1.1 53 (by decide)) ?_
        rw [(hy.sm hS rfl rfl).1]
        have c32 : nI m = 0 ↔ m = 0 := nI_eq (a := m) (b := 0) (by omega) (by omega)
        refine v_if_ne (q := 35) (tgt := 37) hC dX12_layFits_32 rfl (by decide) (fun h32 => ?_) (fun h32 => ?_)
        · refine v_iconst (q := 38) (v := 0) hC dX12_layFits_37 rfl (by decide) ?_
          refine v_istore_n (q := 39) (L' := [_, _, _, _]) hC dX12_layFits_38 rfl rfl (by decide) rfl rfl ?_
          refine v_iconst (q := 40) (v := 0) hC dX12_layFits_39 rfl (by decide) ?_
          refine v_istore_n (q := 41) (L' := [_, _, _, _]) hC dX12_layFits_40 rfl rfl (by decide) rfl rfl ?_
          have hm0 : ¬ m = 0 := fun z => h32 (c32.mpr z)
          refine dfs (m - 1) 0 (fun _ => 0) 0 (fun _ _ => false) _ σ1 (by omega) hS (fun k hk => absurd hk (Nat.not_lt_zero k)) ⟨fun k hk => absurd hk (Nat.not_lt_zero k), (hc 0 (by omega)).2, fun k _ h2 => (hc k (by omega)).2⟩ (fun k hk => by rw [(hc k (by omega)).1]; exact zMb.zero) (fun o3 σ2 hS2 hu2 hB2 => ?_)
          have hL2 := hS2.lay hL
          rw [show m - 1 + 1 = m by omega, Nat.zero_add] at *
          refine v_iload_n (q := 42) hC dX12_layFits_41 rfl rfl rfl ?_
          refine v_if_lt (q := 45) (tgt := 150) hC dX12_layFits_42 rfl (by decide) (fun h42 => ?_) (fun h42 => ?_)
          · refine v_iload_n (q := 151) hC dX12_layFits_150 rfl rfl rfl ?_
            refine v_ireturn hC hB dX12_layFits_151 ⟨Nat.le_refl _, Nat.le_refl _⟩ ?_
            exact ⟨rfl, hS2, fun k hk => (hB2 k hk).congr (fun b _ => (Bool.false_or _).symm)⟩
          · exact absurd (by decide) h42
        · refine v_iconst (q := 36) (v := 1) hC dX12_layFits_35 rfl (by decide) ?_
          refine v_ireturn hC hB dX12_layFits_36 ⟨Nat.le_refl _, Nat.le_refl _⟩ ?_
          have e := c32.mp h32
          subst e
          exact ⟨rfl, hS, fun k hk => absurd hk (Nat.not_lt_zero k)⟩
      · exact absurd (nI_le (a := 7) (b := q) (by omega) (by omega)) h5
    | succ r ih =>
      intro q σ1 hq hS hc
      have hL1 := hS.lay hL
      refine v_iload_n (q := 3) hC dX12_layFits_2 rfl rfl rfl ?_
      refine v_bipush (q := 5) (v := 7) hC dX12_layFits_3 rfl (by decide) ?_
      refine v_icmp_ge (q := 8) (tgt := 28) hC dX12_layFits_5 rfl (by decide) (fun h5 => ?_) (fun h5 => ?_)
      · exact absurd h5 (nI_ge (a := q) (b := 7) (by omega) (by omega))
      · refine v_aload_n (q := 9) hC dX12_layFits_8 rfl rfl rfl ?_
        refine v_getR (q := 12) (r := 67) hC dX12_layFits_9 rfl fX12_49 (hL1.1 53 (by decide)) (hL1.2 53 31 67 rfl) ?_
        refine v_iload_n (q := 13) hC dX12_layFits_12 rfl rfl rfl ?_
        refine v_iconst (q := 14) (v := 0) hC dX12_layFits_13 rfl (by decide) ?_
        refine v_iastN (q := 15) (j := q) hC dX12_layFits_14 rfl (hL1.1 67 (by decide)) rfl (by omega) (by decide) ?_
        refine v_aload_n (q := 16) hC dX12_layFits_15 rfl rfl rfl ?_
        refine v_getR (q := 19) (r := 66) hC dX12_layFits_16 rfl fX12_46 (hL1.1 53 (by decide)) (hL1.2 53 30 66 rfl) ?_
        refine v_iload_n (q := 20) hC dX12_layFits_19 rfl rfl rfl ?_
        refine v_iconst (q := 21) (v := -1) hC dX12_layFits_20 rfl (by decide) ?_
        refine v_iastN (q := 22) (j := q) hC dX12_layFits_21 rfl (hL1.1 66 (by decide)) rfl (by omega) (by decide) ?_
        refine v_iinc (q := 25) (v := 1) (L' := [_, _, _, _]) hC dX12_layFits_22 rfl rfl (by decide) (by decide) rfl rfl ?_
        refine v_goto (q := 2) hC dX12_layFits_25 (by decide) ?_
        rw [nI_1 q]
        refine ih (q + 1) _ (by omega) ((hS.c (by simp) (by decide)).c (by simp) (by decide)) (fun k hk => ?_)
        rw [zI_ne (by omega), zI_sI, zI_sI, zI_ne (by omega)]
        by_cases e : k = q
        · rw [if_pos ⟨rfl, e⟩, if_pos ⟨rfl, e⟩]; exact ⟨rfl, rfl⟩
        · rw [if_neg (fun z => e z.2), if_neg (fun z => e z.2)]; exact hc k (by omega)
  refine v_iconst (q := 1) (v := 0) hC dX12_layFits_0 rfl (by decide) ?_
  refine v_istore_n (q := 2) (L' := [_, _, _, _]) hC dX12_layFits_1 rfl rfl (by decide) rfl rfl ?_
  exact lp1 7 0 σ (by omega) zSm.rf (fun k hk => absurd hk (Nat.not_lt_zero k))

