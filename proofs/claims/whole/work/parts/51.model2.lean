/-! ===== the model: favours ===== -/
/-- whether b may follow in a way: FOR whom a does one, before it from i to a -/
def pFw (gv sn : Nat → Nat → Bool) (i : Option Nat) (a b : Nat) : Bool := gv a b && (match i with
  | none => true
  | some i => !sn i b)
theorem gvS_0 {kd : Nat → Nat} {kin met : Nat → Nat → Bool} {a b : Nat} : gvS kd kin met none none a b = pGv kd kin met a b := by simp [gvS, pGv, pBs]

set_option maxRecDepth 100000 in
set_option maxHeartbeats 4000000 in
theorem ct_X12_follows (d : Nat) {σ : zSt} (hL : zLay σ) {n : Nat} {kd : Nat → Nat} {kin met : Nat → Nat → Bool} {t : Nat} (hF : zMf σ n kd kin met t) {mb : Option Nat} {pr : Option (Nat × Nat)} (hs : zMs σ mb pr) (hmb : ∀ g, mb = some g → g < 6) (hsy : ∀ a b, a < 6 → b < 6 → kin a b = kin b a) {i : Option Nat} (hi : ∀ g, i = some g → g < n) {a b : Nat} (ha : a < n) (hb : b < n) : zEv (d + 2) MX12_follows [.ref 53, .int (zo i), .int (nI a), .int (nI b)] σ (some (.int (zb (pFw (gvS kd kin met mb pr) (pSn kin) i a b)))) σ := by
  refine zCt.of (L := [some (.ref 53), some (.int (zo i)), some (.int (nI a)), some (.int (nI b))]) (by decide) (Nat.le_of_ble_eq_true rfl) rfl (fun X hC hB => ?_)
  have hC : zC X RX12 cX12_follows 4 (d + 2) 0 0 := hC
  have hB : zB X (some .boolean) 0 0 "follows" σ _ := hB
  show zV X 4 0 [some (.ref 53), some (.int (zo i)), some (.int (nI a)), some (.int (nI b))] [] 0 0 σ
  have hn6 := hF.2.1
  have c0 : nI a = nI b ↔ a = b := nI_eq (by omega) (by omega)
  have c1 := zo_m (o := i) (m := 6) (fun g hg => by have := hi g hg; omega) (by omega)
  refine v_iload_n (q := 1) hC dX12_follows_0 rfl rfl rfl ?_
  refine v_iload_n (q := 2) hC dX12_follows_1 rfl rfl rfl ?_
  refine v_icmp_eq (q := 5) (tgt := 45) hC dX12_follows_2 rfl (by decide) (fun h2 => ?_) (fun h2 => ?_)
  · refine v_iconst (q := 46) (v := 0) hC dX12_follows_45 rfl (by decide) ?_
    refine v_zreturn hC hB dX12_follows_46 ⟨Nat.le_refl _, Nat.le_refl _⟩ (by first | exact Or.inl rfl | exact Or.inr rfl | exact zb_01 _) ?_
    unfold pFw gvS
    try unfold pSn
    clear hB
    generalize (pKn kd kin met a b || pBs pr a b) = K at *
    generalize (pIs 1 (kd a) || decide (mb = some a)) = J at *
    first | exact ⟨zbt (by simp_all [zb_eq0, zb_eq1]), rfl⟩ | exact ⟨zbf (by simp_all [zb_eq0, zb_eq1]), rfl⟩
  · refine v_aload_n (q := 6) hC dX12_follows_5 rfl rfl rfl ?_
    refine v_iload_n (q := 7) hC dX12_follows_6 rfl rfl rfl ?_
    refine v_callV1 (q := 10) (As := [_]) hC dX12_follows_7 rfl lX12_186 mX12_isMiser iX12_isMiser eX12_isMiser rfl (hL.1 53 (by decide)) (ct_X12_isMiser (d + 1) hL hF hs hmb ha) rfl rfl (by omega) rfl (Nat.le_of_ble_eq_true rfl) ?_
    refine v_if_ne (q := 13) (tgt := 45) hC dX12_follows_10 rfl (by decide) (fun h10 => ?_) (fun h10 => ?_)
    · refine v_iconst (q := 46) (v := 0) hC dX12_follows_45 rfl (by decide) ?_
      refine v_zreturn hC hB dX12_follows_46 ⟨Nat.le_refl _, Nat.le_refl _⟩ (by first | exact Or.inl rfl | exact Or.inr rfl | exact zb_01 _) ?_
      unfold pFw gvS
      try unfold pSn
      clear hB
      generalize (pKn kd kin met a b || pBs pr a b) = K at *
      generalize (pIs 1 (kd a) || decide (mb = some a)) = J at *
      first | exact ⟨zbt (by simp_all [zb_eq0, zb_eq1]), rfl⟩ | exact ⟨zbf (by simp_all [zb_eq0, zb_eq1]), rfl⟩
    · refine v_aload_n (q := 14) hC dX12_follows_13 rfl rfl rfl ?_
      refine v_iload_n (q := 15) hC dX12_follows_14 rfl rfl rfl ?_
      refine v_iload_n (q := 16) hC dX12_follows_15 rfl rfl rfl ?_
      refine v_callV1 (q := 19) (As := [_, _]) hC dX12_follows_16 rfl lX12_154 mX12_know iX12_know eX12_know rfl (hL.1 53 (by decide)) (ct_X12_know d hL hF hs hmb ha hb) rfl rfl (by omega) rfl (Nat.le_of_ble_eq_true rfl) ?_
      refine v_if_eq (q := 22) (tgt := 45) hC dX12_follows_19 rfl (by decide) (fun h19 => ?_) (fun h19 => ?_)
      · refine v_iconst (q := 46) (v := 0) hC dX12_follows_45 rfl (by decide) ?_
        refine v_zreturn hC hB dX12_follows_46 ⟨Nat.le_refl _, Nat.le_refl _⟩ (by first | exact Or.inl rfl | exact Or.inr rfl | exact zb_01 _) ?_
        unfold pFw gvS
        try unfold pSn
        clear hB
        generalize (pKn kd kin met a b || pBs pr a b) = K at *
        generalize (pIs 1 (kd a) || decide (mb = some a)) = J at *
        first | exact ⟨zbt (by simp_all [zb_eq0, zb_eq1]), rfl⟩ | exact ⟨zbf (by simp_all [zb_eq0, zb_eq1]), rfl⟩
      · refine v_iload_n (q := 23) hC dX12_follows_22 rfl rfl rfl ?_
        refine v_iconst (q := 24) (v := -1) hC dX12_follows_23 rfl (by decide) ?_
        refine v_icmp_eq (q := 27) (tgt := 41) hC dX12_follows_24 rfl (by decide) (fun h24 => ?_) (fun h24 => ?_)
        · have e := c1.mp h24
          subst e
          refine v_iconst (q := 42) (v := 1) hC dX12_follows_41 rfl (by decide) ?_
          refine v_goto (q := 46) hC dX12_follows_42 (by decide) ?_
          refine v_zreturn hC hB dX12_follows_46 ⟨Nat.le_refl _, Nat.le_refl _⟩ (by first | exact Or.inl rfl | exact Or.inr rfl | exact zb_01 _) ?_
          unfold pFw gvS
          try unfold pSn
          clear hB
          generalize (pKn kd kin met a b || pBs pr a b) = K at *
          generalize (pIs 1 (kd a) || decide (mb = some a)) = J at *
          first | exact ⟨zbt (by simp_all [zb_eq0, zb_eq1]), rfl⟩ | exact ⟨zbf (by simp_all [zb_eq0, zb_eq1]), rfl⟩
        · obtain ⟨g, rfl⟩ : ∃ g, i = some g := by cases i with | none => exact absurd rfl h24 | some g => exact ⟨g, rfl⟩
          have hg := hi g rfl
          have c2 : nI b = zo (some g) ↔ g = b := (nI_eq (a := b) (b := g) (by omega) (by omega)).trans ⟨Eq.symm, Eq.symm⟩
          have sy := hsy b g (by omega) (by omega)
          refine v_iload_n (q := 28) hC dX12_follows_27 rfl rfl rfl ?_
          refine v_iload_n (q := 29) hC dX12_follows_28 rfl rfl rfl ?_
          refine v_icmp_eq (q := 32) (tgt := 45) hC dX12_follows_29 rfl (by decide) (fun h29 => ?_) (fun h29 => ?_)
          · refine v_iconst (q := 46) (v := 0) hC dX12_follows_45 rfl (by decide) ?_
            refine v_zreturn hC hB dX12_follows_46 ⟨Nat.le_refl _, Nat.le_refl _⟩ (by first | exact Or.inl rfl | exact Or.inr rfl | exact zb_01 _) ?_
            unfold pFw gvS
            try unfold pSn
            clear hB
            generalize (pKn kd kin met a b || pBs pr a b) = K at *
            generalize (pIs 1 (kd a) || decide (mb = some a)) = J at *
            first | exact ⟨zbt (by simp_all [zb_eq0, zb_eq1]), rfl⟩ | exact ⟨zbf (by simp_all [zb_eq0, zb_eq1]), rfl⟩
          · refine v_aload_n (q := 33) hC dX12_follows_32 rfl rfl rfl ?_
            refine v_iload_n (q := 34) hC dX12_follows_33 rfl rfl rfl ?_
            refine v_iload_n (q := 35) hC dX12_follows_34 rfl rfl rfl ?_
            refine v_callV1 (q := 38) (As := [_, _]) hC dX12_follows_35 rfl lX12_150 mX12_areKin iX12_areKin eX12_areKin rfl (hL.1 53 (by decide)) (ct_X12_areKin (d + 1) hL hF (show b < 6 by omega) (show g < 6 by have := hi g rfl; omega)) rfl rfl (by omega) rfl (Nat.le_of_ble_eq_true rfl) ?_
            refine v_if_ne (q := 41) (tgt := 45) hC dX12_follows_38 rfl (by decide) (fun h38 => ?_) (fun h38 => ?_)
            · refine v_iconst (q := 46) (v := 0) hC dX12_follows_45 rfl (by decide) ?_
              refine v_zreturn hC hB dX12_follows_46 ⟨Nat.le_refl _, Nat.le_refl _⟩ (by first | exact Or.inl rfl | exact Or.inr rfl | exact zb_01 _) ?_
              unfold pFw gvS
              try unfold pSn
              clear hB
              generalize (pKn kd kin met a b || pBs pr a b) = K at *
              generalize (pIs 1 (kd a) || decide (mb = some a)) = J at *
              first | exact ⟨zbt (by simp_all [zb_eq0, zb_eq1]), rfl⟩ | exact ⟨zbf (by simp_all [zb_eq0, zb_eq1]), rfl⟩
            · refine v_iconst (q := 42) (v := 1) hC dX12_follows_41 rfl (by decide) ?_
              refine v_goto (q := 46) hC dX12_follows_42 (by decide) ?_
              refine v_zreturn hC hB dX12_follows_46 ⟨Nat.le_refl _, Nat.le_refl _⟩ (by first | exact Or.inl rfl | exact Or.inr rfl | exact zb_01 _) ?_
              unfold pFw gvS
              try unfold pSn
              clear hB
              generalize (pKn kd kin met a b || pBs pr a b) = K at *
              generalize (pIs 1 (kd a) || decide (mb = some a)) = J at *
              first | exact ⟨zbt (by simp_all [zb_eq0, zb_eq1]), rfl⟩ | exact ⟨zbf (by simp_all [zb_eq0, zb_eq1]), rfl⟩

set_option maxRecDepth 100000 in
set_option maxHeartbeats 4000000 in
theorem ct_X12_isOwed (d : Nat) {σ : zSt} (hL : zLay σ) {m : Nat} {F : Nat → Nat → Int32} {w : Nat} (hd : zMr σ m F w) {f : Nat} (hf : f < m) : zEv (d + 0) MX12_isOwed [.ref 53, .int (nI f)] σ (some (.int (zb (decide (F 5 f = -1))))) σ := by
  refine zCt.of (L := [some (.ref 53), some (.int (nI f))]) (by decide) (Nat.le_of_ble_eq_true rfl) rfl (fun X hC hB => ?_)
  have hC : zC X RX12 cX12_isOwed 2 (d + 0) 0 0 := hC
  have hB : zB X (some .boolean) 0 0 "isOwed" σ _ := hB
  show zV X 2 0 [some (.ref 53), some (.int (nI f))] [] 0 0 σ
  have hm := hd.2.1
  refine v_aload_n (q := 1) hC dX12_isOwed_0 rfl rfl rfl ?_
  refine v_getR (q := 4) (r := 60) hC dX12_isOwed_1 rfl fX12_28 (hL.1 53 (by decide)) (hL.2 53 23 60 rfl) ?_
  refine v_bipush (q := 6) (v := 6) hC dX12_isOwed_4 rfl (by decide) ?_
  refine v_iload_n (q := 7) hC dX12_isOwed_6 rfl rfl rfl ?_
  refine v_imul (q := 8) hC dX12_isOwed_7 rfl ?_
  refine v_iconst (q := 9) (v := 5) hC dX12_isOwed_8 rfl (by decide) ?_
  refine v_iadd (q := 10) hC dX12_isOwed_9 rfl ?_
  refine v_ialdN (q := 11) (j := 6 * f + 5) hC dX12_isOwed_10 rfl (hL.1 60 (by decide)) (z6' f 5) (by omega) (by decide) ?_
  rw [hd.2.2.2 5 f (by decide) hf]
  refine v_iconst (q := 12) (v := -1) hC dX12_isOwed_11 rfl (by decide) ?_
  refine v_icmp_ne (q := 15) (tgt := 19) hC dX12_isOwed_12 rfl (by decide) (fun h12 => ?_) (fun h12 => ?_)
  · refine v_iconst (q := 20) (v := 0) hC dX12_isOwed_19 rfl (by decide) ?_
    refine v_zreturn hC hB dX12_isOwed_20 ⟨Nat.le_refl _, Nat.le_refl _⟩ (by first | exact Or.inl rfl | exact Or.inr rfl | exact zb_01 _) ?_
    first | exact ⟨zbt (by simp_all), rfl⟩ | exact ⟨zbf (by simp_all), rfl⟩
  · refine v_iconst (q := 16) (v := 1) hC dX12_isOwed_15 rfl (by decide) ?_
    refine v_goto (q := 20) hC dX12_isOwed_16 (by decide) ?_
    refine v_zreturn hC hB dX12_isOwed_20 ⟨Nat.le_refl _, Nat.le_refl _⟩ (by first | exact Or.inl rfl | exact Or.inr rfl | exact zb_01 _) ?_
    first | exact ⟨zbt (by simp_all), rfl⟩ | exact ⟨zbf (by simp_all), rfl⟩

set_option maxRecDepth 100000 in
set_option maxHeartbeats 4000000 in
theorem ct_X12_isLate (d : Nat) {σ : zSt} (hL : zLay σ) {n : Nat} {kd : Nat → Nat} {kin met : Nat → Nat → Bool} {t : Nat} (hF : zMf σ n kd kin met t) {m : Nat} {F : Nat → Nat → Int32} {w : Nat} (hd : zMr σ m F w) (hw : pLw m F n w) {f : Nat} (hf : f < m) : zEv (d + 1) MX12_isLate [.ref 53, .int (nI f)] σ (some (.int (zb (decide (nI w - F 3 f > nI (pTm kd t (dN (F 1 f)))))))) σ := by
  refine zCt.of (L := [some (.ref 53), some (.int (nI f))]) (by decide) (Nat.le_of_ble_eq_true rfl) rfl (fun X hC hB => ?_)
  have hC : zC X RX12 cX12_isLate 2 (d + 1) 0 0 := hC
  have hB : zB X (some .boolean) 0 0 "isLate" σ _ := hB
  show zV X 2 0 [some (.ref 53), some (.int (nI f))] [] 0 0 σ
  have hm := hd.2.1
  have hn6 := hF.2.1
  obtain ⟨e0, l0, e1, l1⟩ := pFn hw hn6 hf
  refine v_aload_n (q := 1) hC dX12_isLate_0 rfl rfl rfl ?_
  refine v_getI (q := 4) hC dX12_isLate_1 rfl fX12_123 (hL.1 53 (by decide)) ?_
  refine v_aload_n (q := 5) hC dX12_isLate_4 rfl rfl rfl ?_
  refine v_getR (q := 8) (r := 60) hC dX12_isLate_5 rfl fX12_28 (hL.1 53 (by decide)) (hL.2 53 23 60 rfl) ?_
  refine v_bipush (q := 10) (v := 6) hC dX12_isLate_8 rfl (by decide) ?_
  refine v_iload_n (q := 11) hC dX12_isLate_10 rfl rfl rfl ?_
  refine v_imul (q := 12) hC dX12_isLate_11 rfl ?_
  refine v_iconst (q := 13) (v := 3) hC dX12_isLate_12 rfl (by decide) ?_
  refine v_iadd (q := 14) hC dX12_isLate_13 rfl ?_
  refine v_ialdN (q := 15) (j := 6 * f + 3) hC dX12_isLate_14 rfl (hL.1 60 (by decide)) (z6' f 3) (by omega) (by decide) ?_
  rw [hd.2.2.2 3 f (by decide) hf, hd.2.2.1]
  refine v_isub (q := 16) hC dX12_isLate_15 rfl ?_
  refine v_aload_n (q := 17) hC dX12_isLate_16 rfl rfl rfl ?_
  refine v_aload_n (q := 18) hC dX12_isLate_17 rfl rfl rfl ?_
  refine v_getR (q := 21) (r := 60) hC dX12_isLate_18 rfl fX12_28 (hL.1 53 (by decide)) (hL.2 53 23 60 rfl) ?_
  refine v_bipush (q := 23) (v := 6) hC dX12_isLate_21 rfl (by decide) ?_
  refine v_iload_n (q := 24) hC dX12_isLate_23 rfl rfl rfl ?_
  refine v_imul (q := 25) hC dX12_isLate_24 rfl ?_
  refine v_iconst (q := 26) (v := 1) hC dX12_isLate_25 rfl (by decide) ?_
  refine v_iadd (q := 27) hC dX12_isLate_26 rfl ?_
  refine v_ialdN (q := 28) (j := 6 * f + 1) hC dX12_isLate_27 rfl (hL.1 60 (by decide)) (z6' f 1) (by omega) (by decide) ?_
  rw [hd.2.2.2 1 f (by decide) hf, e1]
  refine v_callV1 (q := 31) (As := [_]) hC dX12_isLate_28 rfl lX12_170 mX12_termOf iX12_termOf eX12_termOf rfl (hL.1 53 (by decide)) (ct_X12_termOf d hL hF l1) rfl rfl (by omega) rfl (Nat.le_of_ble_eq_true rfl) ?_
  refine v_icmp_le (q := 34) (tgt := 38) hC dX12_isLate_31 rfl (by decide) (fun h31 => ?_) (fun h31 => ?_)
  · refine v_iconst (q := 39) (v := 0) hC dX12_isLate_38 rfl (by decide) ?_
    refine v_zreturn hC hB dX12_isLate_39 ⟨Nat.le_refl _, Nat.le_refl _⟩ (by first | exact Or.inl rfl | exact Or.inr rfl | exact zb_01 _) ?_
    first | exact ⟨zbt (decide_eq_true (Int32.not_le.mp h31)), rfl⟩ | exact ⟨zbf (decide_eq_false (Int32.not_lt.mpr h31)), rfl⟩
  · refine v_iconst (q := 35) (v := 1) hC dX12_isLate_34 rfl (by decide) ?_
    refine v_goto (q := 39) hC dX12_isLate_35 (by decide) ?_
    refine v_zreturn hC hB dX12_isLate_39 ⟨Nat.le_refl _, Nat.le_refl _⟩ (by first | exact Or.inl rfl | exact Or.inr rfl | exact zb_01 _) ?_
    first | exact ⟨zbt (decide_eq_true (Int32.not_le.mp h31)), rfl⟩ | exact ⟨zbf (decide_eq_false (Int32.not_lt.mpr h31)), rfl⟩

theorem pLf_eq {kd : Nat → Nat} {kin met : Nat → Nat → Bool} {t : Nat} {F : Nat → Nat → Int32} {w a b g i : Nat} {price : Int32} (hsy : ∀ a b, a < 6 → b < 6 → kin a b = kin b a) (ha : a < 6) (hb : b < 6) (hi : i < 6) (e0 : F 0 g = nI i) : pLf kd kin met t F w a b price (some g) = (decide (F 1 g = nI a) && decide (F 5 g = -1) && pFw (gvS kd kin met none none) (pSn kin) (some i) a b && !decide (price < F 2 g - (if kd a = 2 then 1 else 0)) && !decide (nI w - F 3 g > nI (pTm kd t (dN (F 1 g))))) := by
  have eb : (nI b = F 0 g) ↔ i = b := by rw [e0]; exact (nI_eq (a := b) (b := i) (by omega) (by omega)).trans ⟨Eq.symm, Eq.symm⟩
  have ep : (if kd a = 2 then F 2 g - 1 else F 2 g) = F 2 g - (if kd a = 2 then 1 else 0) := by split <;> simp
  have ed : dN (F 0 g) = i := by rw [e0, dN_nI (by omega)]
  unfold pLf pMR pFw pSn
  dsimp only
  rw [gvS_0, pGv, ep, ed, hsy b i hb hi, decide_eq_decide.mpr eb]
  by_cases h1 : F 1 g = nI a
  · rw [h1, dN_nI (by omega)]
    generalize decide (price < F 2 g - (if kd a = 2 then 1 else 0)) = D
    generalize decide (nI w - F 3 g > nI (pTm kd t a)) = L
    generalize decide (F 5 g = -1) = O
    generalize decide (a = b) = Q
    generalize pIs 1 (kd a) = P
    generalize pKn kd kin met a b = K
    generalize decide (i = b) = I
    generalize kin i b = Z
    simp
    cases D <;> cases L <;> cases O <;> cases Q <;> cases P <;> cases K <;> cases I <;> cases Z <;> rfl
  · simp [h1]

set_option maxRecDepth 100000 in
set_option maxHeartbeats 4000000 in
theorem ct_X12_mayDo (d : Nat) {σ : zSt} (hL : zLay σ) {n : Nat} {kd : Nat → Nat} {kin met : Nat → Nat → Bool} {t : Nat} (hF : zMf σ n kd kin met t) {m : Nat} {F : Nat → Nat → Int32} {w : Nat} (hd : zMr σ m F w) (hw : pLw m F n w) (hs : zMs σ none none) (hsy : ∀ a b, a < 6 → b < 6 → kin a b = kin b a) {a b : Nat} (ha : a < n) (hb : b < n) (price : Int32) {old : Option Nat} (ho : ∀ g, old = some g → g < m) : zEv (d + 3) MX12_mayDo [.ref 53, .int (nI a), .int (nI b), .int price, .int (zo old)] σ (some (.int (zb (pLf kd kin met t F w a b price old)))) σ := by
  refine zCt.of (L := [some (.ref 53), some (.int (nI a)), some (.int (nI b)), some (.int price), some (.int (zo old)), none, none]) (by decide) (Nat.le_of_ble_eq_true rfl) rfl (fun X hC hB => ?_)
  have hC : zC X RX12 cX12_mayDo 7 (d + 3) 0 0 := hC
  have hB : zB X (some .boolean) 0 0 "mayDo" σ _ := hB
  show zV X 7 0 [some (.ref 53), some (.int (nI a)), some (.int (nI b)), some (.int price), some (.int (zo old)), none, none] [] 0 0 σ
  have hm := hd.2.1
  have hn6 := hF.2.1
  obtain ⟨ka4, eka⟩ := hF.2.2.1 a ha
  have c1 := zo_m (o := old) (m := 12) (fun g hg => by have := ho g hg; omega) (by omega)
  have c2 : nI (kd a) = 2 ↔ kd a = 2 := nI_eq (a := kd a) (b := 2) (by omega) (by omega)
  refine v_iload (q := 2) hC dX12_mayDo_0 rfl rfl ?_
  refine v_iconst (q := 3) (v := -1) hC dX12_mayDo_2 rfl (by decide) ?_
  refine v_icmp_ne (q := 6) (tgt := 14) hC dX12_mayDo_3 rfl (by decide) (fun h3 => ?_) (fun h3 => ?_)
  · obtain ⟨g, rfl⟩ : ∃ g, old = some g := by cases old with | none => exact absurd rfl h3 | some g => exact ⟨g, rfl⟩
    have hg := ho g rfl
    obtain ⟨e0, l0, e1, l1⟩ := pFn hw hn6 hg
    have ez : zo (some g) = nI g := rfl
    rw [ez]
    refine v_bipush (q := 16) (v := 6) hC dX12_mayDo_14 rfl (by decide) ?_
    refine v_iload (q := 18) hC dX12_mayDo_16 rfl rfl ?_
    refine v_imul (q := 19) hC dX12_mayDo_18 rfl ?_
    refine v_istore (q := 21) (L' := [_, _, _, _, _, _, _]) hC dX12_mayDo_19 rfl (by decide) rfl rfl ?_
    refine v_aload_n (q := 22) hC dX12_mayDo_21 rfl rfl rfl ?_
    refine v_getR (q := 25) (r := 60) hC dX12_mayDo_22 rfl fX12_28 (hL.1 53 (by decide)) (hL.2 53 23 60 rfl) ?_
    refine v_iload (q := 27) hC dX12_mayDo_25 rfl rfl ?_
    refine v_iconst (q := 28) (v := 1) hC dX12_mayDo_27 rfl (by decide) ?_
    refine v_iadd (q := 29) hC dX12_mayDo_28 rfl ?_
    refine v_ialdN (q := 30) (j := 6 * g + 1) hC dX12_mayDo_29 rfl (hL.1 60 (by decide)) (z6' g 1) (by omega) (by decide) ?_
    rw [hd.2.2.2 1 g (by decide) hg]
    refine v_iload_n (q := 31) hC dX12_mayDo_30 rfl rfl rfl ?_
    refine v_icmp_ne (q := 34) (tgt := 63) hC dX12_mayDo_31 rfl (by decide) (fun h31 => ?_) (fun h31 => ?_)
    · refine v_iconst (q := 64) (v := 0) hC dX12_mayDo_63 rfl (by decide) ?_
      refine v_istore (q := 66) (L' := [_, _, _, _, _, _, _]) hC dX12_mayDo_64 rfl (by decide) rfl rfl ?_
      show zV X 7 66 [some (.ref 53), some (.int (nI a)), some (.int (nI b)), some (.int price), some (.int (nI g)), some (.int (6 * nI g)), some (.int _)] [] 0 0 σ
      refine v_iload (q := 68) hC dX12_mayDo_66 rfl rfl ?_
      refine v_if_eq (q := 71) (tgt := 113) hC dX12_mayDo_68 rfl (by decide) (fun h68 => ?_) (fun h68 => ?_)
      · refine v_iconst (q := 114) (v := 0) hC dX12_mayDo_113 rfl (by decide) ?_
        refine v_zreturn hC hB dX12_mayDo_114 ⟨Nat.le_refl _, Nat.le_refl _⟩ (by first | exact Or.inl rfl | exact Or.inr rfl | exact zb_01 _) ?_
        rw [pLf_eq hsy (show a < 6 by omega) (show b < 6 by omega) (show dN (F 0 g) < 6 by omega) e0]
        clear hB e0 e1 hsy
        generalize pFw (gvS kd kin met none none) (pSn kin) (some (dN (F 0 g))) a b = C at *
        generalize decide (nI w - F 3 g > nI (pTm kd t (dN (F 1 g)))) = J at *
        first | exact ⟨zbt (by simp_all [zb_eq0, zb_eq1]), rfl⟩ | exact ⟨zbf (by simp_all [zb_eq0, zb_eq1]), rfl⟩
      · refine v_iload_n (q := 72) hC dX12_mayDo_71 rfl rfl rfl ?_
        refine v_aload_n (q := 73) hC dX12_mayDo_72 rfl rfl rfl ?_
        refine v_getR (q := 76) (r := 60) hC dX12_mayDo_73 rfl fX12_28 (hL.1 53 (by decide)) (hL.2 53 23 60 rfl) ?_
        refine v_iload (q := 78) hC dX12_mayDo_76 rfl rfl ?_
        refine v_iconst (q := 79) (v := 2) hC dX12_mayDo_78 rfl (by decide) ?_
        refine v_iadd (q := 80) hC dX12_mayDo_79 rfl ?_
        refine v_ialdN (q := 81) (j := 6 * g + 2) hC dX12_mayDo_80 rfl (hL.1 60 (by decide)) (z6' g 2) (by omega) (by decide) ?_
        rw [hd.2.2.2 2 g (by decide) hg]
        refine v_aload_n (q := 82) hC dX12_mayDo_81 rfl rfl rfl ?_
        refine v_getR (q := 85) (r := 59) hC dX12_mayDo_82 rfl fX12_25 (hL.1 53 (by decide)) (hL.2 53 17 59 rfl) ?_
        refine v_iload_n (q := 86) hC dX12_mayDo_85 rfl rfl rfl ?_
        refine v_ialdN (q := 87) (j := a) hC dX12_mayDo_86 rfl (hL.1 59 (by decide)) rfl (by omega) (by decide) ?_
        rw [eka]
        refine v_iconst (q := 88) (v := 2) hC dX12_mayDo_87 rfl (by decide) ?_
        refine v_icmp_ne (q := 91) (tgt := 95) hC dX12_mayDo_88 rfl (by decide) (fun h88 => ?_) (fun h88 => ?_)
        · refine v_iconst (q := 96) (v := 0) hC dX12_mayDo_95 rfl (by decide) ?_
          refine v_isub (q := 97) hC dX12_mayDo_96 rfl ?_
          refine v_icmp_lt (q := 100) (tgt := 113) hC dX12_mayDo_97 rfl (by decide) (fun h97 => ?_) (fun h97 => ?_)
          · refine v_iconst (q := 114) (v := 0) hC dX12_mayDo_113 rfl (by decide) ?_
            refine v_zreturn hC hB dX12_mayDo_114 ⟨Nat.le_refl _, Nat.le_refl _⟩ (by first | exact Or.inl rfl | exact Or.inr rfl | exact zb_01 _) ?_
            rw [pLf_eq hsy (show a < 6 by omega) (show b < 6 by omega) (show dN (F 0 g) < 6 by omega) e0]
            clear hB e0 e1 hsy
            generalize pFw (gvS kd kin met none none) (pSn kin) (some (dN (F 0 g))) a b = C at *
            generalize decide (nI w - F 3 g > nI (pTm kd t (dN (F 1 g)))) = J at *
            first | exact ⟨zbt (by simp_all [zb_eq0, zb_eq1]), rfl⟩ | exact ⟨zbf (by simp_all [zb_eq0, zb_eq1]), rfl⟩
          · refine v_aload_n (q := 101) hC dX12_mayDo_100 rfl rfl rfl ?_
            refine v_iload (q := 103) hC dX12_mayDo_101 rfl rfl ?_
            refine v_callV1 (q := 106) (As := [_]) hC dX12_mayDo_103 rfl lX12_177 mX12_isLate iX12_isLate eX12_isLate rfl (hL.1 53 (by decide)) (ct_X12_isLate (d + 1) hL hF hd hw hg) rfl rfl (by omega) rfl (Nat.le_of_ble_eq_true rfl) ?_
            refine v_if_ne (q := 109) (tgt := 113) hC dX12_mayDo_106 rfl (by decide) (fun h106 => ?_) (fun h106 => ?_)
            · refine v_iconst (q := 114) (v := 0) hC dX12_mayDo_113 rfl (by decide) ?_
              refine v_zreturn hC hB dX12_mayDo_114 ⟨Nat.le_refl _, Nat.le_refl _⟩ (by first | exact Or.inl rfl | exact Or.inr rfl | exact zb_01 _) ?_
              rw [pLf_eq hsy (show a < 6 by omega) (show b < 6 by omega) (show dN (F 0 g) < 6 by omega) e0]
              clear hB e0 e1 hsy
              generalize pFw (gvS kd kin met none none) (pSn kin) (some (dN (F 0 g))) a b = C at *
              generalize decide (nI w - F 3 g > nI (pTm kd t (dN (F 1 g)))) = J at *
              first | exact ⟨zbt (by simp_all [zb_eq0, zb_eq1]), rfl⟩ | exact ⟨zbf (by simp_all [zb_eq0, zb_eq1]), rfl⟩
            · refine v_iconst (q := 110) (v := 1) hC dX12_mayDo_109 rfl (by decide) ?_
              refine v_goto (q := 114) hC dX12_mayDo_110 (by decide) ?_
              refine v_zreturn hC hB dX12_mayDo_114 ⟨Nat.le_refl _, Nat.le_refl _⟩ (by first | exact Or.inl rfl | exact Or.inr rfl | exact zb_01 _) ?_
              rw [pLf_eq hsy (show a < 6 by omega) (show b < 6 by omega) (show dN (F 0 g) < 6 by omega) e0]
              clear hB e0 e1 hsy
              generalize pFw (gvS kd kin met none none) (pSn kin) (some (dN (F 0 g))) a b = C at *
              generalize decide (nI w - F 3 g > nI (pTm kd t (dN (F 1 g)))) = J at *
              first | exact ⟨zbt (by simp_all [zb_eq0, zb_eq1]), rfl⟩ | exact ⟨zbf (by simp_all [zb_eq0, zb_eq1]), rfl⟩
        · refine v_iconst (q := 92) (v := 1) hC dX12_mayDo_91 rfl (by decide) ?_
          refine v_goto (q := 96) hC dX12_mayDo_92 (by decide) ?_
          refine v_isub (q := 97) hC dX12_mayDo_96 rfl ?_
          refine v_icmp_lt (q := 100) (tgt := 113) hC dX12_mayDo_97 rfl (by decide) (fun h97 => ?_) (fun h97 => ?_)
          · refine v_iconst (q := 114) (v := 0) hC dX12_mayDo_113 rfl (by decide) ?_
            refine v_zreturn hC hB dX12_mayDo_114 ⟨Nat.le_refl _, Nat.le_refl _⟩ (by first | exact Or.inl rfl | exact Or.inr rfl | exact zb_01 _) ?_
            rw [pLf_eq hsy (show a < 6 by omega) (show b < 6 by omega) (show dN (F 0 g) < 6 by omega) e0]
            clear hB e0 e1 hsy
            generalize pFw (gvS kd kin met none none) (pSn kin) (some (dN (F 0 g))) a b = C at *
            generalize decide (nI w - F 3 g > nI (pTm kd t (dN (F 1 g)))) = J at *
            first | exact ⟨zbt (by simp_all [zb_eq0, zb_eq1]), rfl⟩ | exact ⟨zbf (by simp_all [zb_eq0, zb_eq1]), rfl⟩
          · refine v_aload_n (q := 101) hC dX12_mayDo_100 rfl rfl rfl ?_
            refine v_iload (q := 103) hC dX12_mayDo_101 rfl rfl ?_
            refine v_callV1 (q := 106) (As := [_]) hC dX12_mayDo_103 rfl lX12_177 mX12_isLate iX12_isLate eX12_isLate rfl (hL.1 53 (by decide)) (ct_X12_isLate (d + 1) hL hF hd hw hg) rfl rfl (by omega) rfl (Nat.le_of_ble_eq_true rfl) ?_
            refine v_if_ne (q := 109) (tgt := 113) hC dX12_mayDo_106 rfl (by decide) (fun h106 => ?_) (fun h106 => ?_)
            · refine v_iconst (q := 114) (v := 0) hC dX12_mayDo_113 rfl (by decide) ?_
              refine v_zreturn hC hB dX12_mayDo_114 ⟨Nat.le_refl _, Nat.le_refl _⟩ (by first | exact Or.inl rfl | exact Or.inr rfl | exact zb_01 _) ?_
              rw [pLf_eq hsy (show a < 6 by omega) (show b < 6 by omega) (show dN (F 0 g) < 6 by omega) e0]
              clear hB e0 e1 hsy
              generalize pFw (gvS kd kin met none none) (pSn kin) (some (dN (F 0 g))) a b = C at *
              generalize decide (nI w - F 3 g > nI (pTm kd t (dN (F 1 g)))) = J at *
              first | exact ⟨zbt (by simp_all [zb_eq0, zb_eq1]), rfl⟩ | exact ⟨zbf (by simp_all [zb_eq0, zb_eq1]), rfl⟩
            · refine v_iconst (q := 110) (v := 1) hC dX12_mayDo_109 rfl (by decide) ?_
              refine v_goto (q := 114) hC dX12_mayDo_110 (by decide) ?_
              refine v_zreturn hC hB dX12_mayDo_114 ⟨Nat.le_refl _, Nat.le_refl _⟩ (by first | exact Or.inl rfl | exact Or.inr rfl | exact zb_01 _) ?_
              rw [pLf_eq hsy (show a < 6 by omega) (show b < 6 by omega) (show dN (F 0 g) < 6 by omega) e0]
              clear hB e0 e1 hsy
              generalize pFw (gvS kd kin met none none) (pSn kin) (some (dN (F 0 g))) a b = C at *
              generalize decide (nI w - F 3 g > nI (pTm kd t (dN (F 1 g)))) = J at *
              first | exact ⟨zbt (by simp_all [zb_eq0, zb_eq1]), rfl⟩ | exact ⟨zbf (by simp_all [zb_eq0, zb_eq1]), rfl⟩
    · refine v_aload_n (q := 35) hC dX12_mayDo_34 rfl rfl rfl ?_
      refine v_iload (q := 37) hC dX12_mayDo_35 rfl rfl ?_
      refine v_callV1 (q := 40) (As := [_]) hC dX12_mayDo_37 rfl lX12_174 mX12_isOwed iX12_isOwed eX12_isOwed rfl (hL.1 53 (by decide)) (ct_X12_isOwed (d + 2) hL hd hg) rfl rfl (by omega) rfl (Nat.le_of_ble_eq_true rfl) ?_
      refine v_if_eq (q := 43) (tgt := 63) hC dX12_mayDo_40 rfl (by decide) (fun h40 => ?_) (fun h40 => ?_)
      · refine v_iconst (q := 64) (v := 0) hC dX12_mayDo_63 rfl (by decide) ?_
        refine v_istore (q := 66) (L' := [_, _, _, _, _, _, _]) hC dX12_mayDo_64 rfl (by decide) rfl rfl ?_
        show zV X 7 66 [some (.ref 53), some (.int (nI a)), some (.int (nI b)), some (.int price), some (.int (nI g)), some (.int (6 * nI g)), some (.int _)] [] 0 0 σ
        refine v_iload (q := 68) hC dX12_mayDo_66 rfl rfl ?_
        refine v_if_eq (q := 71) (tgt := 113) hC dX12_mayDo_68 rfl (by decide) (fun h68 => ?_) (fun h68 => ?_)
        · refine v_iconst (q := 114) (v := 0) hC dX12_mayDo_113 rfl (by decide) ?_
          refine v_zreturn hC hB dX12_mayDo_114 ⟨Nat.le_refl _, Nat.le_refl _⟩ (by first | exact Or.inl rfl | exact Or.inr rfl | exact zb_01 _) ?_
          rw [pLf_eq hsy (show a < 6 by omega) (show b < 6 by omega) (show dN (F 0 g) < 6 by omega) e0]
          clear hB e0 e1 hsy
          generalize pFw (gvS kd kin met none none) (pSn kin) (some (dN (F 0 g))) a b = C at *
          generalize decide (nI w - F 3 g > nI (pTm kd t (dN (F 1 g)))) = J at *
          first | exact ⟨zbt (by simp_all [zb_eq0, zb_eq1]), rfl⟩ | exact ⟨zbf (by simp_all [zb_eq0, zb_eq1]), rfl⟩
        · refine v_iload_n (q := 72) hC dX12_mayDo_71 rfl rfl rfl ?_
          refine v_aload_n (q := 73) hC dX12_mayDo_72 rfl rfl rfl ?_
          refine v_getR (q := 76) (r := 60) hC dX12_mayDo_73 rfl fX12_28 (hL.1 53 (by decide)) (hL.2 53 23 60 rfl) ?_
          refine v_iload (q := 78) hC dX12_mayDo_76 rfl rfl ?_
          refine v_iconst (q := 79) (v := 2) hC dX12_mayDo_78 rfl (by decide) ?_
          refine v_iadd (q := 80) hC dX12_mayDo_79 rfl ?_
          refine v_ialdN (q := 81) (j := 6 * g + 2) hC dX12_mayDo_80 rfl (hL.1 60 (by decide)) (z6' g 2) (by omega) (by decide) ?_
          rw [hd.2.2.2 2 g (by decide) hg]
          refine v_aload_n (q := 82) hC dX12_mayDo_81 rfl rfl rfl ?_
          refine v_getR (q := 85) (r := 59) hC dX12_mayDo_82 rfl fX12_25 (hL.1 53 (by decide)) (hL.2 53 17 59 rfl) ?_
          refine v_iload_n (q := 86) hC dX12_mayDo_85 rfl rfl rfl ?_
          refine v_ialdN (q := 87) (j := a) hC dX12_mayDo_86 rfl (hL.1 59 (by decide)) rfl (by omega) (by decide) ?_
          rw [eka]
          refine v_iconst (q := 88) (v := 2) hC dX12_mayDo_87 rfl (by decide) ?_
          refine v_icmp_ne (q := 91) (tgt := 95) hC dX12_mayDo_88 rfl (by decide) (fun h88 => ?_) (fun h88 => ?_)
          · refine v_iconst (q := 96) (v := 0) hC dX12_mayDo_95 rfl (by decide) ?_
            refine v_isub (q := 97) hC dX12_mayDo_96 rfl ?_
            refine v_icmp_lt (q := 100) (tgt := 113) hC dX12_mayDo_97 rfl (by decide) (fun h97 => ?_) (fun h97 => ?_)
            · refine v_iconst (q := 114) (v := 0) hC dX12_mayDo_113 rfl (by decide) ?_
              refine v_zreturn hC hB dX12_mayDo_114 ⟨Nat.le_refl _, Nat.le_refl _⟩ (by first | exact Or.inl rfl | exact Or.inr rfl | exact zb_01 _) ?_
              rw [pLf_eq hsy (show a < 6 by omega) (show b < 6 by omega) (show dN (F 0 g) < 6 by omega) e0]
              clear hB e0 e1 hsy
              generalize pFw (gvS kd kin met none none) (pSn kin) (some (dN (F 0 g))) a b = C at *
              generalize decide (nI w - F 3 g > nI (pTm kd t (dN (F 1 g)))) = J at *
              first | exact ⟨zbt (by simp_all [zb_eq0, zb_eq1]), rfl⟩ | exact ⟨zbf (by simp_all [zb_eq0, zb_eq1]), rfl⟩
            · refine v_aload_n (q := 101) hC dX12_mayDo_100 rfl rfl rfl ?_
              refine v_iload (q := 103) hC dX12_mayDo_101 rfl rfl ?_
              refine v_callV1 (q := 106) (As := [_]) hC dX12_mayDo_103 rfl lX12_177 mX12_isLate iX12_isLate eX12_isLate rfl (hL.1 53 (by decide)) (ct_X12_isLate (d + 1) hL hF hd hw hg) rfl rfl (by omega) rfl (Nat.le_of_ble_eq_true rfl) ?_
              refine v_if_ne (q := 109) (tgt := 113) hC dX12_mayDo_106 rfl (by decide) (fun h106 => ?_) (fun h106 => ?_)
              · refine v_iconst (q := 114) (v := 0) hC dX12_mayDo_113 rfl (by decide) ?_
                refine v_zreturn hC hB dX12_mayDo_114 ⟨Nat.le_refl _, Nat.le_refl _⟩ (by first | exact Or.inl rfl | exact Or.inr rfl | exact zb_01 _) ?_
                rw [pLf_eq hsy (show a < 6 by omega) (show b < 6 by omega) (show dN (F 0 g) < 6 by omega) e0]
                clear hB e0 e1 hsy
                generalize pFw (gvS kd kin met none none) (pSn kin) (some (dN (F 0 g))) a b = C at *
                generalize decide (nI w - F 3 g > nI (pTm kd t (dN (F 1 g)))) = J at *
                first | exact ⟨zbt (by simp_all [zb_eq0, zb_eq1]), rfl⟩ | exact ⟨zbf (by simp_all [zb_eq0, zb_eq1]), rfl⟩
              · refine v_iconst (q := 110) (v := 1) hC dX12_mayDo_109 rfl (by decide) ?_
                refine v_goto (q := 114) hC dX12_mayDo_110 (by decide) ?_
                refine v_zreturn hC hB dX12_mayDo_114 ⟨Nat.le_refl _, Nat.le_refl _⟩ (by first | exact Or.inl rfl | exact Or.inr rfl | exact zb_01 _) ?_
                rw [pLf_eq hsy (show a < 6 by omega) (show b < 6 by omega) (show dN (F 0 g) < 6 by omega) e0]
                clear hB e0 e1 hsy
                generalize pFw (gvS kd kin met none none) (pSn kin) (some (dN (F 0 g))) a b = C at *
                generalize decide (nI w - F 3 g > nI (pTm kd t (dN (F 1 g)))) = J at *
                first | exact ⟨zbt (by simp_all [zb_eq0, zb_eq1]), rfl⟩ | exact ⟨zbf (by simp_all [zb_eq0, zb_eq1]), rfl⟩
          · refine v_iconst (q := 92) (v := 1) hC dX12_mayDo_91 rfl (by decide) ?_
            refine v_goto (q := 96) hC dX12_mayDo_92 (by decide) ?_
            refine v_isub (q := 97) hC dX12_mayDo_96 rfl ?_
            refine v_icmp_lt (q := 100) (tgt := 113) hC dX12_mayDo_97 rfl (by decide) (fun h97 => ?_) (fun h97 => ?_)
            · refine v_iconst (q := 114) (v := 0) hC dX12_mayDo_113 rfl (by decide) ?_
              refine v_zreturn hC hB dX12_mayDo_114 ⟨Nat.le_refl _, Nat.le_refl _⟩ (by first | exact Or.inl rfl | exact Or.inr rfl | exact zb_01 _) ?_
              rw [pLf_eq hsy (show a < 6 by omega) (show b < 6 by omega) (show dN (F 0 g) < 6 by omega) e0]
              clear hB e0 e1 hsy
              generalize pFw (gvS kd kin met none none) (pSn kin) (some (dN (F 0 g))) a b = C at *
              generalize decide (nI w - F 3 g > nI (pTm kd t (dN (F 1 g)))) = J at *
              first | exact ⟨zbt (by simp_all [zb_eq0, zb_eq1]), rfl⟩ | exact ⟨zbf (by simp_all [zb_eq0, zb_eq1]), rfl⟩
            · refine v_aload_n (q := 101) hC dX12_mayDo_100 rfl rfl rfl ?_
              refine v_iload (q := 103) hC dX12_mayDo_101 rfl rfl ?_
              refine v_callV1 (q := 106) (As := [_]) hC dX12_mayDo_103 rfl lX12_177 mX12_isLate iX12_isLate eX12_isLate rfl (hL.1 53 (by decide)) (ct_X12_isLate (d + 1) hL hF hd hw hg) rfl rfl (by omega) rfl (Nat.le_of_ble_eq_true rfl) ?_
              refine v_if_ne (q := 109) (tgt := 113) hC dX12_mayDo_106 rfl (by decide) (fun h106 => ?_) (fun h106 => ?_)
              · refine v_iconst (q := 114) (v := 0) hC dX12_mayDo_113 rfl (by decide) ?_
                refine v_zreturn hC hB dX12_mayDo_114 ⟨Nat.le_refl _, Nat.le_refl _⟩ (by first | exact Or.inl rfl | exact Or.inr rfl | exact zb_01 _) ?_
                rw [pLf_eq hsy (show a < 6 by omega) (show b < 6 by omega) (show dN (F 0 g) < 6 by omega) e0]
                clear hB e0 e1 hsy
                generalize pFw (gvS kd kin met none none) (pSn kin) (some (dN (F 0 g))) a b = C at *
                generalize decide (nI w - F 3 g > nI (pTm kd t (dN (F 1 g)))) = J at *
                first | exact ⟨zbt (by simp_all [zb_eq0, zb_eq1]), rfl⟩ | exact ⟨zbf (by simp_all [zb_eq0, zb_eq1]), rfl⟩
              · refine v_iconst (q := 110) (v := 1) hC dX12_mayDo_109 rfl (by decide) ?_
                refine v_goto (q := 114) hC dX12_mayDo_110 (by decide) ?_
                refine v_zreturn hC hB dX12_mayDo_114 ⟨Nat.le_refl _, Nat.le_refl _⟩ (by first | exact Or.inl rfl | exact Or.inr rfl | exact zb_01 _) ?_
                rw [pLf_eq hsy (show a < 6 by omega) (show b < 6 by omega) (show dN (F 0 g) < 6 by omega) e0]
                clear hB e0 e1 hsy
                generalize pFw (gvS kd kin met none none) (pSn kin) (some (dN (F 0 g))) a b = C at *
                generalize decide (nI w - F 3 g > nI (pTm kd t (dN (F 1 g)))) = J at *
                first | exact ⟨zbt (by simp_all [zb_eq0, zb_eq1]), rfl⟩ | exact ⟨zbf (by simp_all [zb_eq0, zb_eq1]), rfl⟩
      · refine v_aload_n (q := 44) hC dX12_mayDo_43 rfl rfl rfl ?_
        refine v_aload_n (q := 45) hC dX12_mayDo_44 rfl rfl rfl ?_
        refine v_getR (q := 48) (r := 60) hC dX12_mayDo_45 rfl fX12_28 (hL.1 53 (by decide)) (hL.2 53 23 60 rfl) ?_
        refine v_iload (q := 50) hC dX12_mayDo_48 rfl rfl ?_
        refine v_ialdN (q := 51) (j := 6 * g) hC dX12_mayDo_50 rfl (hL.1 60 (by decide)) (by rw [show (6 : Int32) = nI 6 from rfl, pk_mul]) (by omega) (by decide) ?_
        rw [show zI σ 60 (6 * g) = zo (some (dN (F 0 g))) from (hd.2.2.2 0 g (by decide) hg).trans e0]
        refine v_iload_n (q := 52) hC dX12_mayDo_51 rfl rfl rfl ?_
        refine v_iload_n (q := 53) hC dX12_mayDo_52 rfl rfl rfl ?_
        refine v_callV1 (q := 56) (As := [_, _, _]) hC dX12_mayDo_53 rfl lX12_189 mX12_follows iX12_follows eX12_follows rfl (hL.1 53 (by decide)) (ct_X12_follows d hL hF hs (by simp) hsy (i := some (dN (F 0 g))) (fun q hq => by cases hq; exact l0) ha hb) rfl rfl (by omega) rfl (Nat.le_of_ble_eq_true rfl) ?_
        refine v_if_eq (q := 59) (tgt := 63) hC dX12_mayDo_56 rfl (by decide) (fun h56 => ?_) (fun h56 => ?_)
        · refine v_iconst (q := 64) (v := 0) hC dX12_mayDo_63 rfl (by decide) ?_
          refine v_istore (q := 66) (L' := [_, _, _, _, _, _, _]) hC dX12_mayDo_64 rfl (by decide) rfl rfl ?_
          show zV X 7 66 [some (.ref 53), some (.int (nI a)), some (.int (nI b)), some (.int price), some (.int (nI g)), some (.int (6 * nI g)), some (.int _)] [] 0 0 σ
          refine v_iload (q := 68) hC dX12_mayDo_66 rfl rfl ?_
          refine v_if_eq (q := 71) (tgt := 113) hC dX12_mayDo_68 rfl (by decide) (fun h68 => ?_) (fun h68 => ?_)
          · refine v_iconst (q := 114) (v := 0) hC dX12_mayDo_113 rfl (by decide) ?_
            refine v_zreturn hC hB dX12_mayDo_114 ⟨Nat.le_refl _, Nat.le_refl _⟩ (by first | exact Or.inl rfl | exact Or.inr rfl | exact zb_01 _) ?_
            rw [pLf_eq hsy (show a < 6 by omega) (show b < 6 by omega) (show dN (F 0 g) < 6 by omega) e0]
            clear hB e0 e1 hsy
            generalize pFw (gvS kd kin met none none) (pSn kin) (some (dN (F 0 g))) a b = C at *
            generalize decide (nI w - F 3 g > nI (pTm kd t (dN (F 1 g)))) = J at *
            first | exact ⟨zbt (by simp_all [zb_eq0, zb_eq1]), rfl⟩ | exact ⟨zbf (by simp_all [zb_eq0, zb_eq1]), rfl⟩
          · refine v_iload_n (q := 72) hC dX12_mayDo_71 rfl rfl rfl ?_
            refine v_aload_n (q := 73) hC dX12_mayDo_72 rfl rfl rfl ?_
            refine v_getR (q := 76) (r := 60) hC dX12_mayDo_73 rfl fX12_28 (hL.1 53 (by decide)) (hL.2 53 23 60 rfl) ?_
            refine v_iload (q := 78) hC dX12_mayDo_76 rfl rfl ?_
            refine v_iconst (q := 79) (v := 2) hC dX12_mayDo_78 rfl (by decide) ?_
            refine v_iadd (q := 80) hC dX12_mayDo_79 rfl ?_
            refine v_ialdN (q := 81) (j := 6 * g + 2) hC dX12_mayDo_80 rfl (hL.1 60 (by decide)) (z6' g 2) (by omega) (by decide) ?_
            rw [hd.2.2.2 2 g (by decide) hg]
            refine v_aload_n (q := 82) hC dX12_mayDo_81 rfl rfl rfl ?_
            refine v_getR (q := 85) (r := 59) hC dX12_mayDo_82 rfl fX12_25 (hL.1 53 (by decide)) (hL.2 53 17 59 rfl) ?_
            refine v_iload_n (q := 86) hC dX12_mayDo_85 rfl rfl rfl ?_
            refine v_ialdN (q := 87) (j := a) hC dX12_mayDo_86 rfl (hL.1 59 (by decide)) rfl (by omega) (by decide) ?_
            rw [eka]
            refine v_iconst (q := 88) (v := 2) hC dX12_mayDo_87 rfl (by decide) ?_
            refine v_icmp_ne (q := 91) (tgt := 95) hC dX12_mayDo_88 rfl (by decide) (fun h88 => ?_) (fun h88 => ?_)
            · refine v_iconst (q := 96) (v := 0) hC dX12_mayDo_95 rfl (by decide) ?_
              refine v_isub (q := 97) hC dX12_mayDo_96 rfl ?_
              refine v_icmp_lt (q := 100) (tgt := 113) hC dX12_mayDo_97 rfl (by decide) (fun h97 => ?_) (fun h97 => ?_)
              · refine v_iconst (q := 114) (v := 0) hC dX12_mayDo_113 rfl (by decide) ?_
                refine v_zreturn hC hB dX12_mayDo_114 ⟨Nat.le_refl _, Nat.le_refl _⟩ (by first | exact Or.inl rfl | exact Or.inr rfl | exact zb_01 _) ?_
                rw [pLf_eq hsy (show a < 6 by omega) (show b < 6 by omega) (show dN (F 0 g) < 6 by omega) e0]
                clear hB e0 e1 hsy
                generalize pFw (gvS kd kin met none none) (pSn kin) (some (dN (F 0 g))) a b = C at *
                generalize decide (nI w - F 3 g > nI (pTm kd t (dN (F 1 g)))) = J at *
                first | exact ⟨zbt (by simp_all [zb_eq0, zb_eq1]), rfl⟩ | exact ⟨zbf (by simp_all [zb_eq0, zb_eq1]), rfl⟩
              · refine v_aload_n (q := 101) hC dX12_mayDo_100 rfl rfl rfl ?_
                refine v_iload (q := 103) hC dX12_mayDo_101 rfl rfl ?_
                refine v_callV1 (q := 106) (As := [_]) hC dX12_mayDo_103 rfl lX12_177 mX12_isLate iX12_isLate eX12_isLate rfl (hL.1 53 (by decide)) (ct_X12_isLate (d + 1) hL hF hd hw hg) rfl rfl (by omega) rfl (Nat.le_of_ble_eq_true rfl) ?_
                refine v_if_ne (q := 109) (tgt := 113) hC dX12_mayDo_106 rfl (by decide) (fun h106 => ?_) (fun h106 => ?_)
                · refine v_iconst (q := 114) (v := 0) hC dX12_mayDo_113 rfl (by decide) ?_
                  refine v_zreturn hC hB dX12_mayDo_114 ⟨Nat.le_refl _, Nat.le_refl _⟩ (by first | exact Or.inl rfl | exact Or.inr rfl | exact zb_01 _) ?_
                  rw [pLf_eq hsy (show a < 6 by omega) (show b < 6 by omega) (show dN (F 0 g) < 6 by omega) e0]
                  clear hB e0 e1 hsy
                  generalize pFw (gvS kd kin met none none) (pSn kin) (some (dN (F 0 g))) a b = C at *
                  generalize decide (nI w - F 3 g > nI (pTm kd t (dN (F 1 g)))) = J at *
                  first | exact ⟨zbt (by simp_all [zb_eq0, zb_eq1]), rfl⟩ | exact ⟨zbf (by simp_all [zb_eq0, zb_eq1]), rfl⟩
                · refine v_iconst (q := 110) (v := 1) hC dX12_mayDo_109 rfl (by decide) ?_
                  refine v_goto (q := 114) hC dX12_mayDo_110 (by decide) ?_
                  refine v_zreturn hC hB dX12_mayDo_114 ⟨Nat.le_refl _, Nat.le_refl _⟩ (by first | exact Or.inl rfl | exact Or.inr rfl | exact zb_01 _) ?_
                  rw [pLf_eq hsy (show a < 6 by omega) (show b < 6 by omega) (show dN (F 0 g) < 6 by omega) e0]
                  clear hB e0 e1 hsy
                  generalize pFw (gvS kd kin met none none) (pSn kin) (some (dN (F 0 g))) a b = C at *
                  generalize decide (nI w - F 3 g > nI (pTm kd t (dN (F 1 g)))) = J at *
                  first | exact ⟨zbt (by simp_all [zb_eq0, zb_eq1]), rfl⟩ | exact ⟨zbf (by simp_all [zb_eq0, zb_eq1]), rfl⟩
            · refine v_iconst (q := 92) (v := 1) hC dX12_mayDo_91 rfl (by decide) ?_
              refine v_goto (q := 96) hC dX12_mayDo_92 (by decide) ?_
              refine v_isub (q := 97) hC dX12_mayDo_96 rfl ?_
              refine v_icmp_lt (q := 100) (tgt := 113) hC dX12_mayDo_97 rfl (by decide) (fun h97 => ?_) (fun h97 => ?_)
              · refine v_iconst (q := 114) (v := 0) hC dX12_mayDo_113 rfl (by decide) ?_
                refine v_zreturn hC hB dX12_mayDo_114 ⟨Nat.le_refl _, Nat.le_refl _⟩ (by first | exact Or.inl rfl | exact Or.inr rfl | exact zb_01 _) ?_
                rw [pLf_eq hsy (show a < 6 by omega) (show b < 6 by omega) (show dN (F 0 g) < 6 by omega) e0]
                clear hB e0 e1 hsy
                generalize pFw (gvS kd kin met none none) (pSn kin) (some (dN (F 0 g))) a b = C at *
                generalize decide (nI w - F 3 g > nI (pTm kd t (dN (F 1 g)))) = J at *
                first | exact ⟨zbt (by simp_all [zb_eq0, zb_eq1]), rfl⟩ | exact ⟨zbf (by simp_all [zb_eq0, zb_eq1]), rfl⟩
              · refine v_aload_n (q := 101) hC dX12_mayDo_100 rfl rfl rfl ?_
                refine v_iload (q := 103) hC dX12_mayDo_101 rfl rfl ?_
                refine v_callV1 (q := 106) (As := [_]) hC dX12_mayDo_103 rfl lX12_177 mX12_isLate iX12_isLate eX12_isLate rfl (hL.1 53 (by decide)) (ct_X12_isLate (d + 1) hL hF hd hw hg) rfl rfl (by omega) rfl (Nat.le_of_ble_eq_true rfl) ?_
                refine v_if_ne (q := 109) (tgt := 113) hC dX12_mayDo_106 rfl (by decide) (fun h106 => ?_) (fun h106 => ?_)
                · refine v_iconst (q := 114) (v := 0) hC dX12_mayDo_113 rfl (by decide) ?_
                  refine v_zreturn hC hB dX12_mayDo_114 ⟨Nat.le_refl _, Nat.le_refl _⟩ (by first | exact Or.inl rfl | exact Or.inr rfl | exact zb_01 _) ?_
                  rw [pLf_eq hsy (show a < 6 by omega) (show b < 6 by omega) (show dN (F 0 g) < 6 by omega) e0]
                  clear hB e0 e1 hsy
                  generalize pFw (gvS kd kin met none none) (pSn kin) (some (dN (F 0 g))) a b = C at *
                  generalize decide (nI w - F 3 g > nI (pTm kd t (dN (F 1 g)))) = J at *
                  first | exact ⟨zbt (by simp_all [zb_eq0, zb_eq1]), rfl⟩ | exact ⟨zbf (by simp_all [zb_eq0, zb_eq1]), rfl⟩
                · refine v_iconst (q := 110) (v := 1) hC dX12_mayDo_109 rfl (by decide) ?_
                  refine v_goto (q := 114) hC dX12_mayDo_110 (by decide) ?_
                  refine v_zreturn hC hB dX12_mayDo_114 ⟨Nat.le_refl _, Nat.le_refl _⟩ (by first | exact Or.inl rfl | exact Or.inr rfl | exact zb_01 _) ?_
                  rw [pLf_eq hsy (show a < 6 by omega) (show b < 6 by omega) (show dN (F 0 g) < 6 by omega) e0]
                  clear hB e0 e1 hsy
                  generalize pFw (gvS kd kin met none none) (pSn kin) (some (dN (F 0 g))) a b = C at *
                  generalize decide (nI w - F 3 g > nI (pTm kd t (dN (F 1 g)))) = J at *
                  first | exact ⟨zbt (by simp_all [zb_eq0, zb_eq1]), rfl⟩ | exact ⟨zbf (by simp_all [zb_eq0, zb_eq1]), rfl⟩
        · refine v_iconst (q := 60) (v := 1) hC dX12_mayDo_59 rfl (by decide) ?_
          refine v_goto (q := 64) hC dX12_mayDo_60 (by decide) ?_
          refine v_istore (q := 66) (L' := [_, _, _, _, _, _, _]) hC dX12_mayDo_64 rfl (by decide) rfl rfl ?_
          show zV X 7 66 [some (.ref 53), some (.int (nI a)), some (.int (nI b)), some (.int price), some (.int (nI g)), some (.int (6 * nI g)), some (.int _)] [] 0 0 σ
          refine v_iload (q := 68) hC dX12_mayDo_66 rfl rfl ?_
          refine v_if_eq (q := 71) (tgt := 113) hC dX12_mayDo_68 rfl (by decide) (fun h68 => ?_) (fun h68 => ?_)
          · refine v_iconst (q := 114) (v := 0) hC dX12_mayDo_113 rfl (by decide) ?_
            refine v_zreturn hC hB dX12_mayDo_114 ⟨Nat.le_refl _, Nat.le_refl _⟩ (by first | exact Or.inl rfl | exact Or.inr rfl | exact zb_01 _) ?_
            rw [pLf_eq hsy (show a < 6 by omega) (show b < 6 by omega) (show dN (F 0 g) < 6 by omega) e0]
            clear hB e0 e1 hsy
            generalize pFw (gvS kd kin met none none) (pSn kin) (some (dN (F 0 g))) a b = C at *
            generalize decide (nI w - F 3 g > nI (pTm kd t (dN (F 1 g)))) = J at *
            first | exact ⟨zbt (by simp_all [zb_eq0, zb_eq1]), rfl⟩ | exact ⟨zbf (by simp_all [zb_eq0, zb_eq1]), rfl⟩
          · refine v_iload_n (q := 72) hC dX12_mayDo_71 rfl rfl rfl ?_
            refine v_aload_n (q := 73) hC dX12_mayDo_72 rfl rfl rfl ?_
            refine v_getR (q := 76) (r := 60) hC dX12_mayDo_73 rfl fX12_28 (hL.1 53 (by decide)) (hL.2 53 23 60 rfl) ?_
            refine v_iload (q := 78) hC dX12_mayDo_76 rfl rfl ?_
            refine v_iconst (q := 79) (v := 2) hC dX12_mayDo_78 rfl (by decide) ?_
            refine v_iadd (q := 80) hC dX12_mayDo_79 rfl ?_
            refine v_ialdN (q := 81) (j := 6 * g + 2) hC dX12_mayDo_80 rfl (hL.1 60 (by decide)) (z6' g 2) (by omega) (by decide) ?_
            rw [hd.2.2.2 2 g (by decide) hg]
            refine v_aload_n (q := 82) hC dX12_mayDo_81 rfl rfl rfl ?_
            refine v_getR (q := 85) (r := 59) hC dX12_mayDo_82 rfl fX12_25 (hL.1 53 (by decide)) (hL.2 53 17 59 rfl) ?_
            refine v_iload_n (q := 86) hC dX12_mayDo_85 rfl rfl rfl ?_
            refine v_ialdN (q := 87) (j := a) hC dX12_mayDo_86 rfl (hL.1 59 (by decide)) rfl (by omega) (by decide) ?_
            rw [eka]
            refine v_iconst (q := 88) (v := 2) hC dX12_mayDo_87 rfl (by decide) ?_
            refine v_icmp_ne (q := 91) (tgt := 95) hC dX12_mayDo_88 rfl (by decide) (fun h88 => ?_) (fun h88 => ?_)
            · refine v_iconst (q := 96) (v := 0) hC dX12_mayDo_95 rfl (by decide) ?_
              refine v_isub (q := 97) hC dX12_mayDo_96 rfl ?_
              refine v_icmp_lt (q := 100) (tgt := 113) hC dX12_mayDo_97 rfl (by decide) (fun h97 => ?_) (fun h97 => ?_)
              · refine v_iconst (q := 114) (v := 0) hC dX12_mayDo_113 rfl (by decide) ?_
                refine v_zreturn hC hB dX12_mayDo_114 ⟨Nat.le_refl _, Nat.le_refl _⟩ (by first | exact Or.inl rfl | exact Or.inr rfl | exact zb_01 _) ?_
                rw [pLf_eq hsy (show a < 6 by omega) (show b < 6 by omega) (show dN (F 0 g) < 6 by omega) e0]
                clear hB e0 e1 hsy
                generalize pFw (gvS kd kin met none none) (pSn kin) (some (dN (F 0 g))) a b = C at *
                generalize decide (nI w - F 3 g > nI (pTm kd t (dN (F 1 g)))) = J at *
                first | exact ⟨zbt (by simp_all [zb_eq0, zb_eq1]), rfl⟩ | exact ⟨zbf (by simp_all [zb_eq0, zb_eq1]), rfl⟩
              · refine v_aload_n (q := 101) hC dX12_mayDo_100 rfl rfl rfl ?_
                refine v_iload (q := 103) hC dX12_mayDo_101 rfl rfl ?_
                refine v_callV1 (q := 106) (As := [_]) hC dX12_mayDo_103 rfl lX12_177 mX12_isLate iX12_isLate eX12_isLate rfl (hL.1 53 (by decide)) (ct_X12_isLate (d + 1) hL hF hd hw hg) rfl rfl (by omega) rfl (Nat.le_of_ble_eq_true rfl) ?_
                refine v_if_ne (q := 109) (tgt := 113) hC dX12_mayDo_106 rfl (by decide) (fun h106 => ?_) (fun h106 => ?_)
                · refine v_iconst (q := 114) (v := 0) hC dX12_mayDo_113 rfl (by decide) ?_
                  refine v_zreturn hC hB dX12_mayDo_114 ⟨Nat.le_refl _, Nat.le_refl _⟩ (by first | exact Or.inl rfl | exact Or.inr rfl | exact zb_01 _) ?_
                  rw [pLf_eq hsy (show a < 6 by omega) (show b < 6 by omega) (show dN (F 0 g) < 6 by omega) e0]
                  clear hB e0 e1 hsy
                  generalize pFw (gvS kd kin met none none) (pSn kin) (some (dN (F 0 g))) a b = C at *
                  generalize decide (nI w - F 3 g > nI (pTm kd t (dN (F 1 g)))) = J at *
                  first | exact ⟨zbt (by simp_all [zb_eq0, zb_eq1]), rfl⟩ | exact ⟨zbf (by simp_all [zb_eq0, zb_eq1]), rfl⟩
                · refine v_iconst (q := 110) (v := 1) hC dX12_mayDo_109 rfl (by decide) ?_
                  refine v_goto (q := 114) hC dX12_mayDo_110 (by decide) ?_
                  refine v_zreturn hC hB dX12_mayDo_114 ⟨Nat.le_refl _, Nat.le_refl _⟩ (by first | exact Or.inl rfl | exact Or.inr rfl | exact zb_01 _) ?_
                  rw [pLf_eq hsy (show a < 6 by omega) (show b < 6 by omega) (show dN (F 0 g) < 6 by omega) e0]
                  clear hB e0 e1 hsy
                  generalize pFw (gvS kd kin met none none) (pSn kin) (some (dN (F 0 g))) a b = C at *
                  generalize decide (nI w - F 3 g > nI (pTm kd t (dN (F 1 g)))) = J at *
                  first | exact ⟨zbt (by simp_all [zb_eq0, zb_eq1]), rfl⟩ | exact ⟨zbf (by simp_all [zb_eq0, zb_eq1]), rfl⟩
            · refine v_iconst (q := 92) (v := 1) hC dX12_mayDo_91 rfl (by decide) ?_
              refine v_goto (q := 96) hC dX12_mayDo_92 (by decide) ?_
              refine v_isub (q := 97) hC dX12_mayDo_96 rfl ?_
              refine v_icmp_lt (q := 100) (tgt := 113) hC dX12_mayDo_97 rfl (by decide) (fun h97 => ?_) (fun h97 => ?_)
              · refine v_iconst (q := 114) (v := 0) hC dX12_mayDo_113 rfl (by decide) ?_
                refine v_zreturn hC hB dX12_mayDo_114 ⟨Nat.le_refl _, Nat.le_refl _⟩ (by first | exact Or.inl rfl | exact Or.inr rfl | exact zb_01 _) ?_
                rw [pLf_eq hsy (show a < 6 by omega) (show b < 6 by omega) (show dN (F 0 g) < 6 by omega) e0]
                clear hB e0 e1 hsy
                generalize pFw (gvS kd kin met none none) (pSn kin) (some (dN (F 0 g))) a b = C at *
                generalize decide (nI w - F 3 g > nI (pTm kd t (dN (F 1 g)))) = J at *
                first | exact ⟨zbt (by simp_all [zb_eq0, zb_eq1]), rfl⟩ | exact ⟨zbf (by simp_all [zb_eq0, zb_eq1]), rfl⟩
              · refine v_aload_n (q := 101) hC dX12_mayDo_100 rfl rfl rfl ?_
                refine v_iload (q := 103) hC dX12_mayDo_101 rfl rfl ?_
                refine v_callV1 (q := 106) (As := [_]) hC dX12_mayDo_103 rfl lX12_177 mX12_isLate iX12_isLate eX12_isLate rfl (hL.1 53 (by decide)) (ct_X12_isLate (d + 1) hL hF hd hw hg) rfl rfl (by omega) rfl (Nat.le_of_ble_eq_true rfl) ?_
                refine v_if_ne (q := 109) (tgt := 113) hC dX12_mayDo_106 rfl (by decide) (fun h106 => ?_) (fun h106 => ?_)
                · refine v_iconst (q := 114) (v := 0) hC dX12_mayDo_113 rfl (by decide) ?_
                  refine v_zreturn hC hB dX12_mayDo_114 ⟨Nat.le_refl _, Nat.le_refl _⟩ (by first | exact Or.inl rfl | exact Or.inr rfl | exact zb_01 _) ?_
                  rw [pLf_eq hsy (show a < 6 by omega) (show b < 6 by omega) (show dN (F 0 g) < 6 by omega) e0]
                  clear hB e0 e1 hsy
                  generalize pFw (gvS kd kin met none none) (pSn kin) (some (dN (F 0 g))) a b = C at *
                  generalize decide (nI w - F 3 g > nI (pTm kd t (dN (F 1 g)))) = J at *
                  first | exact ⟨zbt (by simp_all [zb_eq0, zb_eq1]), rfl⟩ | exact ⟨zbf (by simp_all [zb_eq0, zb_eq1]), rfl⟩
                · refine v_iconst (q := 110) (v := 1) hC dX12_mayDo_109 rfl (by decide) ?_
                  refine v_goto (q := 114) hC dX12_mayDo_110 (by decide) ?_
                  refine v_zreturn hC hB dX12_mayDo_114 ⟨Nat.le_refl _, Nat.le_refl _⟩ (by first | exact Or.inl rfl | exact Or.inr rfl | exact zb_01 _) ?_
                  rw [pLf_eq hsy (show a < 6 by omega) (show b < 6 by omega) (show dN (F 0 g) < 6 by omega) e0]
                  clear hB e0 e1 hsy
                  generalize pFw (gvS kd kin met none none) (pSn kin) (some (dN (F 0 g))) a b = C at *
                  generalize decide (nI w - F 3 g > nI (pTm kd t (dN (F 1 g)))) = J at *
                  first | exact ⟨zbt (by simp_all [zb_eq0, zb_eq1]), rfl⟩ | exact ⟨zbf (by simp_all [zb_eq0, zb_eq1]), rfl⟩
  · have e := c1.mp h3
    subst e
    refine v_aload_n (q := 7) hC dX12_mayDo_6 rfl rfl rfl ?_
    refine v_iconst (q := 8) (v := -1) hC dX12_mayDo_7 rfl (by decide) ?_
    refine v_iload_n (q := 9) hC dX12_mayDo_8 rfl rfl rfl ?_
    refine v_iload_n (q := 10) hC dX12_mayDo_9 rfl rfl rfl ?_
    refine v_callV1 (q := 13) (As := [_, _, _]) hC dX12_mayDo_10 rfl lX12_189 mX12_follows iX12_follows eX12_follows rfl (hL.1 53 (by decide)) (ct_X12_follows d hL hF hs (by simp) hsy (i := none) (by simp) ha hb) rfl rfl (by omega) rfl (Nat.le_of_ble_eq_true rfl) ?_
    refine v_zreturn hC hB dX12_mayDo_13 ⟨Nat.le_refl _, Nat.le_refl _⟩ (by first | exact Or.inl rfl | exact Or.inr rfl | exact zb_01 _) ?_
    have e : pLf kd kin met t F w a b price none = pFw (gvS kd kin met none none) (pSn kin) none a b := by simp [pLf, pFw, gvS_0, pGv]
    rw [e]
    exact ⟨rfl, rfl⟩

