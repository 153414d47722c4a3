/-! ===== the model: fits, sure, digest ===== -/
set_option maxRecDepth 100000 in
set_option maxHeartbeats 4000000 in
theorem md_fits (d : Nat) {σ : zSt} {S : pS} {B : Nat} (h : zMd σ S) (ok : pOk B S) : zCt (d + 5) MX12_fits [.ref 53] σ (zQs zMd zFm σ (sFits S)) := by
  refine zCt.of (L := [some (.ref 53)]) (by decide) (Nat.le_of_ble_eq_true rfl) rfl (fun X hC hB => ?_)
  have hC : zC X RX12 cX12_fits 1 (d + 5) 0 0 := hC
  have hB : zB X (some .int) 0 0 "fits" σ _ := hB
  show zV X 1 0 [some (.ref 53)] [] 0 0 σ
  have h0 := h
  obtain ⟨hL, hp, hF, hd, hs, hk, hy, he⟩ := h
  obtain ⟨oB, oq, ow, oqt, ot, okm, omm, oq0, oL, oD, okr, okp, oK, osym, okp6, okd⟩ := ok
  have hn6 := hF.2.1
  have hm12 := hd.2.1
  have hsy : ∀ a b, a < 6 → b < 6 → qKin S a b = qKin S b a := fun a b ha hb => (osym a b ha hb).1
  refine v_aload_n (q := 1) hC dX12_fits_0 rfl rfl rfl ?_
  refine v_callVQ (q := 4) (As := []) hC dX12_fits_1 rfl lX12_244 mX12_layFits iX12_layFits eX12_layFits rfl (hL.1 53 (by decide)) (ct_X12_layFits d hL hF hs hsy hy) rfl rfl (by omega) (by decide) (Nat.le_of_ble_eq_true rfl) ?_
  rintro _ σ1 ⟨rfl, hS, hB9⟩
  refine v_ireturn hC hB dX12_fits_4 ⟨Nat.le_refl _, Nat.le_refl _⟩ ?_
  exact zQs.mk (S' := S) (by unfold sFits pFit; rw [pDf_ft hn6 oD]) ⟨hS.lay hL, hp.sm hS rfl rfl, hF.sm hS rfl rfl, hd.sm hS rfl rfl, hs.sm hS rfl, hk.sm hS rfl, hy.sm hS rfl rfl, he.sm hS rfl rfl⟩ (hS.fm rfl)

theorem zsu : ∀ mm : Fin 64, ∀ p : Fin 6, (nI mm.1 = (1 : Int32) <<< (nI p.1 &&& 31)) ↔ mm.1 = 2 ^ p.1 := by decide +kernel
theorem zso : ∀ mm : Fin 64, pOnly (fun b => mm.1.testBit b) 6 = pFst (fun p => decide (mm.1 = 2 ^ p)) 6 := by decide +kernel
theorem pFst_ext {P : Nat → Bool} {n : Nat} : ∀ (k : Nat), (∀ d, n ≤ d → d < n + k → P d = false) → pFst P (n + k) = pFst P n
  | 0, _ => rfl
  | k + 1, h => by
    have h1 := h (n + k) (by omega) (by omega)
    have h2 := pFst_ext k (fun d h1 h2 => h d h1 (by omega))
    show pFst P (n + k + 1) = _
    simp only [pFst, h2, h1]
    cases pFst P n <;> rfl
theorem pCnt_ext2 {P : Nat → Bool} {n : Nat} : ∀ (k : Nat), (∀ d, n ≤ d → d < n + k → P d = false) → pCnt P (n + k) = pCnt P n
  | 0, _ => rfl
  | k + 1, h => by
    have h1 := h (n + k) (by omega) (by omega)
    have h2 := pCnt_ext2 k (fun d h1 h2 => h d h1 (by omega))
    show pCnt P (n + k + 1) = _
    simp [pCnt, h1, h2]
theorem pOnly_six {P T : Nat → Bool} {n : Nat} (hn : n ≤ 6) (h1 : ∀ b, b < n → T b = P b) (h2 : ∀ b, n ≤ b → b < 6 → T b = false) : pOnly P n = pOnly T 6 := by
  have e1 := pCnt_ext2 (P := T) (n := n) (6 - n) (fun d h3 h4 => h2 d h3 (by omega))
  have e2 := pFst_ext (P := T) (n := n) (6 - n) (fun d h3 h4 => h2 d h3 (by omega))
  rw [show n + (6 - n) = 6 by omega] at e1 e2
  unfold pOnly
  rw [e1, e2, pCnt_congr h1, pFst_congr h1]

set_option maxRecDepth 100000 in
set_option maxHeartbeats 4000000 in
theorem md_sure (d : Nat) {σ : zSt} {S : pS} {B : Nat} (h : zMd σ S) (ok : pOk B S) (q : Int32) : zCt (d + 5) MX12_sure [.ref 53, .int q] σ (zQs zMd zFm σ (sSure S q)) := by
  refine zCt.of (L := [some (.ref 53), some (.int q), none, none]) (by decide) (Nat.le_of_ble_eq_true rfl) rfl (fun X hC hB => ?_)
  have hC : zC X RX12 cX12_sure 4 (d + 5) 0 0 := hC
  have hB : zB X (some .int) 0 0 "sure" σ _ := hB
  show zV X 4 0 [some (.ref 53), some (.int q), none, none] [] 0 0 σ
  have h0 := h
  obtain ⟨hL, hp, hF, hd, hs, hk, hy, he⟩ := h
  obtain ⟨oB, oq, ow, oqt, ot, okm, omm, oq0, oL, oD, okr, okp, oK, osym, okp6, okd⟩ := ok
  have hn6 := hF.2.1
  have hm12 := hd.2.1
  have hsy : ∀ a b, a < 6 → b < 6 → qKin S a b = qKin S b a := fun a b ha hb => (osym a b ha hb).1
  have hdl := hy.2.1
  have hpg := hp
  refine v_iload_n (q := 1) hC dX12_sure_0 rfl rfl rfl ?_
  refine v_i2l (q := 2) hC dX12_sure_1 rfl ?_
  refine v_lconst (q := 3) (v := 0) hC dX12_sure_2 rfl (by decide) ?_
  refine v_aload_n (q := 4) hC dX12_sure_3 rfl rfl rfl ?_
  refine v_getI (q := 7) hC dX12_sure_4 rfl fX12_132 (hL.1 53 (by decide)) ?_
  rw [hy.1]
  refine v_iconst (q := 8) (v := 1) hC dX12_sure_7 rfl (by decide) ?_
  refine v_isub (q := 9) hC dX12_sure_8 rfl ?_
  refine v_i2l (q := 10) hC dX12_sure_9 rfl ?_
  refine v_callS1 (q := 13) (As := [_, _, _]) hC dX12_sure_10 rfl lX12_70 mX12_in sX12_in (ct_X12_inI (d + 4) q 0 (nI (qDl S) - 1)) rfl rfl (by omega) rfl (Nat.le_of_ble_eq_true rfl) ?_
  rw [zinN q (by omega)]
  refine v_if_ne (q := 16) (tgt := 19) hC dX12_sure_13 rfl (by decide) (fun h13 => ?_) (fun h13 => ?_)
  · have hz := zb_ne h13
    obtain ⟨q, hq, rfl⟩ := zval_of (by omega) hz
    refine v_aload_n (q := 20) hC dX12_sure_19 rfl rfl rfl ?_
    refine v_callVQ (q := 23) (As := []) hC dX12_sure_20 rfl lX12_244 mX12_layFits iX12_layFits eX12_layFits rfl (hL.1 53 (by decide)) (ct_X12_layFits d hL hF hs hsy hy) rfl rfl (by omega) (by decide) (Nat.le_of_ble_eq_true rfl) ?_
    rintro _ σ1 ⟨rfl, hS, hB9⟩
    have hL1 := hS.lay hL
    obtain ⟨mm, hmm, emm, hbit⟩ := hB9 q hq
    have eS : sSure S (nI q) = (zo (pFst (fun p => decide (mm = 2 ^ p)) 6), S) := by
      unfold sSure
      rw [if_pos hz, dN_nI (by omega), pOnly_six (T := fun b => mm.testBit b) hn6 (fun b hb => by rw [hbit b (by omega)]; exact pDe_on hn6 oD hq hb) (fun b h1 h2 => by rw [hbit b h2]; exact pDe_hi h1 _ 0 _ (Nat.zero_le q) (by omega))]
      have := zso ⟨mm, hmm⟩
      dsimp only at this
      rw [this]
    refine v_istore_n (q := 24) (L' := [_, _, _, _]) hC dX12_sure_23 rfl rfl (by decide) rfl rfl ?_
    refine v_iconst (q := 25) (v := 0) hC dX12_sure_24 rfl (by decide) ?_
    refine v_istore_n (q := 26) (L' := [_, _, _, _]) hC dX12_sure_25 rfl rfl (by decide) rfl rfl ?_
    generalize nI (pDf _ _ _ _ _ _ _) = y2
    have lp : ∀ (r : Nat) (p : Nat), p + r = 6 → pFst (fun p => decide (mm = 2 ^ p)) p = none → zV X 4 26 [some (.ref 53), some (.int (nI q)), some (.int y2), some (.int (nI p))] [] 0 0 σ1 := by
      intro r
      induction r with
      | zero =>
        intro p hp hno
        refine v_iload_n (q := 27) hC dX12_sure_26 rfl rfl rfl ?_
        refine v_bipush (q := 29) (v := 6) hC dX12_sure_27 rfl (by decide) ?_
        refine v_icmp_ge (q := 32) (tgt := 52) hC dX12_sure_29 rfl (by decide) (fun h29 => ?_) (fun h29 => ?_)
        · refine v_iconst (q := 53) (v := -1) hC dX12_sure_52 rfl (by decide) ?_
          refine v_ireturn hC hB dX12_sure_53 ⟨Nat.le_refl _, Nat.le_refl _⟩ ?_
          have e : p = 6 := by omega
          subst e
          exact zQs.mk (S' := S) (eS.trans (by rw [hno]; rfl)) ⟨hS.lay hL, hpg.sm hS rfl rfl, hF.sm hS rfl rfl, hd.sm hS rfl rfl, hs.sm hS rfl, hk.sm hS rfl, hy.sm hS rfl rfl, he.sm hS rfl rfl⟩ (hS.fm rfl)
        · exact absurd (nI_le (a := 6) (b := p) (by omega) (by omega)) h29
      | succ r ih =>
        intro p hp hno
        refine v_iload_n (q := 27) hC dX12_sure_26 rfl rfl rfl ?_
        refine v_bipush (q := 29) (v := 6) hC dX12_sure_27 rfl (by decide) ?_
        refine v_icmp_ge (q := 32) (tgt := 52) hC dX12_sure_29 rfl (by decide) (fun h29 => ?_) (fun h29 => ?_)
        · exact absurd h29 (nI_ge (a := p) (b := 6) (by omega) (by omega))
        · refine v_aload_n (q := 33) hC dX12_sure_32 rfl rfl rfl ?_
          refine v_getR (q := 36) (r := 67) hC dX12_sure_33 rfl fX12_49 (hL1.1 53 (by decide)) (hL1.2 53 31 67 rfl) ?_
          refine v_iload_n (q := 37) hC dX12_sure_36 rfl rfl rfl ?_
          refine v_ialdN (q := 38) (j := q) hC dX12_sure_37 rfl (hL1.1 67 (by decide)) rfl (by omega) (by decide) ?_
          rw [emm]
          refine v_iconst (q := 39) (v := 1) hC dX12_sure_38 rfl (by decide) ?_
          refine v_iload_n (q := 40) hC dX12_sure_39 rfl rfl rfl ?_
          refine v_ishl (q := 41) hC dX12_sure_40 rfl ?_
          have c41 := zsu ⟨mm, hmm⟩ ⟨p, by omega⟩
          dsimp only at c41
          refine v_icmp_ne (q := 44) (tgt := 46) hC dX12_sure_41 rfl (by decide) (fun h41 => ?_) (fun h41 => ?_)
          · refine v_iinc (q := 49) (v := 1) (L' := [_, _, _, _]) hC dX12_sure_46 rfl rfl (by decide) (by decide) rfl rfl ?_
            refine v_goto (q := 26) hC dX12_sure_49 (by decide) ?_
            rw [nI_1 p]
            exact ih (p + 1) (by omega) (pFst_f hno (decide_eq_false (fun z => h41 (c41.mpr z))))
          · refine v_iload_n (q := 45) hC dX12_sure_44 rfl rfl rfl ?_
            refine v_ireturn hC hB dX12_sure_45 ⟨Nat.le_refl _, Nat.le_refl _⟩ ?_
            exact zQs.mk (S' := S) (eS.trans (by rw [pFst_at hno (decide_eq_true (c41.mp h41)) (show p < 6 by omega)]; rfl)) ⟨hS.lay hL, hpg.sm hS rfl rfl, hF.sm hS rfl rfl, hd.sm hS rfl rfl, hs.sm hS rfl, hk.sm hS rfl, hy.sm hS rfl rfl, he.sm hS rfl rfl⟩ (hS.fm rfl)
    exact lp 6 0 (by omega) rfl
  · refine v_bipush (q := 18) (v := -101) hC dX12_sure_16 rfl (by decide) ?_
    refine v_ireturn hC hB dX12_sure_18 ⟨Nat.le_refl _, Nat.le_refl _⟩ ?_
    exact zQs.mk (if_neg (by rw [zb_eq0.mp h13]; simp)) h0 zFm.rf

theorem zMd.sm0 {cs : List Nat} {σ σ' : zSt} {S : pS} (h : zMd σ S) (hS : zSm cs [] σ σ') (h1 : zDis cs [54]) (h2 : zDis cs [57, 58, 59]) (h3 : zDis cs [60]) (h4 : zDis cs [65]) (h5 : zDis cs [69, 70]) : zMd σ' S := by
  obtain ⟨hL, hp, hF, hd, hs, hk, hy, he⟩ := h
  exact ⟨hS.lay hL, hp.sm hS h1 rfl, hF.sm hS h2 rfl, hd.sm hS h3 rfl, hs.sm hS rfl, hk.sm hS rfl, hy.sm hS h4 rfl, he.sm hS h5 rfl⟩
/-- the model in its digest -/
def zHh (σ : zSt) (S : pS) (h : Int64) (σ1 : zSt) : Prop := zMd σ1 S ∧ zFm σ σ1 ∧ zJ σ1 53 41 = h
theorem zFm.tr {σ σ1 σ2 : zSt} (h : zFm σ σ1) (h' : zFm σ1 σ2) : zFm σ σ2 := ⟨h'.1.trans h.1, fun c hc => (h'.2.1 c hc).trans (h.2.1 c hc), fun c hc => (h'.2.2.1 c hc).trans (h.2.2.1 c hc), h'.2.2.2.trans h.2.2.2⟩
theorem zFm_J {σ : zSt} {v : Int64} : zFm σ (zsJ σ 53 41 v) := ⟨rfl, fun _ _ => rfl, fun c hc => funext fun i => by rw [zJ_sJ, if_neg (by omega)], rfl⟩
theorem zMd_J {σ : zSt} {S : pS} {v : Int64} (h : zMd σ S) : zMd (zsJ σ 53 41 v) S := h
theorem zHh.say {σ σ1 : zSt} {S : pS} {h : Int64} (hh : zHh σ S h σ1) (x : Int32) : zHh σ S (pW h x) (zsJ σ1 53 41 (31 * zJ σ1 53 41 + x.toInt64)) := ⟨zMd_J hh.1, hh.2.1.tr zFm_J, by rw [zJ_sJ, if_pos ⟨rfl, rfl⟩, hh.2.2]; rfl⟩
theorem zHh.sm {cs : List Nat} {σ σ1 σ2 : zSt} {S : pS} {h : Int64} (hh : zHh σ S h σ1) (hS : zSm cs [] σ1 σ2) (h0 : (cs.all fun c => decide (53 ≤ c)) = true) (h1 : zDis cs [54]) (h2 : zDis cs [57, 58, 59]) (h3 : zDis cs [60]) (h4 : zDis cs [65]) (h5 : zDis cs [69, 70]) : zHh σ S h σ2 := ⟨hh.1.sm0 hS h1 h2 h3 h4 h5, hh.2.1.tr (hS.fm h0), by rw [hS.1.2.1]; exact hh.2.2⟩

set_option maxRecDepth 100000 in
set_option maxHeartbeats 4000000 in
theorem ct_X12_say (d : Nat) {σ : zSt} (hL : zLay σ) (v : Int64) : zEv (d + 0) MX12_say [.ref 53, .long v] σ none (zsJ σ 53 41 (31 * zJ σ 53 41 + v)) := by
  refine zCt.of (L := [some (.ref 53), some (.long v), none]) (by decide) (Nat.le_of_ble_eq_true rfl) rfl (fun X hC hB => ?_)
  have hC : zC X RX12 cX12_say 3 (d + 0) 0 0 := hC
  have hB : zB X none 0 0 "say" σ _ := hB
  show zV X 3 0 [some (.ref 53), some (.long v), none] [] 0 0 σ
  refine v_aload_n (q := 1) hC dX12_say_0 rfl rfl rfl ?_
  refine v_ldc2 (q := 4) hC dX12_say_1 rfl kX12_292 ?_
  refine v_aload_n (q := 5) hC dX12_say_4 rfl rfl rfl ?_
  refine v_getJ (q := 8) hC dX12_say_5 rfl fX12_294 (hL.1 53 (by decide)) ?_
  refine v_lmul (q := 9) hC dX12_say_8 rfl ?_
  refine v_lload_n (q := 10) hC dX12_say_9 rfl rfl rfl ?_
  refine v_ladd (q := 11) hC dX12_say_10 rfl ?_
  refine v_putJ (q := 14) hC dX12_say_11 rfl fX12_294 (hL.1 53 (by decide)) ?_
  refine v_return hC hB dX12_say_14 ⟨Nat.le_refl _, Nat.le_refl _⟩ ?_
  exact ⟨rfl, rfl⟩

set_option maxRecDepth 100000 in
set_option maxHeartbeats 4000000 in
theorem ct_X12_sayPerson (d : Nat) {σ0 σ : zSt} {S : pS} {B : Nat} (ok : pOk B S) {h0 : Int64} (hh : zHh σ0 S h0 σ) {a : Nat} (ha : a < qN S) : zCt (d + 4) MX12_sayPerson [.ref 53, .int (nI a)] σ (fun r σ' => r = none ∧ zHh σ0 S (pPer S a h0) σ') := by
  refine zCt.of (L := [some (.ref 53), some (.int (nI a)), none]) (by decide) (Nat.le_of_ble_eq_true rfl) rfl (fun X hC hB => ?_)
  have hC : zC X RX12 cX12_sayPerson 3 (d + 4) 0 0 := hC
  have hB : zB X none 0 0 "sayPerson" σ _ := hB
  show zV X 3 0 [some (.ref 53), some (.int (nI a)), none] [] 0 0 σ
  have ok0 := ok
  obtain ⟨oB, oq, ow, oqt, ot, okm, omm, oq0, oL, oD, okr, okp, oK, osym, okp6, okd⟩ := ok
  have hsy : ∀ a b, a < 6 → b < 6 → qKin S a b = qKin S b a := fun a b ha hb => (osym a b ha hb).1
  have hn6 := hh.1.2.2.1.2.1
  have eBt : ∀ b, b < qN S → ¬ b = a → (if qKin S a b then (3 : Int32) else if pKn (qKd S) (qKin S) (qMet S) a b then 2 else 0) = (sBetween S (nI a) (nI b)).1 := fun b hb hne => by
    unfold sBetween
    have e1 : pTwo S (nI a) (nI b) = true := by
      unfold pTwo
      rw [zval_nI (by omega), zval_nI (by omega), decide_eq_true ha, decide_eq_true hb, decide_eq_false (fun z => hne ((nI_eq (by omega) (by omega)).mp z).symm)]
      rfl
    rw [if_pos e1, dN_nI (by omega), dN_nI (by omega)]
    rfl
  have hPer : pPer S a h0 = pW (pW (pFold (gBt S a) (pFold (gAb S a) h0 6) (qN S)) (nI (pRng S a 2))) (nI (pRng S a 3)) := rfl
  rw [hPer] at hB
  generalize hH : pFold (gAb S a) h0 6 = H at hB
  have lpB : ∀ (r : Nat) (b : Nat) (σ1 : zSt), b + r = qN S → zHh σ0 S (pFold (gBt S a) H b) σ1 → zV X 3 27 [some (.ref 53), some (.int (nI a)), some (.int (nI b))] [] 0 0 σ1 := by
    intro r
    induction r with
    | zero =>
      intro b σ1 hb hh
      have hh0 := hh
      obtain ⟨hL1, hp1, hF1, hd1, hs1, hk1, hy1, he1⟩ := hh.1
      refine v_iload_n (q := 28) hC dX12_sayPerson_27 rfl rfl rfl ?_
      refine v_aload_n (q := 29) hC dX12_sayPerson_28 rfl rfl rfl ?_
      refine v_getI (q := 32) hC dX12_sayPerson_29 rfl fX12_126 (hL1.1 53 (by decide)) ?_
      rw [hF1.1]
      refine v_icmp_ge (q := 35) (tgt := 57) hC dX12_sayPerson_32 rfl (by decide) (fun h32 => ?_) (fun h32 => ?_)
      · refine v_aload_n (q := 58) hC dX12_sayPerson_57 rfl rfl rfl ?_
        refine v_aload_n (q := 59) hC dX12_sayPerson_58 rfl rfl rfl ?_
        refine v_iload_n (q := 60) hC dX12_sayPerson_59 rfl rfl rfl ?_
        refine v_iconst (q := 61) (v := 2) hC dX12_sayPerson_60 rfl (by decide) ?_
        refine v_callVQ (q := 64) (As := [_, _]) hC dX12_sayPerson_61 rfl lX12_238 mX12_ringsOf iX12_ringsOf eX12_ringsOf rfl (hL1.1 53 (by decide)) (ct_X12_ringsOf d hL1 hF1 hs1 hsy ha (len := 2) (by omega) (by omega)) rfl rfl (by omega) (by decide) (Nat.le_of_ble_eq_true rfl) ?_
        rintro _ σ2 ⟨rfl, hS2⟩
        have hh2 := hh0.sm hS2 rfl rfl rfl rfl rfl rfl
        have hL2 := hh2.1.1
        have hh3 := hh2.say (nI (pRng S a 2))
        refine v_i2l (q := 65) hC dX12_sayPerson_64 rfl ?_
        refine v_callV0 (q := 68) (As := [_]) hC dX12_sayPerson_65 rfl lX12_298 mX12_say iX12_say eX12_say rfl (hL2.1 53 (by decide)) (ct_X12_say (d + 3) hL2 _) rfl rfl (by omega) rfl (Nat.le_of_ble_eq_true rfl) ?_
        obtain ⟨hL3, -, hF3, -, hs3, -⟩ := hh3.1
        refine v_aload_n (q := 69) hC dX12_sayPerson_68 rfl rfl rfl ?_
        refine v_aload_n (q := 70) hC dX12_sayPerson_69 rfl rfl rfl ?_
        refine v_iload_n (q := 71) hC dX12_sayPerson_70 rfl rfl rfl ?_
        refine v_iconst (q := 72) (v := 3) hC dX12_sayPerson_71 rfl (by decide) ?_
        refine v_callVQ (q := 75) (As := [_, _]) hC dX12_sayPerson_72 rfl lX12_238 mX12_ringsOf iX12_ringsOf eX12_ringsOf rfl (hL3.1 53 (by decide)) (ct_X12_ringsOf d hL3 hF3 hs3 hsy ha (len := 3) (by omega) (by omega)) rfl rfl (by omega) (by decide) (Nat.le_of_ble_eq_true rfl) ?_
        rintro _ σ4 ⟨rfl, hS4⟩
        have hh4 := hh3.sm hS4 rfl rfl rfl rfl rfl rfl
        have hL4 := hh4.1.1
        refine v_i2l (q := 76) hC dX12_sayPerson_75 rfl ?_
        refine v_callV0 (q := 79) (As := [_]) hC dX12_sayPerson_76 rfl lX12_298 mX12_say iX12_say eX12_say rfl (hL4.1 53 (by decide)) (ct_X12_say (d + 3) hL4 _) rfl rfl (by omega) rfl (Nat.le_of_ble_eq_true rfl) ?_
        refine v_return hC hB dX12_sayPerson_79 ⟨Nat.le_refl _, Nat.le_refl _⟩ ?_
        have e : b = qN S := by omega
        subst e
        exact ⟨rfl, hh4.say (nI (pRng S a 3))⟩
      · exact absurd (nI_le (a := qN S) (b := b) (by omega) (by omega)) h32
    | succ r ih =>
      intro b σ1 hb hh
      have hh0 := hh
      obtain ⟨hL1, hp1, hF1, hd1, hs1, hk1, hy1, he1⟩ := hh.1
      refine v_iload_n (q := 28) hC dX12_sayPerson_27 rfl rfl rfl ?_
      refine v_aload_n (q := 29) hC dX12_sayPerson_28 rfl rfl rfl ?_
      refine v_getI (q := 32) hC dX12_sayPerson_29 rfl fX12_126 (hL1.1 53 (by decide)) ?_
      rw [hF1.1]
      refine v_icmp_ge (q := 35) (tgt := 57) hC dX12_sayPerson_32 rfl (by decide) (fun h32 => ?_) (fun h32 => ?_)
      · exact absurd h32 (nI_ge (a := b) (b := qN S) (by omega) (by omega))
      · have hbn : b < qN S := by omega
        refine v_iload_n (q := 36) hC dX12_sayPerson_35 rfl rfl rfl ?_
        refine v_iload_n (q := 37) hC dX12_sayPerson_36 rfl rfl rfl ?_
        have c37 : nI b = nI a ↔ b = a := nI_eq (by omega) (by omega)
        refine v_icmp_eq (q := 40) (tgt := 51) hC dX12_sayPerson_37 rfl (by decide) (fun h37 => ?_) (fun h37 => ?_)
        · refine v_iinc (q := 54) (v := 1) (L' := [_, _, _]) hC dX12_sayPerson_51 rfl rfl (by decide) (by decide) rfl rfl ?_
          refine v_goto (q := 27) hC dX12_sayPerson_54 (by decide) ?_
          rw [nI_1 b]
          first
            | (refine ih (b + 1) _ (by omega) ?_
               show zHh σ0 S (if b = a then _ else _) _
               rw [if_neg (fun z => h37 (c37.mpr z))]
               exact hh0.say _)
            | (refine ih (b + 1) _ (by omega) ?_
               show zHh σ0 S (if b = a then _ else _) _
               rw [if_pos (c37.mp h37)]
               exact hh0)
        · refine v_aload_n (q := 41) hC dX12_sayPerson_40 rfl rfl rfl ?_
          refine v_aload_n (q := 42) hC dX12_sayPerson_41 rfl rfl rfl ?_
          refine v_iload_n (q := 43) hC dX12_sayPerson_42 rfl rfl rfl ?_
          refine v_iload_n (q := 44) hC dX12_sayPerson_43 rfl rfl rfl ?_
          refine v_callV1 (q := 47) (As := [_, _]) hC dX12_sayPerson_44 rfl lX12_160 mX12_betweenOf iX12_betweenOf eX12_betweenOf rfl (hL1.1 53 (by decide)) (ct_X12_betweenOf (d + 1) hL1 hF1 hs1 ha hbn) rfl rfl (by omega) rfl (Nat.le_of_ble_eq_true rfl) ?_
          rw [eBt b hbn (fun z => h37 (c37.mpr z))]
          refine v_i2l (q := 48) hC dX12_sayPerson_47 rfl ?_
          refine v_callV0 (q := 51) (As := [_]) hC dX12_sayPerson_48 rfl lX12_298 mX12_say iX12_say eX12_say rfl (hL1.1 53 (by decide)) (ct_X12_say (d + 3) hL1 _) rfl rfl (by omega) rfl (Nat.le_of_ble_eq_true rfl) ?_
          refine v_iinc (q := 54) (v := 1) (L' := [_, _, _]) hC dX12_sayPerson_51 rfl rfl (by decide) (by decide) rfl rfl ?_
          refine v_goto (q := 27) hC dX12_sayPerson_54 (by decide) ?_
          rw [nI_1 b]
          first
            | (refine ih (b + 1) _ (by omega) ?_
               show zHh σ0 S (if b = a then _ else _) _
               rw [if_neg (fun z => h37 (c37.mpr z))]
               exact hh0.say _)
            | (refine ih (b + 1) _ (by omega) ?_
               show zHh σ0 S (if b = a then _ else _) _
               rw [if_pos (c37.mp h37)]
               exact hh0)
  have lpA : ∀ (r : Nat) (k : Nat) (σ1 : zSt), k + r = 6 → zHh σ0 S (pFold (gAb S a) h0 k) σ1 → zV X 3 2 [some (.ref 53), some (.int (nI a)), some (.int (nI k))] [] 0 0 σ1 := by
    intro r
    induction r with
    | zero =>
      intro k σ1 hk hh
      have hh0 := hh
      obtain ⟨hL1, hp1, hF1, hd1, hs1, hk1, hy1, he1⟩ := hh.1
      refine v_iload_n (q := 3) hC dX12_sayPerson_2 rfl rfl rfl ?_
      refine v_bipush (q := 5) (v := 6) hC dX12_sayPerson_3 rfl (by decide) ?_
      refine v_icmp_ge (q := 8) (tgt := 25) hC dX12_sayPerson_5 rfl (by decide) (fun h5 => ?_) (fun h5 => ?_)
      · refine v_iconst (q := 26) (v := 0) hC dX12_sayPerson_25 rfl (by decide) ?_
        refine v_istore_n (q := 27) (L' := [_, _, _]) hC dX12_sayPerson_26 rfl rfl (by decide) rfl rfl ?_
        have e : k = 6 := by omega
        subst e
        rw [hH] at hh0; exact lpB (qN S) 0 σ1 (by omega) hh0
      · exact absurd (nI_le (a := 6) (b := k) (by omega) (by omega)) h5
    | succ r ih =>
      intro k σ1 hk hh
      have hh0 := hh
      obtain ⟨hL1, hp1, hF1, hd1, hs1, hk1, hy1, he1⟩ := hh.1
      refine v_iload_n (q := 3) hC dX12_sayPerson_2 rfl rfl rfl ?_
      refine v_bipush (q := 5) (v := 6) hC dX12_sayPerson_3 rfl (by decide) ?_
      refine v_icmp_ge (q := 8) (tgt := 25) hC dX12_sayPerson_5 rfl (by decide) (fun h5 => ?_) (fun h5 => ?_)
      · exact absurd h5 (nI_ge (a := k) (b := 6) (by omega) (by omega))
      · refine v_aload_n (q := 9) hC dX12_sayPerson_8 rfl rfl rfl ?_
        refine v_aload_n (q := 10) hC dX12_sayPerson_9 rfl rfl rfl ?_
        refine v_iload_n (q := 11) hC dX12_sayPerson_10 rfl rfl rfl ?_
        refine v_iload_n (q := 12) hC dX12_sayPerson_11 rfl rfl rfl ?_
        refine v_callV1 (q := 15) (As := [_, _]) hC dX12_sayPerson_12 rfl lX12_183 mX12_tell iX12_tell eX12_tell rfl (hL1.1 53 (by decide)) (ct_X12_tellA d hh0.1 ok0 ha (nI k)) rfl rfl (by omega) rfl (Nat.le_of_ble_eq_true rfl) ?_
        refine v_i2l (q := 16) hC dX12_sayPerson_15 rfl ?_
        refine v_callV0 (q := 19) (As := [_]) hC dX12_sayPerson_16 rfl lX12_298 mX12_say iX12_say eX12_say rfl (hL1.1 53 (by decide)) (ct_X12_say (d + 3) hL1 _) rfl rfl (by omega) rfl (Nat.le_of_ble_eq_true rfl) ?_
        refine v_iinc (q := 22) (v := 1) (L' := [_, _, _]) hC dX12_sayPerson_19 rfl rfl (by decide) (by decide) rfl rfl ?_
        refine v_goto (q := 2) hC dX12_sayPerson_22 (by decide) ?_
        rw [nI_1 k]
        exact ih (k + 1) _ (by omega) (hh0.say _)
  refine v_iconst (q := 1) (v := 0) hC dX12_sayPerson_0 rfl (by decide) ?_
  refine v_istore_n (q := 2) (L' := [_, _, _]) hC dX12_sayPerson_1 rfl rfl (by decide) rfl rfl ?_
  exact lpA 6 0 σ (by omega) hh

set_option maxRecDepth 100000 in
set_option maxHeartbeats 4000000 in
theorem md_digest (d : Nat) {σ : zSt} {S : pS} {B : Nat} (h : zMd σ S) (ok : pOk B S) : zCt (d + 5) MX12_digest [.ref 53] σ (fun r σ' => r = some (.long (pDig S)) ∧ zMd σ' S ∧ zFm σ σ') := by
  refine zCt.of (L := [some (.ref 53), none, none]) (by decide) (Nat.le_of_ble_eq_true rfl) rfl (fun X hC hB => ?_)
  have hC : zC X RX12 cX12_digest 3 (d + 5) 0 0 := hC
  have hB : zB X (some .long) 0 0 "digest" σ _ := hB
  show zV X 3 0 [some (.ref 53), none, none] [] 0 0 σ
  have ok0 := ok
  have h00 := h
  have hn6 := h.2.2.1.2.1
  have hm12 := h.2.2.2.1.2.1
  have hl54 := h.2.1.2.1
  obtain ⟨oB, oq, ow, oqt, ot, okm, omm, oq0, oL, oD, okr, okp, oK, osym, okp6, okd⟩ := ok
  have hsy : ∀ a b, a < 6 → b < 6 → qKin S a b = qKin S b a := fun a b ha hb => (osym a b ha hb).1
  have gv0 : gvS (qKd S) (qKin S) (qMet S) none none = pGS S := funext fun a => funext fun b => gvS_0
  have hDig : pDig S = pFold (gCo S) (pFold (gPg S) (pW (pFold (pFav S) (pFold (pPer S) 743 (qN S)) (qM S)) (nI (pFit S))) (qPl S)) 11 := rfl
  rw [hDig] at hB
  generalize e1 : pFold (pPer S) 743 (qN S) = H1 at hB
  generalize e2 : pFold (pFav S) H1 (qM S) = H2 at hB
  generalize e3 : pW H2 (nI (pFit S)) = H3 at hB
  generalize e4 : pFold (gPg S) H3 (qPl S) = H4 at hB
  have hL := h.1
  have lp5 : ∀ (r : Nat) (k : Nat) (o2 : Option Value) (σ1 : zSt), k + r = 11 → zHh σ S (pFold (gCo S) H4 k) σ1 → zV X 3 125 [some (.ref 53), some (.int (nI k)), o2] [] 0 0 σ1 := by
    intro r
    induction r with
    | zero =>
      intro k o2 σ1 hk hh
      have hh0 := hh
      obtain ⟨hL1, hp1, hF1, hd1, hs1, hk1, hy1, he1⟩ := hh.1
      refine v_iload_n (q := 126) hC dX12_digest_125 rfl rfl rfl ?_
      refine v_bipush (q := 128) (v := 11) hC dX12_digest_126 rfl (by decide) ?_
      refine v_icmp_ge (q := 131) (tgt := 147) hC dX12_digest_128 rfl (by decide) (fun h128 => ?_) (fun h128 => ?_)
      · refine v_aload_n (q := 148) hC dX12_digest_147 rfl rfl rfl ?_
        refine v_getJ (q := 151) hC dX12_digest_148 rfl fX12_294 (hL1.1 53 (by decide)) ?_
        refine v_lreturn hC hB dX12_digest_151 ⟨Nat.le_refl _, Nat.le_refl _⟩ ?_
        have e : k = 11 := by omega
        subst e
        exact ⟨by rw [hh0.2.2], hh0.1, hh0.2.1⟩
      · exact absurd (nI_le (a := 11) (b := k) (by omega) (by omega)) h128
    | succ r ih =>
      intro k o2 σ1 hk hh
      have hh0 := hh
      obtain ⟨hL1, hp1, hF1, hd1, hs1, hk1, hy1, he1⟩ := hh.1
      refine v_iload_n (q := 126) hC dX12_digest_125 rfl rfl rfl ?_
      refine v_bipush (q := 128) (v := 11) hC dX12_digest_126 rfl (by decide) ?_
      refine v_icmp_ge (q := 131) (tgt := 147) hC dX12_digest_128 rfl (by decide) (fun h128 => ?_) (fun h128 => ?_)
      · exact absurd h128 (nI_ge (a := k) (b := 11) (by omega) (by omega))
      · refine v_aload_n (q := 132) hC dX12_digest_131 rfl rfl rfl ?_
        refine v_aload_n (q := 133) hC dX12_digest_132 rfl rfl rfl ?_
        refine v_iload_n (q := 134) hC dX12_digest_133 rfl rfl rfl ?_
        refine v_callV1 (q := 137) (As := [_]) hC dX12_digest_134 rfl lX12_289 mX12_countOf iX12_countOf eX12_countOf rfl (hL1.1 53 (by decide)) (ct_X12_countOf (d + 2) hh0.1 ok0 (nI k)) rfl rfl (by omega) rfl (Nat.le_of_ble_eq_true rfl) ?_
        refine v_i2l (q := 138) hC dX12_digest_137 rfl ?_
        refine v_callV0 (q := 141) (As := [_]) hC dX12_digest_138 rfl lX12_298 mX12_say iX12_say eX12_say rfl (hL1.1 53 (by decide)) (ct_X12_say (d + 4) hL1 _) rfl rfl (by omega) rfl (Nat.le_of_ble_eq_true rfl) ?_
        refine v_iinc (q := 144) (v := 1) (L' := [_, _, _]) hC dX12_digest_141 rfl rfl (by decide) (by decide) rfl rfl ?_
        refine v_goto (q := 125) hC dX12_digest_144 (by decide) ?_
        rw [nI_1 k]
        exact ih (k + 1) _ _ (by omega) (hh0.say _)
  have lp4 : ∀ (r : Nat) (k : Nat) (o2 : Option Value) (σ1 : zSt), k + r = qPl S → zHh σ S (pFold (gPg S) H3 k) σ1 → zV X 3 98 [some (.ref 53), some (.int (nI k)), o2] [] 0 0 σ1 := by
    intro r
    induction r with
    | zero =>
      intro k o2 σ1 hk hh
      have hh0 := hh
      obtain ⟨hL1, hp1, hF1, hd1, hs1, hk1, hy1, he1⟩ := hh.1
      refine v_iload_n (q := 99) hC dX12_digest_98 rfl rfl rfl ?_
      refine v_aload_n (q := 100) hC dX12_digest_99 rfl rfl rfl ?_
      refine v_getI (q := 103) hC dX12_digest_100 rfl fX12_74 (hL1.1 53 (by decide)) ?_
      rw [hp1.1]
      refine v_icmp_ge (q := 106) (tgt := 123) hC dX12_digest_103 rfl (by decide) (fun h103 => ?_) (fun h103 => ?_)
      · refine v_iconst (q := 124) (v := 0) hC dX12_digest_123 rfl (by decide) ?_
        refine v_istore_n (q := 125) (L' := [_, _, _]) hC dX12_digest_124 rfl rfl (by decide) rfl rfl ?_
        have e : k = qPl S := by omega
        subst e
        rw [e4] at hh0
        exact lp5 11 0 _ σ1 (by omega) hh0
      · exact absurd (nI_le (a := qPl S) (b := k) (by omega) (by omega)) h103
    | succ r ih =>
      intro k o2 σ1 hk hh
      have hh0 := hh
      obtain ⟨hL1, hp1, hF1, hd1, hs1, hk1, hy1, he1⟩ := hh.1
      refine v_iload_n (q := 99) hC dX12_digest_98 rfl rfl rfl ?_
      refine v_aload_n (q := 100) hC dX12_digest_99 rfl rfl rfl ?_
      refine v_getI (q := 103) hC dX12_digest_100 rfl fX12_74 (hL1.1 53 (by decide)) ?_
      rw [hp1.1]
      refine v_icmp_ge (q := 106) (tgt := 123) hC dX12_digest_103 rfl (by decide) (fun h103 => ?_) (fun h103 => ?_)
      · exact absurd h103 (nI_ge (a := k) (b := qPl S) (by omega) (by omega))
      · refine v_aload_n (q := 107) hC dX12_digest_106 rfl rfl rfl ?_
        refine v_aload_n (q := 108) hC dX12_digest_107 rfl rfl rfl ?_
        refine v_getR (q := 111) (r := 54) hC dX12_digest_108 rfl fX12_7 (hL1.1 53 (by decide)) (hL1.2 53 0 54 rfl) ?_
        refine v_iload_n (q := 112) hC dX12_digest_111 rfl rfl rfl ?_
        refine v_ialdN (q := 113) (j := k) hC dX12_digest_112 rfl (hL1.1 54 (by decide)) rfl (by omega) (by decide) ?_
        rw [hp1.2.2 k (by omega)]
        refine v_i2l (q := 114) hC dX12_digest_113 rfl ?_
        refine v_callV0 (q := 117) (As := [_]) hC dX12_digest_114 rfl lX12_298 mX12_say iX12_say eX12_say rfl (hL1.1 53 (by decide)) (ct_X12_say (d + 4) hL1 _) rfl rfl (by omega) rfl (Nat.le_of_ble_eq_true rfl) ?_
        refine v_iinc (q := 120) (v := 1) (L' := [_, _, _]) hC dX12_digest_117 rfl rfl (by decide) (by decide) rfl rfl ?_
        refine v_goto (q := 98) hC dX12_digest_120 (by decide) ?_
        rw [nI_1 k]
        exact ih (k + 1) _ _ (by omega) (hh0.say _)
  have lp2 : ∀ (rf : Nat) (f : Nat) (o2 : Option Value) (σ1 : zSt), f + rf = qM S → zHh σ S (pFold (pFav S) H1 f) σ1 → zV X 3 30 [some (.ref 53), some (.int (nI f)), o2] [] 0 0 σ1 := by
    intro rf
    induction rf with
    | zero =>
      intro f o2 σ1 hf hh
      have hh0 := hh
      obtain ⟨hL1, hp1, hF1, hd1, hs1, hk1, hy1, he1⟩ := hh.1
      refine v_iload_n (q := 31) hC dX12_digest_30 rfl rfl rfl ?_
      refine v_aload_n (q := 32) hC dX12_digest_31 rfl rfl rfl ?_
      refine v_getI (q := 35) hC dX12_digest_32 rfl fX12_129 (hL1.1 53 (by decide)) ?_
      rw [hd1.1]
      refine v_icmp_ge (q := 38) (tgt := 87) hC dX12_digest_35 rfl (by decide) (fun h35 => ?_) (fun h35 => ?_)
      · have e : f = qM S := by omega
        subst e
        rw [e2] at hh0
        refine v_aload_n (q := 88) hC dX12_digest_87 rfl rfl rfl ?_
        refine v_aload_n (q := 89) hC dX12_digest_88 rfl rfl rfl ?_
        refine v_callVQ (q := 92) (As := []) hC dX12_digest_89 rfl lX12_244 mX12_layFits iX12_layFits eX12_layFits rfl (hL1.1 53 (by decide)) (ct_X12_layFits d hL1 hF1 hs1 hsy hy1) rfl rfl (by omega) (by decide) (Nat.le_of_ble_eq_true rfl) ?_
        rintro _ σ2 ⟨rfl, hS2, -⟩
        rw [pDf_ft hF1.2.1 oD]
        have hh2 := hh0.sm hS2 rfl rfl rfl rfl rfl rfl
        have hL2 := hh2.1.1
        refine v_i2l (q := 93) hC dX12_digest_92 rfl ?_
        refine v_callV0 (q := 96) (As := [_]) hC dX12_digest_93 rfl lX12_298 mX12_say iX12_say eX12_say rfl (hL2.1 53 (by decide)) (ct_X12_say (d + 4) hL2 _) rfl rfl (by omega) rfl (Nat.le_of_ble_eq_true rfl) ?_
        refine v_iconst (q := 97) (v := 0) hC dX12_digest_96 rfl (by decide) ?_
        refine v_istore_n (q := 98) (L' := [_, _, _]) hC dX12_digest_97 rfl rfl (by decide) rfl rfl ?_
        have hh3 := hh2.say (nI (pFit S))
        rw [e3] at hh3
        exact lp4 (qPl S) 0 _ _ (by omega) hh3
      · exact absurd (nI_le (a := qM S) (b := f) (by omega) (by omega)) h35
    | succ rf ih =>
      intro f o2 σ1 hf hh
      have hh0 := hh
      obtain ⟨hL1, hp1, hF1, hd1, hs1, hk1, hy1, he1⟩ := hh.1
      refine v_iload_n (q := 31) hC dX12_digest_30 rfl rfl rfl ?_
      refine v_aload_n (q := 32) hC dX12_digest_31 rfl rfl rfl ?_
      refine v_getI (q := 35) hC dX12_digest_32 rfl fX12_129 (hL1.1 53 (by decide)) ?_
      rw [hd1.1]
      refine v_icmp_ge (q := 38) (tgt := 87) hC dX12_digest_35 rfl (by decide) (fun h35 => ?_) (fun h35 => ?_)
      · exact absurd h35 (nI_ge (a := f) (b := qM S) (by omega) (by omega))
      · refine v_iconst (q := 39) (v := 0) hC dX12_digest_38 rfl (by decide) ?_
        refine v_istore_n (q := 40) (L' := [_, _, _]) hC dX12_digest_39 rfl rfl (by decide) rfl rfl ?_
        have ihf := ih
        have hfm : f < qM S := by omega
        have lp3 : ∀ (r : Nat) (w : Nat) (σ1 : zSt), w + r = 8 → zHh σ S (pFold (gDd S f) (pFold (pFav S) H1 f) w) σ1 → zV X 3 40 [some (.ref 53), some (.int (nI f)), some (.int (nI w))] [] 0 0 σ1 := by
          intro r
          induction r with
          | zero =>
            intro w σ1 hw hh
            have hh0 := hh
            obtain ⟨hL1, hp1, hF1, hd1, hs1, hk1, hy1, he1⟩ := hh.1
            refine v_iload_n (q := 41) hC dX12_digest_40 rfl rfl rfl ?_
            refine v_bipush (q := 43) (v := 8) hC dX12_digest_41 rfl (by decide) ?_
            refine v_icmp_ge (q := 46) (tgt := 63) hC dX12_digest_43 rfl (by decide) (fun h43 => ?_) (fun h43 => ?_)
            · have e8 : w = 8 := by omega
              subst e8
              obtain ⟨e0, hi, e1, hh0_⟩ := pFn oL hF1.2.1 hfm
              refine v_aload_n (q := 64) hC dX12_digest_63 rfl rfl rfl ?_
              refine v_iload_n (q := 65) hC dX12_digest_64 rfl rfl rfl ?_
              refine v_callV1 (q := 68) (As := [_]) hC dX12_digest_65 rfl lX12_174 mX12_isOwed iX12_isOwed eX12_isOwed rfl (hL1.1 53 (by decide)) (ct_X12_isOwed (d + 4) hL1 hd1 hfm) rfl rfl (by omega) rfl (Nat.le_of_ble_eq_true rfl) ?_
              refine v_if_eq (q := 71) (tgt := 81) hC dX12_digest_68 rfl (by decide) (fun h68 => ?_) (fun h68 => ?_)
              · refine v_iinc (q := 84) (v := 1) (L' := [_, _, _]) hC dX12_digest_81 rfl rfl (by decide) (by decide) rfl rfl ?_
                refine v_goto (q := 30) hC dX12_digest_84 (by decide) ?_
                rw [nI_1 f]
                first
                  | (refine ihf (f + 1) _ _ (by omega) ?_
                     show zHh σ S (pFav S f _) _
                     unfold pFav
                     rw [if_pos (of_decide_eq_true (zb_ne h68))]
                     exact hh2.say _)
                  | (refine ihf (f + 1) _ _ (by omega) ?_
                     show zHh σ S (pFav S f _) _
                     unfold pFav
                     rw [if_neg (of_decide_eq_false (zb_eq0.mp h68))]
                     exact hh0)
              · refine v_aload_n (q := 72) hC dX12_digest_71 rfl rfl rfl ?_
                refine v_aload_n (q := 73) hC dX12_digest_72 rfl rfl rfl ?_
                refine v_iload_n (q := 74) hC dX12_digest_73 rfl rfl rfl ?_
                refine v_callVQ (q := 77) (As := [_]) hC dX12_digest_74 rfl lX12_231 mX12_reachOf iX12_reachOf eX12_reachOf rfl (hL1.1 53 (by decide)) (ct_X12_reachOf d hL1 hF1 hd1 hs1 (fun g hg => by cases hg) hsy hfm e0 e1 hi hh0_) rfl rfl (by omega) (by decide) (Nat.le_of_ble_eq_true rfl) ?_
                rintro _ σ2 ⟨rfl, hS2, -⟩
                rw [gv0]
                have hh2 := hh0.sm hS2 rfl rfl rfl rfl rfl rfl
                have hL2 := hh2.1.1
                refine v_i2l (q := 78) hC dX12_digest_77 rfl ?_
                refine v_callV0 (q := 81) (As := [_]) hC dX12_digest_78 rfl lX12_298 mX12_say iX12_say eX12_say rfl (hL2.1 53 (by decide)) (ct_X12_say (d + 4) hL2 _) rfl rfl (by omega) rfl (Nat.le_of_ble_eq_true rfl) ?_
                refine v_iinc (q := 84) (v := 1) (L' := [_, _, _]) hC dX12_digest_81 rfl rfl (by decide) (by decide) rfl rfl ?_
                refine v_goto (q := 30) hC dX12_digest_84 (by decide) ?_
                rw [nI_1 f]
                first
                  | (refine ihf (f + 1) _ _ (by omega) ?_
                     show zHh σ S (pFav S f _) _
                     unfold pFav
                     rw [if_pos (of_decide_eq_true (zb_ne h68))]
                     exact hh2.say _)
                  | (refine ihf (f + 1) _ _ (by omega) ?_
                     show zHh σ S (pFav S f _) _
                     unfold pFav
                     rw [if_neg (of_decide_eq_false (zb_eq0.mp h68))]
                     exact hh0)
            · exact absurd (nI_le (a := 8) (b := w) (by omega) (by omega)) h43
          | succ r ih =>
            intro w σ1 hw hh
            have hh0 := hh
            obtain ⟨hL1, hp1, hF1, hd1, hs1, hk1, hy1, he1⟩ := hh.1
            refine v_iload_n (q := 41) hC dX12_digest_40 rfl rfl rfl ?_
            refine v_bipush (q := 43) (v := 8) hC dX12_digest_41 rfl (by decide) ?_
            refine v_icmp_ge (q := 46) (tgt := 63) hC dX12_digest_43 rfl (by decide) (fun h43 => ?_) (fun h43 => ?_)
            · exact absurd h43 (nI_ge (a := w) (b := 8) (by omega) (by omega))
            · refine v_aload_n (q := 47) hC dX12_digest_46 rfl rfl rfl ?_
              refine v_aload_n (q := 48) hC dX12_digest_47 rfl rfl rfl ?_
              refine v_iload_n (q := 49) hC dX12_digest_48 rfl rfl rfl ?_
              refine v_iload_n (q := 50) hC dX12_digest_49 rfl rfl rfl ?_
              refine v_callV1 (q := 53) (As := [_, _]) hC dX12_digest_50 rfl lX12_218 mX12_tellDeed iX12_tellDeed eX12_tellDeed rfl (hL1.1 53 (by decide)) (ct_X12_tellDeedA (d + 3) hh0.1 ok0 hfm (nI w)) rfl rfl (by omega) rfl (Nat.le_of_ble_eq_true rfl) ?_
              refine v_i2l (q := 54) hC dX12_digest_53 rfl ?_
              refine v_callV0 (q := 57) (As := [_]) hC dX12_digest_54 rfl lX12_298 mX12_say iX12_say eX12_say rfl (hL1.1 53 (by decide)) (ct_X12_say (d + 4) hL1 _) rfl rfl (by omega) rfl (Nat.le_of_ble_eq_true rfl) ?_
              refine v_iinc (q := 60) (v := 1) (L' := [_, _, _]) hC dX12_digest_57 rfl rfl (by decide) (by decide) rfl rfl ?_
              refine v_goto (q := 40) hC dX12_digest_60 (by decide) ?_
              rw [nI_1 w]
              exact ih (w + 1) _ (by omega) (hh0.say _)
        exact lp3 8 0 σ1 (by omega) hh0
  have lp1 : ∀ (r : Nat) (a : Nat) (σ1 : zSt), a + r = qN S → zHh σ S (pFold (pPer S) 743 a) σ1 → zV X 3 9 [some (.ref 53), some (.int (nI a)), none] [] 0 0 σ1 := by
    intro r
    induction r with
    | zero =>
      intro a σ1 ha hh
      have hh0 := hh
      obtain ⟨hL1, hp1, hF1, hd1, hs1, hk1, hy1, he1⟩ := hh.1
      refine v_iload_n (q := 10) hC dX12_digest_9 rfl rfl rfl ?_
      refine v_aload_n (q := 11) hC dX12_digest_10 rfl rfl rfl ?_
      refine v_getI (q := 14) hC dX12_digest_11 rfl fX12_126 (hL1.1 53 (by decide)) ?_
      rw [hF1.1]
      refine v_icmp_ge (q := 17) (tgt := 28) hC dX12_digest_14 rfl (by decide) (fun h14 => ?_) (fun h14 => ?_)
      · refine v_iconst (q := 29) (v := 0) hC dX12_digest_28 rfl (by decide) ?_
        refine v_istore_n (q := 30) (L' := [_, _, _]) hC dX12_digest_29 rfl rfl (by decide) rfl rfl ?_
        have e : a = qN S := by omega
        subst e
        rw [e1] at hh0
        exact lp2 (qM S) 0 _ σ1 (by omega) hh0
      · exact absurd (nI_le (a := qN S) (b := a) (by omega) (by omega)) h14
    | succ r ih =>
      intro a σ1 ha hh
      have hh0 := hh
      obtain ⟨hL1, hp1, hF1, hd1, hs1, hk1, hy1, he1⟩ := hh.1
      refine v_iload_n (q := 10) hC dX12_digest_9 rfl rfl rfl ?_
      refine v_aload_n (q := 11) hC dX12_digest_10 rfl rfl rfl ?_
      refine v_getI (q := 14) hC dX12_digest_11 rfl fX12_126 (hL1.1 53 (by decide)) ?_
      rw [hF1.1]
      refine v_icmp_ge (q := 17) (tgt := 28) hC dX12_digest_14 rfl (by decide) (fun h14 => ?_) (fun h14 => ?_)
      · exact absurd h14 (nI_ge (a := a) (b := qN S) (by omega) (by omega))
      · refine v_aload_n (q := 18) hC dX12_digest_17 rfl rfl rfl ?_
        refine v_iload_n (q := 19) hC dX12_digest_18 rfl rfl rfl ?_
        refine v_callVQ (q := 22) (As := [_]) hC dX12_digest_19 rfl lX12_304 mX12_sayPerson iX12_sayPerson eX12_sayPerson rfl (hL1.1 53 (by decide)) (ct_X12_sayPerson d ok0 hh0 (show a < qN S by omega)) rfl rfl (by omega) (by decide) (Nat.le_of_ble_eq_true rfl) ?_
        rintro _ σ2 ⟨rfl, hh2⟩
        refine v_iinc (q := 25) (v := 1) (L' := [_, _, _]) hC dX12_digest_22 rfl rfl (by decide) (by decide) rfl rfl ?_
        refine v_goto (q := 9) hC dX12_digest_25 (by decide) ?_
        rw [nI_1 a]
        exact ih (a + 1) _ (by omega) hh2
  refine v_aload_n (q := 1) hC dX12_digest_0 rfl rfl rfl ?_
  refine v_ldc2 (q := 4) hC dX12_digest_1 rfl kX12_302 ?_
  refine v_putJ (q := 7) hC dX12_digest_4 rfl fX12_294 (hL.1 53 (by decide)) ?_
  refine v_iconst (q := 8) (v := 0) hC dX12_digest_7 rfl (by decide) ?_
  refine v_istore_n (q := 9) (L' := [_, _, _]) hC dX12_digest_8 rfl rfl (by decide) rfl rfl ?_
  exact lp1 (qN S) 0 _ (by omega) ⟨zMd_J h00, zFm_J, by rw [zJ_sJ, if_pos ⟨rfl, rfl⟩]; rfl⟩

