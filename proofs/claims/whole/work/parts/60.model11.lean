/-! ===== the model: fault, law ===== -/
set_option maxRecDepth 100000 in
set_option maxHeartbeats 4000000 in
theorem ct_X12_faultOf (d : Nat) {σ : zSt} (hL : zLay σ) {m : Nat} {pc : Nat → Int32} (hp : zMp σ m pc) : zCt (d + 4) MX12_faultOf [.ref 53] σ (fun r σ' => r = some (.int (nI (pRead pc m 0 pR0).1)) ∧ zSm [55, 56] [4, 5, 6, 7, 8] σ σ' ∧ ∀ S1, (pRead pc m 0 pR0).2 = some S1 → zGd σ' S1) := by
  refine zCt.of (L := [some (.ref 53), none]) (by decide) (Nat.le_of_ble_eq_true rfl) rfl (fun X hC hB => ?_)
  have hC : zC X RX12 cX12_faultOf 2 (d + 4) 0 0 := hC
  have hB : zB X (some .int) 0 0 "faultOf" σ _ := hB
  show zV X 2 0 [some (.ref 53), none] [] 0 0 σ
  have hm54 := hp.2.1
  obtain ⟨v, w, hvw⟩ : ∃ v w, pRead pc m 0 pR0 = (v, w) := ⟨_, _, rfl⟩
  rw [hvw] at hB
  dsimp only at hB
  have lp2 : ∀ (r : Nat) (i : Nat) (S : pRs) (σ1 : zSt), i + r = m → zSm [55, 56] [4, 5, 6, 7, 8] σ σ1 → zGd σ1 S → pRead pc r i S = (v, w) → zV X 2 45 [some (.ref 53), some (.int (nI i))] [] 0 0 σ1 := by
    intro r
    induction r with
    | zero =>
      intro i S σ1 hi hS hR hv
      have hL1 := hS.lay hL
      have hm1 : zI σ1 53 1 = nI m := by rw [hS.2 1 (by simp)]; exact hp.1
      refine v_iload_n (q := 46) hC dX12_faultOf_45 rfl rfl rfl ?_
      refine v_aload_n (q := 47) hC dX12_faultOf_46 rfl rfl rfl ?_
      refine v_getI (q := 50) hC dX12_faultOf_47 rfl fX12_74 (hL1.1 53 (by decide)) ?_
      rw [hm1]
      refine v_icmp_ge (q := 53) (tgt := 72) hC dX12_faultOf_50 rfl (by decide) (fun h50 => ?_) (fun h50 => ?_)
      · refine v_iload_n (q := 73) hC dX12_faultOf_72 rfl rfl rfl ?_
        refine v_ireturn hC hB dX12_faultOf_73 ⟨Nat.le_refl _, Nat.le_refl _⟩ ?_
        simp only [pRead, Prod.mk.injEq] at hv
        obtain ⟨rfl, rfl⟩ := hv
        exact ⟨rfl, hS, fun S1 e1 => by cases e1; exact hR⟩
      · exact absurd (nI_le (a := m) (b := i) (by omega) (by omega)) h50
    | succ r ih =>
      intro i S σ1 hi hS hR hv
      have hL1 := hS.lay hL
      have hm1 : zI σ1 53 1 = nI m := by rw [hS.2 1 (by simp)]; exact hp.1
      refine v_iload_n (q := 46) hC dX12_faultOf_45 rfl rfl rfl ?_
      refine v_aload_n (q := 47) hC dX12_faultOf_46 rfl rfl rfl ?_
      refine v_getI (q := 50) hC dX12_faultOf_47 rfl fX12_74 (hL1.1 53 (by decide)) ?_
      rw [hm1]
      refine v_icmp_ge (q := 53) (tgt := 72) hC dX12_faultOf_50 rfl (by decide) (fun h50 => ?_) (fun h50 => ?_)
      · exact absurd h50 (nI_ge (a := i) (b := m) (by omega) (by omega))
      · refine v_aload_n (q := 54) hC dX12_faultOf_53 rfl rfl rfl ?_
        refine v_aload_n (q := 55) hC dX12_faultOf_54 rfl rfl rfl ?_
        refine v_getR (q := 58) (r := 54) hC dX12_faultOf_55 rfl fX12_7 (hL1.1 53 (by decide)) (hL1.2 53 0 54 rfl) ?_
        refine v_iload_n (q := 59) hC dX12_faultOf_58 rfl rfl rfl ?_
        refine v_ialdN (q := 60) (j := i) hC dX12_faultOf_59 rfl (hL1.1 54 (by decide)) rfl (by omega) (by decide) ?_
        rw [hS.cell (by simp) (by decide), hp.2.2 i (by omega)]
        refine v_callVQ (q := 63) (As := [_]) hC dX12_faultOf_60 rfl lX12_107 mX12_go iX12_go eX12_go rfl (hL1.1 53 (by decide)) (ct_X12_go d hL1 hR _) rfl rfl (by omega) (by decide) (Nat.le_of_ble_eq_true rfl) ?_
        rintro _ σ2 ⟨b, rfl, hS2, hq⟩
        refine v_if_eq (q := 66) (tgt := 72) hC dX12_faultOf_63 rfl (by decide) (fun h63 => ?_) (fun h63 => ?_)
        · have hbf : b = false := by simpa [zb_eq0] using h63
          refine v_iload_n (q := 73) hC dX12_faultOf_72 rfl rfl rfl ?_
          refine v_ireturn hC hB dX12_faultOf_73 ⟨Nat.le_refl _, Nat.le_refl _⟩ ?_
          simp only [pRead] at hv
          cases e : pGo (pc i) S with
          | some S2 => rw [e] at hq; dsimp only at hq; rw [hbf] at hq; cases hq.1
          | none =>
          rw [e] at hv; simp only [Prod.mk.injEq] at hv
          obtain ⟨rfl, rfl⟩ := hv
          exact ⟨rfl, hS.tr hS2, fun S1 e1 => by cases e1⟩
        · have hbt : b = true := by simpa [zb_eq0] using h63
          refine v_iinc (q := 69) (v := 1) (L' := [_, _]) hC dX12_faultOf_66 rfl rfl (by decide) (by decide) rfl rfl ?_
          refine v_goto (q := 45) hC dX12_faultOf_69 (by decide) ?_
          rw [nI_1 i]
          simp only [pRead] at hv
          cases e : pGo (pc i) S with
          | none => rw [e] at hq; dsimp only at hq; rw [hbt] at hq; cases hq
          | some S2 =>
          rw [e] at hq hv; dsimp only at hq hv
          exact ih (i + 1) S2 σ2 (by omega) (hS.tr hS2) hq.2 hv
  have lp1 : ∀ (r : Nat) (i : Nat) (σ1 : zSt), i + r = 6 → zSm [55, 56] [4, 5, 6, 7, 8] σ σ1 → (∀ a, a < i → zI σ1 55 a = 0 ∧ zI σ1 56 a = 0) → zV X 2 2 [some (.ref 53), some (.int (nI i))] [] 0 0 σ1 := by
    intro r
    induction r with
    | zero =>
      intro i σ1 hi hS hz
      have hL1 := hS.lay hL
      refine v_iload_n (q := 3) hC dX12_faultOf_2 rfl rfl rfl ?_
      refine v_bipush (q := 5) (v := 6) hC dX12_faultOf_3 rfl (by decide) ?_
      refine v_icmp_ge (q := 8) (tgt := 28) hC dX12_faultOf_5 rfl (by decide) (fun h5 => ?_) (fun h5 => ?_)
      · refine v_aload_n (q := 29) hC dX12_faultOf_28 rfl rfl rfl ?_
        refine v_iconst (q := 30) (v := 0) hC dX12_faultOf_29 rfl (by decide) ?_
        refine v_putI (q := 33) hC dX12_faultOf_30 rfl fX12_86 (hL1.1 53 (by decide)) ?_
        refine v_aload_n (q := 34) hC dX12_faultOf_33 rfl rfl rfl ?_
        refine v_iconst (q := 35) (v := 0) hC dX12_faultOf_34 rfl (by decide) ?_
        refine v_putI (q := 38) hC dX12_faultOf_35 rfl fX12_89 (hL1.1 53 (by decide)) ?_
        refine v_aload_n (q := 39) hC dX12_faultOf_38 rfl rfl rfl ?_
        refine v_iconst (q := 40) (v := 0) hC dX12_faultOf_39 rfl (by decide) ?_
        refine v_putI (q := 43) hC dX12_faultOf_40 rfl fX12_92 (hL1.1 53 (by decide)) ?_
        refine v_iconst (q := 44) (v := 0) hC dX12_faultOf_43 rfl (by decide) ?_
        refine v_istore_n (q := 45) (L' := [_, _]) hC dX12_faultOf_44 rfl rfl (by decide) rfl rfl ?_
        have e : i = 6 := by omega
        subst e
        refine lp2 m 0 pR0 _ (by omega) (((hS.o (by simp)).o (by simp)).o (by simp)) ?_ hvw
        have ez : ∀ a, a < 6 → zMb (zI (zsI (zsI (zsI σ1 53 4 0) 53 5 0) 53 8 0) 55 a) (fun _ => false) ∧ zMb (zI (zsI (zsI (zsI σ1 53 4 0) 53 5 0) 53 8 0) 56 a) (fun _ => false) := fun a ha => by rw [zI_ne (by omega), zI_ne (by omega), zI_ne (by omega), zI_ne (by omega), zI_ne (by omega), zI_ne (by omega), (hz a ha).1, (hz a ha).2]; exact ⟨zMb.zero, zMb.zero⟩
        exact ⟨zI_eq, fun z => absurd z (by decide), fun a ha => (ez a ha).1, fun a ha => (ez a ha).2, by rw [zI_ne (by omega), zI_ne (by omega), zI_eq]; rfl, by rw [zI_ne (by omega), zI_eq]; rfl, fun z => absurd z (by decide), by simp only [pRok]; omega⟩
      · exact absurd (nI_le (a := 6) (b := i) (by omega) (by omega)) h5
    | succ r ih =>
      intro i σ1 hi hS hz
      have hL1 := hS.lay hL
      refine v_iload_n (q := 3) hC dX12_faultOf_2 rfl rfl rfl ?_
      refine v_bipush (q := 5) (v := 6) hC dX12_faultOf_3 rfl (by decide) ?_
      refine v_icmp_ge (q := 8) (tgt := 28) hC dX12_faultOf_5 rfl (by decide) (fun h5 => ?_) (fun h5 => ?_)
      · exact absurd h5 (nI_ge (a := i) (b := 6) (by omega) (by omega))
      · refine v_aload_n (q := 9) hC dX12_faultOf_8 rfl rfl rfl ?_
        refine v_getR (q := 12) (r := 55) hC dX12_faultOf_9 rfl fX12_13 (hL1.1 53 (by decide)) (hL1.2 53 2 55 rfl) ?_
        refine v_iload_n (q := 13) hC dX12_faultOf_12 rfl rfl rfl ?_
        refine v_iconst (q := 14) (v := 0) hC dX12_faultOf_13 rfl (by decide) ?_
        refine v_iastN (q := 15) (j := i) hC dX12_faultOf_14 rfl (hL1.1 55 (by decide)) rfl (by omega) (by decide) ?_
        refine v_aload_n (q := 16) hC dX12_faultOf_15 rfl rfl rfl ?_
        refine v_getR (q := 19) (r := 56) hC dX12_faultOf_16 rfl fX12_16 (hL1.1 53 (by decide)) (hL1.2 53 3 56 rfl) ?_
        refine v_iload_n (q := 20) hC dX12_faultOf_19 rfl rfl rfl ?_
        refine v_iconst (q := 21) (v := 0) hC dX12_faultOf_20 rfl (by decide) ?_
        refine v_iastN (q := 22) (j := i) hC dX12_faultOf_21 rfl (hL1.1 56 (by decide)) rfl (by omega) (by decide) ?_
        refine v_iinc (q := 25) (v := 1) (L' := [_, _]) hC dX12_faultOf_22 rfl rfl (by decide) (by decide) rfl rfl ?_
        refine v_goto (q := 2) hC dX12_faultOf_25 (by decide) ?_
        rw [nI_1 i]
        refine ih (i + 1) _ (by omega) ((hS.c (by simp) (by decide)).c (by simp) (by decide)) (fun a ha => ?_)
        rw [zI_ne (by omega), zI_sI, zI_sI]
        rw [zI_ne (by omega)]
        by_cases e : a = i
        · rw [if_pos ⟨rfl, e⟩, if_pos ⟨rfl, e⟩]; exact ⟨rfl, rfl⟩
        · rw [if_neg (fun z => e z.2), if_neg (fun z => e z.2)]; exact hz a (by omega)
  refine v_iconst (q := 1) (v := 0) hC dX12_faultOf_0 rfl (by decide) ?_
  refine v_istore_n (q := 2) (L' := [_, _]) hC dX12_faultOf_1 rfl rfl (by decide) rfl rfl ?_
  exact lp1 6 0 σ (by omega) zSm.rf (fun a ha => absurd ha (Nat.not_lt_zero a))

set_option maxRecDepth 100000 in
set_option maxHeartbeats 4000000 in
theorem md_fault (d : Nat) {σ : zSt} {S : pS} {B : Nat} (h : zMd σ S) (ok : pOk B S) : zCt (d + 5) MX12_fault [.ref 53] σ (zQs zMd zFm σ (sFault S)) := by
  refine zCt.of (L := [some (.ref 53)]) (by decide) (Nat.le_of_ble_eq_true rfl) rfl (fun X hC hB => ?_)
  have hC : zC X RX12 cX12_fault 1 (d + 5) 0 0 := hC
  have hB : zB X (some .int) 0 0 "fault" σ _ := hB
  show zV X 1 0 [some (.ref 53)] [] 0 0 σ
  have h0 := h
  obtain ⟨hL, hp, hF, hd, hs, hk, hy, he⟩ := h
  obtain ⟨oB, oq, ow, oqt, ot, okm, omm, oq0, oL, oD, okr, okp, oK, osym, okp6, okd⟩ := ok
  have hn6 := hF.2.1
  have hm12 := hd.2.1
  have hsy : ∀ a b, a < 6 → b < 6 → qKin S a b = qKin S b a := fun a b ha hb => (osym a b ha hb).1
  refine v_aload_n (q := 1) hC dX12_fault_0 rfl rfl rfl ?_
  refine v_callVQ (q := 4) (As := []) hC dX12_fault_1 rfl lX12_110 mX12_faultOf iX12_faultOf eX12_faultOf rfl (hL.1 53 (by decide)) (ct_X12_faultOf d hL hp) rfl rfl (by omega) (by decide) (Nat.le_of_ble_eq_true rfl) ?_
  rintro _ σ1 ⟨rfl, hS1, hrd⟩
  refine v_ireturn hC hB dX12_fault_4 ⟨Nat.le_refl _, Nat.le_refl _⟩ ?_
  exact zQs.mk (S' := S) rfl ⟨hS1.lay hL, hp.sm hS1 rfl rfl, hF.sm hS1 rfl rfl, hd.sm hS1 rfl rfl, hs.sm hS1 rfl, hk.sm hS1 rfl, hy.sm hS1 rfl rfl, he.sm hS1 rfl rfl⟩ (hS1.fm rfl)

set_option maxRecDepth 100000 in
set_option maxHeartbeats 4000000 in
theorem md_law (d : Nat) {σ : zSt} {S : pS} {B : Nat} (h : zMd σ S) (ok : pOk B S) : zCt (d + 5) MX12_law [.ref 53] σ (zQs zMd zFm σ (sLaw S)) := by
  refine zCt.of (L := [some (.ref 53), none]) (by decide) (Nat.le_of_ble_eq_true rfl) rfl (fun X hC hB => ?_)
  have hC : zC X RX12 cX12_law 2 (d + 5) 0 0 := hC
  have hB : zB X (some .int) 0 0 "law" σ _ := hB
  show zV X 2 0 [some (.ref 53), none] [] 0 0 σ
  have h0 := h
  obtain ⟨hL, hp, hF, hd, hs, hk, hy, he⟩ := h
  obtain ⟨oB, oq, ow, oqt, ot, okm, omm, oq0, oL, oD, okr, okp, oK, osym, okp6, okd⟩ := ok
  have hn6 := hF.2.1
  have hm12 := hd.2.1
  have hsy : ∀ a b, a < 6 → b < 6 → qKin S a b = qKin S b a := fun a b ha hb => (osym a b ha hb).1
  have hfs := pRead_fst (pc := qPc S) (qPl S) 0 pR0
  have hpl := hp.2.1
  refine v_aload_n (q := 1) hC dX12_law_0 rfl rfl rfl ?_
  refine v_callVQ (q := 4) (As := []) hC dX12_law_1 rfl lX12_110 mX12_faultOf iX12_faultOf eX12_faultOf rfl (hL.1 53 (by decide)) (ct_X12_faultOf d hL hp) rfl rfl (by omega) (by decide) (Nat.le_of_ble_eq_true rfl) ?_
  rintro _ σ1 ⟨rfl, hS1, hrd⟩
  have hL1 := hS1.lay hL
  generalize hv : pRead (qPc S) (qPl S) 0 pR0 = rv at hrd hfs ⊢
  refine v_aload_n (q := 5) hC dX12_law_4 rfl rfl rfl ?_
  refine v_getI (q := 8) hC dX12_law_5 rfl fX12_74 (hL1.1 53 (by decide)) ?_
  rw [hS1.2 1 (by simp), hp.1]
  refine v_icmp_lt (q := 11) (tgt := 20) hC dX12_law_8 rfl (by decide) (fun h8 => ?_) (fun h8 => ?_)
  · have hno : sLaw S = (-103, S) := by
      unfold sLaw; rw [hv]; cases e9 : rv.2 with
      | none => rfl
      | some S9 => have e8 := hfs.2 S9 e9; exact absurd ((nI_ltI (by omega) (by omega)).mp h8) (by omega)
    refine v_bipush (q := 22) (v := -103) hC dX12_law_20 rfl (by decide) ?_
    refine v_ireturn hC hB dX12_law_22 ⟨Nat.le_refl _, Nat.le_refl _⟩ ?_
    exact zQs.mk hno ⟨hS1.lay hL, hp.sm hS1 rfl rfl, hF.sm hS1 rfl rfl, hd.sm hS1 rfl rfl, hs.sm hS1 rfl, hk.sm hS1 rfl, hy.sm hS1 rfl rfl, he.sm hS1 rfl rfl⟩ (hS1.fm rfl)
  · have hle : rv.1 ≤ qPl S := by cases e9 : rv.2 with | none => (have := hfs.1 e9; omega) | some S9 => (have := hfs.2 S9 e9; omega)
    obtain ⟨⟨st, fd, kin, km, met, mm, tm⟩, er⟩ : ∃ S9, rv.2 = some S9 := by cases e9 : rv.2 with | none => (have e7 := hfs.1 e9; exact absurd ((nI_ltI (a := rv.1) (b := qPl S) (by omega) (by omega)).mpr (by omega)) h8) | some S9 => exact ⟨S9, rfl⟩
    obtain ⟨w8, w7, wK, wM, wkm, wmm, w6, wok⟩ := hrd _ er
    have hst9 := wok.1
    refine v_aload_n (q := 12) hC dX12_law_11 rfl rfl rfl ?_
    refine v_getI (q := 15) hC dX12_law_12 rfl fX12_92 (hL1.1 53 (by decide)) ?_
    refine v_bipush (q := 17) (v := 8) hC dX12_law_15 rfl (by decide) ?_
    rw [w8]
    have c8 : nI st = 8 ↔ st = 8 := nI_eq (a := st) (b := 8) (by omega) (by omega)
    refine v_icmp_eq (q := 20) (tgt := 23) hC dX12_law_17 rfl (by decide) (fun h17 => ?_) (fun h17 => ?_)
    · have hst := c8.mp h17
      subst hst
      refine v_iconst (q := 24) (v := 0) hC dX12_law_23 rfl (by decide) ?_
      refine v_istore_n (q := 25) (L' := [_, _]) hC dX12_law_24 rfl rfl (by decide) rfl rfl ?_
      have lp : ∀ (r : Nat) (i : Nat) (σ2 : zSt), i + r = 6 → zSm [57, 58] [] σ1 σ2 → (∀ a, a < i → zI σ2 57 a = zI σ1 55 a ∧ zI σ2 58 a = zI σ1 56 a) → zV X 2 25 [some (.ref 53), some (.int (nI i))] [] 0 0 σ2 := by
        intro r
        induction r with
        | zero =>
          intro i σ2 hi hS hz
          have hL2 := hS.lay hL1
          refine v_iload_n (q := 26) hC dX12_law_25 rfl rfl rfl ?_
          refine v_bipush (q := 28) (v := 6) hC dX12_law_26 rfl (by decide) ?_
          refine v_icmp_ge (q := 31) (tgt := 61) hC dX12_law_28 rfl (by decide) (fun h28 => ?_) (fun h28 => ?_)
          · have e : i = 6 := by omega
            subst e
            refine v_aload_n (q := 62) hC dX12_law_61 rfl rfl rfl ?_
            refine v_aload_n (q := 63) hC dX12_law_62 rfl rfl rfl ?_
            refine v_getI (q := 66) hC dX12_law_63 rfl fX12_102 (hL2.1 53 (by decide)) ?_
            rw [hS.2 6 (by simp), w6 rfl]
            refine v_putI (q := 69) hC dX12_law_66 rfl fX12_114 (hL2.1 53 (by decide)) ?_
            refine v_aload_n (q := 70) hC dX12_law_69 rfl rfl rfl ?_
            refine v_aload_n (q := 71) hC dX12_law_70 rfl rfl rfl ?_
            refine v_getI (q := 74) hC dX12_law_71 rfl fX12_86 (hL2.1 53 (by decide)) ?_
            rw [zI_ne (by omega), hS.2 4 (by simp), wkm]
            refine v_putI (q := 77) hC dX12_law_74 rfl fX12_117 (hL2.1 53 (by decide)) ?_
            refine v_aload_n (q := 78) hC dX12_law_77 rfl rfl rfl ?_
            refine v_aload_n (q := 79) hC dX12_law_78 rfl rfl rfl ?_
            refine v_getI (q := 82) hC dX12_law_79 rfl fX12_89 (hL2.1 53 (by decide)) ?_
            rw [zI_ne (by omega), zI_ne (by omega), hS.2 5 (by simp), wmm]
            refine v_putI (q := 85) hC dX12_law_82 rfl fX12_120 (hL2.1 53 (by decide)) ?_
            refine v_aload_n (q := 86) hC dX12_law_85 rfl rfl rfl ?_
            refine v_iconst (q := 87) (v := 0) hC dX12_law_86 rfl (by decide) ?_
            refine v_putI (q := 90) hC dX12_law_87 rfl fX12_123 (hL2.1 53 (by decide)) ?_
            refine v_aload_n (q := 91) hC dX12_law_90 rfl rfl rfl ?_
            refine v_iconst (q := 92) (v := 0) hC dX12_law_91 rfl (by decide) ?_
            refine v_putI (q := 95) hC dX12_law_92 rfl fX12_126 (hL2.1 53 (by decide)) ?_
            refine v_aload_n (q := 96) hC dX12_law_95 rfl rfl rfl ?_
            refine v_iconst (q := 97) (v := 0) hC dX12_law_96 rfl (by decide) ?_
            refine v_putI (q := 100) hC dX12_law_97 rfl fX12_129 (hL2.1 53 (by decide)) ?_
            refine v_aload_n (q := 101) hC dX12_law_100 rfl rfl rfl ?_
            refine v_iconst (q := 102) (v := 0) hC dX12_law_101 rfl (by decide) ?_
            refine v_putI (q := 105) hC dX12_law_102 rfl fX12_132 (hL2.1 53 (by decide)) ?_
            refine v_aload_n (q := 106) hC dX12_law_105 rfl rfl rfl ?_
            refine v_dup (q := 107) hC dX12_law_106 rfl rfl ?_
            refine v_getI (q := 110) hC dX12_law_107 rfl fX12_135 (hL2.1 53 (by decide)) ?_
            rw [zI_ne (by omega), zI_ne (by omega), zI_ne (by omega), zI_ne (by omega), zI_ne (by omega), zI_ne (by omega), zI_ne (by omega), hS.2 13 (by simp), hS1.2 13 (by simp), hk.2.2]
            refine v_iconst (q := 111) (v := 1) hC dX12_law_110 rfl (by decide) ?_
            refine v_iadd (q := 112) hC dX12_law_111 rfl ?_
            rw [nI_1]
            refine v_putI (q := 115) hC dX12_law_112 rfl fX12_135 (hL2.1 53 (by decide)) ?_
            refine v_aload_n (q := 116) hC dX12_law_115 rfl rfl rfl ?_
            refine v_iconst (q := 117) (v := 0) hC dX12_law_116 rfl (by decide) ?_
            refine v_putI (q := 120) hC dX12_law_117 rfl fX12_74 (hL2.1 53 (by decide)) ?_
            refine v_aload_n (q := 121) hC dX12_law_120 rfl rfl rfl ?_
            refine v_getI (q := 124) hC dX12_law_121 rfl fX12_120 (hL2.1 53 (by decide)) ?_
            have hS3 : zSm [] [1, 9, 10, 11, 12, 13, 16, 22, 28] σ2 (zsI (zsI (zsI (zsI (zsI (zsI (zsI (zsI (zsI σ2 53 9 (nI tm)) 53 10 (nI km)) 53 11 (nI mm)) 53 12 0) 53 16 0) 53 22 0) 53 28 0) 53 13 (nI (qQ S + 1))) 53 1 0) := ((((((((zSm.rf.o (by simp)).o (by simp)).o (by simp)).o (by simp)).o (by simp)).o (by simp)).o (by simp)).o (by simp)).o (by simp)
            have x : ∀ i, zI (zsI (zsI (zsI (zsI (zsI (zsI (zsI (zsI (zsI σ2 53 9 (nI tm)) 53 10 (nI km)) 53 11 (nI mm)) 53 12 0) 53 16 0) 53 22 0) 53 28 0) 53 13 (nI (qQ S + 1))) 53 1 0) 53 i = if i = 1 then 0 else if i = 13 then nI (qQ S + 1) else if i = 28 then 0 else if i = 22 then 0 else if i = 16 then 0 else if i = 12 then 0 else if i = 11 then nI mm else if i = 10 then nI km else if i = 9 then nI tm else zI σ2 53 i := fun i => by
              simp only [zI_sI, true_and]
            generalize zsI (zsI (zsI (zsI (zsI (zsI (zsI (zsI (zsI σ2 53 9 (nI tm)) 53 10 (nI km)) 53 11 (nI mm)) 53 12 0) 53 16 0) 53 22 0) 53 28 0) 53 13 (nI (qQ S + 1))) 53 1 0 = σ3 at hS3 x ⊢
            rw [x 11]
            refine v_ireturn hC hB dX12_law_124 ⟨Nat.le_refl _, Nat.le_refl _⟩ ?_
            have er8 : sLaw S = (nI mm, ((0, qPc S), (kin, km, met, mm, tm), (0, qKd S), (0, qF S, 0), (0, qDw S), qQ S + 1, S.2.2.2.2.2.2)) := by unfold sLaw; rw [hv, er]; exact if_pos rfl
            have hA := hS1.mono (cs' := [55, 56, 57, 58]) (sl' := [1, 4, 5, 6, 7, 8, 9, 10, 11, 12, 13, 16, 22, 28]) (by simp) (by simp)
            have hAll := (hA.tr (hS.mono (by simp) (by simp))).tr (hS3.mono (by simp) (by simp))
            refine zQs.mk er8 ⟨hAll.lay hL, ⟨x 1, Nat.zero_le _, fun i hi => absurd hi (Nat.not_lt_zero i)⟩, ⟨x 16, Nat.zero_le _, fun a ha => absurd ha (Nat.not_lt_zero a), fun a ha => ⟨by rw [hS3.cell (by simp) (by decide), (hz a ha).1]; exact wK a ha, by rw [hS3.cell (by simp) (by decide), (hz a ha).2]; exact wM a ha⟩, x 9, by have := wok.2.2.2.2.2.2 rfl; exact this.2⟩, ⟨x 22, Nat.zero_le _, x 12, fun j f _ hf => absurd hf (Nat.not_lt_zero f)⟩, hs.sm hAll rfl, ⟨x 10, x 11, x 13⟩, ⟨x 28, Nat.zero_le _, fun i hi => absurd hi (Nat.not_lt_zero i)⟩, he.sm hAll rfl rfl⟩ (hAll.fm rfl)
          · exact absurd (nI_le (a := 6) (b := i) (by omega) (by omega)) h28
        | succ r ih =>
          intro i σ2 hi hS hz
          have hL2 := hS.lay hL1
          refine v_iload_n (q := 26) hC dX12_law_25 rfl rfl rfl ?_
          refine v_bipush (q := 28) (v := 6) hC dX12_law_26 rfl (by decide) ?_
          refine v_icmp_ge (q := 31) (tgt := 61) hC dX12_law_28 rfl (by decide) (fun h28 => ?_) (fun h28 => ?_)
          · exact absurd h28 (nI_ge (a := i) (b := 6) (by omega) (by omega))
          · refine v_aload_n (q := 32) hC dX12_law_31 rfl rfl rfl ?_
            refine v_getR (q := 35) (r := 57) hC dX12_law_32 rfl fX12_19 (hL2.1 53 (by decide)) (hL2.2 53 14 57 rfl) ?_
            refine v_iload_n (q := 36) hC dX12_law_35 rfl rfl rfl ?_
            refine v_aload_n (q := 37) hC dX12_law_36 rfl rfl rfl ?_
            refine v_getR (q := 40) (r := 55) hC dX12_law_37 rfl fX12_13 (hL2.1 53 (by decide)) (hL2.2 53 2 55 rfl) ?_
            refine v_iload_n (q := 41) hC dX12_law_40 rfl rfl rfl ?_
            refine v_ialdN (q := 42) (j := i) hC dX12_law_41 rfl (hL2.1 55 (by decide)) rfl (by omega) (by decide) ?_
            refine v_iastN (q := 43) (j := i) hC dX12_law_42 rfl (hL2.1 57 (by decide)) rfl (by omega) (by decide) ?_
            refine v_aload_n (q := 44) hC dX12_law_43 rfl rfl rfl ?_
            refine v_getR (q := 47) (r := 58) hC dX12_law_44 rfl fX12_22 (hL2.1 53 (by decide)) (hL2.2 53 15 58 rfl) ?_
            refine v_iload_n (q := 48) hC dX12_law_47 rfl rfl rfl ?_
            refine v_aload_n (q := 49) hC dX12_law_48 rfl rfl rfl ?_
            refine v_getR (q := 52) (r := 56) hC dX12_law_49 rfl fX12_16 (hL2.1 53 (by decide)) (hL2.2 53 3 56 rfl) ?_
            refine v_iload_n (q := 53) hC dX12_law_52 rfl rfl rfl ?_
            refine v_ialdN (q := 54) (j := i) hC dX12_law_53 rfl (hL2.1 56 (by decide)) rfl (by omega) (by decide) ?_
            refine v_iastN (q := 55) (j := i) hC dX12_law_54 rfl (hL2.1 58 (by decide)) rfl (by omega) (by decide) ?_
            refine v_iinc (q := 58) (v := 1) (L' := [_, _]) hC dX12_law_55 rfl rfl (by decide) (by decide) rfl rfl ?_
            refine v_goto (q := 25) hC dX12_law_58 (by decide) ?_
            rw [nI_1 i]
            refine ih (i + 1) _ (by omega) ((hS.c (by simp) (by decide)).c (by simp) (by decide)) (fun a ha => ?_)
            rw [zI_ne (by omega), zI_sI, zI_sI, zI_ne (by omega)]
            by_cases e : a = i
            · subst e; rw [if_pos ⟨rfl, rfl⟩, if_pos ⟨rfl, rfl⟩, hS.cell (by simp) (by decide), hS.cell (by simp) (by decide)]; exact ⟨rfl, rfl⟩
            · rw [if_neg (fun z => e z.2), if_neg (fun z => e z.2)]; exact hz a (by omega)
      exact lp 6 0 σ1 (by omega) zSm.rf (fun a ha => absurd ha (Nat.not_lt_zero a))
    · have hno : sLaw S = (-103, S) := by
        unfold sLaw; rw [hv, er]; exact if_neg (fun z => h17 (c8.mpr z))
      refine v_bipush (q := 22) (v := -103) hC dX12_law_20 rfl (by decide) ?_
      refine v_ireturn hC hB dX12_law_22 ⟨Nat.le_refl _, Nat.le_refl _⟩ ?_
      exact zQs.mk hno ⟨hS1.lay hL, hp.sm hS1 rfl rfl, hF.sm hS1 rfl rfl, hd.sm hS1 rfl rfl, hs.sm hS1 rfl, hk.sm hS1 rfl, hy.sm hS1 rfl rfl, he.sm hS1 rfl rfl⟩ (hS1.fm rfl)

