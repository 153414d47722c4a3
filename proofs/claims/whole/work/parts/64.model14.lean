/-! ===== the model: bars, meeting ===== -/
theorem gvS_M {kd : Nat → Nat} {kin met : Nat → Nat → Bool} {q : Nat} : gvS kd kin met (some q) none = gvM (pGv kd kin met) q := by
  funext a b
  unfold gvS gvM pGv pBs
  by_cases e : a = q
  · subst e; simp
  · have : ¬ q = a := fun z => e z.symm
    simp [e, this]
theorem gvS_T {kd : Nat → Nat} {kin met : Nat → Nat → Bool} {x y : Nat} (h : x < y) : gvS kd kin met none (some (x, y)) = gvT kd (pGv kd kin met) x y := by
  funext a b
  unfold gvS gvT pGv pBs
  by_cases e1 : a = y ∧ b = x
  · obtain ⟨rfl, rfl⟩ := e1
    have : ¬ a = b := by omega
    simp [this]
  · rw [if_neg e1]
    by_cases e2 : a = x ∧ b = y
    · obtain ⟨rfl, rfl⟩ := e2
      have : ¬ a = b := by omega
      simp [this]
    · rw [if_neg e2]
      have : decide (a = x ∧ b = y ∨ a = y ∧ b = x) = false := decide_eq_false (fun z => z.elim e2 e1)
      simp [this]

set_option maxRecDepth 100000 in
set_option maxHeartbeats 4000000 in
theorem md_bars (d : Nat) {σ : zSt} {S : pS} {B : Nat} (h : zMd σ S) (ok : pOk B S) (f : Int32) (p : Int32) : zCt (d + 5) MX12_bars [.ref 53, .int f, .int p] σ (zQs zMd zFm σ (sBars S f p)) := by
  refine zCt.of (L := [some (.ref 53), some (.int f), some (.int p), none, none]) (by decide) (Nat.le_of_ble_eq_true rfl) rfl (fun X hC hB => ?_)
  have hC : zC X RX12 cX12_bars 5 (d + 5) 0 0 := hC
  have hB : zB X (some .int) 0 0 "bars" σ _ := hB
  show zV X 5 0 [some (.ref 53), some (.int f), some (.int p), none, none] [] 0 0 σ
  have h0 := h
  obtain ⟨hL, hp, hF, hd, hs, hk, hy, he⟩ := h
  obtain ⟨oB, oq, ow, oqt, ot, okm, omm, oq0, oL, oD, okr, okp, oK, osym, okp6, okd⟩ := ok
  have hn6 := hF.2.1
  have hm12 := hd.2.1
  have hsy : ∀ a b, a < 6 → b < 6 → qKin S a b = qKin S b a := fun a b ha hb => (osym a b ha hb).1
  have gv0 : gvS (qKd S) (qKin S) (qMet S) none none = pGS S := funext fun a => funext fun b => gvS_0
  refine v_aload_n (q := 1) hC dX12_bars_0 rfl rfl rfl ?_
  refine v_iload_n (q := 2) hC dX12_bars_1 rfl rfl rfl ?_
  refine v_callV1 (q := 5) (As := [_]) hC dX12_bars_2 rfl lX12_193 mX12_isFavour iX12_isFavour eX12_isFavour rfl (hL.1 53 (by decide)) (ct_X12_isFavour (d + 3) hL hd.1 (by omega) f) rfl rfl (by omega) rfl (Nat.le_of_ble_eq_true rfl) ?_
  refine v_if_eq (q := 8) (tgt := 16) hC dX12_bars_5 rfl (by decide) (fun h5 => ?_) (fun h5 => ?_)
  · refine v_bipush (q := 18) (v := -101) hC dX12_bars_16 rfl (by decide) ?_
    refine v_ireturn hC hB dX12_bars_18 ⟨Nat.le_refl _, Nat.le_refl _⟩ ?_
    first | exact zQs.mk (if_neg (by rw [zb_eq0.mp h5]; simp)) h0 zFm.rf | exact zQs.mk (if_neg (by rw [zb_eq0.mp h13]; simp)) h0 zFm.rf
  · refine v_aload_n (q := 9) hC dX12_bars_8 rfl rfl rfl ?_
    refine v_iload_n (q := 10) hC dX12_bars_9 rfl rfl rfl ?_
    refine v_callV1 (q := 13) (As := [_]) hC dX12_bars_10 rfl lX12_138 mX12_isPerson iX12_isPerson eX12_isPerson rfl (hL.1 53 (by decide)) (ct_X12_isPerson (d + 3) hL hF.1 (by omega) p) rfl rfl (by omega) rfl (Nat.le_of_ble_eq_true rfl) ?_
    refine v_if_ne (q := 16) (tgt := 19) hC dX12_bars_13 rfl (by decide) (fun h13 => ?_) (fun h13 => ?_)
    · have hz := zb_ne h5
      have hz2 := zb_ne h13
      obtain ⟨f, hf, rfl⟩ := zval_of (by omega) hz
      obtain ⟨p, hpp, rfl⟩ := zval_of (by omega) hz2
      obtain ⟨e0, hi, e1, hh0⟩ := pFn oL hn6 hf
      have edf := dN_nI (show f < 2 ^ 31 by omega)
      have edp := dN_nI (show p < 2 ^ 31 by omega)
      have eB0 : ∀ ho : qF S 5 f = -1, sBars S (nI f) (nI p) = (zo (if pSh (qN S) (pGS S) (pNS S) (dN (qF S 0 f)) (dN (qF S 1 f)) p = none then none else pFst (pBr (qN S) (pGS S) (pNS S) (dN (qF S 0 f)) (dN (qF S 1 f)) p) (qN S)), S) := fun ho => by unfold sBars pWay; rw [hz, hz2, Bool.and_self, if_pos rfl, edf, edp, if_pos ho]
      refine v_aload_n (q := 20) hC dX12_bars_19 rfl rfl rfl ?_
      refine v_iload_n (q := 21) hC dX12_bars_20 rfl rfl rfl ?_
      refine v_callV1 (q := 24) (As := [_]) hC dX12_bars_21 rfl lX12_174 mX12_isOwed iX12_isOwed eX12_isOwed rfl (hL.1 53 (by decide)) (ct_X12_isOwed (d + 4) hL hd hf) rfl rfl (by omega) rfl (Nat.le_of_ble_eq_true rfl) ?_
      refine v_if_ne (q := 27) (tgt := 30) hC dX12_bars_24 rfl (by decide) (fun h24 => ?_) (fun h24 => ?_)
      · have ho := of_decide_eq_true (zb_ne h24)
        refine v_aload_n (q := 31) hC dX12_bars_30 rfl rfl rfl ?_
        refine v_iload_n (q := 32) hC dX12_bars_31 rfl rfl rfl ?_
        refine v_callVQ (q := 35) (As := [_]) hC dX12_bars_32 rfl lX12_224 mX12_layWays iX12_layWays eX12_layWays rfl (hL.1 53 (by decide)) (ct_X12_layWays (d + 1) hL hF hd hs (fun g hg => by cases hg) hsy hf e0 e1 hi hh0) rfl rfl (by omega) (by decide) (Nat.le_of_ble_eq_true rfl) ?_
        rintro _ σ1 ⟨rfl, hS1, hz9⟩
        rw [gv0] at hz9
        refine v_aload_n (q := 36) hC dX12_bars_35 rfl rfl rfl ?_
        refine v_iload_n (q := 37) hC dX12_bars_36 rfl rfl rfl ?_
        refine v_callV1 (q := 40) (As := [_]) hC dX12_bars_37 rfl lX12_221 mX12_fewest iX12_fewest eX12_fewest rfl ((hS1.lay hL).1 53 (by decide)) (ct_X12_fewest (d + 4) (hS1.lay hL) hz9 (show p < 6 by omega)) rfl rfl (by omega) rfl (Nat.le_of_ble_eq_true rfl) ?_
        rw [pK_len hn6 hpp]
        refine v_iconst (q := 41) (v := -1) hC dX12_bars_40 rfl (by decide) ?_
        refine v_icmp_ne (q := 44) (tgt := 46) hC dX12_bars_41 rfl (by decide) (fun h41 => ?_) (fun h41 => ?_)
        · have eB := (eB0 ho).trans (by rw [if_neg (fun z => h41 (zsh1.mpr z))])
          refine v_iconst (q := 47) (v := -1) hC dX12_bars_46 rfl (by decide) ?_
          refine v_istore_n (q := 48) (L' := [_, _, _, _, _]) hC dX12_bars_47 rfl rfl (by decide) rfl rfl ?_
          refine v_iconst (q := 49) (v := 0) hC dX12_bars_48 rfl (by decide) ?_
          refine v_istore (q := 51) (L' := [_, _, _, _, _]) hC dX12_bars_49 rfl (by decide) rfl rfl ?_
          have lp : ∀ (r : Nat) (q : Nat) (σ1 : zSt), q + r = qN S → zSm [61, 62] [18] σ σ1 → zV X 5 51 [some (.ref 53), some (.int (nI f)), some (.int (nI p)), some (.int (zo (pFst (pBr (qN S) (pGS S) (pNS S) (dN (qF S 0 f)) (dN (qF S 1 f)) p) q))), some (.int (nI q))] [] 0 0 σ1 := by
            intro r
            induction r with
            | zero =>
              intro q σ1 hq hS
              have hL1 := hS.lay hL
              have hF1 := hF.sm hS rfl rfl
              have hd1 := hd.sm hS rfl rfl
              have hzf := zfo (P := (pBr (qN S) (pGS S) (pNS S) (dN (qF S 0 f)) (dN (qF S 1 f)) p)) (k := q) (by omega)
              refine v_iload (q := 53) hC dX12_bars_51 rfl rfl ?_
              refine v_aload_n (q := 54) hC dX12_bars_53 rfl rfl rfl ?_
              refine v_getI (q := 57) hC dX12_bars_54 rfl fX12_126 (hL1.1 53 (by decide)) ?_
              rw [hF1.1]
              refine v_icmp_ge (q := 60) (tgt := 120) hC dX12_bars_57 rfl (by decide) (fun h57 => ?_) (fun h57 => ?_)
              · refine v_aload_n (q := 121) hC dX12_bars_120 rfl rfl rfl ?_
                refine v_iconst (q := 122) (v := -1) hC dX12_bars_121 rfl (by decide) ?_
                refine v_putI (q := 125) hC dX12_bars_122 rfl fX12_65 (hL1.1 53 (by decide)) ?_
                refine v_iload_n (q := 126) hC dX12_bars_125 rfl rfl rfl ?_
                refine v_ireturn hC hB dX12_bars_126 ⟨Nat.le_refl _, Nat.le_refl _⟩ ?_
                have hS9 : zSm [61, 62] [18] σ (zsI σ1 53 18 (-1)) := hS.o (by simp)
                refine zQs.mk (S' := S) (eB.trans ?_) ⟨hS9.lay hL, hp.sm hS9 rfl rfl, hF.sm hS9 rfl rfl, hd.sm hS9 rfl rfl, ⟨zI_eq, by show zI _ 53 21 = 0; rw [hS9.2 21 (by simp)]; exact hs.2⟩, hk.sm hS9 rfl, hy.sm hS9 rfl rfl, he.sm hS9 rfl rfl⟩ (hS9.fm rfl)
                have e : q = qN S := by omega
                rw [e]
              · exact absurd (nI_le (a := qN S) (b := q) (by omega) (by omega)) h57
            | succ r ih =>
              intro q σ1 hq hS
              have hL1 := hS.lay hL
              have hF1 := hF.sm hS rfl rfl
              have hd1 := hd.sm hS rfl rfl
              have hzf := zfo (P := (pBr (qN S) (pGS S) (pNS S) (dN (qF S 0 f)) (dN (qF S 1 f)) p)) (k := q) (by omega)
              refine v_iload (q := 53) hC dX12_bars_51 rfl rfl ?_
              refine v_aload_n (q := 54) hC dX12_bars_53 rfl rfl rfl ?_
              refine v_getI (q := 57) hC dX12_bars_54 rfl fX12_126 (hL1.1 53 (by decide)) ?_
              rw [hF1.1]
              refine v_icmp_ge (q := 60) (tgt := 120) hC dX12_bars_57 rfl (by decide) (fun h57 => ?_) (fun h57 => ?_)
              · exact absurd h57 (nI_ge (a := q) (b := qN S) (by omega) (by omega))
              · have hqn : q < qN S := by omega
                refine v_iload_n (q := 61) hC dX12_bars_60 rfl rfl rfl ?_
                refine v_iconst (q := 62) (v := -1) hC dX12_bars_61 rfl (by decide) ?_
                refine v_icmp_ne (q := 65) (tgt := 120) hC dX12_bars_62 rfl (by decide) (fun h62 => ?_) (fun h62 => ?_)
                · refine v_aload_n (q := 121) hC dX12_bars_120 rfl rfl rfl ?_
                  refine v_iconst (q := 122) (v := -1) hC dX12_bars_121 rfl (by decide) ?_
                  refine v_putI (q := 125) hC dX12_bars_122 rfl fX12_65 (hL1.1 53 (by decide)) ?_
                  refine v_iload_n (q := 126) hC dX12_bars_125 rfl rfl rfl ?_
                  refine v_ireturn hC hB dX12_bars_126 ⟨Nat.le_refl _, Nat.le_refl _⟩ ?_
                  have hS9 : zSm [61, 62] [18] σ (zsI σ1 53 18 (-1)) := hS.o (by simp)
                  refine zQs.mk (S' := S) (eB.trans ?_) ⟨hS9.lay hL, hp.sm hS9 rfl rfl, hF.sm hS9 rfl rfl, hd.sm hS9 rfl rfl, ⟨zI_eq, by show zI _ 53 21 = 0; rw [hS9.2 21 (by simp)]; exact hs.2⟩, hk.sm hS9 rfl, hy.sm hS9 rfl rfl, he.sm hS9 rfl rfl⟩ (hS9.fm rfl)
                  cases e9 : pFst (pBr (qN S) (pGS S) (pNS S) (dN (qF S 0 f)) (dN (qF S 1 f)) p) q with
                  | none => rw [e9] at h62; exact absurd rfl h62
                  | some g =>
                    have e8 := pFst_up e9 (qN S - q)
                    rw [show q + (qN S - q) = qN S by omega] at e8
                    rw [e8]
                · have hno := hzf.mp h62
                  refine v_iload (q := 67) hC dX12_bars_65 rfl rfl ?_
                  refine v_iload_n (q := 68) hC dX12_bars_67 rfl rfl rfl ?_
                  refine v_icmp_eq (q := 71) (tgt := 114) hC dX12_bars_68 rfl (by decide) (fun h68 => ?_) (fun h68 => ?_)
                  · refine v_iinc (q := 117) (v := 1) (L' := [_, _, _, _, _]) hC dX12_bars_114 rfl rfl (by decide) (by decide) rfl rfl ?_
                    refine v_goto (q := 51) hC dX12_bars_117 (by decide) ?_
                    rw [nI_1 q]
                    first
                      | (have hqt : (pBr (qN S) (pGS S) (pNS S) (dN (qF S 0 f)) (dN (qF S 1 f)) p) q = true := by unfold pBr; rw [decide_eq_false n1, decide_eq_false n2, decide_eq_true (zsh1.mp h104)]; rfl
                         rw [show nI q = zo (pFst (pBr (qN S) (pGS S) (pNS S) (dN (qF S 0 f)) (dN (qF S 1 f)) p) (q + 1)) by rw [pFst_t hno hqt]; rfl]
                         exact ih (q + 1) _ (by omega) hSf)
                      | (have hqf : (pBr (qN S) (pGS S) (pNS S) (dN (qF S 0 f)) (dN (qF S 1 f)) p) q = false := by unfold pBr; rw [decide_eq_false (fun z => h104 (zsh1.mpr z))]; simp
                         rw [show (-1 : Int32) = zo (pFst (pBr (qN S) (pGS S) (pNS S) (dN (qF S 0 f)) (dN (qF S 1 f)) p) (q + 1)) by rw [pFst_f hno hqf]; rfl]
                         exact ih (q + 1) _ (by omega) hSf)
                      | (have hqf : (pBr (qN S) (pGS S) (pNS S) (dN (qF S 0 f)) (dN (qF S 1 f)) p) q = false := by unfold pBr; rw [decide_eq_true (show q = p from (nI_eq (by omega) (by omega)).mp h68)]; rfl
                         rw [show pFst (pBr (qN S) (pGS S) (pNS S) (dN (qF S 0 f)) (dN (qF S 1 f)) p) q = pFst (pBr (qN S) (pGS S) (pNS S) (dN (qF S 0 f)) (dN (qF S 1 f)) p) (q + 1) by rw [pFst_f hno hqf, hno]]
                         exact ih (q + 1) _ (by omega) hS)
                      | (have hqf : (pBr (qN S) (pGS S) (pNS S) (dN (qF S 0 f)) (dN (qF S 1 f)) p) q = false := by unfold pBr; rw [decide_eq_true (show q = dN (qF S 1 f) from (nI_eq (by omega) (by omega)).mp h84)]; simp
                         rw [show pFst (pBr (qN S) (pGS S) (pNS S) (dN (qF S 0 f)) (dN (qF S 1 f)) p) q = pFst (pBr (qN S) (pGS S) (pNS S) (dN (qF S 0 f)) (dN (qF S 1 f)) p) (q + 1) by rw [pFst_f hno hqf, hno]]
                         exact ih (q + 1) _ (by omega) hS)
                  · refine v_iload (q := 73) hC dX12_bars_71 rfl rfl ?_
                    refine v_aload_n (q := 74) hC dX12_bars_73 rfl rfl rfl ?_
                    refine v_getR (q := 77) (r := 60) hC dX12_bars_74 rfl fX12_28 (hL1.1 53 (by decide)) (hL1.2 53 23 60 rfl) ?_
                    refine v_bipush (q := 79) (v := 6) hC dX12_bars_77 rfl (by decide) ?_
                    refine v_iload_n (q := 80) hC dX12_bars_79 rfl rfl rfl ?_
                    refine v_imul (q := 81) hC dX12_bars_80 rfl ?_
                    refine v_iconst (q := 82) (v := 1) hC dX12_bars_81 rfl (by decide) ?_
                    refine v_iadd (q := 83) hC dX12_bars_82 rfl ?_
                    refine v_ialdN (q := 84) (j := 6 * f + 1) hC dX12_bars_83 rfl (hL1.1 60 (by decide)) (z6' f 1) (by omega) (by decide) ?_
                    rw [show zI σ1 60 (6 * f + 1) = nI (dN (qF S 1 f)) from (hd1.2.2.2 1 f (by decide) hf).trans e1]
                    refine v_icmp_eq (q := 87) (tgt := 114) hC dX12_bars_84 rfl (by decide) (fun h84 => ?_) (fun h84 => ?_)
                    · refine v_iinc (q := 117) (v := 1) (L' := [_, _, _, _, _]) hC dX12_bars_114 rfl rfl (by decide) (by decide) rfl rfl ?_
                      refine v_goto (q := 51) hC dX12_bars_117 (by decide) ?_
                      rw [nI_1 q]
                      first
                        | (have hqt : (pBr (qN S) (pGS S) (pNS S) (dN (qF S 0 f)) (dN (qF S 1 f)) p) q = true := by unfold pBr; rw [decide_eq_false n1, decide_eq_false n2, decide_eq_true (zsh1.mp h104)]; rfl
                           rw [show nI q = zo (pFst (pBr (qN S) (pGS S) (pNS S) (dN (qF S 0 f)) (dN (qF S 1 f)) p) (q + 1)) by rw [pFst_t hno hqt]; rfl]
                           exact ih (q + 1) _ (by omega) hSf)
                        | (have hqf : (pBr (qN S) (pGS S) (pNS S) (dN (qF S 0 f)) (dN (qF S 1 f)) p) q = false := by unfold pBr; rw [decide_eq_false (fun z => h104 (zsh1.mpr z))]; simp
                           rw [show (-1 : Int32) = zo (pFst (pBr (qN S) (pGS S) (pNS S) (dN (qF S 0 f)) (dN (qF S 1 f)) p) (q + 1)) by rw [pFst_f hno hqf]; rfl]
                           exact ih (q + 1) _ (by omega) hSf)
                        | (have hqf : (pBr (qN S) (pGS S) (pNS S) (dN (qF S 0 f)) (dN (qF S 1 f)) p) q = false := by unfold pBr; rw [decide_eq_true (show q = p from (nI_eq (by omega) (by omega)).mp h68)]; rfl
                           rw [show pFst (pBr (qN S) (pGS S) (pNS S) (dN (qF S 0 f)) (dN (qF S 1 f)) p) q = pFst (pBr (qN S) (pGS S) (pNS S) (dN (qF S 0 f)) (dN (qF S 1 f)) p) (q + 1) by rw [pFst_f hno hqf, hno]]
                           exact ih (q + 1) _ (by omega) hS)
                        | (have hqf : (pBr (qN S) (pGS S) (pNS S) (dN (qF S 0 f)) (dN (qF S 1 f)) p) q = false := by unfold pBr; rw [decide_eq_true (show q = dN (qF S 1 f) from (nI_eq (by omega) (by omega)).mp h84)]; simp
                           rw [show pFst (pBr (qN S) (pGS S) (pNS S) (dN (qF S 0 f)) (dN (qF S 1 f)) p) q = pFst (pBr (qN S) (pGS S) (pNS S) (dN (qF S 0 f)) (dN (qF S 1 f)) p) (q + 1) by rw [pFst_f hno hqf, hno]]
                           exact ih (q + 1) _ (by omega) hS)
                    · have n1 : ¬ q = p := fun z => h68 (by rw [z])
                      have n2 : ¬ q = dN (qF S 1 f) := fun z => h84 (congrArg nI z)
                      have hS2 : zSm [61, 62] [18] σ (zsI σ1 53 18 (nI q)) := hS.o (by simp)
                      have hs2 : zMs (zsI σ1 53 18 (nI q)) (some q) none := ⟨zI_eq, by show zI _ 53 21 = 0; rw [hS2.2 21 (by simp)]; exact hs.2⟩
                      refine v_aload_n (q := 88) hC dX12_bars_87 rfl rfl rfl ?_
                      refine v_iload (q := 90) hC dX12_bars_88 rfl rfl ?_
                      refine v_putI (q := 93) hC dX12_bars_90 rfl fX12_65 (hL1.1 53 (by decide)) ?_
                      refine v_aload_n (q := 94) hC dX12_bars_93 rfl rfl rfl ?_
                      refine v_iload_n (q := 95) hC dX12_bars_94 rfl rfl rfl ?_
                      refine v_callVQ (q := 98) (As := [_]) hC dX12_bars_95 rfl lX12_224 mX12_layWays iX12_layWays eX12_layWays rfl ((hS2.lay hL).1 53 (by decide)) (ct_X12_layWays (d + 1) (hS2.lay hL) (hF.sm hS2 rfl rfl) (hd.sm hS2 rfl rfl) hs2 (fun g hg => by cases hg; omega) hsy hf e0 e1 hi hh0) rfl rfl (by omega) (by decide) (Nat.le_of_ble_eq_true rfl) ?_
                      rintro _ σ3 ⟨rfl, hS3, hz3⟩
                      rw [gvS_M] at hz3
                      have hSf : zSm [61, 62] [18] σ σ3 := hS2.tr (hS3.mono (by simp) (by simp))
                      have hL3 := hSf.lay hL
                      refine v_aload_n (q := 99) hC dX12_bars_98 rfl rfl rfl ?_
                      refine v_iload_n (q := 100) hC dX12_bars_99 rfl rfl rfl ?_
                      refine v_callV1 (q := 103) (As := [_]) hC dX12_bars_100 rfl lX12_221 mX12_fewest iX12_fewest eX12_fewest rfl (hL3.1 53 (by decide)) (ct_X12_fewest (d + 4) hL3 hz3 (show p < 6 by omega)) rfl rfl (by omega) rfl (Nat.le_of_ble_eq_true rfl) ?_
                      rw [pK_len hn6 hpp]
                      refine v_iconst (q := 104) (v := -1) hC dX12_bars_103 rfl (by decide) ?_
                      refine v_icmp_ne (q := 107) (tgt := 112) hC dX12_bars_104 rfl (by decide) (fun h104 => ?_) (fun h104 => ?_)
                      · refine v_iconst (q := 113) (v := -1) hC dX12_bars_112 rfl (by decide) ?_
                        refine v_istore_n (q := 114) (L' := [_, _, _, _, _]) hC dX12_bars_113 rfl rfl (by decide) rfl rfl ?_
                        refine v_iinc (q := 117) (v := 1) (L' := [_, _, _, _, _]) hC dX12_bars_114 rfl rfl (by decide) (by decide) rfl rfl ?_
                        refine v_goto (q := 51) hC dX12_bars_117 (by decide) ?_
                        rw [nI_1 q]
                        first
                          | (have hqt : (pBr (qN S) (pGS S) (pNS S) (dN (qF S 0 f)) (dN (qF S 1 f)) p) q = true := by unfold pBr; rw [decide_eq_false n1, decide_eq_false n2, decide_eq_true (zsh1.mp h104)]; rfl
                             rw [show nI q = zo (pFst (pBr (qN S) (pGS S) (pNS S) (dN (qF S 0 f)) (dN (qF S 1 f)) p) (q + 1)) by rw [pFst_t hno hqt]; rfl]
                             exact ih (q + 1) _ (by omega) hSf)
                          | (have hqf : (pBr (qN S) (pGS S) (pNS S) (dN (qF S 0 f)) (dN (qF S 1 f)) p) q = false := by unfold pBr; rw [decide_eq_false (fun z => h104 (zsh1.mpr z))]; simp
                             rw [show (-1 : Int32) = zo (pFst (pBr (qN S) (pGS S) (pNS S) (dN (qF S 0 f)) (dN (qF S 1 f)) p) (q + 1)) by rw [pFst_f hno hqf]; rfl]
                             exact ih (q + 1) _ (by omega) hSf)
                          | (have hqf : (pBr (qN S) (pGS S) (pNS S) (dN (qF S 0 f)) (dN (qF S 1 f)) p) q = false := by unfold pBr; rw [decide_eq_true (show q = p from (nI_eq (by omega) (by omega)).mp h68)]; rfl
                             rw [show pFst (pBr (qN S) (pGS S) (pNS S) (dN (qF S 0 f)) (dN (qF S 1 f)) p) q = pFst (pBr (qN S) (pGS S) (pNS S) (dN (qF S 0 f)) (dN (qF S 1 f)) p) (q + 1) by rw [pFst_f hno hqf, hno]]
                             exact ih (q + 1) _ (by omega) hS)
                          | (have hqf : (pBr (qN S) (pGS S) (pNS S) (dN (qF S 0 f)) (dN (qF S 1 f)) p) q = false := by unfold pBr; rw [decide_eq_true (show q = dN (qF S 1 f) from (nI_eq (by omega) (by omega)).mp h84)]; simp
                             rw [show pFst (pBr (qN S) (pGS S) (pNS S) (dN (qF S 0 f)) (dN (qF S 1 f)) p) q = pFst (pBr (qN S) (pGS S) (pNS S) (dN (qF S 0 f)) (dN (qF S 1 f)) p) (q + 1) by rw [pFst_f hno hqf, hno]]
                             exact ih (q + 1) _ (by omega) hS)
                      · refine v_iload (q := 109) hC dX12_bars_107 rfl rfl ?_
                        refine v_goto (q := 113) hC dX12_bars_109 (by decide) ?_
                        refine v_istore_n (q := 114) (L' := [_, _, _, _, _]) hC dX12_bars_113 rfl rfl (by decide) rfl rfl ?_
                        refine v_iinc (q := 117) (v := 1) (L' := [_, _, _, _, _]) hC dX12_bars_114 rfl rfl (by decide) (by decide) rfl rfl ?_
                        refine v_goto (q := 51) hC dX12_bars_117 (by decide) ?_
                        rw [nI_1 q]
                        first
                          | (have hqt : (pBr (qN S) (pGS S) (pNS S) (dN (qF S 0 f)) (dN (qF S 1 f)) p) q = true := by unfold pBr; rw [decide_eq_false n1, decide_eq_false n2, decide_eq_true (zsh1.mp h104)]; rfl
                             rw [show nI q = zo (pFst (pBr (qN S) (pGS S) (pNS S) (dN (qF S 0 f)) (dN (qF S 1 f)) p) (q + 1)) by rw [pFst_t hno hqt]; rfl]
                             exact ih (q + 1) _ (by omega) hSf)
                          | (have hqf : (pBr (qN S) (pGS S) (pNS S) (dN (qF S 0 f)) (dN (qF S 1 f)) p) q = false := by unfold pBr; rw [decide_eq_false (fun z => h104 (zsh1.mpr z))]; simp
                             rw [show (-1 : Int32) = zo (pFst (pBr (qN S) (pGS S) (pNS S) (dN (qF S 0 f)) (dN (qF S 1 f)) p) (q + 1)) by rw [pFst_f hno hqf]; rfl]
                             exact ih (q + 1) _ (by omega) hSf)
                          | (have hqf : (pBr (qN S) (pGS S) (pNS S) (dN (qF S 0 f)) (dN (qF S 1 f)) p) q = false := by unfold pBr; rw [decide_eq_true (show q = p from (nI_eq (by omega) (by omega)).mp h68)]; rfl
                             rw [show pFst (pBr (qN S) (pGS S) (pNS S) (dN (qF S 0 f)) (dN (qF S 1 f)) p) q = pFst (pBr (qN S) (pGS S) (pNS S) (dN (qF S 0 f)) (dN (qF S 1 f)) p) (q + 1) by rw [pFst_f hno hqf, hno]]
                             exact ih (q + 1) _ (by omega) hS)
                          | (have hqf : (pBr (qN S) (pGS S) (pNS S) (dN (qF S 0 f)) (dN (qF S 1 f)) p) q = false := by unfold pBr; rw [decide_eq_true (show q = dN (qF S 1 f) from (nI_eq (by omega) (by omega)).mp h84)]; simp
                             rw [show pFst (pBr (qN S) (pGS S) (pNS S) (dN (qF S 0 f)) (dN (qF S 1 f)) p) q = pFst (pBr (qN S) (pGS S) (pNS S) (dN (qF S 0 f)) (dN (qF S 1 f)) p) (q + 1) by rw [pFst_f hno hqf, hno]]
                             exact ih (q + 1) _ (by omega) hS)
          exact lp (qN S) 0 σ1 (by omega) (hS1.mono (by simp) (by simp))
        · refine v_iconst (q := 45) (v := -1) hC dX12_bars_44 rfl (by decide) ?_
          refine v_ireturn hC hB dX12_bars_45 ⟨Nat.le_refl _, Nat.le_refl _⟩ ?_
          exact zQs.mk (S' := S) ((eB0 ho).trans (by rw [if_pos (zsh1.mp h41)]; rfl)) ⟨hS1.lay hL, hp.sm hS1 rfl rfl, hF.sm hS1 rfl rfl, hd.sm hS1 rfl rfl, hs.sm hS1 rfl, hk.sm hS1 rfl, hy.sm hS1 rfl rfl, he.sm hS1 rfl rfl⟩ (hS1.fm rfl)
      · refine v_bipush (q := 29) (v := -103) hC dX12_bars_27 rfl (by decide) ?_
        refine v_ireturn hC hB dX12_bars_29 ⟨Nat.le_refl _, Nat.le_refl _⟩ ?_
        exact zQs.mk (by unfold sBars; rw [hz, hz2, Bool.and_self, if_pos rfl, edf]; exact if_neg (of_decide_eq_false (zb_eq0.mp h24))) h0 zFm.rf
    · refine v_bipush (q := 18) (v := -101) hC dX12_bars_16 rfl (by decide) ?_
      refine v_ireturn hC hB dX12_bars_18 ⟨Nat.le_refl _, Nat.le_refl _⟩ ?_
      first | exact zQs.mk (if_neg (by rw [zb_eq0.mp h5]; simp)) h0 zFm.rf | exact zQs.mk (if_neg (by rw [zb_eq0.mp h13]; simp)) h0 zFm.rf

set_option maxRecDepth 100000 in
set_option maxHeartbeats 4000000 in
theorem md_meeting (d : Nat) {σ : zSt} {S : pS} {B : Nat} (h : zMd σ S) (ok : pOk B S) (f : Int32) (p : Int32) : zCt (d + 5) MX12_meeting [.ref 53, .int f, .int p] σ (zQs zMd zFm σ (sMeeting S f p)) := by
  refine zCt.of (L := [some (.ref 53), some (.int f), some (.int p), none, none, none, none, none, none, none]) (by decide) (Nat.le_of_ble_eq_true rfl) rfl (fun X hC hB => ?_)
  have hC : zC X RX12 cX12_meeting 10 (d + 5) 0 0 := hC
  have hB : zB X (some .int) 0 0 "meeting" σ _ := hB
  show zV X 10 0 [some (.ref 53), some (.int f), some (.int p), none, none, none, none, none, none, none] [] 0 0 σ
  have h0 := h
  obtain ⟨hL, hp, hF, hd, hs, hk, hy, he⟩ := h
  obtain ⟨oB, oq, ow, oqt, ot, okm, omm, oq0, oL, oD, okr, okp, oK, osym, okp6, okd⟩ := ok
  have hn6 := hF.2.1
  have hm12 := hd.2.1
  have hsy : ∀ a b, a < 6 → b < 6 → qKin S a b = qKin S b a := fun a b ha hb => (osym a b ha hb).1
  have gv0 : gvS (qKd S) (qKin S) (qMet S) none none = pGS S := funext fun a => funext fun b => gvS_0
  refine v_aload_n (q := 1) hC dX12_meeting_0 rfl rfl rfl ?_
  refine v_iload_n (q := 2) hC dX12_meeting_1 rfl rfl rfl ?_
  refine v_callV1 (q := 5) (As := [_]) hC dX12_meeting_2 rfl lX12_193 mX12_isFavour iX12_isFavour eX12_isFavour rfl (hL.1 53 (by decide)) (ct_X12_isFavour (d + 3) hL hd.1 (by omega) f) rfl rfl (by omega) rfl (Nat.le_of_ble_eq_true rfl) ?_
  refine v_if_eq (q := 8) (tgt := 16) hC dX12_meeting_5 rfl (by decide) (fun h5 => ?_) (fun h5 => ?_)
  · refine v_bipush (q := 18) (v := -101) hC dX12_meeting_16 rfl (by decide) ?_
    refine v_ireturn hC hB dX12_meeting_18 ⟨Nat.le_refl _, Nat.le_refl _⟩ ?_
    first | exact zQs.mk (if_neg (by rw [zb_eq0.mp h5]; simp)) h0 zFm.rf | exact zQs.mk (if_neg (by rw [zb_eq0.mp h13]; simp)) h0 zFm.rf
  · refine v_aload_n (q := 9) hC dX12_meeting_8 rfl rfl rfl ?_
    refine v_iload_n (q := 10) hC dX12_meeting_9 rfl rfl rfl ?_
    refine v_callV1 (q := 13) (As := [_]) hC dX12_meeting_10 rfl lX12_138 mX12_isPerson iX12_isPerson eX12_isPerson rfl (hL.1 53 (by decide)) (ct_X12_isPerson (d + 3) hL hF.1 (by omega) p) rfl rfl (by omega) rfl (Nat.le_of_ble_eq_true rfl) ?_
    refine v_if_ne (q := 16) (tgt := 19) hC dX12_meeting_13 rfl (by decide) (fun h13 => ?_) (fun h13 => ?_)
    · have hz := zb_ne h5
      have hz2 := zb_ne h13
      obtain ⟨f, hf, rfl⟩ := zval_of (by omega) hz
      obtain ⟨p, hpp, rfl⟩ := zval_of (by omega) hz2
      obtain ⟨e0, hi, e1, hh0⟩ := pFn oL hn6 hf
      have edf := dN_nI (show f < 2 ^ 31 by omega)
      have edp := dN_nI (show p < 2 ^ 31 by omega)
      have eB0 : ∀ ho : qF S 5 f = -1, sMeeting S (nI f) (nI p) = (zo (pMq (qN S) (pKn (qKd S) (qKin S) (qMet S)) (fun q1 q2 => (pSh (qN S) (gvT (qKd S) (pGS S) q1 q2) (pNS S) (dN (qF S 0 f)) (dN (qF S 1 f)) p).map (· + 1)) ((pSh (qN S) (pGS S) (pNS S) (dN (qF S 0 f)) (dN (qF S 1 f)) p).map (· + 1)) 36).2, S) := fun ho => by unfold sMeeting pMtg; rw [hz, hz2, Bool.and_self, if_pos rfl, edf, edp, if_pos ho]
      refine v_aload_n (q := 20) hC dX12_meeting_19 rfl rfl rfl ?_
      refine v_iload_n (q := 21) hC dX12_meeting_20 rfl rfl rfl ?_
      refine v_callV1 (q := 24) (As := [_]) hC dX12_meeting_21 rfl lX12_174 mX12_isOwed iX12_isOwed eX12_isOwed rfl (hL.1 53 (by decide)) (ct_X12_isOwed (d + 4) hL hd hf) rfl rfl (by omega) rfl (Nat.le_of_ble_eq_true rfl) ?_
      refine v_if_ne (q := 27) (tgt := 30) hC dX12_meeting_24 rfl (by decide) (fun h24 => ?_) (fun h24 => ?_)
      · have ho := of_decide_eq_true (zb_ne h24)
        have eB := eB0 ho
        refine v_aload_n (q := 31) hC dX12_meeting_30 rfl rfl rfl ?_
        refine v_iload_n (q := 32) hC dX12_meeting_31 rfl rfl rfl ?_
        refine v_callVQ (q := 35) (As := [_]) hC dX12_meeting_32 rfl lX12_224 mX12_layWays iX12_layWays eX12_layWays rfl (hL.1 53 (by decide)) (ct_X12_layWays (d + 1) hL hF hd hs (fun g hg => by cases hg) hsy hf e0 e1 hi hh0) rfl rfl (by omega) (by decide) (Nat.le_of_ble_eq_true rfl) ?_
        rintro _ σ1 ⟨rfl, hS1, hz9⟩
        rw [gv0] at hz9
        refine v_aload_n (q := 36) hC dX12_meeting_35 rfl rfl rfl ?_
        refine v_iload_n (q := 37) hC dX12_meeting_36 rfl rfl rfl ?_
        refine v_callV1 (q := 40) (As := [_]) hC dX12_meeting_37 rfl lX12_221 mX12_fewest iX12_fewest eX12_fewest rfl ((hS1.lay hL).1 53 (by decide)) (ct_X12_fewest (d + 4) (hS1.lay hL) hz9 (show p < 6 by omega)) rfl rfl (by omega) rfl (Nat.le_of_ble_eq_true rfl) ?_
        rw [pK_len hn6 hpp]
        refine v_istore_n (q := 41) (L' := [_, _, _, _, _, _, _, _, _, _]) hC dX12_meeting_40 rfl rfl (by decide) rfl rfl ?_
        refine v_iconst (q := 42) (v := -1) hC dX12_meeting_41 rfl (by decide) ?_
        refine v_istore (q := 44) (L' := [_, _, _, _, _, _, _, _, _, _]) hC dX12_meeting_42 rfl (by decide) rfl rfl ?_
        refine v_iconst (q := 45) (v := 0) hC dX12_meeting_44 rfl (by decide) ?_
        refine v_istore (q := 47) (L' := [_, _, _, _, _, _, _, _, _, _]) hC dX12_meeting_45 rfl (by decide) rfl rfl ?_
        have lp : ∀ (r : Nat) (k : Nat) (o6 o7 o8 o9 : Option Value) (σ1 : zSt), k + r = 36 → zSm [61, 62] [19, 20, 21] σ σ1 → zI σ1 53 21 = 0 → zV X 10 47 [some (.ref 53), some (.int (nI f)), some (.int (nI p)), some (.int (zo (pMq (qN S) (pKn (qKd S) (qKin S) (qMet S)) (fun q1 q2 => (pSh (qN S) (gvT (qKd S) (pGS S) q1 q2) (pNS S) (dN (qF S 0 f)) (dN (qF S 1 f)) p).map (· + 1)) ((pSh (qN S) (pGS S) (pNS S) (dN (qF S 0 f)) (dN (qF S 1 f)) p).map (· + 1)) k).1)), some (.int (zo (pMq (qN S) (pKn (qKd S) (qKin S) (qMet S)) (fun q1 q2 => (pSh (qN S) (gvT (qKd S) (pGS S) q1 q2) (pNS S) (dN (qF S 0 f)) (dN (qF S 1 f)) p).map (· + 1)) ((pSh (qN S) (pGS S) (pNS S) (dN (qF S 0 f)) (dN (qF S 1 f)) p).map (· + 1)) k).2)), some (.int (nI k)), o6, o7, o8, o9] [] 0 0 σ1 := by
          intro r
          induction r with
          | zero =>
            intro k o6 o7 o8 o9 σ1 hkk hS h21
            have hL1 := hS.lay hL
            have hF1 := hF.sm hS rfl rfl
            have hd1 := hd.sm hS rfl rfl
            have hs1 : zMs σ1 none none := ⟨by rw [hS.2 18 (by simp)]; exact hs.1, h21⟩
            refine v_iload (q := 49) hC dX12_meeting_47 rfl rfl ?_
            refine v_bipush (q := 51) (v := 36) hC dX12_meeting_49 rfl (by decide) ?_
            refine v_icmp_ge (q := 54) (tgt := 185) hC dX12_meeting_51 rfl (by decide) (fun h51 => ?_) (fun h51 => ?_)
            · refine v_iload (q := 187) hC dX12_meeting_185 rfl rfl ?_
              refine v_ireturn hC hB dX12_meeting_187 ⟨Nat.le_refl _, Nat.le_refl _⟩ ?_
              have e : k = 36 := by omega
              subst e
              exact zQs.mk (S' := S) eB ⟨hS.lay hL, hp.sm hS rfl rfl, hF.sm hS rfl rfl, hd.sm hS rfl rfl, hs1, hk.sm hS rfl, hy.sm hS rfl rfl, he.sm hS rfl rfl⟩ (hS.fm rfl)
            · exact absurd (nI_le (a := 36) (b := k) (by omega) (by omega)) h51
          | succ r ih =>
            intro k o6 o7 o8 o9 σ1 hkk hS h21
            have hL1 := hS.lay hL
            have hF1 := hF.sm hS rfl rfl
            have hd1 := hd.sm hS rfl rfl
            have hs1 : zMs σ1 none none := ⟨by rw [hS.2 18 (by simp)]; exact hs.1, h21⟩
            refine v_iload (q := 49) hC dX12_meeting_47 rfl rfl ?_
            refine v_bipush (q := 51) (v := 36) hC dX12_meeting_49 rfl (by decide) ?_
            refine v_icmp_ge (q := 54) (tgt := 185) hC dX12_meeting_51 rfl (by decide) (fun h51 => ?_) (fun h51 => ?_)
            · exact absurd h51 (nI_ge (a := k) (b := 36) (by omega) (by omega))
            · refine v_iload (q := 56) hC dX12_meeting_54 rfl rfl ?_
              refine v_bipush (q := 58) (v := 6) hC dX12_meeting_56 rfl (by decide) ?_
              refine v_idiv (q := 59) hC dX12_meeting_58 rfl (by decide) ?_
              rw [zdv6 (by omega)]
              refine v_istore (q := 61) (L' := [_, _, _, _, _, _, _, _, _, _]) hC dX12_meeting_59 rfl (by decide) rfl rfl ?_
              refine v_iload (q := 63) hC dX12_meeting_61 rfl rfl ?_
              refine v_bipush (q := 65) (v := 6) hC dX12_meeting_63 rfl (by decide) ?_
              refine v_irem (q := 66) hC dX12_meeting_65 rfl (by decide) ?_
              rw [zrm6 (by omega)]
              refine v_istore (q := 68) (L' := [_, _, _, _, _, _, _, _, _, _]) hC dX12_meeting_66 rfl (by decide) rfl rfl ?_
              refine v_iload (q := 70) hC dX12_meeting_68 rfl rfl ?_
              refine v_iload (q := 72) hC dX12_meeting_70 rfl rfl ?_
              have c72 : nI (k % 6) ≤ nI (k / 6) ↔ k % 6 ≤ k / 6 := nI_leI (by omega) (by omega)
              have c81 : nI (qN S) ≤ nI (k % 6) ↔ qN S ≤ k % 6 := nI_leI (by omega) (by omega)
              refine v_icmp_ge (q := 75) (tgt := 179) hC dX12_meeting_72 rfl (by decide) (fun h72 => ?_) (fun h72 => ?_)
              · refine v_iinc (q := 182) (v := 1) (L' := [_, _, _, _, _, _, _, _, _, _]) hC dX12_meeting_179 rfl rfl (by decide) (by decide) rfl rfl ?_
                refine v_goto (q := 47) hC dX12_meeting_182 (by decide) ?_
                rw [nI_1 k]
                have eQ : (pMq (qN S) (pKn (qKd S) (qKin S) (qMet S)) (fun q1 q2 => (pSh (qN S) (gvT (qKd S) (pGS S) q1 q2) (pNS S) (dN (qF S 0 f)) (dN (qF S 1 f)) p).map (· + 1)) ((pSh (qN S) (pGS S) (pNS S) (dN (qF S 0 f)) (dN (qF S 1 f)) p).map (· + 1)) (k + 1)) = (pMq (qN S) (pKn (qKd S) (qKin S) (qMet S)) (fun q1 q2 => (pSh (qN S) (gvT (qKd S) (pGS S) q1 q2) (pNS S) (dN (qF S 0 f)) (dN (qF S 1 f)) p).map (· + 1)) ((pSh (qN S) (pGS S) (pNS S) (dN (qF S 0 f)) (dN (qF S 1 f)) p).map (· + 1)) k) := if_neg (by first | exact fun z => absurd z.1 (Nat.not_lt.mpr (c72.mp h72)) | exact fun z => absurd z.2.1 (Nat.not_lt.mpr (c81.mp h81)) | exact fun z => h92 (zb_eq0.mpr z.2.2))
                rw [← eQ]
                exact ih (k + 1) _ _ _ _ σ1 (by omega) hS h21
              · refine v_iload (q := 77) hC dX12_meeting_75 rfl rfl ?_
                refine v_aload_n (q := 78) hC dX12_meeting_77 rfl rfl rfl ?_
                refine v_getI (q := 81) hC dX12_meeting_78 rfl fX12_126 (hL1.1 53 (by decide)) ?_
                rw [hF1.1]
                refine v_icmp_ge (q := 84) (tgt := 179) hC dX12_meeting_81 rfl (by decide) (fun h81 => ?_) (fun h81 => ?_)
                · refine v_iinc (q := 182) (v := 1) (L' := [_, _, _, _, _, _, _, _, _, _]) hC dX12_meeting_179 rfl rfl (by decide) (by decide) rfl rfl ?_
                  refine v_goto (q := 47) hC dX12_meeting_182 (by decide) ?_
                  rw [nI_1 k]
                  have eQ : (pMq (qN S) (pKn (qKd S) (qKin S) (qMet S)) (fun q1 q2 => (pSh (qN S) (gvT (qKd S) (pGS S) q1 q2) (pNS S) (dN (qF S 0 f)) (dN (qF S 1 f)) p).map (· + 1)) ((pSh (qN S) (pGS S) (pNS S) (dN (qF S 0 f)) (dN (qF S 1 f)) p).map (· + 1)) (k + 1)) = (pMq (qN S) (pKn (qKd S) (qKin S) (qMet S)) (fun q1 q2 => (pSh (qN S) (gvT (qKd S) (pGS S) q1 q2) (pNS S) (dN (qF S 0 f)) (dN (qF S 1 f)) p).map (· + 1)) ((pSh (qN S) (pGS S) (pNS S) (dN (qF S 0 f)) (dN (qF S 1 f)) p).map (· + 1)) k) := if_neg (by first | exact fun z => absurd z.1 (Nat.not_lt.mpr (c72.mp h72)) | exact fun z => absurd z.2.1 (Nat.not_lt.mpr (c81.mp h81)) | exact fun z => h92 (zb_eq0.mpr z.2.2))
                  rw [← eQ]
                  exact ih (k + 1) _ _ _ _ σ1 (by omega) hS h21
                · have n1 : k / 6 < k % 6 := Nat.not_le.mp (fun z => h72 (c72.mpr z))
                  have n2 : k % 6 < qN S := Nat.not_le.mp (fun z => h81 (c81.mpr z))
                  refine v_aload_n (q := 85) hC dX12_meeting_84 rfl rfl rfl ?_
                  refine v_iload (q := 87) hC dX12_meeting_85 rfl rfl ?_
                  refine v_iload (q := 89) hC dX12_meeting_87 rfl rfl ?_
                  refine v_callV1 (q := 92) (As := [_, _]) hC dX12_meeting_89 rfl lX12_154 mX12_know iX12_know eX12_know rfl (hL1.1 53 (by decide)) (ct_X12_know (d + 3) hL1 hF1 hs1 (fun g hg => by cases hg) (show k / 6 < qN S by omega) n2) rfl rfl (by omega) rfl (Nat.le_of_ble_eq_true rfl) ?_
                  rw [show pBs none (k / 6) (k % 6) = false from rfl, Bool.or_false]
                  refine v_if_ne (q := 95) (tgt := 179) hC dX12_meeting_92 rfl (by decide) (fun h92 => ?_) (fun h92 => ?_)
                  · refine v_iinc (q := 182) (v := 1) (L' := [_, _, _, _, _, _, _, _, _, _]) hC dX12_meeting_179 rfl rfl (by decide) (by decide) rfl rfl ?_
                    refine v_goto (q := 47) hC dX12_meeting_182 (by decide) ?_
                    rw [nI_1 k]
                    have eQ : (pMq (qN S) (pKn (qKd S) (qKin S) (qMet S)) (fun q1 q2 => (pSh (qN S) (gvT (qKd S) (pGS S) q1 q2) (pNS S) (dN (qF S 0 f)) (dN (qF S 1 f)) p).map (· + 1)) ((pSh (qN S) (pGS S) (pNS S) (dN (qF S 0 f)) (dN (qF S 1 f)) p).map (· + 1)) (k + 1)) = (pMq (qN S) (pKn (qKd S) (qKin S) (qMet S)) (fun q1 q2 => (pSh (qN S) (gvT (qKd S) (pGS S) q1 q2) (pNS S) (dN (qF S 0 f)) (dN (qF S 1 f)) p).map (· + 1)) ((pSh (qN S) (pGS S) (pNS S) (dN (qF S 0 f)) (dN (qF S 1 f)) p).map (· + 1)) k) := if_neg (by first | exact fun z => absurd z.1 (Nat.not_lt.mpr (c72.mp h72)) | exact fun z => absurd z.2.1 (Nat.not_lt.mpr (c81.mp h81)) | exact fun z => h92 (zb_eq0.mpr z.2.2))
                    rw [← eQ]
                    exact ih (k + 1) _ _ _ _ σ1 (by omega) hS h21
                  · have n3 := zb_eq0.mp h92
                    have eQ : (pMq (qN S) (pKn (qKd S) (qKin S) (qMet S)) (fun q1 q2 => (pSh (qN S) (gvT (qKd S) (pGS S) q1 q2) (pNS S) (dN (qF S 0 f)) (dN (qF S 1 f)) p).map (· + 1)) ((pSh (qN S) (pGS S) (pNS S) (dN (qF S 0 f)) (dN (qF S 1 f)) p).map (· + 1)) (k + 1)) = (pMs (pMq (qN S) (pKn (qKd S) (qKin S) (qMet S)) (fun q1 q2 => (pSh (qN S) (gvT (qKd S) (pGS S) q1 q2) (pNS S) (dN (qF S 0 f)) (dN (qF S 1 f)) p).map (· + 1)) ((pSh (qN S) (pGS S) (pNS S) (dN (qF S 0 f)) (dN (qF S 1 f)) p).map (· + 1)) k) ((pSh (qN S) (gvT (qKd S) (pGS S) (k / 6) (k % 6)) (pNS S) (dN (qF S 0 f)) (dN (qF S 1 f)) p).map (· + 1)) k) := if_pos ⟨n1, n2, n3⟩
                    have hS2 : zSm [61, 62] [19, 20, 21] σ (zsI (zsI (zsI σ1 53 19 (nI (k / 6))) 53 20 (nI (k % 6))) 53 21 1) := ((hS.o (by simp)).o (by simp)).o (by simp)
                    have hs2 : zMs (zsI (zsI (zsI σ1 53 19 (nI (k / 6))) 53 20 (nI (k % 6))) 53 21 1) none (some (k / 6, k % 6)) := ⟨by rw [hS2.2 18 (by simp)]; exact hs.1, by omega, by omega, zI_eq, by rw [zI_ne (by omega), zI_ne (by omega), zI_eq], by rw [zI_ne (by omega), zI_eq]⟩
                    refine v_aload_n (q := 96) hC dX12_meeting_95 rfl rfl rfl ?_
                    refine v_iload (q := 98) hC dX12_meeting_96 rfl rfl ?_
                    refine v_putI (q := 101) hC dX12_meeting_98 rfl fX12_144 (hL1.1 53 (by decide)) ?_
                    refine v_aload_n (q := 102) hC dX12_meeting_101 rfl rfl rfl ?_
                    refine v_iload (q := 104) hC dX12_meeting_102 rfl rfl ?_
                    refine v_putI (q := 107) hC dX12_meeting_104 rfl fX12_147 (hL1.1 53 (by decide)) ?_
                    refine v_aload_n (q := 108) hC dX12_meeting_107 rfl rfl rfl ?_
                    refine v_iconst (q := 109) (v := 1) hC dX12_meeting_108 rfl (by decide) ?_
                    refine v_putI (q := 112) hC dX12_meeting_109 rfl fX12_141 (hL1.1 53 (by decide)) ?_
                    refine v_aload_n (q := 113) hC dX12_meeting_112 rfl rfl rfl ?_
                    refine v_iload_n (q := 114) hC dX12_meeting_113 rfl rfl rfl ?_
                    refine v_callVQ (q := 117) (As := [_]) hC dX12_meeting_114 rfl lX12_224 mX12_layWays iX12_layWays eX12_layWays rfl ((hS2.lay hL).1 53 (by decide)) (ct_X12_layWays (d + 1) (hS2.lay hL) (hF.sm hS2 rfl rfl) (hd.sm hS2 rfl rfl) hs2 (fun g hg => by cases hg) hsy hf e0 e1 hi hh0) rfl rfl (by omega) (by decide) (Nat.le_of_ble_eq_true rfl) ?_
                    rintro _ σ3 ⟨rfl, hS3, hz3⟩
                    rw [gvS_T n1] at hz3
                    have hS30 : zSm [61, 62] [19, 20, 21] σ σ3 := hS2.tr (hS3.mono (by simp) (by simp))
                    have hL3 := hS30.lay hL
                    have hS4 : zSm [61, 62] [19, 20, 21] σ (zsI σ3 53 21 0) := hS30.o (by simp)
                    have hL4 := hS4.lay hL
                    have h214 : zI (zsI σ3 53 21 0) 53 21 = 0 := zI_eq
                    have hz4 : zFar (zsI σ3 53 21 0) (pMk (qN S) (pCd (qN S) (gvT (qKd S) (pGS S) (k / 6) (k % 6)) (pNS S) (dN (qF S 0 f)) (dN (qF S 1 f)) 8)) := fun h w hh hw => by rw [zI_ne (by omega), zI_ne (by omega)]; exact hz3 h w hh hw
                    refine v_aload_n (q := 118) hC dX12_meeting_117 rfl rfl rfl ?_
                    refine v_iconst (q := 119) (v := 0) hC dX12_meeting_118 rfl (by decide) ?_
                    refine v_putI (q := 122) hC dX12_meeting_119 rfl fX12_141 (hL3.1 53 (by decide)) ?_
                    refine v_aload_n (q := 123) hC dX12_meeting_122 rfl rfl rfl ?_
                    refine v_iload_n (q := 124) hC dX12_meeting_123 rfl rfl rfl ?_
                    refine v_callV1 (q := 127) (As := [_]) hC dX12_meeting_124 rfl lX12_221 mX12_fewest iX12_fewest eX12_fewest rfl (hL4.1 53 (by decide)) (ct_X12_fewest (d + 4) hL4 hz4 (show p < 6 by omega)) rfl rfl (by omega) rfl (Nat.le_of_ble_eq_true rfl) ?_
                    rw [pK_len hn6 hpp]
                    have sl : pSm ((pSh (qN S) (gvT (qKd S) (pGS S) (k / 6) (k % 6)) (pNS S) (dN (qF S 0 f)) (dN (qF S 1 f)) p).map (· + 1)) := pSm_sh
                    have sm : pSm (pMq (qN S) (pKn (qKd S) (qKin S) (qMet S)) (fun q1 q2 => (pSh (qN S) (gvT (qKd S) (pGS S) q1 q2) (pNS S) (dN (qF S 0 f)) (dN (qF S 1 f)) p).map (· + 1)) ((pSh (qN S) (pGS S) (pNS S) (dN (qF S 0 f)) (dN (qF S 1 f)) p).map (· + 1)) k).1 := pMq_sm pSm_sh (fun x y => pSm_sh) k
                    refine v_istore (q := 129) (L' := [_, _, _, _, _, _, _, _, _, _]) hC dX12_meeting_127 rfl (by decide) rfl rfl ?_
                    refine v_iload (q := 131) hC dX12_meeting_129 rfl rfl ?_
                    refine v_iconst (q := 132) (v := -1) hC dX12_meeting_131 rfl (by decide) ?_
                    refine v_icmp_eq (q := 135) (tgt := 150) hC dX12_meeting_132 rfl (by decide) (fun h132 => ?_) (fun h132 => ?_)
                    · refine v_iconst (q := 151) (v := 0) hC dX12_meeting_150 rfl (by decide) ?_
                      generalize zsI σ3 53 21 0 = σ4 at hS4 hL4 h214 hz4 ⊢
                      have j151 : ∀ bt : Bool, ((bt = true ∧ zo ((pSh (qN S) (gvT (qKd S) (pGS S) (k / 6) (k % 6)) (pNS S) (dN (qF S 0 f)) (dN (qF S 1 f)) p).map (· + 1)) = zo (pMs (pMq (qN S) (pKn (qKd S) (qKin S) (qMet S)) (fun q1 q2 => (pSh (qN S) (gvT (qKd S) (pGS S) q1 q2) (pNS S) (dN (qF S 0 f)) (dN (qF S 1 f)) p).map (· + 1)) ((pSh (qN S) (pGS S) (pNS S) (dN (qF S 0 f)) (dN (qF S 1 f)) p).map (· + 1)) k) ((pSh (qN S) (gvT (qKd S) (pGS S) (k / 6) (k % 6)) (pNS S) (dN (qF S 0 f)) (dN (qF S 1 f)) p).map (· + 1)) k).1 ∧ nI k = zo (pMs (pMq (qN S) (pKn (qKd S) (qKin S) (qMet S)) (fun q1 q2 => (pSh (qN S) (gvT (qKd S) (pGS S) q1 q2) (pNS S) (dN (qF S 0 f)) (dN (qF S 1 f)) p).map (· + 1)) ((pSh (qN S) (pGS S) (pNS S) (dN (qF S 0 f)) (dN (qF S 1 f)) p).map (· + 1)) k) ((pSh (qN S) (gvT (qKd S) (pGS S) (k / 6) (k % 6)) (pNS S) (dN (qF S 0 f)) (dN (qF S 1 f)) p).map (· + 1)) k).2) ∨ (bt = false ∧ (pMq (qN S) (pKn (qKd S) (qKin S) (qMet S)) (fun q1 q2 => (pSh (qN S) (gvT (qKd S) (pGS S) q1 q2) (pNS S) (dN (qF S 0 f)) (dN (qF S 1 f)) p).map (· + 1)) ((pSh (qN S) (pGS S) (pNS S) (dN (qF S 0 f)) (dN (qF S 1 f)) p).map (· + 1)) k) = (pMs (pMq (qN S) (pKn (qKd S) (qKin S) (qMet S)) (fun q1 q2 => (pSh (qN S) (gvT (qKd S) (pGS S) q1 q2) (pNS S) (dN (qF S 0 f)) (dN (qF S 1 f)) p).map (· + 1)) ((pSh (qN S) (pGS S) (pNS S) (dN (qF S 0 f)) (dN (qF S 1 f)) p).map (· + 1)) k) ((pSh (qN S) (gvT (qKd S) (pGS S) (k / 6) (k % 6)) (pNS S) (dN (qF S 0 f)) (dN (qF S 1 f)) p).map (· + 1)) k))) → zV X 10 151 [some (.ref 53), some (.int (nI f)), some (.int (nI p)), some (.int (zo (pMq (qN S) (pKn (qKd S) (qKin S) (qMet S)) (fun q1 q2 => (pSh (qN S) (gvT (qKd S) (pGS S) q1 q2) (pNS S) (dN (qF S 0 f)) (dN (qF S 1 f)) p).map (· + 1)) ((pSh (qN S) (pGS S) (pNS S) (dN (qF S 0 f)) (dN (qF S 1 f)) p).map (· + 1)) k).1)), some (.int (zo (pMq (qN S) (pKn (qKd S) (qKin S) (qMet S)) (fun q1 q2 => (pSh (qN S) (gvT (qKd S) (pGS S) q1 q2) (pNS S) (dN (qF S 0 f)) (dN (qF S 1 f)) p).map (· + 1)) ((pSh (qN S) (pGS S) (pNS S) (dN (qF S 0 f)) (dN (qF S 1 f)) p).map (· + 1)) k).2)), some (.int (nI k)), some (.int (nI (k / 6))), some (.int (nI (k % 6))), some (.int (zo ((pSh (qN S) (gvT (qKd S) (pGS S) (k / 6) (k % 6)) (pNS S) (dN (qF S 0 f)) (dN (qF S 1 f)) p).map (· + 1)))), o9] [.int (zb bt)] 0 0 σ4 := by
                        intro bt hbt
                        refine v_istore (q := 153) (L' := [_, _, _, _, _, _, _, _, _, _]) hC dX12_meeting_151 rfl (by decide) rfl rfl ?_
                        refine v_iload (q := 155) hC dX12_meeting_153 rfl rfl ?_
                        refine v_if_eq (q := 158) (tgt := 163) hC dX12_meeting_155 rfl (by decide) (fun h155 => ?_) (fun h155 => ?_)
                        · refine v_iload (q := 165) hC dX12_meeting_163 rfl rfl ?_
                          refine v_istore (q := 167) (L' := [_, _, _, _, _, _, _, _, _, _]) hC dX12_meeting_165 rfl (by decide) rfl rfl ?_
                          refine v_iload (q := 169) hC dX12_meeting_167 rfl rfl ?_
                          refine v_if_eq (q := 172) (tgt := 177) hC dX12_meeting_169 rfl (by decide) (fun h169 => ?_) (fun h169 => ?_)
                          · refine v_iload_n (q := 178) hC dX12_meeting_177 rfl rfl rfl ?_
                            refine v_istore_n (q := 179) (L' := [_, _, _, _, _, _, _, _, _, _]) hC dX12_meeting_178 rfl rfl (by decide) rfl rfl ?_
                            refine v_iinc (q := 182) (v := 1) (L' := [_, _, _, _, _, _, _, _, _, _]) hC dX12_meeting_179 rfl rfl (by decide) (by decide) rfl rfl ?_
                            refine v_goto (q := 47) hC dX12_meeting_182 (by decide) ?_
                            rw [nI_1 k]
                            first
                              | exact absurd h155 h169
                              | exact absurd h169 h155
                              | (have hb1 := zb_ne h155
                                 obtain ⟨-, q1, q2⟩ := hbt.resolve_right (fun z => by rw [z.1] at hb1; cases hb1)
                                 rw [q1, q2]
                                 rw [← eQ]
                                 exact ih (k + 1) _ _ _ _ σ4 (by omega) hS4 h214)
                              | (have hb1 := zb_eq0.mp h155
                                 obtain ⟨-, q1⟩ := hbt.resolve_left (fun z => by rw [z.1] at hb1; cases hb1)
                                 rw [q1, ← eQ]
                                 exact ih (k + 1) _ _ _ _ σ4 (by omega) hS4 h214)
                          · refine v_iload (q := 174) hC dX12_meeting_172 rfl rfl ?_
                            refine v_goto (q := 178) hC dX12_meeting_174 (by decide) ?_
                            refine v_istore_n (q := 179) (L' := [_, _, _, _, _, _, _, _, _, _]) hC dX12_meeting_178 rfl rfl (by decide) rfl rfl ?_
                            refine v_iinc (q := 182) (v := 1) (L' := [_, _, _, _, _, _, _, _, _, _]) hC dX12_meeting_179 rfl rfl (by decide) (by decide) rfl rfl ?_
                            refine v_goto (q := 47) hC dX12_meeting_182 (by decide) ?_
                            rw [nI_1 k]
                            first
                              | exact absurd h155 h169
                              | exact absurd h169 h155
                              | (have hb1 := zb_ne h155
                                 obtain ⟨-, q1, q2⟩ := hbt.resolve_right (fun z => by rw [z.1] at hb1; cases hb1)
                                 rw [q1, q2]
                                 rw [← eQ]
                                 exact ih (k + 1) _ _ _ _ σ4 (by omega) hS4 h214)
                              | (have hb1 := zb_eq0.mp h155
                                 obtain ⟨-, q1⟩ := hbt.resolve_left (fun z => by rw [z.1] at hb1; cases hb1)
                                 rw [q1, ← eQ]
                                 exact ih (k + 1) _ _ _ _ σ4 (by omega) hS4 h214)
                        · refine v_iload (q := 160) hC dX12_meeting_158 rfl rfl ?_
                          refine v_goto (q := 165) hC dX12_meeting_160 (by decide) ?_
                          refine v_istore (q := 167) (L' := [_, _, _, _, _, _, _, _, _, _]) hC dX12_meeting_165 rfl (by decide) rfl rfl ?_
                          refine v_iload (q := 169) hC dX12_meeting_167 rfl rfl ?_
                          refine v_if_eq (q := 172) (tgt := 177) hC dX12_meeting_169 rfl (by decide) (fun h169 => ?_) (fun h169 => ?_)
                          · refine v_iload_n (q := 178) hC dX12_meeting_177 rfl rfl rfl ?_
                            refine v_istore_n (q := 179) (L' := [_, _, _, _, _, _, _, _, _, _]) hC dX12_meeting_178 rfl rfl (by decide) rfl rfl ?_
                            refine v_iinc (q := 182) (v := 1) (L' := [_, _, _, _, _, _, _, _, _, _]) hC dX12_meeting_179 rfl rfl (by decide) (by decide) rfl rfl ?_
                            refine v_goto (q := 47) hC dX12_meeting_182 (by decide) ?_
                            rw [nI_1 k]
                            first
                              | exact absurd h155 h169
                              | exact absurd h169 h155
                              | (have hb1 := zb_ne h155
                                 obtain ⟨-, q1, q2⟩ := hbt.resolve_right (fun z => by rw [z.1] at hb1; cases hb1)
                                 rw [q1, q2]
                                 rw [← eQ]
                                 exact ih (k + 1) _ _ _ _ σ4 (by omega) hS4 h214)
                              | (have hb1 := zb_eq0.mp h155
                                 obtain ⟨-, q1⟩ := hbt.resolve_left (fun z => by rw [z.1] at hb1; cases hb1)
                                 rw [q1, ← eQ]
                                 exact ih (k + 1) _ _ _ _ σ4 (by omega) hS4 h214)
                          · refine v_iload (q := 174) hC dX12_meeting_172 rfl rfl ?_
                            refine v_goto (q := 178) hC dX12_meeting_174 (by decide) ?_
                            refine v_istore_n (q := 179) (L' := [_, _, _, _, _, _, _, _, _, _]) hC dX12_meeting_178 rfl rfl (by decide) rfl rfl ?_
                            refine v_iinc (q := 182) (v := 1) (L' := [_, _, _, _, _, _, _, _, _, _]) hC dX12_meeting_179 rfl rfl (by decide) (by decide) rfl rfl ?_
                            refine v_goto (q := 47) hC dX12_meeting_182 (by decide) ?_
                            rw [nI_1 k]
                            first
                              | exact absurd h155 h169
                              | exact absurd h169 h155
                              | (have hb1 := zb_ne h155
                                 obtain ⟨-, q1, q2⟩ := hbt.resolve_right (fun z => by rw [z.1] at hb1; cases hb1)
                                 rw [q1, q2]
                                 rw [← eQ]
                                 exact ih (k + 1) _ _ _ _ σ4 (by omega) hS4 h214)
                              | (have hb1 := zb_eq0.mp h155
                                 obtain ⟨-, q1⟩ := hbt.resolve_left (fun z => by rw [z.1] at hb1; cases hb1)
                                 rw [q1, ← eQ]
                                 exact ih (k + 1) _ _ _ _ σ4 (by omega) hS4 h214)
                      first
                        | exact j151 true (Or.inl ⟨rfl, zmt1 sl sm h132 (Or.inl h137)⟩)
                        | exact j151 true (Or.inl ⟨rfl, zmt1 sl sm h132 (Or.inr h143)⟩)
                        | exact j151 false (Or.inr ⟨rfl, zmt0 sl sm (Or.inl h132)⟩)
                        | exact j151 false (Or.inr ⟨rfl, zmt0 sl sm (Or.inr ⟨h137, h143⟩)⟩)
                    · refine v_iload_n (q := 136) hC dX12_meeting_135 rfl rfl rfl ?_
                      refine v_iconst (q := 137) (v := -1) hC dX12_meeting_136 rfl (by decide) ?_
                      refine v_icmp_eq (q := 140) (tgt := 146) hC dX12_meeting_137 rfl (by decide) (fun h137 => ?_) (fun h137 => ?_)
                      · refine v_iconst (q := 147) (v := 1) hC dX12_meeting_146 rfl (by decide) ?_
                        refine v_goto (q := 151) hC dX12_meeting_147 (by decide) ?_
                        generalize zsI σ3 53 21 0 = σ4 at hS4 hL4 h214 hz4 ⊢
                        have j151 : ∀ bt : Bool, ((bt = true ∧ zo ((pSh (qN S) (gvT (qKd S) (pGS S) (k / 6) (k % 6)) (pNS S) (dN (qF S 0 f)) (dN (qF S 1 f)) p).map (· + 1)) = zo (pMs (pMq (qN S) (pKn (qKd S) (qKin S) (qMet S)) (fun q1 q2 => (pSh (qN S) (gvT (qKd S) (pGS S) q1 q2) (pNS S) (dN (qF S 0 f)) (dN (qF S 1 f)) p).map (· + 1)) ((pSh (qN S) (pGS S) (pNS S) (dN (qF S 0 f)) (dN (qF S 1 f)) p).map (· + 1)) k) ((pSh (qN S) (gvT (qKd S) (pGS S) (k / 6) (k % 6)) (pNS S) (dN (qF S 0 f)) (dN (qF S 1 f)) p).map (· + 1)) k).1 ∧ nI k = zo (pMs (pMq (qN S) (pKn (qKd S) (qKin S) (qMet S)) (fun q1 q2 => (pSh (qN S) (gvT (qKd S) (pGS S) q1 q2) (pNS S) (dN (qF S 0 f)) (dN (qF S 1 f)) p).map (· + 1)) ((pSh (qN S) (pGS S) (pNS S) (dN (qF S 0 f)) (dN (qF S 1 f)) p).map (· + 1)) k) ((pSh (qN S) (gvT (qKd S) (pGS S) (k / 6) (k % 6)) (pNS S) (dN (qF S 0 f)) (dN (qF S 1 f)) p).map (· + 1)) k).2) ∨ (bt = false ∧ (pMq (qN S) (pKn (qKd S) (qKin S) (qMet S)) (fun q1 q2 => (pSh (qN S) (gvT (qKd S) (pGS S) q1 q2) (pNS S) (dN (qF S 0 f)) (dN (qF S 1 f)) p).map (· + 1)) ((pSh (qN S) (pGS S) (pNS S) (dN (qF S 0 f)) (dN (qF S 1 f)) p).map (· + 1)) k) = (pMs (pMq (qN S) (pKn (qKd S) (qKin S) (qMet S)) (fun q1 q2 => (pSh (qN S) (gvT (qKd S) (pGS S) q1 q2) (pNS S) (dN (qF S 0 f)) (dN (qF S 1 f)) p).map (· + 1)) ((pSh (qN S) (pGS S) (pNS S) (dN (qF S 0 f)) (dN (qF S 1 f)) p).map (· + 1)) k) ((pSh (qN S) (gvT (qKd S) (pGS S) (k / 6) (k % 6)) (pNS S) (dN (qF S 0 f)) (dN (qF S 1 f)) p).map (· + 1)) k))) → zV X 10 151 [some (.ref 53), some (.int (nI f)), some (.int (nI p)), some (.int (zo (pMq (qN S) (pKn (qKd S) (qKin S) (qMet S)) (fun q1 q2 => (pSh (qN S) (gvT (qKd S) (pGS S) q1 q2) (pNS S) (dN (qF S 0 f)) (dN (qF S 1 f)) p).map (· + 1)) ((pSh (qN S) (pGS S) (pNS S) (dN (qF S 0 f)) (dN (qF S 1 f)) p).map (· + 1)) k).1)), some (.int (zo (pMq (qN S) (pKn (qKd S) (qKin S) (qMet S)) (fun q1 q2 => (pSh (qN S) (gvT (qKd S) (pGS S) q1 q2) (pNS S) (dN (qF S 0 f)) (dN (qF S 1 f)) p).map (· + 1)) ((pSh (qN S) (pGS S) (pNS S) (dN (qF S 0 f)) (dN (qF S 1 f)) p).map (· + 1)) k).2)), some (.int (nI k)), some (.int (nI (k / 6))), some (.int (nI (k % 6))), some (.int (zo ((pSh (qN S) (gvT (qKd S) (pGS S) (k / 6) (k % 6)) (pNS S) (dN (qF S 0 f)) (dN (qF S 1 f)) p).map (· + 1)))), o9] [.int (zb bt)] 0 0 σ4 := by
                          intro bt hbt
                          refine v_istore (q := 153) (L' := [_, _, _, _, _, _, _, _, _, _]) hC dX12_meeting_151 rfl (by decide) rfl rfl ?_
                          refine v_iload (q := 155) hC dX12_meeting_153 rfl rfl ?_
                          refine v_if_eq (q := 158) (tgt := 163) hC dX12_meeting_155 rfl (by decide) (fun h155 => ?_) (fun h155 => ?_)
                          · refine v_iload (q := 165) hC dX12_meeting_163 rfl rfl ?_
                            refine v_istore (q := 167) (L' := [_, _, _, _, _, _, _, _, _, _]) hC dX12_meeting_165 rfl (by decide) rfl rfl ?_
                            refine v_iload (q := 169) hC dX12_meeting_167 rfl rfl ?_
                            refine v_if_eq (q := 172) (tgt := 177) hC dX12_meeting_169 rfl (by decide) (fun h169 => ?_) (fun h169 => ?_)
                            · refine v_iload_n (q := 178) hC dX12_meeting_177 rfl rfl rfl ?_
                              refine v_istore_n (q := 179) (L' := [_, _, _, _, _, _, _, _, _, _]) hC dX12_meeting_178 rfl rfl (by decide) rfl rfl ?_
                              refine v_iinc (q := 182) (v := 1) (L' := [_, _, _, _, _, _, _, _, _, _]) hC dX12_meeting_179 rfl rfl (by decide) (by decide) rfl rfl ?_
                              refine v_goto (q := 47) hC dX12_meeting_182 (by decide) ?_
                              rw [nI_1 k]
                              first
                                | exact absurd h155 h169
                                | exact absurd h169 h155
                                | (have hb1 := zb_ne h155
                                   obtain ⟨-, q1, q2⟩ := hbt.resolve_right (fun z => by rw [z.1] at hb1; cases hb1)
                                   rw [q1, q2]
                                   rw [← eQ]
                                   exact ih (k + 1) _ _ _ _ σ4 (by omega) hS4 h214)
                                | (have hb1 := zb_eq0.mp h155
                                   obtain ⟨-, q1⟩ := hbt.resolve_left (fun z => by rw [z.1] at hb1; cases hb1)
                                   rw [q1, ← eQ]
                                   exact ih (k + 1) _ _ _ _ σ4 (by omega) hS4 h214)
                            · refine v_iload (q := 174) hC dX12_meeting_172 rfl rfl ?_
                              refine v_goto (q := 178) hC dX12_meeting_174 (by decide) ?_
                              refine v_istore_n (q := 179) (L' := [_, _, _, _, _, _, _, _, _, _]) hC dX12_meeting_178 rfl rfl (by decide) rfl rfl ?_
                              refine v_iinc (q := 182) (v := 1) (L' := [_, _, _, _, _, _, _, _, _, _]) hC dX12_meeting_179 rfl rfl (by decide) (by decide) rfl rfl ?_
                              refine v_goto (q := 47) hC dX12_meeting_182 (by decide) ?_
                              rw [nI_1 k]
                              first
                                | exact absurd h155 h169
                                | exact absurd h169 h155
                                | (have hb1 := zb_ne h155
                                   obtain ⟨-, q1, q2⟩ := hbt.resolve_right (fun z => by rw [z.1] at hb1; cases hb1)
                                   rw [q1, q2]
                                   rw [← eQ]
                                   exact ih (k + 1) _ _ _ _ σ4 (by omega) hS4 h214)
                                | (have hb1 := zb_eq0.mp h155
                                   obtain ⟨-, q1⟩ := hbt.resolve_left (fun z => by rw [z.1] at hb1; cases hb1)
                                   rw [q1, ← eQ]
                                   exact ih (k + 1) _ _ _ _ σ4 (by omega) hS4 h214)
                          · refine v_iload (q := 160) hC dX12_meeting_158 rfl rfl ?_
                            refine v_goto (q := 165) hC dX12_meeting_160 (by decide) ?_
                            refine v_istore (q := 167) (L' := [_, _, _, _, _, _, _, _, _, _]) hC dX12_meeting_165 rfl (by decide) rfl rfl ?_
                            refine v_iload (q := 169) hC dX12_meeting_167 rfl rfl ?_
                            refine v_if_eq (q := 172) (tgt := 177) hC dX12_meeting_169 rfl (by decide) (fun h169 => ?_) (fun h169 => ?_)
                            · refine v_iload_n (q := 178) hC dX12_meeting_177 rfl rfl rfl ?_
                              refine v_istore_n (q := 179) (L' := [_, _, _, _, _, _, _, _, _, _]) hC dX12_meeting_178 rfl rfl (by decide) rfl rfl ?_
                              refine v_iinc (q := 182) (v := 1) (L' := [_, _, _, _, _, _, _, _, _, _]) hC dX12_meeting_179 rfl rfl (by decide) (by decide) rfl rfl ?_
                              refine v_goto (q := 47) hC dX12_meeting_182 (by decide) ?_
                              rw [nI_1 k]
                              first
                                | exact absurd h155 h169
                                | exact absurd h169 h155
                                | (have hb1 := zb_ne h155
                                   obtain ⟨-, q1, q2⟩ := hbt.resolve_right (fun z => by rw [z.1] at hb1; cases hb1)
                                   rw [q1, q2]
                                   rw [← eQ]
                                   exact ih (k + 1) _ _ _ _ σ4 (by omega) hS4 h214)
                                | (have hb1 := zb_eq0.mp h155
                                   obtain ⟨-, q1⟩ := hbt.resolve_left (fun z => by rw [z.1] at hb1; cases hb1)
                                   rw [q1, ← eQ]
                                   exact ih (k + 1) _ _ _ _ σ4 (by omega) hS4 h214)
                            · refine v_iload (q := 174) hC dX12_meeting_172 rfl rfl ?_
                              refine v_goto (q := 178) hC dX12_meeting_174 (by decide) ?_
                              refine v_istore_n (q := 179) (L' := [_, _, _, _, _, _, _, _, _, _]) hC dX12_meeting_178 rfl rfl (by decide) rfl rfl ?_
                              refine v_iinc (q := 182) (v := 1) (L' := [_, _, _, _, _, _, _, _, _, _]) hC dX12_meeting_179 rfl rfl (by decide) (by decide) rfl rfl ?_
                              refine v_goto (q := 47) hC dX12_meeting_182 (by decide) ?_
                              rw [nI_1 k]
                              first
                                | exact absurd h155 h169
                                | exact absurd h169 h155
                                | (have hb1 := zb_ne h155
                                   obtain ⟨-, q1, q2⟩ := hbt.resolve_right (fun z => by rw [z.1] at hb1; cases hb1)
                                   rw [q1, q2]
                                   rw [← eQ]
                                   exact ih (k + 1) _ _ _ _ σ4 (by omega) hS4 h214)
                                | (have hb1 := zb_eq0.mp h155
                                   obtain ⟨-, q1⟩ := hbt.resolve_left (fun z => by rw [z.1] at hb1; cases hb1)
                                   rw [q1, ← eQ]
                                   exact ih (k + 1) _ _ _ _ σ4 (by omega) hS4 h214)
                        first
                          | exact j151 true (Or.inl ⟨rfl, zmt1 sl sm h132 (Or.inl h137)⟩)
                          | exact j151 true (Or.inl ⟨rfl, zmt1 sl sm h132 (Or.inr h143)⟩)
                          | exact j151 false (Or.inr ⟨rfl, zmt0 sl sm (Or.inl h132)⟩)
                          | exact j151 false (Or.inr ⟨rfl, zmt0 sl sm (Or.inr ⟨h137, h143⟩)⟩)
                      · refine v_iload (q := 142) hC dX12_meeting_140 rfl rfl ?_
                        refine v_iload_n (q := 143) hC dX12_meeting_142 rfl rfl rfl ?_
                        refine v_icmp_ge (q := 146) (tgt := 150) hC dX12_meeting_143 rfl (by decide) (fun h143 => ?_) (fun h143 => ?_)
                        · refine v_iconst (q := 151) (v := 0) hC dX12_meeting_150 rfl (by decide) ?_
                          generalize zsI σ3 53 21 0 = σ4 at hS4 hL4 h214 hz4 ⊢
                          have j151 : ∀ bt : Bool, ((bt = true ∧ zo ((pSh (qN S) (gvT (qKd S) (pGS S) (k / 6) (k % 6)) (pNS S) (dN (qF S 0 f)) (dN (qF S 1 f)) p).map (· + 1)) = zo (pMs (pMq (qN S) (pKn (qKd S) (qKin S) (qMet S)) (fun q1 q2 => (pSh (qN S) (gvT (qKd S) (pGS S) q1 q2) (pNS S) (dN (qF S 0 f)) (dN (qF S 1 f)) p).map (· + 1)) ((pSh (qN S) (pGS S) (pNS S) (dN (qF S 0 f)) (dN (qF S 1 f)) p).map (· + 1)) k) ((pSh (qN S) (gvT (qKd S) (pGS S) (k / 6) (k % 6)) (pNS S) (dN (qF S 0 f)) (dN (qF S 1 f)) p).map (· + 1)) k).1 ∧ nI k = zo (pMs (pMq (qN S) (pKn (qKd S) (qKin S) (qMet S)) (fun q1 q2 => (pSh (qN S) (gvT (qKd S) (pGS S) q1 q2) (pNS S) (dN (qF S 0 f)) (dN (qF S 1 f)) p).map (· + 1)) ((pSh (qN S) (pGS S) (pNS S) (dN (qF S 0 f)) (dN (qF S 1 f)) p).map (· + 1)) k) ((pSh (qN S) (gvT (qKd S) (pGS S) (k / 6) (k % 6)) (pNS S) (dN (qF S 0 f)) (dN (qF S 1 f)) p).map (· + 1)) k).2) ∨ (bt = false ∧ (pMq (qN S) (pKn (qKd S) (qKin S) (qMet S)) (fun q1 q2 => (pSh (qN S) (gvT (qKd S) (pGS S) q1 q2) (pNS S) (dN (qF S 0 f)) (dN (qF S 1 f)) p).map (· + 1)) ((pSh (qN S) (pGS S) (pNS S) (dN (qF S 0 f)) (dN (qF S 1 f)) p).map (· + 1)) k) = (pMs (pMq (qN S) (pKn (qKd S) (qKin S) (qMet S)) (fun q1 q2 => (pSh (qN S) (gvT (qKd S) (pGS S) q1 q2) (pNS S) (dN (qF S 0 f)) (dN (qF S 1 f)) p).map (· + 1)) ((pSh (qN S) (pGS S) (pNS S) (dN (qF S 0 f)) (dN (qF S 1 f)) p).map (· + 1)) k) ((pSh (qN S) (gvT (qKd S) (pGS S) (k / 6) (k % 6)) (pNS S) (dN (qF S 0 f)) (dN (qF S 1 f)) p).map (· + 1)) k))) → zV X 10 151 [some (.ref 53), some (.int (nI f)), some (.int (nI p)), some (.int (zo (pMq (qN S) (pKn (qKd S) (qKin S) (qMet S)) (fun q1 q2 => (pSh (qN S) (gvT (qKd S) (pGS S) q1 q2) (pNS S) (dN (qF S 0 f)) (dN (qF S 1 f)) p).map (· + 1)) ((pSh (qN S) (pGS S) (pNS S) (dN (qF S 0 f)) (dN (qF S 1 f)) p).map (· + 1)) k).1)), some (.int (zo (pMq (qN S) (pKn (qKd S) (qKin S) (qMet S)) (fun q1 q2 => (pSh (qN S) (gvT (qKd S) (pGS S) q1 q2) (pNS S) (dN (qF S 0 f)) (dN (qF S 1 f)) p).map (· + 1)) ((pSh (qN S) (pGS S) (pNS S) (dN (qF S 0 f)) (dN (qF S 1 f)) p).map (· + 1)) k).2)), some (.int (nI k)), some (.int (nI (k / 6))), some (.int (nI (k % 6))), some (.int (zo ((pSh (qN S) (gvT (qKd S) (pGS S) (k / 6) (k % 6)) (pNS S) (dN (qF S 0 f)) (dN (qF S 1 f)) p).map (· + 1)))), o9] [.int (zb bt)] 0 0 σ4 := by
                            intro bt hbt
                            refine v_istore (q := 153) (L' := [_, _, _, _, _, _, _, _, _, _]) hC dX12_meeting_151 rfl (by decide) rfl rfl ?_
                            refine v_iload (q := 155) hC dX12_meeting_153 rfl rfl ?_
                            refine v_if_eq (q := 158) (tgt := 163) hC dX12_meeting_155 rfl (by decide) (fun h155 => ?_) (fun h155 => ?_)
                            · refine v_iload (q := 165) hC dX12_meeting_163 rfl rfl ?_
                              refine v_istore (q := 167) (L' := [_, _, _, _, _, _, _, _, _, _]) hC dX12_meeting_165 rfl (by decide) rfl rfl ?_
                              refine v_iload (q := 169) hC dX12_meeting_167 rfl rfl ?_
                              refine v_if_eq (q := 172) (tgt := 177) hC dX12_meeting_169 rfl (by decide) (fun h169 => ?_) (fun h169 => ?_)
                              · refine v_iload_n (q := 178) hC dX12_meeting_177 rfl rfl rfl ?_
                                refine v_istore_n (q := 179) (L' := [_, _, _, _, _, _, _, _, _, _]) hC dX12_meeting_178 rfl rfl (by decide) rfl rfl ?_
                                refine v_iinc (q := 182) (v := 1) (L' := [_, _, _, _, _, _, _, _, _, _]) hC dX12_meeting_179 rfl rfl (by decide) (by decide) rfl rfl ?_
                                refine v_goto (q := 47) hC dX12_meeting_182 (by decide) ?_
                                rw [nI_1 k]
                                first
                                  | exact absurd h155 h169
                                  | exact absurd h169 h155
                                  | (have hb1 := zb_ne h155
                                     obtain ⟨-, q1, q2⟩ := hbt.resolve_right (fun z => by rw [z.1] at hb1; cases hb1)
                                     rw [q1, q2]
                                     rw [← eQ]
                                     exact ih (k + 1) _ _ _ _ σ4 (by omega) hS4 h214)
                                  | (have hb1 := zb_eq0.mp h155
                                     obtain ⟨-, q1⟩ := hbt.resolve_left (fun z => by rw [z.1] at hb1; cases hb1)
                                     rw [q1, ← eQ]
                                     exact ih (k + 1) _ _ _ _ σ4 (by omega) hS4 h214)
                              · refine v_iload (q := 174) hC dX12_meeting_172 rfl rfl ?_
                                refine v_goto (q := 178) hC dX12_meeting_174 (by decide) ?_
                                refine v_istore_n (q := 179) (L' := [_, _, _, _, _, _, _, _, _, _]) hC dX12_meeting_178 rfl rfl (by decide) rfl rfl ?_
                                refine v_iinc (q := 182) (v := 1) (L' := [_, _, _, _, _, _, _, _, _, _]) hC dX12_meeting_179 rfl rfl (by decide) (by decide) rfl rfl ?_
                                refine v_goto (q := 47) hC dX12_meeting_182 (by decide) ?_
                                rw [nI_1 k]
                                first
                                  | exact absurd h155 h169
                                  | exact absurd h169 h155
                                  | (have hb1 := zb_ne h155
                                     obtain ⟨-, q1, q2⟩ := hbt.resolve_right (fun z => by rw [z.1] at hb1; cases hb1)
                                     rw [q1, q2]
                                     rw [← eQ]
                                     exact ih (k + 1) _ _ _ _ σ4 (by omega) hS4 h214)
                                  | (have hb1 := zb_eq0.mp h155
                                     obtain ⟨-, q1⟩ := hbt.resolve_left (fun z => by rw [z.1] at hb1; cases hb1)
                                     rw [q1, ← eQ]
                                     exact ih (k + 1) _ _ _ _ σ4 (by omega) hS4 h214)
                            · refine v_iload (q := 160) hC dX12_meeting_158 rfl rfl ?_
                              refine v_goto (q := 165) hC dX12_meeting_160 (by decide) ?_
                              refine v_istore (q := 167) (L' := [_, _, _, _, _, _, _, _, _, _]) hC dX12_meeting_165 rfl (by decide) rfl rfl ?_
                              refine v_iload (q := 169) hC dX12_meeting_167 rfl rfl ?_
                              refine v_if_eq (q := 172) (tgt := 177) hC dX12_meeting_169 rfl (by decide) (fun h169 => ?_) (fun h169 => ?_)
                              · refine v_iload_n (q := 178) hC dX12_meeting_177 rfl rfl rfl ?_
                                refine v_istore_n (q := 179) (L' := [_, _, _, _, _, _, _, _, _, _]) hC dX12_meeting_178 rfl rfl (by decide) rfl rfl ?_
                                refine v_iinc (q := 182) (v := 1) (L' := [_, _, _, _, _, _, _, _, _, _]) hC dX12_meeting_179 rfl rfl (by decide) (by decide) rfl rfl ?_
                                refine v_goto (q := 47) hC dX12_meeting_182 (by decide) ?_
                                rw [nI_1 k]
                                first
                                  | exact absurd h155 h169
                                  | exact absurd h169 h155
                                  | (have hb1 := zb_ne h155
                                     obtain ⟨-, q1, q2⟩ := hbt.resolve_right (fun z => by rw [z.1] at hb1; cases hb1)
                                     rw [q1, q2]
                                     rw [← eQ]
                                     exact ih (k + 1) _ _ _ _ σ4 (by omega) hS4 h214)
                                  | (have hb1 := zb_eq0.mp h155
                                     obtain ⟨-, q1⟩ := hbt.resolve_left (fun z => by rw [z.1] at hb1; cases hb1)
                                     rw [q1, ← eQ]
                                     exact ih (k + 1) _ _ _ _ σ4 (by omega) hS4 h214)
                              · refine v_iload (q := 174) hC dX12_meeting_172 rfl rfl ?_
                                refine v_goto (q := 178) hC dX12_meeting_174 (by decide) ?_
                                refine v_istore_n (q := 179) (L' := [_, _, _, _, _, _, _, _, _, _]) hC dX12_meeting_178 rfl rfl (by decide) rfl rfl ?_
                                refine v_iinc (q := 182) (v := 1) (L' := [_, _, _, _, _, _, _, _, _, _]) hC dX12_meeting_179 rfl rfl (by decide) (by decide) rfl rfl ?_
                                refine v_goto (q := 47) hC dX12_meeting_182 (by decide) ?_
                                rw [nI_1 k]
                                first
                                  | exact absurd h155 h169
                                  | exact absurd h169 h155
                                  | (have hb1 := zb_ne h155
                                     obtain ⟨-, q1, q2⟩ := hbt.resolve_right (fun z => by rw [z.1] at hb1; cases hb1)
                                     rw [q1, q2]
                                     rw [← eQ]
                                     exact ih (k + 1) _ _ _ _ σ4 (by omega) hS4 h214)
                                  | (have hb1 := zb_eq0.mp h155
                                     obtain ⟨-, q1⟩ := hbt.resolve_left (fun z => by rw [z.1] at hb1; cases hb1)
                                     rw [q1, ← eQ]
                                     exact ih (k + 1) _ _ _ _ σ4 (by omega) hS4 h214)
                          first
                            | exact j151 true (Or.inl ⟨rfl, zmt1 sl sm h132 (Or.inl h137)⟩)
                            | exact j151 true (Or.inl ⟨rfl, zmt1 sl sm h132 (Or.inr h143)⟩)
                            | exact j151 false (Or.inr ⟨rfl, zmt0 sl sm (Or.inl h132)⟩)
                            | exact j151 false (Or.inr ⟨rfl, zmt0 sl sm (Or.inr ⟨h137, h143⟩)⟩)
                        · refine v_iconst (q := 147) (v := 1) hC dX12_meeting_146 rfl (by decide) ?_
                          refine v_goto (q := 151) hC dX12_meeting_147 (by decide) ?_
                          generalize zsI σ3 53 21 0 = σ4 at hS4 hL4 h214 hz4 ⊢
                          have j151 : ∀ bt : Bool, ((bt = true ∧ zo ((pSh (qN S) (gvT (qKd S) (pGS S) (k / 6) (k % 6)) (pNS S) (dN (qF S 0 f)) (dN (qF S 1 f)) p).map (· + 1)) = zo (pMs (pMq (qN S) (pKn (qKd S) (qKin S) (qMet S)) (fun q1 q2 => (pSh (qN S) (gvT (qKd S) (pGS S) q1 q2) (pNS S) (dN (qF S 0 f)) (dN (qF S 1 f)) p).map (· + 1)) ((pSh (qN S) (pGS S) (pNS S) (dN (qF S 0 f)) (dN (qF S 1 f)) p).map (· + 1)) k) ((pSh (qN S) (gvT (qKd S) (pGS S) (k / 6) (k % 6)) (pNS S) (dN (qF S 0 f)) (dN (qF S 1 f)) p).map (· + 1)) k).1 ∧ nI k = zo (pMs (pMq (qN S) (pKn (qKd S) (qKin S) (qMet S)) (fun q1 q2 => (pSh (qN S) (gvT (qKd S) (pGS S) q1 q2) (pNS S) (dN (qF S 0 f)) (dN (qF S 1 f)) p).map (· + 1)) ((pSh (qN S) (pGS S) (pNS S) (dN (qF S 0 f)) (dN (qF S 1 f)) p).map (· + 1)) k) ((pSh (qN S) (gvT (qKd S) (pGS S) (k / 6) (k % 6)) (pNS S) (dN (qF S 0 f)) (dN (qF S 1 f)) p).map (· + 1)) k).2) ∨ (bt = false ∧ (pMq (qN S) (pKn (qKd S) (qKin S) (qMet S)) (fun q1 q2 => (pSh (qN S) (gvT (qKd S) (pGS S) q1 q2) (pNS S) (dN (qF S 0 f)) (dN (qF S 1 f)) p).map (· + 1)) ((pSh (qN S) (pGS S) (pNS S) (dN (qF S 0 f)) (dN (qF S 1 f)) p).map (· + 1)) k) = (pMs (pMq (qN S) (pKn (qKd S) (qKin S) (qMet S)) (fun q1 q2 => (pSh (qN S) (gvT (qKd S) (pGS S) q1 q2) (pNS S) (dN (qF S 0 f)) (dN (qF S 1 f)) p).map (· + 1)) ((pSh (qN S) (pGS S) (pNS S) (dN (qF S 0 f)) (dN (qF S 1 f)) p).map (· + 1)) k) ((pSh (qN S) (gvT (qKd S) (pGS S) (k / 6) (k % 6)) (pNS S) (dN (qF S 0 f)) (dN (qF S 1 f)) p).map (· + 1)) k))) → zV X 10 151 [some (.ref 53), some (.int (nI f)), some (.int (nI p)), some (.int (zo (pMq (qN S) (pKn (qKd S) (qKin S) (qMet S)) (fun q1 q2 => (pSh (qN S) (gvT (qKd S) (pGS S) q1 q2) (pNS S) (dN (qF S 0 f)) (dN (qF S 1 f)) p).map (· + 1)) ((pSh (qN S) (pGS S) (pNS S) (dN (qF S 0 f)) (dN (qF S 1 f)) p).map (· + 1)) k).1)), some (.int (zo (pMq (qN S) (pKn (qKd S) (qKin S) (qMet S)) (fun q1 q2 => (pSh (qN S) (gvT (qKd S) (pGS S) q1 q2) (pNS S) (dN (qF S 0 f)) (dN (qF S 1 f)) p).map (· + 1)) ((pSh (qN S) (pGS S) (pNS S) (dN (qF S 0 f)) (dN (qF S 1 f)) p).map (· + 1)) k).2)), some (.int (nI k)), some (.int (nI (k / 6))), some (.int (nI (k % 6))), some (.int (zo ((pSh (qN S) (gvT (qKd S) (pGS S) (k / 6) (k % 6)) (pNS S) (dN (qF S 0 f)) (dN (qF S 1 f)) p).map (· + 1)))), o9] [.int (zb bt)] 0 0 σ4 := by
                            intro bt hbt
                            refine v_istore (q := 153) (L' := [_, _, _, _, _, _, _, _, _, _]) hC dX12_meeting_151 rfl (by decide) rfl rfl ?_
                            refine v_iload (q := 155) hC dX12_meeting_153 rfl rfl ?_
                            refine v_if_eq (q := 158) (tgt := 163) hC dX12_meeting_155 rfl (by decide) (fun h155 => ?_) (fun h155 => ?_)
                            · refine v_iload (q := 165) hC dX12_meeting_163 rfl rfl ?_
                              refine v_istore (q := 167) (L' := [_, _, _, _, _, _, _, _, _, _]) hC dX12_meeting_165 rfl (by decide) rfl rfl ?_
                              refine v_iload (q := 169) hC dX12_meeting_167 rfl rfl ?_
                              refine v_if_eq (q := 172) (tgt := 177) hC dX12_meeting_169 rfl (by decide) (fun h169 => ?_) (fun h169 => ?_)
                              · refine v_iload_n (q := 178) hC dX12_meeting_177 rfl rfl rfl ?_
                                refine v_istore_n (q := 179) (L' := [_, _, _, _, _, _, _, _, _, _]) hC dX12_meeting_178 rfl rfl (by decide) rfl rfl ?_
                                refine v_iinc (q := 182) (v := 1) (L' := [_, _, _, _, _, _, _, _, _, _]) hC dX12_meeting_179 rfl rfl (by decide) (by decide) rfl rfl ?_
                                refine v_goto (q := 47) hC dX12_meeting_182 (by decide) ?_
                                rw [nI_1 k]
                                first
                                  | exact absurd h155 h169
                                  | exact absurd h169 h155
                                  | (have hb1 := zb_ne h155
                                     obtain ⟨-, q1, q2⟩ := hbt.resolve_right (fun z => by rw [z.1] at hb1; cases hb1)
                                     rw [q1, q2]
                                     rw [← eQ]
                                     exact ih (k + 1) _ _ _ _ σ4 (by omega) hS4 h214)
                                  | (have hb1 := zb_eq0.mp h155
                                     obtain ⟨-, q1⟩ := hbt.resolve_left (fun z => by rw [z.1] at hb1; cases hb1)
                                     rw [q1, ← eQ]
                                     exact ih (k + 1) _ _ _ _ σ4 (by omega) hS4 h214)
                              · refine v_iload (q := 174) hC dX12_meeting_172 rfl rfl ?_
                                refine v_goto (q := 178) hC dX12_meeting_174 (by decide) ?_
                                refine v_istore_n (q := 179) (L' := [_, _, _, _, _, _, _, _, _, _]) hC dX12_meeting_178 rfl rfl (by decide) rfl rfl ?_
                                refine v_iinc (q := 182) (v := 1) (L' := [_, _, _, _, _, _, _, _, _, _]) hC dX12_meeting_179 rfl rfl (by decide) (by decide) rfl rfl ?_
                                refine v_goto (q := 47) hC dX12_meeting_182 (by decide) ?_
                                rw [nI_1 k]
                                first
                                  | exact absurd h155 h169
                                  | exact absurd h169 h155
                                  | (have hb1 := zb_ne h155
                                     obtain ⟨-, q1, q2⟩ := hbt.resolve_right (fun z => by rw [z.1] at hb1; cases hb1)
                                     rw [q1, q2]
                                     rw [← eQ]
                                     exact ih (k + 1) _ _ _ _ σ4 (by omega) hS4 h214)
                                  | (have hb1 := zb_eq0.mp h155
                                     obtain ⟨-, q1⟩ := hbt.resolve_left (fun z => by rw [z.1] at hb1; cases hb1)
                                     rw [q1, ← eQ]
                                     exact ih (k + 1) _ _ _ _ σ4 (by omega) hS4 h214)
                            · refine v_iload (q := 160) hC dX12_meeting_158 rfl rfl ?_
                              refine v_goto (q := 165) hC dX12_meeting_160 (by decide) ?_
                              refine v_istore (q := 167) (L' := [_, _, _, _, _, _, _, _, _, _]) hC dX12_meeting_165 rfl (by decide) rfl rfl ?_
                              refine v_iload (q := 169) hC dX12_meeting_167 rfl rfl ?_
                              refine v_if_eq (q := 172) (tgt := 177) hC dX12_meeting_169 rfl (by decide) (fun h169 => ?_) (fun h169 => ?_)
                              · refine v_iload_n (q := 178) hC dX12_meeting_177 rfl rfl rfl ?_
                                refine v_istore_n (q := 179) (L' := [_, _, _, _, _, _, _, _, _, _]) hC dX12_meeting_178 rfl rfl (by decide) rfl rfl ?_
                                refine v_iinc (q := 182) (v := 1) (L' := [_, _, _, _, _, _, _, _, _, _]) hC dX12_meeting_179 rfl rfl (by decide) (by decide) rfl rfl ?_
                                refine v_goto (q := 47) hC dX12_meeting_182 (by decide) ?_
                                rw [nI_1 k]
                                first
                                  | exact absurd h155 h169
                                  | exact absurd h169 h155
                                  | (have hb1 := zb_ne h155
                                     obtain ⟨-, q1, q2⟩ := hbt.resolve_right (fun z => by rw [z.1] at hb1; cases hb1)
                                     rw [q1, q2]
                                     rw [← eQ]
                                     exact ih (k + 1) _ _ _ _ σ4 (by omega) hS4 h214)
                                  | (have hb1 := zb_eq0.mp h155
                                     obtain ⟨-, q1⟩ := hbt.resolve_left (fun z => by rw [z.1] at hb1; cases hb1)
                                     rw [q1, ← eQ]
                                     exact ih (k + 1) _ _ _ _ σ4 (by omega) hS4 h214)
                              · refine v_iload (q := 174) hC dX12_meeting_172 rfl rfl ?_
                                refine v_goto (q := 178) hC dX12_meeting_174 (by decide) ?_
                                refine v_istore_n (q := 179) (L' := [_, _, _, _, _, _, _, _, _, _]) hC dX12_meeting_178 rfl rfl (by decide) rfl rfl ?_
                                refine v_iinc (q := 182) (v := 1) (L' := [_, _, _, _, _, _, _, _, _, _]) hC dX12_meeting_179 rfl rfl (by decide) (by decide) rfl rfl ?_
                                refine v_goto (q := 47) hC dX12_meeting_182 (by decide) ?_
                                rw [nI_1 k]
                                first
                                  | exact absurd h155 h169
                                  | exact absurd h169 h155
                                  | (have hb1 := zb_ne h155
                                     obtain ⟨-, q1, q2⟩ := hbt.resolve_right (fun z => by rw [z.1] at hb1; cases hb1)
                                     rw [q1, q2]
                                     rw [← eQ]
                                     exact ih (k + 1) _ _ _ _ σ4 (by omega) hS4 h214)
                                  | (have hb1 := zb_eq0.mp h155
                                     obtain ⟨-, q1⟩ := hbt.resolve_left (fun z => by rw [z.1] at hb1; cases hb1)
                                     rw [q1, ← eQ]
                                     exact ih (k + 1) _ _ _ _ σ4 (by omega) hS4 h214)
                          first
                            | exact j151 true (Or.inl ⟨rfl, zmt1 sl sm h132 (Or.inl h137)⟩)
                            | exact j151 true (Or.inl ⟨rfl, zmt1 sl sm h132 (Or.inr h143)⟩)
                            | exact j151 false (Or.inr ⟨rfl, zmt0 sl sm (Or.inl h132)⟩)
                            | exact j151 false (Or.inr ⟨rfl, zmt0 sl sm (Or.inr ⟨h137, h143⟩)⟩)
        exact lp 36 0 _ _ _ _ σ1 (by omega) (hS1.mono (by simp) (by simp)) (by rw [hS1.2 21 (by simp)]; exact hs.2)
      · refine v_bipush (q := 29) (v := -103) hC dX12_meeting_27 rfl (by decide) ?_
        refine v_ireturn hC hB dX12_meeting_29 ⟨Nat.le_refl _, Nat.le_refl _⟩ ?_
        exact zQs.mk (by unfold sMeeting; rw [hz, hz2, Bool.and_self, if_pos rfl, edf]; exact if_neg (of_decide_eq_false (zb_eq0.mp h24))) h0 zFm.rf
    · refine v_bipush (q := 18) (v := -101) hC dX12_meeting_16 rfl (by decide) ?_
      refine v_ireturn hC hB dX12_meeting_18 ⟨Nat.le_refl _, Nat.le_refl _⟩ ?_
      first | exact zQs.mk (if_neg (by rw [zb_eq0.mp h5]; simp)) h0 zFm.rf | exact zQs.mk (if_neg (by rw [zb_eq0.mp h13]; simp)) h0 zFm.rf

