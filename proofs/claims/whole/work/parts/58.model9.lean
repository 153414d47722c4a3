/-! ===== the model: trial weeks ===== -/
set_option maxRecDepth 100000 in
set_option maxHeartbeats 4000000 in
theorem ct_X12_draw (d : Nat) {σ : zSt} (hL : zLay σ) {m : Int32} (hm : ¬ m < 1) : zEv (d + 0) MX12_draw [.ref 53, .int m] σ (some (.int (pDraw (pSeed (zI σ 53 32)) m))) (zsI σ 53 32 (pSeed (zI σ 53 32))) := by
  refine zCt.of (L := [some (.ref 53), some (.int m)]) (by decide) (Nat.le_of_ble_eq_true rfl) rfl (fun X hC hB => ?_)
  have hC : zC X RX12 cX12_draw 2 (d + 0) 0 0 := hC
  have hB : zB X (some .int) 0 0 "draw" σ _ := hB
  show zV X 2 0 [some (.ref 53), some (.int m)] [] 0 0 σ
  have hm0 : ¬ m = 0 := fun z => hm (by rw [z]; decide)
  refine v_aload_n (q := 1) hC dX12_draw_0 rfl rfl rfl ?_
  refine v_ldc2 (q := 4) hC dX12_draw_1 rfl kX12_247 ?_
  refine v_aload_n (q := 5) hC dX12_draw_4 rfl rfl rfl ?_
  refine v_getI (q := 8) hC dX12_draw_5 rfl fX12_249 (hL.1 53 (by decide)) ?_
  refine v_i2l (q := 9) hC dX12_draw_8 rfl ?_
  refine v_lmul (q := 10) hC dX12_draw_9 rfl ?_
  refine v_ldc2 (q := 13) hC dX12_draw_10 rfl kX12_252 ?_
  refine v_ladd (q := 14) hC dX12_draw_13 rfl ?_
  refine v_ldc2 (q := 17) hC dX12_draw_14 rfl kX12_254 ?_
  refine v_land (q := 18) hC dX12_draw_17 rfl ?_
  refine v_l2i (q := 19) hC dX12_draw_18 rfl ?_
  refine v_putI (q := 22) hC dX12_draw_19 rfl fX12_249 (hL.1 53 (by decide)) ?_
  refine v_aload_n (q := 23) hC dX12_draw_22 rfl rfl rfl ?_
  refine v_getI (q := 26) hC dX12_draw_23 rfl fX12_249 (hL.1 53 (by decide)) ?_
  rw [zI_eq]
  refine v_ldcw (q := 29) hC dX12_draw_26 rfl kX12_256 ?_
  refine v_idiv (q := 30) hC dX12_draw_29 rfl (by decide) ?_
  refine v_iload_n (q := 31) hC dX12_draw_30 rfl rfl rfl ?_
  refine v_irem (q := 32) hC dX12_draw_31 rfl hm0 ?_
  refine v_ireturn hC hB dX12_draw_32 ⟨Nat.le_refl _, Nat.le_refl _⟩ ?_
  unfold pDraw
  rw [if_neg hm]
  exact ⟨rfl, rfl⟩

/-- the trial's memory in the model -/
def zTm (σ : zSt) (n : Nat) (kd : Nat → Nat) (kin met : Nat → Nat → Bool) (t w : Nat) (x : pWk) : Prop := zLay σ ∧ zMf σ n kd kin met t ∧ zMr σ x.1 x.2.1 w ∧ zMs σ none none ∧ zI σ 53 32 = x.2.2
theorem zTm.sd {σ : zSt} {n : Nat} {kd : Nat → Nat} {kin met : Nat → Nat → Bool} {t w : Nat} {x : pWk} (h : zTm σ n kd kin met t w x) (s : Int32) : zTm (zsI σ 53 32 s) n kd kin met t w (x.1, x.2.1, s) := by
  have hS : zSm [] [32] σ (zsI σ 53 32 s) := zSm.rf.o (by simp)
  obtain ⟨h1, h2, h3, h4, h5⟩ := h
  exact ⟨hS.lay h1, h2.sm hS rfl rfl, h3.sm hS rfl rfl, h4.sm hS rfl, zI_eq⟩

set_option maxRecDepth 100000 in
set_option maxHeartbeats 4000000 in
theorem md_weeks (d : Nat) {σ : zSt} {S : pS} {B : Nat} (h : zMd σ S) (ok : pOk B S) (k : Int32) (s : Int32) (what : Int32) : zCt (d + 4) MX12_weeks [.ref 53, .int k, .int s, .int what] σ (zQs zMd zFm σ (sWeeks S k s what)) := by
  refine zCt.of (L := [some (.ref 53), some (.int k), some (.int s), some (.int what), none, none, none, none, none, none]) (by decide) (Nat.le_of_ble_eq_true rfl) rfl (fun X hC hB => ?_)
  have hC : zC X RX12 cX12_weeks 10 (d + 4) 0 0 := hC
  have hB : zB X (some .int) 0 0 "weeks" σ _ := hB
  show zV X 10 0 [some (.ref 53), some (.int k), some (.int s), some (.int what), none, none, none, none, none, none] [] 0 0 σ
  have h0 := h
  obtain ⟨hL, hp, hF, hd, hs, hk, hy, he⟩ := h
  obtain ⟨oB, oq, ow, oqt, ot, okm, omm, oq0, oL, oD, okr, okp, oK, osym, okp6, okd⟩ := ok
  have hn6 := hF.2.1
  have hm12 := hd.2.1
  have hsy : ∀ a b, a < 6 → b < 6 → qKin S a b = qKin S b a := fun a b ha hb => (osym a b ha hb).1
  have c0 : qT S = 0 ↔ qQ S = 0 := oqt.symm
  refine v_iload_n (q := 1) hC dX12_weeks_0 rfl rfl rfl ?_
  refine v_i2l (q := 2) hC dX12_weeks_1 rfl ?_
  refine v_lconst (q := 3) (v := 1) hC dX12_weeks_2 rfl (by decide) ?_
  refine v_ldc2 (q := 6) hC dX12_weeks_3 rfl kX12_257 ?_
  refine v_callS1 (q := 9) (As := [_, _, _]) hC dX12_weeks_6 rfl lX12_70 mX12_in sX12_in (ct_X12_inI (d + 3) k 1 60) rfl rfl (by omega) rfl (Nat.le_of_ble_eq_true rfl) ?_
  refine v_if_eq (q := 12) (tgt := 28) hC dX12_weeks_9 rfl (by decide) (fun h9 => ?_) (fun h9 => ?_)
  · refine v_bipush (q := 30) (v := -102) hC dX12_weeks_28 rfl (by decide) ?_
    refine v_ireturn hC hB dX12_weeks_30 ⟨Nat.le_refl _, Nat.le_refl _⟩ ?_
    exact zQs.mk (if_pos (by first | (rcases Decidable.not_not.mp (of_decide_eq_false (zb_eq0.mp h9)) with z | z; exact Or.inl z; exact Or.inr (Or.inl z)) | exact Or.inr (Or.inr (Or.inl h13)) | (rcases Decidable.not_not.mp (of_decide_eq_false (zb_eq0.mp h25)) with z | z; exact Or.inr (Or.inr (Or.inr (Or.inl z))); exact Or.inr (Or.inr (Or.inr (Or.inr z)))))) h0 zFm.rf
  · refine v_iload_n (q := 13) hC dX12_weeks_12 rfl rfl rfl ?_
    refine v_if_lt (q := 16) (tgt := 28) hC dX12_weeks_13 rfl (by decide) (fun h13 => ?_) (fun h13 => ?_)
    · refine v_bipush (q := 30) (v := -102) hC dX12_weeks_28 rfl (by decide) ?_
      refine v_ireturn hC hB dX12_weeks_30 ⟨Nat.le_refl _, Nat.le_refl _⟩ ?_
      exact zQs.mk (if_pos (by first | (rcases Decidable.not_not.mp (of_decide_eq_false (zb_eq0.mp h9)) with z | z; exact Or.inl z; exact Or.inr (Or.inl z)) | exact Or.inr (Or.inr (Or.inl h13)) | (rcases Decidable.not_not.mp (of_decide_eq_false (zb_eq0.mp h25)) with z | z; exact Or.inr (Or.inr (Or.inr (Or.inl z))); exact Or.inr (Or.inr (Or.inr (Or.inr z)))))) h0 zFm.rf
    · refine v_iload_n (q := 17) hC dX12_weeks_16 rfl rfl rfl ?_
      refine v_i2l (q := 18) hC dX12_weeks_17 rfl ?_
      refine v_lconst (q := 19) (v := 0) hC dX12_weeks_18 rfl (by decide) ?_
      refine v_ldc2 (q := 22) hC dX12_weeks_19 rfl kX12_259 ?_
      refine v_callS1 (q := 25) (As := [_, _, _]) hC dX12_weeks_22 rfl lX12_70 mX12_in sX12_in (ct_X12_inI (d + 3) what 0 3) rfl rfl (by omega) rfl (Nat.le_of_ble_eq_true rfl) ?_
      refine v_if_ne (q := 28) (tgt := 31) hC dX12_weeks_25 rfl (by decide) (fun h25 => ?_) (fun h25 => ?_)
      · have hr1 := of_decide_eq_true (zb_ne h9)
        have hr2 := of_decide_eq_true (zb_ne h25)
        have hno : ¬ (k < 1 ∨ 60 < k ∨ s < 0 ∨ what < 0 ∨ 3 < what) := (by rintro (z | z | z | z | z); exact hr1 (Or.inl z); exact hr1 (Or.inr z); exact h13 z; exact hr2 (Or.inl z); exact hr2 (Or.inr z))
        obtain ⟨k, hk0, hk7, rfl⟩ := zbw (x := k) 1 60 (by omega) (by omega) (fun z => hr1 (Or.inl z)) (fun z => hr1 (Or.inr z))
        obtain ⟨what, hw0, hw3, rfl⟩ := zbw (x := what) 0 3 (by omega) (by omega) (fun z => hr2 (Or.inl z)) (fun z => hr2 (Or.inr z))
        refine v_aload_n (q := 32) hC dX12_weeks_31 rfl rfl rfl ?_
        refine v_callV1 (q := 35) (As := []) hC dX12_weeks_32 rfl lX12_166 mX12_lacks iX12_lacks eX12_lacks rfl (hL.1 53 (by decide)) (ct_X12_lacks (d + 3) hL hF) rfl rfl (by omega) rfl (Nat.le_of_ble_eq_true rfl) ?_
        refine v_if_eq (q := 38) (tgt := 41) hC dX12_weeks_35 rfl (by decide) (fun h35 => ?_) (fun h35 => ?_)
        · have hq0 : ¬ qQ S = 0 := fun z => of_decide_eq_false (zb_eq0.mp h35) (c0.mpr z)
          refine v_aload_n (q := 42) hC dX12_weeks_41 rfl rfl rfl ?_
          refine v_getR (q := 45) (r := 60) hC dX12_weeks_42 rfl fX12_28 (hL.1 53 (by decide)) (hL.2 53 23 60 rfl) ?_
          refine v_aload_n (q := 46) hC dX12_weeks_45 rfl rfl rfl ?_
          refine v_getR (q := 49) (r := 68) hC dX12_weeks_46 rfl fX12_52 (hL.1 53 (by decide)) (hL.2 53 33 68 rfl) ?_
          refine v_callSQ (q := 52) (As := [_, _]) hC dX12_weeks_49 rfl lX12_261 mX12_copy sX12_copy (ct_X12_copy72 (d + 3) (hL.1 60 (by decide)) (hL.1 68 (by decide)) (by decide)) rfl rfl (by omega) (by decide) (Nat.le_of_ble_eq_true rfl) ?_
          rintro _ σ1 ⟨rfl, hS1, g1⟩
          have hL := hL.same hS1 rfl
          have hM1 : zSm [68] [] σ σ1 := zSm.of hS1 rfl
          refine v_aload_n (q := 53) hC dX12_weeks_52 rfl rfl rfl ?_
          refine v_getI (q := 56) hC dX12_weeks_53 rfl fX12_129 (hL.1 53 (by decide)) ?_
          rw [show zI σ1 53 22 = nI (qM S) from (hd.sm hM1 rfl rfl).1]
          refine v_istore (q := 58) (L' := [_, _, _, _, _, _, _, _, _, _]) hC dX12_weeks_56 rfl (by decide) rfl rfl ?_
          refine v_aload_n (q := 59) hC dX12_weeks_58 rfl rfl rfl ?_
          refine v_getI (q := 62) hC dX12_weeks_59 rfl fX12_123 (hL.1 53 (by decide)) ?_
          rw [show zI σ1 53 12 = nI (qW S) from (hd.sm hM1 rfl rfl).2.2.1]
          refine v_istore (q := 64) (L' := [_, _, _, _, _, _, _, _, _, _]) hC dX12_weeks_62 rfl (by decide) rfl rfl ?_
          refine v_aload_n (q := 65) hC dX12_weeks_64 rfl rfl rfl ?_
          refine v_iload_n (q := 66) hC dX12_weeks_65 rfl rfl rfl ?_
          refine v_putI (q := 69) hC dX12_weeks_66 rfl fX12_249 (hL.1 53 (by decide)) ?_
          refine v_iconst (q := 70) (v := 0) hC dX12_weeks_69 rfl (by decide) ?_
          refine v_istore (q := 72) (L' := [_, _, _, _, _, _, _, _, _, _]) hC dX12_weeks_70 rfl (by decide) rfl rfl ?_
          have lp : ∀ (ri : Nat) (i : Nat) (σ1 : zSt) (o7 o8 o9 : Option Value), i + ri = k → zSm [60, 68] [12, 22, 32] σ σ1 → (∀ q, q < 72 → zI σ1 68 q = zI σ 60 q) → zTm σ1 (qN S) (qKd S) (qKin S) (qMet S) (qT S) (qW S + i) (pWks (qN S) (qKd S) (qKin S) (qMet S) (qT S) (qW S) (qM S, qF S, s) i) → zV X 10 72 [some (.ref 53), some (.int (nI k)), some (.int s), some (.int (nI what)), some (.int (nI (qM S))), some (.int (nI (qW S))), some (.int (nI i)), o7, o8, o9] [] 0 0 σ1 := by
            intro ri
            induction ri with
            | zero =>
              intro i σ1 o7 o8 o9 hi hS hv h1
              obtain ⟨hL1, hF1, hd1, hs1, hx1⟩ := h1
              have h1 : zTm σ1 (qN S) (qKd S) (qKin S) (qMet S) (qT S) (qW S + i) (pWks (qN S) (qKd S) (qKin S) (qMet S) (qT S) (qW S) (qM S, qF S, s) i) := ⟨hL1, hF1, hd1, hs1, hx1⟩
              refine v_iload (q := 74) hC dX12_weeks_72 rfl rfl ?_
              refine v_iload_n (q := 75) hC dX12_weeks_74 rfl rfl rfl ?_
              refine v_icmp_ge (q := 78) (tgt := 207) hC dX12_weeks_75 rfl (by decide) (fun h75 => ?_) (fun h75 => ?_)
              · have eik : i = k := by omega
                have w0 : nI what = 0 ↔ what = 0 := nI_eq (a := what) (b := 0) (by omega) (by omega)
                have w1 : nI what = 1 ↔ what = 1 := nI_eq (a := what) (b := 1) (by omega) (by omega)
                have w2 : nI what = 2 ↔ what = 2 := nI_eq (a := what) (b := 2) (by omega) (by omega)
                have j246 : ∀ y : Int32, pWkA (pWks (qN S) (qKd S) (qKin S) (qMet S) (qT S) (qW S) (qM S, qF S, s) i) what = y → zV X 10 246 [some (.ref 53), some (.int (nI k)), some (.int s), some (.int (nI what)), some (.int (nI (qM S))), some (.int (nI (qW S))), some (.int (nI i)), o7, o8, o9] [.int y] 0 0 σ1 := by
                  intro y hy
                  subst hy
                  refine v_istore (q := 248) (L' := [_, _, _, _, _, _, _, _, _, _]) hC dX12_weeks_246 rfl (by decide) rfl rfl ?_
                  refine v_aload_n (q := 249) hC dX12_weeks_248 rfl rfl rfl ?_
                  refine v_getR (q := 252) (r := 68) hC dX12_weeks_249 rfl fX12_52 (hL1.1 53 (by decide)) (hL1.2 53 33 68 rfl) ?_
                  refine v_aload_n (q := 253) hC dX12_weeks_252 rfl rfl rfl ?_
                  refine v_getR (q := 256) (r := 60) hC dX12_weeks_253 rfl fX12_28 (hL1.1 53 (by decide)) (hL1.2 53 23 60 rfl) ?_
                  refine v_callSQ (q := 259) (As := [_, _]) hC dX12_weeks_256 rfl lX12_261 mX12_copy sX12_copy (ct_X12_copy72 (d + 3) (hL1.1 68 (by decide)) (hL1.1 60 (by decide)) (by decide)) rfl rfl (by omega) (by decide) (Nat.le_of_ble_eq_true rfl) ?_
                  rintro _ σ2 ⟨rfl, hS2, g2⟩
                  have hL1 := hL1.same hS2 rfl
                  refine v_aload_n (q := 260) hC dX12_weeks_259 rfl rfl rfl ?_
                  refine v_iload (q := 262) hC dX12_weeks_260 rfl rfl ?_
                  refine v_putI (q := 265) hC dX12_weeks_262 rfl fX12_129 (hL1.1 53 (by decide)) ?_
                  refine v_aload_n (q := 266) hC dX12_weeks_265 rfl rfl rfl ?_
                  refine v_iload (q := 268) hC dX12_weeks_266 rfl rfl ?_
                  refine v_putI (q := 271) hC dX12_weeks_268 rfl fX12_123 (hL1.1 53 (by decide)) ?_
                  refine v_iload (q := 273) hC dX12_weeks_271 rfl rfl ?_
                  refine v_ireturn hC hB dX12_weeks_273 ⟨Nat.le_refl _, Nat.le_refl _⟩ ?_
                  have hM2 : zSm [60, 68] [12, 22, 32] σ σ2 := hS.tr ((zSm.of (cs := [60]) (sl := []) hS2 rfl).mono (by simp) (by simp))
                  have hM3 : zSm [60, 68] [12, 22, 32] σ (zsI (zsI σ2 53 22 (nI (qM S))) 53 12 (nI (qW S))) := (hM2.o (by simp)).o (by simp)
                  refine zQs.mk (S' := S) ?_ ⟨hM3.lay h0.1, hp.sm hM3 rfl rfl, hF.sm hM3 rfl rfl, ⟨by rw [zI_ne (by omega), zI_eq], hd.2.1, zI_eq, fun a f ha hf => by rw [zI_ne (by omega), zI_ne (by omega), g2 _ (by omega), hv _ (by omega)]; exact hd.2.2.2 a f ha hf⟩, hs.sm hM3 rfl, hk.sm hM3 rfl, hy.sm hM3 rfl rfl, he.sm hM3 rfl rfl⟩ (hM3.fm rfl)
                  unfold sWeeks
                  rw [if_neg hno, if_neg hq0, dN_nI (by omega), dN_nI (by omega), ← eik]
                refine v_iload_n (q := 208) hC dX12_weeks_207 rfl rfl rfl ?_
                refine v_if_ne (q := 211) (tgt := 218) hC dX12_weeks_208 rfl (by decide) (fun h208 => ?_) (fun h208 => ?_)
                · refine v_iload_n (q := 219) hC dX12_weeks_218 rfl rfl rfl ?_
                  refine v_iconst (q := 220) (v := 1) hC dX12_weeks_219 rfl (by decide) ?_
                  refine v_icmp_ne (q := 223) (tgt := 230) hC dX12_weeks_220 rfl (by decide) (fun h220 => ?_) (fun h220 => ?_)
                  · refine v_iload_n (q := 231) hC dX12_weeks_230 rfl rfl rfl ?_
                    refine v_iconst (q := 232) (v := 2) hC dX12_weeks_231 rfl (by decide) ?_
                    refine v_icmp_ne (q := 235) (tgt := 242) hC dX12_weeks_232 rfl (by decide) (fun h232 => ?_) (fun h232 => ?_)
                    · refine v_aload_n (q := 243) hC dX12_weeks_242 rfl rfl rfl ?_
                      refine v_getI (q := 246) hC dX12_weeks_243 rfl fX12_249 (hL1.1 53 (by decide)) ?_
                      refine j246 _ ?_
                      first | (rw [w0.mp h208, hd1.1]; rfl) | (rw [w1.mp h220]; rfl) | (rw [w2.mp h232]; rfl) | (rw [show what = 3 by have := fun z => h208 (w0.mpr z); have n0 : ¬ what = 0 := fun z => h208 (w0.mpr z); have n1 : ¬ what = 1 := fun z => h220 (w1.mpr z); have n2 : ¬ what = 2 := fun z => h232 (w2.mpr z); omega, hx1]; rfl)
                    · refine v_aload_n (q := 236) hC dX12_weeks_235 rfl rfl rfl ?_
                      refine v_callV1 (q := 239) (As := []) hC dX12_weeks_236 rfl lX12_274 mX12_homeMany iX12_homeMany eX12_homeMany rfl (hL1.1 53 (by decide)) (ct_X12_homeMany (d + 2) hL1 hd1 (pWks_ok (kd := qKd S) (kin := qKin S) (met := qMet S) (t := qT S) (x := (qM S, qF S, s)) oL hn6 (show qW S < 900000 by omega) i (by omega))) rfl rfl (by omega) rfl (Nat.le_of_ble_eq_true rfl) ?_
                      refine v_goto (q := 246) hC dX12_weeks_239 (by decide) ?_
                      refine j246 _ ?_
                      first | (rw [w0.mp h208, hd1.1]; rfl) | (rw [w1.mp h220]; rfl) | (rw [w2.mp h232]; rfl) | (rw [show what = 3 by have := fun z => h208 (w0.mpr z); have n0 : ¬ what = 0 := fun z => h208 (w0.mpr z); have n1 : ¬ what = 1 := fun z => h220 (w1.mpr z); have n2 : ¬ what = 2 := fun z => h232 (w2.mpr z); omega, hx1]; rfl)
                  · refine v_aload_n (q := 224) hC dX12_weeks_223 rfl rfl rfl ?_
                    refine v_callV1 (q := 227) (As := []) hC dX12_weeks_224 rfl lX12_271 mX12_owedMany iX12_owedMany eX12_owedMany rfl (hL1.1 53 (by decide)) (ct_X12_owedMany (d + 2) hL1 hd1) rfl rfl (by omega) rfl (Nat.le_of_ble_eq_true rfl) ?_
                    refine v_goto (q := 246) hC dX12_weeks_227 (by decide) ?_
                    refine j246 _ ?_
                    first | (rw [w0.mp h208, hd1.1]; rfl) | (rw [w1.mp h220]; rfl) | (rw [w2.mp h232]; rfl) | (rw [show what = 3 by have := fun z => h208 (w0.mpr z); have n0 : ¬ what = 0 := fun z => h208 (w0.mpr z); have n1 : ¬ what = 1 := fun z => h220 (w1.mpr z); have n2 : ¬ what = 2 := fun z => h232 (w2.mpr z); omega, hx1]; rfl)
                · refine v_aload_n (q := 212) hC dX12_weeks_211 rfl rfl rfl ?_
                  refine v_getI (q := 215) hC dX12_weeks_212 rfl fX12_129 (hL1.1 53 (by decide)) ?_
                  refine v_goto (q := 246) hC dX12_weeks_215 (by decide) ?_
                  refine j246 _ ?_
                  first | (rw [w0.mp h208, hd1.1]; rfl) | (rw [w1.mp h220]; rfl) | (rw [w2.mp h232]; rfl) | (rw [show what = 3 by have := fun z => h208 (w0.mpr z); have n0 : ¬ what = 0 := fun z => h208 (w0.mpr z); have n1 : ¬ what = 1 := fun z => h220 (w1.mpr z); have n2 : ¬ what = 2 := fun z => h232 (w2.mpr z); omega, hx1]; rfl)
              · exact absurd (nI_le (a := k) (b := i) (by omega) (by omega)) h75
            | succ ri ih =>
              intro i σ1 o7 o8 o9 hi hS hv h1
              obtain ⟨hL1, hF1, hd1, hs1, hx1⟩ := h1
              have h1 : zTm σ1 (qN S) (qKd S) (qKin S) (qMet S) (qT S) (qW S + i) (pWks (qN S) (qKd S) (qKin S) (qMet S) (qT S) (qW S) (qM S, qF S, s) i) := ⟨hL1, hF1, hd1, hs1, hx1⟩
              refine v_iload (q := 74) hC dX12_weeks_72 rfl rfl ?_
              refine v_iload_n (q := 75) hC dX12_weeks_74 rfl rfl rfl ?_
              refine v_icmp_ge (q := 78) (tgt := 207) hC dX12_weeks_75 rfl (by decide) (fun h75 => ?_) (fun h75 => ?_)
              · exact absurd h75 (nI_ge (a := i) (b := k) (by omega) (by omega))
              · refine v_iconst (q := 79) (v := 0) hC dX12_weeks_78 rfl (by decide) ?_
                refine v_istore (q := 81) (L' := [_, _, _, _, _, _, _, _, _, _]) hC dX12_weeks_79 rfl (by decide) rfl rfl ?_
                have iho := ih
                have lp2 : ∀ (r : Nat) (j : Nat) (σ1 : zSt) (o8 o9 : Option Value), j + r = qN S → zSm [60, 68] [12, 22, 32] σ σ1 → (∀ q, q < 72 → zI σ1 68 q = zI σ 60 q) → zTm σ1 (qN S) (qKd S) (qKin S) (qMet S) (qT S) (qW S + i) (pWkU (qN S) (qKd S) (qKin S) (qMet S) (qT S) (qW S + i) (pWks (qN S) (qKd S) (qKin S) (qMet S) (qT S) (qW S) (qM S, qF S, s) i) j) → zV X 10 81 [some (.ref 53), some (.int (nI k)), some (.int s), some (.int (nI what)), some (.int (nI (qM S))), some (.int (nI (qW S))), some (.int (nI i)), some (.int (nI j)), o8, o9] [] 0 0 σ1 := by
                  intro r
                  induction r with
                  | zero =>
                    intro j σ1 o8 o9 hj hS hv h1
                    obtain ⟨hL1, hF1, hd1, hs1, hx1⟩ := h1
                    have h1 : zTm σ1 (qN S) (qKd S) (qKin S) (qMet S) (qT S) (qW S + i) (pWkU (qN S) (qKd S) (qKin S) (qMet S) (qT S) (qW S + i) (pWks (qN S) (qKd S) (qKin S) (qMet S) (qT S) (qW S) (qM S, qF S, s) i) j) := ⟨hL1, hF1, hd1, hs1, hx1⟩
                    refine v_iload (q := 83) hC dX12_weeks_81 rfl rfl ?_
                    refine v_aload_n (q := 84) hC dX12_weeks_83 rfl rfl rfl ?_
                    refine v_getI (q := 87) hC dX12_weeks_84 rfl fX12_126 (hL1.1 53 (by decide)) ?_
                    rw [hF1.1]
                    refine v_icmp_ge (q := 90) (tgt := 191) hC dX12_weeks_87 rfl (by decide) (fun h87 => ?_) (fun h87 => ?_)
                    · refine v_aload_n (q := 192) hC dX12_weeks_191 rfl rfl rfl ?_
                      refine v_dup (q := 193) hC dX12_weeks_192 rfl rfl ?_
                      refine v_getI (q := 196) hC dX12_weeks_193 rfl fX12_123 (hL1.1 53 (by decide)) ?_
                      refine v_iconst (q := 197) (v := 1) hC dX12_weeks_196 rfl (by decide) ?_
                      refine v_iadd (q := 198) hC dX12_weeks_197 rfl ?_
                      refine v_putI (q := 201) hC dX12_weeks_198 rfl fX12_123 (hL1.1 53 (by decide)) ?_
                      refine v_iinc (q := 204) (v := 1) (L' := [_, _, _, _, _, _, _, _, _, _]) hC dX12_weeks_201 rfl rfl (by decide) (by decide) rfl rfl ?_
                      refine v_goto (q := 72) hC dX12_weeks_204 (by decide) ?_
                      have e : j = qN S := by omega
                      subst e
                      rw [hd1.2.2.1, nI_1, nI_1]
                      have hS2 : zSm [] [12] σ1 (zsI σ1 53 12 (nI (qW S + i + 1))) := zSm.rf.o (by simp)
                      exact iho (i + 1) _ _ _ _ (by omega) (hS.tr (hS2.mono (by simp) (by simp))) (fun q hq => by rw [zI_ne (by omega)]; exact hv q hq) ⟨hS2.lay hL1, hF1.sm hS2 rfl rfl, ⟨by rw [zI_ne (by omega)]; exact hd1.1, hd1.2.1, zI_eq, fun a f ha hf => by rw [zI_ne (by omega)]; exact hd1.2.2.2 a f ha hf⟩, hs1.sm hS2 rfl, by rw [zI_ne (by omega)]; exact hx1⟩
                    · exact absurd (nI_le (a := qN S) (b := j) (by omega) (by omega)) h87
                  | succ r ih =>
                    intro j σ1 o8 o9 hj hS hv h1
                    obtain ⟨hL1, hF1, hd1, hs1, hx1⟩ := h1
                    have h1 : zTm σ1 (qN S) (qKd S) (qKin S) (qMet S) (qT S) (qW S + i) (pWkU (qN S) (qKd S) (qKin S) (qMet S) (qT S) (qW S + i) (pWks (qN S) (qKd S) (qKin S) (qMet S) (qT S) (qW S) (qM S, qF S, s) i) j) := ⟨hL1, hF1, hd1, hs1, hx1⟩
                    refine v_iload (q := 83) hC dX12_weeks_81 rfl rfl ?_
                    refine v_aload_n (q := 84) hC dX12_weeks_83 rfl rfl rfl ?_
                    refine v_getI (q := 87) hC dX12_weeks_84 rfl fX12_126 (hL1.1 53 (by decide)) ?_
                    rw [hF1.1]
                    refine v_icmp_ge (q := 90) (tgt := 191) hC dX12_weeks_87 rfl (by decide) (fun h87 => ?_) (fun h87 => ?_)
                    · exact absurd h87 (nI_ge (a := j) (b := qN S) (by omega) (by omega))
                    · refine v_aload_n (q := 91) hC dX12_weeks_90 rfl rfl rfl ?_
                      refine v_iload (q := 93) hC dX12_weeks_91 rfl rfl ?_
                      refine v_callV1 (q := 96) (As := [_]) hC dX12_weeks_93 rfl lX12_265 mX12_leastOwed iX12_leastOwed eX12_leastOwed rfl (hL1.1 53 (by decide)) (ct_X12_leastOwed (d + 2) hL1 hd1 (nI j)) rfl rfl (by omega) rfl (Nat.le_of_ble_eq_true rfl) ?_
                      refine v_istore (q := 98) (L' := [_, _, _, _, _, _, _, _, _, _]) hC dX12_weeks_96 rfl (by decide) rfl rfl ?_
                      refine v_iload (q := 100) hC dX12_weeks_98 rfl rfl ?_
                      refine v_iconst (q := 101) (v := -1) hC dX12_weeks_100 rfl (by decide) ?_
                      refine v_icmp_eq (q := 104) (tgt := 185) hC dX12_weeks_101 rfl (by decide) (fun h101 => ?_) (fun h101 => ?_)
                      · have en := (zo_m (m := 13) (fun g hg => by have := pFst_lt hg; have := hd1.2.1; omega) (by omega)).mp h101
                        have e1 : (pWkU (qN S) (qKd S) (qKin S) (qMet S) (qT S) (qW S + i) (pWks (qN S) (qKd S) (qKin S) (qMet S) (qT S) (qW S) (qM S, qF S, s) i) (j + 1)) = (pWkU (qN S) (qKd S) (qKin S) (qMet S) (qT S) (qW S + i) (pWks (qN S) (qKd S) (qKin S) (qMet S) (qT S) (qW S) (qM S, qF S, s) i) j) := by show pWho (qN S) (qKd S) (qKin S) (qMet S) (qT S) (qW S + i) j _ = _; unfold pWho; rw [en]
                        have hfin := h1
                        rw [← e1] at hfin
                        have hSf := hS
                        have hvf := hv
                        refine v_iinc (q := 188) (v := 1) (L' := [_, _, _, _, _, _, _, _, _, _]) hC dX12_weeks_185 rfl rfl (by decide) (by decide) rfl rfl ?_
                        refine v_goto (q := 81) hC dX12_weeks_188 (by decide) ?_
                        rw [nI_1 j]
                        exact ih (j + 1) _ _ _ (by omega) hSf hvf hfin
                      · obtain ⟨f, en⟩ : ∃ f, pFst (pOw (pWkU (qN S) (qKd S) (qKin S) (qMet S) (qT S) (qW S + i) (pWks (qN S) (qKd S) (qKin S) (qMet S) (qT S) (qW S) (qM S, qF S, s) i) j).2.1 (nI j)) (pWkU (qN S) (qKd S) (qKin S) (qMet S) (qT S) (qW S + i) (pWks (qN S) (qKd S) (qKin S) (qMet S) (qT S) (qW S) (qM S, qF S, s) i) j).1 = some f := by cases e : pFst (pOw (pWkU (qN S) (qKd S) (qKin S) (qMet S) (qT S) (qW S + i) (pWks (qN S) (qKd S) (qKin S) (qMet S) (qT S) (qW S) (qM S, qF S, s) i) j).2.1 (nI j)) (pWkU (qN S) (qKd S) (qKin S) (qMet S) (qT S) (qW S + i) (pWks (qN S) (qKd S) (qKin S) (qMet S) (qT S) (qW S) (qM S, qF S, s) i) j).1 with | none => exact absurd (by rw [e]; rfl) h101 | some f => exact ⟨f, rfl⟩
                        have hf := pFst_lt en
                        rw [en]
                        have ez : zo (some f) = nI f := rfl
                        rw [ez]
                        obtain ⟨b2, hb2, eb2⟩ := pDraw_n (pWkU (qN S) (qKd S) (qKin S) (qMet S) (qT S) (qW S + i) (pWks (qN S) (qKd S) (qKin S) (qMet S) (qT S) (qW S) (qM S, qF S, s) i) j).2.2 (n := 2) (by omega) (by omega)
                        have eb2 : pDraw (pSeed (pWkU (qN S) (qKd S) (qKin S) (qMet S) (qT S) (qW S + i) (pWks (qN S) (qKd S) (qKin S) (qMet S) (qT S) (qW S) (qM S, qF S, s) i) j).2.2) 2 = nI b2 := eb2
                        refine v_aload_n (q := 105) hC dX12_weeks_104 rfl rfl rfl ?_
                        refine v_iconst (q := 106) (v := 2) hC dX12_weeks_105 rfl (by decide) ?_
                        refine v_callV1 (q := 109) (As := [_]) hC dX12_weeks_106 rfl lX12_268 mX12_draw iX12_draw eX12_draw rfl (hL1.1 53 (by decide)) (ct_X12_draw (d + 3) hL1 (m := 2) (by decide)) rfl rfl (by omega) rfl (Nat.le_of_ble_eq_true rfl) ?_
                        rw [hx1, eb2]
                        have c2 : nI b2 = 0 ↔ b2 = 0 := nI_eq (a := b2) (b := 0) (by omega) (by omega)
                        have hM2 : zSm [60, 68] [12, 22, 32] σ1 (zsI σ1 53 32 (pSeed (pWkU (qN S) (qKd S) (qKin S) (qMet S) (qT S) (qW S + i) (pWks (qN S) (qKd S) (qKin S) (qMet S) (qT S) (qW S) (qM S, qF S, s) i) j).2.2)) := zSm.rf.o (by simp)
                        have h2 := h1.sd (pSeed (pWkU (qN S) (qKd S) (qKin S) (qMet S) (qT S) (qW S + i) (pWks (qN S) (qKd S) (qKin S) (qMet S) (qT S) (qW S) (qM S, qF S, s) i) j).2.2)
                        have hv2 : ∀ q, q < 72 → zI (zsI σ1 53 32 (pSeed (pWkU (qN S) (qKd S) (qKin S) (qMet S) (qT S) (qW S + i) (pWks (qN S) (qKd S) (qKin S) (qMet S) (qT S) (qW S) (qM S, qF S, s) i) j).2.2)) 68 q = zI σ 60 q := fun q hq => by rw [zI_ne (by omega)]; exact hv q hq
                        have hS2 := hS.tr hM2
                        generalize zsI σ1 53 32 (pSeed (pWkU (qN S) (qKd S) (qKin S) (qMet S) (qT S) (qW S + i) (pWks (qN S) (qKd S) (qKin S) (qMet S) (qT S) (qW S) (qM S, qF S, s) i) j).2.2) = σ2 at h2 hv2 hS2 ⊢
                        refine v_if_ne (q := 112) (tgt := 185) hC dX12_weeks_109 rfl (by decide) (fun h109 => ?_) (fun h109 => ?_)
                        · have e1 : (pWkU (qN S) (qKd S) (qKin S) (qMet S) (qT S) (qW S + i) (pWks (qN S) (qKd S) (qKin S) (qMet S) (qT S) (qW S) (qM S, qF S, s) i) (j + 1)) = ((pWkU (qN S) (qKd S) (qKin S) (qMet S) (qT S) (qW S + i) (pWks (qN S) (qKd S) (qKin S) (qMet S) (qT S) (qW S) (qM S, qF S, s) i) j).1, (pWkU (qN S) (qKd S) (qKin S) (qMet S) (qT S) (qW S + i) (pWks (qN S) (qKd S) (qKin S) (qMet S) (qT S) (qW S) (qM S, qF S, s) i) j).2.1, (pSeed (pWkU (qN S) (qKd S) (qKin S) (qMet S) (qT S) (qW S + i) (pWks (qN S) (qKd S) (qKin S) (qMet S) (qT S) (qW S) (qM S, qF S, s) i) j).2.2)) := by show pWho (qN S) (qKd S) (qKin S) (qMet S) (qT S) (qW S + i) j _ = _; unfold pWho; rw [en]; dsimp only; unfold pRep; exact if_pos (by rw [eb2, show b2 = 1 by have : ¬ b2 = 0 := (fun z => h109 (c2.mpr z)); omega]; rfl)
                          have hfin := h2
                          rw [← e1] at hfin
                          have hSf := hS2
                          have hvf := hv2
                          refine v_iinc (q := 188) (v := 1) (L' := [_, _, _, _, _, _, _, _, _, _]) hC dX12_weeks_185 rfl rfl (by decide) (by decide) rfl rfl ?_
                          refine v_goto (q := 81) hC dX12_weeks_188 (by decide) ?_
                          rw [nI_1 j]
                          exact ih (j + 1) _ _ _ (by omega) hSf hvf hfin
                        · have hd1e : ¬ pDraw (pSeed (pWkU (qN S) (qKd S) (qKin S) (qMet S) (qT S) (qW S + i) (pWks (qN S) (qKd S) (qKin S) (qMet S) (qT S) (qW S) (qM S, qF S, s) i) j).2.2) 2 = 1 := by rw [eb2, c2.mp h109]; decide
                          obtain ⟨hL1, hF1, hd1, hs1, hx1⟩ := h2
                          have h2 : zTm σ2 (qN S) (qKd S) (qKin S) (qMet S) (qT S) (qW S + i) ((pWkU (qN S) (qKd S) (qKin S) (qMet S) (qT S) (qW S + i) (pWks (qN S) (qKd S) (qKin S) (qMet S) (qT S) (qW S) (qM S, qF S, s) i) j).1, (pWkU (qN S) (qKd S) (qKin S) (qMet S) (qT S) (qW S + i) (pWks (qN S) (qKd S) (qKin S) (qMet S) (qT S) (qW S) (qM S, qF S, s) i) j).2.1, (pSeed (pWkU (qN S) (qKd S) (qKin S) (qMet S) (qT S) (qW S + i) (pWks (qN S) (qKd S) (qKin S) (qMet S) (qT S) (qW S) (qM S, qF S, s) i) j).2.2)) := ⟨hL1, hF1, hd1, hs1, hx1⟩
                          have hn1 : ¬ nI (qN S) < 1 := fun z => absurd ((nI_ltI (a := qN S) (b := 1) (by omega) (by omega)).mp z) (by omega)
                          obtain ⟨b, hb, eb⟩ := pDraw_n (pSeed (pWkU (qN S) (qKd S) (qKin S) (qMet S) (qT S) (qW S + i) (pWks (qN S) (qKd S) (qKin S) (qMet S) (qT S) (qW S) (qM S, qF S, s) i) j).2.2) (n := qN S) (by omega) (by omega)
                          refine v_aload_n (q := 113) hC dX12_weeks_112 rfl rfl rfl ?_
                          refine v_aload_n (q := 114) hC dX12_weeks_113 rfl rfl rfl ?_
                          refine v_getI (q := 117) hC dX12_weeks_114 rfl fX12_126 (hL1.1 53 (by decide)) ?_
                          rw [hF1.1]
                          refine v_callV1 (q := 120) (As := [_]) hC dX12_weeks_117 rfl lX12_268 mX12_draw iX12_draw eX12_draw rfl (hL1.1 53 (by decide)) (ct_X12_draw (d + 3) hL1 hn1) rfl rfl (by omega) rfl (Nat.le_of_ble_eq_true rfl) ?_
                          rw [hx1, eb]
                          have hM3 : zSm [60, 68] [12, 22, 32] σ2 (zsI σ2 53 32 (pSeed (pSeed (pWkU (qN S) (qKd S) (qKin S) (qMet S) (qT S) (qW S + i) (pWks (qN S) (qKd S) (qKin S) (qMet S) (qT S) (qW S) (qM S, qF S, s) i) j).2.2))) := zSm.rf.o (by simp)
                          have h3 := h2.sd (pSeed (pSeed (pWkU (qN S) (qKd S) (qKin S) (qMet S) (qT S) (qW S + i) (pWks (qN S) (qKd S) (qKin S) (qMet S) (qT S) (qW S) (qM S, qF S, s) i) j).2.2))
                          have hv3 : ∀ q, q < 72 → zI (zsI σ2 53 32 (pSeed (pSeed (pWkU (qN S) (qKd S) (qKin S) (qMet S) (qT S) (qW S + i) (pWks (qN S) (qKd S) (qKin S) (qMet S) (qT S) (qW S) (qM S, qF S, s) i) j).2.2))) 68 q = zI σ 60 q := fun q hq => by rw [zI_ne (by omega)]; exact hv2 q hq
                          have hS3 := hS2.tr hM3
                          generalize zsI σ2 53 32 (pSeed (pSeed (pWkU (qN S) (qKd S) (qKin S) (qMet S) (qT S) (qW S + i) (pWks (qN S) (qKd S) (qKin S) (qMet S) (qT S) (qW S) (qM S, qF S, s) i) j).2.2)) = σ3 at h3 hv3 hS3 ⊢
                          obtain ⟨hL1, hF1, hd1, hs1, hx1⟩ := h3
                          have h3 : zTm σ3 (qN S) (qKd S) (qKin S) (qMet S) (qT S) (qW S + i) ((pWkU (qN S) (qKd S) (qKin S) (qMet S) (qT S) (qW S + i) (pWks (qN S) (qKd S) (qKin S) (qMet S) (qT S) (qW S) (qM S, qF S, s) i) j).1, (pWkU (qN S) (qKd S) (qKin S) (qMet S) (qT S) (qW S + i) (pWks (qN S) (qKd S) (qKin S) (qMet S) (qT S) (qW S) (qM S, qF S, s) i) j).2.1, (pSeed (pSeed (pWkU (qN S) (qKd S) (qKin S) (qMet S) (qT S) (qW S + i) (pWks (qN S) (qKd S) (qKin S) (qMet S) (qT S) (qW S) (qM S, qF S, s) i) j).2.2))) := ⟨hL1, hF1, hd1, hs1, hx1⟩
                          have hd1 : zMr σ3 (pWkU (qN S) (qKd S) (qKin S) (qMet S) (qT S) (qW S + i) (pWks (qN S) (qKd S) (qKin S) (qMet S) (qT S) (qW S) (qM S, qF S, s) i) j).1 (pWkU (qN S) (qKd S) (qKin S) (qMet S) (qT S) (qW S + i) (pWks (qN S) (qKd S) (qKin S) (qMet S) (qT S) (qW S) (qM S, qF S, s) i) j).2.1 (qW S + i) := hd1
                          have hm13 := hd1.2.1
                          have hlw := pWkU_ok (kd := qKd S) (kin := qKin S) (met := qMet S) (t := qT S) (pWks_ok (kd := qKd S) (kin := qKin S) (met := qMet S) (t := qT S) (x := (qM S, qF S, s)) oL hn6 (show qW S < 900000 by omega) i (by omega)) hn6 j (by omega)
                          refine v_istore (q := 122) (L' := [_, _, _, _, _, _, _, _, _, _]) hC dX12_weeks_120 rfl (by decide) rfl rfl ?_
                          refine v_aload_n (q := 123) hC dX12_weeks_122 rfl rfl rfl ?_
                          refine v_getI (q := 126) hC dX12_weeks_123 rfl fX12_129 (hL1.1 53 (by decide)) ?_
                          rw [hd1.1]
                          have c12 : (12 : Int32) ≤ nI (pWkU (qN S) (qKd S) (qKin S) (qMet S) (qT S) (qW S + i) (pWks (qN S) (qKd S) (qKin S) (qMet S) (qT S) (qW S) (qM S, qF S, s) i) j).1 ↔ 12 ≤ (pWkU (qN S) (qKd S) (qKin S) (qMet S) (qT S) (qW S + i) (pWks (qN S) (qKd S) (qKin S) (qMet S) (qT S) (qW S) (qM S, qF S, s) i) j).1 := nI_leI (a := 12) (by omega) (by omega)
                          refine v_bipush (q := 128) (v := 12) hC dX12_weeks_126 rfl (by decide) ?_
                          refine v_icmp_ge (q := 131) (tgt := 185) hC dX12_weeks_128 rfl (by decide) (fun h128 => ?_) (fun h128 => ?_)
                          · have e1 : (pWkU (qN S) (qKd S) (qKin S) (qMet S) (qT S) (qW S + i) (pWks (qN S) (qKd S) (qKin S) (qMet S) (qT S) (qW S) (qM S, qF S, s) i) (j + 1)) = ((pWkU (qN S) (qKd S) (qKin S) (qMet S) (qT S) (qW S + i) (pWks (qN S) (qKd S) (qKin S) (qMet S) (qT S) (qW S) (qM S, qF S, s) i) j).1, (pWkU (qN S) (qKd S) (qKin S) (qMet S) (qT S) (qW S + i) (pWks (qN S) (qKd S) (qKin S) (qMet S) (qT S) (qW S) (qM S, qF S, s) i) j).2.1, (pSeed (pSeed (pWkU (qN S) (qKd S) (qKin S) (qMet S) (qT S) (qW S + i) (pWks (qN S) (qKd S) (qKin S) (qMet S) (qT S) (qW S) (qM S, qF S, s) i) j).2.2))) := by show pWho (qN S) (qKd S) (qKin S) (qMet S) (qT S) (qW S + i) j _ = _; unfold pWho; rw [en]; dsimp only; unfold pRep; rw [if_neg hd1e]; exact if_pos (by have := c12.mp h128; omega)
                            have hfin := h3
                            rw [← e1] at hfin
                            have hSf := hS3
                            have hvf := hv3
                            refine v_iinc (q := 188) (v := 1) (L' := [_, _, _, _, _, _, _, _, _, _]) hC dX12_weeks_185 rfl rfl (by decide) (by decide) rfl rfl ?_
                            refine v_goto (q := 81) hC dX12_weeks_188 (by decide) ?_
                            rw [nI_1 j]
                            exact ih (j + 1) _ _ _ (by omega) hSf hvf hfin
                          · have hm11 : (pWkU (qN S) (qKd S) (qKin S) (qMet S) (qT S) (qW S + i) (pWks (qN S) (qKd S) (qKin S) (qMet S) (qT S) (qW S) (qM S, qF S, s) i) j).1 < 12 := by have : ¬ 12 ≤ (pWkU (qN S) (qKd S) (qKin S) (qMet S) (qT S) (qW S + i) (pWks (qN S) (qKd S) (qKin S) (qMet S) (qT S) (qW S) (qM S, qF S, s) i) j).1 := fun z => h128 (c12.mpr z); omega
                            refine v_iload (q := 133) hC dX12_weeks_131 rfl rfl ?_
                            refine v_iload (q := 135) hC dX12_weeks_133 rfl rfl ?_
                            refine v_icmp_eq (q := 138) (tgt := 185) hC dX12_weeks_135 rfl (by decide) (fun h135 => ?_) (fun h135 => ?_)
                            · have ebj : b = j := (nI_eq (by omega) (by omega)).mp h135
                              have e1 : (pWkU (qN S) (qKd S) (qKin S) (qMet S) (qT S) (qW S + i) (pWks (qN S) (qKd S) (qKin S) (qMet S) (qT S) (qW S) (qM S, qF S, s) i) (j + 1)) = ((pWkU (qN S) (qKd S) (qKin S) (qMet S) (qT S) (qW S + i) (pWks (qN S) (qKd S) (qKin S) (qMet S) (qT S) (qW S) (qM S, qF S, s) i) j).1, (pWkU (qN S) (qKd S) (qKin S) (qMet S) (qT S) (qW S + i) (pWks (qN S) (qKd S) (qKin S) (qMet S) (qT S) (qW S) (qM S, qF S, s) i) j).2.1, (pSeed (pSeed (pWkU (qN S) (qKd S) (qKin S) (qMet S) (qT S) (qW S + i) (pWks (qN S) (qKd S) (qKin S) (qMet S) (qT S) (qW S) (qM S, qF S, s) i) j).2.2))) := by show pWho (qN S) (qKd S) (qKin S) (qMet S) (qT S) (qW S + i) j _ = _; unfold pWho; rw [en]; dsimp only; unfold pRep; rw [if_neg hd1e, if_neg (by omega), eb, dN_nI (by omega)]; exact if_neg (by simp [pLf, ebj])
                              have hfin := h3
                              rw [← e1] at hfin
                              have hSf := hS3
                              have hvf := hv3
                              refine v_iinc (q := 188) (v := 1) (L' := [_, _, _, _, _, _, _, _, _, _]) hC dX12_weeks_185 rfl rfl (by decide) (by decide) rfl rfl ?_
                              refine v_goto (q := 81) hC dX12_weeks_188 (by decide) ?_
                              rw [nI_1 j]
                              exact ih (j + 1) _ _ _ (by omega) hSf hvf hfin
                            · refine v_aload_n (q := 139) hC dX12_weeks_138 rfl rfl rfl ?_
                              refine v_iload (q := 141) hC dX12_weeks_139 rfl rfl ?_
                              refine v_iload (q := 143) hC dX12_weeks_141 rfl rfl ?_
                              refine v_aload_n (q := 144) hC dX12_weeks_143 rfl rfl rfl ?_
                              refine v_getR (q := 147) (r := 60) hC dX12_weeks_144 rfl fX12_28 (hL1.1 53 (by decide)) (hL1.2 53 23 60 rfl) ?_
                              refine v_bipush (q := 149) (v := 6) hC dX12_weeks_147 rfl (by decide) ?_
                              refine v_iload (q := 151) hC dX12_weeks_149 rfl rfl ?_
                              refine v_imul (q := 152) hC dX12_weeks_151 rfl ?_
                              refine v_iconst (q := 153) (v := 2) hC dX12_weeks_152 rfl (by decide) ?_
                              refine v_iadd (q := 154) hC dX12_weeks_153 rfl ?_
                              refine v_ialdN (q := 155) (j := 6 * f + 2) hC dX12_weeks_154 rfl (hL1.1 60 (by decide)) (z6' f 2) (by omega) (by decide) ?_
                              rw [hd1.2.2.2 2 f (by decide) hf]
                              refine v_iload (q := 157) hC dX12_weeks_155 rfl rfl ?_
                              refine v_callV1 (q := 160) (As := [_, _, _, _]) hC dX12_weeks_157 rfl lX12_201 mX12_mayDo iX12_mayDo eX12_mayDo rfl (hL1.1 53 (by decide)) (ct_X12_mayDo d hL1 hF1 hd1 hlw hs1 hsy (show j < qN S by omega) hb _ (old := some f) (fun g hg => by cases hg; exact hf)) rfl rfl (by omega) rfl (Nat.le_of_ble_eq_true rfl) ?_
                              refine v_if_eq (q := 163) (tgt := 185) hC dX12_weeks_160 rfl (by decide) (fun h160 => ?_) (fun h160 => ?_)
                              · have e1 : (pWkU (qN S) (qKd S) (qKin S) (qMet S) (qT S) (qW S + i) (pWks (qN S) (qKd S) (qKin S) (qMet S) (qT S) (qW S) (qM S, qF S, s) i) (j + 1)) = ((pWkU (qN S) (qKd S) (qKin S) (qMet S) (qT S) (qW S + i) (pWks (qN S) (qKd S) (qKin S) (qMet S) (qT S) (qW S) (qM S, qF S, s) i) j).1, (pWkU (qN S) (qKd S) (qKin S) (qMet S) (qT S) (qW S + i) (pWks (qN S) (qKd S) (qKin S) (qMet S) (qT S) (qW S) (qM S, qF S, s) i) j).2.1, (pSeed (pSeed (pWkU (qN S) (qKd S) (qKin S) (qMet S) (qT S) (qW S + i) (pWks (qN S) (qKd S) (qKin S) (qMet S) (qT S) (qW S) (qM S, qF S, s) i) j).2.2))) := by show pWho (qN S) (qKd S) (qKin S) (qMet S) (qT S) (qW S + i) j _ = _; unfold pWho; rw [en]; dsimp only; unfold pRep; rw [if_neg hd1e, if_neg (by omega), eb, dN_nI (by omega)]; exact if_neg (by rw [zb_eq0.mp h160]; decide)
                                have hfin := h3
                                rw [← e1] at hfin
                                have hSf := hS3
                                have hvf := hv3
                                refine v_iinc (q := 188) (v := 1) (L' := [_, _, _, _, _, _, _, _, _, _]) hC dX12_weeks_185 rfl rfl (by decide) (by decide) rfl rfl ?_
                                refine v_goto (q := 81) hC dX12_weeks_188 (by decide) ?_
                                rw [nI_1 j]
                                exact ih (j + 1) _ _ _ (by omega) hSf hvf hfin
                              · refine v_aload_n (q := 164) hC dX12_weeks_163 rfl rfl rfl ?_
                                refine v_iload (q := 166) hC dX12_weeks_164 rfl rfl ?_
                                refine v_iload (q := 168) hC dX12_weeks_166 rfl rfl ?_
                                refine v_aload_n (q := 169) hC dX12_weeks_168 rfl rfl rfl ?_
                                refine v_getR (q := 172) (r := 60) hC dX12_weeks_169 rfl fX12_28 (hL1.1 53 (by decide)) (hL1.2 53 23 60 rfl) ?_
                                refine v_bipush (q := 174) (v := 6) hC dX12_weeks_172 rfl (by decide) ?_
                                refine v_iload (q := 176) hC dX12_weeks_174 rfl rfl ?_
                                refine v_imul (q := 177) hC dX12_weeks_176 rfl ?_
                                refine v_iconst (q := 178) (v := 2) hC dX12_weeks_177 rfl (by decide) ?_
                                refine v_iadd (q := 179) hC dX12_weeks_178 rfl ?_
                                refine v_ialdN (q := 180) (j := 6 * f + 2) hC dX12_weeks_179 rfl (hL1.1 60 (by decide)) (z6' f 2) (by omega) (by decide) ?_
                                rw [hd1.2.2.2 2 f (by decide) hf]
                                refine v_iload (q := 182) hC dX12_weeks_180 rfl rfl ?_
                                refine v_callVQ (q := 185) (As := [_, _, _, _]) hC dX12_weeks_182 rfl lX12_205 mX12_lay iX12_lay eX12_lay rfl (hL1.1 53 (by decide)) (ct_X12_lay (d + 3) hL1 hd1 hm11 (nI j) (nI b) _ (old := some f) (fun g hg => by cases hg; exact hf)) rfl rfl (by omega) (by decide) (Nat.le_of_ble_eq_true rfl) ?_
                                rintro _ σ4 ⟨rfl, hS4, hd4⟩
                                have e1 : (pWkU (qN S) (qKd S) (qKin S) (qMet S) (qT S) (qW S + i) (pWks (qN S) (qKd S) (qKin S) (qMet S) (qT S) (qW S) (qM S, qF S, s) i) (j + 1)) = ((pWkU (qN S) (qKd S) (qKin S) (qMet S) (qT S) (qW S + i) (pWks (qN S) (qKd S) (qKin S) (qMet S) (qT S) (qW S) (qM S, qF S, s) i) j).1 + 1, pAdd (pWkU (qN S) (qKd S) (qKin S) (qMet S) (qT S) (qW S + i) (pWks (qN S) (qKd S) (qKin S) (qMet S) (qT S) (qW S) (qM S, qF S, s) i) j).1 (pWkU (qN S) (qKd S) (qKin S) (qMet S) (qT S) (qW S + i) (pWks (qN S) (qKd S) (qKin S) (qMet S) (qT S) (qW S) (qM S, qF S, s) i) j).2.1 (nI j) (nI b) ((pWkU (qN S) (qKd S) (qKin S) (qMet S) (qT S) (qW S + i) (pWks (qN S) (qKd S) (qKin S) (qMet S) (qT S) (qW S) (qM S, qF S, s) i) j).2.1 2 f) (nI (qW S + i)) (some f), (pSeed (pSeed (pWkU (qN S) (qKd S) (qKin S) (qMet S) (qT S) (qW S + i) (pWks (qN S) (qKd S) (qKin S) (qMet S) (qT S) (qW S) (qM S, qF S, s) i) j).2.2))) := by show pWho (qN S) (qKd S) (qKin S) (qMet S) (qT S) (qW S + i) j _ = _; unfold pWho; rw [en]; dsimp only; unfold pRep; rw [if_neg hd1e, if_neg (by omega), eb, dN_nI (by omega)]; exact if_pos (zb_ne h160)
                                have hfin : zTm σ4 (qN S) (qKd S) (qKin S) (qMet S) (qT S) (qW S + i) ((pWkU (qN S) (qKd S) (qKin S) (qMet S) (qT S) (qW S + i) (pWks (qN S) (qKd S) (qKin S) (qMet S) (qT S) (qW S) (qM S, qF S, s) i) j).1 + 1, pAdd (pWkU (qN S) (qKd S) (qKin S) (qMet S) (qT S) (qW S + i) (pWks (qN S) (qKd S) (qKin S) (qMet S) (qT S) (qW S) (qM S, qF S, s) i) j).1 (pWkU (qN S) (qKd S) (qKin S) (qMet S) (qT S) (qW S + i) (pWks (qN S) (qKd S) (qKin S) (qMet S) (qT S) (qW S) (qM S, qF S, s) i) j).2.1 (nI j) (nI b) ((pWkU (qN S) (qKd S) (qKin S) (qMet S) (qT S) (qW S + i) (pWks (qN S) (qKd S) (qKin S) (qMet S) (qT S) (qW S) (qM S, qF S, s) i) j).2.1 2 f) (nI (qW S + i)) (some f), (pSeed (pSeed (pWkU (qN S) (qKd S) (qKin S) (qMet S) (qT S) (qW S + i) (pWks (qN S) (qKd S) (qKin S) (qMet S) (qT S) (qW S) (qM S, qF S, s) i) j).2.2))) := ⟨hS4.lay hL1, hF1.sm hS4 rfl rfl, hd4, hs1.sm hS4 rfl, by rw [hS4.2 32 (by simp)]; exact hx1⟩
                                rw [← e1] at hfin
                                have hSf := hS3.tr (hS4.mono (by simp) (by simp))
                                have hvf : ∀ q, q < 72 → zI σ4 68 q = zI σ 60 q := fun q hq => by rw [hS4.cell (by simp) (by decide)]; exact hv3 q hq
                                refine v_iinc (q := 188) (v := 1) (L' := [_, _, _, _, _, _, _, _, _, _]) hC dX12_weeks_185 rfl rfl (by decide) (by decide) rfl rfl ?_
                                refine v_goto (q := 81) hC dX12_weeks_188 (by decide) ?_
                                rw [nI_1 j]
                                exact ih (j + 1) _ _ _ (by omega) hSf hvf hfin
                exact lp2 (qN S) 0 σ1 _ _ (by omega) hS hv h1
          have hM2 : zSm [68] [32] σ (zsI σ1 53 32 s) := ((zSm.of (cs := [68]) (sl := [32]) hS1 rfl)).o (by simp)
          exact lp k 0 _ none none none (by omega) (hM2.mono (by simp) (by simp)) (fun q hq => by rw [zI_ne (by omega)]; exact g1 q hq) ⟨hM2.lay h0.1, hF.sm hM2 rfl rfl, hd.sm hM2 rfl rfl, hs.sm hM2 rfl, zI_eq⟩
        · refine v_bipush (q := 40) (v := -103) hC dX12_weeks_38 rfl (by decide) ?_
          refine v_ireturn hC hB dX12_weeks_40 ⟨Nat.le_refl _, Nat.le_refl _⟩ ?_
          exact zQs.mk (by unfold sWeeks; rw [if_neg hno]; exact if_pos (c0.mp (of_decide_eq_true (zb_ne h35)))) h0 zFm.rf
      · refine v_bipush (q := 30) (v := -102) hC dX12_weeks_28 rfl (by decide) ?_
        refine v_ireturn hC hB dX12_weeks_30 ⟨Nat.le_refl _, Nat.le_refl _⟩ ?_
        exact zQs.mk (if_pos (by first | (rcases Decidable.not_not.mp (of_decide_eq_false (zb_eq0.mp h9)) with z | z; exact Or.inl z; exact Or.inr (Or.inl z)) | exact Or.inr (Or.inr (Or.inl h13)) | (rcases Decidable.not_not.mp (of_decide_eq_false (zb_eq0.mp h25)) with z | z; exact Or.inr (Or.inr (Or.inr (Or.inl z))); exact Or.inr (Or.inr (Or.inr (Or.inr z)))))) h0 zFm.rf

