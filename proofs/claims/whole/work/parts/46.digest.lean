/-! ===== the class's digest ===== -/
def pW (h : Int64) (x : Int32) : Int64 := 31 * h + x.toInt64
def pFold (g : Nat → Int64 → Int64) (h : Int64) : Nat → Int64
  | 0 => h
  | k + 1 => g k (pFold g h k)
abbrev gAb (S : pS) (a : Nat) : Nat → Int64 → Int64 := fun k h => pW h (sAbout S (nI a) (nI k)).1
abbrev gBt (S : pS) (a : Nat) : Nat → Int64 → Int64 := fun b h => if b = a then h else pW h (sBetween S (nI a) (nI b)).1
def pPer (S : pS) (a : Nat) (h : Int64) : Int64 := pW (pW (pFold (gBt S a) (pFold (gAb S a) h 6) (qN S)) (nI (pRng S a 2))) (nI (pRng S a 3))
abbrev gDd (S : pS) (f : Nat) : Nat → Int64 → Int64 := fun k h => pW h (sDeed S (nI f) (nI k)).1
def pFav (S : pS) (f : Nat) (h : Int64) : Int64 := if qF S 5 f = -1 then pW (pFold (gDd S f) h 8) (nI (pRch (qN S) (pGS S) (pNS S) (dN (qF S 0 f)) (dN (qF S 1 f)))) else pFold (gDd S f) h 8
abbrev gPg (S : pS) : Nat → Int64 → Int64 := fun k h => pW h (qPc S k)
abbrev gCo (S : pS) : Nat → Int64 → Int64 := fun k h => pW h (sCount S (nI k)).1
def pDig (S : pS) : Int64 := pFold (gCo S) (pFold (gPg S) (pW (pFold (pFav S) (pFold (pPer S) 743 (qN S)) (qM S)) (nI (pFit S))) (qPl S)) 11
def zFe (σ σ' : zSt) : Prop := zFc σ σ' ∧ σ'.1.length = σ.1.length
theorem zFe.rf {σ : zSt} : zFe σ σ := ⟨(zFc.of (cs := []) (rs := []) zSame.rf rfl rfl), rfl⟩
theorem zFc.tr {σ σ1 σ2 : zSt} (h : zFc σ σ1) (h' : zFc σ1 σ2) (e : σ1.1.length = σ.1.length ∨ σ2.1.length = σ1.1.length) : zFc σ σ2 := ⟨fun c hc => (h'.1 c hc).trans (h.1 c hc), by have := h.2.1; have := h'.2.1; omega, fun c h1 h2 => ⟨fun i => ((h'.2.2 c h1 h2).1 i).trans ((h.2.2 c h1 h2).1 i), fun i => ((h'.2.2 c h1 h2).2.1 i).trans ((h.2.2 c h1 h2).2.1 i), fun i => ((h'.2.2 c h1 h2).2.2 i).trans ((h.2.2 c h1 h2).2.2 i)⟩⟩
theorem zFe.tr {σ σ1 σ2 : zSt} (h : zFe σ σ1) (h' : zFe σ1 σ2) : zFe σ σ2 := ⟨h.1.tr h'.1 (Or.inl h.2), h'.2.trans h.2⟩
theorem zFe.of {cs rs : List Nat} {σ σ' : zSt} (h : zSame cs rs σ σ') (hc : (cs.all fun c => decide (c < 53)) = true) (hr : (rs.all fun c => decide (c < 53)) = true) : zFe σ σ' := ⟨zFc.of h hc hr, by rw [h.1]⟩

set_option maxRecDepth 100000 in
set_option maxHeartbeats 4000000 in
theorem ct_X11_withPerson (d : Nat) {σ : zSt} {S : pS} {B : Nat} (h : zCl σ S) (ok : pOk B S) (h0 : Int64) {a : Nat} (ha : a < qN S) : zCt (d + 4) MX11_withPerson [.ref 0, .long h0, .int (nI a)] σ (fun r σ' => r = some (.long (pPer S a h0)) ∧ zCl σ' S ∧ zFe σ σ') := by
  refine zCt.of (L := [some (.ref 0), some (.long h0), none, some (.int (nI a)), none, none, none]) (by decide) (Nat.le_of_ble_eq_true rfl) rfl (fun X hC hB => ?_)
  have hC : zC X RX11 cX11_withPerson 7 (d + 4) 0 0 := hC
  have hB : zB X (some .long) 0 0 "withPerson" σ _ := hB
  show zV X 7 0 [some (.ref 0), some (.long h0), none, some (.int (nI a)), none, none, none] [] 0 0 σ
  have h0_ := h
  obtain ⟨hL, hPg, hF, hK, hp, h18, h23, hd, hy, hd2, hy2, hq⟩ := h
  obtain ⟨oB, oq, ow, oqt, ot, okm, omm, oq0, oL, oD, okr, okp, oK, osym, okp6, okd⟩ := ok
  have hok : pOk B S := ⟨oB, oq, ow, oqt, ot, okm, omm, oq0, oL, oD, okr, okp, oK, osym, okp6, okd⟩
  have hn6 := hF.2.1
  have hm12 := hd.2.1
  have hLg := zLg.of hL (c := 28) (by simp)
  obtain ⟨a1, b1, hw⟩ := h23
  have h23 : zRx σ 23 := ⟨_, _, hw⟩
  have lp : ∀ (r : Nat) (i : Nat), i + r = 6 → zV X 7 6 [some (.ref 0), some (.long h0), none, some (.int (nI a)), some (.long (pFold (gAb S a) h0 i)), none, some (.int (nI i))] [] 0 0 σ := by
    intro r
    induction r with
    | zero =>
      intro i hi
      refine v_iload (q := 8) hC dX11_withPerson_6 rfl rfl ?_
      refine v_iconst (q := 9) (v := 5) hC dX11_withPerson_8 rfl (by decide) ?_
      have cg : nI 5 < nI i ↔ 5 < i := nI_ltI (by omega) (by omega)
      refine v_icmp_gt (q := 12) (tgt := 32) hC dX11_withPerson_9 rfl (by decide) (fun h9 => ?_) (fun h9 => ?_)
      · refine v_iconst (q := 33) (v := 0) hC dX11_withPerson_32 rfl (by decide) ?_
        refine v_istore (q := 35) (L' := [_, _, _, _, _, _, _]) hC dX11_withPerson_33 rfl (by decide) rfl rfl ?_
        have e : i = 6 := by omega
        subst e
        have lp2 : ∀ (r : Nat) (j : Nat), j + r = qN S → zV X 7 35 [some (.ref 0), some (.long h0), none, some (.int (nI a)), some (.long (pFold (gBt S a) (pFold (gAb S a) h0 6) j)), none, some (.int (nI j))] [] 0 0 σ := by
          intro r
          induction r with
          | zero =>
            intro j hj
            refine v_iload (q := 37) hC dX11_withPerson_35 rfl rfl ?_
            refine v_aload_n (q := 38) hC dX11_withPerson_37 rfl rfl rfl ?_
            refine v_getR (q := 41) (r := 8) hC dX11_withPerson_38 rfl fX11_26 (hL.1 0 (by decide)) (hL.2 0 2 8 rfl) ?_
            refine v_getI (q := 44) hC dX11_withPerson_41 rfl fX11_122 (hL.1 8 (by decide)) ?_
            rw [hF.1]
            refine v_icmp_ge (q := 47) (tgt := 73) hC dX11_withPerson_44 rfl (by decide) (fun h44 => ?_) (fun h44 => ?_)
            · have e : j = qN S := by omega
              subst e
              refine v_lload (q := 75) hC dX11_withPerson_73 rfl rfl ?_
              refine v_aload_n (q := 76) hC dX11_withPerson_75 rfl rfl rfl ?_
              refine v_getR (q := 79) (r := 22) hC dX11_withPerson_76 rfl fX11_51 (hL.1 0 (by decide)) (hL.2 0 5 22 rfl) ?_
              refine v_iload_n (q := 80) hC dX11_withPerson_79 rfl rfl rfl ?_
              refine v_iconst (q := 81) (v := 2) hC dX11_withPerson_80 rfl (by decide) ?_
              refine v_callVQ (q := 84) (As := [_, _]) hC dX11_withPerson_81 rfl lX11_219 mX9_ringsOf iX9_ringsOf eX9_ringsOf rfl (hL.1 22 (by decide)) (ct_X9_ringsOf d hL hF.1 hn6 hp hw ha (len := 2) (by omega) (by omega)) rfl rfl (by omega) (by decide) (Nat.le_of_ble_eq_true rfl) ?_
              rintro _ σ1 ⟨rfl, hS1, a2, b2, hw1⟩
              have hL1 := hL.same hS1 rfl
              refine v_callS1 (q := 87) (As := [_, _]) hC dX11_withPerson_84 rfl lX11_291 mX11_with sX11_with (ct_X11_with (d + 3) _ _) rfl rfl (by omega) rfl (Nat.le_of_ble_eq_true rfl) ?_
              refine v_lstore (q := 89) (L' := [_, _, _, _, _, _, _]) hC dX11_withPerson_87 rfl (by decide) rfl rfl ?_
              refine v_lload (q := 91) hC dX11_withPerson_89 rfl rfl ?_
              refine v_aload_n (q := 92) hC dX11_withPerson_91 rfl rfl rfl ?_
              refine v_getR (q := 95) (r := 22) hC dX11_withPerson_92 rfl fX11_51 (hL1.1 0 (by decide)) (hL1.2 0 5 22 rfl) ?_
              refine v_iload_n (q := 96) hC dX11_withPerson_95 rfl rfl rfl ?_
              refine v_iconst (q := 97) (v := 3) hC dX11_withPerson_96 rfl (by decide) ?_
              refine v_callVQ (q := 100) (As := [_, _]) hC dX11_withPerson_97 rfl lX11_219 mX9_ringsOf iX9_ringsOf eX9_ringsOf rfl (hL1.1 22 (by decide)) (ct_X9_ringsOf d hL1 (hF.same hS1 rfl).1 hn6 (hp.same hS1 rfl) hw1 ha (len := 3) (by omega) (by omega)) rfl rfl (by omega) (by decide) (Nat.le_of_ble_eq_true rfl) ?_
              rintro _ σ2 ⟨rfl, hS2, hw2⟩
              refine v_callS1 (q := 103) (As := [_, _]) hC dX11_withPerson_100 rfl lX11_291 mX11_with sX11_with (ct_X11_with (d + 3) _ _) rfl rfl (by omega) rfl (Nat.le_of_ble_eq_true rfl) ?_
              refine v_lreturn hC hB dX11_withPerson_103 ⟨Nat.le_refl _, Nat.le_refl _⟩ ?_
              have hS3 := hS1.tr hS2
              exact ⟨rfl, h0_.sc hS3 rfl rfl (h18.same hS3 rfl) hw2, zFe.of hS3 rfl rfl⟩
            · exact absurd (nI_le (a := qN S) (b := j) (by omega) (by omega)) h44
          | succ r ih =>
            intro j hj
            refine v_iload (q := 37) hC dX11_withPerson_35 rfl rfl ?_
            refine v_aload_n (q := 38) hC dX11_withPerson_37 rfl rfl rfl ?_
            refine v_getR (q := 41) (r := 8) hC dX11_withPerson_38 rfl fX11_26 (hL.1 0 (by decide)) (hL.2 0 2 8 rfl) ?_
            refine v_getI (q := 44) hC dX11_withPerson_41 rfl fX11_122 (hL.1 8 (by decide)) ?_
            rw [hF.1]
            refine v_icmp_ge (q := 47) (tgt := 73) hC dX11_withPerson_44 rfl (by decide) (fun h44 => ?_) (fun h44 => ?_)
            · exact absurd h44 (nI_ge (a := j) (b := qN S) (by omega) (by omega))
            · refine v_iload (q := 49) hC dX11_withPerson_47 rfl rfl ?_
              refine v_iload_n (q := 50) hC dX11_withPerson_49 rfl rfl rfl ?_
              refine v_icmp_eq (q := 53) (tgt := 67) hC dX11_withPerson_50 rfl (by decide) (fun h50 => ?_) (fun h50 => ?_)
              · refine v_iinc (q := 70) (v := 1) (L' := [_, _, _, _, _, _, _]) hC dX11_withPerson_67 rfl rfl (by decide) (by decide) rfl rfl ?_
                refine v_goto (q := 35) hC dX11_withPerson_70 (by decide) ?_
                rw [nI_1 j]
                have ce : nI j = nI a ↔ j = a := nI_eq (by omega) (by omega)
                have hr := ih (j + 1) (by omega)
                first | (have e : pFold (gBt S a) (pFold (gAb S a) h0 6) (j + 1) = pFold (gBt S a) (pFold (gAb S a) h0 6) j := if_pos (ce.mp h50); rw [e] at hr; exact hr) | (have e : pFold (gBt S a) (pFold (gAb S a) h0 6) (j + 1) = pW (pFold (gBt S a) (pFold (gAb S a) h0 6) j) (sBetween S (nI a) (nI j)).1 := if_neg (fun z => h50 (ce.mpr z)); rw [e] at hr; exact hr)
              · refine v_lload (q := 55) hC dX11_withPerson_53 rfl rfl ?_
                refine v_aload_n (q := 56) hC dX11_withPerson_55 rfl rfl rfl ?_
                refine v_iload_n (q := 57) hC dX11_withPerson_56 rfl rfl rfl ?_
                refine v_iload (q := 59) hC dX11_withPerson_57 rfl rfl ?_
                refine v_callV1 (q := 62) (As := [_, _]) hC dX11_withPerson_59 rfl lX11_303 mX11_between iX11_between eX11_between rfl (hL.1 0 (by decide)) (ce_between (d + 1) h0_ hok (nI a) (nI j)) rfl rfl (by omega) rfl (Nat.le_of_ble_eq_true rfl) ?_
                refine v_callS1 (q := 65) (As := [_, _]) hC dX11_withPerson_62 rfl lX11_291 mX11_with sX11_with (ct_X11_with (d + 3) _ _) rfl rfl (by omega) rfl (Nat.le_of_ble_eq_true rfl) ?_
                refine v_lstore (q := 67) (L' := [_, _, _, _, _, _, _]) hC dX11_withPerson_65 rfl (by decide) rfl rfl ?_
                refine v_iinc (q := 70) (v := 1) (L' := [_, _, _, _, _, _, _]) hC dX11_withPerson_67 rfl rfl (by decide) (by decide) rfl rfl ?_
                refine v_goto (q := 35) hC dX11_withPerson_70 (by decide) ?_
                rw [nI_1 j]
                have ce : nI j = nI a ↔ j = a := nI_eq (by omega) (by omega)
                have hr := ih (j + 1) (by omega)
                first | (have e : pFold (gBt S a) (pFold (gAb S a) h0 6) (j + 1) = pFold (gBt S a) (pFold (gAb S a) h0 6) j := if_pos (ce.mp h50); rw [e] at hr; exact hr) | (have e : pFold (gBt S a) (pFold (gAb S a) h0 6) (j + 1) = pW (pFold (gBt S a) (pFold (gAb S a) h0 6) j) (sBetween S (nI a) (nI j)).1 := if_neg (fun z => h50 (ce.mpr z)); rw [e] at hr; exact hr)
        exact lp2 (qN S) 0 (by omega)
      · exact absurd (cg.mpr (by omega)) h9
    | succ r ih =>
      intro i hi
      refine v_iload (q := 8) hC dX11_withPerson_6 rfl rfl ?_
      refine v_iconst (q := 9) (v := 5) hC dX11_withPerson_8 rfl (by decide) ?_
      have cg : nI 5 < nI i ↔ 5 < i := nI_ltI (by omega) (by omega)
      refine v_icmp_gt (q := 12) (tgt := 32) hC dX11_withPerson_9 rfl (by decide) (fun h9 => ?_) (fun h9 => ?_)
      · exact absurd (cg.mp h9) (by omega)
      · refine v_lload (q := 14) hC dX11_withPerson_12 rfl rfl ?_
        refine v_aload_n (q := 15) hC dX11_withPerson_14 rfl rfl rfl ?_
        refine v_iload_n (q := 16) hC dX11_withPerson_15 rfl rfl rfl ?_
        refine v_iload (q := 18) hC dX11_withPerson_16 rfl rfl ?_
        refine v_callV1 (q := 21) (As := [_, _]) hC dX11_withPerson_18 rfl lX11_300 mX11_about iX11_about eX11_about rfl (hL.1 0 (by decide)) (ce_about d h0_ hok (nI a) (nI i)) rfl rfl (by omega) rfl (Nat.le_of_ble_eq_true rfl) ?_
        refine v_callS1 (q := 24) (As := [_, _]) hC dX11_withPerson_21 rfl lX11_291 mX11_with sX11_with (ct_X11_with (d + 3) _ _) rfl rfl (by omega) rfl (Nat.le_of_ble_eq_true rfl) ?_
        refine v_lstore (q := 26) (L' := [_, _, _, _, _, _, _]) hC dX11_withPerson_24 rfl (by decide) rfl rfl ?_
        refine v_iinc (q := 29) (v := 1) (L' := [_, _, _, _, _, _, _]) hC dX11_withPerson_26 rfl rfl (by decide) (by decide) rfl rfl ?_
        refine v_goto (q := 6) hC dX11_withPerson_29 (by decide) ?_
        rw [nI_1 i]
        exact ih (i + 1) (by omega)
  refine v_lload_n (q := 1) hC dX11_withPerson_0 rfl rfl rfl ?_
  refine v_lstore (q := 3) (L' := [_, _, _, _, _, _, _]) hC dX11_withPerson_1 rfl (by decide) rfl rfl ?_
  refine v_iconst (q := 4) (v := 0) hC dX11_withPerson_3 rfl (by decide) ?_
  refine v_istore (q := 6) (L' := [_, _, _, _, _, _, _]) hC dX11_withPerson_4 rfl (by decide) rfl rfl ?_
  exact lp 6 0 (by omega)

set_option maxRecDepth 100000 in
set_option maxHeartbeats 4000000 in
theorem ct_X11_withFavour (d : Nat) {σ : zSt} {S : pS} {B : Nat} (h : zCl σ S) (ok : pOk B S) (h0 : Int64) {f : Nat} (hf : f < qM S) : zCt (d + 4) MX11_withFavour [.ref 0, .long h0, .int (nI f)] σ (fun r σ' => r = some (.long (pFav S f h0)) ∧ zCl σ' S ∧ zFe σ σ') := by
  refine zCt.of (L := [some (.ref 0), some (.long h0), none, some (.int (nI f)), none, none, none]) (by decide) (Nat.le_of_ble_eq_true rfl) rfl (fun X hC hB => ?_)
  have hC : zC X RX11 cX11_withFavour 7 (d + 4) 0 0 := hC
  have hB : zB X (some .long) 0 0 "withFavour" σ _ := hB
  show zV X 7 0 [some (.ref 0), some (.long h0), none, some (.int (nI f)), none, none, none] [] 0 0 σ
  have h0_ := h
  obtain ⟨hL, hPg, hF, hK, hp, h18, h23, hd, hy, hd2, hy2, hq⟩ := h
  obtain ⟨oB, oq, ow, oqt, ot, okm, omm, oq0, oL, oD, okr, okp, oK, osym, okp6, okd⟩ := ok
  have hok : pOk B S := ⟨oB, oq, ow, oqt, ot, okm, omm, oq0, oL, oD, okr, okp, oK, osym, okp6, okd⟩
  have hn6 := hF.2.1
  have hm12 := hd.2.1
  have hLg := zLg.of hL (c := 28) (by simp)
  obtain ⟨a1, b1, hw⟩ := h18
  obtain ⟨e0, l0, e1, l1⟩ := pFn oL hn6 hf
  have lp : ∀ (r : Nat) (i : Nat), i + r = 8 → zV X 7 6 [some (.ref 0), some (.long h0), none, some (.int (nI f)), some (.long (pFold (gDd S f) h0 i)), none, some (.int (nI i))] [] 0 0 σ := by
    intro r
    induction r with
    | zero =>
      intro i hi
      refine v_iload (q := 8) hC dX11_withFavour_6 rfl rfl ?_
      refine v_bipush (q := 10) (v := 7) hC dX11_withFavour_8 rfl (by decide) ?_
      have cg : nI 7 < nI i ↔ 7 < i := nI_ltI (by omega) (by omega)
      refine v_icmp_gt (q := 13) (tgt := 33) hC dX11_withFavour_10 rfl (by decide) (fun h10 => ?_) (fun h10 => ?_)
      · have e : i = 8 := by omega
        subst e
        refine v_aload_n (q := 34) hC dX11_withFavour_33 rfl rfl rfl ?_
        refine v_getR (q := 37) (r := 28) hC dX11_withFavour_34 rfl fX11_58 (hL.1 0 (by decide)) (hL.2 0 6 28 rfl) ?_
        refine v_iload_n (q := 38) hC dX11_withFavour_37 rfl rfl rfl ?_
        refine v_callV1 (q := 41) (As := [_]) hC dX11_withFavour_38 rfl lX11_200 mX4_isOpen iX4_isOpen eX4_isOpen rfl (hL.1 28 (by decide)) (ct_X4_isOpen (d + 3) hLg hd hf) rfl rfl (by omega) rfl (Nat.le_of_ble_eq_true rfl) ?_
        refine v_if_eq (q := 44) (tgt := 76) hC dX11_withFavour_41 rfl (by decide) (fun h41 => ?_) (fun h41 => ?_)
        · refine v_lload (q := 78) hC dX11_withFavour_76 rfl rfl ?_
          refine v_lreturn hC hB dX11_withFavour_78 ⟨Nat.le_refl _, Nat.le_refl _⟩ ?_
          have e : pFav S f h0 = pFold (gDd S f) h0 8 := if_neg (of_decide_eq_false (zb_eq0.mp h41))
          rw [e]
          exact ⟨rfl, h0_, zFe.rf⟩
        · refine v_lload (q := 46) hC dX11_withFavour_44 rfl rfl ?_
          refine v_aload_n (q := 47) hC dX11_withFavour_46 rfl rfl rfl ?_
          refine v_getR (q := 50) (r := 17) hC dX11_withFavour_47 rfl fX11_44 (hL.1 0 (by decide)) (hL.2 0 4 17 rfl) ?_
          refine v_aload_n (q := 51) hC dX11_withFavour_50 rfl rfl rfl ?_
          refine v_getR (q := 54) (r := 28) hC dX11_withFavour_51 rfl fX11_58 (hL.1 0 (by decide)) (hL.2 0 6 28 rfl) ?_
          refine v_getR (q := 57) (r := 29) hC dX11_withFavour_54 rfl fX11_170 (hL.1 28 (by decide)) (hL.2 28 0 29 rfl) ?_
          refine v_iload_n (q := 58) hC dX11_withFavour_57 rfl rfl rfl ?_
          refine v_ialdN (q := 59) (j := f) hC dX11_withFavour_58 rfl (hL.1 29 (by decide)) rfl (by omega) (by decide) ?_
          rw [show zI σ 29 f = nI (dN (qF S 0 f)) from (hd.2.2.2 0 f (by decide) hf).trans e0]
          refine v_aload_n (q := 60) hC dX11_withFavour_59 rfl rfl rfl ?_
          refine v_getR (q := 63) (r := 28) hC dX11_withFavour_60 rfl fX11_58 (hL.1 0 (by decide)) (hL.2 0 6 28 rfl) ?_
          refine v_getR (q := 66) (r := 30) hC dX11_withFavour_63 rfl fX11_173 (hL.1 28 (by decide)) (hL.2 28 1 30 rfl) ?_
          refine v_iload_n (q := 67) hC dX11_withFavour_66 rfl rfl rfl ?_
          refine v_ialdN (q := 68) (j := f) hC dX11_withFavour_67 rfl (hL.1 30 (by decide)) rfl (by omega) (by decide) ?_
          rw [show zI σ 30 f = nI (dN (qF S 1 f)) from (hd.2.2.2 1 f (by decide) hf).trans e1]
          refine v_callVQ (q := 71) (As := [_, _]) hC dX11_withFavour_68 rfl lX11_210 mX10_reached iX10_reached eX10_reached rfl (hL.1 17 (by decide)) (ct_X10_reached d hL hF.1 hn6 hp hw l0 l1) rfl rfl (by omega) (by decide) (Nat.le_of_ble_eq_true rfl) ?_
          rintro _ σ1 ⟨rfl, hS1, hw1⟩
          refine v_callS1 (q := 74) (As := [_, _]) hC dX11_withFavour_71 rfl lX11_291 mX11_with sX11_with (ct_X11_with (d + 3) _ _) rfl rfl (by omega) rfl (Nat.le_of_ble_eq_true rfl) ?_
          refine v_lstore (q := 76) (L' := [_, _, _, _, _, _, _]) hC dX11_withFavour_74 rfl (by decide) rfl rfl ?_
          refine v_lload (q := 78) hC dX11_withFavour_76 rfl rfl ?_
          refine v_lreturn hC hB dX11_withFavour_78 ⟨Nat.le_refl _, Nat.le_refl _⟩ ?_
          have e : pFav S f h0 = pW (pFold (gDd S f) h0 8) (nI (pRch (qN S) (pGS S) (pNS S) (dN (qF S 0 f)) (dN (qF S 1 f)))) := if_pos (of_decide_eq_true (zb_ne h41))
          rw [e]
          exact ⟨rfl, h0_.sc hS1 rfl rfl hw1 (h23.same hS1 rfl), zFe.of hS1 rfl rfl⟩
      · exact absurd (cg.mpr (by omega)) h10
    | succ r ih =>
      intro i hi
      refine v_iload (q := 8) hC dX11_withFavour_6 rfl rfl ?_
      refine v_bipush (q := 10) (v := 7) hC dX11_withFavour_8 rfl (by decide) ?_
      have cg : nI 7 < nI i ↔ 7 < i := nI_ltI (by omega) (by omega)
      refine v_icmp_gt (q := 13) (tgt := 33) hC dX11_withFavour_10 rfl (by decide) (fun h10 => ?_) (fun h10 => ?_)
      · exact absurd (cg.mp h10) (by omega)
      · refine v_lload (q := 15) hC dX11_withFavour_13 rfl rfl ?_
        refine v_aload_n (q := 16) hC dX11_withFavour_15 rfl rfl rfl ?_
        refine v_iload_n (q := 17) hC dX11_withFavour_16 rfl rfl rfl ?_
        refine v_iload (q := 19) hC dX11_withFavour_17 rfl rfl ?_
        refine v_callV1 (q := 22) (As := [_, _]) hC dX11_withFavour_19 rfl lX11_306 mX11_deed iX11_deed eX11_deed rfl (hL.1 0 (by decide)) (ce_deed (d + 2) h0_ hok (nI f) (nI i)) rfl rfl (by omega) rfl (Nat.le_of_ble_eq_true rfl) ?_
        refine v_callS1 (q := 25) (As := [_, _]) hC dX11_withFavour_22 rfl lX11_291 mX11_with sX11_with (ct_X11_with (d + 3) _ _) rfl rfl (by omega) rfl (Nat.le_of_ble_eq_true rfl) ?_
        refine v_lstore (q := 27) (L' := [_, _, _, _, _, _, _]) hC dX11_withFavour_25 rfl (by decide) rfl rfl ?_
        refine v_iinc (q := 30) (v := 1) (L' := [_, _, _, _, _, _, _]) hC dX11_withFavour_27 rfl rfl (by decide) (by decide) rfl rfl ?_
        refine v_goto (q := 6) hC dX11_withFavour_30 (by decide) ?_
        rw [nI_1 i]
        exact ih (i + 1) (by omega)
  refine v_lload_n (q := 1) hC dX11_withFavour_0 rfl rfl rfl ?_
  refine v_lstore (q := 3) (L' := [_, _, _, _, _, _, _]) hC dX11_withFavour_1 rfl (by decide) rfl rfl ?_
  refine v_iconst (q := 4) (v := 0) hC dX11_withFavour_3 rfl (by decide) ?_
  refine v_istore (q := 6) (L' := [_, _, _, _, _, _, _]) hC dX11_withFavour_4 rfl (by decide) rfl rfl ?_
  exact lp 8 0 (by omega)

set_option maxRecDepth 100000 in
set_option maxHeartbeats 4000000 in
theorem cl_digest (d : Nat) {σ : zSt} {S : pS} {B : Nat} (h : zCl σ S) (ok : pOk B S) : zCt (d + 5) MX11_digest [.ref 0] σ (fun r σ' => r = some (.long (pDig S)) ∧ zCl σ' S ∧ zFc σ σ') := by
  refine zCt.of (L := [some (.ref 0), none, none, none]) (by decide) (Nat.le_of_ble_eq_true rfl) rfl (fun X hC hB => ?_)
  have hC : zC X RX11 cX11_digest 4 (d + 5) 0 0 := hC
  have hB : zB X (some .long) 0 0 "digest" σ _ := hB
  show zV X 4 0 [some (.ref 0), none, none, none] [] 0 0 σ
  have h0_ := h
  obtain ⟨hL, hPg, hF, hK, hp, h18, h23, hd, hy, hd2, hy2, hq⟩ := h
  obtain ⟨oB, oq, ow, oqt, ot, okm, omm, oq0, oL, oD, okr, okp, oK, osym, okp6, okd⟩ := ok
  have hok : pOk B S := ⟨oB, oq, ow, oqt, ot, okm, omm, oq0, oL, oD, okr, okp, oK, osym, okp6, okd⟩
  have hn6 := hF.2.1
  have hm12 := hd.2.1
  have hLg := zLg.of hL (c := 28) (by simp)
  have hpl := hPg.2.1
  have lp : ∀ (r : Nat) (i : Nat) (σ1 : zSt), i + r = qN S → zCl σ1 S → zFe σ σ1 → zV X 4 6 [some (.ref 0), some (.long (pFold (pPer S) 743 i)), none, some (.int (nI i))] [] 0 0 σ1 := by
    intro r
    induction r with
    | zero =>
      intro i σ1 hi hc1 hf1
      have hL1 := hc1.1
      obtain ⟨-, hPg1, hF1, hK1, hp1, h181, h231, hd1, hy1, hd21, hy21, hq1⟩ := hc1
      have hc1 : zCl σ1 S := ⟨hL1, hPg1, hF1, hK1, hp1, h181, h231, hd1, hy1, hd21, hy21, hq1⟩
      refine v_iload_n (q := 7) hC dX11_digest_6 rfl rfl rfl ?_
      refine v_aload_n (q := 8) hC dX11_digest_7 rfl rfl rfl ?_
      refine v_getR (q := 11) (r := 8) hC dX11_digest_8 rfl fX11_26 (hL1.1 0 (by decide)) (hL1.2 0 2 8 rfl) ?_
      refine v_getI (q := 14) hC dX11_digest_11 rfl fX11_122 (hL1.1 8 (by decide)) ?_
      rw [hF1.1]
      refine v_icmp_ge (q := 17) (tgt := 30) hC dX11_digest_14 rfl (by decide) (fun h14 => ?_) (fun h14 => ?_)
      · refine v_iconst (q := 31) (v := 0) hC dX11_digest_30 rfl (by decide) ?_
        refine v_istore_n (q := 32) (L' := [_, _, _, _]) hC dX11_digest_31 rfl rfl (by decide) rfl rfl ?_
        have e : i = qN S := by omega
        subst e
        have lp2 : ∀ (r : Nat) (i : Nat) (σ1 : zSt), i + r = qM S → zCl σ1 S → zFe σ σ1 → zV X 4 32 [some (.ref 0), some (.long (pFold (pFav S) (pFold (pPer S) 743 (qN S)) i)), none, some (.int (nI i))] [] 0 0 σ1 := by
          intro r
          induction r with
          | zero =>
            intro i σ1 hi hc1 hf1
            have hL1 := hc1.1
            obtain ⟨-, hPg1, hF1, hK1, hp1, h181, h231, hd1, hy1, hd21, hy21, hq1⟩ := hc1
            have hc1 : zCl σ1 S := ⟨hL1, hPg1, hF1, hK1, hp1, h181, h231, hd1, hy1, hd21, hy21, hq1⟩
            refine v_iload_n (q := 33) hC dX11_digest_32 rfl rfl rfl ?_
            refine v_aload_n (q := 34) hC dX11_digest_33 rfl rfl rfl ?_
            refine v_getR (q := 37) (r := 28) hC dX11_digest_34 rfl fX11_58 (hL1.1 0 (by decide)) (hL1.2 0 6 28 rfl) ?_
            refine v_getI (q := 40) hC dX11_digest_37 rfl fX11_243 (hL1.1 28 (by decide)) ?_
            rw [hd1.1]
            refine v_icmp_ge (q := 43) (tgt := 56) hC dX11_digest_40 rfl (by decide) (fun h40 => ?_) (fun h40 => ?_)
            · have e : i = qM S := by omega
              subst e
              refine v_lload_n (q := 57) hC dX11_digest_56 rfl rfl rfl ?_
              refine v_aload_n (q := 58) hC dX11_digest_57 rfl rfl rfl ?_
              refine v_callVQ (q := 61) (As := []) hC dX11_digest_58 rfl lX11_288 mX11_fits iX11_fits eX11_fits rfl (hL1.1 0 (by decide)) (cl_fits d hc1 hok) rfl rfl (by omega) (by decide) (Nat.le_of_ble_eq_true rfl) ?_
              rintro _ σ3 ⟨rfl, hc3, hf3⟩
              have hf3 : zFc σ σ3 := hf1.1.tr hf3 (Or.inl hf1.2)
              have hc3 : zCl σ3 S := hc3
              refine v_callS1 (q := 64) (As := [_, _]) hC dX11_digest_61 rfl lX11_291 mX11_with sX11_with (ct_X11_with (d + 4) _ _) rfl rfl (by omega) rfl (Nat.le_of_ble_eq_true rfl) ?_
              refine v_lstore_n (q := 65) (L' := [_, _, _, _]) hC dX11_digest_64 rfl rfl (by decide) rfl rfl ?_
              refine v_iconst (q := 66) (v := 0) hC dX11_digest_65 rfl (by decide) ?_
              refine v_istore_n (q := 67) (L' := [_, _, _, _]) hC dX11_digest_66 rfl rfl (by decide) rfl rfl ?_
              have lp3 : ∀ (r : Nat) (i : Nat), i + r = qPl S → zV X 4 67 [some (.ref 0), some (.long (pFold (gPg S) (pW (pFold (pFav S) (pFold (pPer S) 743 (qN S)) (qM S)) (nI (pFit S))) i)), none, some (.int (nI i))] [] 0 0 σ3 := by
                intro r
                induction r with
                | zero =>
                  intro i hi
                  refine v_iload_n (q := 68) hC dX11_digest_67 rfl rfl rfl ?_
                  refine v_aload_n (q := 69) hC dX11_digest_68 rfl rfl rfl ?_
                  refine v_getR (q := 72) (r := 1) hC dX11_digest_69 rfl fX11_10 (hc3.1.1 0 (by decide)) (hc3.1.2 0 0 1 rfl) ?_
                  refine v_getI (q := 75) hC dX11_digest_72 rfl fX11_78 (hc3.1.1 1 (by decide)) ?_
                  rw [hc3.2.1.1]
                  refine v_icmp_ge (q := 78) (tgt := 98) hC dX11_digest_75 rfl (by decide) (fun h75 => ?_) (fun h75 => ?_)
                  · refine v_iconst (q := 99) (v := 0) hC dX11_digest_98 rfl (by decide) ?_
                    refine v_istore_n (q := 100) (L' := [_, _, _, _]) hC dX11_digest_99 rfl rfl (by decide) rfl rfl ?_
                    have e : i = qPl S := by omega
                    subst e
                    have lp4 : ∀ (r : Nat) (i : Nat), i + r = 11 → zV X 4 100 [some (.ref 0), some (.long (pFold (gCo S) (pFold (gPg S) (pW (pFold (pFav S) (pFold (pPer S) 743 (qN S)) (qM S)) (nI (pFit S))) (qPl S)) i)), none, some (.int (nI i))] [] 0 0 σ3 := by
                      intro r
                      induction r with
                      | zero =>
                        intro i hi
                        refine v_iload_n (q := 101) hC dX11_digest_100 rfl rfl rfl ?_
                        refine v_bipush (q := 103) (v := 10) hC dX11_digest_101 rfl (by decide) ?_
                        have cg : nI 10 < nI i ↔ 10 < i := nI_ltI (by omega) (by omega)
                        refine v_icmp_gt (q := 106) (tgt := 122) hC dX11_digest_103 rfl (by decide) (fun h103 => ?_) (fun h103 => ?_)
                        · have e : i = 11 := by omega
                          subst e
                          refine v_lload_n (q := 123) hC dX11_digest_122 rfl rfl rfl ?_
                          refine v_lreturn hC hB dX11_digest_123 ⟨Nat.le_refl _, Nat.le_refl _⟩ ?_
                          exact ⟨rfl, hc3, hf3⟩
                        · exact absurd (cg.mpr (by omega)) h103
                      | succ r ih =>
                        intro i hi
                        refine v_iload_n (q := 101) hC dX11_digest_100 rfl rfl rfl ?_
                        refine v_bipush (q := 103) (v := 10) hC dX11_digest_101 rfl (by decide) ?_
                        have cg : nI 10 < nI i ↔ 10 < i := nI_ltI (by omega) (by omega)
                        refine v_icmp_gt (q := 106) (tgt := 122) hC dX11_digest_103 rfl (by decide) (fun h103 => ?_) (fun h103 => ?_)
                        · exact absurd (cg.mp h103) (by omega)
                        · refine v_lload_n (q := 107) hC dX11_digest_106 rfl rfl rfl ?_
                          refine v_aload_n (q := 108) hC dX11_digest_107 rfl rfl rfl ?_
                          refine v_iload_n (q := 109) hC dX11_digest_108 rfl rfl rfl ?_
                          refine v_callV1 (q := 112) (As := [_]) hC dX11_digest_109 rfl lX11_297 mX11_count iX11_count eX11_count rfl (hc3.1.1 0 (by decide)) (ce_count (d + 2) hc3 hok (nI i)) rfl rfl (by omega) rfl (Nat.le_of_ble_eq_true rfl) ?_
                          refine v_callS1 (q := 115) (As := [_, _]) hC dX11_digest_112 rfl lX11_291 mX11_with sX11_with (ct_X11_with (d + 4) _ _) rfl rfl (by omega) rfl (Nat.le_of_ble_eq_true rfl) ?_
                          refine v_lstore_n (q := 116) (L' := [_, _, _, _]) hC dX11_digest_115 rfl rfl (by decide) rfl rfl ?_
                          refine v_iinc (q := 119) (v := 1) (L' := [_, _, _, _]) hC dX11_digest_116 rfl rfl (by decide) (by decide) rfl rfl ?_
                          refine v_goto (q := 100) hC dX11_digest_119 (by decide) ?_
                          rw [nI_1 i]
                          exact ih (i + 1) (by omega)
                    exact lp4 11 0 (by omega)
                  · exact absurd (nI_le (a := qPl S) (b := i) (by omega) (by omega)) h75
                | succ r ih =>
                  intro i hi
                  refine v_iload_n (q := 68) hC dX11_digest_67 rfl rfl rfl ?_
                  refine v_aload_n (q := 69) hC dX11_digest_68 rfl rfl rfl ?_
                  refine v_getR (q := 72) (r := 1) hC dX11_digest_69 rfl fX11_10 (hc3.1.1 0 (by decide)) (hc3.1.2 0 0 1 rfl) ?_
                  refine v_getI (q := 75) hC dX11_digest_72 rfl fX11_78 (hc3.1.1 1 (by decide)) ?_
                  rw [hc3.2.1.1]
                  refine v_icmp_ge (q := 78) (tgt := 98) hC dX11_digest_75 rfl (by decide) (fun h75 => ?_) (fun h75 => ?_)
                  · exact absurd h75 (nI_ge (a := i) (b := qPl S) (by omega) (by omega))
                  · refine v_lload_n (q := 79) hC dX11_digest_78 rfl rfl rfl ?_
                    refine v_aload_n (q := 80) hC dX11_digest_79 rfl rfl rfl ?_
                    refine v_getR (q := 83) (r := 1) hC dX11_digest_80 rfl fX11_10 (hc3.1.1 0 (by decide)) (hc3.1.2 0 0 1 rfl) ?_
                    refine v_getR (q := 86) (r := 2) hC dX11_digest_83 rfl fX11_294 (hc3.1.1 1 (by decide)) (hc3.1.2 1 0 2 rfl) ?_
                    refine v_iload_n (q := 87) hC dX11_digest_86 rfl rfl rfl ?_
                    refine v_ialdN (q := 88) (j := i) hC dX11_digest_87 rfl (hc3.1.1 2 (by decide)) rfl (by omega) (by decide) ?_
                    rw [hc3.2.1.2.2 i (by omega)]
                    refine v_callS1 (q := 91) (As := [_, _]) hC dX11_digest_88 rfl lX11_291 mX11_with sX11_with (ct_X11_with (d + 4) _ _) rfl rfl (by omega) rfl (Nat.le_of_ble_eq_true rfl) ?_
                    refine v_lstore_n (q := 92) (L' := [_, _, _, _]) hC dX11_digest_91 rfl rfl (by decide) rfl rfl ?_
                    refine v_iinc (q := 95) (v := 1) (L' := [_, _, _, _]) hC dX11_digest_92 rfl rfl (by decide) (by decide) rfl rfl ?_
                    refine v_goto (q := 67) hC dX11_digest_95 (by decide) ?_
                    rw [nI_1 i]
                    exact ih (i + 1) (by omega)
              exact lp3 (qPl S) 0 (by omega)
            · exact absurd (nI_le (a := qM S) (b := i) (by omega) (by omega)) h40
          | succ r ih =>
            intro i σ1 hi hc1 hf1
            have hL1 := hc1.1
            obtain ⟨-, hPg1, hF1, hK1, hp1, h181, h231, hd1, hy1, hd21, hy21, hq1⟩ := hc1
            have hc1 : zCl σ1 S := ⟨hL1, hPg1, hF1, hK1, hp1, h181, h231, hd1, hy1, hd21, hy21, hq1⟩
            refine v_iload_n (q := 33) hC dX11_digest_32 rfl rfl rfl ?_
            refine v_aload_n (q := 34) hC dX11_digest_33 rfl rfl rfl ?_
            refine v_getR (q := 37) (r := 28) hC dX11_digest_34 rfl fX11_58 (hL1.1 0 (by decide)) (hL1.2 0 6 28 rfl) ?_
            refine v_getI (q := 40) hC dX11_digest_37 rfl fX11_243 (hL1.1 28 (by decide)) ?_
            rw [hd1.1]
            refine v_icmp_ge (q := 43) (tgt := 56) hC dX11_digest_40 rfl (by decide) (fun h40 => ?_) (fun h40 => ?_)
            · exact absurd h40 (nI_ge (a := i) (b := qM S) (by omega) (by omega))
            · refine v_aload_n (q := 44) hC dX11_digest_43 rfl rfl rfl ?_
              refine v_lload_n (q := 45) hC dX11_digest_44 rfl rfl rfl ?_
              refine v_iload_n (q := 46) hC dX11_digest_45 rfl rfl rfl ?_
              refine v_callVQ (q := 49) (As := [_, _]) hC dX11_digest_46 rfl lX11_285 mX11_withFavour iX11_withFavour eX11_withFavour rfl (hL1.1 0 (by decide)) (ct_X11_withFavour d hc1 hok _ (f := i) (by omega)) rfl rfl (by omega) (by decide) (Nat.le_of_ble_eq_true rfl) ?_
              rintro _ σ2 ⟨rfl, hc2, hf2⟩
              refine v_lstore_n (q := 50) (L' := [_, _, _, _]) hC dX11_digest_49 rfl rfl (by decide) rfl rfl ?_
              refine v_iinc (q := 53) (v := 1) (L' := [_, _, _, _]) hC dX11_digest_50 rfl rfl (by decide) (by decide) rfl rfl ?_
              refine v_goto (q := 32) hC dX11_digest_53 (by decide) ?_
              rw [nI_1 i]
              exact ih (i + 1) σ2 (by omega) hc2 (hf1.tr hf2)
        exact lp2 (qM S) 0 σ1 (by omega) hc1 hf1
      · exact absurd (nI_le (a := qN S) (b := i) (by omega) (by omega)) h14
    | succ r ih =>
      intro i σ1 hi hc1 hf1
      have hL1 := hc1.1
      obtain ⟨-, hPg1, hF1, hK1, hp1, h181, h231, hd1, hy1, hd21, hy21, hq1⟩ := hc1
      have hc1 : zCl σ1 S := ⟨hL1, hPg1, hF1, hK1, hp1, h181, h231, hd1, hy1, hd21, hy21, hq1⟩
      refine v_iload_n (q := 7) hC dX11_digest_6 rfl rfl rfl ?_
      refine v_aload_n (q := 8) hC dX11_digest_7 rfl rfl rfl ?_
      refine v_getR (q := 11) (r := 8) hC dX11_digest_8 rfl fX11_26 (hL1.1 0 (by decide)) (hL1.2 0 2 8 rfl) ?_
      refine v_getI (q := 14) hC dX11_digest_11 rfl fX11_122 (hL1.1 8 (by decide)) ?_
      rw [hF1.1]
      refine v_icmp_ge (q := 17) (tgt := 30) hC dX11_digest_14 rfl (by decide) (fun h14 => ?_) (fun h14 => ?_)
      · exact absurd h14 (nI_ge (a := i) (b := qN S) (by omega) (by omega))
      · refine v_aload_n (q := 18) hC dX11_digest_17 rfl rfl rfl ?_
        refine v_lload_n (q := 19) hC dX11_digest_18 rfl rfl rfl ?_
        refine v_iload_n (q := 20) hC dX11_digest_19 rfl rfl rfl ?_
        refine v_callVQ (q := 23) (As := [_, _]) hC dX11_digest_20 rfl lX11_281 mX11_withPerson iX11_withPerson eX11_withPerson rfl (hL1.1 0 (by decide)) (ct_X11_withPerson d hc1 hok _ (a := i) (by omega)) rfl rfl (by omega) (by decide) (Nat.le_of_ble_eq_true rfl) ?_
        rintro _ σ2 ⟨rfl, hc2, hf2⟩
        refine v_lstore_n (q := 24) (L' := [_, _, _, _]) hC dX11_digest_23 rfl rfl (by decide) rfl rfl ?_
        refine v_iinc (q := 27) (v := 1) (L' := [_, _, _, _]) hC dX11_digest_24 rfl rfl (by decide) (by decide) rfl rfl ?_
        refine v_goto (q := 6) hC dX11_digest_27 (by decide) ?_
        rw [nI_1 i]
        exact ih (i + 1) σ2 (by omega) hc2 (hf1.tr hf2)
  refine v_ldc2 (q := 3) hC dX11_digest_0 rfl kX11_279 ?_
  refine v_lstore_n (q := 4) (L' := [_, _, _, _]) hC dX11_digest_3 rfl rfl (by decide) rfl rfl ?_
  refine v_iconst (q := 5) (v := 0) hC dX11_digest_4 rfl (by decide) ?_
  refine v_istore_n (q := 6) (L' := [_, _, _, _]) hC dX11_digest_5 rfl rfl (by decide) rfl rfl ?_
  exact lp (qN S) 0 σ (by omega) h0_ zFe.rf

