/-! ===== the class's calls that change ===== -/
set_option maxRecDepth 100000 in
set_option maxHeartbeats 4000000 in
theorem cl_person (d : Nat) {σ : zSt} {S : pS} {B : Nat} (h : zCl σ S) (ok : pOk B S) (k : Int32) : zCt (d + 3) MX11_person [.ref 0, .int k] σ (zQs zCl zFc σ (sPerson S k)) := by
  refine zCt.of (L := [some (.ref 0), some (.int k), none]) (by decide) (Nat.le_of_ble_eq_true rfl) rfl (fun X hC hB => ?_)
  have hC : zC X RX11 cX11_person 3 (d + 3) 0 0 := hC
  have hB : zB X (some .int) 0 0 "person" σ _ := hB
  show zV X 3 0 [some (.ref 0), some (.int k), none] [] 0 0 σ
  have h0 := h
  obtain ⟨hL, hPg, hF, hK, hp, h18, h23, hd, hy, hd2, hy2, hq⟩ := h
  obtain ⟨oB, oq, ow, oqt, ot, okm, omm, oq0, oL, oD, okr, okp, oK, osym, okp6, okd⟩ := ok
  have hn6 := hF.2.1
  have hm12 := hd.2.1
  have hLg := zLg.of hL (c := 28) (by simp)
  have c0 : nI (qQ S) = 0 ↔ qQ S = 0 := nI_eq (a := qQ S) (b := 0) (by omega) (by omega)
  refine v_iload_n (q := 1) hC dX11_person_0 rfl rfl rfl ?_
  refine v_if_lt (q := 4) (tgt := 9) hC dX11_person_1 rfl (by decide) (fun h1 => ?_) (fun h1 => ?_)
  · refine v_bipush (q := 11) (v := -102) hC dX11_person_9 rfl (by decide) ?_
    refine v_ireturn hC hB dX11_person_11 ⟨Nat.le_refl _, Nat.le_refl _⟩ ?_
    exact zQs.mk (by unfold sPerson; exact if_pos (by first | exact Or.inl h1 | exact Or.inr (Int32.not_le.mp h6))) h0 (zFc.of (cs := []) (rs := []) zSame.rf rfl rfl)
  · refine v_iload_n (q := 5) hC dX11_person_4 rfl rfl rfl ?_
    refine v_iconst (q := 6) (v := 4) hC dX11_person_5 rfl (by decide) ?_
    refine v_icmp_le (q := 9) (tgt := 12) hC dX11_person_6 rfl (by decide) (fun h6 => ?_) (fun h6 => ?_)
    · obtain ⟨k, hk0, hk7, rfl⟩ := zbw (x := k) 0 4 (by omega) (by omega) h1 (Int32.not_lt.mpr h6)
      refine v_aload_n (q := 13) hC dX11_person_12 rfl rfl rfl ?_
      refine v_getI (q := 16) hC dX11_person_13 rfl fX11_102 (hL.1 0 (by decide)) ?_
      rw [hq.1]
      refine v_if_ne (q := 19) (tgt := 22) hC dX11_person_16 rfl (by decide) (fun h16 => ?_) (fun h16 => ?_)
      · refine v_aload_n (q := 23) hC dX11_person_22 rfl rfl rfl ?_
        refine v_getR (q := 26) (r := 8) hC dX11_person_23 rfl fX11_26 (hL.1 0 (by decide)) (hL.2 0 2 8 rfl) ?_
        refine v_getI (q := 29) hC dX11_person_26 rfl fX11_122 (hL.1 8 (by decide)) ?_
        rw [hF.1]
        refine v_bipush (q := 31) (v := 6) hC dX11_person_29 rfl (by decide) ?_
        refine v_icmp_lt (q := 34) (tgt := 37) hC dX11_person_31 rfl (by decide) (fun h31 => ?_) (fun h31 => ?_)
        · have hn5 : qN S < 6 := (nI_ltI (a := qN S) (b := 6) (by omega) (by omega)).mp h31
          refine v_aload_n (q := 38) hC dX11_person_37 rfl rfl rfl ?_
          refine v_getR (q := 41) (r := 8) hC dX11_person_38 rfl fX11_26 (hL.1 0 (by decide)) (hL.2 0 2 8 rfl) ?_
          refine v_iload_n (q := 42) hC dX11_person_41 rfl rfl rfl ?_
          refine v_callV1 (q := 45) (As := [_]) hC dX11_person_42 rfl lX11_123 mX2_add iX2_add eX2_add rfl (hL.1 8 (by decide)) (ct_X2_add (d + 2) hL hF.1 hn5 _) rfl rfl (by omega) rfl (Nat.le_of_ble_eq_true rfl) ?_
          have hS1 : zSame [8, 13] [] σ (zsI (zsI σ 13 (qN S) (nI k)) 8 4 (nI (qN S + 1))) := (zSame.sI (by simp)).addI (by simp)
          have hL1 := hL.same hS1 rfl
          have hF1 : zFk (zsI (zsI σ 13 (qN S) (nI k)) 8 4 (nI (qN S + 1))) (qN S + 1) (fun a => if a = qN S then dN (nI k) else qKd S a) (qKin S) (qMet S) (qT S) := by
            refine ⟨zI_eq, by omega, fun a ha => ?_, fun a b ha hb => ⟨by rw [zI_ne (by omega), zI_ne (by omega)]; exact (hF.2.2.2.1 a b ha hb).1, by rw [zI_ne (by omega), zI_ne (by omega)]; exact (hF.2.2.2.1 a b ha hb).2⟩, by rw [zI_ne (by omega), zI_ne (by omega)]; exact hF.2.2.2.2.1, hF.2.2.2.2.2⟩
            rw [zI_ne (by omega), zI_sI]; dsimp only
            by_cases e : a = qN S
            · rw [if_pos e, if_pos ⟨rfl, e⟩, dN_nI (by omega)]; exact ⟨hk7, rfl⟩
            · rw [if_neg e, if_neg (fun z => e z.2)]; exact hF.2.2.1 a (by omega)
          generalize zsI (zsI σ 13 (qN S) (nI k)) 8 4 (nI (qN S + 1)) = σ1 at hS1 hL1 hF1 ⊢
          refine v_istore_n (q := 46) (L' := [_, _, _]) hC dX11_person_45 rfl rfl (by decide) rfl rfl ?_
          refine v_aload_n (q := 47) hC dX11_person_46 rfl rfl rfl ?_
          refine v_getR (q := 50) (r := 14) hC dX11_person_47 rfl fX11_35 (hL1.1 0 (by decide)) (hL1.2 0 3 14 rfl) ?_
          refine v_callVQ (q := 53) (As := []) hC dX11_person_50 rfl lX11_126 mX8_supposeNothing iX8_supposeNothing eX8_supposeNothing rfl (hL1.1 14 (by decide)) (ct_X8_supposeNothing d hL1 hF1) rfl rfl (by omega) (by decide) (Nat.le_of_ble_eq_true rfl) ?_
          rintro _ σ2 ⟨rfl, hS2, hp2⟩
          refine v_iload_n (q := 54) hC dX11_person_53 rfl rfl rfl ?_
          refine v_ireturn hC hB dX11_person_54 ⟨Nat.le_refl _, Nat.le_refl _⟩ ?_
          have hSS : zSame [8, 13, 15, 16] [] σ σ2 := (hS1.mono (by simp) (by simp)).tr (hS2.mono (by simp) (by simp))
          exact zQs.mk (S' := (S.1, S.2.1, (qN S + 1, fun a => if a = qN S then dN (nI k) else qKd S a), S.2.2.2)) (by unfold sPerson; rw [if_neg (by rintro (z | z); exact h1 z; exact absurd h6 (Int32.not_le.mpr z)), if_neg (fun z => h16 (c0.mpr z)), if_neg (by omega)]) ⟨hL.same hSS rfl, hPg.same hSS rfl, hF1.same hS2 rfl, hK.same hSS rfl, hp2, h18.same hSS rfl, h23.same hSS rfl, hd.same hSS rfl, hy.same hSS rfl, hd2.same hSS rfl, hy2.same hSS rfl, hq.same hSS rfl⟩ (zFc.of hSS rfl rfl)
        · refine v_bipush (q := 36) (v := -104) hC dX11_person_34 rfl (by decide) ?_
          refine v_ireturn hC hB dX11_person_36 ⟨Nat.le_refl _, Nat.le_refl _⟩ ?_
          exact zQs.mk (by unfold sPerson; rw [if_neg (by rintro (z | z); exact h1 z; exact absurd h6 (Int32.not_le.mpr z)), if_neg (fun z => h16 (c0.mpr z))]; exact if_pos (by have c6 : ¬ qN S < 6 := (fun z => h31 (nI_lt (a := qN S) (b := 6) z (by omega))); omega)) h0 (zFc.of (cs := []) (rs := []) zSame.rf rfl rfl)
      · refine v_bipush (q := 21) (v := -103) hC dX11_person_19 rfl (by decide) ?_
        refine v_ireturn hC hB dX11_person_21 ⟨Nat.le_refl _, Nat.le_refl _⟩ ?_
        exact zQs.mk (by unfold sPerson; rw [if_neg (by rintro (z | z); exact h1 z; exact absurd h6 (Int32.not_le.mpr z))]; exact if_pos (c0.mp h16)) h0 (zFc.of (cs := []) (rs := []) zSame.rf rfl rfl)
    · refine v_bipush (q := 11) (v := -102) hC dX11_person_9 rfl (by decide) ?_
      refine v_ireturn hC hB dX11_person_11 ⟨Nat.le_refl _, Nat.le_refl _⟩ ?_
      exact zQs.mk (by unfold sPerson; exact if_pos (by first | exact Or.inl h1 | exact Or.inr (Int32.not_le.mp h6))) h0 (zFc.of (cs := []) (rs := []) zSame.rf rfl rfl)

set_option maxRecDepth 100000 in
set_option maxHeartbeats 4000000 in
theorem cl_favour (d : Nat) {σ : zSt} {S : pS} {B : Nat} (h : zCl σ S) (ok : pOk B S) (a : Int32) (b : Int32) (v : Int32) (r : Int32) : zCt (d + 5) MX11_favour [.ref 0, .int a, .int b, .int v, .int r] σ (zQs zCl zFc σ (sFavour S a b v r)) := by
  refine zCt.of (L := [some (.ref 0), some (.int a), some (.int b), some (.int v), some (.int r), none]) (by decide) (Nat.le_of_ble_eq_true rfl) rfl (fun X hC hB => ?_)
  have hC : zC X RX11 cX11_favour 6 (d + 5) 0 0 := hC
  have hB : zB X (some .int) 0 0 "favour" σ _ := hB
  show zV X 6 0 [some (.ref 0), some (.int a), some (.int b), some (.int v), some (.int r), none] [] 0 0 σ
  have h0 := h
  obtain ⟨hL, hPg, hF, hK, hp, h18, h23, hd, hy, hd2, hy2, hq⟩ := h
  obtain ⟨oB, oq, ow, oqt, ot, okm, omm, oq0, oL, oD, okr, okp, oK, osym, okp6, okd⟩ := ok
  have hn6 := hF.2.1
  have hm12 := hd.2.1
  have hLg := zLg.of hL (c := 28) (by simp)
  have hok : pOk B S := ⟨oB, oq, ow, oqt, ot, okm, omm, oq0, oL, oD, okr, okp, oK, osym, okp6, okd⟩
  refine v_aload_n (q := 1) hC dX11_favour_0 rfl rfl rfl ?_
  refine v_iload_n (q := 2) hC dX11_favour_1 rfl rfl rfl ?_
  refine v_iload_n (q := 3) hC dX11_favour_2 rfl rfl rfl ?_
  refine v_iload_n (q := 4) hC dX11_favour_3 rfl rfl rfl ?_
  refine v_iload (q := 6) hC dX11_favour_4 rfl rfl ?_
  refine v_callV1 (q := 9) (As := [_, _, _, _]) hC dX11_favour_6 rfl lX11_161 mX11_may iX11_may eX11_may rfl (hL.1 0 (by decide)) (ce_may d h0 hok a b v r) rfl rfl (by omega) rfl (Nat.le_of_ble_eq_true rfl) ?_
  show zV X 6 9 _ [.int (pMay S a b v r)] 0 0 σ
  refine v_istore (q := 11) (L' := [_, _, _, _, _, _]) hC dX11_favour_9 rfl (by decide) rfl rfl ?_
  refine v_iload (q := 13) hC dX11_favour_11 rfl rfl ?_
  refine v_if_ge (q := 16) (tgt := 19) hC dX11_favour_13 rfl (by decide) (fun h13 => ?_) (fun h13 => ?_)
  · refine v_iload (q := 21) hC dX11_favour_19 rfl rfl ?_
    refine v_if_ne (q := 24) (tgt := 27) hC dX11_favour_21 rfl (by decide) (fun h21 => ?_) (fun h21 => ?_)
    · refine v_aload_n (q := 28) hC dX11_favour_27 rfl rfl rfl ?_
      refine v_getR (q := 31) (r := 28) hC dX11_favour_28 rfl fX11_58 (hL.1 0 (by decide)) (hL.2 0 6 28 rfl) ?_
      refine v_callV1 (q := 34) (As := []) hC dX11_favour_31 rfl lX11_165 mX4_isFull iX4_isFull eX4_isFull rfl (hL.1 28 (by decide)) (ct_X4_isFull (d + 4) hLg hd) rfl rfl (by omega) rfl (Nat.le_of_ble_eq_true rfl) ?_
      refine v_if_eq (q := 37) (tgt := 40) hC dX11_favour_34 rfl (by decide) (fun h34 => ?_) (fun h34 => ?_)
      · have hm11 : qM S < 12 := by have := of_decide_eq_false (zb_eq0.mp h34); omega
        have hmay : ¬ pMay S a b v r < 0 := Int32.not_lt.mpr h13
        have hcond : (pTwo S a b && (decide (r = -1) || zval (qM S) r)) = true := by cases e : (pTwo S a b && (decide (r = -1) || zval (qM S) r)) with | true => rfl | false => exact absurd (show pMay S a b v r < 0 by unfold pMay; rw [e, if_neg (by decide)]; decide) hmay
        have hr : r = -1 ∨ zval (qM S) r = true := by rw [Bool.and_eq_true, Bool.or_eq_true] at hcond; rcases hcond.2 with z | z; exact Or.inl (of_decide_eq_true z); exact Or.inr z
        have hro : r = zo (pOld r) := by unfold pOld; exact if h9 : r = -1 then (by rw [if_pos h9, h9]; rfl) else (by rw [if_neg h9]; obtain ⟨g, hg, rfl⟩ := zval_of (by omega) (hr.resolve_left h9); rw [dN_nI (by omega)]; rfl)
        have hold : ∀ g, pOld r = some g → g < qM S := by intro g hg; unfold pOld at hg; exact if e : r = -1 then (by rw [if_pos e] at hg; cases hg) else (by rw [if_neg e] at hg; cases hg; obtain ⟨g, hg, rfl⟩ := zval_of (by omega) (hr.resolve_left e); rw [dN_nI (by omega)]; exact hg)
        refine v_aload_n (q := 41) hC dX11_favour_40 rfl rfl rfl ?_
        refine v_getR (q := 44) (r := 28) hC dX11_favour_41 rfl fX11_58 (hL.1 0 (by decide)) (hL.2 0 6 28 rfl) ?_
        refine v_iload_n (q := 45) hC dX11_favour_44 rfl rfl rfl ?_
        refine v_iload_n (q := 46) hC dX11_favour_45 rfl rfl rfl ?_
        refine v_iload_n (q := 47) hC dX11_favour_46 rfl rfl rfl ?_
        refine v_iload (q := 49) hC dX11_favour_47 rfl rfl ?_
        refine v_callVQ (q := 52) (As := [_, _, _, _]) hC dX11_favour_49 rfl lX11_168 mX4_add iX4_add eX4_add rfl (hL.1 28 (by decide)) (by rw [hro]; exact ct_X4_add (d + 4) hLg hd hm11 a b v hold) rfl rfl (by omega) (by decide) (Nat.le_of_ble_eq_true rfl) ?_
        rintro _ σ1 ⟨rfl, hS, hd1⟩
        refine v_ireturn hC hB dX11_favour_52 ⟨Nat.le_refl _, Nat.le_refl _⟩ ?_
        exact zQs.mk (S' := (S.1, S.2.1, S.2.2.1, (qM S + 1, pAdd (qM S) (qF S) a b v (nI (qW S)) (pOld r), qW S), S.2.2.2.2)) (by unfold sFavour; rw [if_neg hmay, if_neg h21, if_neg (by omega)]) ⟨hL.same hS rfl, hPg.same hS rfl, hF.same hS rfl, hK.same hS rfl, hp.same hS rfl, h18.same hS rfl, h23.same hS rfl, hd1, hy.same hS rfl, hd2.same hS rfl, hy2.same hS rfl, hq.same hS rfl⟩ (zFc.of hS rfl rfl)
      · refine v_bipush (q := 39) (v := -104) hC dX11_favour_37 rfl (by decide) ?_
        refine v_ireturn hC hB dX11_favour_39 ⟨Nat.le_refl _, Nat.le_refl _⟩ ?_
        exact zQs.mk (by unfold sFavour; rw [if_neg (Int32.not_lt.mpr h13), if_neg h21]; exact if_pos (of_decide_eq_true (zb_ne h34))) h0 (zFc.of (cs := []) (rs := []) zSame.rf rfl rfl)
    · refine v_bipush (q := 26) (v := -103) hC dX11_favour_24 rfl (by decide) ?_
      refine v_ireturn hC hB dX11_favour_26 ⟨Nat.le_refl _, Nat.le_refl _⟩ ?_
      exact zQs.mk (by unfold sFavour; rw [if_neg (Int32.not_lt.mpr h13)]; exact if_pos h21) h0 (zFc.of (cs := []) (rs := []) zSame.rf rfl rfl)
  · refine v_iload (q := 18) hC dX11_favour_16 rfl rfl ?_
    refine v_ireturn hC hB dX11_favour_18 ⟨Nat.le_refl _, Nat.le_refl _⟩ ?_
    exact zQs.mk (by unfold sFavour; exact if_pos (Int32.not_le.mp h13)) h0 (zFc.of (cs := []) (rs := []) zSame.rf rfl rfl)

set_option maxRecDepth 100000 in
set_option maxHeartbeats 4000000 in
theorem cl_week (d : Nat) {σ : zSt} {S : pS} {B : Nat} (h : zCl σ S) (ok : pOk B S) : zCt (d + 0) MX11_week [.ref 0] σ (zQs zCl zFc σ (sWeek S)) := by
  refine zCt.of (L := [some (.ref 0)]) (by decide) (Nat.le_of_ble_eq_true rfl) rfl (fun X hC hB => ?_)
  have hC : zC X RX11 cX11_week 1 (d + 0) 0 0 := hC
  have hB : zB X (some .int) 0 0 "week" σ _ := hB
  show zV X 1 0 [some (.ref 0)] [] 0 0 σ
  have h0 := h
  obtain ⟨hL, hPg, hF, hK, hp, h18, h23, hd, hy, hd2, hy2, hq⟩ := h
  obtain ⟨oB, oq, ow, oqt, ot, okm, omm, oq0, oL, oD, okr, okp, oK, osym, okp6, okd⟩ := ok
  have hn6 := hF.2.1
  have hm12 := hd.2.1
  have hLg := zLg.of hL (c := 28) (by simp)
  have c0 : nI (qQ S) = 0 ↔ qQ S = 0 := nI_eq (a := qQ S) (b := 0) (by omega) (by omega)
  refine v_aload_n (q := 1) hC dX11_week_0 rfl rfl rfl ?_
  refine v_getI (q := 4) hC dX11_week_1 rfl fX11_102 (hL.1 0 (by decide)) ?_
  rw [hq.1]
  refine v_if_ne (q := 7) (tgt := 10) hC dX11_week_4 rfl (by decide) (fun h4 => ?_) (fun h4 => ?_)
  · refine v_aload_n (q := 11) hC dX11_week_10 rfl rfl rfl ?_
    refine v_getR (q := 14) (r := 28) hC dX11_week_11 rfl fX11_58 (hL.1 0 (by decide)) (hL.2 0 6 28 rfl) ?_
    refine v_dup (q := 15) hC dX11_week_14 rfl rfl ?_
    refine v_getI (q := 18) hC dX11_week_15 rfl fX11_197 (hL.1 28 (by decide)) ?_
    refine v_iconst (q := 19) (v := 1) hC dX11_week_18 rfl (by decide) ?_
    refine v_iadd (q := 20) hC dX11_week_19 rfl ?_
    refine v_putI (q := 23) hC dX11_week_20 rfl fX11_197 (hL.1 28 (by decide)) ?_
    refine v_aload_n (q := 24) hC dX11_week_23 rfl rfl rfl ?_
    refine v_getR (q := 27) (r := 28) hC dX11_week_24 rfl fX11_58 (hL.1 0 (by decide)) (hL.2 0 6 28 rfl) ?_
    refine v_getI (q := 30) hC dX11_week_27 rfl fX11_197 (hL.1 28 (by decide)) ?_
    refine v_ireturn hC hB dX11_week_30 ⟨Nat.le_refl _, Nat.le_refl _⟩ ?_
    rw [hd.2.2.1, zI_eq, nI_1]
    have hS : zSame [28] [] σ (zsI σ 28 7 (nI (qW S + 1))) := zSame.sI (by simp)
    exact zQs.mk (S' := (S.1, S.2.1, S.2.2.1, (qM S, qF S, qW S + 1), S.2.2.2.2)) (by unfold sWeek; exact if_neg (fun z => h4 (c0.mpr z))) ⟨hL.same hS rfl, hPg.same hS rfl, hF.same hS rfl, hK.same hS rfl, hp.same hS rfl, h18.same hS rfl, h23.same hS rfl, ⟨by rw [zI_ne (by omega)]; exact hd.1, hd.2.1, zI_eq, fun j f hj hf => by rw [zI_ne (by omega)]; exact hd.2.2.2 j f hj hf⟩, hy.same hS rfl, hd2.same hS rfl, hy2.same hS rfl, hq.same hS rfl⟩ (zFc.of hS rfl rfl)
  · refine v_bipush (q := 9) (v := -103) hC dX11_week_7 rfl (by decide) ?_
    refine v_ireturn hC hB dX11_week_9 ⟨Nat.le_refl _, Nat.le_refl _⟩ ?_
    exact zQs.mk (by unfold sWeek; exact if_pos (c0.mp h4)) h0 (zFc.of (cs := []) (rs := []) zSame.rf rfl rfl)

set_option maxRecDepth 100000 in
set_option maxHeartbeats 4000000 in
theorem cl_thanks (d : Nat) {σ : zSt} {S : pS} {B : Nat} (h : zCl σ S) (ok : pOk B S) (p : Int32) : zCt (d + 1) MX11_thanks [.ref 0, .int p] σ (zQs zCl zFc σ (sThanks S p)) := by
  refine zCt.of (L := [some (.ref 0), some (.int p)]) (by decide) (Nat.le_of_ble_eq_true rfl) rfl (fun X hC hB => ?_)
  have hC : zC X RX11 cX11_thanks 2 (d + 1) 0 0 := hC
  have hB : zB X (some .int) 0 0 "thanks" σ _ := hB
  show zV X 2 0 [some (.ref 0), some (.int p)] [] 0 0 σ
  have h0 := h
  obtain ⟨hL, hPg, hF, hK, hp, h18, h23, hd, hy, hd2, hy2, hq⟩ := h
  obtain ⟨oB, oq, ow, oqt, ot, okm, omm, oq0, oL, oD, okr, okp, oK, osym, okp6, okd⟩ := ok
  have hn6 := hF.2.1
  have hm12 := hd.2.1
  have hLg := zLg.of hL (c := 28) (by simp)
  refine v_iload_n (q := 1) hC dX11_thanks_0 rfl rfl rfl ?_
  refine v_iconst (q := 2) (v := -1) hC dX11_thanks_1 rfl (by decide) ?_
  refine v_icmp_eq (q := 5) (tgt := 19) hC dX11_thanks_2 rfl (by decide) (fun h2 => ?_) (fun h2 => ?_)
  · refine v_aload_n (q := 20) hC dX11_thanks_19 rfl rfl rfl ?_
    refine v_getR (q := 23) (r := 42) hC dX11_thanks_20 rfl fX11_68 (hL.1 0 (by decide)) (hL.2 0 8 42 rfl) ?_
    refine v_getI (q := 26) hC dX11_thanks_23 rfl fX11_101 (hL.1 42 (by decide)) ?_
    rw [hy.1]
    refine v_bipush (q := 28) (v := 7) hC dX11_thanks_26 rfl (by decide) ?_
    refine v_icmp_lt (q := 31) (tgt := 34) hC dX11_thanks_28 rfl (by decide) (fun h28 => ?_) (fun h28 => ?_)
    · have hl7 : qDl S < 7 := (nI_ltI (a := qDl S) (b := 7) (by have := hy.2.1; omega) (by omega)).mp h28
      refine v_aload_n (q := 35) hC dX11_thanks_34 rfl rfl rfl ?_
      refine v_getR (q := 38) (r := 42) hC dX11_thanks_35 rfl fX11_68 (hL.1 0 (by decide)) (hL.2 0 8 42 rfl) ?_
      refine v_iload_n (q := 39) hC dX11_thanks_38 rfl rfl rfl ?_
      refine v_callV0 (q := 42) (As := [_]) hC dX11_thanks_39 rfl lX11_222 mX0_add iX0_add eX0_add rfl (hL.1 42 (by decide)) (ct_X0_add d (zDr.of hL (c := 42) (by simp)) hy.1 hl7 p) rfl rfl (by omega) rfl (Nat.le_of_ble_eq_true rfl) ?_
      refine v_aload_n (q := 43) hC dX11_thanks_42 rfl rfl rfl ?_
      refine v_getR (q := 46) (r := 42) hC dX11_thanks_43 rfl fX11_68 (hL.1 0 (by decide)) (hL.2 0 8 42 rfl) ?_
      refine v_getI (q := 49) hC dX11_thanks_46 rfl fX11_101 (hL.1 42 (by decide)) ?_
      rw [zI_eq]
      refine v_ireturn hC hB dX11_thanks_49 ⟨Nat.le_refl _, Nat.le_refl _⟩ ?_
      have hS : zSame [42, 43] [] σ (zsI (zsI σ (42 + 1) (qDl S) p) 42 1 (nI (qDl S + 1))) := (zSame.sI (by simp)).addI (by simp)
      refine zQs.mk (S' := (S.1, S.2.1, S.2.2.1, S.2.2.2.1, (qDl S + 1, zup (qDw S) (qDl S) p), S.2.2.2.2.2)) (by unfold sThanks; rw [if_pos (by first | exact Or.inl h2 | exact Or.inr (zb_ne h13)), if_neg (by omega)]) ⟨hL.same hS rfl, hPg.same hS rfl, hF.same hS rfl, hK.same hS rfl, hp.same hS rfl, h18.same hS rfl, h23.same hS rfl, hd.same hS rfl, ⟨zI_eq, by show qDl S + 1 ≤ 7; omega, fun i hi => ?_⟩, hd2.same hS rfl, hy2.same hS rfl, hq.same hS rfl⟩ (zFc.of hS rfl rfl)
      show zI _ (42 + 1) i = zup (qDw S) (qDl S) p i
      unfold zup
      rw [zI_ne (by omega), zI_sI]
      by_cases e : i = qDl S
      · rw [if_pos ⟨rfl, e⟩, if_pos e]
      · rw [if_neg (fun z => e z.2), if_neg e]; exact hy.2.2 i (by show i < qDl S; have : i < qDl S + 1 := hi; omega)
    · refine v_bipush (q := 33) (v := -104) hC dX11_thanks_31 rfl (by decide) ?_
      refine v_ireturn hC hB dX11_thanks_33 ⟨Nat.le_refl _, Nat.le_refl _⟩ ?_
      exact zQs.mk (by unfold sThanks; rw [if_pos (by first | exact Or.inl h2 | exact Or.inr (zb_ne h13))]; exact if_pos (by have := hy.2.1; have c7 : ¬ qDl S < 7 := (fun z => h28 (nI_lt (a := qDl S) (b := 7) z (by omega))); omega)) h0 (zFc.of (cs := []) (rs := []) zSame.rf rfl rfl)
  · refine v_aload_n (q := 6) hC dX11_thanks_5 rfl rfl rfl ?_
    refine v_getR (q := 9) (r := 8) hC dX11_thanks_6 rfl fX11_26 (hL.1 0 (by decide)) (hL.2 0 2 8 rfl) ?_
    refine v_iload_n (q := 10) hC dX11_thanks_9 rfl rfl rfl ?_
    refine v_callV1 (q := 13) (As := [_]) hC dX11_thanks_10 rfl lX11_129 mX2_has iX2_has eX2_has rfl (hL.1 8 (by decide)) (ct_X2_has d hL hF.1 hn6 _) rfl rfl (by omega) rfl (Nat.le_of_ble_eq_true rfl) ?_
    refine v_if_ne (q := 16) (tgt := 19) hC dX11_thanks_13 rfl (by decide) (fun h13 => ?_) (fun h13 => ?_)
    · refine v_aload_n (q := 20) hC dX11_thanks_19 rfl rfl rfl ?_
      refine v_getR (q := 23) (r := 42) hC dX11_thanks_20 rfl fX11_68 (hL.1 0 (by decide)) (hL.2 0 8 42 rfl) ?_
      refine v_getI (q := 26) hC dX11_thanks_23 rfl fX11_101 (hL.1 42 (by decide)) ?_
      rw [hy.1]
      refine v_bipush (q := 28) (v := 7) hC dX11_thanks_26 rfl (by decide) ?_
      refine v_icmp_lt (q := 31) (tgt := 34) hC dX11_thanks_28 rfl (by decide) (fun h28 => ?_) (fun h28 => ?_)
      · have hl7 : qDl S < 7 := (nI_ltI (a := qDl S) (b := 7) (by have := hy.2.1; omega) (by omega)).mp h28
        refine v_aload_n (q := 35) hC dX11_thanks_34 rfl rfl rfl ?_
        refine v_getR (q := 38) (r := 42) hC dX11_thanks_35 rfl fX11_68 (hL.1 0 (by decide)) (hL.2 0 8 42 rfl) ?_
        refine v_iload_n (q := 39) hC dX11_thanks_38 rfl rfl rfl ?_
        refine v_callV0 (q := 42) (As := [_]) hC dX11_thanks_39 rfl lX11_222 mX0_add iX0_add eX0_add rfl (hL.1 42 (by decide)) (ct_X0_add d (zDr.of hL (c := 42) (by simp)) hy.1 hl7 p) rfl rfl (by omega) rfl (Nat.le_of_ble_eq_true rfl) ?_
        refine v_aload_n (q := 43) hC dX11_thanks_42 rfl rfl rfl ?_
        refine v_getR (q := 46) (r := 42) hC dX11_thanks_43 rfl fX11_68 (hL.1 0 (by decide)) (hL.2 0 8 42 rfl) ?_
        refine v_getI (q := 49) hC dX11_thanks_46 rfl fX11_101 (hL.1 42 (by decide)) ?_
        rw [zI_eq]
        refine v_ireturn hC hB dX11_thanks_49 ⟨Nat.le_refl _, Nat.le_refl _⟩ ?_
        have hS : zSame [42, 43] [] σ (zsI (zsI σ (42 + 1) (qDl S) p) 42 1 (nI (qDl S + 1))) := (zSame.sI (by simp)).addI (by simp)
        refine zQs.mk (S' := (S.1, S.2.1, S.2.2.1, S.2.2.2.1, (qDl S + 1, zup (qDw S) (qDl S) p), S.2.2.2.2.2)) (by unfold sThanks; rw [if_pos (by first | exact Or.inl h2 | exact Or.inr (zb_ne h13)), if_neg (by omega)]) ⟨hL.same hS rfl, hPg.same hS rfl, hF.same hS rfl, hK.same hS rfl, hp.same hS rfl, h18.same hS rfl, h23.same hS rfl, hd.same hS rfl, ⟨zI_eq, by show qDl S + 1 ≤ 7; omega, fun i hi => ?_⟩, hd2.same hS rfl, hy2.same hS rfl, hq.same hS rfl⟩ (zFc.of hS rfl rfl)
        show zI _ (42 + 1) i = zup (qDw S) (qDl S) p i
        unfold zup
        rw [zI_ne (by omega), zI_sI]
        by_cases e : i = qDl S
        · rw [if_pos ⟨rfl, e⟩, if_pos e]
        · rw [if_neg (fun z => e z.2), if_neg e]; exact hy.2.2 i (by show i < qDl S; have : i < qDl S + 1 := hi; omega)
      · refine v_bipush (q := 33) (v := -104) hC dX11_thanks_31 rfl (by decide) ?_
        refine v_ireturn hC hB dX11_thanks_33 ⟨Nat.le_refl _, Nat.le_refl _⟩ ?_
        exact zQs.mk (by unfold sThanks; rw [if_pos (by first | exact Or.inl h2 | exact Or.inr (zb_ne h13))]; exact if_pos (by have := hy.2.1; have c7 : ¬ qDl S < 7 := (fun z => h28 (nI_lt (a := qDl S) (b := 7) z (by omega))); omega)) h0 (zFc.of (cs := []) (rs := []) zSame.rf rfl rfl)
    · refine v_bipush (q := 18) (v := -101) hC dX11_thanks_16 rfl (by decide) ?_
      refine v_ireturn hC hB dX11_thanks_18 ⟨Nat.le_refl _, Nat.le_refl _⟩ ?_
      exact zQs.mk (by unfold sThanks; exact if_neg (by rintro (z | z); exact h2 z; rw [z] at h13; exact absurd h13 (by decide))) h0 (zFc.of (cs := []) (rs := []) zSame.rf rfl rfl)

set_option maxRecDepth 100000 in
set_option maxHeartbeats 4000000 in
theorem cl_forget (d : Nat) {σ : zSt} {S : pS} {B : Nat} (h : zCl σ S) (ok : pOk B S) : zCt (d + 0) MX11_forget [.ref 0] σ (zQs zCl zFc σ (sForget S)) := by
  refine zCt.of (L := [some (.ref 0), none]) (by decide) (Nat.le_of_ble_eq_true rfl) rfl (fun X hC hB => ?_)
  have hC : zC X RX11 cX11_forget 2 (d + 0) 0 0 := hC
  have hB : zB X (some .int) 0 0 "forget" σ _ := hB
  show zV X 2 0 [some (.ref 0), none] [] 0 0 σ
  have h0 := h
  obtain ⟨hL, hPg, hF, hK, hp, h18, h23, hd, hy, hd2, hy2, hq⟩ := h
  obtain ⟨oB, oq, ow, oqt, ot, okm, omm, oq0, oL, oD, okr, okp, oK, osym, okp6, okd⟩ := ok
  have hn6 := hF.2.1
  have hm12 := hd.2.1
  have hLg := zLg.of hL (c := 28) (by simp)
  refine v_aload_n (q := 1) hC dX11_forget_0 rfl rfl rfl ?_
  refine v_getR (q := 4) (r := 42) hC dX11_forget_1 rfl fX11_68 (hL.1 0 (by decide)) (hL.2 0 8 42 rfl) ?_
  refine v_getI (q := 7) hC dX11_forget_4 rfl fX11_101 (hL.1 42 (by decide)) ?_
  rw [hy.1]
  refine v_istore_n (q := 8) (L' := [_, _]) hC dX11_forget_7 rfl rfl (by decide) rfl rfl ?_
  refine v_aload_n (q := 9) hC dX11_forget_8 rfl rfl rfl ?_
  refine v_getR (q := 12) (r := 42) hC dX11_forget_9 rfl fX11_68 (hL.1 0 (by decide)) (hL.2 0 8 42 rfl) ?_
  refine v_iconst (q := 13) (v := 0) hC dX11_forget_12 rfl (by decide) ?_
  refine v_putI (q := 16) hC dX11_forget_13 rfl fX11_101 (hL.1 42 (by decide)) ?_
  refine v_iload_n (q := 17) hC dX11_forget_16 rfl rfl rfl ?_
  refine v_ireturn hC hB dX11_forget_17 ⟨Nat.le_refl _, Nat.le_refl _⟩ ?_
  have hS : zSame [42] [] σ (zsI σ 42 1 0) := zSame.sI (by simp)
  exact zQs.mk (S' := (S.1, S.2.1, S.2.2.1, S.2.2.2.1, (0, qDw S), S.2.2.2.2.2)) rfl ⟨hL.same hS rfl, hPg.same hS rfl, hF.same hS rfl, hK.same hS rfl, hp.same hS rfl, h18.same hS rfl, h23.same hS rfl, hd.same hS rfl, ⟨zI_eq, Nat.zero_le _, fun i hi => absurd hi (Nat.not_lt_zero i)⟩, hd2.same hS rfl, hy2.same hS rfl, hq.same hS rfl⟩ (zFc.of hS rfl rfl)

theorem zcq.ld {σ σ' : zSt} {c e m w : Nat} {F : Nat → Nat → Int32} (h : zLd σ e m F w) (g : zcq σ σ' c e 6) (g6 : zI σ' c 6 = zI σ e 6) (g7 : zI σ' c 7 = zI σ e 7) : zLd σ' c m F w := ⟨by rw [g6]; exact h.1, h.2.1, by rw [g7]; exact h.2.2.1, fun j f hj hf => by rw [g j f hj (by have := h.2.1; omega)]; exact h.2.2.2 j f hj hf⟩
theorem zDy.cp {σ σ' : zSt} {c e l : Nat} {W : Nat → Int32} (h : zDy σ e l W) (g : ∀ j, j < 7 → zI σ' (c + 1) j = zI σ (e + 1) j) (g1 : zI σ' c 1 = zI σ e 1) : zDy σ' c l W := ⟨by rw [g1]; exact h.1, h.2.1, fun i hi => by rw [g i (by have := h.2.1; omega)]; exact h.2.2 i hi⟩

set_option maxRecDepth 100000 in
set_option maxHeartbeats 4000000 in
theorem cl_image (d : Nat) {σ : zSt} {S : pS} {B : Nat} (h : zCl σ S) (ok : pOk B S) : zCt (d + 2) MX11_image [.ref 0] σ (zQs zCl zFc σ (sImage S)) := by
  refine zCt.of (L := [some (.ref 0)]) (by decide) (Nat.le_of_ble_eq_true rfl) rfl (fun X hC hB => ?_)
  have hC : zC X RX11 cX11_image 1 (d + 2) 0 0 := hC
  have hB : zB X (some .int) 0 0 "image" σ _ := hB
  show zV X 1 0 [some (.ref 0)] [] 0 0 σ
  have h0 := h
  obtain ⟨hL, hPg, hF, hK, hp, h18, h23, hd, hy, hd2, hy2, hq⟩ := h
  obtain ⟨oB, oq, ow, oqt, ot, okm, omm, oq0, oL, oD, okr, okp, oK, osym, okp6, okd⟩ := ok
  have hn6 := hF.2.1
  have hm12 := hd.2.1
  have hLg := zLg.of hL (c := 28) (by simp)
  have c0 : nI (qQ S) = 0 ↔ qQ S = 0 := nI_eq (a := qQ S) (b := 0) (by omega) (by omega)
  refine v_aload_n (q := 1) hC dX11_image_0 rfl rfl rfl ?_
  refine v_getI (q := 4) hC dX11_image_1 rfl fX11_102 (hL.1 0 (by decide)) ?_
  rw [hq.1]
  refine v_if_ne (q := 7) (tgt := 10) hC dX11_image_4 rfl (by decide) (fun h4 => ?_) (fun h4 => ?_)
  · refine v_aload_n (q := 11) hC dX11_image_10 rfl rfl rfl ?_
    refine v_getR (q := 14) (r := 44) hC dX11_image_11 rfl fX11_72 (hL.1 0 (by decide)) (hL.2 0 9 44 rfl) ?_
    refine v_aload_n (q := 15) hC dX11_image_14 rfl rfl rfl ?_
    refine v_getR (q := 18) (r := 28) hC dX11_image_15 rfl fX11_58 (hL.1 0 (by decide)) (hL.2 0 6 28 rfl) ?_
    refine v_callVQ (q := 21) (As := [_]) hC dX11_image_18 rfl lX11_231 mX4_copyFrom iX4_copyFrom eX4_copyFrom rfl (hL.1 44 (by decide)) (ct_X4_copyFrom d (zLg.of hL (c := 44) (by simp)) (zLg.of hL (c := 28) (by simp)) (by omega)) rfl rfl (by omega) (by decide) (Nat.le_of_ble_eq_true rfl) ?_
    rintro _ σ1 ⟨rfl, hS1, g1, g2, g3⟩
    have hL1 := hL.same hS1 rfl
    refine v_aload_n (q := 22) hC dX11_image_21 rfl rfl rfl ?_
    refine v_getR (q := 25) (r := 51) hC dX11_image_22 rfl fX11_75 (hL1.1 0 (by decide)) (hL1.2 0 10 51 rfl) ?_
    refine v_aload_n (q := 26) hC dX11_image_25 rfl rfl rfl ?_
    refine v_getR (q := 29) (r := 42) hC dX11_image_26 rfl fX11_68 (hL1.1 0 (by decide)) (hL1.2 0 8 42 rfl) ?_
    refine v_callVQ (q := 32) (As := [_]) hC dX11_image_29 rfl lX11_264 mX0_copyFrom iX0_copyFrom eX0_copyFrom rfl (hL1.1 51 (by decide)) (ct_X0_copyQ d (zDr.of hL1 (c := 51) (by simp)) (zDr.of hL1 (c := 42) (by simp)) (by decide)) rfl rfl (by omega) (by decide) (Nat.le_of_ble_eq_true rfl) ?_
    rintro _ σ2 ⟨rfl, hS2, g4, g5⟩
    have hL2 := hL1.same hS2 rfl
    have hSS : zSame [44, 45, 46, 47, 48, 49, 50, 51, 52] [] σ σ2 := (hS1.mono (by decide) (by decide)).tr (hS2.mono (by decide) (by decide))
    have hq2 := hq.same hSS rfl
    have hF2 := hF.same hSS rfl
    refine v_aload_n (q := 33) hC dX11_image_32 rfl rfl rfl ?_
    refine v_aload_n (q := 34) hC dX11_image_33 rfl rfl rfl ?_
    refine v_getI (q := 37) hC dX11_image_34 rfl fX11_102 (hL2.1 0 (by decide)) ?_
    refine v_putI (q := 40) hC dX11_image_37 rfl fX11_267 (hL2.1 0 (by decide)) ?_
    refine v_aload_n (q := 41) hC dX11_image_40 rfl rfl rfl ?_
    refine v_aload_n (q := 42) hC dX11_image_41 rfl rfl rfl ?_
    refine v_getR (q := 45) (r := 8) hC dX11_image_42 rfl fX11_26 (hL2.1 0 (by decide)) (hL2.2 0 2 8 rfl) ?_
    refine v_getI (q := 48) hC dX11_image_45 rfl fX11_122 (hL2.1 8 (by decide)) ?_
    refine v_putI (q := 51) hC dX11_image_48 rfl fX11_270 (hL2.1 0 (by decide)) ?_
    refine v_aload_n (q := 52) hC dX11_image_51 rfl rfl rfl ?_
    refine v_getR (q := 55) (r := 28) hC dX11_image_52 rfl fX11_58 (hL2.1 0 (by decide)) (hL2.2 0 6 28 rfl) ?_
    refine v_getI (q := 58) hC dX11_image_55 rfl fX11_197 (hL2.1 28 (by decide)) ?_
    refine v_ireturn hC hB dX11_image_58 ⟨Nat.le_refl _, Nat.le_refl _⟩ ?_
    have x0 : zI (zsI σ2 0 12 (zI σ2 0 11)) 8 4 = nI (qN S) := by rw [zI_ne (by omega)]; exact hF2.1
    rw [hq2.1] at x0 ⊢
    rw [x0]
    have hS3 : zSame [0] [] σ2 (zsI (zsI σ2 0 12 (nI (qQ S))) 0 13 (nI (qN S))) := (zSame.sI (by simp)).addI (by simp)
    have hS4 : zSame [0, 44, 45, 46, 47, 48, 49, 50, 51, 52] [] σ (zsI (zsI σ2 0 12 (nI (qQ S))) 0 13 (nI (qN S))) := (hSS.mono (by decide) (by decide)).tr (hS3.mono (by decide) (by decide))
    have hd9 := hd.same hS4 rfl
    rw [hd9.2.2.1]
    exact zQs.mk (S' := (S.1, S.2.1, S.2.2.1, S.2.2.2.1, S.2.2.2.2.1, qQ S, (qQ S, qN S, S.2.2.2.1, S.2.2.2.2.1))) (by unfold sImage; exact if_neg (fun z => h4 (c0.mpr z))) ⟨hL.same hS4 rfl, hPg.same hS4 rfl, hF.same hS4 rfl, hK.same hS4 rfl, hp.same hS4 rfl, h18.same hS4 rfl, h23.same hS4 rfl, hd9, hy.same hS4 rfl, ((zcq.ld hd g1 g2 g3).same hS2 rfl).same hS3 rfl, (zDy.cp (hy.same hS1 rfl) g4 g5).same hS3 rfl, ⟨by rw [zI_ne (by omega), zI_ne (by omega)]; exact hq2.1, by rw [zI_ne (by omega), zI_eq], zI_eq⟩⟩ (zFc.of hS4 rfl rfl)
  · refine v_bipush (q := 9) (v := -103) hC dX11_image_7 rfl (by decide) ?_
    refine v_ireturn hC hB dX11_image_9 ⟨Nat.le_refl _, Nat.le_refl _⟩ ?_
    exact zQs.mk (by unfold sImage; exact if_pos (c0.mp h4)) h0 (zFc.of (cs := []) (rs := []) zSame.rf rfl rfl)

set_option maxRecDepth 100000 in
set_option maxHeartbeats 4000000 in
theorem cl_restore (d : Nat) {σ : zSt} {S : pS} {B : Nat} (h : zCl σ S) (ok : pOk B S) : zCt (d + 2) MX11_restore [.ref 0] σ (zQs zCl zFc σ (sRestore S)) := by
  refine zCt.of (L := [some (.ref 0)]) (by decide) (Nat.le_of_ble_eq_true rfl) rfl (fun X hC hB => ?_)
  have hC : zC X RX11 cX11_restore 1 (d + 2) 0 0 := hC
  have hB : zB X (some .int) 0 0 "restore" σ _ := hB
  show zV X 1 0 [some (.ref 0)] [] 0 0 σ
  have h0 := h
  obtain ⟨hL, hPg, hF, hK, hp, h18, h23, hd, hy, hd2, hy2, hq⟩ := h
  obtain ⟨oB, oq, ow, oqt, ot, okm, omm, oq0, oL, oD, okr, okp, oK, osym, okp6, okd⟩ := ok
  have hn6 := hF.2.1
  have hm12 := hd.2.1
  have hLg := zLg.of hL (c := 28) (by simp)
  have c1 : nI (qKr S) = 0 ↔ qKr S = 0 := nI_eq (a := qKr S) (b := 0) (by omega) (by omega)
  have c2 : nI (qKr S) = nI (qQ S) ↔ qKr S = qQ S := nI_eq (by omega) (by omega)
  have c3 : nI (qKp S) = nI (qN S) ↔ qKp S = qN S := nI_eq (by omega) (by omega)
  refine v_aload_n (q := 1) hC dX11_restore_0 rfl rfl rfl ?_
  refine v_getI (q := 4) hC dX11_restore_1 rfl fX11_267 (hL.1 0 (by decide)) ?_
  rw [hq.2.1]
  refine v_if_eq (q := 7) (tgt := 32) hC dX11_restore_4 rfl (by decide) (fun h4 => ?_) (fun h4 => ?_)
  · refine v_bipush (q := 34) (v := -103) hC dX11_restore_32 rfl (by decide) ?_
    refine v_ireturn hC hB dX11_restore_34 ⟨Nat.le_refl _, Nat.le_refl _⟩ ?_
    exact zQs.mk (by unfold sRestore; exact if_pos (by first | exact Or.inl (c1.mp h4) | exact Or.inr (Or.inl (fun z => h15 (c2.mpr z))) | exact Or.inr (Or.inr (fun z => h29 (c3.mpr z))))) h0 (zFc.of (cs := []) (rs := []) zSame.rf rfl rfl)
  · refine v_aload_n (q := 8) hC dX11_restore_7 rfl rfl rfl ?_
    refine v_getI (q := 11) hC dX11_restore_8 rfl fX11_267 (hL.1 0 (by decide)) ?_
    refine v_aload_n (q := 12) hC dX11_restore_11 rfl rfl rfl ?_
    refine v_getI (q := 15) hC dX11_restore_12 rfl fX11_102 (hL.1 0 (by decide)) ?_
    rw [hq.2.1, hq.1]
    refine v_icmp_ne (q := 18) (tgt := 32) hC dX11_restore_15 rfl (by decide) (fun h15 => ?_) (fun h15 => ?_)
    · refine v_bipush (q := 34) (v := -103) hC dX11_restore_32 rfl (by decide) ?_
      refine v_ireturn hC hB dX11_restore_34 ⟨Nat.le_refl _, Nat.le_refl _⟩ ?_
      exact zQs.mk (by unfold sRestore; exact if_pos (by first | exact Or.inl (c1.mp h4) | exact Or.inr (Or.inl (fun z => h15 (c2.mpr z))) | exact Or.inr (Or.inr (fun z => h29 (c3.mpr z))))) h0 (zFc.of (cs := []) (rs := []) zSame.rf rfl rfl)
    · refine v_aload_n (q := 19) hC dX11_restore_18 rfl rfl rfl ?_
      refine v_getI (q := 22) hC dX11_restore_19 rfl fX11_270 (hL.1 0 (by decide)) ?_
      refine v_aload_n (q := 23) hC dX11_restore_22 rfl rfl rfl ?_
      refine v_getR (q := 26) (r := 8) hC dX11_restore_23 rfl fX11_26 (hL.1 0 (by decide)) (hL.2 0 2 8 rfl) ?_
      refine v_getI (q := 29) hC dX11_restore_26 rfl fX11_122 (hL.1 8 (by decide)) ?_
      rw [hq.2.2, hF.1]
      refine v_icmp_eq (q := 32) (tgt := 35) hC dX11_restore_29 rfl (by decide) (fun h29 => ?_) (fun h29 => ?_)
      · refine v_aload_n (q := 36) hC dX11_restore_35 rfl rfl rfl ?_
        refine v_getR (q := 39) (r := 28) hC dX11_restore_36 rfl fX11_58 (hL.1 0 (by decide)) (hL.2 0 6 28 rfl) ?_
        refine v_aload_n (q := 40) hC dX11_restore_39 rfl rfl rfl ?_
        refine v_getR (q := 43) (r := 44) hC dX11_restore_40 rfl fX11_72 (hL.1 0 (by decide)) (hL.2 0 9 44 rfl) ?_
        refine v_callVQ (q := 46) (As := [_]) hC dX11_restore_43 rfl lX11_231 mX4_copyFrom iX4_copyFrom eX4_copyFrom rfl (hL.1 28 (by decide)) (ct_X4_copyFrom d (zLg.of hL (c := 28) (by simp)) (zLg.of hL (c := 44) (by simp)) (by omega)) rfl rfl (by omega) (by decide) (Nat.le_of_ble_eq_true rfl) ?_
        rintro _ σ1 ⟨rfl, hS1, g1, g2, g3⟩
        have hL1 := hL.same hS1 rfl
        refine v_aload_n (q := 47) hC dX11_restore_46 rfl rfl rfl ?_
        refine v_getR (q := 50) (r := 42) hC dX11_restore_47 rfl fX11_68 (hL1.1 0 (by decide)) (hL1.2 0 8 42 rfl) ?_
        refine v_aload_n (q := 51) hC dX11_restore_50 rfl rfl rfl ?_
        refine v_getR (q := 54) (r := 51) hC dX11_restore_51 rfl fX11_75 (hL1.1 0 (by decide)) (hL1.2 0 10 51 rfl) ?_
        refine v_callVQ (q := 57) (As := [_]) hC dX11_restore_54 rfl lX11_264 mX0_copyFrom iX0_copyFrom eX0_copyFrom rfl (hL1.1 42 (by decide)) (ct_X0_copyQ d (zDr.of hL1 (c := 42) (by simp)) (zDr.of hL1 (c := 51) (by simp)) (by decide)) rfl rfl (by omega) (by decide) (Nat.le_of_ble_eq_true rfl) ?_
        rintro _ σ2 ⟨rfl, hS2, g4, g5⟩
        have hL2 := hL1.same hS2 rfl
        have hSS : zSame [28, 29, 30, 31, 32, 33, 34, 42, 43] [] σ σ2 := (hS1.mono (by decide) (by decide)).tr (hS2.mono (by decide) (by decide))
        refine v_aload_n (q := 58) hC dX11_restore_57 rfl rfl rfl ?_
        refine v_getR (q := 61) (r := 28) hC dX11_restore_58 rfl fX11_58 (hL2.1 0 (by decide)) (hL2.2 0 6 28 rfl) ?_
        refine v_getI (q := 64) hC dX11_restore_61 rfl fX11_197 (hL2.1 28 (by decide)) ?_
        refine v_ireturn hC hB dX11_restore_64 ⟨Nat.le_refl _, Nat.le_refl _⟩ ?_
        have hd9 := (zcq.ld hd2 g1 g2 g3).same hS2 rfl
        rw [hd9.2.2.1]
        exact zQs.mk (S' := (S.1, S.2.1, S.2.2.1, (qM2 S, qF2 S, qW2 S), (qD2 S, qV2 S), S.2.2.2.2.2)) (by unfold sRestore; exact if_neg (by rintro (z | z | z); exact h4 (c1.mpr z); exact z (c2.mp h15); exact z (c3.mp h29))) ⟨hL.same hSS rfl, hPg.same hSS rfl, hF.same hSS rfl, hK.same hSS rfl, hp.same hSS rfl, h18.same hSS rfl, h23.same hSS rfl, hd9, zDy.cp (hy2.same hS1 rfl) g4 g5, hd2.same hSS rfl, hy2.same hSS rfl, hq.same hSS rfl⟩ (zFc.of hSS rfl rfl)
      · refine v_bipush (q := 34) (v := -103) hC dX11_restore_32 rfl (by decide) ?_
        refine v_ireturn hC hB dX11_restore_34 ⟨Nat.le_refl _, Nat.le_refl _⟩ ?_
        exact zQs.mk (by unfold sRestore; exact if_pos (by first | exact Or.inl (c1.mp h4) | exact Or.inr (Or.inl (fun z => h15 (c2.mpr z))) | exact Or.inr (Or.inr (fun z => h29 (c3.mpr z))))) h0 (zFc.of (cs := []) (rs := []) zSame.rf rfl rfl)

