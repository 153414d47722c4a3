/-! ===== the class's calls that only look ===== -/
theorem zb_ne {b : Bool} (h : ¬ zb b = 0) : b = true := by cases b <;> simp_all [zb]
theorem zEv.qs {d : Nat} {M : zM} {av : List Value} {σ : zSt} {S : pS} {a : Int32 × pS} (h : zEv d M av σ (some (.int a.1)) σ) (hc : zCl σ S) (ha : a.2 = S) : zCt d M av σ (zQs zCl zFc σ a) := by
  refine zCt.mono h ?_
  rintro r σ' ⟨rfl, rfl⟩
  exact ⟨rfl, by rw [ha]; exact hc, zFc.of (cs := []) (rs := []) zSame.rf rfl rfl⟩
theorem pTwo_of {S : pS} {a b : Int32} (hn : qN S ≤ 6) (h : pTwo S a b = true) : ∃ x y, x < qN S ∧ y < qN S ∧ ¬ x = y ∧ a = nI x ∧ b = nI y := by
  unfold pTwo at h
  rw [Bool.and_eq_true, Bool.and_eq_true] at h
  obtain ⟨⟨z1, z2⟩, z3⟩ := h
  obtain ⟨x, hx, rfl⟩ := zval_of (by omega) z1
  obtain ⟨y, hy, rfl⟩ := zval_of (by omega) z2
  exact ⟨x, y, hx, hy, fun e => by subst e; simp at z3, rfl, rfl⟩

set_option maxRecDepth 100000 in
set_option maxHeartbeats 4000000 in
theorem ce_between (d : Nat) {σ : zSt} {S : pS} {B : Nat} (h : zCl σ S) (ok : pOk B S) (a : Int32) (b : Int32) : zEv (d + 2) MX11_between [.ref 0, .int a, .int b] σ (some (.int (sBetween S a b).1)) σ := by
  refine zCt.of (L := [some (.ref 0), some (.int a), some (.int b)]) (by decide) (Nat.le_of_ble_eq_true rfl) rfl (fun X hC hB => ?_)
  have hC : zC X RX11 cX11_between 3 (d + 2) 0 0 := hC
  have hB : zB X (some .int) 0 0 "between" σ _ := hB
  show zV X 3 0 [some (.ref 0), some (.int a), some (.int b)] [] 0 0 σ
  have h0 := h
  obtain ⟨hL, hPg, hF, hK, hp, h18, h23, hd, hy, hd2, hy2, hq⟩ := h
  obtain ⟨oB, oq, ow, oqt, ot, okm, omm, oq0, oL, oD, okr, okp, oK, osym, okp6, okd⟩ := ok
  have hn6 := hF.2.1
  have hm12 := hd.2.1
  have hLg := zLg.of hL (c := 28) (by simp)
  refine v_aload_n (q := 1) hC dX11_between_0 rfl rfl rfl ?_
  refine v_getR (q := 4) (r := 8) hC dX11_between_1 rfl fX11_26 (hL.1 0 (by decide)) (hL.2 0 2 8 rfl) ?_
  refine v_iload_n (q := 5) hC dX11_between_4 rfl rfl rfl ?_
  refine v_iload_n (q := 6) hC dX11_between_5 rfl rfl rfl ?_
  refine v_callV1 (q := 9) (As := [_, _]) hC dX11_between_6 rfl lX11_112 mX2_areTwo iX2_areTwo eX2_areTwo rfl (hL.1 8 (by decide)) (ct_X2_areTwo d hL hF.1 hn6 _ _) rfl rfl (by omega) rfl (Nat.le_of_ble_eq_true rfl) ?_
  refine v_if_ne (q := 12) (tgt := 15) hC dX11_between_9 rfl (by decide) (fun h9 => ?_) (fun h9 => ?_)
  · have hz : pTwo S a b = true := zb_ne h9
    obtain ⟨x, y, hx, hy_, hxy, rfl, rfl⟩ := pTwo_of hn6 hz
    have e1 : (sBetween S (nI x) (nI y)).1 = pBtw S x y := by unfold sBetween; rw [if_pos hz, dN_nI (by omega), dN_nI (by omega)]
    rw [e1] at hB
    unfold pBtw at hB
    refine v_aload_n (q := 16) hC dX11_between_15 rfl rfl rfl ?_
    refine v_getR (q := 19) (r := 8) hC dX11_between_16 rfl fX11_26 (hL.1 0 (by decide)) (hL.2 0 2 8 rfl) ?_
    refine v_iload_n (q := 20) hC dX11_between_19 rfl rfl rfl ?_
    refine v_iload_n (q := 21) hC dX11_between_20 rfl rfl rfl ?_
    refine v_callV1 (q := 24) (As := [_, _]) hC dX11_between_21 rfl lX11_116 mX2_akin iX2_akin eX2_akin rfl (hL.1 8 (by decide)) (ct_X2_akin d hL hF (by omega) (by omega)) rfl rfl (by omega) rfl (Nat.le_of_ble_eq_true rfl) ?_
    refine v_if_eq (q := 27) (tgt := 29) hC dX11_between_24 rfl (by decide) (fun h24 => ?_) (fun h24 => ?_)
    · refine v_aload_n (q := 30) hC dX11_between_29 rfl rfl rfl ?_
      refine v_getR (q := 33) (r := 8) hC dX11_between_30 rfl fX11_26 (hL.1 0 (by decide)) (hL.2 0 2 8 rfl) ?_
      refine v_iload_n (q := 34) hC dX11_between_33 rfl rfl rfl ?_
      refine v_iload_n (q := 35) hC dX11_between_34 rfl rfl rfl ?_
      refine v_callV1 (q := 38) (As := [_, _]) hC dX11_between_35 rfl lX11_119 mX2_know iX2_know eX2_know rfl (hL.1 8 (by decide)) (ct_X2_know d hL hF hx hy_) rfl rfl (by omega) rfl (Nat.le_of_ble_eq_true rfl) ?_
      refine v_if_eq (q := 41) (tgt := 45) hC dX11_between_38 rfl (by decide) (fun h38 => ?_) (fun h38 => ?_)
      · refine v_iconst (q := 46) (v := 0) hC dX11_between_45 rfl (by decide) ?_
        refine v_ireturn hC hB dX11_between_46 ⟨Nat.le_refl _, Nat.le_refl _⟩ ?_
        rw [if_neg (by rw [zb_eq0.mp h24]; decide)]
        first | (rw [if_pos (zb_ne h38)]; exact ⟨rfl, rfl⟩) | (rw [if_neg (by rw [zb_eq0.mp h38]; decide)]; exact ⟨rfl, rfl⟩)
      · refine v_iconst (q := 42) (v := 2) hC dX11_between_41 rfl (by decide) ?_
        refine v_goto (q := 46) hC dX11_between_42 (by decide) ?_
        refine v_ireturn hC hB dX11_between_46 ⟨Nat.le_refl _, Nat.le_refl _⟩ ?_
        rw [if_neg (by rw [zb_eq0.mp h24]; decide)]
        first | (rw [if_pos (zb_ne h38)]; exact ⟨rfl, rfl⟩) | (rw [if_neg (by rw [zb_eq0.mp h38]; decide)]; exact ⟨rfl, rfl⟩)
    · refine v_iconst (q := 28) (v := 3) hC dX11_between_27 rfl (by decide) ?_
      refine v_ireturn hC hB dX11_between_28 ⟨Nat.le_refl _, Nat.le_refl _⟩ ?_
      rw [if_pos (zb_ne h24)]
      exact ⟨rfl, rfl⟩
  · refine v_bipush (q := 14) (v := -101) hC dX11_between_12 rfl (by decide) ?_
    refine v_ireturn hC hB dX11_between_14 ⟨Nat.le_refl _, Nat.le_refl _⟩ ?_
    have e1 : sBetween S a b = (-101, S) := if_neg (by show ¬ pTwo S a b = true; unfold pTwo; rw [zb_eq0.mp h9]; decide)
    rw [e1]
    exact ⟨rfl, rfl⟩

theorem cl_between (d : Nat) {σ : zSt} {S : pS} {B : Nat} (h : zCl σ S) (ok : pOk B S) (a : Int32) (b : Int32) : zCt (d + 2) MX11_between [.ref 0, .int a, .int b] σ (zQs zCl zFc σ (sBetween S a b)) := (ce_between d h ok a b).qs h (by unfold sBetween; split <;> rfl)

set_option maxRecDepth 100000 in
set_option maxHeartbeats 4000000 in
theorem ce_as (d : Nat) {σ : zSt} {S : pS} {B : Nat} (h : zCl σ S) (ok : pOk B S) (p : Int32) (k : Int32) : zEv (d + 1) MX11_as [.ref 0, .int p, .int k] σ (some (.int (sAs S p k).1)) σ := by
  refine zCt.of (L := [some (.ref 0), some (.int p), some (.int k)]) (by decide) (Nat.le_of_ble_eq_true rfl) rfl (fun X hC hB => ?_)
  have hC : zC X RX11 cX11_as 3 (d + 1) 0 0 := hC
  have hB : zB X (some .int) 0 0 "as" σ _ := hB
  show zV X 3 0 [some (.ref 0), some (.int p), some (.int k)] [] 0 0 σ
  have h0 := h
  obtain ⟨hL, hPg, hF, hK, hp, h18, h23, hd, hy, hd2, hy2, hq⟩ := h
  obtain ⟨oB, oq, ow, oqt, ot, okm, omm, oq0, oL, oD, okr, okp, oK, osym, okp6, okd⟩ := ok
  have hn6 := hF.2.1
  have hm12 := hd.2.1
  have hLg := zLg.of hL (c := 28) (by simp)
  refine v_aload_n (q := 1) hC dX11_as_0 rfl rfl rfl ?_
  refine v_getR (q := 4) (r := 8) hC dX11_as_1 rfl fX11_26 (hL.1 0 (by decide)) (hL.2 0 2 8 rfl) ?_
  refine v_iload_n (q := 5) hC dX11_as_4 rfl rfl rfl ?_
  refine v_callV1 (q := 8) (As := [_]) hC dX11_as_5 rfl lX11_129 mX2_has iX2_has eX2_has rfl (hL.1 8 (by decide)) (ct_X2_has d hL hF.1 hn6 _) rfl rfl (by omega) rfl (Nat.le_of_ble_eq_true rfl) ?_
  refine v_if_ne (q := 11) (tgt := 14) hC dX11_as_8 rfl (by decide) (fun h8 => ?_) (fun h8 => ?_)
  · have hz := zb_ne h8
    obtain ⟨x, hx, rfl⟩ := zval_of (by omega) hz
    refine v_iload_n (q := 15) hC dX11_as_14 rfl rfl rfl ?_
    refine v_if_lt (q := 18) (tgt := 23) hC dX11_as_15 rfl (by decide) (fun h15 => ?_) (fun h15 => ?_)
    · refine v_bipush (q := 25) (v := -102) hC dX11_as_23 rfl (by decide) ?_
      refine v_ireturn hC hB dX11_as_25 ⟨Nat.le_refl _, Nat.le_refl _⟩ ?_
      have e1 : sAs S (nI x) k = (-102, S) := by unfold sAs; rw [if_pos hz]; exact if_pos (by first | exact Or.inl h15 | exact Or.inr (Int32.not_le.mp h20))
      rw [e1]
      exact ⟨rfl, rfl⟩
    · refine v_iload_n (q := 19) hC dX11_as_18 rfl rfl rfl ?_
      refine v_iconst (q := 20) (v := 4) hC dX11_as_19 rfl (by decide) ?_
      refine v_icmp_le (q := 23) (tgt := 26) hC dX11_as_20 rfl (by decide) (fun h20 => ?_) (fun h20 => ?_)
      · obtain ⟨k, -, hk4, rfl⟩ := zbw (x := k) 0 4 (by omega) (by omega) h15 (Int32.not_lt.mpr h20)
        have e1 : (sAs S (nI x) (nI k)).1 = if pIs k (qKd S x) then nI x else -1 := by unfold sAs; rw [if_pos hz, if_neg (by rintro (z | z); exact h15 z; exact absurd h20 (Int32.not_le.mpr z)), dN_nI (by omega), dN_nI (by omega)]
        rw [e1] at hB
        refine v_aload_n (q := 27) hC dX11_as_26 rfl rfl rfl ?_
        refine v_getR (q := 30) (r := 8) hC dX11_as_27 rfl fX11_26 (hL.1 0 (by decide)) (hL.2 0 2 8 rfl) ?_
        refine v_iload_n (q := 31) hC dX11_as_30 rfl rfl rfl ?_
        refine v_iload_n (q := 32) hC dX11_as_31 rfl rfl rfl ?_
        refine v_callV1 (q := 35) (As := [_, _]) hC dX11_as_32 rfl lX11_153 mX2_isA iX2_isA eX2_isA rfl (hL.1 8 (by decide)) (ct_X2_isA d hL hF hx hk4) rfl rfl (by omega) rfl (Nat.le_of_ble_eq_true rfl) ?_
        refine v_if_eq (q := 38) (tgt := 42) hC dX11_as_35 rfl (by decide) (fun h35 => ?_) (fun h35 => ?_)
        · refine v_iconst (q := 43) (v := -1) hC dX11_as_42 rfl (by decide) ?_
          refine v_ireturn hC hB dX11_as_43 ⟨Nat.le_refl _, Nat.le_refl _⟩ ?_
          first | (rw [if_pos (zb_ne h35)]; exact ⟨rfl, rfl⟩) | (rw [if_neg (by rw [zb_eq0.mp h35]; decide)]; exact ⟨rfl, rfl⟩)
        · refine v_iload_n (q := 39) hC dX11_as_38 rfl rfl rfl ?_
          refine v_goto (q := 43) hC dX11_as_39 (by decide) ?_
          refine v_ireturn hC hB dX11_as_43 ⟨Nat.le_refl _, Nat.le_refl _⟩ ?_
          first | (rw [if_pos (zb_ne h35)]; exact ⟨rfl, rfl⟩) | (rw [if_neg (by rw [zb_eq0.mp h35]; decide)]; exact ⟨rfl, rfl⟩)
      · refine v_bipush (q := 25) (v := -102) hC dX11_as_23 rfl (by decide) ?_
        refine v_ireturn hC hB dX11_as_25 ⟨Nat.le_refl _, Nat.le_refl _⟩ ?_
        have e1 : sAs S (nI x) k = (-102, S) := by unfold sAs; rw [if_pos hz]; exact if_pos (by first | exact Or.inl h15 | exact Or.inr (Int32.not_le.mp h20))
        rw [e1]
        exact ⟨rfl, rfl⟩
  · refine v_bipush (q := 13) (v := -101) hC dX11_as_11 rfl (by decide) ?_
    refine v_ireturn hC hB dX11_as_13 ⟨Nat.le_refl _, Nat.le_refl _⟩ ?_
    have e1 : sAs S p k = (-101, S) := if_neg (by rw [zb_eq0.mp h8]; decide)
    rw [e1]
    exact ⟨rfl, rfl⟩

theorem cl_as (d : Nat) {σ : zSt} {S : pS} {B : Nat} (h : zCl σ S) (ok : pOk B S) (p : Int32) (k : Int32) : zCt (d + 1) MX11_as [.ref 0, .int p, .int k] σ (zQs zCl zFc σ (sAs S p k)) := (ce_as d h ok p k).qs h (by unfold sAs; repeat (first | rfl | split))

set_option maxRecDepth 100000 in
set_option maxHeartbeats 4000000 in
theorem ce_about (d : Nat) {σ : zSt} {S : pS} {B : Nat} (h : zCl σ S) (ok : pOk B S) (p : Int32) (k : Int32) : zEv (d + 3) MX11_about [.ref 0, .int p, .int k] σ (some (.int (sAbout S p k).1)) σ := by
  refine zCt.of (L := [some (.ref 0), some (.int p), some (.int k)]) (by decide) (Nat.le_of_ble_eq_true rfl) rfl (fun X hC hB => ?_)
  have hC : zC X RX11 cX11_about 3 (d + 3) 0 0 := hC
  have hB : zB X (some .int) 0 0 "about" σ _ := hB
  show zV X 3 0 [some (.ref 0), some (.int p), some (.int k)] [] 0 0 σ
  have h0 := h
  obtain ⟨hL, hPg, hF, hK, hp, h18, h23, hd, hy, hd2, hy2, hq⟩ := h
  obtain ⟨oB, oq, ow, oqt, ot, okm, omm, oq0, oL, oD, okr, okp, oK, osym, okp6, okd⟩ := ok
  have hn6 := hF.2.1
  have hm12 := hd.2.1
  have hLg := zLg.of hL (c := 28) (by simp)
  refine v_aload_n (q := 1) hC dX11_about_0 rfl rfl rfl ?_
  refine v_getR (q := 4) (r := 8) hC dX11_about_1 rfl fX11_26 (hL.1 0 (by decide)) (hL.2 0 2 8 rfl) ?_
  refine v_iload_n (q := 5) hC dX11_about_4 rfl rfl rfl ?_
  refine v_callV1 (q := 8) (As := [_]) hC dX11_about_5 rfl lX11_129 mX2_has iX2_has eX2_has rfl (hL.1 8 (by decide)) (ct_X2_has (d + 2) hL hF.1 hn6 _) rfl rfl (by omega) rfl (Nat.le_of_ble_eq_true rfl) ?_
  refine v_if_ne (q := 11) (tgt := 14) hC dX11_about_8 rfl (by decide) (fun h8 => ?_) (fun h8 => ?_)
  · have hz := zb_ne h8
    obtain ⟨x, hx, rfl⟩ := zval_of (by omega) hz
    have ex := (hF.2.2.1 x hx).2
    refine v_iload_n (q := 15) hC dX11_about_14 rfl rfl rfl ?_
    refine v_if_lt (q := 18) (tgt := 23) hC dX11_about_15 rfl (by decide) (fun h15 => ?_) (fun h15 => ?_)
    · refine v_bipush (q := 25) (v := -102) hC dX11_about_23 rfl (by decide) ?_
      refine v_ireturn hC hB dX11_about_25 ⟨Nat.le_refl _, Nat.le_refl _⟩ ?_
      have e1 : sAbout S (nI x) k = (-102, S) := by unfold sAbout; rw [if_pos hz]; exact if_pos (by first | exact Or.inl h15 | exact Or.inr (Int32.not_le.mp h20))
      rw [e1]
      exact ⟨rfl, rfl⟩
    · refine v_iload_n (q := 19) hC dX11_about_18 rfl rfl rfl ?_
      refine v_iconst (q := 20) (v := 5) hC dX11_about_19 rfl (by decide) ?_
      refine v_icmp_le (q := 23) (tgt := 26) hC dX11_about_20 rfl (by decide) (fun h20 => ?_) (fun h20 => ?_)
      · obtain ⟨k, -, hk5, rfl⟩ := zbw (x := k) 0 5 (by omega) (by omega) h15 (Int32.not_lt.mpr h20)
        have e1 : (sAbout S (nI x) (nI k)).1 = pAbt S x k := by unfold sAbout; rw [if_pos hz, if_neg (by rintro (z | z); exact h15 z; exact absurd h20 (Int32.not_le.mpr z)), dN_nI (by omega), dN_nI (by omega)]
        rw [e1] at hB
        have ck : ∀ j : Nat, j < 100 → nI k = nI j → k = j := fun j hj z => (nI_eq (by omega) (by omega)).mp z
        refine v_iload_n (q := 27) hC dX11_about_26 rfl rfl rfl ?_
        by_cases h27_0 : nI k = 0
        · refine v_tableIn (q := 60) (off := 33) hC dX11_about_27 (by rw [h27_0]; decide) (by rw [h27_0]; decide) (by rw [h27_0]; rfl) (by decide) ?_
          refine v_aload_n (q := 61) hC dX11_about_60 rfl rfl rfl ?_
          refine v_getR (q := 64) (r := 8) hC dX11_about_61 rfl fX11_26 (hL.1 0 (by decide)) (hL.2 0 2 8 rfl) ?_
          refine v_getR (q := 67) (r := 13) hC dX11_about_64 rfl fX11_133 (hL.1 8 (by decide)) (hL.2 8 2 13 rfl) ?_
          refine v_iload_n (q := 68) hC dX11_about_67 rfl rfl rfl ?_
          refine v_ialdN (q := 69) (j := x) hC dX11_about_68 rfl (hL.1 13 (by decide)) rfl (by omega) (by decide) ?_
          refine v_ireturn hC hB dX11_about_69 ⟨Nat.le_refl _, Nat.le_refl _⟩ ?_
          have e := ck 0 (by omega) h27_0
          subst e
          rw [ex]
          exact ⟨rfl, rfl⟩
        by_cases h27_1 : nI k = 1
        · refine v_tableIn (q := 70) (off := 43) hC dX11_about_27 (by rw [h27_1]; decide) (by rw [h27_1]; decide) (by rw [h27_1]; rfl) (by decide) ?_
          refine v_aload_n (q := 71) hC dX11_about_70 rfl rfl rfl ?_
          refine v_getR (q := 74) (r := 28) hC dX11_about_71 rfl fX11_58 (hL.1 0 (by decide)) (hL.2 0 6 28 rfl) ?_
          refine v_iload_n (q := 75) hC dX11_about_74 rfl rfl rfl ?_
          refine v_callV1 (q := 78) (As := [_]) hC dX11_about_75 rfl lX11_137 mX4_doneBy iX4_doneBy eX4_doneBy rfl (hL.1 28 (by decide)) (ct_X4_doneBy (d + 2) hLg hd _) rfl rfl (by omega) rfl (Nat.le_of_ble_eq_true rfl) ?_
          refine v_ireturn hC hB dX11_about_78 ⟨Nat.le_refl _, Nat.le_refl _⟩ ?_
          have e := ck 1 (by omega) h27_1
          subst e
          exact ⟨rfl, rfl⟩
        by_cases h27_2 : nI k = 2
        · refine v_tableIn (q := 79) (off := 52) hC dX11_about_27 (by rw [h27_2]; decide) (by rw [h27_2]; decide) (by rw [h27_2]; rfl) (by decide) ?_
          refine v_aload_n (q := 80) hC dX11_about_79 rfl rfl rfl ?_
          refine v_getR (q := 83) (r := 28) hC dX11_about_80 rfl fX11_58 (hL.1 0 (by decide)) (hL.2 0 6 28 rfl) ?_
          refine v_iload_n (q := 84) hC dX11_about_83 rfl rfl rfl ?_
          refine v_callV1 (q := 87) (As := [_]) hC dX11_about_84 rfl lX11_140 mX4_doneFor iX4_doneFor eX4_doneFor rfl (hL.1 28 (by decide)) (ct_X4_doneFor (d + 2) hLg hd _) rfl rfl (by omega) rfl (Nat.le_of_ble_eq_true rfl) ?_
          refine v_ireturn hC hB dX11_about_87 ⟨Nat.le_refl _, Nat.le_refl _⟩ ?_
          have e := ck 2 (by omega) h27_2
          subst e
          exact ⟨rfl, rfl⟩
        by_cases h27_3 : nI k = 3
        · refine v_tableIn (q := 88) (off := 61) hC dX11_about_27 (by rw [h27_3]; decide) (by rw [h27_3]; decide) (by rw [h27_3]; rfl) (by decide) ?_
          refine v_aload_n (q := 89) hC dX11_about_88 rfl rfl rfl ?_
          refine v_getR (q := 92) (r := 28) hC dX11_about_89 rfl fX11_58 (hL.1 0 (by decide)) (hL.2 0 6 28 rfl) ?_
          refine v_iload_n (q := 93) hC dX11_about_92 rfl rfl rfl ?_
          refine v_callV1 (q := 96) (As := [_]) hC dX11_about_93 rfl lX11_143 mX4_owedBy iX4_owedBy eX4_owedBy rfl (hL.1 28 (by decide)) (ct_X4_owedBy d hLg hd _) rfl rfl (by omega) rfl (Nat.le_of_ble_eq_true rfl) ?_
          refine v_ireturn hC hB dX11_about_96 ⟨Nat.le_refl _, Nat.le_refl _⟩ ?_
          have e := ck 3 (by omega) h27_3
          subst e
          exact ⟨rfl, rfl⟩
        by_cases h27_4 : nI k = 4
        · refine v_tableIn (q := 97) (off := 70) hC dX11_about_27 (by rw [h27_4]; decide) (by rw [h27_4]; decide) (by rw [h27_4]; rfl) (by decide) ?_
          refine v_aload_n (q := 98) hC dX11_about_97 rfl rfl rfl ?_
          refine v_getR (q := 101) (r := 28) hC dX11_about_98 rfl fX11_58 (hL.1 0 (by decide)) (hL.2 0 6 28 rfl) ?_
          refine v_iload_n (q := 102) hC dX11_about_101 rfl rfl rfl ?_
          refine v_aload_n (q := 103) hC dX11_about_102 rfl rfl rfl ?_
          refine v_getR (q := 106) (r := 8) hC dX11_about_103 rfl fX11_26 (hL.1 0 (by decide)) (hL.2 0 2 8 rfl) ?_
          refine v_iload_n (q := 107) hC dX11_about_106 rfl rfl rfl ?_
          refine v_callV1 (q := 110) (As := [_]) hC dX11_about_107 rfl lX11_146 mX2_termOf iX2_termOf eX2_termOf rfl (hL.1 8 (by decide)) (ct_X2_termOf (d + 1) hL hF hx) rfl rfl (by omega) rfl (Nat.le_of_ble_eq_true rfl) ?_
          refine v_callV1 (q := 113) (As := [_, _]) hC dX11_about_110 rfl lX11_149 mX4_lateOf iX4_lateOf eX4_lateOf rfl (hL.1 28 (by decide)) (ct_X4_lateOf d hLg hd _ _) rfl rfl (by omega) rfl (Nat.le_of_ble_eq_true rfl) ?_
          refine v_ireturn hC hB dX11_about_113 ⟨Nat.le_refl _, Nat.le_refl _⟩ ?_
          have e := ck 4 (by omega) h27_4
          subst e
          exact ⟨rfl, rfl⟩
        refine v_tableOut (q := 114) hC dX11_about_27 (by have := lv_neT (a := 0) h27_0 rfl; have := lv_neT (a := 1) h27_1 rfl; have := lv_neT (a := 2) h27_2 rfl; have := lv_neT (a := 3) h27_3 rfl; have := lv_neT (a := 4) h27_4 rfl; omega) (by decide) ?_
        refine v_aload_n (q := 115) hC dX11_about_114 rfl rfl rfl ?_
        refine v_getR (q := 118) (r := 8) hC dX11_about_115 rfl fX11_26 (hL.1 0 (by decide)) (hL.2 0 2 8 rfl) ?_
        refine v_iload_n (q := 119) hC dX11_about_118 rfl rfl rfl ?_
        refine v_callV1 (q := 122) (As := [_]) hC dX11_about_119 rfl lX11_146 mX2_termOf iX2_termOf eX2_termOf rfl (hL.1 8 (by decide)) (ct_X2_termOf (d + 1) hL hF hx) rfl rfl (by omega) rfl (Nat.le_of_ble_eq_true rfl) ?_
        refine v_ireturn hC hB dX11_about_122 ⟨Nat.le_refl _, Nat.le_refl _⟩ ?_
        have e : k = 5 := by have n0 : k ≠ 0 := (fun z => h27_0 (by rw [z]; rfl)); have n1 : k ≠ 1 := (fun z => h27_1 (by rw [z]; rfl)); have n2 : k ≠ 2 := (fun z => h27_2 (by rw [z]; rfl)); have n3 : k ≠ 3 := (fun z => h27_3 (by rw [z]; rfl)); have n4 : k ≠ 4 := (fun z => h27_4 (by rw [z]; rfl)); omega
        subst e
        exact ⟨rfl, rfl⟩
      · refine v_bipush (q := 25) (v := -102) hC dX11_about_23 rfl (by decide) ?_
        refine v_ireturn hC hB dX11_about_25 ⟨Nat.le_refl _, Nat.le_refl _⟩ ?_
        have e1 : sAbout S (nI x) k = (-102, S) := by unfold sAbout; rw [if_pos hz]; exact if_pos (by first | exact Or.inl h15 | exact Or.inr (Int32.not_le.mp h20))
        rw [e1]
        exact ⟨rfl, rfl⟩
  · refine v_bipush (q := 13) (v := -101) hC dX11_about_11 rfl (by decide) ?_
    refine v_ireturn hC hB dX11_about_13 ⟨Nat.le_refl _, Nat.le_refl _⟩ ?_
    have e1 : sAbout S p k = (-101, S) := if_neg (by rw [zb_eq0.mp h8]; decide)
    rw [e1]
    exact ⟨rfl, rfl⟩

theorem cl_about (d : Nat) {σ : zSt} {S : pS} {B : Nat} (h : zCl σ S) (ok : pOk B S) (p : Int32) (k : Int32) : zCt (d + 3) MX11_about [.ref 0, .int p, .int k] σ (zQs zCl zFc σ (sAbout S p k)) := (ce_about d h ok p k).qs h (by unfold sAbout; repeat (first | rfl | split))

set_option maxRecDepth 100000 in
set_option maxHeartbeats 4000000 in
theorem ce_may (d : Nat) {σ : zSt} {S : pS} {B : Nat} (h : zCl σ S) (ok : pOk B S) (a : Int32) (b : Int32) (v : Int32) (r : Int32) : zEv (d + 4) MX11_may [.ref 0, .int a, .int b, .int v, .int r] σ (some (.int (sMay S a b v r).1)) σ := by
  refine zCt.of (L := [some (.ref 0), some (.int a), some (.int b), some (.int v), some (.int r)]) (by decide) (Nat.le_of_ble_eq_true rfl) rfl (fun X hC hB => ?_)
  have hC : zC X RX11 cX11_may 5 (d + 4) 0 0 := hC
  have hB : zB X (some .int) 0 0 "may" σ _ := hB
  show zV X 5 0 [some (.ref 0), some (.int a), some (.int b), some (.int v), some (.int r)] [] 0 0 σ
  have h0 := h
  obtain ⟨hL, hPg, hF, hK, hp, h18, h23, hd, hy, hd2, hy2, hq⟩ := h
  obtain ⟨oB, oq, ow, oqt, ot, okm, omm, oq0, oL, oD, okr, okp, oK, osym, okp6, okd⟩ := ok
  have hn6 := hF.2.1
  have hm12 := hd.2.1
  have hLg := zLg.of hL (c := 28) (by simp)
  have key : pTwo S a b = true → (r = -1 ∨ zval (qM S) r = true) → zV X 5 33 [some (.ref 0), some (.int a), some (.int b), some (.int v), some (.int r)] [] 0 0 σ := by
    intro hz hr
    obtain ⟨x, y, hx, hy_, hxy, rfl, rfl⟩ := pTwo_of hn6 hz
    have hcond : (pTwo S (nI x) (nI y) && (decide (r = -1) || zval (qM S) r)) = true := by rw [hz]; rcases hr with z | z <;> simp [z]
    have hro : r = zo (pOld r) := by unfold pOld; exact if h9 : r = -1 then (by rw [if_pos h9, h9]; rfl) else (by rw [if_neg h9]; obtain ⟨g, hg, rfl⟩ := zval_of (by omega) (hr.resolve_left h9); rw [dN_nI (by omega)]; rfl)
    have hold : ∀ g, pOld r = some g → g < qM S := by intro g hg; unfold pOld at hg; exact if e : r = -1 then (by rw [if_pos e] at hg; cases hg) else (by rw [if_neg e] at hg; cases hg; obtain ⟨g, hg, rfl⟩ := zval_of (by omega) (hr.resolve_left e); rw [dN_nI (by omega)]; exact hg)
    have hB : zB X (some .int) 0 0 "may" σ (fun r' s' => r' = some (.int (if v < 1 ∨ 99 < v then -102 else zb (pLf (qKd S) (qKin S) (qMet S) (qT S) (qF S) (qW S) x y v (pOld r)))) ∧ s' = σ) := by
      have e1 : (sMay S (nI x) (nI y) v r).1 = if v < 1 ∨ 99 < v then -102 else zb (pLf (qKd S) (qKin S) (qMet S) (qT S) (qF S) (qW S) x y v (pOld r)) := by unfold sMay pMay; rw [if_pos hcond, dN_nI (by omega), dN_nI (by omega)]
      rw [e1] at hB; exact hB
    skip
    refine v_iload_n (q := 34) hC dX11_may_33 rfl rfl rfl ?_
    refine v_iconst (q := 35) (v := 1) hC dX11_may_34 rfl (by decide) ?_
    refine v_icmp_lt (q := 38) (tgt := 44) hC dX11_may_35 rfl (by decide) (fun h35 => ?_) (fun h35 => ?_)
    · refine v_bipush (q := 46) (v := -102) hC dX11_may_44 rfl (by decide) ?_
      refine v_ireturn hC hB dX11_may_46 ⟨Nat.le_refl _, Nat.le_refl _⟩ ?_
      rw [if_pos (by first | exact Or.inl h35 | exact Or.inr (Int32.not_le.mp h41))]
      exact ⟨rfl, rfl⟩
    · refine v_iload_n (q := 39) hC dX11_may_38 rfl rfl rfl ?_
      refine v_bipush (q := 41) (v := 99) hC dX11_may_39 rfl (by decide) ?_
      refine v_icmp_le (q := 44) (tgt := 47) hC dX11_may_41 rfl (by decide) (fun h41 => ?_) (fun h41 => ?_)
      · refine v_aload_n (q := 48) hC dX11_may_47 rfl rfl rfl ?_
        refine v_getR (q := 51) (r := 28) hC dX11_may_48 rfl fX11_58 (hL.1 0 (by decide)) (hL.2 0 6 28 rfl) ?_
        refine v_aload_n (q := 52) hC dX11_may_51 rfl rfl rfl ?_
        refine v_getR (q := 55) (r := 8) hC dX11_may_52 rfl fX11_26 (hL.1 0 (by decide)) (hL.2 0 2 8 rfl) ?_
        refine v_iload_n (q := 56) hC dX11_may_55 rfl rfl rfl ?_
        refine v_iload_n (q := 57) hC dX11_may_56 rfl rfl rfl ?_
        refine v_iload_n (q := 58) hC dX11_may_57 rfl rfl rfl ?_
        refine v_iload (q := 60) hC dX11_may_58 rfl rfl ?_
        refine v_callV1 (q := 63) (As := [_, _, _, _, _]) hC dX11_may_60 rfl lX11_157 mX4_isLawful iX4_isLawful eX4_isLawful rfl (hL.1 28 (by decide)) (by rw [hro]; exact ct_X4_isLawful d hLg hd hL hF oL hx hy_ v hold) rfl rfl (by omega) rfl (Nat.le_of_ble_eq_true rfl) ?_
        refine v_if_eq (q := 66) (tgt := 70) hC dX11_may_63 rfl (by decide) (fun h63 => ?_) (fun h63 => ?_)
        · refine v_iconst (q := 71) (v := 0) hC dX11_may_70 rfl (by decide) ?_
          refine v_ireturn hC hB dX11_may_71 ⟨Nat.le_refl _, Nat.le_refl _⟩ ?_
          rw [if_neg (by rintro (z | z); exact h35 z; exact absurd h41 (Int32.not_le.mpr z))]
          first | (rw [zb_ne h63]; exact ⟨rfl, rfl⟩) | (rw [zb_eq0.mp h63]; exact ⟨rfl, rfl⟩)
        · refine v_iconst (q := 67) (v := 1) hC dX11_may_66 rfl (by decide) ?_
          refine v_goto (q := 71) hC dX11_may_67 (by decide) ?_
          refine v_ireturn hC hB dX11_may_71 ⟨Nat.le_refl _, Nat.le_refl _⟩ ?_
          rw [if_neg (by rintro (z | z); exact h35 z; exact absurd h41 (Int32.not_le.mpr z))]
          first | (rw [zb_ne h63]; exact ⟨rfl, rfl⟩) | (rw [zb_eq0.mp h63]; exact ⟨rfl, rfl⟩)
      · refine v_bipush (q := 46) (v := -102) hC dX11_may_44 rfl (by decide) ?_
        refine v_ireturn hC hB dX11_may_46 ⟨Nat.le_refl _, Nat.le_refl _⟩ ?_
        rw [if_pos (by first | exact Or.inl h35 | exact Or.inr (Int32.not_le.mp h41))]
        exact ⟨rfl, rfl⟩
  refine v_aload_n (q := 1) hC dX11_may_0 rfl rfl rfl ?_
  refine v_getR (q := 4) (r := 8) hC dX11_may_1 rfl fX11_26 (hL.1 0 (by decide)) (hL.2 0 2 8 rfl) ?_
  refine v_iload_n (q := 5) hC dX11_may_4 rfl rfl rfl ?_
  refine v_iload_n (q := 6) hC dX11_may_5 rfl rfl rfl ?_
  refine v_callV1 (q := 9) (As := [_, _]) hC dX11_may_6 rfl lX11_112 mX2_areTwo iX2_areTwo eX2_areTwo rfl (hL.1 8 (by decide)) (ct_X2_areTwo (d + 2) hL hF.1 hn6 _ _) rfl rfl (by omega) rfl (Nat.le_of_ble_eq_true rfl) ?_
  refine v_if_eq (q := 12) (tgt := 30) hC dX11_may_9 rfl (by decide) (fun h9 => ?_) (fun h9 => ?_)
  · refine v_bipush (q := 32) (v := -101) hC dX11_may_30 rfl (by decide) ?_
    refine v_ireturn hC hB dX11_may_32 ⟨Nat.le_refl _, Nat.le_refl _⟩ ?_
    have e1 : (sMay S a b v r).1 = -101 := by unfold sMay pMay; exact if_neg (by first | (show ¬ (pTwo S a b && _) = true; unfold pTwo; rw [zb_eq0.mp h9]; simp) | (rw [zb_eq0.mp h27]; simp [h15]))
    rw [e1]
    exact ⟨rfl, rfl⟩
  · refine v_iload (q := 14) hC dX11_may_12 rfl rfl ?_
    refine v_iconst (q := 15) (v := -1) hC dX11_may_14 rfl (by decide) ?_
    refine v_icmp_eq (q := 18) (tgt := 33) hC dX11_may_15 rfl (by decide) (fun h15 => ?_) (fun h15 => ?_)
    · have hz : pTwo S a b = true := zb_ne h9
      first | exact key hz (Or.inl h15) | exact key hz (Or.inr (zb_ne h27))
    · refine v_aload_n (q := 19) hC dX11_may_18 rfl rfl rfl ?_
      refine v_getR (q := 22) (r := 28) hC dX11_may_19 rfl fX11_58 (hL.1 0 (by decide)) (hL.2 0 6 28 rfl) ?_
      refine v_iload (q := 24) hC dX11_may_22 rfl rfl ?_
      refine v_callV1 (q := 27) (As := [_]) hC dX11_may_24 rfl lX11_156 mX4_has iX4_has eX4_has rfl (hL.1 28 (by decide)) (ct_X4_has (d + 3) hLg hd _) rfl rfl (by omega) rfl (Nat.le_of_ble_eq_true rfl) ?_
      refine v_if_ne (q := 30) (tgt := 33) hC dX11_may_27 rfl (by decide) (fun h27 => ?_) (fun h27 => ?_)
      · have hz : pTwo S a b = true := zb_ne h9
        first | exact key hz (Or.inl h15) | exact key hz (Or.inr (zb_ne h27))
      · refine v_bipush (q := 32) (v := -101) hC dX11_may_30 rfl (by decide) ?_
        refine v_ireturn hC hB dX11_may_32 ⟨Nat.le_refl _, Nat.le_refl _⟩ ?_
        have e1 : (sMay S a b v r).1 = -101 := by unfold sMay pMay; exact if_neg (by first | (show ¬ (pTwo S a b && _) = true; unfold pTwo; rw [zb_eq0.mp h9]; simp) | (rw [zb_eq0.mp h27]; simp [h15]))
        rw [e1]
        exact ⟨rfl, rfl⟩

theorem cl_may (d : Nat) {σ : zSt} {S : pS} {B : Nat} (h : zCl σ S) (ok : pOk B S) (a : Int32) (b : Int32) (v : Int32) (r : Int32) : zCt (d + 4) MX11_may [.ref 0, .int a, .int b, .int v, .int r] σ (zQs zCl zFc σ (sMay S a b v r)) := (ce_may d h ok a b v r).qs h (by rfl)

