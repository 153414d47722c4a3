/-! ===== the model: as, may, week, person, letter, blank, thanks, forget, count ===== -/
set_option maxRecDepth 100000 in
set_option maxHeartbeats 4000000 in
theorem md_as (d : Nat) {σ : zSt} {S : pS} {B : Nat} (h : zMd σ S) (ok : pOk B S) (p : Int32) (k : Int32) : zCt (d + 2) MX12_as [.ref 53, .int p, .int k] σ (zQs zMd zFm σ (sAs S p k)) := by
  refine zCt.of (L := [some (.ref 53), some (.int p), some (.int k), none, none]) (by decide) (Nat.le_of_ble_eq_true rfl) rfl (fun X hC hB => ?_)
  have hC : zC X RX12 cX12_as 5 (d + 2) 0 0 := hC
  have hB : zB X (some .int) 0 0 "as" σ _ := hB
  show zV X 5 0 [some (.ref 53), some (.int p), some (.int k), none, none] [] 0 0 σ
  have h0 := h
  obtain ⟨hL, hp, hF, hd, hs, hk, hy, he⟩ := h
  obtain ⟨oB, oq, ow, oqt, ot, okm, omm, oq0, oL, oD, okr, okp, oK, osym, okp6, okd⟩ := ok
  have hn6 := hF.2.1
  have hm12 := hd.2.1
  have hsy : ∀ a b, a < 6 → b < 6 → qKin S a b = qKin S b a := fun a b ha hb => (osym a b ha hb).1
  refine v_aload_n (q := 1) hC dX12_as_0 rfl rfl rfl ?_
  refine v_iload_n (q := 2) hC dX12_as_1 rfl rfl rfl ?_
  refine v_callV1 (q := 5) (As := [_]) hC dX12_as_2 rfl lX12_138 mX12_isPerson iX12_isPerson eX12_isPerson rfl (hL.1 53 (by decide)) (ct_X12_isPerson d hL hF.1 (by omega) p) rfl rfl (by omega) rfl (Nat.le_of_ble_eq_true rfl) ?_
  refine v_if_ne (q := 8) (tgt := 11) hC dX12_as_5 rfl (by decide) (fun h5 => ?_) (fun h5 => ?_)
  · have hz := zb_ne h5
    obtain ⟨p, hpp, rfl⟩ := zval_of (by omega) hz
    refine v_iload_n (q := 12) hC dX12_as_11 rfl rfl rfl ?_
    refine v_i2l (q := 13) hC dX12_as_12 rfl ?_
    refine v_lconst (q := 14) (v := 0) hC dX12_as_13 rfl (by decide) ?_
    refine v_ldc2 (q := 17) hC dX12_as_14 rfl kX12_164 ?_
    refine v_callS1 (q := 20) (As := [_, _, _]) hC dX12_as_17 rfl lX12_70 mX12_in sX12_in (ct_X12_inI (d + 1) k 0 4) rfl rfl (by omega) rfl (Nat.le_of_ble_eq_true rfl) ?_
    refine v_if_ne (q := 23) (tgt := 26) hC dX12_as_20 rfl (by decide) (fun h20 => ?_) (fun h20 => ?_)
    · have hr := of_decide_eq_true (zb_ne h20)
      obtain ⟨k, -, hk4, rfl⟩ := zbw (x := k) 0 4 (by omega) (by omega) (fun z => hr (Or.inl z)) (fun z => hr (Or.inr z))
      obtain ⟨kp4, ekp⟩ := hF.2.2.1 p hpp
      have c0 : nI k = 0 ↔ k = 0 := nI_eq (a := k) (b := 0) (by omega) (by omega)
      have c1 : nI k = nI (qKd S p) ↔ k = qKd S p := nI_eq (by omega) (by omega)
      have c2 : nI k = 3 ↔ k = 3 := nI_eq (a := k) (b := 3) (by omega) (by omega)
      have c3 : nI (qKd S p) = 4 ↔ qKd S p = 4 := nI_eq (a := qKd S p) (b := 4) (by omega) (by omega)
      have eA : sAs S (nI p) (nI k) = (if pIs k (qKd S p) then nI p else -1, S) := by unfold sAs; rw [if_pos hz, if_neg hr, dN_nI (by omega), dN_nI (by omega)]
      have j57 : ∀ y : Int32, zb (pIs k (qKd S p)) = y → zV X 5 57 [some (.ref 53), some (.int (nI p)), some (.int (nI k)), some (.int (nI (qKd S p))), none] [.int y] 0 0 σ := by
        intro y hy
        subst hy
        refine v_istore (q := 59) (L' := [_, _, _, _, _]) hC dX12_as_57 rfl (by decide) rfl rfl ?_
        refine v_iload (q := 61) hC dX12_as_59 rfl rfl ?_
        refine v_if_eq (q := 64) (tgt := 68) hC dX12_as_61 rfl (by decide) (fun h61 => ?_) (fun h61 => ?_)
        · refine v_iconst (q := 69) (v := -1) hC dX12_as_68 rfl (by decide) ?_
          refine v_ireturn hC hB dX12_as_69 ⟨Nat.le_refl _, Nat.le_refl _⟩ ?_
          refine zQs.mk (eA.trans ?_) h0 zFm.rf
          first | rw [if_pos (zb_ne h61)] | rw [if_neg (by rw [zb_eq0.mp h61]; decide)]
        · refine v_iload_n (q := 65) hC dX12_as_64 rfl rfl rfl ?_
          refine v_goto (q := 69) hC dX12_as_65 (by decide) ?_
          refine v_ireturn hC hB dX12_as_69 ⟨Nat.le_refl _, Nat.le_refl _⟩ ?_
          refine zQs.mk (eA.trans ?_) h0 zFm.rf
          first | rw [if_pos (zb_ne h61)] | rw [if_neg (by rw [zb_eq0.mp h61]; decide)]
      refine v_aload_n (q := 27) hC dX12_as_26 rfl rfl rfl ?_
      refine v_getR (q := 30) (r := 59) hC dX12_as_27 rfl fX12_25 (hL.1 53 (by decide)) (hL.2 53 17 59 rfl) ?_
      refine v_iload_n (q := 31) hC dX12_as_30 rfl rfl rfl ?_
      refine v_ialdN (q := 32) (j := p) hC dX12_as_31 rfl (hL.1 59 (by decide)) rfl (by omega) (by decide) ?_
      rw [ekp]
      refine v_istore_n (q := 33) (L' := [_, _, _, _, _]) hC dX12_as_32 rfl rfl (by decide) rfl rfl ?_
      refine v_iload_n (q := 34) hC dX12_as_33 rfl rfl rfl ?_
      refine v_if_eq (q := 37) (tgt := 52) hC dX12_as_34 rfl (by decide) (fun h34 => ?_) (fun h34 => ?_)
      · refine v_iconst (q := 53) (v := 1) hC dX12_as_52 rfl (by decide) ?_
        refine v_goto (q := 57) hC dX12_as_53 (by decide) ?_
        exact j57 _ (by clear hB j57 eA; unfold pIs; simp_all [zb_eq0, zb_eq1])
      · refine v_iload_n (q := 38) hC dX12_as_37 rfl rfl rfl ?_
        refine v_iload_n (q := 39) hC dX12_as_38 rfl rfl rfl ?_
        refine v_icmp_eq (q := 42) (tgt := 52) hC dX12_as_39 rfl (by decide) (fun h39 => ?_) (fun h39 => ?_)
        · refine v_iconst (q := 53) (v := 1) hC dX12_as_52 rfl (by decide) ?_
          refine v_goto (q := 57) hC dX12_as_53 (by decide) ?_
          exact j57 _ (by clear hB j57 eA; unfold pIs; simp_all [zb_eq0, zb_eq1])
        · refine v_iload_n (q := 43) hC dX12_as_42 rfl rfl rfl ?_
          refine v_iconst (q := 44) (v := 3) hC dX12_as_43 rfl (by decide) ?_
          refine v_icmp_ne (q := 47) (tgt := 56) hC dX12_as_44 rfl (by decide) (fun h44 => ?_) (fun h44 => ?_)
          · refine v_iconst (q := 57) (v := 0) hC dX12_as_56 rfl (by decide) ?_
            exact j57 _ (by clear hB j57 eA; unfold pIs; simp_all [zb_eq0, zb_eq1])
          · refine v_iload_n (q := 48) hC dX12_as_47 rfl rfl rfl ?_
            refine v_iconst (q := 49) (v := 4) hC dX12_as_48 rfl (by decide) ?_
            refine v_icmp_ne (q := 52) (tgt := 56) hC dX12_as_49 rfl (by decide) (fun h49 => ?_) (fun h49 => ?_)
            · refine v_iconst (q := 57) (v := 0) hC dX12_as_56 rfl (by decide) ?_
              exact j57 _ (by clear hB j57 eA; unfold pIs; simp_all [zb_eq0, zb_eq1])
            · refine v_iconst (q := 53) (v := 1) hC dX12_as_52 rfl (by decide) ?_
              refine v_goto (q := 57) hC dX12_as_53 (by decide) ?_
              exact j57 _ (by clear hB j57 eA; unfold pIs; simp_all [zb_eq0, zb_eq1])
    · refine v_bipush (q := 25) (v := -102) hC dX12_as_23 rfl (by decide) ?_
      refine v_ireturn hC hB dX12_as_25 ⟨Nat.le_refl _, Nat.le_refl _⟩ ?_
      exact zQs.mk (by unfold sAs; rw [if_pos hz]; exact if_pos (Decidable.not_not.mp (of_decide_eq_false (zb_eq0.mp h20)))) h0 zFm.rf
  · refine v_bipush (q := 10) (v := -101) hC dX12_as_8 rfl (by decide) ?_
    refine v_ireturn hC hB dX12_as_10 ⟨Nat.le_refl _, Nat.le_refl _⟩ ?_
    exact zQs.mk (if_neg (by rw [zb_eq0.mp h5]; decide)) h0 zFm.rf

set_option maxRecDepth 100000 in
set_option maxHeartbeats 4000000 in
theorem md_may (d : Nat) {σ : zSt} {S : pS} {B : Nat} (h : zMd σ S) (ok : pOk B S) (a : Int32) (b : Int32) (v : Int32) (r : Int32) : zCt (d + 4) MX12_may [.ref 53, .int a, .int b, .int v, .int r] σ (zQs zMd zFm σ (sMay S a b v r)) := by
  refine zCt.of (L := [some (.ref 53), some (.int a), some (.int b), some (.int v), some (.int r)]) (by decide) (Nat.le_of_ble_eq_true rfl) rfl (fun X hC hB => ?_)
  have hC : zC X RX12 cX12_may 5 (d + 4) 0 0 := hC
  have hB : zB X (some .int) 0 0 "may" σ _ := hB
  show zV X 5 0 [some (.ref 53), some (.int a), some (.int b), some (.int v), some (.int r)] [] 0 0 σ
  have h0 := h
  obtain ⟨hL, hp, hF, hd, hs, hk, hy, he⟩ := h
  obtain ⟨oB, oq, ow, oqt, ot, okm, omm, oq0, oL, oD, okr, okp, oK, osym, okp6, okd⟩ := ok
  have hn6 := hF.2.1
  have hm12 := hd.2.1
  have hsy : ∀ a b, a < 6 → b < 6 → qKin S a b = qKin S b a := fun a b ha hb => (osym a b ha hb).1
  refine v_aload_n (q := 1) hC dX12_may_0 rfl rfl rfl ?_
  refine v_iload_n (q := 2) hC dX12_may_1 rfl rfl rfl ?_
  refine v_iload_n (q := 3) hC dX12_may_2 rfl rfl rfl ?_
  refine v_iload (q := 5) hC dX12_may_3 rfl rfl ?_
  refine v_callV1 (q := 8) (As := [_, _, _]) hC dX12_may_5 rfl lX12_196 mX12_areNamed iX12_areNamed eX12_areNamed rfl (hL.1 53 (by decide)) (ct_X12_areNamed (d + 0) hL hF hd a b r) rfl rfl (by omega) rfl (Nat.le_of_ble_eq_true rfl) ?_
  refine v_if_ne (q := 11) (tgt := 14) hC dX12_may_8 rfl (by decide) (fun h8 => ?_) (fun h8 => ?_)
  · have hz := zb_ne h8
    have hz2 := hz
    rw [Bool.and_eq_true, Bool.and_eq_true, Bool.and_eq_true] at hz2
    obtain ⟨a, ha, rfl⟩ := zval_of (by omega) hz2.1.1.1
    obtain ⟨b, hb, rfl⟩ := zval_of (by omega) hz2.1.1.2
    have hr : r = -1 ∨ zval (qM S) r = true := by rcases Bool.or_eq_true _ _ ▸ hz2.2 with z | z; exact Or.inl (of_decide_eq_true z); exact Or.inr z
    have hro : r = zo (pOld r) := by unfold pOld; exact if h9 : r = -1 then (by rw [if_pos h9, h9]; rfl) else (by rw [if_neg h9]; obtain ⟨g, hg, rfl⟩ := zval_of (by omega) (hr.resolve_left h9); rw [dN_nI (by omega)]; rfl)
    have hold : ∀ g, pOld r = some g → g < qM S := by intro g hg; unfold pOld at hg; exact if e : r = -1 then (by rw [if_pos e] at hg; cases hg) else (by rw [if_neg e] at hg; cases hg; obtain ⟨g, hg, rfl⟩ := zval_of (by omega) (hr.resolve_left e); rw [dN_nI (by omega)]; exact hg)
    refine v_iload_n (q := 15) hC dX12_may_14 rfl rfl rfl ?_
    refine v_i2l (q := 16) hC dX12_may_15 rfl ?_
    refine v_lconst (q := 17) (v := 1) hC dX12_may_16 rfl (by decide) ?_
    refine v_ldc2 (q := 20) hC dX12_may_17 rfl kX12_199 ?_
    refine v_callS1 (q := 23) (As := [_, _, _]) hC dX12_may_20 rfl lX12_70 mX12_in sX12_in (ct_X12_inI (d + 3) v 1 99) rfl rfl (by omega) rfl (Nat.le_of_ble_eq_true rfl) ?_
    refine v_if_ne (q := 26) (tgt := 29) hC dX12_may_23 rfl (by decide) (fun h23 => ?_) (fun h23 => ?_)
    · refine v_aload_n (q := 30) hC dX12_may_29 rfl rfl rfl ?_
      refine v_iload_n (q := 31) hC dX12_may_30 rfl rfl rfl ?_
      refine v_iload_n (q := 32) hC dX12_may_31 rfl rfl rfl ?_
      refine v_iload_n (q := 33) hC dX12_may_32 rfl rfl rfl ?_
      refine v_iload (q := 35) hC dX12_may_33 rfl rfl ?_
      refine v_callV1 (q := 38) (As := [_, _, _, _]) hC dX12_may_35 rfl lX12_201 mX12_mayDo iX12_mayDo eX12_mayDo rfl (hL.1 53 (by decide)) (by rw [hro]; exact ct_X12_mayDo d hL hF hd oL hs hsy ha hb v hold) rfl rfl (by omega) rfl (Nat.le_of_ble_eq_true rfl) ?_
      refine v_if_eq (q := 41) (tgt := 45) hC dX12_may_38 rfl (by decide) (fun h38 => ?_) (fun h38 => ?_)
      · refine v_iconst (q := 46) (v := 0) hC dX12_may_45 rfl (by decide) ?_
        refine v_ireturn hC hB dX12_may_46 ⟨Nat.le_refl _, Nat.le_refl _⟩ ?_
        have em : pMay S (nI a) (nI b) v r = zb (pLf (qKd S) (qKin S) (qMet S) (qT S) (qF S) (qW S) a b v (pOld r)) := by unfold pMay pTwo; rw [if_pos hz, if_neg (of_decide_eq_true (zb_ne h23)), dN_nI (by omega), dN_nI (by omega)]
        refine zQs.mk ?_ h0 zFm.rf
        unfold sMay
        rw [em]
        first | rw [zb_ne h38, zb_t] | rw [zb_eq0.mp h38, zb_f]
      · refine v_iconst (q := 42) (v := 1) hC dX12_may_41 rfl (by decide) ?_
        refine v_goto (q := 46) hC dX12_may_42 (by decide) ?_
        refine v_ireturn hC hB dX12_may_46 ⟨Nat.le_refl _, Nat.le_refl _⟩ ?_
        have em : pMay S (nI a) (nI b) v r = zb (pLf (qKd S) (qKin S) (qMet S) (qT S) (qF S) (qW S) a b v (pOld r)) := by unfold pMay pTwo; rw [if_pos hz, if_neg (of_decide_eq_true (zb_ne h23)), dN_nI (by omega), dN_nI (by omega)]
        refine zQs.mk ?_ h0 zFm.rf
        unfold sMay
        rw [em]
        first | rw [zb_ne h38, zb_t] | rw [zb_eq0.mp h38, zb_f]
    · refine v_bipush (q := 28) (v := -102) hC dX12_may_26 rfl (by decide) ?_
      refine v_ireturn hC hB dX12_may_28 ⟨Nat.le_refl _, Nat.le_refl _⟩ ?_
      have em : pMay S (nI a) (nI b) v r = -102 := by unfold pMay pTwo; rw [if_pos hz]; exact if_pos (Decidable.not_not.mp (of_decide_eq_false (zb_eq0.mp h23)))
      exact zQs.mk (by unfold sMay; rw [em]) h0 zFm.rf
  · refine v_bipush (q := 13) (v := -101) hC dX12_may_11 rfl (by decide) ?_
    refine v_ireturn hC hB dX12_may_13 ⟨Nat.le_refl _, Nat.le_refl _⟩ ?_
    have em : pMay S a b v r = -101 := if_neg (by unfold pTwo; rw [zb_eq0.mp h8]; decide)
    exact zQs.mk (by unfold sMay; rw [em]) h0 zFm.rf

set_option maxRecDepth 100000 in
set_option maxHeartbeats 4000000 in
theorem md_week (d : Nat) {σ : zSt} {S : pS} {B : Nat} (h : zMd σ S) (ok : pOk B S) : zCt (d + 1) MX12_week [.ref 53] σ (zQs zMd zFm σ (sWeek S)) := by
  refine zCt.of (L := [some (.ref 53)]) (by decide) (Nat.le_of_ble_eq_true rfl) rfl (fun X hC hB => ?_)
  have hC : zC X RX12 cX12_week 1 (d + 1) 0 0 := hC
  have hB : zB X (some .int) 0 0 "week" σ _ := hB
  show zV X 1 0 [some (.ref 53)] [] 0 0 σ
  have h0 := h
  obtain ⟨hL, hp, hF, hd, hs, hk, hy, he⟩ := h
  obtain ⟨oB, oq, ow, oqt, ot, okm, omm, oq0, oL, oD, okr, okp, oK, osym, okp6, okd⟩ := ok
  have hn6 := hF.2.1
  have hm12 := hd.2.1
  have hsy : ∀ a b, a < 6 → b < 6 → qKin S a b = qKin S b a := fun a b ha hb => (osym a b ha hb).1
  have c0 : qT S = 0 ↔ qQ S = 0 := oqt.symm
  refine v_aload_n (q := 1) hC dX12_week_0 rfl rfl rfl ?_
  refine v_callV1 (q := 4) (As := []) hC dX12_week_1 rfl lX12_166 mX12_lacks iX12_lacks eX12_lacks rfl (hL.1 53 (by decide)) (ct_X12_lacks d hL hF) rfl rfl (by omega) rfl (Nat.le_of_ble_eq_true rfl) ?_
  refine v_if_eq (q := 7) (tgt := 10) hC dX12_week_4 rfl (by decide) (fun h4 => ?_) (fun h4 => ?_)
  · refine v_aload_n (q := 11) hC dX12_week_10 rfl rfl rfl ?_
    refine v_dup (q := 12) hC dX12_week_11 rfl rfl ?_
    refine v_getI (q := 15) hC dX12_week_12 rfl fX12_123 (hL.1 53 (by decide)) ?_
    refine v_iconst (q := 16) (v := 1) hC dX12_week_15 rfl (by decide) ?_
    refine v_iadd (q := 17) hC dX12_week_16 rfl ?_
    refine v_putI (q := 20) hC dX12_week_17 rfl fX12_123 (hL.1 53 (by decide)) ?_
    refine v_aload_n (q := 21) hC dX12_week_20 rfl rfl rfl ?_
    refine v_getI (q := 24) hC dX12_week_21 rfl fX12_123 (hL.1 53 (by decide)) ?_
    refine v_ireturn hC hB dX12_week_24 ⟨Nat.le_refl _, Nat.le_refl _⟩ ?_
    rw [hd.2.2.1, zI_eq, nI_1]
    have hS : zSm [] [12] σ (zsI σ 53 12 (nI (qW S + 1))) := zSm.rf.o (by simp)
    exact zQs.mk (S' := (S.1, S.2.1, S.2.2.1, (qM S, qF S, qW S + 1), S.2.2.2.2)) (by unfold sWeek; exact if_neg (fun z => of_decide_eq_false (zb_eq0.mp h4) (c0.mpr z))) ⟨hS.lay hL, hp.sm hS rfl rfl, hF.sm hS rfl rfl, ⟨by rw [zI_ne (by omega)]; exact hd.1, hd.2.1, zI_eq, fun j f hj hf => by rw [zI_ne (by omega)]; exact hd.2.2.2 j f hj hf⟩, hs.sm hS rfl, hk.sm hS rfl, hy.sm hS rfl rfl, he.sm hS rfl rfl⟩ (hS.fm rfl)
  · refine v_bipush (q := 9) (v := -103) hC dX12_week_7 rfl (by decide) ?_
    refine v_ireturn hC hB dX12_week_9 ⟨Nat.le_refl _, Nat.le_refl _⟩ ?_
    exact zQs.mk (by unfold sWeek; exact if_pos (c0.mp (of_decide_eq_true (zb_ne h4)))) h0 zFm.rf

set_option maxRecDepth 100000 in
set_option maxHeartbeats 4000000 in
theorem md_person (d : Nat) {σ : zSt} {S : pS} {B : Nat} (h : zMd σ S) (ok : pOk B S) (k : Int32) : zCt (d + 1) MX12_person [.ref 53, .int k] σ (zQs zMd zFm σ (sPerson S k)) := by
  refine zCt.of (L := [some (.ref 53), some (.int k)]) (by decide) (Nat.le_of_ble_eq_true rfl) rfl (fun X hC hB => ?_)
  have hC : zC X RX12 cX12_person 2 (d + 1) 0 0 := hC
  have hB : zB X (some .int) 0 0 "person" σ _ := hB
  show zV X 2 0 [some (.ref 53), some (.int k)] [] 0 0 σ
  have h0 := h
  obtain ⟨hL, hp, hF, hd, hs, hk, hy, he⟩ := h
  obtain ⟨oB, oq, ow, oqt, ot, okm, omm, oq0, oL, oD, okr, okp, oK, osym, okp6, okd⟩ := ok
  have hn6 := hF.2.1
  have hm12 := hd.2.1
  have hsy : ∀ a b, a < 6 → b < 6 → qKin S a b = qKin S b a := fun a b ha hb => (osym a b ha hb).1
  have c0 : qT S = 0 ↔ qQ S = 0 := oqt.symm
  refine v_iload_n (q := 1) hC dX12_person_0 rfl rfl rfl ?_
  refine v_i2l (q := 2) hC dX12_person_1 rfl ?_
  refine v_lconst (q := 3) (v := 0) hC dX12_person_2 rfl (by decide) ?_
  refine v_ldc2 (q := 6) hC dX12_person_3 rfl kX12_164 ?_
  refine v_callS1 (q := 9) (As := [_, _, _]) hC dX12_person_6 rfl lX12_70 mX12_in sX12_in (ct_X12_inI d k 0 4) rfl rfl (by omega) rfl (Nat.le_of_ble_eq_true rfl) ?_
  refine v_if_ne (q := 12) (tgt := 15) hC dX12_person_9 rfl (by decide) (fun h9 => ?_) (fun h9 => ?_)
  · have hr := of_decide_eq_true (zb_ne h9)
    obtain ⟨k, -, hk4, rfl⟩ := zbw (x := k) 0 4 (by omega) (by omega) (fun z => hr (Or.inl z)) (fun z => hr (Or.inr z))
    refine v_aload_n (q := 16) hC dX12_person_15 rfl rfl rfl ?_
    refine v_callV1 (q := 19) (As := []) hC dX12_person_16 rfl lX12_166 mX12_lacks iX12_lacks eX12_lacks rfl (hL.1 53 (by decide)) (ct_X12_lacks d hL hF) rfl rfl (by omega) rfl (Nat.le_of_ble_eq_true rfl) ?_
    refine v_if_eq (q := 22) (tgt := 25) hC dX12_person_19 rfl (by decide) (fun h19 => ?_) (fun h19 => ?_)
    · refine v_aload_n (q := 26) hC dX12_person_25 rfl rfl rfl ?_
      refine v_getI (q := 29) hC dX12_person_26 rfl fX12_126 (hL.1 53 (by decide)) ?_
      rw [hF.1]
      have c6 : nI (qN S) = 6 ↔ qN S = 6 := nI_eq (a := qN S) (b := 6) (by omega) (by omega)
      refine v_bipush (q := 31) (v := 6) hC dX12_person_29 rfl (by decide) ?_
      refine v_icmp_ne (q := 34) (tgt := 37) hC dX12_person_31 rfl (by decide) (fun h31 => ?_) (fun h31 => ?_)
      · have hne : ¬ qN S = 6 := fun z => h31 (c6.mpr z)
        have hn5 : qN S < 6 := by omega
        refine v_aload_n (q := 38) hC dX12_person_37 rfl rfl rfl ?_
        refine v_getR (q := 41) (r := 59) hC dX12_person_38 rfl fX12_25 (hL.1 53 (by decide)) (hL.2 53 17 59 rfl) ?_
        refine v_aload_n (q := 42) hC dX12_person_41 rfl rfl rfl ?_
        refine v_getI (q := 45) hC dX12_person_42 rfl fX12_126 (hL.1 53 (by decide)) ?_
        rw [hF.1]
        refine v_iload_n (q := 46) hC dX12_person_45 rfl rfl rfl ?_
        refine v_iastN (q := 47) (j := qN S) hC dX12_person_46 rfl (hL.1 59 (by decide)) rfl (by omega) (by decide) ?_
        refine v_aload_n (q := 48) hC dX12_person_47 rfl rfl rfl ?_
        refine v_dup (q := 49) hC dX12_person_48 rfl rfl ?_
        refine v_getI (q := 52) hC dX12_person_49 rfl fX12_126 (hL.1 53 (by decide)) ?_
        refine v_iconst (q := 53) (v := 1) hC dX12_person_52 rfl (by decide) ?_
        refine v_iadd (q := 54) hC dX12_person_53 rfl ?_
        refine v_putI (q := 57) hC dX12_person_54 rfl fX12_126 (hL.1 53 (by decide)) ?_
        refine v_aload_n (q := 58) hC dX12_person_57 rfl rfl rfl ?_
        refine v_getI (q := 61) hC dX12_person_58 rfl fX12_126 (hL.1 53 (by decide)) ?_
        refine v_iconst (q := 62) (v := 1) hC dX12_person_61 rfl (by decide) ?_
        refine v_isub (q := 63) hC dX12_person_62 rfl ?_
        refine v_ireturn hC hB dX12_person_63 ⟨Nat.le_refl _, Nat.le_refl _⟩ ?_
        rw [zI_eq, zI_ne (by omega), hF.1, nI_1, nI_pred]
        have hS : zSm [59] [16] σ (zsI (zsI σ 59 (qN S) (nI k)) 53 16 (nI (qN S + 1))) := (zSm.rf.c (by simp) (by decide)).o (by simp)
        refine zQs.mk (S' := (S.1, S.2.1, (qN S + 1, fun a => if a = qN S then dN (nI k) else qKd S a), S.2.2.2)) (by unfold sPerson; rw [if_neg hr, if_neg (fun z => of_decide_eq_false (zb_eq0.mp h19) (c0.mpr z)), if_neg (by omega)]) ⟨hS.lay hL, hp.sm hS rfl rfl, ⟨zI_eq, by show qN S + 1 ≤ 6; omega, fun a ha => ?_, fun a ha => by rw [zI_ne (by omega), zI_ne (by omega), zI_ne (by omega), zI_ne (by omega)]; exact hF.2.2.2.1 a ha, by rw [zI_ne (by omega), zI_ne (by omega)]; exact hF.2.2.2.2.1, hF.2.2.2.2.2⟩, hd.sm hS rfl rfl, hs.sm hS rfl, hk.sm hS rfl, hy.sm hS rfl rfl, he.sm hS rfl rfl⟩ (hS.fm rfl)
        have ha : a < qN S + 1 := ha
        rw [zI_ne (by omega), zI_sI]
        show (if a = qN S then dN (nI k) else qKd S a) ≤ 4 ∧ _ = nI (if a = qN S then dN (nI k) else qKd S a)
        by_cases e : a = qN S
        · rw [if_pos e, if_pos ⟨rfl, e⟩, dN_nI (by omega)]; exact ⟨hk4, rfl⟩
        · rw [if_neg e, if_neg (fun z => e z.2)]; exact hF.2.2.1 a (by omega)
      · refine v_bipush (q := 36) (v := -104) hC dX12_person_34 rfl (by decide) ?_
        refine v_ireturn hC hB dX12_person_36 ⟨Nat.le_refl _, Nat.le_refl _⟩ ?_
        exact zQs.mk (by unfold sPerson; rw [if_neg hr, if_neg (fun z => of_decide_eq_false (zb_eq0.mp h19) (c0.mpr z))]; exact if_pos (c6.mp h31)) h0 zFm.rf
    · refine v_bipush (q := 24) (v := -103) hC dX12_person_22 rfl (by decide) ?_
      refine v_ireturn hC hB dX12_person_24 ⟨Nat.le_refl _, Nat.le_refl _⟩ ?_
      exact zQs.mk (by unfold sPerson; rw [if_neg hr]; exact if_pos (c0.mp (of_decide_eq_true (zb_ne h19)))) h0 zFm.rf
  · refine v_bipush (q := 14) (v := -102) hC dX12_person_12 rfl (by decide) ?_
    refine v_ireturn hC hB dX12_person_14 ⟨Nat.le_refl _, Nat.le_refl _⟩ ?_
    exact zQs.mk (by unfold sPerson; exact if_pos (Decidable.not_not.mp (of_decide_eq_false (zb_eq0.mp h9)))) h0 zFm.rf

set_option maxRecDepth 100000 in
set_option maxHeartbeats 4000000 in
theorem md_letter (d : Nat) {σ : zSt} {S : pS} {B : Nat} (h : zMd σ S) (ok : pOk B S) (c : Int32) : zCt (d + 1) MX12_letter [.ref 53, .int c] σ (zQs zMd zFm σ (sLetter S c)) := by
  refine zCt.of (L := [some (.ref 53), some (.int c)]) (by decide) (Nat.le_of_ble_eq_true rfl) rfl (fun X hC hB => ?_)
  have hC : zC X RX12 cX12_letter 2 (d + 1) 0 0 := hC
  have hB : zB X (some .int) 0 0 "letter" σ _ := hB
  show zV X 2 0 [some (.ref 53), some (.int c)] [] 0 0 σ
  have h0 := h
  obtain ⟨hL, hp, hF, hd, hs, hk, hy, he⟩ := h
  obtain ⟨oB, oq, ow, oqt, ot, okm, omm, oq0, oL, oD, okr, okp, oK, osym, okp6, okd⟩ := ok
  have hn6 := hF.2.1
  have hm12 := hd.2.1
  have hsy : ∀ a b, a < 6 → b < 6 → qKin S a b = qKin S b a := fun a b ha hb => (osym a b ha hb).1
  have hpl := hp.2.1
  have c54 : nI (qPl S) = 54 ↔ qPl S = 54 := nI_eq (a := qPl S) (b := 54) (by omega) (by omega)
  refine v_iload_n (q := 1) hC dX12_letter_0 rfl rfl rfl ?_
  refine v_i2l (q := 2) hC dX12_letter_1 rfl ?_
  refine v_lconst (q := 3) (v := 1) hC dX12_letter_2 rfl (by decide) ?_
  refine v_ldc2 (q := 6) hC dX12_letter_3 rfl kX12_68 ?_
  refine v_callS1 (q := 9) (As := [_, _, _]) hC dX12_letter_6 rfl lX12_70 mX12_in sX12_in (ct_X12_inI d c 1 126) rfl rfl (by omega) rfl (Nat.le_of_ble_eq_true rfl) ?_
  refine v_if_ne (q := 12) (tgt := 15) hC dX12_letter_9 rfl (by decide) (fun h9 => ?_) (fun h9 => ?_)
  · have hr := of_decide_eq_true (zb_ne h9)
    refine v_aload_n (q := 16) hC dX12_letter_15 rfl rfl rfl ?_
    refine v_getI (q := 19) hC dX12_letter_16 rfl fX12_74 (hL.1 53 (by decide)) ?_
    rw [hp.1]
    refine v_bipush (q := 21) (v := 54) hC dX12_letter_19 rfl (by decide) ?_
    refine v_icmp_ne (q := 24) (tgt := 27) hC dX12_letter_21 rfl (by decide) (fun h21 => ?_) (fun h21 => ?_)
    · have hne : ¬ qPl S = 54 := fun z => h21 (c54.mpr z)
      refine v_aload_n (q := 28) hC dX12_letter_27 rfl rfl rfl ?_
      refine v_getR (q := 31) (r := 54) hC dX12_letter_28 rfl fX12_7 (hL.1 53 (by decide)) (hL.2 53 0 54 rfl) ?_
      refine v_aload_n (q := 32) hC dX12_letter_31 rfl rfl rfl ?_
      refine v_getI (q := 35) hC dX12_letter_32 rfl fX12_74 (hL.1 53 (by decide)) ?_
      rw [hp.1]
      refine v_iload_n (q := 36) hC dX12_letter_35 rfl rfl rfl ?_
      refine v_iastN (q := 37) (j := qPl S) hC dX12_letter_36 rfl (hL.1 54 (by decide)) rfl (by omega) (by decide) ?_
      refine v_aload_n (q := 38) hC dX12_letter_37 rfl rfl rfl ?_
      refine v_dup (q := 39) hC dX12_letter_38 rfl rfl ?_
      refine v_getI (q := 42) hC dX12_letter_39 rfl fX12_74 (hL.1 53 (by decide)) ?_
      refine v_iconst (q := 43) (v := 1) hC dX12_letter_42 rfl (by decide) ?_
      refine v_iadd (q := 44) hC dX12_letter_43 rfl ?_
      refine v_putI (q := 47) hC dX12_letter_44 rfl fX12_74 (hL.1 53 (by decide)) ?_
      refine v_aload_n (q := 48) hC dX12_letter_47 rfl rfl rfl ?_
      refine v_getI (q := 51) hC dX12_letter_48 rfl fX12_74 (hL.1 53 (by decide)) ?_
      refine v_ireturn hC hB dX12_letter_51 ⟨Nat.le_refl _, Nat.le_refl _⟩ ?_
      rw [zI_eq, zI_ne (by omega), hp.1, nI_1]
      have hS : zSm [54] [1] σ (zsI (zsI σ 54 (qPl S) c) 53 1 (nI (qPl S + 1))) := (zSm.rf.c (by simp) (by decide)).o (by simp)
      refine zQs.mk (S' := ((qPl S + 1, zup (qPc S) (qPl S) c), S.2)) (by unfold sLetter; rw [if_neg hr, if_neg hne]) ⟨hS.lay hL, ⟨zI_eq, by show qPl S + 1 ≤ 54; omega, fun i hi => ?_⟩, hF.sm hS rfl rfl, hd.sm hS rfl rfl, hs.sm hS rfl, hk.sm hS rfl, hy.sm hS rfl rfl, he.sm hS rfl rfl⟩ (hS.fm rfl)
      have hi : i < qPl S + 1 := hi
      show _ = zup (qPc S) (qPl S) c i
      unfold zup
      rw [zI_ne (by omega), zI_sI]
      by_cases e : i = qPl S
      · rw [if_pos ⟨rfl, e⟩, if_pos e]
      · rw [if_neg (fun z => e z.2), if_neg e]; exact hp.2.2 i (by omega)
    · refine v_bipush (q := 26) (v := -104) hC dX12_letter_24 rfl (by decide) ?_
      refine v_ireturn hC hB dX12_letter_26 ⟨Nat.le_refl _, Nat.le_refl _⟩ ?_
      exact zQs.mk (by unfold sLetter; rw [if_neg hr]; exact if_pos (c54.mp h21)) h0 zFm.rf
  · refine v_bipush (q := 14) (v := -102) hC dX12_letter_12 rfl (by decide) ?_
    refine v_ireturn hC hB dX12_letter_14 ⟨Nat.le_refl _, Nat.le_refl _⟩ ?_
    exact zQs.mk (by unfold sLetter; exact if_pos (Decidable.not_not.mp (of_decide_eq_false (zb_eq0.mp h9)))) h0 zFm.rf

set_option maxRecDepth 100000 in
set_option maxHeartbeats 4000000 in
theorem md_blank (d : Nat) {σ : zSt} {S : pS} {B : Nat} (h : zMd σ S) (ok : pOk B S) : zCt (d + 0) MX12_blank [.ref 53] σ (zQs zMd zFm σ (sBlank S)) := by
  refine zCt.of (L := [some (.ref 53), none]) (by decide) (Nat.le_of_ble_eq_true rfl) rfl (fun X hC hB => ?_)
  have hC : zC X RX12 cX12_blank 2 (d + 0) 0 0 := hC
  have hB : zB X (some .int) 0 0 "blank" σ _ := hB
  show zV X 2 0 [some (.ref 53), none] [] 0 0 σ
  have h0 := h
  obtain ⟨hL, hp, hF, hd, hs, hk, hy, he⟩ := h
  obtain ⟨oB, oq, ow, oqt, ot, okm, omm, oq0, oL, oD, okr, okp, oK, osym, okp6, okd⟩ := ok
  have hn6 := hF.2.1
  have hm12 := hd.2.1
  have hsy : ∀ a b, a < 6 → b < 6 → qKin S a b = qKin S b a := fun a b ha hb => (osym a b ha hb).1
  refine v_aload_n (q := 1) hC dX12_blank_0 rfl rfl rfl ?_
  refine v_getI (q := 4) hC dX12_blank_1 rfl fX12_74 (hL.1 53 (by decide)) ?_
  rw [hp.1]
  refine v_istore_n (q := 5) (L' := [_, _]) hC dX12_blank_4 rfl rfl (by decide) rfl rfl ?_
  refine v_aload_n (q := 6) hC dX12_blank_5 rfl rfl rfl ?_
  refine v_iconst (q := 7) (v := 0) hC dX12_blank_6 rfl (by decide) ?_
  refine v_putI (q := 10) hC dX12_blank_7 rfl fX12_74 (hL.1 53 (by decide)) ?_
  refine v_iload_n (q := 11) hC dX12_blank_10 rfl rfl rfl ?_
  refine v_ireturn hC hB dX12_blank_11 ⟨Nat.le_refl _, Nat.le_refl _⟩ ?_
  have hS : zSm [] [1] σ (zsI σ 53 1 0) := zSm.rf.o (by simp)
  exact zQs.mk (S' := ((0, qPc S), S.2)) rfl ⟨hS.lay hL, ⟨zI_eq, Nat.zero_le _, fun i hi => absurd hi (Nat.not_lt_zero i)⟩, hF.sm hS rfl rfl, hd.sm hS rfl rfl, hs.sm hS rfl, hk.sm hS rfl, hy.sm hS rfl rfl, he.sm hS rfl rfl⟩ (hS.fm rfl)

set_option maxRecDepth 100000 in
set_option maxHeartbeats 4000000 in
theorem md_forget (d : Nat) {σ : zSt} {S : pS} {B : Nat} (h : zMd σ S) (ok : pOk B S) : zCt (d + 0) MX12_forget [.ref 53] σ (zQs zMd zFm σ (sForget S)) := by
  refine zCt.of (L := [some (.ref 53), none]) (by decide) (Nat.le_of_ble_eq_true rfl) rfl (fun X hC hB => ?_)
  have hC : zC X RX12 cX12_forget 2 (d + 0) 0 0 := hC
  have hB : zB X (some .int) 0 0 "forget" σ _ := hB
  show zV X 2 0 [some (.ref 53), none] [] 0 0 σ
  have h0 := h
  obtain ⟨hL, hp, hF, hd, hs, hk, hy, he⟩ := h
  obtain ⟨oB, oq, ow, oqt, ot, okm, omm, oq0, oL, oD, okr, okp, oK, osym, okp6, okd⟩ := ok
  have hn6 := hF.2.1
  have hm12 := hd.2.1
  have hsy : ∀ a b, a < 6 → b < 6 → qKin S a b = qKin S b a := fun a b ha hb => (osym a b ha hb).1
  refine v_aload_n (q := 1) hC dX12_forget_0 rfl rfl rfl ?_
  refine v_getI (q := 4) hC dX12_forget_1 rfl fX12_132 (hL.1 53 (by decide)) ?_
  rw [hy.1]
  refine v_istore_n (q := 5) (L' := [_, _]) hC dX12_forget_4 rfl rfl (by decide) rfl rfl ?_
  refine v_aload_n (q := 6) hC dX12_forget_5 rfl rfl rfl ?_
  refine v_iconst (q := 7) (v := 0) hC dX12_forget_6 rfl (by decide) ?_
  refine v_putI (q := 10) hC dX12_forget_7 rfl fX12_132 (hL.1 53 (by decide)) ?_
  refine v_iload_n (q := 11) hC dX12_forget_10 rfl rfl rfl ?_
  refine v_ireturn hC hB dX12_forget_11 ⟨Nat.le_refl _, Nat.le_refl _⟩ ?_
  have hS : zSm [] [28] σ (zsI σ 53 28 0) := zSm.rf.o (by simp)
  exact zQs.mk (S' := (S.1, S.2.1, S.2.2.1, S.2.2.2.1, (0, qDw S), S.2.2.2.2.2)) rfl ⟨hS.lay hL, hp.sm hS rfl rfl, hF.sm hS rfl rfl, hd.sm hS rfl rfl, hs.sm hS rfl, hk.sm hS rfl, ⟨zI_eq, Nat.zero_le _, fun i hi => absurd hi (Nat.not_lt_zero i)⟩, he.sm hS rfl rfl⟩ (hS.fm rfl)

set_option maxRecDepth 100000 in
set_option maxHeartbeats 4000000 in
theorem md_thanks (d : Nat) {σ : zSt} {S : pS} {B : Nat} (h : zMd σ S) (ok : pOk B S) (p : Int32) : zCt (d + 2) MX12_thanks [.ref 53, .int p] σ (zQs zMd zFm σ (sThanks S p)) := by
  refine zCt.of (L := [some (.ref 53), some (.int p)]) (by decide) (Nat.le_of_ble_eq_true rfl) rfl (fun X hC hB => ?_)
  have hC : zC X RX12 cX12_thanks 2 (d + 2) 0 0 := hC
  have hB : zB X (some .int) 0 0 "thanks" σ _ := hB
  show zV X 2 0 [some (.ref 53), some (.int p)] [] 0 0 σ
  have h0 := h
  obtain ⟨hL, hp, hF, hd, hs, hk, hy, he⟩ := h
  obtain ⟨oB, oq, ow, oqt, ot, okm, omm, oq0, oL, oD, okr, okp, oK, osym, okp6, okd⟩ := ok
  have hn6 := hF.2.1
  have hm12 := hd.2.1
  have hsy : ∀ a b, a < 6 → b < 6 → qKin S a b = qKin S b a := fun a b ha hb => (osym a b ha hb).1
  have hdl := hy.2.1
  have c7 : nI (qDl S) = 7 ↔ qDl S = 7 := nI_eq (a := qDl S) (b := 7) (by omega) (by omega)
  refine v_iload_n (q := 1) hC dX12_thanks_0 rfl rfl rfl ?_
  refine v_iconst (q := 2) (v := -1) hC dX12_thanks_1 rfl (by decide) ?_
  refine v_icmp_eq (q := 5) (tgt := 16) hC dX12_thanks_2 rfl (by decide) (fun h2 => ?_) (fun h2 => ?_)
  · have hok7 : p = -1 ∨ zval (qN S) p = true := by first | exact Or.inl h2 | exact Or.inr (zb_ne h10)
    refine v_aload_n (q := 17) hC dX12_thanks_16 rfl rfl rfl ?_
    refine v_getI (q := 20) hC dX12_thanks_17 rfl fX12_132 (hL.1 53 (by decide)) ?_
    rw [hy.1]
    refine v_bipush (q := 22) (v := 7) hC dX12_thanks_20 rfl (by decide) ?_
    refine v_icmp_ne (q := 25) (tgt := 28) hC dX12_thanks_22 rfl (by decide) (fun h22 => ?_) (fun h22 => ?_)
    · have hne : ¬ qDl S = 7 := fun z => h22 (c7.mpr z)
      refine v_aload_n (q := 29) hC dX12_thanks_28 rfl rfl rfl ?_
      refine v_getR (q := 32) (r := 65) hC dX12_thanks_29 rfl fX12_43 (hL.1 53 (by decide)) (hL.2 53 29 65 rfl) ?_
      refine v_aload_n (q := 33) hC dX12_thanks_32 rfl rfl rfl ?_
      refine v_getI (q := 36) hC dX12_thanks_33 rfl fX12_132 (hL.1 53 (by decide)) ?_
      rw [hy.1]
      refine v_iload_n (q := 37) hC dX12_thanks_36 rfl rfl rfl ?_
      refine v_iastN (q := 38) (j := qDl S) hC dX12_thanks_37 rfl (hL.1 65 (by decide)) rfl (by omega) (by decide) ?_
      refine v_aload_n (q := 39) hC dX12_thanks_38 rfl rfl rfl ?_
      refine v_dup (q := 40) hC dX12_thanks_39 rfl rfl ?_
      refine v_getI (q := 43) hC dX12_thanks_40 rfl fX12_132 (hL.1 53 (by decide)) ?_
      refine v_iconst (q := 44) (v := 1) hC dX12_thanks_43 rfl (by decide) ?_
      refine v_iadd (q := 45) hC dX12_thanks_44 rfl ?_
      refine v_putI (q := 48) hC dX12_thanks_45 rfl fX12_132 (hL.1 53 (by decide)) ?_
      refine v_aload_n (q := 49) hC dX12_thanks_48 rfl rfl rfl ?_
      refine v_getI (q := 52) hC dX12_thanks_49 rfl fX12_132 (hL.1 53 (by decide)) ?_
      refine v_ireturn hC hB dX12_thanks_52 ⟨Nat.le_refl _, Nat.le_refl _⟩ ?_
      rw [zI_eq, zI_ne (by omega), hy.1, nI_1]
      have hS : zSm [65] [28] σ (zsI (zsI σ 65 (qDl S) p) 53 28 (nI (qDl S + 1))) := (zSm.rf.c (by simp) (by decide)).o (by simp)
      refine zQs.mk (S' := (S.1, S.2.1, S.2.2.1, S.2.2.2.1, (qDl S + 1, zup (qDw S) (qDl S) p), S.2.2.2.2.2)) (by unfold sThanks; rw [if_pos hok7, if_neg hne]) ⟨hS.lay hL, hp.sm hS rfl rfl, hF.sm hS rfl rfl, hd.sm hS rfl rfl, hs.sm hS rfl, hk.sm hS rfl, ⟨zI_eq, by show qDl S + 1 ≤ 7; omega, fun i hi => ?_⟩, he.sm hS rfl rfl⟩ (hS.fm rfl)
      have hi : i < qDl S + 1 := hi
      show _ = zup (qDw S) (qDl S) p i
      unfold zup
      rw [zI_ne (by omega), zI_sI]
      by_cases e : i = qDl S
      · rw [if_pos ⟨rfl, e⟩, if_pos e]
      · rw [if_neg (fun z => e z.2), if_neg e]; exact hy.2.2 i (by omega)
    · refine v_bipush (q := 27) (v := -104) hC dX12_thanks_25 rfl (by decide) ?_
      refine v_ireturn hC hB dX12_thanks_27 ⟨Nat.le_refl _, Nat.le_refl _⟩ ?_
      exact zQs.mk (by unfold sThanks; rw [if_pos hok7]; exact if_pos (c7.mp h22)) h0 zFm.rf
  · refine v_aload_n (q := 6) hC dX12_thanks_5 rfl rfl rfl ?_
    refine v_iload_n (q := 7) hC dX12_thanks_6 rfl rfl rfl ?_
    refine v_callV1 (q := 10) (As := [_]) hC dX12_thanks_7 rfl lX12_138 mX12_isPerson iX12_isPerson eX12_isPerson rfl (hL.1 53 (by decide)) (ct_X12_isPerson d hL hF.1 (by omega) p) rfl rfl (by omega) rfl (Nat.le_of_ble_eq_true rfl) ?_
    refine v_if_ne (q := 13) (tgt := 16) hC dX12_thanks_10 rfl (by decide) (fun h10 => ?_) (fun h10 => ?_)
    · have hok7 : p = -1 ∨ zval (qN S) p = true := by first | exact Or.inl h2 | exact Or.inr (zb_ne h10)
      refine v_aload_n (q := 17) hC dX12_thanks_16 rfl rfl rfl ?_
      refine v_getI (q := 20) hC dX12_thanks_17 rfl fX12_132 (hL.1 53 (by decide)) ?_
      rw [hy.1]
      refine v_bipush (q := 22) (v := 7) hC dX12_thanks_20 rfl (by decide) ?_
      refine v_icmp_ne (q := 25) (tgt := 28) hC dX12_thanks_22 rfl (by decide) (fun h22 => ?_) (fun h22 => ?_)
      · have hne : ¬ qDl S = 7 := fun z => h22 (c7.mpr z)
        refine v_aload_n (q := 29) hC dX12_thanks_28 rfl rfl rfl ?_
        refine v_getR (q := 32) (r := 65) hC dX12_thanks_29 rfl fX12_43 (hL.1 53 (by decide)) (hL.2 53 29 65 rfl) ?_
        refine v_aload_n (q := 33) hC dX12_thanks_32 rfl rfl rfl ?_
        refine v_getI (q := 36) hC dX12_thanks_33 rfl fX12_132 (hL.1 53 (by decide)) ?_
        rw [hy.1]
        refine v_iload_n (q := 37) hC dX12_thanks_36 rfl rfl rfl ?_
        refine v_iastN (q := 38) (j := qDl S) hC dX12_thanks_37 rfl (hL.1 65 (by decide)) rfl (by omega) (by decide) ?_
        refine v_aload_n (q := 39) hC dX12_thanks_38 rfl rfl rfl ?_
        refine v_dup (q := 40) hC dX12_thanks_39 rfl rfl ?_
        refine v_getI (q := 43) hC dX12_thanks_40 rfl fX12_132 (hL.1 53 (by decide)) ?_
        refine v_iconst (q := 44) (v := 1) hC dX12_thanks_43 rfl (by decide) ?_
        refine v_iadd (q := 45) hC dX12_thanks_44 rfl ?_
        refine v_putI (q := 48) hC dX12_thanks_45 rfl fX12_132 (hL.1 53 (by decide)) ?_
        refine v_aload_n (q := 49) hC dX12_thanks_48 rfl rfl rfl ?_
        refine v_getI (q := 52) hC dX12_thanks_49 rfl fX12_132 (hL.1 53 (by decide)) ?_
        refine v_ireturn hC hB dX12_thanks_52 ⟨Nat.le_refl _, Nat.le_refl _⟩ ?_
        rw [zI_eq, zI_ne (by omega), hy.1, nI_1]
        have hS : zSm [65] [28] σ (zsI (zsI σ 65 (qDl S) p) 53 28 (nI (qDl S + 1))) := (zSm.rf.c (by simp) (by decide)).o (by simp)
        refine zQs.mk (S' := (S.1, S.2.1, S.2.2.1, S.2.2.2.1, (qDl S + 1, zup (qDw S) (qDl S) p), S.2.2.2.2.2)) (by unfold sThanks; rw [if_pos hok7, if_neg hne]) ⟨hS.lay hL, hp.sm hS rfl rfl, hF.sm hS rfl rfl, hd.sm hS rfl rfl, hs.sm hS rfl, hk.sm hS rfl, ⟨zI_eq, by show qDl S + 1 ≤ 7; omega, fun i hi => ?_⟩, he.sm hS rfl rfl⟩ (hS.fm rfl)
        have hi : i < qDl S + 1 := hi
        show _ = zup (qDw S) (qDl S) p i
        unfold zup
        rw [zI_ne (by omega), zI_sI]
        by_cases e : i = qDl S
        · rw [if_pos ⟨rfl, e⟩, if_pos e]
        · rw [if_neg (fun z => e z.2), if_neg e]; exact hy.2.2 i (by omega)
      · refine v_bipush (q := 27) (v := -104) hC dX12_thanks_25 rfl (by decide) ?_
        refine v_ireturn hC hB dX12_thanks_27 ⟨Nat.le_refl _, Nat.le_refl _⟩ ?_
        exact zQs.mk (by unfold sThanks; rw [if_pos hok7]; exact if_pos (c7.mp h22)) h0 zFm.rf
    · refine v_bipush (q := 15) (v := -101) hC dX12_thanks_13 rfl (by decide) ?_
      refine v_ireturn hC hB dX12_thanks_15 ⟨Nat.le_refl _, Nat.le_refl _⟩ ?_
      exact zQs.mk (by unfold sThanks; exact if_neg (by rintro (z | z); exact h2 z; rw [z] at h10; exact absurd h10 (by decide))) h0 zFm.rf

set_option maxRecDepth 100000 in
set_option maxHeartbeats 4000000 in
theorem ct_X12_countOf (d : Nat) {σ : zSt} {S : pS} {B : Nat} (h : zMd σ S) (ok : pOk B S) (k : Int32) : zEv (d + 2) MX12_countOf [.ref 53, .int k] σ (some (.int (sCount S k).1)) σ := by
  refine zCt.of (L := [some (.ref 53), some (.int k)]) (by decide) (Nat.le_of_ble_eq_true rfl) rfl (fun X hC hB => ?_)
  have hC : zC X RX12 cX12_countOf 2 (d + 2) 0 0 := hC
  have hB : zB X (some .int) 0 0 "countOf" σ _ := hB
  show zV X 2 0 [some (.ref 53), some (.int k)] [] 0 0 σ
  have h0 := h
  obtain ⟨hL, hp, hF, hd, hs, hk, hy, he⟩ := h
  obtain ⟨oB, oq, ow, oqt, ot, okm, omm, oq0, oL, oD, okr, okp, oK, osym, okp6, okd⟩ := ok
  have hn6 := hF.2.1
  have hm12 := hd.2.1
  have hsy : ∀ a b, a < 6 → b < 6 → qKin S a b = qKin S b a := fun a b ha hb => (osym a b ha hb).1
  refine v_iload_n (q := 1) hC dX12_countOf_0 rfl rfl rfl ?_
  by_cases h1_0 : k = 0
  · refine v_tableIn (q := 60) (off := 59) hC dX12_countOf_1 (by rw [h1_0]; decide) (by rw [h1_0]; decide) (by rw [h1_0]; rfl) (by decide) ?_
    refine v_aload_n (q := 61) hC dX12_countOf_60 rfl rfl rfl ?_
    refine v_getI (q := 64) hC dX12_countOf_61 rfl fX12_120 (hL.1 53 (by decide)) ?_
    refine v_ireturn hC hB dX12_countOf_64 ⟨Nat.le_refl _, Nat.le_refl _⟩ ?_
    have e1 : (sCount S k).1 = pCou S 0 := by unfold sCount; rw [if_neg (by rw [h1_0]; decide), h1_0]; rfl
    rw [e1]
    rw [hk.2.1]
    exact ⟨rfl, rfl⟩
  by_cases h1_1 : k = 1
  · refine v_tableIn (q := 65) (off := 64) hC dX12_countOf_1 (by rw [h1_1]; decide) (by rw [h1_1]; decide) (by rw [h1_1]; rfl) (by decide) ?_
    refine v_aload_n (q := 66) hC dX12_countOf_65 rfl rfl rfl ?_
    refine v_getI (q := 69) hC dX12_countOf_66 rfl fX12_117 (hL.1 53 (by decide)) ?_
    refine v_ireturn hC hB dX12_countOf_69 ⟨Nat.le_refl _, Nat.le_refl _⟩ ?_
    have e1 : (sCount S k).1 = pCou S 1 := by unfold sCount; rw [if_neg (by rw [h1_1]; decide), h1_1]; rfl
    rw [e1]
    rw [hk.1]
    exact ⟨rfl, rfl⟩
  by_cases h1_2 : k = 2
  · refine v_tableIn (q := 70) (off := 69) hC dX12_countOf_1 (by rw [h1_2]; decide) (by rw [h1_2]; decide) (by rw [h1_2]; rfl) (by decide) ?_
    refine v_aload_n (q := 71) hC dX12_countOf_70 rfl rfl rfl ?_
    refine v_getI (q := 74) hC dX12_countOf_71 rfl fX12_114 (hL.1 53 (by decide)) ?_
    refine v_ireturn hC hB dX12_countOf_74 ⟨Nat.le_refl _, Nat.le_refl _⟩ ?_
    have e1 : (sCount S k).1 = pCou S 2 := by unfold sCount; rw [if_neg (by rw [h1_2]; decide), h1_2]; rfl
    rw [e1]
    rw [hF.2.2.2.2.1]
    exact ⟨rfl, rfl⟩
  by_cases h1_3 : k = 3
  · refine v_tableIn (q := 75) (off := 74) hC dX12_countOf_1 (by rw [h1_3]; decide) (by rw [h1_3]; decide) (by rw [h1_3]; rfl) (by decide) ?_
    refine v_aload_n (q := 76) hC dX12_countOf_75 rfl rfl rfl ?_
    refine v_getI (q := 79) hC dX12_countOf_76 rfl fX12_126 (hL.1 53 (by decide)) ?_
    refine v_ireturn hC hB dX12_countOf_79 ⟨Nat.le_refl _, Nat.le_refl _⟩ ?_
    have e1 : (sCount S k).1 = pCou S 3 := by unfold sCount; rw [if_neg (by rw [h1_3]; decide), h1_3]; rfl
    rw [e1]
    rw [hF.1]
    exact ⟨rfl, rfl⟩
  by_cases h1_4 : k = 4
  · refine v_tableIn (q := 80) (off := 79) hC dX12_countOf_1 (by rw [h1_4]; decide) (by rw [h1_4]; decide) (by rw [h1_4]; rfl) (by decide) ?_
    refine v_aload_n (q := 81) hC dX12_countOf_80 rfl rfl rfl ?_
    refine v_getI (q := 84) hC dX12_countOf_81 rfl fX12_129 (hL.1 53 (by decide)) ?_
    refine v_ireturn hC hB dX12_countOf_84 ⟨Nat.le_refl _, Nat.le_refl _⟩ ?_
    have e1 : (sCount S k).1 = pCou S 4 := by unfold sCount; rw [if_neg (by rw [h1_4]; decide), h1_4]; rfl
    rw [e1]
    rw [hd.1]
    exact ⟨rfl, rfl⟩
  by_cases h1_5 : k = 5
  · refine v_tableIn (q := 85) (off := 84) hC dX12_countOf_1 (by rw [h1_5]; decide) (by rw [h1_5]; decide) (by rw [h1_5]; rfl) (by decide) ?_
    refine v_aload_n (q := 86) hC dX12_countOf_85 rfl rfl rfl ?_
    refine v_callV1 (q := 89) (As := []) hC dX12_countOf_86 rfl lX12_271 mX12_owedMany iX12_owedMany eX12_owedMany rfl (hL.1 53 (by decide)) (ct_X12_owedMany d hL hd) rfl rfl (by omega) rfl (Nat.le_of_ble_eq_true rfl) ?_
    refine v_ireturn hC hB dX12_countOf_89 ⟨Nat.le_refl _, Nat.le_refl _⟩ ?_
    have e1 : (sCount S k).1 = pCou S 5 := by unfold sCount; rw [if_neg (by rw [h1_5]; decide), h1_5]; rfl
    rw [e1]
    exact ⟨rfl, rfl⟩
  by_cases h1_6 : k = 6
  · refine v_tableIn (q := 90) (off := 89) hC dX12_countOf_1 (by rw [h1_6]; decide) (by rw [h1_6]; decide) (by rw [h1_6]; rfl) (by decide) ?_
    refine v_aload_n (q := 91) hC dX12_countOf_90 rfl rfl rfl ?_
    refine v_getI (q := 94) hC dX12_countOf_91 rfl fX12_123 (hL.1 53 (by decide)) ?_
    refine v_ireturn hC hB dX12_countOf_94 ⟨Nat.le_refl _, Nat.le_refl _⟩ ?_
    have e1 : (sCount S k).1 = pCou S 6 := by unfold sCount; rw [if_neg (by rw [h1_6]; decide), h1_6]; rfl
    rw [e1]
    rw [hd.2.2.1]
    exact ⟨rfl, rfl⟩
  by_cases h1_7 : k = 7
  · refine v_tableIn (q := 95) (off := 94) hC dX12_countOf_1 (by rw [h1_7]; decide) (by rw [h1_7]; decide) (by rw [h1_7]; rfl) (by decide) ?_
    refine v_aload_n (q := 96) hC dX12_countOf_95 rfl rfl rfl ?_
    refine v_callV1 (q := 99) (As := []) hC dX12_countOf_96 rfl lX12_274 mX12_homeMany iX12_homeMany eX12_homeMany rfl (hL.1 53 (by decide)) (ct_X12_homeMany d hL hd oL) rfl rfl (by omega) rfl (Nat.le_of_ble_eq_true rfl) ?_
    refine v_ireturn hC hB dX12_countOf_99 ⟨Nat.le_refl _, Nat.le_refl _⟩ ?_
    have e1 : (sCount S k).1 = pCou S 7 := by unfold sCount; rw [if_neg (by rw [h1_7]; decide), h1_7]; rfl
    rw [e1]
    exact ⟨rfl, rfl⟩
  by_cases h1_8 : k = 8
  · refine v_tableIn (q := 100) (off := 99) hC dX12_countOf_1 (by rw [h1_8]; decide) (by rw [h1_8]; decide) (by rw [h1_8]; rfl) (by decide) ?_
    refine v_aload_n (q := 101) hC dX12_countOf_100 rfl rfl rfl ?_
    refine v_getI (q := 104) hC dX12_countOf_101 rfl fX12_132 (hL.1 53 (by decide)) ?_
    refine v_ireturn hC hB dX12_countOf_104 ⟨Nat.le_refl _, Nat.le_refl _⟩ ?_
    have e1 : (sCount S k).1 = pCou S 8 := by unfold sCount; rw [if_neg (by rw [h1_8]; decide), h1_8]; rfl
    rw [e1]
    rw [hy.1]
    exact ⟨rfl, rfl⟩
  by_cases h1_9 : k = 9
  · refine v_tableIn (q := 105) (off := 104) hC dX12_countOf_1 (by rw [h1_9]; decide) (by rw [h1_9]; decide) (by rw [h1_9]; rfl) (by decide) ?_
    refine v_aload_n (q := 106) hC dX12_countOf_105 rfl rfl rfl ?_
    refine v_getI (q := 109) hC dX12_countOf_106 rfl fX12_74 (hL.1 53 (by decide)) ?_
    refine v_ireturn hC hB dX12_countOf_109 ⟨Nat.le_refl _, Nat.le_refl _⟩ ?_
    have e1 : (sCount S k).1 = pCou S 9 := by unfold sCount; rw [if_neg (by rw [h1_9]; decide), h1_9]; rfl
    rw [e1]
    rw [hp.1]
    exact ⟨rfl, rfl⟩
  by_cases h1_10 : k = 10
  · refine v_tableIn (q := 110) (off := 109) hC dX12_countOf_1 (by rw [h1_10]; decide) (by rw [h1_10]; decide) (by rw [h1_10]; rfl) (by decide) ?_
    refine v_aload_n (q := 111) hC dX12_countOf_110 rfl rfl rfl ?_
    refine v_getI (q := 114) hC dX12_countOf_111 rfl fX12_135 (hL.1 53 (by decide)) ?_
    refine v_ireturn hC hB dX12_countOf_114 ⟨Nat.le_refl _, Nat.le_refl _⟩ ?_
    have e1 : (sCount S k).1 = pCou S 10 := by unfold sCount; rw [if_neg (by rw [h1_10]; decide), h1_10]; rfl
    rw [e1]
    rw [hk.2.2]
    exact ⟨rfl, rfl⟩
  refine v_tableOut (q := 115) hC dX12_countOf_1 (by have := lv_neT (a := 0) h1_0 rfl; have := lv_neT (a := 1) h1_1 rfl; have := lv_neT (a := 2) h1_2 rfl; have := lv_neT (a := 3) h1_3 rfl; have := lv_neT (a := 4) h1_4 rfl; have := lv_neT (a := 5) h1_5 rfl; have := lv_neT (a := 6) h1_6 rfl; have := lv_neT (a := 7) h1_7 rfl; have := lv_neT (a := 8) h1_8 rfl; have := lv_neT (a := 9) h1_9 rfl; have := lv_neT (a := 10) h1_10 rfl; omega) (by decide) ?_
  refine v_bipush (q := 117) (v := -102) hC dX12_countOf_115 rfl (by decide) ?_
  refine v_ireturn hC hB dX12_countOf_117 ⟨Nat.le_refl _, Nat.le_refl _⟩ ?_
  have e1 : sCount S k = (-102, S) := if_pos (by
    have e10 : (10 : Int32).toInt = 10 := rfl
    have e00 : (0 : Int32).toInt = 0 := rfl
    rw [Int32.lt_iff_toInt_lt, Int32.lt_iff_toInt_lt, e10, e00]
    have n0 := lv_neT (a := 0) h1_0 rfl; have n1 := lv_neT (a := 1) h1_1 rfl; have n2 := lv_neT (a := 2) h1_2 rfl; have n3 := lv_neT (a := 3) h1_3 rfl; have n4 := lv_neT (a := 4) h1_4 rfl; have n5 := lv_neT (a := 5) h1_5 rfl; have n6 := lv_neT (a := 6) h1_6 rfl; have n7 := lv_neT (a := 7) h1_7 rfl; have n8 := lv_neT (a := 8) h1_8 rfl; have n9 := lv_neT (a := 9) h1_9 rfl; have n10 := lv_neT (a := 10) h1_10 rfl; omega)
  rw [e1]
  exact ⟨rfl, rfl⟩

set_option maxRecDepth 100000 in
set_option maxHeartbeats 4000000 in
theorem md_count (d : Nat) {σ : zSt} {S : pS} {B : Nat} (h : zMd σ S) (ok : pOk B S) (k : Int32) : zCt (d + 3) MX12_count [.ref 53, .int k] σ (zQs zMd zFm σ (sCount S k)) := by
  refine zCt.of (L := [some (.ref 53), some (.int k)]) (by decide) (Nat.le_of_ble_eq_true rfl) rfl (fun X hC hB => ?_)
  have hC : zC X RX12 cX12_count 2 (d + 3) 0 0 := hC
  have hB : zB X (some .int) 0 0 "count" σ _ := hB
  show zV X 2 0 [some (.ref 53), some (.int k)] [] 0 0 σ
  have h0 := h
  obtain ⟨hL, hp, hF, hd, hs, hk, hy, he⟩ := h
  obtain ⟨oB, oq, ow, oqt, ot, okm, omm, oq0, oL, oD, okr, okp, oK, osym, okp6, okd⟩ := ok
  have hn6 := hF.2.1
  have hm12 := hd.2.1
  have hsy : ∀ a b, a < 6 → b < 6 → qKin S a b = qKin S b a := fun a b ha hb => (osym a b ha hb).1
  have hok : pOk B S := ⟨oB, oq, ow, oqt, ot, okm, omm, oq0, oL, oD, okr, okp, oK, osym, okp6, okd⟩
  refine v_aload_n (q := 1) hC dX12_count_0 rfl rfl rfl ?_
  refine v_iload_n (q := 2) hC dX12_count_1 rfl rfl rfl ?_
  refine v_callV1 (q := 5) (As := [_]) hC dX12_count_2 rfl lX12_289 mX12_countOf iX12_countOf eX12_countOf rfl (hL.1 53 (by decide)) (ct_X12_countOf d h0 hok k) rfl rfl (by omega) rfl (Nat.le_of_ble_eq_true rfl) ?_
  refine v_ireturn hC hB dX12_count_5 ⟨Nat.le_refl _, Nat.le_refl _⟩ ?_
  exact zQs.mk (S' := S) (show sCount S k = ((sCount S k).1, S) from Prod.ext rfl (by unfold sCount; repeat (first | rfl | split))) h0 zFm.rf

