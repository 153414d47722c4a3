/-! ===== the model: copies, a new favour, image, restore ===== -/
theorem v_callSQ {X : zX} {own : String} {cc : ByteArray} {nL dd mc ms pc q : Nat} {L : List (Option Value)} {st rest As : List Value} {k n : Nat} {σ : zSt} {idx d a : Nat} {Q : Option Value → zSt → Prop} (h : zC X own cc nL dd mc ms) (hd : decode cc pc = .ok (.invokestatic idx, 3)) (hq : q = pc + 3) {M : zM} (hl : Cond.methodLink own idx M.1 ∈ ztb) (hm : zmi M a) (hi : Cond.static M.1 ∈ ztb) (hc : zCt d M As σ Q) (hst : st = As.reverse ++ rest) (ha : As.length = a) (hdd : d + 1 ≤ dd) (hk : M.2.2.2.2 = (0, 0)) (hcat : (rest.map fun v => v.category).sum ≤ 8)
    (kk : ∀ (r : Option Value) (σ' : zSt), Q r σ' → zV X nL q L (r.toList ++ rest) k n σ') (hkn : k ≤ mc ∧ n ≤ ms := by first | exact ⟨Nat.le_refl _, Nat.le_refl _⟩ | decide) : zV X nL pc L st k n σ := by
  refine v_callS h hd hq hl hm hi hc hst ha hdd (by rw [hk]; exact hkn) hcat ?_
  intro r s' hr
  rw [hk]
  exact kk r s' hr

set_option maxRecDepth 100000 in
set_option maxHeartbeats 4000000 in
theorem ct_X12_copy72 (d : Nat) {σ : zSt} {a b : Nat} (ha : σ.1[a]? = some (1, 72)) (hb : σ.1[b]? = some (1, 72)) (hab : ¬ a = b) : zCt (d + 0) MX12_copy [.ref a, .ref b] σ (fun r σ' => r = none ∧ zSame [b] [] σ σ' ∧ ∀ i, i < 72 → zI σ' b i = zI σ a i) := by
  refine zCt.of (L := [some (.ref a), some (.ref b), none]) (by decide) (Nat.le_of_ble_eq_true rfl) rfl (fun X hC hB => ?_)
  have hC : zC X RX12 cX12_copy 3 (d + 0) 0 0 := hC
  have hB : zB X none 0 0 "copy" σ _ := hB
  show zV X 3 0 [some (.ref a), some (.ref b), none] [] 0 0 σ
  have lp : ∀ (r : Nat) (i : Nat) (σ1 : zSt), i + r = 72 → zSame [b] [] σ σ1 → (∀ j, j < i → zI σ1 b j = zI σ a j) → zV X 3 2 [some (.ref a), some (.ref b), some (.int (nI i))] [] 0 0 σ1 := by
    intro r
    induction r with
    | zero =>
      intro i σ1 hi hS hq
      have ha1 : σ1.1[a]? = some (1, 72) := by rw [hS.1]; exact ha
      have hb1 : σ1.1[b]? = some (1, 72) := by rw [hS.1]; exact hb
      refine v_iload_n (q := 3) hC dX12_copy_2 rfl rfl rfl ?_
      refine v_aload_n (q := 4) hC dX12_copy_3 rfl rfl rfl ?_
      refine v_alen (q := 5) hC dX12_copy_4 rfl ha1 rfl ?_
      refine v_icmp_ge (q := 8) (tgt := 20) hC dX12_copy_5 rfl (by decide) (fun h5 => ?_) (fun h5 => ?_)
      · refine v_return hC hB dX12_copy_20 ⟨Nat.le_refl _, Nat.le_refl _⟩ ?_
        have e : i = 72 := by omega
        subst e
        exact ⟨rfl, hS, hq⟩
      · exact absurd (nI_le (a := 72) (b := i) (by omega) (by omega)) h5
    | succ r ih =>
      intro i σ1 hi hS hq
      have ha1 : σ1.1[a]? = some (1, 72) := by rw [hS.1]; exact ha
      have hb1 : σ1.1[b]? = some (1, 72) := by rw [hS.1]; exact hb
      refine v_iload_n (q := 3) hC dX12_copy_2 rfl rfl rfl ?_
      refine v_aload_n (q := 4) hC dX12_copy_3 rfl rfl rfl ?_
      refine v_alen (q := 5) hC dX12_copy_4 rfl ha1 rfl ?_
      refine v_icmp_ge (q := 8) (tgt := 20) hC dX12_copy_5 rfl (by decide) (fun h5 => ?_) (fun h5 => ?_)
      · exact absurd h5 (nI_ge (a := i) (b := 72) (by omega) (by omega))
      · refine v_aload_n (q := 9) hC dX12_copy_8 rfl rfl rfl ?_
        refine v_iload_n (q := 10) hC dX12_copy_9 rfl rfl rfl ?_
        refine v_aload_n (q := 11) hC dX12_copy_10 rfl rfl rfl ?_
        refine v_iload_n (q := 12) hC dX12_copy_11 rfl rfl rfl ?_
        refine v_ialdN (q := 13) (j := i) hC dX12_copy_12 rfl ha1 rfl (by omega) (by decide) ?_
        refine v_iastN (q := 14) (j := i) hC dX12_copy_13 rfl hb1 rfl (by omega) (by decide) ?_
        refine v_iinc (q := 17) (v := 1) (L' := [_, _, _]) hC dX12_copy_14 rfl rfl (by decide) (by decide) rfl rfl ?_
        refine v_goto (q := 2) hC dX12_copy_17 (by decide) ?_
        rw [nI_1 i]
        refine ih (i + 1) _ (by omega) (hS.addI (by simp)) (fun j hj => ?_)
        rw [zI_sI]
        by_cases e : j = i
        · rw [if_pos ⟨rfl, e⟩, e, hS.2.2.2 a (by simp; exact hab)]
        · rw [if_neg (fun z => e z.2)]; exact hq j (by omega)
  refine v_iconst (q := 1) (v := 0) hC dX12_copy_0 rfl (by decide) ?_
  refine v_istore_n (q := 2) (L' := [_, _, _]) hC dX12_copy_1 rfl rfl (by decide) rfl rfl ?_
  exact lp 72 0 σ (by omega) zSame.rf (fun j hj => absurd hj (Nat.not_lt_zero j))

set_option maxRecDepth 100000 in
set_option maxHeartbeats 4000000 in
theorem ct_X12_copy7 (d : Nat) {σ : zSt} {a b : Nat} (ha : σ.1[a]? = some (1, 7)) (hb : σ.1[b]? = some (1, 7)) (hab : ¬ a = b) : zCt (d + 0) MX12_copy [.ref a, .ref b] σ (fun r σ' => r = none ∧ zSame [b] [] σ σ' ∧ ∀ i, i < 7 → zI σ' b i = zI σ a i) := by
  refine zCt.of (L := [some (.ref a), some (.ref b), none]) (by decide) (Nat.le_of_ble_eq_true rfl) rfl (fun X hC hB => ?_)
  have hC : zC X RX12 cX12_copy 3 (d + 0) 0 0 := hC
  have hB : zB X none 0 0 "copy" σ _ := hB
  show zV X 3 0 [some (.ref a), some (.ref b), none] [] 0 0 σ
  have lp : ∀ (r : Nat) (i : Nat) (σ1 : zSt), i + r = 7 → zSame [b] [] σ σ1 → (∀ j, j < i → zI σ1 b j = zI σ a j) → zV X 3 2 [some (.ref a), some (.ref b), some (.int (nI i))] [] 0 0 σ1 := by
    intro r
    induction r with
    | zero =>
      intro i σ1 hi hS hq
      have ha1 : σ1.1[a]? = some (1, 7) := by rw [hS.1]; exact ha
      have hb1 : σ1.1[b]? = some (1, 7) := by rw [hS.1]; exact hb
      refine v_iload_n (q := 3) hC dX12_copy_2 rfl rfl rfl ?_
      refine v_aload_n (q := 4) hC dX12_copy_3 rfl rfl rfl ?_
      refine v_alen (q := 5) hC dX12_copy_4 rfl ha1 rfl ?_
      refine v_icmp_ge (q := 8) (tgt := 20) hC dX12_copy_5 rfl (by decide) (fun h5 => ?_) (fun h5 => ?_)
      · refine v_return hC hB dX12_copy_20 ⟨Nat.le_refl _, Nat.le_refl _⟩ ?_
        have e : i = 7 := by omega
        subst e
        exact ⟨rfl, hS, hq⟩
      · exact absurd (nI_le (a := 7) (b := i) (by omega) (by omega)) h5
    | succ r ih =>
      intro i σ1 hi hS hq
      have ha1 : σ1.1[a]? = some (1, 7) := by rw [hS.1]; exact ha
      have hb1 : σ1.1[b]? = some (1, 7) := by rw [hS.1]; exact hb
      refine v_iload_n (q := 3) hC dX12_copy_2 rfl rfl rfl ?_
      refine v_aload_n (q := 4) hC dX12_copy_3 rfl rfl rfl ?_
      refine v_alen (q := 5) hC dX12_copy_4 rfl ha1 rfl ?_
      refine v_icmp_ge (q := 8) (tgt := 20) hC dX12_copy_5 rfl (by decide) (fun h5 => ?_) (fun h5 => ?_)
      · exact absurd h5 (nI_ge (a := i) (b := 7) (by omega) (by omega))
      · refine v_aload_n (q := 9) hC dX12_copy_8 rfl rfl rfl ?_
        refine v_iload_n (q := 10) hC dX12_copy_9 rfl rfl rfl ?_
        refine v_aload_n (q := 11) hC dX12_copy_10 rfl rfl rfl ?_
        refine v_iload_n (q := 12) hC dX12_copy_11 rfl rfl rfl ?_
        refine v_ialdN (q := 13) (j := i) hC dX12_copy_12 rfl ha1 rfl (by omega) (by decide) ?_
        refine v_iastN (q := 14) (j := i) hC dX12_copy_13 rfl hb1 rfl (by omega) (by decide) ?_
        refine v_iinc (q := 17) (v := 1) (L' := [_, _, _]) hC dX12_copy_14 rfl rfl (by decide) (by decide) rfl rfl ?_
        refine v_goto (q := 2) hC dX12_copy_17 (by decide) ?_
        rw [nI_1 i]
        refine ih (i + 1) _ (by omega) (hS.addI (by simp)) (fun j hj => ?_)
        rw [zI_sI]
        by_cases e : j = i
        · rw [if_pos ⟨rfl, e⟩, e, hS.2.2.2 a (by simp; exact hab)]
        · rw [if_neg (fun z => e z.2)]; exact hq j (by omega)
  refine v_iconst (q := 1) (v := 0) hC dX12_copy_0 rfl (by decide) ?_
  refine v_istore_n (q := 2) (L' := [_, _, _]) hC dX12_copy_1 rfl rfl (by decide) rfl rfl ?_
  exact lp 7 0 σ (by omega) zSame.rf (fun j hj => absurd hj (Nat.not_lt_zero j))

set_option maxRecDepth 100000 in
set_option maxHeartbeats 4000000 in
theorem md_image (d : Nat) {σ : zSt} {S : pS} {B : Nat} (h : zMd σ S) (ok : pOk B S) : zCt (d + 2) MX12_image [.ref 53] σ (zQs zMd zFm σ (sImage S)) := by
  refine zCt.of (L := [some (.ref 53)]) (by decide) (Nat.le_of_ble_eq_true rfl) rfl (fun X hC hB => ?_)
  have hC : zC X RX12 cX12_image 1 (d + 2) 0 0 := hC
  have hB : zB X (some .int) 0 0 "image" σ _ := hB
  show zV X 1 0 [some (.ref 53)] [] 0 0 σ
  have h0 := h
  obtain ⟨hL, hp, hF, hd, hs, hk, hy, he⟩ := h
  obtain ⟨oB, oq, ow, oqt, ot, okm, omm, oq0, oL, oD, okr, okp, oK, osym, okp6, okd⟩ := ok
  have hn6 := hF.2.1
  have hm12 := hd.2.1
  have hsy : ∀ a b, a < 6 → b < 6 → qKin S a b = qKin S b a := fun a b ha hb => (osym a b ha hb).1
  have c0 : qT S = 0 ↔ qQ S = 0 := oqt.symm
  refine v_aload_n (q := 1) hC dX12_image_0 rfl rfl rfl ?_
  refine v_callV1 (q := 4) (As := []) hC dX12_image_1 rfl lX12_166 mX12_lacks iX12_lacks eX12_lacks rfl (hL.1 53 (by decide)) (ct_X12_lacks (d + 1) hL hF) rfl rfl (by omega) rfl (Nat.le_of_ble_eq_true rfl) ?_
  refine v_if_eq (q := 7) (tgt := 10) hC dX12_image_4 rfl (by decide) (fun h4 => ?_) (fun h4 => ?_)
  · refine v_aload_n (q := 11) hC dX12_image_10 rfl rfl rfl ?_
    refine v_getR (q := 14) (r := 60) hC dX12_image_11 rfl fX12_28 (hL.1 53 (by decide)) (hL.2 53 23 60 rfl) ?_
    refine v_aload_n (q := 15) hC dX12_image_14 rfl rfl rfl ?_
    refine v_getR (q := 18) (r := 69) hC dX12_image_15 rfl fX12_55 (hL.1 53 (by decide)) (hL.2 53 39 69 rfl) ?_
    refine v_callSQ (q := 21) (As := [_, _]) hC dX12_image_18 rfl lX12_261 mX12_copy sX12_copy (ct_X12_copy72 (d + 1) (hL.1 60 (by decide)) (hL.1 69 (by decide)) (by decide)) rfl rfl (by omega) (by decide) (Nat.le_of_ble_eq_true rfl) ?_
    rintro _ σ1 ⟨rfl, hS1, g1⟩
    have hL1 := hL.same hS1 rfl
    have hL := hL1
    refine v_aload_n (q := 22) hC dX12_image_21 rfl rfl rfl ?_
    refine v_getR (q := 25) (r := 65) hC dX12_image_22 rfl fX12_43 (hL.1 53 (by decide)) (hL.2 53 29 65 rfl) ?_
    refine v_aload_n (q := 26) hC dX12_image_25 rfl rfl rfl ?_
    refine v_getR (q := 29) (r := 70) hC dX12_image_26 rfl fX12_58 (hL.1 53 (by decide)) (hL.2 53 40 70 rfl) ?_
    refine v_callSQ (q := 32) (As := [_, _]) hC dX12_image_29 rfl lX12_261 mX12_copy sX12_copy (ct_X12_copy7 (d + 1) (hL1.1 65 (by decide)) (hL1.1 70 (by decide)) (by decide)) rfl rfl (by omega) (by decide) (Nat.le_of_ble_eq_true rfl) ?_
    rintro _ σ2 ⟨rfl, hS2, g2⟩
    have hL2 := hL1.same hS2 rfl
    have hL := hL2
    have hSS : zSame [69, 70] [] σ σ2 := (hS1.mono (by decide) (by decide)).tr (hS2.mono (by decide) (by decide))
    have hM : zSm [69, 70] [34, 35, 36, 37, 38] σ σ2 := zSm.of hSS rfl
    have hF2 := hF.sm hM rfl rfl
    have hd2 := hd.sm hM rfl rfl
    have hy2 := hy.sm hM rfl rfl
    have hk2 := hk.sm hM rfl
    have g3 : ∀ i, i < 72 → zI σ2 69 i = zI σ 60 i := fun i hi => by rw [hS2.2.2.2 69 (by decide)]; exact g1 i hi
    have g4 : ∀ i, i < 7 → zI σ2 70 i = zI σ 65 i := fun i hi => by rw [g2 i hi, hS1.2.2.2 65 (by decide)]
    refine v_aload_n (q := 33) hC dX12_image_32 rfl rfl rfl ?_
    refine v_aload_n (q := 34) hC dX12_image_33 rfl rfl rfl ?_
    refine v_getI (q := 37) hC dX12_image_34 rfl fX12_126 (hL.1 53 (by decide)) ?_
    rw [hF2.1]
    refine v_putI (q := 40) hC dX12_image_37 rfl fX12_277 (hL.1 53 (by decide)) ?_
    refine v_aload_n (q := 41) hC dX12_image_40 rfl rfl rfl ?_
    refine v_aload_n (q := 42) hC dX12_image_41 rfl rfl rfl ?_
    refine v_getI (q := 45) hC dX12_image_42 rfl fX12_129 (hL.1 53 (by decide)) ?_
    rw [zI_ne (by omega), hd2.1]
    refine v_putI (q := 48) hC dX12_image_45 rfl fX12_280 (hL.1 53 (by decide)) ?_
    refine v_aload_n (q := 49) hC dX12_image_48 rfl rfl rfl ?_
    refine v_aload_n (q := 50) hC dX12_image_49 rfl rfl rfl ?_
    refine v_getI (q := 53) hC dX12_image_50 rfl fX12_123 (hL.1 53 (by decide)) ?_
    rw [zI_ne (by omega), zI_ne (by omega), hd2.2.2.1]
    refine v_putI (q := 56) hC dX12_image_53 rfl fX12_283 (hL.1 53 (by decide)) ?_
    refine v_aload_n (q := 57) hC dX12_image_56 rfl rfl rfl ?_
    refine v_aload_n (q := 58) hC dX12_image_57 rfl rfl rfl ?_
    refine v_getI (q := 61) hC dX12_image_58 rfl fX12_132 (hL.1 53 (by decide)) ?_
    rw [zI_ne (by omega), zI_ne (by omega), zI_ne (by omega), hy2.1]
    refine v_putI (q := 64) hC dX12_image_61 rfl fX12_286 (hL.1 53 (by decide)) ?_
    refine v_aload_n (q := 65) hC dX12_image_64 rfl rfl rfl ?_
    refine v_aload_n (q := 66) hC dX12_image_65 rfl rfl rfl ?_
    refine v_getI (q := 69) hC dX12_image_66 rfl fX12_135 (hL.1 53 (by decide)) ?_
    rw [zI_ne (by omega), zI_ne (by omega), zI_ne (by omega), zI_ne (by omega), hk2.2.2]
    refine v_putI (q := 72) hC dX12_image_69 rfl fX12_61 (hL.1 53 (by decide)) ?_
    refine v_aload_n (q := 73) hC dX12_image_72 rfl rfl rfl ?_
    refine v_getI (q := 76) hC dX12_image_73 rfl fX12_123 (hL.1 53 (by decide)) ?_
    rw [zI_ne (by omega), zI_ne (by omega), zI_ne (by omega), zI_ne (by omega), zI_ne (by omega), hd2.2.2.1]
    refine v_ireturn hC hB dX12_image_76 ⟨Nat.le_refl _, Nat.le_refl _⟩ ?_
    have hq0 : ¬ qQ S = 0 := fun z => of_decide_eq_false (zb_eq0.mp h4) (c0.mpr z)
    have hM3 : zSm [69, 70] [34, 35, 36, 37, 38] σ (zsI (zsI (zsI (zsI (zsI σ2 53 35 (nI (qN S))) 53 36 (nI (qM S))) 53 37 (nI (qW S))) 53 38 (nI (qDl S))) 53 34 (nI (qQ S))) := ((((hM.o (by simp)).o (by simp)).o (by simp)).o (by simp)).o (by simp)
    exact zQs.mk (S' := (S.1, S.2.1, S.2.2.1, S.2.2.2.1, S.2.2.2.2.1, qQ S, (qQ S, qN S, S.2.2.2.1, S.2.2.2.2.1))) (by unfold sImage; exact if_neg hq0) ⟨hM3.lay h0.1, hp.sm hM3 rfl rfl, hF.sm hM3 rfl rfl, hd.sm hM3 rfl rfl, hs.sm hM3 rfl, hk.sm hM3 rfl, hy.sm hM3 rfl rfl, ⟨by rw [zI_eq]; exact (if_neg hq0).symm, by rw [zI_ne (by omega), zI_ne (by omega), zI_ne (by omega), zI_ne (by omega), zI_eq], by rw [zI_ne (by omega), zI_ne (by omega), zI_ne (by omega), zI_eq], hd.2.1, by rw [zI_ne (by omega), zI_ne (by omega), zI_eq], fun j f hj hf => by have hf : f < qM S := hf; rw [zI_ne (by omega), zI_ne (by omega), zI_ne (by omega), zI_ne (by omega), zI_ne (by omega), g3 _ (by have := hd.2.1; omega)]; exact hd.2.2.2 j f hj hf, by rw [zI_ne (by omega), zI_eq], hy.2.1, fun i hi => by have hi : i < qDl S := hi; rw [zI_ne (by omega), zI_ne (by omega), zI_ne (by omega), zI_ne (by omega), zI_ne (by omega), g4 i (by have := hy.2.1; omega)]; exact hy.2.2 i hi⟩⟩ (hM3.fm rfl)
  · refine v_bipush (q := 9) (v := -103) hC dX12_image_7 rfl (by decide) ?_
    refine v_ireturn hC hB dX12_image_9 ⟨Nat.le_refl _, Nat.le_refl _⟩ ?_
    exact zQs.mk (by unfold sImage; exact if_pos (c0.mp (of_decide_eq_true (zb_ne h4)))) h0 zFm.rf

set_option maxRecDepth 100000 in
set_option maxHeartbeats 4000000 in
theorem md_restore (d : Nat) {σ : zSt} {S : pS} {B : Nat} (h : zMd σ S) (ok : pOk B S) : zCt (d + 1) MX12_restore [.ref 53] σ (zQs zMd zFm σ (sRestore S)) := by
  refine zCt.of (L := [some (.ref 53)]) (by decide) (Nat.le_of_ble_eq_true rfl) rfl (fun X hC hB => ?_)
  have hC : zC X RX12 cX12_restore 1 (d + 1) 0 0 := hC
  have hB : zB X (some .int) 0 0 "restore" σ _ := hB
  show zV X 1 0 [some (.ref 53)] [] 0 0 σ
  have h0 := h
  obtain ⟨hL, hp, hF, hd, hs, hk, hy, he⟩ := h
  obtain ⟨oB, oq, ow, oqt, ot, okm, omm, oq0, oL, oD, okr, okp, oK, osym, okp6, okd⟩ := ok
  have hn6 := hF.2.1
  have hm12 := hd.2.1
  have hsy : ∀ a b, a < 6 → b < 6 → qKin S a b = qKin S b a := fun a b ha hb => (osym a b ha hb).1
  obtain ⟨x1, x2, x3, x4, x5, x6, x7, x8, x9⟩ := he
  have he : zMe σ (qKr S) (qKp S) (qM2 S) (qF2 S) (qW2 S) (qD2 S) (qV2 S) := ⟨x1, x2, x3, x4, x5, x6, x7, x8, x9⟩
  have cq : (if qKr S = 0 then (-1 : Int32) else nI (qKr S)) = nI (qQ S) ↔ ¬ (qKr S = 0 ∨ qKr S ≠ qQ S) := by
    by_cases e : qKr S = 0
    · rw [if_pos e]; exact ⟨fun z => absurd z.symm (nI_m1 (by omega)), fun z => absurd (Or.inl e) z⟩
    · rw [if_neg e, nI_eq (by omega) (by omega)]; omega
  have cp : nI (qKp S) = nI (qN S) ↔ qKp S = qN S := nI_eq (by omega) (by omega)
  refine v_aload_n (q := 1) hC dX12_restore_0 rfl rfl rfl ?_
  refine v_getI (q := 4) hC dX12_restore_1 rfl fX12_61 (hL.1 53 (by decide)) ?_
  refine v_aload_n (q := 5) hC dX12_restore_4 rfl rfl rfl ?_
  refine v_getI (q := 8) hC dX12_restore_5 rfl fX12_135 (hL.1 53 (by decide)) ?_
  rw [x1, hk.2.2]
  refine v_icmp_ne (q := 11) (tgt := 22) hC dX12_restore_8 rfl (by decide) (fun h8 => ?_) (fun h8 => ?_)
  · refine v_bipush (q := 24) (v := -103) hC dX12_restore_22 rfl (by decide) ?_
    refine v_ireturn hC hB dX12_restore_24 ⟨Nat.le_refl _, Nat.le_refl _⟩ ?_
    exact zQs.mk (by unfold sRestore; exact if_pos (by first | (have hh := fun z => h8 (cq.mpr z); rcases Decidable.not_not.mp hh with z | z; exact Or.inl z; exact Or.inr (Or.inl z)) | exact Or.inr (Or.inr (fun z => h19 (cp.mpr z))))) h0 zFm.rf
  · refine v_aload_n (q := 12) hC dX12_restore_11 rfl rfl rfl ?_
    refine v_getI (q := 15) hC dX12_restore_12 rfl fX12_277 (hL.1 53 (by decide)) ?_
    refine v_aload_n (q := 16) hC dX12_restore_15 rfl rfl rfl ?_
    refine v_getI (q := 19) hC dX12_restore_16 rfl fX12_126 (hL.1 53 (by decide)) ?_
    rw [x2, hF.1]
    refine v_icmp_eq (q := 22) (tgt := 25) hC dX12_restore_19 rfl (by decide) (fun h19 => ?_) (fun h19 => ?_)
    · refine v_aload_n (q := 26) hC dX12_restore_25 rfl rfl rfl ?_
      refine v_getR (q := 29) (r := 69) hC dX12_restore_26 rfl fX12_55 (hL.1 53 (by decide)) (hL.2 53 39 69 rfl) ?_
      refine v_aload_n (q := 30) hC dX12_restore_29 rfl rfl rfl ?_
      refine v_getR (q := 33) (r := 60) hC dX12_restore_30 rfl fX12_28 (hL.1 53 (by decide)) (hL.2 53 23 60 rfl) ?_
      refine v_callSQ (q := 36) (As := [_, _]) hC dX12_restore_33 rfl lX12_261 mX12_copy sX12_copy (ct_X12_copy72 d (hL.1 69 (by decide)) (hL.1 60 (by decide)) (by decide)) rfl rfl (by omega) (by decide) (Nat.le_of_ble_eq_true rfl) ?_
      rintro _ σ1 ⟨rfl, hS1, g1⟩
      have hL1 := hL.same hS1 rfl
      have hL := hL1
      refine v_aload_n (q := 37) hC dX12_restore_36 rfl rfl rfl ?_
      refine v_getR (q := 40) (r := 70) hC dX12_restore_37 rfl fX12_58 (hL.1 53 (by decide)) (hL.2 53 40 70 rfl) ?_
      refine v_aload_n (q := 41) hC dX12_restore_40 rfl rfl rfl ?_
      refine v_getR (q := 44) (r := 65) hC dX12_restore_41 rfl fX12_43 (hL.1 53 (by decide)) (hL.2 53 29 65 rfl) ?_
      refine v_callSQ (q := 47) (As := [_, _]) hC dX12_restore_44 rfl lX12_261 mX12_copy sX12_copy (ct_X12_copy7 d (hL1.1 70 (by decide)) (hL1.1 65 (by decide)) (by decide)) rfl rfl (by omega) (by decide) (Nat.le_of_ble_eq_true rfl) ?_
      rintro _ σ2 ⟨rfl, hS2, g2⟩
      have hL2 := hL1.same hS2 rfl
      have hL := hL2
      have hSS : zSame [60, 65] [] σ σ2 := (hS1.mono (by decide) (by decide)).tr (hS2.mono (by decide) (by decide))
      have hM : zSm [60, 65] [12, 22, 28] σ σ2 := zSm.of hSS rfl
      have he2 := he.sm hM rfl rfl
      have g3 : ∀ i, i < 72 → zI σ2 60 i = zI σ 69 i := fun i hi => by rw [hS2.2.2.2 60 (by decide)]; exact g1 i hi
      have g4 : ∀ i, i < 7 → zI σ2 65 i = zI σ 70 i := fun i hi => by rw [g2 i hi, hS1.2.2.2 70 (by decide)]
      refine v_aload_n (q := 48) hC dX12_restore_47 rfl rfl rfl ?_
      refine v_aload_n (q := 49) hC dX12_restore_48 rfl rfl rfl ?_
      refine v_getI (q := 52) hC dX12_restore_49 rfl fX12_280 (hL.1 53 (by decide)) ?_
      rw [he2.2.2.1]
      refine v_putI (q := 55) hC dX12_restore_52 rfl fX12_129 (hL.1 53 (by decide)) ?_
      refine v_aload_n (q := 56) hC dX12_restore_55 rfl rfl rfl ?_
      refine v_aload_n (q := 57) hC dX12_restore_56 rfl rfl rfl ?_
      refine v_getI (q := 60) hC dX12_restore_57 rfl fX12_283 (hL.1 53 (by decide)) ?_
      rw [zI_ne (by omega), he2.2.2.2.2.1]
      refine v_putI (q := 63) hC dX12_restore_60 rfl fX12_123 (hL.1 53 (by decide)) ?_
      refine v_aload_n (q := 64) hC dX12_restore_63 rfl rfl rfl ?_
      refine v_aload_n (q := 65) hC dX12_restore_64 rfl rfl rfl ?_
      refine v_getI (q := 68) hC dX12_restore_65 rfl fX12_286 (hL.1 53 (by decide)) ?_
      rw [zI_ne (by omega), zI_ne (by omega), he2.2.2.2.2.2.2.1]
      refine v_putI (q := 71) hC dX12_restore_68 rfl fX12_132 (hL.1 53 (by decide)) ?_
      refine v_aload_n (q := 72) hC dX12_restore_71 rfl rfl rfl ?_
      refine v_getI (q := 75) hC dX12_restore_72 rfl fX12_123 (hL.1 53 (by decide)) ?_
      rw [zI_ne (by omega), zI_eq]
      refine v_ireturn hC hB dX12_restore_75 ⟨Nat.le_refl _, Nat.le_refl _⟩ ?_
      have hno : ¬ (qKr S = 0 ∨ qKr S ≠ qQ S ∨ qKp S ≠ qN S) := by rintro (z | z | z); exact cq.mp h8 (Or.inl z); exact cq.mp h8 (Or.inr z); exact z (cp.mp h19)
      have hM3 : zSm [60, 65] [12, 22, 28] σ (zsI (zsI (zsI σ2 53 22 (nI (qM2 S))) 53 12 (nI (qW2 S))) 53 28 (nI (qD2 S))) := ((hM.o (by simp)).o (by simp)).o (by simp)
      exact zQs.mk (S' := (S.1, S.2.1, S.2.2.1, (qM2 S, qF2 S, qW2 S), (qD2 S, qV2 S), S.2.2.2.2.2)) (by unfold sRestore; exact if_neg hno) ⟨hM3.lay h0.1, hp.sm hM3 rfl rfl, hF.sm hM3 rfl rfl, ⟨by rw [zI_ne (by omega), zI_ne (by omega), zI_eq], x4, by rw [zI_ne (by omega), zI_eq], fun j f hj hf => by have hf : f < qM2 S := hf; rw [zI_ne (by omega), zI_ne (by omega), zI_ne (by omega), g3 _ (by omega)]; exact x6 j f hj hf⟩, hs.sm hM3 rfl, hk.sm hM3 rfl, ⟨zI_eq, x8, fun i hi => by have hi : i < qD2 S := hi; rw [zI_ne (by omega), zI_ne (by omega), zI_ne (by omega), g4 i (by omega)]; exact x9 i hi⟩, he.sm hM3 rfl rfl⟩ (hM3.fm rfl)
    · refine v_bipush (q := 24) (v := -103) hC dX12_restore_22 rfl (by decide) ?_
      refine v_ireturn hC hB dX12_restore_24 ⟨Nat.le_refl _, Nat.le_refl _⟩ ?_
      exact zQs.mk (by unfold sRestore; exact if_pos (by first | (have hh := fun z => h8 (cq.mpr z); rcases Decidable.not_not.mp hh with z | z; exact Or.inl z; exact Or.inr (Or.inl z)) | exact Or.inr (Or.inr (fun z => h19 (cp.mpr z))))) h0 zFm.rf

