/-! ===== the class's calls: deed, count, searches ===== -/
theorem pFo_lt {F : Nat → Nat → Int32} {m n w : Nat} (hw : pLw m F n w) (hm : m ≤ 12) : ∀ (k f : Nat), f < m → pFo F k f < m
  | 0, f, hf => hf
  | k + 1, f, hf => by
    simp only [pFo]
    split
    · exact hf
    · rename_i h
      obtain ⟨g, hg, e⟩ := ((hw.2 f hf).2.2.2.2.1).resolve_left h
      rw [e, dN_nI (by omega)]
      exact pFo_lt hw hm k g (by omega)

set_option maxRecDepth 100000 in
set_option maxHeartbeats 4000000 in
theorem ce_deed (d : Nat) {σ : zSt} {S : pS} {B : Nat} (h : zCl σ S) (ok : pOk B S) (p : Int32) (k : Int32) : zEv (d + 1) MX11_deed [.ref 0, .int p, .int k] σ (some (.int (sDeed S p k).1)) σ := by
  refine zCt.of (L := [some (.ref 0), some (.int p), some (.int k)]) (by decide) (Nat.le_of_ble_eq_true rfl) rfl (fun X hC hB => ?_)
  have hC : zC X RX11 cX11_deed 3 (d + 1) 0 0 := hC
  have hB : zB X (some .int) 0 0 "deed" σ _ := hB
  show zV X 3 0 [some (.ref 0), some (.int p), some (.int k)] [] 0 0 σ
  have h0 := h
  obtain ⟨hL, hPg, hF, hK, hp, h18, h23, hd, hy, hd2, hy2, hq⟩ := h
  obtain ⟨oB, oq, ow, oqt, ot, okm, omm, oq0, oL, oD, okr, okp, oK, osym, okp6, okd⟩ := ok
  have hn6 := hF.2.1
  have hm12 := hd.2.1
  have hLg := zLg.of hL (c := 28) (by simp)
  refine v_aload_n (q := 1) hC dX11_deed_0 rfl rfl rfl ?_
  refine v_getR (q := 4) (r := 28) hC dX11_deed_1 rfl fX11_58 (hL.1 0 (by decide)) (hL.2 0 6 28 rfl) ?_
  refine v_iload_n (q := 5) hC dX11_deed_4 rfl rfl rfl ?_
  refine v_callV1 (q := 8) (As := [_]) hC dX11_deed_5 rfl lX11_156 mX4_has iX4_has eX4_has rfl (hL.1 28 (by decide)) (ct_X4_has d hLg hd _) rfl rfl (by omega) rfl (Nat.le_of_ble_eq_true rfl) ?_
  refine v_if_ne (q := 11) (tgt := 14) hC dX11_deed_8 rfl (by decide) (fun h8 => ?_) (fun h8 => ?_)
  · have hz := zb_ne h8
    obtain ⟨x, hx, rfl⟩ := zval_of (by omega) hz
    refine v_iload_n (q := 15) hC dX11_deed_14 rfl rfl rfl ?_
    refine v_if_lt (q := 18) (tgt := 24) hC dX11_deed_15 rfl (by decide) (fun h15 => ?_) (fun h15 => ?_)
    · refine v_bipush (q := 26) (v := -102) hC dX11_deed_24 rfl (by decide) ?_
      refine v_ireturn hC hB dX11_deed_26 ⟨Nat.le_refl _, Nat.le_refl _⟩ ?_
      have e1 : sDeed S (nI x) k = (-102, S) := by unfold sDeed; rw [if_pos hz]; exact if_pos (by first | exact Or.inl h15 | exact Or.inr (Int32.not_le.mp h21))
      rw [e1]
      exact ⟨rfl, rfl⟩
    · refine v_iload_n (q := 19) hC dX11_deed_18 rfl rfl rfl ?_
      refine v_bipush (q := 21) (v := 7) hC dX11_deed_19 rfl (by decide) ?_
      refine v_icmp_le (q := 24) (tgt := 27) hC dX11_deed_21 rfl (by decide) (fun h21 => ?_) (fun h21 => ?_)
      · obtain ⟨k, hk0, hk7, rfl⟩ := zbw (x := k) 0 7 (by omega) (by omega) h15 (Int32.not_lt.mpr h21)
        have e1 : (sDeed S (nI x) (nI k)).1 = pDd S x k := by unfold sDeed; rw [if_pos hz, if_neg (by rintro (z | z); exact h15 z; exact absurd h21 (Int32.not_le.mpr z)), dN_nI (by omega), dN_nI (by omega)]
        rw [e1] at hB
        have ck : ∀ j : Nat, j < 100 → nI k = nI j → k = j := fun j hj z => (nI_eq (by omega) (by omega)).mp z
        refine v_iload_n (q := 28) hC dX11_deed_27 rfl rfl rfl ?_
        by_cases h28_0 : nI k = 0
        · refine v_tableIn (q := 72) (off := 44) hC dX11_deed_28 (by rw [h28_0]; decide) (by rw [h28_0]; decide) (by rw [h28_0]; rfl) (by decide) ?_
          refine v_aload_n (q := 73) hC dX11_deed_72 rfl rfl rfl ?_
          refine v_getR (q := 76) (r := 28) hC dX11_deed_73 rfl fX11_58 (hL.1 0 (by decide)) (hL.2 0 6 28 rfl) ?_
          refine v_getR (q := 79) (r := 29) hC dX11_deed_76 rfl fX11_170 (hL.1 28 (by decide)) (hL.2 28 0 29 rfl) ?_
          refine v_iload_n (q := 80) hC dX11_deed_79 rfl rfl rfl ?_
          refine v_ialdN (q := 81) (j := x) hC dX11_deed_80 rfl (hL.1 29 (by decide)) rfl (by omega) (by decide) ?_
          refine v_ireturn hC hB dX11_deed_81 ⟨Nat.le_refl _, Nat.le_refl _⟩ ?_
          have e := ck 0 (by omega) h28_0
          subst e
          refine ⟨?_, rfl⟩
          have e2 := hd.2.2.2 0 x (by decide) hx
          show some (Value.int (zI σ (28 + 1 + 0) x)) = _
          rw [e2]; rfl
        by_cases h28_1 : nI k = 1
        · refine v_tableIn (q := 82) (off := 54) hC dX11_deed_28 (by rw [h28_1]; decide) (by rw [h28_1]; decide) (by rw [h28_1]; rfl) (by decide) ?_
          refine v_aload_n (q := 83) hC dX11_deed_82 rfl rfl rfl ?_
          refine v_getR (q := 86) (r := 28) hC dX11_deed_83 rfl fX11_58 (hL.1 0 (by decide)) (hL.2 0 6 28 rfl) ?_
          refine v_getR (q := 89) (r := 30) hC dX11_deed_86 rfl fX11_173 (hL.1 28 (by decide)) (hL.2 28 1 30 rfl) ?_
          refine v_iload_n (q := 90) hC dX11_deed_89 rfl rfl rfl ?_
          refine v_ialdN (q := 91) (j := x) hC dX11_deed_90 rfl (hL.1 30 (by decide)) rfl (by omega) (by decide) ?_
          refine v_ireturn hC hB dX11_deed_91 ⟨Nat.le_refl _, Nat.le_refl _⟩ ?_
          have e := ck 1 (by omega) h28_1
          subst e
          refine ⟨?_, rfl⟩
          have e2 := hd.2.2.2 1 x (by decide) hx
          show some (Value.int (zI σ (28 + 1 + 1) x)) = _
          rw [e2]; rfl
        by_cases h28_2 : nI k = 2
        · refine v_tableIn (q := 92) (off := 64) hC dX11_deed_28 (by rw [h28_2]; decide) (by rw [h28_2]; decide) (by rw [h28_2]; rfl) (by decide) ?_
          refine v_aload_n (q := 93) hC dX11_deed_92 rfl rfl rfl ?_
          refine v_getR (q := 96) (r := 28) hC dX11_deed_93 rfl fX11_58 (hL.1 0 (by decide)) (hL.2 0 6 28 rfl) ?_
          refine v_getR (q := 99) (r := 31) hC dX11_deed_96 rfl fX11_176 (hL.1 28 (by decide)) (hL.2 28 2 31 rfl) ?_
          refine v_iload_n (q := 100) hC dX11_deed_99 rfl rfl rfl ?_
          refine v_ialdN (q := 101) (j := x) hC dX11_deed_100 rfl (hL.1 31 (by decide)) rfl (by omega) (by decide) ?_
          refine v_ireturn hC hB dX11_deed_101 ⟨Nat.le_refl _, Nat.le_refl _⟩ ?_
          have e := ck 2 (by omega) h28_2
          subst e
          refine ⟨?_, rfl⟩
          have e2 := hd.2.2.2 2 x (by decide) hx
          show some (Value.int (zI σ (28 + 1 + 2) x)) = _
          rw [e2]; rfl
        by_cases h28_3 : nI k = 3
        · refine v_tableIn (q := 102) (off := 74) hC dX11_deed_28 (by rw [h28_3]; decide) (by rw [h28_3]; decide) (by rw [h28_3]; rfl) (by decide) ?_
          refine v_aload_n (q := 103) hC dX11_deed_102 rfl rfl rfl ?_
          refine v_getR (q := 106) (r := 28) hC dX11_deed_103 rfl fX11_58 (hL.1 0 (by decide)) (hL.2 0 6 28 rfl) ?_
          refine v_getR (q := 109) (r := 32) hC dX11_deed_106 rfl fX11_179 (hL.1 28 (by decide)) (hL.2 28 3 32 rfl) ?_
          refine v_iload_n (q := 110) hC dX11_deed_109 rfl rfl rfl ?_
          refine v_ialdN (q := 111) (j := x) hC dX11_deed_110 rfl (hL.1 32 (by decide)) rfl (by omega) (by decide) ?_
          refine v_ireturn hC hB dX11_deed_111 ⟨Nat.le_refl _, Nat.le_refl _⟩ ?_
          have e := ck 3 (by omega) h28_3
          subst e
          refine ⟨?_, rfl⟩
          have e2 := hd.2.2.2 3 x (by decide) hx
          show some (Value.int (zI σ (28 + 1 + 3) x)) = _
          rw [e2]; rfl
        by_cases h28_4 : nI k = 4
        · refine v_tableIn (q := 112) (off := 84) hC dX11_deed_28 (by rw [h28_4]; decide) (by rw [h28_4]; decide) (by rw [h28_4]; rfl) (by decide) ?_
          refine v_aload_n (q := 113) hC dX11_deed_112 rfl rfl rfl ?_
          refine v_getR (q := 116) (r := 28) hC dX11_deed_113 rfl fX11_58 (hL.1 0 (by decide)) (hL.2 0 6 28 rfl) ?_
          refine v_getR (q := 119) (r := 33) hC dX11_deed_116 rfl fX11_182 (hL.1 28 (by decide)) (hL.2 28 4 33 rfl) ?_
          refine v_iload_n (q := 120) hC dX11_deed_119 rfl rfl rfl ?_
          refine v_ialdN (q := 121) (j := x) hC dX11_deed_120 rfl (hL.1 33 (by decide)) rfl (by omega) (by decide) ?_
          refine v_ireturn hC hB dX11_deed_121 ⟨Nat.le_refl _, Nat.le_refl _⟩ ?_
          have e := ck 4 (by omega) h28_4
          subst e
          refine ⟨?_, rfl⟩
          have e2 := hd.2.2.2 4 x (by decide) hx
          show some (Value.int (zI σ (28 + 1 + 4) x)) = _
          rw [e2]; rfl
        by_cases h28_5 : nI k = 5
        · refine v_tableIn (q := 122) (off := 94) hC dX11_deed_28 (by rw [h28_5]; decide) (by rw [h28_5]; decide) (by rw [h28_5]; rfl) (by decide) ?_
          refine v_aload_n (q := 123) hC dX11_deed_122 rfl rfl rfl ?_
          refine v_getR (q := 126) (r := 28) hC dX11_deed_123 rfl fX11_58 (hL.1 0 (by decide)) (hL.2 0 6 28 rfl) ?_
          refine v_getR (q := 129) (r := 34) hC dX11_deed_126 rfl fX11_185 (hL.1 28 (by decide)) (hL.2 28 5 34 rfl) ?_
          refine v_iload_n (q := 130) hC dX11_deed_129 rfl rfl rfl ?_
          refine v_ialdN (q := 131) (j := x) hC dX11_deed_130 rfl (hL.1 34 (by decide)) rfl (by omega) (by decide) ?_
          refine v_ireturn hC hB dX11_deed_131 ⟨Nat.le_refl _, Nat.le_refl _⟩ ?_
          have e := ck 5 (by omega) h28_5
          subst e
          refine ⟨?_, rfl⟩
          have e2 := hd.2.2.2 5 x (by decide) hx
          show some (Value.int (zI σ (28 + 1 + 5) x)) = _
          rw [e2]; rfl
        by_cases h28_6 : nI k = 6
        · refine v_tableIn (q := 132) (off := 104) hC dX11_deed_28 (by rw [h28_6]; decide) (by rw [h28_6]; decide) (by rw [h28_6]; rfl) (by decide) ?_
          refine v_aload_n (q := 133) hC dX11_deed_132 rfl rfl rfl ?_
          refine v_getR (q := 136) (r := 28) hC dX11_deed_133 rfl fX11_58 (hL.1 0 (by decide)) (hL.2 0 6 28 rfl) ?_
          refine v_iload_n (q := 137) hC dX11_deed_136 rfl rfl rfl ?_
          refine v_callV1 (q := 140) (As := [_]) hC dX11_deed_137 rfl lX11_188 mX4_aheadOf iX4_aheadOf eX4_aheadOf rfl (hL.1 28 (by decide)) (ct_X4_aheadOf d hLg hd oL hx) rfl rfl (by omega) rfl (Nat.le_of_ble_eq_true rfl) ?_
          refine v_ireturn hC hB dX11_deed_140 ⟨Nat.le_refl _, Nat.le_refl _⟩ ?_
          have e := ck 6 (by omega) h28_6
          subst e
          exact ⟨rfl, rfl⟩
        refine v_tableOut (q := 141) hC dX11_deed_28 (by have := lv_neT (a := 0) h28_0 rfl; have := lv_neT (a := 1) h28_1 rfl; have := lv_neT (a := 2) h28_2 rfl; have := lv_neT (a := 3) h28_3 rfl; have := lv_neT (a := 4) h28_4 rfl; have := lv_neT (a := 5) h28_5 rfl; have := lv_neT (a := 6) h28_6 rfl; omega) (by decide) ?_
        refine v_aload_n (q := 142) hC dX11_deed_141 rfl rfl rfl ?_
        refine v_getR (q := 145) (r := 28) hC dX11_deed_142 rfl fX11_58 (hL.1 0 (by decide)) (hL.2 0 6 28 rfl) ?_
        refine v_aload_n (q := 146) hC dX11_deed_145 rfl rfl rfl ?_
        refine v_getR (q := 149) (r := 28) hC dX11_deed_146 rfl fX11_58 (hL.1 0 (by decide)) (hL.2 0 6 28 rfl) ?_
        refine v_iload_n (q := 150) hC dX11_deed_149 rfl rfl rfl ?_
        refine v_callV1 (q := 153) (As := [_]) hC dX11_deed_150 rfl lX11_191 mX4_firstOf iX4_firstOf eX4_firstOf rfl (hL.1 28 (by decide)) (ct_X4_firstOf d hLg hd oL hx) rfl rfl (by omega) rfl (Nat.le_of_ble_eq_true rfl) ?_
        refine v_callV1 (q := 156) (As := [_]) hC dX11_deed_153 rfl lX11_194 mX4_isHome iX4_isHome eX4_isHome rfl (hL.1 28 (by decide)) (ct_X4_isHome d hLg hd oL (pFo_lt oL hm12 12 x hx)) rfl rfl (by omega) rfl (Nat.le_of_ble_eq_true rfl) ?_
        refine v_if_eq (q := 159) (tgt := 163) hC dX11_deed_156 rfl (by decide) (fun h156 => ?_) (fun h156 => ?_)
        · refine v_iconst (q := 164) (v := 0) hC dX11_deed_163 rfl (by decide) ?_
          refine v_ireturn hC hB dX11_deed_164 ⟨Nat.le_refl _, Nat.le_refl _⟩ ?_
          have e : k = 7 := by have n0 : k ≠ 0 := (fun z => h28_0 (by rw [z]; rfl)); have n1 : k ≠ 1 := (fun z => h28_1 (by rw [z]; rfl)); have n2 : k ≠ 2 := (fun z => h28_2 (by rw [z]; rfl)); have n3 : k ≠ 3 := (fun z => h28_3 (by rw [z]; rfl)); have n4 : k ≠ 4 := (fun z => h28_4 (by rw [z]; rfl)); have n5 : k ≠ 5 := (fun z => h28_5 (by rw [z]; rfl)); have n6 : k ≠ 6 := (fun z => h28_6 (by rw [z]; rfl)); omega
          subst e
          have e7 : pDd S x 7 = zb (pHm (qF S) (qF S 0 (pFo (qF S) 12 x)) 12 (qF S 5 (pFo (qF S) 12 x))) := rfl
          rw [e7]
          first | (rw [zb_ne h156]; exact ⟨rfl, rfl⟩) | (rw [zb_eq0.mp h156]; exact ⟨rfl, rfl⟩)
        · refine v_iconst (q := 160) (v := 1) hC dX11_deed_159 rfl (by decide) ?_
          refine v_goto (q := 164) hC dX11_deed_160 (by decide) ?_
          refine v_ireturn hC hB dX11_deed_164 ⟨Nat.le_refl _, Nat.le_refl _⟩ ?_
          have e : k = 7 := by have n0 : k ≠ 0 := (fun z => h28_0 (by rw [z]; rfl)); have n1 : k ≠ 1 := (fun z => h28_1 (by rw [z]; rfl)); have n2 : k ≠ 2 := (fun z => h28_2 (by rw [z]; rfl)); have n3 : k ≠ 3 := (fun z => h28_3 (by rw [z]; rfl)); have n4 : k ≠ 4 := (fun z => h28_4 (by rw [z]; rfl)); have n5 : k ≠ 5 := (fun z => h28_5 (by rw [z]; rfl)); have n6 : k ≠ 6 := (fun z => h28_6 (by rw [z]; rfl)); omega
          subst e
          have e7 : pDd S x 7 = zb (pHm (qF S) (qF S 0 (pFo (qF S) 12 x)) 12 (qF S 5 (pFo (qF S) 12 x))) := rfl
          rw [e7]
          first | (rw [zb_ne h156]; exact ⟨rfl, rfl⟩) | (rw [zb_eq0.mp h156]; exact ⟨rfl, rfl⟩)
      · refine v_bipush (q := 26) (v := -102) hC dX11_deed_24 rfl (by decide) ?_
        refine v_ireturn hC hB dX11_deed_26 ⟨Nat.le_refl _, Nat.le_refl _⟩ ?_
        have e1 : sDeed S (nI x) k = (-102, S) := by unfold sDeed; rw [if_pos hz]; exact if_pos (by first | exact Or.inl h15 | exact Or.inr (Int32.not_le.mp h21))
        rw [e1]
        exact ⟨rfl, rfl⟩
  · refine v_bipush (q := 13) (v := -101) hC dX11_deed_11 rfl (by decide) ?_
    refine v_ireturn hC hB dX11_deed_13 ⟨Nat.le_refl _, Nat.le_refl _⟩ ?_
    have e1 : sDeed S p k = (-101, S) := if_neg (by rw [zb_eq0.mp h8]; decide)
    rw [e1]
    exact ⟨rfl, rfl⟩

theorem cl_deed (d : Nat) {σ : zSt} {S : pS} {B : Nat} (h : zCl σ S) (ok : pOk B S) (p : Int32) (k : Int32) : zCt (d + 1) MX11_deed [.ref 0, .int p, .int k] σ (zQs zCl zFc σ (sDeed S p k)) := (ce_deed d h ok p k).qs h (by unfold sDeed; repeat (first | rfl | split))

set_option maxRecDepth 100000 in
set_option maxHeartbeats 4000000 in
theorem ce_count (d : Nat) {σ : zSt} {S : pS} {B : Nat} (h : zCl σ S) (ok : pOk B S) (k : Int32) : zEv (d + 2) MX11_count [.ref 0, .int k] σ (some (.int (sCount S k).1)) σ := by
  refine zCt.of (L := [some (.ref 0), some (.int k)]) (by decide) (Nat.le_of_ble_eq_true rfl) rfl (fun X hC hB => ?_)
  have hC : zC X RX11 cX11_count 2 (d + 2) 0 0 := hC
  have hB : zB X (some .int) 0 0 "count" σ _ := hB
  show zV X 2 0 [some (.ref 0), some (.int k)] [] 0 0 σ
  have h0 := h
  obtain ⟨hL, hPg, hF, hK, hp, h18, h23, hd, hy, hd2, hy2, hq⟩ := h
  obtain ⟨oB, oq, ow, oqt, ot, okm, omm, oq0, oL, oD, okr, okp, oK, osym, okp6, okd⟩ := ok
  have hn6 := hF.2.1
  have hm12 := hd.2.1
  have hLg := zLg.of hL (c := 28) (by simp)
  refine v_iload_n (q := 1) hC dX11_count_0 rfl rfl rfl ?_
  by_cases h1_0 : k = 0
  · refine v_tableIn (q := 60) (off := 59) hC dX11_count_1 (by rw [h1_0]; decide) (by rw [h1_0]; decide) (by rw [h1_0]; rfl) (by decide) ?_
    refine v_aload_n (q := 61) hC dX11_count_60 rfl rfl rfl ?_
    refine v_getR (q := 64) (r := 8) hC dX11_count_61 rfl fX11_26 (hL.1 0 (by decide)) (hL.2 0 2 8 rfl) ?_
    refine v_getR (q := 67) (r := 11) hC dX11_count_64 rfl fX11_105 (hL.1 8 (by decide)) (hL.2 8 1 11 rfl) ?_
    refine v_getI (q := 70) hC dX11_count_67 rfl fX11_109 (hL.1 11 (by decide)) ?_
    refine v_ireturn hC hB dX11_count_70 ⟨Nat.le_refl _, Nat.le_refl _⟩ ?_
    have e1 : (sCount S k).1 = pCou S 0 := by unfold sCount; rw [if_neg (by rw [h1_0]; decide), h1_0]; rfl
    rw [e1]
    rw [hK.2]
    exact ⟨rfl, rfl⟩
  by_cases h1_1 : k = 1
  · refine v_tableIn (q := 71) (off := 70) hC dX11_count_1 (by rw [h1_1]; decide) (by rw [h1_1]; decide) (by rw [h1_1]; rfl) (by decide) ?_
    refine v_aload_n (q := 72) hC dX11_count_71 rfl rfl rfl ?_
    refine v_getR (q := 75) (r := 8) hC dX11_count_72 rfl fX11_26 (hL.1 0 (by decide)) (hL.2 0 2 8 rfl) ?_
    refine v_getR (q := 78) (r := 9) hC dX11_count_75 rfl fX11_273 (hL.1 8 (by decide)) (hL.2 8 0 9 rfl) ?_
    refine v_getI (q := 81) hC dX11_count_78 rfl fX11_109 (hL.1 9 (by decide)) ?_
    refine v_ireturn hC hB dX11_count_81 ⟨Nat.le_refl _, Nat.le_refl _⟩ ?_
    have e1 : (sCount S k).1 = pCou S 1 := by unfold sCount; rw [if_neg (by rw [h1_1]; decide), h1_1]; rfl
    rw [e1]
    rw [hK.1]
    exact ⟨rfl, rfl⟩
  by_cases h1_2 : k = 2
  · refine v_tableIn (q := 82) (off := 81) hC dX11_count_1 (by rw [h1_2]; decide) (by rw [h1_2]; decide) (by rw [h1_2]; rfl) (by decide) ?_
    refine v_aload_n (q := 83) hC dX11_count_82 rfl rfl rfl ?_
    refine v_getR (q := 86) (r := 8) hC dX11_count_83 rfl fX11_26 (hL.1 0 (by decide)) (hL.2 0 2 8 rfl) ?_
    refine v_getI (q := 89) hC dX11_count_86 rfl fX11_276 (hL.1 8 (by decide)) ?_
    refine v_ireturn hC hB dX11_count_89 ⟨Nat.le_refl _, Nat.le_refl _⟩ ?_
    have e1 : (sCount S k).1 = pCou S 2 := by unfold sCount; rw [if_neg (by rw [h1_2]; decide), h1_2]; rfl
    rw [e1]
    rw [hF.2.2.2.2.1]
    exact ⟨rfl, rfl⟩
  by_cases h1_3 : k = 3
  · refine v_tableIn (q := 90) (off := 89) hC dX11_count_1 (by rw [h1_3]; decide) (by rw [h1_3]; decide) (by rw [h1_3]; rfl) (by decide) ?_
    refine v_aload_n (q := 91) hC dX11_count_90 rfl rfl rfl ?_
    refine v_getR (q := 94) (r := 8) hC dX11_count_91 rfl fX11_26 (hL.1 0 (by decide)) (hL.2 0 2 8 rfl) ?_
    refine v_getI (q := 97) hC dX11_count_94 rfl fX11_122 (hL.1 8 (by decide)) ?_
    refine v_ireturn hC hB dX11_count_97 ⟨Nat.le_refl _, Nat.le_refl _⟩ ?_
    have e1 : (sCount S k).1 = pCou S 3 := by unfold sCount; rw [if_neg (by rw [h1_3]; decide), h1_3]; rfl
    rw [e1]
    rw [hF.1]
    exact ⟨rfl, rfl⟩
  by_cases h1_4 : k = 4
  · refine v_tableIn (q := 98) (off := 97) hC dX11_count_1 (by rw [h1_4]; decide) (by rw [h1_4]; decide) (by rw [h1_4]; rfl) (by decide) ?_
    refine v_aload_n (q := 99) hC dX11_count_98 rfl rfl rfl ?_
    refine v_getR (q := 102) (r := 28) hC dX11_count_99 rfl fX11_58 (hL.1 0 (by decide)) (hL.2 0 6 28 rfl) ?_
    refine v_getI (q := 105) hC dX11_count_102 rfl fX11_243 (hL.1 28 (by decide)) ?_
    refine v_ireturn hC hB dX11_count_105 ⟨Nat.le_refl _, Nat.le_refl _⟩ ?_
    have e1 : (sCount S k).1 = pCou S 4 := by unfold sCount; rw [if_neg (by rw [h1_4]; decide), h1_4]; rfl
    rw [e1]
    rw [hd.1]
    exact ⟨rfl, rfl⟩
  by_cases h1_5 : k = 5
  · refine v_tableIn (q := 106) (off := 105) hC dX11_count_1 (by rw [h1_5]; decide) (by rw [h1_5]; decide) (by rw [h1_5]; rfl) (by decide) ?_
    refine v_aload_n (q := 107) hC dX11_count_106 rfl rfl rfl ?_
    refine v_getR (q := 110) (r := 28) hC dX11_count_107 rfl fX11_58 (hL.1 0 (by decide)) (hL.2 0 6 28 rfl) ?_
    refine v_callV1 (q := 113) (As := []) hC dX11_count_110 rfl lX11_244 mX4_openOnes iX4_openOnes eX4_openOnes rfl (hL.1 28 (by decide)) (ct_X4_openOnes d hLg hd) rfl rfl (by omega) rfl (Nat.le_of_ble_eq_true rfl) ?_
    refine v_ireturn hC hB dX11_count_113 ⟨Nat.le_refl _, Nat.le_refl _⟩ ?_
    have e1 : (sCount S k).1 = pCou S 5 := by unfold sCount; rw [if_neg (by rw [h1_5]; decide), h1_5]; rfl
    rw [e1]
    exact ⟨rfl, rfl⟩
  by_cases h1_6 : k = 6
  · refine v_tableIn (q := 114) (off := 113) hC dX11_count_1 (by rw [h1_6]; decide) (by rw [h1_6]; decide) (by rw [h1_6]; rfl) (by decide) ?_
    refine v_aload_n (q := 115) hC dX11_count_114 rfl rfl rfl ?_
    refine v_getR (q := 118) (r := 28) hC dX11_count_115 rfl fX11_58 (hL.1 0 (by decide)) (hL.2 0 6 28 rfl) ?_
    refine v_getI (q := 121) hC dX11_count_118 rfl fX11_197 (hL.1 28 (by decide)) ?_
    refine v_ireturn hC hB dX11_count_121 ⟨Nat.le_refl _, Nat.le_refl _⟩ ?_
    have e1 : (sCount S k).1 = pCou S 6 := by unfold sCount; rw [if_neg (by rw [h1_6]; decide), h1_6]; rfl
    rw [e1]
    rw [hd.2.2.1]
    exact ⟨rfl, rfl⟩
  by_cases h1_7 : k = 7
  · refine v_tableIn (q := 122) (off := 121) hC dX11_count_1 (by rw [h1_7]; decide) (by rw [h1_7]; decide) (by rw [h1_7]; rfl) (by decide) ?_
    refine v_aload_n (q := 123) hC dX11_count_122 rfl rfl rfl ?_
    refine v_getR (q := 126) (r := 28) hC dX11_count_123 rfl fX11_58 (hL.1 0 (by decide)) (hL.2 0 6 28 rfl) ?_
    refine v_callV1 (q := 129) (As := []) hC dX11_count_126 rfl lX11_248 mX4_homeChains iX4_homeChains eX4_homeChains rfl (hL.1 28 (by decide)) (ct_X4_homeChains d hLg hd oL) rfl rfl (by omega) rfl (Nat.le_of_ble_eq_true rfl) ?_
    refine v_ireturn hC hB dX11_count_129 ⟨Nat.le_refl _, Nat.le_refl _⟩ ?_
    have e1 : (sCount S k).1 = pCou S 7 := by unfold sCount; rw [if_neg (by rw [h1_7]; decide), h1_7]; rfl
    rw [e1]
    exact ⟨rfl, rfl⟩
  by_cases h1_8 : k = 8
  · refine v_tableIn (q := 130) (off := 129) hC dX11_count_1 (by rw [h1_8]; decide) (by rw [h1_8]; decide) (by rw [h1_8]; rfl) (by decide) ?_
    refine v_aload_n (q := 131) hC dX11_count_130 rfl rfl rfl ?_
    refine v_getR (q := 134) (r := 42) hC dX11_count_131 rfl fX11_68 (hL.1 0 (by decide)) (hL.2 0 8 42 rfl) ?_
    refine v_getI (q := 137) hC dX11_count_134 rfl fX11_101 (hL.1 42 (by decide)) ?_
    refine v_ireturn hC hB dX11_count_137 ⟨Nat.le_refl _, Nat.le_refl _⟩ ?_
    have e1 : (sCount S k).1 = pCou S 8 := by unfold sCount; rw [if_neg (by rw [h1_8]; decide), h1_8]; rfl
    rw [e1]
    rw [hy.1]
    exact ⟨rfl, rfl⟩
  by_cases h1_9 : k = 9
  · refine v_tableIn (q := 138) (off := 137) hC dX11_count_1 (by rw [h1_9]; decide) (by rw [h1_9]; decide) (by rw [h1_9]; rfl) (by decide) ?_
    refine v_aload_n (q := 139) hC dX11_count_138 rfl rfl rfl ?_
    refine v_getR (q := 142) (r := 1) hC dX11_count_139 rfl fX11_10 (hL.1 0 (by decide)) (hL.2 0 0 1 rfl) ?_
    refine v_getI (q := 145) hC dX11_count_142 rfl fX11_78 (hL.1 1 (by decide)) ?_
    refine v_ireturn hC hB dX11_count_145 ⟨Nat.le_refl _, Nat.le_refl _⟩ ?_
    have e1 : (sCount S k).1 = pCou S 9 := by unfold sCount; rw [if_neg (by rw [h1_9]; decide), h1_9]; rfl
    rw [e1]
    rw [hPg.1]
    exact ⟨rfl, rfl⟩
  by_cases h1_10 : k = 10
  · refine v_tableIn (q := 146) (off := 145) hC dX11_count_1 (by rw [h1_10]; decide) (by rw [h1_10]; decide) (by rw [h1_10]; rfl) (by decide) ?_
    refine v_aload_n (q := 147) hC dX11_count_146 rfl rfl rfl ?_
    refine v_getI (q := 150) hC dX11_count_147 rfl fX11_102 (hL.1 0 (by decide)) ?_
    refine v_ireturn hC hB dX11_count_150 ⟨Nat.le_refl _, Nat.le_refl _⟩ ?_
    have e1 : (sCount S k).1 = pCou S 10 := by unfold sCount; rw [if_neg (by rw [h1_10]; decide), h1_10]; rfl
    rw [e1]
    rw [hq.1]
    exact ⟨rfl, rfl⟩
  refine v_tableOut (q := 151) hC dX11_count_1 (by have := lv_neT (a := 0) h1_0 rfl; have := lv_neT (a := 1) h1_1 rfl; have := lv_neT (a := 2) h1_2 rfl; have := lv_neT (a := 3) h1_3 rfl; have := lv_neT (a := 4) h1_4 rfl; have := lv_neT (a := 5) h1_5 rfl; have := lv_neT (a := 6) h1_6 rfl; have := lv_neT (a := 7) h1_7 rfl; have := lv_neT (a := 8) h1_8 rfl; have := lv_neT (a := 9) h1_9 rfl; have := lv_neT (a := 10) h1_10 rfl; omega) (by decide) ?_
  refine v_bipush (q := 153) (v := -102) hC dX11_count_151 rfl (by decide) ?_
  refine v_ireturn hC hB dX11_count_153 ⟨Nat.le_refl _, Nat.le_refl _⟩ ?_
  have e1 : sCount S k = (-102, S) := if_pos (by
    have e10 : (10 : Int32).toInt = 10 := rfl
    have e00 : (0 : Int32).toInt = 0 := rfl
    rw [Int32.lt_iff_toInt_lt, Int32.lt_iff_toInt_lt, e10, e00]
    have n0 := lv_neT (a := 0) h1_0 rfl; have n1 := lv_neT (a := 1) h1_1 rfl; have n2 := lv_neT (a := 2) h1_2 rfl; have n3 := lv_neT (a := 3) h1_3 rfl; have n4 := lv_neT (a := 4) h1_4 rfl; have n5 := lv_neT (a := 5) h1_5 rfl; have n6 := lv_neT (a := 6) h1_6 rfl; have n7 := lv_neT (a := 7) h1_7 rfl; have n8 := lv_neT (a := 8) h1_8 rfl; have n9 := lv_neT (a := 9) h1_9 rfl; have n10 := lv_neT (a := 10) h1_10 rfl; omega)
  rw [e1]
  exact ⟨rfl, rfl⟩

theorem cl_count (d : Nat) {σ : zSt} {S : pS} {B : Nat} (h : zCl σ S) (ok : pOk B S) (k : Int32) : zCt (d + 2) MX11_count [.ref 0, .int k] σ (zQs zCl zFc σ (sCount S k)) := (ce_count d h ok k).qs h (by unfold sCount; repeat (first | rfl | split))

/-- who did a favour, FOR whom -/
theorem pFn {m n w : Nat} {F : Nat → Nat → Int32} (hw : pLw m F n w) (hn : n ≤ 6) {f : Nat} (hf : f < m) : F 0 f = nI (dN (F 0 f)) ∧ dN (F 0 f) < n ∧ F 1 f = nI (dN (F 1 f)) ∧ dN (F 1 f) < n := by
  obtain ⟨⟨a, ha, ea⟩, ⟨b, hb, eb⟩, -⟩ := hw.2 f hf
  rw [ea, eb, dN_nI (by omega), dN_nI (by omega)]
  exact ⟨rfl, ha, rfl, hb⟩

set_option maxRecDepth 100000 in
set_option maxHeartbeats 4000000 in
theorem cl_bars (d : Nat) {σ : zSt} {S : pS} {B : Nat} (h : zCl σ S) (ok : pOk B S) (f : Int32) (p : Int32) : zCt (d + 6) MX11_bars [.ref 0, .int f, .int p] σ (zQs zCl zFc σ (sBars S f p)) := by
  refine zCt.of (L := [some (.ref 0), some (.int f), some (.int p)]) (by decide) (Nat.le_of_ble_eq_true rfl) rfl (fun X hC hB => ?_)
  have hC : zC X RX11 cX11_bars 3 (d + 6) 0 0 := hC
  have hB : zB X (some .int) 0 0 "bars" σ _ := hB
  show zV X 3 0 [some (.ref 0), some (.int f), some (.int p)] [] 0 0 σ
  have h0 := h
  obtain ⟨hL, hPg, hF, hK, hp, h18, h23, hd, hy, hd2, hy2, hq⟩ := h
  obtain ⟨oB, oq, ow, oqt, ot, okm, omm, oq0, oL, oD, okr, okp, oK, osym, okp6, okd⟩ := ok
  have hn6 := hF.2.1
  have hm12 := hd.2.1
  have hLg := zLg.of hL (c := 28) (by simp)
  obtain ⟨a1, b1, hw⟩ := h18
  refine v_aload_n (q := 1) hC dX11_bars_0 rfl rfl rfl ?_
  refine v_getR (q := 4) (r := 28) hC dX11_bars_1 rfl fX11_58 (hL.1 0 (by decide)) (hL.2 0 6 28 rfl) ?_
  refine v_iload_n (q := 5) hC dX11_bars_4 rfl rfl rfl ?_
  refine v_callV1 (q := 8) (As := [_]) hC dX11_bars_5 rfl lX11_156 mX4_has iX4_has eX4_has rfl (hL.1 28 (by decide)) (ct_X4_has (d + 5) hLg hd _) rfl rfl (by omega) rfl (Nat.le_of_ble_eq_true rfl) ?_
  refine v_if_eq (q := 11) (tgt := 22) hC dX11_bars_8 rfl (by decide) (fun h8 => ?_) (fun h8 => ?_)
  · refine v_bipush (q := 24) (v := -101) hC dX11_bars_22 rfl (by decide) ?_
    refine v_ireturn hC hB dX11_bars_24 ⟨Nat.le_refl _, Nat.le_refl _⟩ ?_
    refine zQs.mk (by unfold sBars; exact if_neg (by first | (rw [zb_eq0.mp h8]; simp) | (rw [zb_eq0.mp h19]; simp))) h0 (zFc.of (cs := []) (rs := []) zSame.rf rfl rfl)
  · refine v_aload_n (q := 12) hC dX11_bars_11 rfl rfl rfl ?_
    refine v_getR (q := 15) (r := 8) hC dX11_bars_12 rfl fX11_26 (hL.1 0 (by decide)) (hL.2 0 2 8 rfl) ?_
    refine v_iload_n (q := 16) hC dX11_bars_15 rfl rfl rfl ?_
    refine v_callV1 (q := 19) (As := [_]) hC dX11_bars_16 rfl lX11_129 mX2_has iX2_has eX2_has rfl (hL.1 8 (by decide)) (ct_X2_has (d + 5) hL hF.1 hn6 _) rfl rfl (by omega) rfl (Nat.le_of_ble_eq_true rfl) ?_
    refine v_if_ne (q := 22) (tgt := 25) hC dX11_bars_19 rfl (by decide) (fun h19 => ?_) (fun h19 => ?_)
    · have hz1 := zb_ne h8
      obtain ⟨x, hx, rfl⟩ := zval_of (by omega) hz1
      have hz2 := zb_ne h19
      obtain ⟨y, hy_, rfl⟩ := zval_of (by omega) hz2
      obtain ⟨e0, l0, e1, l1⟩ := pFn oL hn6 hx
      refine v_aload_n (q := 26) hC dX11_bars_25 rfl rfl rfl ?_
      refine v_getR (q := 29) (r := 28) hC dX11_bars_26 rfl fX11_58 (hL.1 0 (by decide)) (hL.2 0 6 28 rfl) ?_
      refine v_iload_n (q := 30) hC dX11_bars_29 rfl rfl rfl ?_
      refine v_callV1 (q := 33) (As := [_]) hC dX11_bars_30 rfl lX11_200 mX4_isOpen iX4_isOpen eX4_isOpen rfl (hL.1 28 (by decide)) (ct_X4_isOpen (d + 5) hLg hd hx) rfl rfl (by omega) rfl (Nat.le_of_ble_eq_true rfl) ?_
      refine v_if_ne (q := 36) (tgt := 39) hC dX11_bars_33 rfl (by decide) (fun h33 => ?_) (fun h33 => ?_)
      · have hop : qF S 5 x = -1 := of_decide_eq_true (zb_ne h33)
        refine v_aload_n (q := 40) hC dX11_bars_39 rfl rfl rfl ?_
        refine v_getR (q := 43) (r := 17) hC dX11_bars_40 rfl fX11_44 (hL.1 0 (by decide)) (hL.2 0 4 17 rfl) ?_
        refine v_aload_n (q := 44) hC dX11_bars_43 rfl rfl rfl ?_
        refine v_getR (q := 47) (r := 28) hC dX11_bars_44 rfl fX11_58 (hL.1 0 (by decide)) (hL.2 0 6 28 rfl) ?_
        refine v_getR (q := 50) (r := 29) hC dX11_bars_47 rfl fX11_170 (hL.1 28 (by decide)) (hL.2 28 0 29 rfl) ?_
        refine v_iload_n (q := 51) hC dX11_bars_50 rfl rfl rfl ?_
        refine v_ialdN (q := 52) (j := x) hC dX11_bars_51 rfl (hL.1 29 (by decide)) rfl (by omega) (by decide) ?_
        rw [show zI σ 29 x = nI (dN (qF S 0 x)) from (hd.2.2.2 0 x (by decide) hx).trans e0]
        refine v_aload_n (q := 53) hC dX11_bars_52 rfl rfl rfl ?_
        refine v_getR (q := 56) (r := 28) hC dX11_bars_53 rfl fX11_58 (hL.1 0 (by decide)) (hL.2 0 6 28 rfl) ?_
        refine v_getR (q := 59) (r := 30) hC dX11_bars_56 rfl fX11_173 (hL.1 28 (by decide)) (hL.2 28 1 30 rfl) ?_
        refine v_iload_n (q := 60) hC dX11_bars_59 rfl rfl rfl ?_
        refine v_ialdN (q := 61) (j := x) hC dX11_bars_60 rfl (hL.1 30 (by decide)) rfl (by omega) (by decide) ?_
        rw [show zI σ 30 x = nI (dN (qF S 1 x)) from (hd.2.2.2 1 x (by decide) hx).trans e1]
        refine v_iload_n (q := 62) hC dX11_bars_61 rfl rfl rfl ?_
        refine v_callVQ (q := 65) (As := [_, _, _]) hC dX11_bars_62 rfl lX11_213 mX10_leastBar iX10_leastBar eX10_leastBar rfl (hL.1 17 (by decide)) (ct_X10_leastBar d hL hF hp hw l0 l1 hy_) rfl rfl (by omega) (by decide) (Nat.le_of_ble_eq_true rfl) ?_
        rintro _ σ1 ⟨rfl, hS, hp1, hr18⟩
        refine v_ireturn hC hB dX11_bars_65 ⟨Nat.le_refl _, Nat.le_refl _⟩ ?_
        refine zQs.mk (S' := S) (by unfold sBars; rw [if_pos (by rw [hz1, hz2]; rfl), dN_nI (by omega), dN_nI (by omega), if_pos hop]; rfl) ?_ (zFc.of hS rfl rfl)
        exact ⟨hL.same hS rfl, hPg.same hS rfl, hF.same hS rfl, hK.same hS rfl, hp1, hr18, h23.same hS rfl, hd.same hS rfl, hy.same hS rfl, hd2.same hS rfl, hy2.same hS rfl, hq.same hS rfl⟩
      · refine v_bipush (q := 38) (v := -103) hC dX11_bars_36 rfl (by decide) ?_
        refine v_ireturn hC hB dX11_bars_38 ⟨Nat.le_refl _, Nat.le_refl _⟩ ?_
        refine zQs.mk (by unfold sBars; rw [if_pos (by rw [hz1, hz2]; rfl), dN_nI (by omega)]; exact if_neg (of_decide_eq_false (zb_eq0.mp h33))) h0 (zFc.of (cs := []) (rs := []) zSame.rf rfl rfl)
    · refine v_bipush (q := 24) (v := -101) hC dX11_bars_22 rfl (by decide) ?_
      refine v_ireturn hC hB dX11_bars_24 ⟨Nat.le_refl _, Nat.le_refl _⟩ ?_
      refine zQs.mk (by unfold sBars; exact if_neg (by first | (rw [zb_eq0.mp h8]; simp) | (rw [zb_eq0.mp h19]; simp))) h0 (zFc.of (cs := []) (rs := []) zSame.rf rfl rfl)

set_option maxRecDepth 100000 in
set_option maxHeartbeats 4000000 in
theorem cl_meeting (d : Nat) {σ : zSt} {S : pS} {B : Nat} (h : zCl σ S) (ok : pOk B S) (f : Int32) (p : Int32) : zCt (d + 6) MX11_meeting [.ref 0, .int f, .int p] σ (zQs zCl zFc σ (sMeeting S f p)) := by
  refine zCt.of (L := [some (.ref 0), some (.int f), some (.int p)]) (by decide) (Nat.le_of_ble_eq_true rfl) rfl (fun X hC hB => ?_)
  have hC : zC X RX11 cX11_meeting 3 (d + 6) 0 0 := hC
  have hB : zB X (some .int) 0 0 "meeting" σ _ := hB
  show zV X 3 0 [some (.ref 0), some (.int f), some (.int p)] [] 0 0 σ
  have h0 := h
  obtain ⟨hL, hPg, hF, hK, hp, h18, h23, hd, hy, hd2, hy2, hq⟩ := h
  obtain ⟨oB, oq, ow, oqt, ot, okm, omm, oq0, oL, oD, okr, okp, oK, osym, okp6, okd⟩ := ok
  have hn6 := hF.2.1
  have hm12 := hd.2.1
  have hLg := zLg.of hL (c := 28) (by simp)
  obtain ⟨a1, b1, hw⟩ := h18
  refine v_aload_n (q := 1) hC dX11_meeting_0 rfl rfl rfl ?_
  refine v_getR (q := 4) (r := 28) hC dX11_meeting_1 rfl fX11_58 (hL.1 0 (by decide)) (hL.2 0 6 28 rfl) ?_
  refine v_iload_n (q := 5) hC dX11_meeting_4 rfl rfl rfl ?_
  refine v_callV1 (q := 8) (As := [_]) hC dX11_meeting_5 rfl lX11_156 mX4_has iX4_has eX4_has rfl (hL.1 28 (by decide)) (ct_X4_has (d + 5) hLg hd _) rfl rfl (by omega) rfl (Nat.le_of_ble_eq_true rfl) ?_
  refine v_if_eq (q := 11) (tgt := 22) hC dX11_meeting_8 rfl (by decide) (fun h8 => ?_) (fun h8 => ?_)
  · refine v_bipush (q := 24) (v := -101) hC dX11_meeting_22 rfl (by decide) ?_
    refine v_ireturn hC hB dX11_meeting_24 ⟨Nat.le_refl _, Nat.le_refl _⟩ ?_
    refine zQs.mk (by unfold sMeeting; exact if_neg (by first | (rw [zb_eq0.mp h8]; simp) | (rw [zb_eq0.mp h19]; simp))) h0 (zFc.of (cs := []) (rs := []) zSame.rf rfl rfl)
  · refine v_aload_n (q := 12) hC dX11_meeting_11 rfl rfl rfl ?_
    refine v_getR (q := 15) (r := 8) hC dX11_meeting_12 rfl fX11_26 (hL.1 0 (by decide)) (hL.2 0 2 8 rfl) ?_
    refine v_iload_n (q := 16) hC dX11_meeting_15 rfl rfl rfl ?_
    refine v_callV1 (q := 19) (As := [_]) hC dX11_meeting_16 rfl lX11_129 mX2_has iX2_has eX2_has rfl (hL.1 8 (by decide)) (ct_X2_has (d + 5) hL hF.1 hn6 _) rfl rfl (by omega) rfl (Nat.le_of_ble_eq_true rfl) ?_
    refine v_if_ne (q := 22) (tgt := 25) hC dX11_meeting_19 rfl (by decide) (fun h19 => ?_) (fun h19 => ?_)
    · have hz1 := zb_ne h8
      obtain ⟨x, hx, rfl⟩ := zval_of (by omega) hz1
      have hz2 := zb_ne h19
      obtain ⟨y, hy_, rfl⟩ := zval_of (by omega) hz2
      obtain ⟨e0, l0, e1, l1⟩ := pFn oL hn6 hx
      refine v_aload_n (q := 26) hC dX11_meeting_25 rfl rfl rfl ?_
      refine v_getR (q := 29) (r := 28) hC dX11_meeting_26 rfl fX11_58 (hL.1 0 (by decide)) (hL.2 0 6 28 rfl) ?_
      refine v_iload_n (q := 30) hC dX11_meeting_29 rfl rfl rfl ?_
      refine v_callV1 (q := 33) (As := [_]) hC dX11_meeting_30 rfl lX11_200 mX4_isOpen iX4_isOpen eX4_isOpen rfl (hL.1 28 (by decide)) (ct_X4_isOpen (d + 5) hLg hd hx) rfl rfl (by omega) rfl (Nat.le_of_ble_eq_true rfl) ?_
      refine v_if_ne (q := 36) (tgt := 39) hC dX11_meeting_33 rfl (by decide) (fun h33 => ?_) (fun h33 => ?_)
      · have hop : qF S 5 x = -1 := of_decide_eq_true (zb_ne h33)
        refine v_aload_n (q := 40) hC dX11_meeting_39 rfl rfl rfl ?_
        refine v_getR (q := 43) (r := 17) hC dX11_meeting_40 rfl fX11_44 (hL.1 0 (by decide)) (hL.2 0 4 17 rfl) ?_
        refine v_aload_n (q := 44) hC dX11_meeting_43 rfl rfl rfl ?_
        refine v_getR (q := 47) (r := 28) hC dX11_meeting_44 rfl fX11_58 (hL.1 0 (by decide)) (hL.2 0 6 28 rfl) ?_
        refine v_getR (q := 50) (r := 29) hC dX11_meeting_47 rfl fX11_170 (hL.1 28 (by decide)) (hL.2 28 0 29 rfl) ?_
        refine v_iload_n (q := 51) hC dX11_meeting_50 rfl rfl rfl ?_
        refine v_ialdN (q := 52) (j := x) hC dX11_meeting_51 rfl (hL.1 29 (by decide)) rfl (by omega) (by decide) ?_
        rw [show zI σ 29 x = nI (dN (qF S 0 x)) from (hd.2.2.2 0 x (by decide) hx).trans e0]
        refine v_aload_n (q := 53) hC dX11_meeting_52 rfl rfl rfl ?_
        refine v_getR (q := 56) (r := 28) hC dX11_meeting_53 rfl fX11_58 (hL.1 0 (by decide)) (hL.2 0 6 28 rfl) ?_
        refine v_getR (q := 59) (r := 30) hC dX11_meeting_56 rfl fX11_173 (hL.1 28 (by decide)) (hL.2 28 1 30 rfl) ?_
        refine v_iload_n (q := 60) hC dX11_meeting_59 rfl rfl rfl ?_
        refine v_ialdN (q := 61) (j := x) hC dX11_meeting_60 rfl (hL.1 30 (by decide)) rfl (by omega) (by decide) ?_
        rw [show zI σ 30 x = nI (dN (qF S 1 x)) from (hd.2.2.2 1 x (by decide) hx).trans e1]
        refine v_iload_n (q := 62) hC dX11_meeting_61 rfl rfl rfl ?_
        refine v_callVQ (q := 65) (As := [_, _, _]) hC dX11_meeting_62 rfl lX11_216 mX10_bestMeeting iX10_bestMeeting eX10_bestMeeting rfl (hL.1 17 (by decide)) (ct_X10_bestMeeting d hL hF hp hw l0 l1 hy_) rfl rfl (by omega) (by decide) (Nat.le_of_ble_eq_true rfl) ?_
        rintro _ σ1 ⟨rfl, hS, hp1, hr18⟩
        refine v_ireturn hC hB dX11_meeting_65 ⟨Nat.le_refl _, Nat.le_refl _⟩ ?_
        refine zQs.mk (S' := S) (by unfold sMeeting; rw [if_pos (by rw [hz1, hz2]; rfl), dN_nI (by omega), dN_nI (by omega), if_pos hop]; rfl) ?_ (zFc.of hS rfl rfl)
        exact ⟨hL.same hS rfl, hPg.same hS rfl, hF.same hS rfl, hK.same hS rfl, hp1, hr18, h23.same hS rfl, hd.same hS rfl, hy.same hS rfl, hd2.same hS rfl, hy2.same hS rfl, hq.same hS rfl⟩
      · refine v_bipush (q := 38) (v := -103) hC dX11_meeting_36 rfl (by decide) ?_
        refine v_ireturn hC hB dX11_meeting_38 ⟨Nat.le_refl _, Nat.le_refl _⟩ ?_
        refine zQs.mk (by unfold sMeeting; rw [if_pos (by rw [hz1, hz2]; rfl), dN_nI (by omega)]; exact if_neg (of_decide_eq_false (zb_eq0.mp h33))) h0 (zFc.of (cs := []) (rs := []) zSame.rf rfl rfl)
    · refine v_bipush (q := 24) (v := -101) hC dX11_meeting_22 rfl (by decide) ?_
      refine v_ireturn hC hB dX11_meeting_24 ⟨Nat.le_refl _, Nat.le_refl _⟩ ?_
      refine zQs.mk (by unfold sMeeting; exact if_neg (by first | (rw [zb_eq0.mp h8]; simp) | (rw [zb_eq0.mp h19]; simp))) h0 (zFc.of (cs := []) (rs := []) zSame.rf rfl rfl)

set_option maxRecDepth 100000 in
set_option maxHeartbeats 4000000 in
theorem cl_reach (d : Nat) {σ : zSt} {S : pS} {B : Nat} (h : zCl σ S) (ok : pOk B S) (f : Int32) : zCt (d + 4) MX11_reach [.ref 0, .int f] σ (zQs zCl zFc σ (sReach S f)) := by
  refine zCt.of (L := [some (.ref 0), some (.int f)]) (by decide) (Nat.le_of_ble_eq_true rfl) rfl (fun X hC hB => ?_)
  have hC : zC X RX11 cX11_reach 2 (d + 4) 0 0 := hC
  have hB : zB X (some .int) 0 0 "reach" σ _ := hB
  show zV X 2 0 [some (.ref 0), some (.int f)] [] 0 0 σ
  have h0 := h
  obtain ⟨hL, hPg, hF, hK, hp, h18, h23, hd, hy, hd2, hy2, hq⟩ := h
  obtain ⟨oB, oq, ow, oqt, ot, okm, omm, oq0, oL, oD, okr, okp, oK, osym, okp6, okd⟩ := ok
  have hn6 := hF.2.1
  have hm12 := hd.2.1
  have hLg := zLg.of hL (c := 28) (by simp)
  obtain ⟨a1, b1, hw⟩ := h18
  refine v_aload_n (q := 1) hC dX11_reach_0 rfl rfl rfl ?_
  refine v_getR (q := 4) (r := 28) hC dX11_reach_1 rfl fX11_58 (hL.1 0 (by decide)) (hL.2 0 6 28 rfl) ?_
  refine v_iload_n (q := 5) hC dX11_reach_4 rfl rfl rfl ?_
  refine v_callV1 (q := 8) (As := [_]) hC dX11_reach_5 rfl lX11_156 mX4_has iX4_has eX4_has rfl (hL.1 28 (by decide)) (ct_X4_has (d + 3) hLg hd _) rfl rfl (by omega) rfl (Nat.le_of_ble_eq_true rfl) ?_
  refine v_if_ne (q := 11) (tgt := 14) hC dX11_reach_8 rfl (by decide) (fun h8 => ?_) (fun h8 => ?_)
  · have hz1 := zb_ne h8
    obtain ⟨x, hx, rfl⟩ := zval_of (by omega) hz1
    obtain ⟨e0, l0, e1, l1⟩ := pFn oL hn6 hx
    refine v_aload_n (q := 15) hC dX11_reach_14 rfl rfl rfl ?_
    refine v_getR (q := 18) (r := 28) hC dX11_reach_15 rfl fX11_58 (hL.1 0 (by decide)) (hL.2 0 6 28 rfl) ?_
    refine v_iload_n (q := 19) hC dX11_reach_18 rfl rfl rfl ?_
    refine v_callV1 (q := 22) (As := [_]) hC dX11_reach_19 rfl lX11_200 mX4_isOpen iX4_isOpen eX4_isOpen rfl (hL.1 28 (by decide)) (ct_X4_isOpen (d + 3) hLg hd hx) rfl rfl (by omega) rfl (Nat.le_of_ble_eq_true rfl) ?_
    refine v_if_ne (q := 25) (tgt := 28) hC dX11_reach_22 rfl (by decide) (fun h22 => ?_) (fun h22 => ?_)
    · have hop : qF S 5 x = -1 := of_decide_eq_true (zb_ne h22)
      refine v_aload_n (q := 29) hC dX11_reach_28 rfl rfl rfl ?_
      refine v_getR (q := 32) (r := 17) hC dX11_reach_29 rfl fX11_44 (hL.1 0 (by decide)) (hL.2 0 4 17 rfl) ?_
      refine v_aload_n (q := 33) hC dX11_reach_32 rfl rfl rfl ?_
      refine v_getR (q := 36) (r := 28) hC dX11_reach_33 rfl fX11_58 (hL.1 0 (by decide)) (hL.2 0 6 28 rfl) ?_
      refine v_getR (q := 39) (r := 29) hC dX11_reach_36 rfl fX11_170 (hL.1 28 (by decide)) (hL.2 28 0 29 rfl) ?_
      refine v_iload_n (q := 40) hC dX11_reach_39 rfl rfl rfl ?_
      refine v_ialdN (q := 41) (j := x) hC dX11_reach_40 rfl (hL.1 29 (by decide)) rfl (by omega) (by decide) ?_
      rw [show zI σ 29 x = nI (dN (qF S 0 x)) from (hd.2.2.2 0 x (by decide) hx).trans e0]
      refine v_aload_n (q := 42) hC dX11_reach_41 rfl rfl rfl ?_
      refine v_getR (q := 45) (r := 28) hC dX11_reach_42 rfl fX11_58 (hL.1 0 (by decide)) (hL.2 0 6 28 rfl) ?_
      refine v_getR (q := 48) (r := 30) hC dX11_reach_45 rfl fX11_173 (hL.1 28 (by decide)) (hL.2 28 1 30 rfl) ?_
      refine v_iload_n (q := 49) hC dX11_reach_48 rfl rfl rfl ?_
      refine v_ialdN (q := 50) (j := x) hC dX11_reach_49 rfl (hL.1 30 (by decide)) rfl (by omega) (by decide) ?_
      rw [show zI σ 30 x = nI (dN (qF S 1 x)) from (hd.2.2.2 1 x (by decide) hx).trans e1]
      refine v_callVQ (q := 53) (As := [_, _]) hC dX11_reach_50 rfl lX11_210 mX10_reached iX10_reached eX10_reached rfl (hL.1 17 (by decide)) (ct_X10_reached d hL hF.1 hn6 hp hw l0 l1) rfl rfl (by omega) (by decide) (Nat.le_of_ble_eq_true rfl) ?_
      rintro _ σ1 ⟨rfl, hS, hr18⟩
      refine v_ireturn hC hB dX11_reach_53 ⟨Nat.le_refl _, Nat.le_refl _⟩ ?_
      exact zQs.mk (S' := S) (by unfold sReach; rw [if_pos hz1, dN_nI (by omega), if_pos hop]) (h0.sc hS rfl rfl hr18 (h23.same hS rfl)) (zFc.of hS rfl rfl)
    · refine v_bipush (q := 27) (v := -103) hC dX11_reach_25 rfl (by decide) ?_
      refine v_ireturn hC hB dX11_reach_27 ⟨Nat.le_refl _, Nat.le_refl _⟩ ?_
      exact zQs.mk (by unfold sReach; rw [if_pos hz1, dN_nI (by omega)]; exact if_neg (of_decide_eq_false (zb_eq0.mp h22))) h0 (zFc.of (cs := []) (rs := []) zSame.rf rfl rfl)
  · refine v_bipush (q := 13) (v := -101) hC dX11_reach_11 rfl (by decide) ?_
    refine v_ireturn hC hB dX11_reach_13 ⟨Nat.le_refl _, Nat.le_refl _⟩ ?_
    exact zQs.mk (if_neg (by rw [zb_eq0.mp h8]; decide)) h0 (zFc.of (cs := []) (rs := []) zSame.rf rfl rfl)

set_option maxRecDepth 100000 in
set_option maxHeartbeats 4000000 in
theorem cl_way (d : Nat) {σ : zSt} {S : pS} {B : Nat} (h : zCl σ S) (ok : pOk B S) (f : Int32) (p : Int32) (k : Int32) : zCt (d + 4) MX11_way [.ref 0, .int f, .int p, .int k] σ (zQs zCl zFc σ (sWay S f p k)) := by
  refine zCt.of (L := [some (.ref 0), some (.int f), some (.int p), some (.int k), none]) (by decide) (Nat.le_of_ble_eq_true rfl) rfl (fun X hC hB => ?_)
  have hC : zC X RX11 cX11_way 5 (d + 4) 0 0 := hC
  have hB : zB X (some .int) 0 0 "way" σ _ := hB
  show zV X 5 0 [some (.ref 0), some (.int f), some (.int p), some (.int k), none] [] 0 0 σ
  have h0 := h
  obtain ⟨hL, hPg, hF, hK, hp, h18, h23, hd, hy, hd2, hy2, hq⟩ := h
  obtain ⟨oB, oq, ow, oqt, ot, okm, omm, oq0, oL, oD, okr, okp, oK, osym, okp6, okd⟩ := ok
  have hn6 := hF.2.1
  have hm12 := hd.2.1
  have hLg := zLg.of hL (c := 28) (by simp)
  obtain ⟨a1, b1, hw⟩ := h18
  refine v_aload_n (q := 1) hC dX11_way_0 rfl rfl rfl ?_
  refine v_getR (q := 4) (r := 28) hC dX11_way_1 rfl fX11_58 (hL.1 0 (by decide)) (hL.2 0 6 28 rfl) ?_
  refine v_iload_n (q := 5) hC dX11_way_4 rfl rfl rfl ?_
  refine v_callV1 (q := 8) (As := [_]) hC dX11_way_5 rfl lX11_156 mX4_has iX4_has eX4_has rfl (hL.1 28 (by decide)) (ct_X4_has (d + 3) hLg hd _) rfl rfl (by omega) rfl (Nat.le_of_ble_eq_true rfl) ?_
  refine v_if_eq (q := 11) (tgt := 22) hC dX11_way_8 rfl (by decide) (fun h8 => ?_) (fun h8 => ?_)
  · refine v_bipush (q := 24) (v := -101) hC dX11_way_22 rfl (by decide) ?_
    refine v_ireturn hC hB dX11_way_24 ⟨Nat.le_refl _, Nat.le_refl _⟩ ?_
    exact zQs.mk (by unfold sWay; exact if_neg (by first | (rw [zb_eq0.mp h8]; simp) | (rw [zb_eq0.mp h19]; simp))) h0 (zFc.of (cs := []) (rs := []) zSame.rf rfl rfl)
  · refine v_aload_n (q := 12) hC dX11_way_11 rfl rfl rfl ?_
    refine v_getR (q := 15) (r := 8) hC dX11_way_12 rfl fX11_26 (hL.1 0 (by decide)) (hL.2 0 2 8 rfl) ?_
    refine v_iload_n (q := 16) hC dX11_way_15 rfl rfl rfl ?_
    refine v_callV1 (q := 19) (As := [_]) hC dX11_way_16 rfl lX11_129 mX2_has iX2_has eX2_has rfl (hL.1 8 (by decide)) (ct_X2_has (d + 3) hL hF.1 hn6 _) rfl rfl (by omega) rfl (Nat.le_of_ble_eq_true rfl) ?_
    refine v_if_ne (q := 22) (tgt := 25) hC dX11_way_19 rfl (by decide) (fun h19 => ?_) (fun h19 => ?_)
    · have hz1 := zb_ne h8
      obtain ⟨x, hx, rfl⟩ := zval_of (by omega) hz1
      have hz2 := zb_ne h19
      obtain ⟨y, hy_, rfl⟩ := zval_of (by omega) hz2
      obtain ⟨e0, l0, e1, l1⟩ := pFn oL hn6 hx
      refine v_iload_n (q := 26) hC dX11_way_25 rfl rfl rfl ?_
      refine v_if_lt (q := 29) (tgt := 34) hC dX11_way_26 rfl (by decide) (fun h26 => ?_) (fun h26 => ?_)
      · refine v_bipush (q := 36) (v := -102) hC dX11_way_34 rfl (by decide) ?_
        refine v_ireturn hC hB dX11_way_36 ⟨Nat.le_refl _, Nat.le_refl _⟩ ?_
        exact zQs.mk (by unfold sWay; rw [if_pos (by rw [hz1, hz2]; rfl)]; exact if_pos (by first | exact Or.inl h26 | exact Or.inr (Int32.not_le.mp h31))) h0 (zFc.of (cs := []) (rs := []) zSame.rf rfl rfl)
      · refine v_iload_n (q := 30) hC dX11_way_29 rfl rfl rfl ?_
        refine v_iconst (q := 31) (v := 1) hC dX11_way_30 rfl (by decide) ?_
        refine v_icmp_le (q := 34) (tgt := 37) hC dX11_way_31 rfl (by decide) (fun h31 => ?_) (fun h31 => ?_)
        · refine v_aload_n (q := 38) hC dX11_way_37 rfl rfl rfl ?_
          refine v_getR (q := 41) (r := 28) hC dX11_way_38 rfl fX11_58 (hL.1 0 (by decide)) (hL.2 0 6 28 rfl) ?_
          refine v_iload_n (q := 42) hC dX11_way_41 rfl rfl rfl ?_
          refine v_callV1 (q := 45) (As := [_]) hC dX11_way_42 rfl lX11_200 mX4_isOpen iX4_isOpen eX4_isOpen rfl (hL.1 28 (by decide)) (ct_X4_isOpen (d + 3) hLg hd hx) rfl rfl (by omega) rfl (Nat.le_of_ble_eq_true rfl) ?_
          refine v_if_ne (q := 48) (tgt := 51) hC dX11_way_45 rfl (by decide) (fun h45 => ?_) (fun h45 => ?_)
          · have hop : qF S 5 x = -1 := of_decide_eq_true (zb_ne h45)
            have hks : ¬ (k < 0 ∨ 1 < k) := (by rintro (z | z); exact h26 z; exact absurd h31 (Int32.not_le.mpr z))
            have e9 : sWay S (nI x) (nI y) k = (match pWay S x y with | none => (-1, S) | some j => (if k = 0 then nI (j + 1) else zo (pLst (qN S) (pRow (qN S) (pGS S) (pNS S) (dN (qF S 0 x)) (dN (qF S 1 x)) j) y), S)) := by unfold sWay; rw [if_pos (by rw [hz1, hz2]; rfl), if_neg hks, dN_nI (by omega), dN_nI (by omega), if_pos hop]; cases pWay S x y <;> rfl
            refine v_aload_n (q := 52) hC dX11_way_51 rfl rfl rfl ?_
            refine v_getR (q := 55) (r := 17) hC dX11_way_52 rfl fX11_44 (hL.1 0 (by decide)) (hL.2 0 4 17 rfl) ?_
            refine v_aload_n (q := 56) hC dX11_way_55 rfl rfl rfl ?_
            refine v_getR (q := 59) (r := 28) hC dX11_way_56 rfl fX11_58 (hL.1 0 (by decide)) (hL.2 0 6 28 rfl) ?_
            refine v_getR (q := 62) (r := 29) hC dX11_way_59 rfl fX11_170 (hL.1 28 (by decide)) (hL.2 28 0 29 rfl) ?_
            refine v_iload_n (q := 63) hC dX11_way_62 rfl rfl rfl ?_
            refine v_ialdN (q := 64) (j := x) hC dX11_way_63 rfl (hL.1 29 (by decide)) rfl (by omega) (by decide) ?_
            rw [show zI σ 29 x = nI (dN (qF S 0 x)) from (hd.2.2.2 0 x (by decide) hx).trans e0]
            refine v_aload_n (q := 65) hC dX11_way_64 rfl rfl rfl ?_
            refine v_getR (q := 68) (r := 28) hC dX11_way_65 rfl fX11_58 (hL.1 0 (by decide)) (hL.2 0 6 28 rfl) ?_
            refine v_getR (q := 71) (r := 30) hC dX11_way_68 rfl fX11_173 (hL.1 28 (by decide)) (hL.2 28 1 30 rfl) ?_
            refine v_iload_n (q := 72) hC dX11_way_71 rfl rfl rfl ?_
            refine v_ialdN (q := 73) (j := x) hC dX11_way_72 rfl (hL.1 30 (by decide)) rfl (by omega) (by decide) ?_
            rw [show zI σ 30 x = nI (dN (qF S 1 x)) from (hd.2.2.2 1 x (by decide) hx).trans e1]
            refine v_iload_n (q := 74) hC dX11_way_73 rfl rfl rfl ?_
            refine v_callVQ (q := 77) (As := [_, _, _]) hC dX11_way_74 rfl lX11_203 mX10_shortest iX10_shortest eX10_shortest rfl (hL.1 17 (by decide)) (ct_X10_shortest d hL hF.1 hn6 hp hw l0 l1 hy_) rfl rfl (by omega) (by decide) (Nat.le_of_ble_eq_true rfl) ?_
            rintro _ σ1 ⟨rfl, hS, hro, hr18⟩
            have hL1 := hL.same hS rfl
            have hI : zCl σ1 S := h0.sc hS rfl rfl hr18 (h23.same hS rfl)
            refine v_istore (q := 79) (L' := [_, _, _, _, _]) hC dX11_way_77 rfl (by decide) rfl rfl ?_
            refine v_iload (q := 81) hC dX11_way_79 rfl rfl ?_
            refine v_iconst (q := 82) (v := -1) hC dX11_way_81 rfl (by decide) ?_
            refine v_icmp_ne (q := 85) (tgt := 87) hC dX11_way_82 rfl (by decide) (fun h82 => ?_) (fun h82 => ?_)
            · obtain ⟨j, ej⟩ : ∃ j, pWay S x y = some j := by cases e : pWay S x y with | none => exact absurd (zsh1.mpr e) h82 | some j => exact ⟨j, rfl⟩
              obtain ⟨a3, b3, hw3, ha3⟩ := hro j ej
              rw [ej] at e9
              have e8 : zo ((pSh (qN S) (pGS S) (pNS S) (dN (qF S 0 x)) (dN (qF S 1 x)) y).map (· + 1)) = nI (j + 1) := by rw [show pSh (qN S) (pGS S) (pNS S) (dN (qF S 0 x)) (dN (qF S 1 x)) y = some j from ej]; rfl
              rw [e8]
              refine v_iload_n (q := 88) hC dX11_way_87 rfl rfl rfl ?_
              refine v_if_ne (q := 91) (tgt := 96) hC dX11_way_88 rfl (by decide) (fun h88 => ?_) (fun h88 => ?_)
              · refine v_aload_n (q := 97) hC dX11_way_96 rfl rfl rfl ?_
                refine v_getR (q := 100) (r := 17) hC dX11_way_97 rfl fX11_44 (hL1.1 0 (by decide)) (hL1.2 0 4 17 rfl) ?_
                refine v_iload_n (q := 101) hC dX11_way_100 rfl rfl rfl ?_
                refine v_callV1 (q := 104) (As := [_]) hC dX11_way_101 rfl lX11_207 mX10_leastFirstTo iX10_leastFirstTo eX10_leastFirstTo rfl (hL1.1 17 (by decide)) (ct_X10_leastFirstTo (d + 2) hL1 (hF.same hS rfl).1 hn6 hw3 (pRow_lt j) ha3 hy_) rfl rfl (by omega) rfl (Nat.le_of_ble_eq_true rfl) ?_
                refine v_ireturn hC hB dX11_way_104 ⟨Nat.le_refl _, Nat.le_refl _⟩ ?_
                dsimp only at e9
                first | (rw [if_pos h88] at e9; exact zQs.mk e9 hI (zFc.of hS rfl rfl)) | (rw [if_neg h88] at e9; exact zQs.mk e9 hI (zFc.of hS rfl rfl))
              · refine v_iload (q := 93) hC dX11_way_91 rfl rfl ?_
                refine v_goto (q := 104) hC dX11_way_93 (by decide) ?_
                refine v_ireturn hC hB dX11_way_104 ⟨Nat.le_refl _, Nat.le_refl _⟩ ?_
                dsimp only at e9
                first | (rw [if_pos h88] at e9; exact zQs.mk e9 hI (zFc.of hS rfl rfl)) | (rw [if_neg h88] at e9; exact zQs.mk e9 hI (zFc.of hS rfl rfl))
            · refine v_iconst (q := 86) (v := -1) hC dX11_way_85 rfl (by decide) ?_
              refine v_ireturn hC hB dX11_way_86 ⟨Nat.le_refl _, Nat.le_refl _⟩ ?_
              have en : pWay S x y = none := zsh1.mp h82
              rw [en] at e9
              exact zQs.mk e9 hI (zFc.of hS rfl rfl)
          · refine v_bipush (q := 50) (v := -103) hC dX11_way_48 rfl (by decide) ?_
            refine v_ireturn hC hB dX11_way_50 ⟨Nat.le_refl _, Nat.le_refl _⟩ ?_
            exact zQs.mk (by unfold sWay; rw [if_pos (by rw [hz1, hz2]; rfl), if_neg ((by rintro (z | z); exact h26 z; exact absurd h31 (Int32.not_le.mpr z))), dN_nI (by omega)]; exact if_neg (of_decide_eq_false (zb_eq0.mp h45))) h0 (zFc.of (cs := []) (rs := []) zSame.rf rfl rfl)
        · refine v_bipush (q := 36) (v := -102) hC dX11_way_34 rfl (by decide) ?_
          refine v_ireturn hC hB dX11_way_36 ⟨Nat.le_refl _, Nat.le_refl _⟩ ?_
          exact zQs.mk (by unfold sWay; rw [if_pos (by rw [hz1, hz2]; rfl)]; exact if_pos (by first | exact Or.inl h26 | exact Or.inr (Int32.not_le.mp h31))) h0 (zFc.of (cs := []) (rs := []) zSame.rf rfl rfl)
    · refine v_bipush (q := 24) (v := -101) hC dX11_way_22 rfl (by decide) ?_
      refine v_ireturn hC hB dX11_way_24 ⟨Nat.le_refl _, Nat.le_refl _⟩ ?_
      exact zQs.mk (by unfold sWay; exact if_neg (by first | (rw [zb_eq0.mp h8]; simp) | (rw [zb_eq0.mp h19]; simp))) h0 (zFc.of (cs := []) (rs := []) zSame.rf rfl rfl)

set_option maxRecDepth 100000 in
set_option maxHeartbeats 4000000 in
theorem cl_rings (d : Nat) {σ : zSt} {S : pS} {B : Nat} (h : zCl σ S) (ok : pOk B S) (p : Int32) (k : Int32) : zCt (d + 4) MX11_rings [.ref 0, .int p, .int k] σ (zQs zCl zFc σ (sRings S p k)) := by
  refine zCt.of (L := [some (.ref 0), some (.int p), some (.int k)]) (by decide) (Nat.le_of_ble_eq_true rfl) rfl (fun X hC hB => ?_)
  have hC : zC X RX11 cX11_rings 3 (d + 4) 0 0 := hC
  have hB : zB X (some .int) 0 0 "rings" σ _ := hB
  show zV X 3 0 [some (.ref 0), some (.int p), some (.int k)] [] 0 0 σ
  have h0 := h
  obtain ⟨hL, hPg, hF, hK, hp, h18, h23, hd, hy, hd2, hy2, hq⟩ := h
  obtain ⟨oB, oq, ow, oqt, ot, okm, omm, oq0, oL, oD, okr, okp, oK, osym, okp6, okd⟩ := ok
  have hn6 := hF.2.1
  have hm12 := hd.2.1
  have hLg := zLg.of hL (c := 28) (by simp)
  obtain ⟨a1, b1, hw⟩ := h23
  refine v_aload_n (q := 1) hC dX11_rings_0 rfl rfl rfl ?_
  refine v_getR (q := 4) (r := 8) hC dX11_rings_1 rfl fX11_26 (hL.1 0 (by decide)) (hL.2 0 2 8 rfl) ?_
  refine v_iload_n (q := 5) hC dX11_rings_4 rfl rfl rfl ?_
  refine v_callV1 (q := 8) (As := [_]) hC dX11_rings_5 rfl lX11_129 mX2_has iX2_has eX2_has rfl (hL.1 8 (by decide)) (ct_X2_has (d + 3) hL hF.1 hn6 _) rfl rfl (by omega) rfl (Nat.le_of_ble_eq_true rfl) ?_
  refine v_if_ne (q := 11) (tgt := 14) hC dX11_rings_8 rfl (by decide) (fun h8 => ?_) (fun h8 => ?_)
  · have hz := zb_ne h8
    obtain ⟨x, hx, rfl⟩ := zval_of (by omega) hz
    refine v_iload_n (q := 15) hC dX11_rings_14 rfl rfl rfl ?_
    refine v_iconst (q := 16) (v := 2) hC dX11_rings_15 rfl (by decide) ?_
    refine v_icmp_lt (q := 19) (tgt := 25) hC dX11_rings_16 rfl (by decide) (fun h16 => ?_) (fun h16 => ?_)
    · refine v_bipush (q := 27) (v := -102) hC dX11_rings_25 rfl (by decide) ?_
      refine v_ireturn hC hB dX11_rings_27 ⟨Nat.le_refl _, Nat.le_refl _⟩ ?_
      exact zQs.mk (by unfold sRings; rw [if_pos hz]; exact if_pos (by first | exact Or.inl h16 | exact Or.inr (Int32.not_le.mp h22))) h0 (zFc.of (cs := []) (rs := []) zSame.rf rfl rfl)
    · refine v_iload_n (q := 20) hC dX11_rings_19 rfl rfl rfl ?_
      refine v_bipush (q := 22) (v := 6) hC dX11_rings_20 rfl (by decide) ?_
      refine v_icmp_le (q := 25) (tgt := 28) hC dX11_rings_22 rfl (by decide) (fun h22 => ?_) (fun h22 => ?_)
      · obtain ⟨k, hk0, hk7, rfl⟩ := zbw (x := k) 2 6 (by omega) (by omega) h16 (Int32.not_lt.mpr h22)
        refine v_aload_n (q := 29) hC dX11_rings_28 rfl rfl rfl ?_
        refine v_getR (q := 32) (r := 22) hC dX11_rings_29 rfl fX11_51 (hL.1 0 (by decide)) (hL.2 0 5 22 rfl) ?_
        refine v_iload_n (q := 33) hC dX11_rings_32 rfl rfl rfl ?_
        refine v_iload_n (q := 34) hC dX11_rings_33 rfl rfl rfl ?_
        refine v_callVQ (q := 37) (As := [_, _]) hC dX11_rings_34 rfl lX11_219 mX9_ringsOf iX9_ringsOf eX9_ringsOf rfl (hL.1 22 (by decide)) (ct_X9_ringsOf d hL hF.1 hn6 hp hw hx hk0 hk7) rfl rfl (by omega) (by decide) (Nat.le_of_ble_eq_true rfl) ?_
        rintro _ σ1 ⟨rfl, hS, hr23⟩
        refine v_ireturn hC hB dX11_rings_37 ⟨Nat.le_refl _, Nat.le_refl _⟩ ?_
        exact zQs.mk (S' := S) (by unfold sRings; rw [if_pos hz, if_neg (by rintro (z | z); exact h16 z; exact absurd h22 (Int32.not_le.mpr z)), dN_nI (by omega), dN_nI (by omega)]; rfl) (h0.sc hS rfl rfl (h18.same hS rfl) hr23) (zFc.of hS rfl rfl)
      · refine v_bipush (q := 27) (v := -102) hC dX11_rings_25 rfl (by decide) ?_
        refine v_ireturn hC hB dX11_rings_27 ⟨Nat.le_refl _, Nat.le_refl _⟩ ?_
        exact zQs.mk (by unfold sRings; rw [if_pos hz]; exact if_pos (by first | exact Or.inl h16 | exact Or.inr (Int32.not_le.mp h22))) h0 (zFc.of (cs := []) (rs := []) zSame.rf rfl rfl)
  · refine v_bipush (q := 13) (v := -101) hC dX11_rings_11 rfl (by decide) ?_
    refine v_ireturn hC hB dX11_rings_13 ⟨Nat.le_refl _, Nat.le_refl _⟩ ?_
    exact zQs.mk (if_neg (by rw [zb_eq0.mp h8]; decide)) h0 (zFc.of (cs := []) (rs := []) zSame.rf rfl rfl)

set_option maxRecDepth 100000 in
set_option maxHeartbeats 4000000 in
theorem cl_fits (d : Nat) {σ : zSt} {S : pS} {B : Nat} (h : zCl σ S) (ok : pOk B S) : zCt (d + 4) MX11_fits [.ref 0] σ (zQs zCl zFc σ (sFits S)) := by
  refine zCt.of (L := [some (.ref 0)]) (by decide) (Nat.le_of_ble_eq_true rfl) rfl (fun X hC hB => ?_)
  have hC : zC X RX11 cX11_fits 1 (d + 4) 0 0 := hC
  have hB : zB X (some .int) 0 0 "fits" σ _ := hB
  show zV X 1 0 [some (.ref 0)] [] 0 0 σ
  have h0 := h
  obtain ⟨hL, hPg, hF, hK, hp, h18, h23, hd, hy, hd2, hy2, hq⟩ := h
  obtain ⟨oB, oq, ow, oqt, ot, okm, omm, oq0, oL, oD, okr, okp, oK, osym, okp6, okd⟩ := ok
  have hn6 := hF.2.1
  have hm12 := hd.2.1
  have hLg := zLg.of hL (c := 28) (by simp)
  obtain ⟨a1, b1, hw⟩ := h23
  refine v_aload_n (q := 1) hC dX11_fits_0 rfl rfl rfl ?_
  refine v_getR (q := 4) (r := 22) hC dX11_fits_1 rfl fX11_51 (hL.1 0 (by decide)) (hL.2 0 5 22 rfl) ?_
  refine v_aload_n (q := 5) hC dX11_fits_4 rfl rfl rfl ?_
  refine v_getR (q := 8) (r := 42) hC dX11_fits_5 rfl fX11_68 (hL.1 0 (by decide)) (hL.2 0 8 42 rfl) ?_
  refine v_callVQ (q := 11) (As := [_]) hC dX11_fits_8 rfl lX11_223 mX9_fitsOf iX9_fitsOf eX9_fitsOf rfl (hL.1 22 (by decide)) (ct_X9_fitsOf d hL hF.1 hn6 hp hw (zDr.of hL (c := 42) (by simp)) (by simp) hy.1 hy.2.1) rfl rfl (by omega) (by decide) (Nat.le_of_ble_eq_true rfl) ?_
  rintro _ σ1 ⟨rfl, hS, hr23⟩
  rw [pFt_congr (fun i hi => hy.2.2 i hi)]
  refine v_ireturn hC hB dX11_fits_11 ⟨Nat.le_refl _, Nat.le_refl _⟩ ?_
  exact zQs.mk (S' := S) rfl (h0.sc hS rfl rfl (h18.same hS rfl) hr23) (zFc.of hS rfl rfl)

set_option maxRecDepth 100000 in
set_option maxHeartbeats 4000000 in
theorem cl_sure (d : Nat) {σ : zSt} {S : pS} {B : Nat} (h : zCl σ S) (ok : pOk B S) (p : Int32) : zCt (d + 5) MX11_sure [.ref 0, .int p] σ (zQs zCl zFc σ (sSure S p)) := by
  refine zCt.of (L := [some (.ref 0), some (.int p)]) (by decide) (Nat.le_of_ble_eq_true rfl) rfl (fun X hC hB => ?_)
  have hC : zC X RX11 cX11_sure 2 (d + 5) 0 0 := hC
  have hB : zB X (some .int) 0 0 "sure" σ _ := hB
  show zV X 2 0 [some (.ref 0), some (.int p)] [] 0 0 σ
  have h0 := h
  obtain ⟨hL, hPg, hF, hK, hp, h18, h23, hd, hy, hd2, hy2, hq⟩ := h
  obtain ⟨oB, oq, ow, oqt, ot, okm, omm, oq0, oL, oD, okr, okp, oK, osym, okp6, okd⟩ := ok
  have hn6 := hF.2.1
  have hm12 := hd.2.1
  have hLg := zLg.of hL (c := 28) (by simp)
  obtain ⟨a1, b1, hw⟩ := h23
  refine v_iload_n (q := 1) hC dX11_sure_0 rfl rfl rfl ?_
  refine v_if_lt (q := 4) (tgt := 15) hC dX11_sure_1 rfl (by decide) (fun h1 => ?_) (fun h1 => ?_)
  · refine v_bipush (q := 17) (v := -101) hC dX11_sure_15 rfl (by decide) ?_
    refine v_ireturn hC hB dX11_sure_17 ⟨Nat.le_refl _, Nat.le_refl _⟩ ?_
    exact zQs.mk (by unfold sSure; exact if_neg (by intro z; have z := of_decide_eq_true z; first | (rw [zlt0] at h1; omega) | (rw [zltI (by have := hy.2.1; omega)] at h12; omega))) h0 (zFc.of (cs := []) (rs := []) zSame.rf rfl rfl)
  · refine v_iload_n (q := 5) hC dX11_sure_4 rfl rfl rfl ?_
    refine v_aload_n (q := 6) hC dX11_sure_5 rfl rfl rfl ?_
    refine v_getR (q := 9) (r := 42) hC dX11_sure_6 rfl fX11_68 (hL.1 0 (by decide)) (hL.2 0 8 42 rfl) ?_
    refine v_getI (q := 12) hC dX11_sure_9 rfl fX11_101 (hL.1 42 (by decide)) ?_
    rw [hy.1]
    refine v_icmp_lt (q := 15) (tgt := 18) hC dX11_sure_12 rfl (by decide) (fun h12 => ?_) (fun h12 => ?_)
    · have hz : zval (qDl S) p = true := decide_eq_true ⟨by rw [zlt0] at h1; omega, (zltI (by have := hy.2.1; omega)).mp h12⟩
      obtain ⟨x, hx, rfl⟩ := zval_of (by have := hy.2.1; omega) hz
      refine v_aload_n (q := 19) hC dX11_sure_18 rfl rfl rfl ?_
      refine v_getR (q := 22) (r := 22) hC dX11_sure_19 rfl fX11_51 (hL.1 0 (by decide)) (hL.2 0 5 22 rfl) ?_
      refine v_aload_n (q := 23) hC dX11_sure_22 rfl rfl rfl ?_
      refine v_getR (q := 26) (r := 42) hC dX11_sure_23 rfl fX11_68 (hL.1 0 (by decide)) (hL.2 0 8 42 rfl) ?_
      refine v_iload_n (q := 27) hC dX11_sure_26 rfl rfl rfl ?_
      refine v_callVQ (q := 30) (As := [_, _]) hC dX11_sure_27 rfl lX11_227 mX9_onlyOneAt iX9_onlyOneAt eX9_onlyOneAt rfl (hL.1 22 (by decide)) (ct_X9_onlyOneAt d hL hF.1 hn6 hp hw hy.1 hy.2.1 hx) rfl rfl (by omega) (by decide) (Nat.le_of_ble_eq_true rfl) ?_
      rintro _ σ1 ⟨rfl, hS, hr23⟩
      refine v_ireturn hC hB dX11_sure_30 ⟨Nat.le_refl _, Nat.le_refl _⟩ ?_
      have hon : ∀ w, pOn (qN S) (pGv (qKd S) (qKin S) (qMet S)) (pSn (qKin S)) (qDl S) (zI σ 43) x w = pOn (qN S) (pGS S) (pNS S) (qDl S) (qDw S) x w := fun w => by unfold pOn; rw [hy.2.2 x hx, pFt_congr (W' := zup (qDw S) x (nI w)) (fun i hi => by unfold zup; split <;> first | rfl | exact hy.2.2 i hi)]
      rw [show pOn (qN S) (pGv (qKd S) (qKin S) (qMet S)) (pSn (qKin S)) (qDl S) (zI σ 43) x = pOn (qN S) (pGS S) (pNS S) (qDl S) (qDw S) x from funext hon]
      exact zQs.mk (S' := S) (by unfold sSure; rw [if_pos hz, dN_nI (by have := hy.2.1; omega)]) (h0.sc hS rfl rfl (h18.same hS rfl) hr23) (zFc.of hS rfl rfl)
    · refine v_bipush (q := 17) (v := -101) hC dX11_sure_15 rfl (by decide) ?_
      refine v_ireturn hC hB dX11_sure_17 ⟨Nat.le_refl _, Nat.le_refl _⟩ ?_
      exact zQs.mk (by unfold sSure; exact if_neg (by intro z; have z := of_decide_eq_true z; first | (rw [zlt0] at h1; omega) | (rw [zltI (by have := hy.2.1; omega)] at h12; omega))) h0 (zFc.of (cs := []) (rs := []) zSame.rf rfl rfl)

