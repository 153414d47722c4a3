/-! ===== the model: about, deeds ===== -/
def pCw (kd : Nat → Nat) (t : Nat) (F : Nat → Nat → Int32) (w p k f : Nat) : Bool := if k = 1 then decide (F 0 f = nI p) else if k = 2 then decide (F 1 f = nI p) else if k = 3 then pOw F (nI p) f else pOw F (nI p) f && decide (nI w - F 3 f > nI (pTm kd t (dN (F 1 f))))

set_option maxRecDepth 100000 in
set_option maxHeartbeats 4000000 in
theorem ct_X12_countBy (d : Nat) {σ : zSt} (hL : zLay σ) {n : Nat} {kd : Nat → Nat} {kin met : Nat → Nat → Bool} {t : Nat} (hF : zMf σ n kd kin met t) {m : Nat} {F : Nat → Nat → Int32} {w : Nat} (hd : zMr σ m F w) (hw : pLw m F n w) (p : Nat) {k : Nat} (hk1 : 1 ≤ k) (hk4 : k ≤ 4) : zEv (d + 2) MX12_countBy [.ref 53, .int (nI p), .int (nI k)] σ (some (.int (nI (pCnt (pCw kd t F w p k) m)))) σ := by
  refine zCt.of (L := [some (.ref 53), some (.int (nI p)), some (.int (nI k)), none, none, none, none, none]) (by decide) (Nat.le_of_ble_eq_true rfl) rfl (fun X hC hB => ?_)
  have hC : zC X RX12 cX12_countBy 8 (d + 2) 0 0 := hC
  have hB : zB X (some .int) 0 0 "countBy" σ _ := hB
  show zV X 8 0 [some (.ref 53), some (.int (nI p)), some (.int (nI k)), none, none, none, none, none] [] 0 0 σ
  have hm := hd.2.1
  have hn6 := hF.2.1
  have k1 : nI k = 1 ↔ k = 1 := nI_eq (a := k) (b := 1) (by omega) (by omega)
  have k2 : nI k = 2 ↔ k = 2 := nI_eq (a := k) (b := 2) (by omega) (by omega)
  have k3 : nI k = 3 ↔ k = 3 := nI_eq (a := k) (b := 3) (by omega) (by omega)
  have lp : ∀ (r : Nat) (i : Nat) (x : Int32) (o5 o6 o7 : Option Value), x = nI (pCnt (pCw kd t F w p k) i) → i + r = m → zV X 8 5 [some (.ref 53), some (.int (nI p)), some (.int (nI k)), some (.int (x)), some (.int (nI i)), o5, o6, o7] [] 0 0 σ := by
    intro r
    induction r with
    | zero =>
      intro i x o5 o6 o7 hx hi
      subst hx
      refine v_iload (q := 7) hC dX12_countBy_5 rfl rfl ?_
      refine v_aload_n (q := 8) hC dX12_countBy_7 rfl rfl rfl ?_
      refine v_getI (q := 11) hC dX12_countBy_8 rfl fX12_129 (hL.1 53 (by decide)) ?_
      rw [hd.1]
      refine v_icmp_ge (q := 14) (tgt := 154) hC dX12_countBy_11 rfl (by decide) (fun h11 => ?_) (fun h11 => ?_)
      · refine v_iload_n (q := 155) hC dX12_countBy_154 rfl rfl rfl ?_
        refine v_ireturn hC hB dX12_countBy_155 ⟨Nat.le_refl _, Nat.le_refl _⟩ ?_
        have e : i = m := by omega
        subst e
        exact ⟨rfl, rfl⟩
      · exact absurd (nI_le (a := m) (b := i) (by omega) (by omega)) h11
    | succ r ih =>
      intro i x o5 o6 o7 hx hi
      subst hx
      have him : i < m := by omega
      refine v_iload (q := 7) hC dX12_countBy_5 rfl rfl ?_
      refine v_aload_n (q := 8) hC dX12_countBy_7 rfl rfl rfl ?_
      refine v_getI (q := 11) hC dX12_countBy_8 rfl fX12_129 (hL.1 53 (by decide)) ?_
      rw [hd.1]
      refine v_icmp_ge (q := 14) (tgt := 154) hC dX12_countBy_11 rfl (by decide) (fun h11 => ?_) (fun h11 => ?_)
      · exact absurd h11 (nI_ge (a := i) (b := m) (by omega) (by omega))
      · have j133 : ∀ y : Int32, zb (pCw kd t F w p k i) = y → zV X 8 133 [some (.ref 53), some (.int (nI p)), some (.int (nI k)), some (.int (nI (pCnt (pCw kd t F w p k) i))), some (.int (nI i)), some (.int (zb (decide (F 0 i = nI p)))), some (.int (zb (decide (F 1 i = nI p)))), o7] [.int y] 0 0 σ := by
          intro y hy
          subst hy
          refine v_istore (q := 135) (L' := [_, _, _, _, _, _, _, _]) hC dX12_countBy_133 rfl (by decide) rfl rfl ?_
          refine v_iload_n (q := 136) hC dX12_countBy_135 rfl rfl rfl ?_
          refine v_iload (q := 138) hC dX12_countBy_136 rfl rfl ?_
          refine v_if_eq (q := 141) (tgt := 145) hC dX12_countBy_138 rfl (by decide) (fun h138 => ?_) (fun h138 => ?_)
          · refine v_iconst (q := 146) (v := 0) hC dX12_countBy_145 rfl (by decide) ?_
            refine v_iadd (q := 147) hC dX12_countBy_146 rfl ?_
            refine v_istore_n (q := 148) (L' := [_, _, _, _, _, _, _, _]) hC dX12_countBy_147 rfl rfl (by decide) rfl rfl ?_
            refine v_iinc (q := 151) (v := 1) (L' := [_, _, _, _, _, _, _, _]) hC dX12_countBy_148 rfl rfl (by decide) (by decide) rfl rfl ?_
            refine v_goto (q := 5) hC dX12_countBy_151 (by decide) ?_
            rw [nI_1 i]
            exact ih (i + 1) _ _ _ _ (by first | exact pCnt_t (zb_ne h138) | (rw [Int32.add_zero]; exact pCnt_f (zb_eq0.mp h138))) (by omega)
          · refine v_iconst (q := 142) (v := 1) hC dX12_countBy_141 rfl (by decide) ?_
            refine v_goto (q := 146) hC dX12_countBy_142 (by decide) ?_
            refine v_iadd (q := 147) hC dX12_countBy_146 rfl ?_
            refine v_istore_n (q := 148) (L' := [_, _, _, _, _, _, _, _]) hC dX12_countBy_147 rfl rfl (by decide) rfl rfl ?_
            refine v_iinc (q := 151) (v := 1) (L' := [_, _, _, _, _, _, _, _]) hC dX12_countBy_148 rfl rfl (by decide) (by decide) rfl rfl ?_
            refine v_goto (q := 5) hC dX12_countBy_151 (by decide) ?_
            rw [nI_1 i]
            exact ih (i + 1) _ _ _ _ (by first | exact pCnt_t (zb_ne h138) | (rw [Int32.add_zero]; exact pCnt_f (zb_eq0.mp h138))) (by omega)
        have j56 : ∀ y : Int32, y = zb (decide (F 1 i = nI p)) → zV X 8 56 [some (.ref 53), some (.int (nI p)), some (.int (nI k)), some (.int (nI (pCnt (pCw kd t F w p k) i))), some (.int (nI i)), some (.int (zb (decide (F 0 i = nI p)))), o6, o7] [.int y] 0 0 σ := by
          intro y hy
          subst hy
          refine v_istore (q := 58) (L' := [_, _, _, _, _, _, _, _]) hC dX12_countBy_56 rfl (by decide) rfl rfl ?_
          refine v_iload_n (q := 59) hC dX12_countBy_58 rfl rfl rfl ?_
          refine v_iconst (q := 60) (v := 1) hC dX12_countBy_59 rfl (by decide) ?_
          refine v_icmp_ne (q := 63) (tgt := 68) hC dX12_countBy_60 rfl (by decide) (fun h60 => ?_) (fun h60 => ?_)
          · refine v_iload_n (q := 69) hC dX12_countBy_68 rfl rfl rfl ?_
            refine v_iconst (q := 70) (v := 2) hC dX12_countBy_69 rfl (by decide) ?_
            refine v_icmp_ne (q := 73) (tgt := 78) hC dX12_countBy_70 rfl (by decide) (fun h70 => ?_) (fun h70 => ?_)
            · refine v_iload_n (q := 79) hC dX12_countBy_78 rfl rfl rfl ?_
              refine v_iconst (q := 80) (v := 3) hC dX12_countBy_79 rfl (by decide) ?_
              refine v_icmp_ne (q := 83) (tgt := 105) hC dX12_countBy_80 rfl (by decide) (fun h80 => ?_) (fun h80 => ?_)
              · refine v_iload (q := 107) hC dX12_countBy_105 rfl rfl ?_
                refine v_if_eq (q := 110) (tgt := 132) hC dX12_countBy_107 rfl (by decide) (fun h107 => ?_) (fun h107 => ?_)
                · refine v_iconst (q := 133) (v := 0) hC dX12_countBy_132 rfl (by decide) ?_
                  exact j133 _ (by clear j133 ih; simp_all [pCw, pOw, zb_eq0, zb_eq1])
                · refine v_aload_n (q := 111) hC dX12_countBy_110 rfl rfl rfl ?_
                  refine v_iload (q := 113) hC dX12_countBy_111 rfl rfl ?_
                  refine v_callV1 (q := 116) (As := [_]) hC dX12_countBy_113 rfl lX12_174 mX12_isOwed iX12_isOwed eX12_isOwed rfl (hL.1 53 (by decide)) (ct_X12_isOwed (d + 1) hL hd him) rfl rfl (by omega) rfl (Nat.le_of_ble_eq_true rfl) ?_
                  refine v_if_eq (q := 119) (tgt := 132) hC dX12_countBy_116 rfl (by decide) (fun h116 => ?_) (fun h116 => ?_)
                  · refine v_iconst (q := 133) (v := 0) hC dX12_countBy_132 rfl (by decide) ?_
                    exact j133 _ (by clear j133 ih; simp_all [pCw, pOw, zb_eq0, zb_eq1])
                  · refine v_aload_n (q := 120) hC dX12_countBy_119 rfl rfl rfl ?_
                    refine v_iload (q := 122) hC dX12_countBy_120 rfl rfl ?_
                    refine v_callV1 (q := 125) (As := [_]) hC dX12_countBy_122 rfl lX12_177 mX12_isLate iX12_isLate eX12_isLate rfl (hL.1 53 (by decide)) (ct_X12_isLate d hL hF hd hw him) rfl rfl (by omega) rfl (Nat.le_of_ble_eq_true rfl) ?_
                    refine v_if_eq (q := 128) (tgt := 132) hC dX12_countBy_125 rfl (by decide) (fun h125 => ?_) (fun h125 => ?_)
                    · refine v_iconst (q := 133) (v := 0) hC dX12_countBy_132 rfl (by decide) ?_
                      exact j133 _ (by clear j133 ih; simp_all [pCw, pOw, zb_eq0, zb_eq1])
                    · refine v_iconst (q := 129) (v := 1) hC dX12_countBy_128 rfl (by decide) ?_
                      refine v_goto (q := 133) hC dX12_countBy_129 (by decide) ?_
                      exact j133 _ (by clear j133 ih; simp_all [pCw, pOw, zb_eq0, zb_eq1])
              · refine v_iload (q := 85) hC dX12_countBy_83 rfl rfl ?_
                refine v_if_eq (q := 88) (tgt := 101) hC dX12_countBy_85 rfl (by decide) (fun h85 => ?_) (fun h85 => ?_)
                · refine v_iconst (q := 102) (v := 0) hC dX12_countBy_101 rfl (by decide) ?_
                  refine v_goto (q := 133) hC dX12_countBy_102 (by decide) ?_
                  exact j133 _ (by clear j133 ih; simp_all [pCw, pOw, zb_eq0, zb_eq1])
                · refine v_aload_n (q := 89) hC dX12_countBy_88 rfl rfl rfl ?_
                  refine v_iload (q := 91) hC dX12_countBy_89 rfl rfl ?_
                  refine v_callV1 (q := 94) (As := [_]) hC dX12_countBy_91 rfl lX12_174 mX12_isOwed iX12_isOwed eX12_isOwed rfl (hL.1 53 (by decide)) (ct_X12_isOwed (d + 1) hL hd him) rfl rfl (by omega) rfl (Nat.le_of_ble_eq_true rfl) ?_
                  refine v_if_eq (q := 97) (tgt := 101) hC dX12_countBy_94 rfl (by decide) (fun h94 => ?_) (fun h94 => ?_)
                  · refine v_iconst (q := 102) (v := 0) hC dX12_countBy_101 rfl (by decide) ?_
                    refine v_goto (q := 133) hC dX12_countBy_102 (by decide) ?_
                    exact j133 _ (by clear j133 ih; simp_all [pCw, pOw, zb_eq0, zb_eq1])
                  · refine v_iconst (q := 98) (v := 1) hC dX12_countBy_97 rfl (by decide) ?_
                    refine v_goto (q := 133) hC dX12_countBy_98 (by decide) ?_
                    exact j133 _ (by clear j133 ih; simp_all [pCw, pOw, zb_eq0, zb_eq1])
            · refine v_iload (q := 75) hC dX12_countBy_73 rfl rfl ?_
              refine v_goto (q := 133) hC dX12_countBy_75 (by decide) ?_
              exact j133 _ (by clear j133 ih; simp_all [pCw, pOw, zb_eq0, zb_eq1])
          · refine v_iload (q := 65) hC dX12_countBy_63 rfl rfl ?_
            refine v_goto (q := 133) hC dX12_countBy_65 (by decide) ?_
            exact j133 _ (by clear j133 ih; simp_all [pCw, pOw, zb_eq0, zb_eq1])
        have j33 : ∀ y : Int32, y = zb (decide (F 0 i = nI p)) → zV X 8 33 [some (.ref 53), some (.int (nI p)), some (.int (nI k)), some (.int (nI (pCnt (pCw kd t F w p k) i))), some (.int (nI i)), o5, o6, o7] [.int y] 0 0 σ := by
          intro y hy
          subst hy
          refine v_istore (q := 35) (L' := [_, _, _, _, _, _, _, _]) hC dX12_countBy_33 rfl (by decide) rfl rfl ?_
          refine v_aload_n (q := 36) hC dX12_countBy_35 rfl rfl rfl ?_
          refine v_getR (q := 39) (r := 60) hC dX12_countBy_36 rfl fX12_28 (hL.1 53 (by decide)) (hL.2 53 23 60 rfl) ?_
          refine v_bipush (q := 41) (v := 6) hC dX12_countBy_39 rfl (by decide) ?_
          refine v_iload (q := 43) hC dX12_countBy_41 rfl rfl ?_
          refine v_imul (q := 44) hC dX12_countBy_43 rfl ?_
          refine v_iconst (q := 45) (v := 1) hC dX12_countBy_44 rfl (by decide) ?_
          refine v_iadd (q := 46) hC dX12_countBy_45 rfl ?_
          refine v_ialdN (q := 47) (j := 6 * i + 1) hC dX12_countBy_46 rfl (hL.1 60 (by decide)) (z6' i 1) (by omega) (by decide) ?_
          rw [hd.2.2.2 1 i (by decide) him]
          refine v_iload_n (q := 48) hC dX12_countBy_47 rfl rfl rfl ?_
          refine v_icmp_ne (q := 51) (tgt := 55) hC dX12_countBy_48 rfl (by decide) (fun h48 => ?_) (fun h48 => ?_)
          · refine v_iconst (q := 56) (v := 0) hC dX12_countBy_55 rfl (by decide) ?_
            exact j56 _ (by simp_all [zb_t, zb_f])
          · refine v_iconst (q := 52) (v := 1) hC dX12_countBy_51 rfl (by decide) ?_
            refine v_goto (q := 56) hC dX12_countBy_52 (by decide) ?_
            exact j56 _ (by simp_all [zb_t, zb_f])
        refine v_aload_n (q := 15) hC dX12_countBy_14 rfl rfl rfl ?_
        refine v_getR (q := 18) (r := 60) hC dX12_countBy_15 rfl fX12_28 (hL.1 53 (by decide)) (hL.2 53 23 60 rfl) ?_
        refine v_bipush (q := 20) (v := 6) hC dX12_countBy_18 rfl (by decide) ?_
        refine v_iload (q := 22) hC dX12_countBy_20 rfl rfl ?_
        refine v_imul (q := 23) hC dX12_countBy_22 rfl ?_
        refine v_ialdN (q := 24) (j := 6 * i) hC dX12_countBy_23 rfl (hL.1 60 (by decide)) (by rw [show (6 : Int32) = nI 6 from rfl, pk_mul]) (by omega) (by decide) ?_
        rw [show zI σ 60 (6 * i) = F 0 i from hd.2.2.2 0 i (by decide) him]
        refine v_iload_n (q := 25) hC dX12_countBy_24 rfl rfl rfl ?_
        refine v_icmp_ne (q := 28) (tgt := 32) hC dX12_countBy_25 rfl (by decide) (fun h25 => ?_) (fun h25 => ?_)
        · refine v_iconst (q := 33) (v := 0) hC dX12_countBy_32 rfl (by decide) ?_
          exact j33 _ (by simp_all [zb_t, zb_f])
        · refine v_iconst (q := 29) (v := 1) hC dX12_countBy_28 rfl (by decide) ?_
          refine v_goto (q := 33) hC dX12_countBy_29 (by decide) ?_
          exact j33 _ (by simp_all [zb_t, zb_f])
  refine v_iconst (q := 1) (v := 0) hC dX12_countBy_0 rfl (by decide) ?_
  refine v_istore_n (q := 2) (L' := [_, _, _, _, _, _, _, _]) hC dX12_countBy_1 rfl rfl (by decide) rfl rfl ?_
  refine v_iconst (q := 3) (v := 0) hC dX12_countBy_2 rfl (by decide) ?_
  refine v_istore (q := 5) (L' := [_, _, _, _, _, _, _, _]) hC dX12_countBy_3 rfl (by decide) rfl rfl ?_
  exact lp m 0 _ none none none rfl (by omega)

def pTl (kd : Nat → Nat) (t m : Nat) (F : Nat → Nat → Int32) (w p k : Nat) : Int32 := if k = 0 then nI (kd p) else if k = 5 then nI (pTm kd t p) else nI (pCnt (pCw kd t F w p k) m)

set_option maxRecDepth 100000 in
set_option maxHeartbeats 4000000 in
theorem ct_X12_tell (d : Nat) {σ : zSt} (hL : zLay σ) {n : Nat} {kd : Nat → Nat} {kin met : Nat → Nat → Bool} {t : Nat} (hF : zMf σ n kd kin met t) {m : Nat} {F : Nat → Nat → Int32} {w : Nat} (hd : zMr σ m F w) (hw : pLw m F n w) {p k : Nat} (hp : p < n) (hk5 : k ≤ 5) : zEv (d + 3) MX12_tell [.ref 53, .int (nI p), .int (nI k)] σ (some (.int (pTl kd t m F w p k))) σ := by
  refine zCt.of (L := [some (.ref 53), some (.int (nI p)), some (.int (nI k))]) (by decide) (Nat.le_of_ble_eq_true rfl) rfl (fun X hC hB => ?_)
  have hC : zC X RX12 cX12_tell 3 (d + 3) 0 0 := hC
  have hB : zB X (some .int) 0 0 "tell" σ _ := hB
  show zV X 3 0 [some (.ref 53), some (.int (nI p)), some (.int (nI k))] [] 0 0 σ
  have hm := hd.2.1
  have hn6 := hF.2.1
  refine v_iload_n (q := 1) hC dX12_tell_0 rfl rfl rfl ?_
  by_cases h1_0 : nI k = 0
  · refine v_tableIn (q := 40) (off := 39) hC dX12_tell_1 (by rw [h1_0]; decide) (by rw [h1_0]; decide) (by rw [h1_0]; rfl) (by decide) ?_
    refine v_aload_n (q := 41) hC dX12_tell_40 rfl rfl rfl ?_
    refine v_getR (q := 44) (r := 59) hC dX12_tell_41 rfl fX12_25 (hL.1 53 (by decide)) (hL.2 53 17 59 rfl) ?_
    refine v_iload_n (q := 45) hC dX12_tell_44 rfl rfl rfl ?_
    refine v_ialdN (q := 46) (j := p) hC dX12_tell_45 rfl (hL.1 59 (by decide)) rfl (by omega) (by decide) ?_
    refine v_ireturn hC hB dX12_tell_46 ⟨Nat.le_refl _, Nat.le_refl _⟩ ?_
    have e : pTl kd t m F w p k = nI (kd p) := if_pos ((nI_eq (a := k) (b := 0) (by omega) (by omega)).mp h1_0)
    rw [e, (hF.2.2.1 p hp).2]
    exact ⟨rfl, rfl⟩
  by_cases h1_1 : nI k = 1
  · have ek : k = 1 := (nI_eq (a := k) (b := 1) (by omega) (by omega)).mp h1_1
    have hk14 : 1 ≤ k ∧ k ≤ 4 := by omega
    refine v_tableIn (q := 47) (off := 46) hC dX12_tell_1 (by rw [h1_1]; decide) (by rw [h1_1]; decide) (by rw [h1_1]; rfl) (by decide) ?_
    refine v_aload_n (q := 48) hC dX12_tell_47 rfl rfl rfl ?_
    refine v_iload_n (q := 49) hC dX12_tell_48 rfl rfl rfl ?_
    refine v_iload_n (q := 50) hC dX12_tell_49 rfl rfl rfl ?_
    refine v_callV1 (q := 53) (As := [_, _]) hC dX12_tell_50 rfl lX12_180 mX12_countBy iX12_countBy eX12_countBy rfl (hL.1 53 (by decide)) (ct_X12_countBy d hL hF hd hw p hk14.1 hk14.2) rfl rfl (by omega) rfl (Nat.le_of_ble_eq_true rfl) ?_
    refine v_ireturn hC hB dX12_tell_53 ⟨Nat.le_refl _, Nat.le_refl _⟩ ?_
    have ek : 1 ≤ k ∧ k ≤ 4 := hk14
    have e : pTl kd t m F w p k = nI (pCnt (pCw kd t F w p k) m) := by unfold pTl; rw [if_neg (by omega), if_neg (by omega)]
    rw [e]
    exact ⟨rfl, rfl⟩
  by_cases h1_2 : nI k = 2
  · have ek : k = 2 := (nI_eq (a := k) (b := 2) (by omega) (by omega)).mp h1_2
    have hk14 : 1 ≤ k ∧ k ≤ 4 := by omega
    refine v_tableIn (q := 47) (off := 46) hC dX12_tell_1 (by rw [h1_2]; decide) (by rw [h1_2]; decide) (by rw [h1_2]; rfl) (by decide) ?_
    refine v_aload_n (q := 48) hC dX12_tell_47 rfl rfl rfl ?_
    refine v_iload_n (q := 49) hC dX12_tell_48 rfl rfl rfl ?_
    refine v_iload_n (q := 50) hC dX12_tell_49 rfl rfl rfl ?_
    refine v_callV1 (q := 53) (As := [_, _]) hC dX12_tell_50 rfl lX12_180 mX12_countBy iX12_countBy eX12_countBy rfl (hL.1 53 (by decide)) (ct_X12_countBy d hL hF hd hw p hk14.1 hk14.2) rfl rfl (by omega) rfl (Nat.le_of_ble_eq_true rfl) ?_
    refine v_ireturn hC hB dX12_tell_53 ⟨Nat.le_refl _, Nat.le_refl _⟩ ?_
    have ek : 1 ≤ k ∧ k ≤ 4 := hk14
    have e : pTl kd t m F w p k = nI (pCnt (pCw kd t F w p k) m) := by unfold pTl; rw [if_neg (by omega), if_neg (by omega)]
    rw [e]
    exact ⟨rfl, rfl⟩
  by_cases h1_3 : nI k = 3
  · have ek : k = 3 := (nI_eq (a := k) (b := 3) (by omega) (by omega)).mp h1_3
    have hk14 : 1 ≤ k ∧ k ≤ 4 := by omega
    refine v_tableIn (q := 47) (off := 46) hC dX12_tell_1 (by rw [h1_3]; decide) (by rw [h1_3]; decide) (by rw [h1_3]; rfl) (by decide) ?_
    refine v_aload_n (q := 48) hC dX12_tell_47 rfl rfl rfl ?_
    refine v_iload_n (q := 49) hC dX12_tell_48 rfl rfl rfl ?_
    refine v_iload_n (q := 50) hC dX12_tell_49 rfl rfl rfl ?_
    refine v_callV1 (q := 53) (As := [_, _]) hC dX12_tell_50 rfl lX12_180 mX12_countBy iX12_countBy eX12_countBy rfl (hL.1 53 (by decide)) (ct_X12_countBy d hL hF hd hw p hk14.1 hk14.2) rfl rfl (by omega) rfl (Nat.le_of_ble_eq_true rfl) ?_
    refine v_ireturn hC hB dX12_tell_53 ⟨Nat.le_refl _, Nat.le_refl _⟩ ?_
    have ek : 1 ≤ k ∧ k ≤ 4 := hk14
    have e : pTl kd t m F w p k = nI (pCnt (pCw kd t F w p k) m) := by unfold pTl; rw [if_neg (by omega), if_neg (by omega)]
    rw [e]
    exact ⟨rfl, rfl⟩
  by_cases h1_4 : nI k = 4
  · have ek : k = 4 := (nI_eq (a := k) (b := 4) (by omega) (by omega)).mp h1_4
    have hk14 : 1 ≤ k ∧ k ≤ 4 := by omega
    refine v_tableIn (q := 47) (off := 46) hC dX12_tell_1 (by rw [h1_4]; decide) (by rw [h1_4]; decide) (by rw [h1_4]; rfl) (by decide) ?_
    refine v_aload_n (q := 48) hC dX12_tell_47 rfl rfl rfl ?_
    refine v_iload_n (q := 49) hC dX12_tell_48 rfl rfl rfl ?_
    refine v_iload_n (q := 50) hC dX12_tell_49 rfl rfl rfl ?_
    refine v_callV1 (q := 53) (As := [_, _]) hC dX12_tell_50 rfl lX12_180 mX12_countBy iX12_countBy eX12_countBy rfl (hL.1 53 (by decide)) (ct_X12_countBy d hL hF hd hw p hk14.1 hk14.2) rfl rfl (by omega) rfl (Nat.le_of_ble_eq_true rfl) ?_
    refine v_ireturn hC hB dX12_tell_53 ⟨Nat.le_refl _, Nat.le_refl _⟩ ?_
    have ek : 1 ≤ k ∧ k ≤ 4 := hk14
    have e : pTl kd t m F w p k = nI (pCnt (pCw kd t F w p k) m) := by unfold pTl; rw [if_neg (by omega), if_neg (by omega)]
    rw [e]
    exact ⟨rfl, rfl⟩
  by_cases h1_5 : nI k = 5
  · refine v_tableIn (q := 54) (off := 53) hC dX12_tell_1 (by rw [h1_5]; decide) (by rw [h1_5]; decide) (by rw [h1_5]; rfl) (by decide) ?_
    refine v_aload_n (q := 55) hC dX12_tell_54 rfl rfl rfl ?_
    refine v_iload_n (q := 56) hC dX12_tell_55 rfl rfl rfl ?_
    refine v_callV1 (q := 59) (As := [_]) hC dX12_tell_56 rfl lX12_170 mX12_termOf iX12_termOf eX12_termOf rfl (hL.1 53 (by decide)) (ct_X12_termOf (d + 2) hL hF hp) rfl rfl (by omega) rfl (Nat.le_of_ble_eq_true rfl) ?_
    refine v_ireturn hC hB dX12_tell_59 ⟨Nat.le_refl _, Nat.le_refl _⟩ ?_
    have ek : k = 5 := (nI_eq (a := k) (b := 5) (by omega) (by omega)).mp h1_5
    have e : pTl kd t m F w p k = nI (pTm kd t p) := by unfold pTl; rw [if_neg (by omega), if_pos ek]
    rw [e]
    exact ⟨rfl, rfl⟩
  refine v_tableOut (q := 60) hC dX12_tell_1 (by have := lv_neT (a := 0) h1_0 rfl; have := lv_neT (a := 1) h1_1 rfl; have := lv_neT (a := 2) h1_2 rfl; have := lv_neT (a := 3) h1_3 rfl; have := lv_neT (a := 4) h1_4 rfl; have := lv_neT (a := 5) h1_5 rfl; omega) (by decide) ?_
  refine v_bipush (q := 62) (v := -102) hC dX12_tell_60 rfl (by decide) ?_
  refine v_ireturn hC hB dX12_tell_62 ⟨Nat.le_refl _, Nat.le_refl _⟩ ?_
  exact absurd hk5 (by have n0 : k ≠ 0 := (fun z => h1_0 (by rw [z]; rfl)); have n1 : k ≠ 1 := (fun z => h1_1 (by rw [z]; rfl)); have n2 : k ≠ 2 := (fun z => h1_2 (by rw [z]; rfl)); have n3 : k ≠ 3 := (fun z => h1_3 (by rw [z]; rfl)); have n4 : k ≠ 4 := (fun z => h1_4 (by rw [z]; rfl)); have n5 : k ≠ 5 := (fun z => h1_5 (by rw [z]; rfl)); omega)

def pTd (F : Nat → Nat → Int32) (f k : Nat) : Int32 := if k < 6 then F k f else if k = 6 then nI (pAh F 12 f) else zb (pHm F (F 0 (pFo F 12 f)) 12 (F 5 (pFo F 12 f)))

set_option maxRecDepth 100000 in
set_option maxHeartbeats 4000000 in
theorem ct_X12_tellDeed (d : Nat) {σ : zSt} (hL : zLay σ) {m : Nat} {F : Nat → Nat → Int32} {w : Nat} (hd : zMr σ m F w) {n : Nat} (hw : pLw m F n w) {f k : Nat} (hf : f < m) (hk7 : k ≤ 7) : zEv (d + 1) MX12_tellDeed [.ref 53, .int (nI f), .int (nI k)] σ (some (.int (pTd F f k))) σ := by
  refine zCt.of (L := [some (.ref 53), some (.int (nI f)), some (.int (nI k))]) (by decide) (Nat.le_of_ble_eq_true rfl) rfl (fun X hC hB => ?_)
  have hC : zC X RX12 cX12_tellDeed 3 (d + 1) 0 0 := hC
  have hB : zB X (some .int) 0 0 "tellDeed" σ _ := hB
  show zV X 3 0 [some (.ref 53), some (.int (nI f)), some (.int (nI k))] [] 0 0 σ
  have hm := hd.2.1
  refine v_iload_n (q := 1) hC dX12_tellDeed_0 rfl rfl rfl ?_
  by_cases h1_0 : nI k = 0
  · have ek : k = 0 := (nI_eq (a := k) (b := 0) (by omega) (by omega)).mp h1_0
    refine v_tableIn (q := 48) (off := 47) hC dX12_tellDeed_1 (by rw [h1_0]; decide) (by rw [h1_0]; decide) (by rw [h1_0]; rfl) (by decide) ?_
    refine v_aload_n (q := 49) hC dX12_tellDeed_48 rfl rfl rfl ?_
    refine v_getR (q := 52) (r := 60) hC dX12_tellDeed_49 rfl fX12_28 (hL.1 53 (by decide)) (hL.2 53 23 60 rfl) ?_
    refine v_bipush (q := 54) (v := 6) hC dX12_tellDeed_52 rfl (by decide) ?_
    refine v_iload_n (q := 55) hC dX12_tellDeed_54 rfl rfl rfl ?_
    refine v_imul (q := 56) hC dX12_tellDeed_55 rfl ?_
    refine v_iload_n (q := 57) hC dX12_tellDeed_56 rfl rfl rfl ?_
    refine v_iadd (q := 58) hC dX12_tellDeed_57 rfl ?_
    refine v_ialdN (q := 59) (j := 6 * f + k) hC dX12_tellDeed_58 rfl (hL.1 60 (by decide)) (z6' f k) (by omega) (by decide) ?_
    rw [hd.2.2.2 k f (by omega) hf]
    refine v_ireturn hC hB dX12_tellDeed_59 ⟨Nat.le_refl _, Nat.le_refl _⟩ ?_
    have e : pTd F f k = F k f := if_pos (by omega)
    rw [e]
    exact ⟨rfl, rfl⟩
  by_cases h1_1 : nI k = 1
  · have ek : k = 1 := (nI_eq (a := k) (b := 1) (by omega) (by omega)).mp h1_1
    refine v_tableIn (q := 48) (off := 47) hC dX12_tellDeed_1 (by rw [h1_1]; decide) (by rw [h1_1]; decide) (by rw [h1_1]; rfl) (by decide) ?_
    refine v_aload_n (q := 49) hC dX12_tellDeed_48 rfl rfl rfl ?_
    refine v_getR (q := 52) (r := 60) hC dX12_tellDeed_49 rfl fX12_28 (hL.1 53 (by decide)) (hL.2 53 23 60 rfl) ?_
    refine v_bipush (q := 54) (v := 6) hC dX12_tellDeed_52 rfl (by decide) ?_
    refine v_iload_n (q := 55) hC dX12_tellDeed_54 rfl rfl rfl ?_
    refine v_imul (q := 56) hC dX12_tellDeed_55 rfl ?_
    refine v_iload_n (q := 57) hC dX12_tellDeed_56 rfl rfl rfl ?_
    refine v_iadd (q := 58) hC dX12_tellDeed_57 rfl ?_
    refine v_ialdN (q := 59) (j := 6 * f + k) hC dX12_tellDeed_58 rfl (hL.1 60 (by decide)) (z6' f k) (by omega) (by decide) ?_
    rw [hd.2.2.2 k f (by omega) hf]
    refine v_ireturn hC hB dX12_tellDeed_59 ⟨Nat.le_refl _, Nat.le_refl _⟩ ?_
    have e : pTd F f k = F k f := if_pos (by omega)
    rw [e]
    exact ⟨rfl, rfl⟩
  by_cases h1_2 : nI k = 2
  · have ek : k = 2 := (nI_eq (a := k) (b := 2) (by omega) (by omega)).mp h1_2
    refine v_tableIn (q := 48) (off := 47) hC dX12_tellDeed_1 (by rw [h1_2]; decide) (by rw [h1_2]; decide) (by rw [h1_2]; rfl) (by decide) ?_
    refine v_aload_n (q := 49) hC dX12_tellDeed_48 rfl rfl rfl ?_
    refine v_getR (q := 52) (r := 60) hC dX12_tellDeed_49 rfl fX12_28 (hL.1 53 (by decide)) (hL.2 53 23 60 rfl) ?_
    refine v_bipush (q := 54) (v := 6) hC dX12_tellDeed_52 rfl (by decide) ?_
    refine v_iload_n (q := 55) hC dX12_tellDeed_54 rfl rfl rfl ?_
    refine v_imul (q := 56) hC dX12_tellDeed_55 rfl ?_
    refine v_iload_n (q := 57) hC dX12_tellDeed_56 rfl rfl rfl ?_
    refine v_iadd (q := 58) hC dX12_tellDeed_57 rfl ?_
    refine v_ialdN (q := 59) (j := 6 * f + k) hC dX12_tellDeed_58 rfl (hL.1 60 (by decide)) (z6' f k) (by omega) (by decide) ?_
    rw [hd.2.2.2 k f (by omega) hf]
    refine v_ireturn hC hB dX12_tellDeed_59 ⟨Nat.le_refl _, Nat.le_refl _⟩ ?_
    have e : pTd F f k = F k f := if_pos (by omega)
    rw [e]
    exact ⟨rfl, rfl⟩
  by_cases h1_3 : nI k = 3
  · have ek : k = 3 := (nI_eq (a := k) (b := 3) (by omega) (by omega)).mp h1_3
    refine v_tableIn (q := 48) (off := 47) hC dX12_tellDeed_1 (by rw [h1_3]; decide) (by rw [h1_3]; decide) (by rw [h1_3]; rfl) (by decide) ?_
    refine v_aload_n (q := 49) hC dX12_tellDeed_48 rfl rfl rfl ?_
    refine v_getR (q := 52) (r := 60) hC dX12_tellDeed_49 rfl fX12_28 (hL.1 53 (by decide)) (hL.2 53 23 60 rfl) ?_
    refine v_bipush (q := 54) (v := 6) hC dX12_tellDeed_52 rfl (by decide) ?_
    refine v_iload_n (q := 55) hC dX12_tellDeed_54 rfl rfl rfl ?_
    refine v_imul (q := 56) hC dX12_tellDeed_55 rfl ?_
    refine v_iload_n (q := 57) hC dX12_tellDeed_56 rfl rfl rfl ?_
    refine v_iadd (q := 58) hC dX12_tellDeed_57 rfl ?_
    refine v_ialdN (q := 59) (j := 6 * f + k) hC dX12_tellDeed_58 rfl (hL.1 60 (by decide)) (z6' f k) (by omega) (by decide) ?_
    rw [hd.2.2.2 k f (by omega) hf]
    refine v_ireturn hC hB dX12_tellDeed_59 ⟨Nat.le_refl _, Nat.le_refl _⟩ ?_
    have e : pTd F f k = F k f := if_pos (by omega)
    rw [e]
    exact ⟨rfl, rfl⟩
  by_cases h1_4 : nI k = 4
  · have ek : k = 4 := (nI_eq (a := k) (b := 4) (by omega) (by omega)).mp h1_4
    refine v_tableIn (q := 48) (off := 47) hC dX12_tellDeed_1 (by rw [h1_4]; decide) (by rw [h1_4]; decide) (by rw [h1_4]; rfl) (by decide) ?_
    refine v_aload_n (q := 49) hC dX12_tellDeed_48 rfl rfl rfl ?_
    refine v_getR (q := 52) (r := 60) hC dX12_tellDeed_49 rfl fX12_28 (hL.1 53 (by decide)) (hL.2 53 23 60 rfl) ?_
    refine v_bipush (q := 54) (v := 6) hC dX12_tellDeed_52 rfl (by decide) ?_
    refine v_iload_n (q := 55) hC dX12_tellDeed_54 rfl rfl rfl ?_
    refine v_imul (q := 56) hC dX12_tellDeed_55 rfl ?_
    refine v_iload_n (q := 57) hC dX12_tellDeed_56 rfl rfl rfl ?_
    refine v_iadd (q := 58) hC dX12_tellDeed_57 rfl ?_
    refine v_ialdN (q := 59) (j := 6 * f + k) hC dX12_tellDeed_58 rfl (hL.1 60 (by decide)) (z6' f k) (by omega) (by decide) ?_
    rw [hd.2.2.2 k f (by omega) hf]
    refine v_ireturn hC hB dX12_tellDeed_59 ⟨Nat.le_refl _, Nat.le_refl _⟩ ?_
    have e : pTd F f k = F k f := if_pos (by omega)
    rw [e]
    exact ⟨rfl, rfl⟩
  by_cases h1_5 : nI k = 5
  · have ek : k = 5 := (nI_eq (a := k) (b := 5) (by omega) (by omega)).mp h1_5
    refine v_tableIn (q := 48) (off := 47) hC dX12_tellDeed_1 (by rw [h1_5]; decide) (by rw [h1_5]; decide) (by rw [h1_5]; rfl) (by decide) ?_
    refine v_aload_n (q := 49) hC dX12_tellDeed_48 rfl rfl rfl ?_
    refine v_getR (q := 52) (r := 60) hC dX12_tellDeed_49 rfl fX12_28 (hL.1 53 (by decide)) (hL.2 53 23 60 rfl) ?_
    refine v_bipush (q := 54) (v := 6) hC dX12_tellDeed_52 rfl (by decide) ?_
    refine v_iload_n (q := 55) hC dX12_tellDeed_54 rfl rfl rfl ?_
    refine v_imul (q := 56) hC dX12_tellDeed_55 rfl ?_
    refine v_iload_n (q := 57) hC dX12_tellDeed_56 rfl rfl rfl ?_
    refine v_iadd (q := 58) hC dX12_tellDeed_57 rfl ?_
    refine v_ialdN (q := 59) (j := 6 * f + k) hC dX12_tellDeed_58 rfl (hL.1 60 (by decide)) (z6' f k) (by omega) (by decide) ?_
    rw [hd.2.2.2 k f (by omega) hf]
    refine v_ireturn hC hB dX12_tellDeed_59 ⟨Nat.le_refl _, Nat.le_refl _⟩ ?_
    have e : pTd F f k = F k f := if_pos (by omega)
    rw [e]
    exact ⟨rfl, rfl⟩
  by_cases h1_6 : nI k = 6
  · have ek : k = 6 := (nI_eq (a := k) (b := 6) (by omega) (by omega)).mp h1_6
    refine v_tableIn (q := 60) (off := 59) hC dX12_tellDeed_1 (by rw [h1_6]; decide) (by rw [h1_6]; decide) (by rw [h1_6]; rfl) (by decide) ?_
    refine v_aload_n (q := 61) hC dX12_tellDeed_60 rfl rfl rfl ?_
    refine v_iload_n (q := 62) hC dX12_tellDeed_61 rfl rfl rfl ?_
    refine v_callV1 (q := 65) (As := [_]) hC dX12_tellDeed_62 rfl lX12_209 mX12_aheadOf iX12_aheadOf eX12_aheadOf rfl (hL.1 53 (by decide)) (ct_X12_aheadOf d hL hd hw hf) rfl rfl (by omega) rfl (Nat.le_of_ble_eq_true rfl) ?_
    refine v_ireturn hC hB dX12_tellDeed_65 ⟨Nat.le_refl _, Nat.le_refl _⟩ ?_
    have e : pTd F f k = nI (pAh F 12 f) := by unfold pTd; rw [if_neg (by omega), if_pos ek]
    rw [e]
    exact ⟨rfl, rfl⟩
  by_cases h1_7 : nI k = 7
  · have ek : k = 7 := (nI_eq (a := k) (b := 7) (by omega) (by omega)).mp h1_7
    refine v_tableIn (q := 66) (off := 65) hC dX12_tellDeed_1 (by rw [h1_7]; decide) (by rw [h1_7]; decide) (by rw [h1_7]; rfl) (by decide) ?_
    refine v_aload_n (q := 67) hC dX12_tellDeed_66 rfl rfl rfl ?_
    refine v_aload_n (q := 68) hC dX12_tellDeed_67 rfl rfl rfl ?_
    refine v_iload_n (q := 69) hC dX12_tellDeed_68 rfl rfl rfl ?_
    refine v_callV1 (q := 72) (As := [_]) hC dX12_tellDeed_69 rfl lX12_212 mX12_firstOf iX12_firstOf eX12_firstOf rfl (hL.1 53 (by decide)) (ct_X12_firstOf d hL hd hw hf) rfl rfl (by omega) rfl (Nat.le_of_ble_eq_true rfl) ?_
    refine v_callV1 (q := 75) (As := [_]) hC dX12_tellDeed_72 rfl lX12_215 mX12_isHome iX12_isHome eX12_isHome rfl (hL.1 53 (by decide)) (ct_X12_isHome d hL hd hw (pFo_lt hw hm 12 f hf)) rfl rfl (by omega) rfl (Nat.le_of_ble_eq_true rfl) ?_
    refine v_if_eq (q := 78) (tgt := 82) hC dX12_tellDeed_75 rfl (by decide) (fun h75 => ?_) (fun h75 => ?_)
    · refine v_iconst (q := 83) (v := 0) hC dX12_tellDeed_82 rfl (by decide) ?_
      refine v_ireturn hC hB dX12_tellDeed_83 ⟨Nat.le_refl _, Nat.le_refl _⟩ ?_
      have e : pTd F f k = zb (pHm F (F 0 (pFo F 12 f)) 12 (F 5 (pFo F 12 f))) := by unfold pTd; rw [if_neg (by omega), if_neg (by omega)]
      rw [e]
      first | (rw [zb_ne h75]; exact ⟨rfl, rfl⟩) | (rw [zb_eq0.mp h75]; exact ⟨rfl, rfl⟩)
    · refine v_iconst (q := 79) (v := 1) hC dX12_tellDeed_78 rfl (by decide) ?_
      refine v_goto (q := 83) hC dX12_tellDeed_79 (by decide) ?_
      refine v_ireturn hC hB dX12_tellDeed_83 ⟨Nat.le_refl _, Nat.le_refl _⟩ ?_
      have e : pTd F f k = zb (pHm F (F 0 (pFo F 12 f)) 12 (F 5 (pFo F 12 f))) := by unfold pTd; rw [if_neg (by omega), if_neg (by omega)]
      rw [e]
      first | (rw [zb_ne h75]; exact ⟨rfl, rfl⟩) | (rw [zb_eq0.mp h75]; exact ⟨rfl, rfl⟩)
  refine v_tableOut (q := 84) hC dX12_tellDeed_1 (by have := lv_neT (a := 0) h1_0 rfl; have := lv_neT (a := 1) h1_1 rfl; have := lv_neT (a := 2) h1_2 rfl; have := lv_neT (a := 3) h1_3 rfl; have := lv_neT (a := 4) h1_4 rfl; have := lv_neT (a := 5) h1_5 rfl; have := lv_neT (a := 6) h1_6 rfl; have := lv_neT (a := 7) h1_7 rfl; omega) (by decide) ?_
  refine v_bipush (q := 86) (v := -102) hC dX12_tellDeed_84 rfl (by decide) ?_
  refine v_ireturn hC hB dX12_tellDeed_86 ⟨Nat.le_refl _, Nat.le_refl _⟩ ?_
  exact absurd hk7 (by have n0 : k ≠ 0 := (fun z => h1_0 (by rw [z]; rfl)); have n1 : k ≠ 1 := (fun z => h1_1 (by rw [z]; rfl)); have n2 : k ≠ 2 := (fun z => h1_2 (by rw [z]; rfl)); have n3 : k ≠ 3 := (fun z => h1_3 (by rw [z]; rfl)); have n4 : k ≠ 4 := (fun z => h1_4 (by rw [z]; rfl)); have n5 : k ≠ 5 := (fun z => h1_5 (by rw [z]; rfl)); have n6 : k ≠ 6 := (fun z => h1_6 (by rw [z]; rfl)); have n7 : k ≠ 7 := (fun z => h1_7 (by rw [z]; rfl)); omega)

set_option maxRecDepth 100000 in
set_option maxHeartbeats 4000000 in
theorem ct_X12_betweenOf (d : Nat) {σ : zSt} (hL : zLay σ) {n : Nat} {kd : Nat → Nat} {kin met : Nat → Nat → Bool} {t : Nat} (hF : zMf σ n kd kin met t) (hs : zMs σ none none) {a b : Nat} (ha : a < n) (hb : b < n) : zEv (d + 2) MX12_betweenOf [.ref 53, .int (nI a), .int (nI b)] σ (some (.int (if kin a b then 3 else if pKn kd kin met a b then 2 else 0))) σ := by
  refine zCt.of (L := [some (.ref 53), some (.int (nI a)), some (.int (nI b))]) (by decide) (Nat.le_of_ble_eq_true rfl) rfl (fun X hC hB => ?_)
  have hC : zC X RX12 cX12_betweenOf 3 (d + 2) 0 0 := hC
  have hB : zB X (some .int) 0 0 "betweenOf" σ _ := hB
  show zV X 3 0 [some (.ref 53), some (.int (nI a)), some (.int (nI b))] [] 0 0 σ
  have hn6 := hF.2.1
  refine v_aload_n (q := 1) hC dX12_betweenOf_0 rfl rfl rfl ?_
  refine v_iload_n (q := 2) hC dX12_betweenOf_1 rfl rfl rfl ?_
  refine v_iload_n (q := 3) hC dX12_betweenOf_2 rfl rfl rfl ?_
  refine v_callV1 (q := 6) (As := [_, _]) hC dX12_betweenOf_3 rfl lX12_150 mX12_areKin iX12_areKin eX12_areKin rfl (hL.1 53 (by decide)) (ct_X12_areKin (d + 1) hL hF (show a < 6 by omega) (show b < 6 by omega)) rfl rfl (by omega) rfl (Nat.le_of_ble_eq_true rfl) ?_
  refine v_if_eq (q := 9) (tgt := 13) hC dX12_betweenOf_6 rfl (by decide) (fun h6 => ?_) (fun h6 => ?_)
  · refine v_aload_n (q := 14) hC dX12_betweenOf_13 rfl rfl rfl ?_
    refine v_iload_n (q := 15) hC dX12_betweenOf_14 rfl rfl rfl ?_
    refine v_iload_n (q := 16) hC dX12_betweenOf_15 rfl rfl rfl ?_
    refine v_callV1 (q := 19) (As := [_, _]) hC dX12_betweenOf_16 rfl lX12_154 mX12_know iX12_know eX12_know rfl (hL.1 53 (by decide)) (ct_X12_know d hL hF hs (by simp) ha hb) rfl rfl (by omega) rfl (Nat.le_of_ble_eq_true rfl) ?_
    refine v_if_eq (q := 22) (tgt := 26) hC dX12_betweenOf_19 rfl (by decide) (fun h19 => ?_) (fun h19 => ?_)
    · refine v_iconst (q := 27) (v := 0) hC dX12_betweenOf_26 rfl (by decide) ?_
      refine v_ireturn hC hB dX12_betweenOf_27 ⟨Nat.le_refl _, Nat.le_refl _⟩ ?_
      first | (rw [if_pos (zb_ne h6)]; exact ⟨rfl, rfl⟩) | (rw [if_neg (by rw [zb_eq0.mp h6]; decide)]; simp only [pBs, Bool.or_false] at h19; first | (rw [if_pos (zb_ne h19)]; exact ⟨rfl, rfl⟩) | (rw [if_neg (by rw [zb_eq0.mp h19]; decide)]; exact ⟨rfl, rfl⟩))
    · refine v_iconst (q := 23) (v := 2) hC dX12_betweenOf_22 rfl (by decide) ?_
      refine v_goto (q := 27) hC dX12_betweenOf_23 (by decide) ?_
      refine v_ireturn hC hB dX12_betweenOf_27 ⟨Nat.le_refl _, Nat.le_refl _⟩ ?_
      first | (rw [if_pos (zb_ne h6)]; exact ⟨rfl, rfl⟩) | (rw [if_neg (by rw [zb_eq0.mp h6]; decide)]; simp only [pBs, Bool.or_false] at h19; first | (rw [if_pos (zb_ne h19)]; exact ⟨rfl, rfl⟩) | (rw [if_neg (by rw [zb_eq0.mp h19]; decide)]; exact ⟨rfl, rfl⟩))
  · refine v_iconst (q := 10) (v := 3) hC dX12_betweenOf_9 rfl (by decide) ?_
    refine v_goto (q := 27) hC dX12_betweenOf_10 (by decide) ?_
    refine v_ireturn hC hB dX12_betweenOf_27 ⟨Nat.le_refl _, Nat.le_refl _⟩ ?_
    first | (rw [if_pos (zb_ne h6)]; exact ⟨rfl, rfl⟩) | (rw [if_neg (by rw [zb_eq0.mp h6]; decide)]; simp only [pBs, Bool.or_false] at h19; first | (rw [if_pos (zb_ne h19)]; exact ⟨rfl, rfl⟩) | (rw [if_neg (by rw [zb_eq0.mp h19]; decide)]; exact ⟨rfl, rfl⟩))

set_option maxRecDepth 100000 in
set_option maxHeartbeats 4000000 in
theorem ct_X12_areNamed (d : Nat) {σ : zSt} (hL : zLay σ) {n : Nat} {kd : Nat → Nat} {kin met : Nat → Nat → Bool} {t : Nat} (hF : zMf σ n kd kin met t) {m : Nat} {F : Nat → Nat → Int32} {w : Nat} (hd : zMr σ m F w) (a b r : Int32) : zEv (d + 3) MX12_areNamed [.ref 53, .int a, .int b, .int r] σ (some (.int (zb (zval n a && zval n b && !decide (a = b) && (decide (r = -1) || zval m r))))) σ := by
  refine zCt.of (L := [some (.ref 53), some (.int a), some (.int b), some (.int r)]) (by decide) (Nat.le_of_ble_eq_true rfl) rfl (fun X hC hB => ?_)
  have hC : zC X RX12 cX12_areNamed 4 (d + 3) 0 0 := hC
  have hB : zB X (some .boolean) 0 0 "areNamed" σ _ := hB
  show zV X 4 0 [some (.ref 53), some (.int a), some (.int b), some (.int r)] [] 0 0 σ
  have hm := hd.2.1
  have hn6 := hF.2.1
  refine v_aload_n (q := 1) hC dX12_areNamed_0 rfl rfl rfl ?_
  refine v_iload_n (q := 2) hC dX12_areNamed_1 rfl rfl rfl ?_
  refine v_iload_n (q := 3) hC dX12_areNamed_2 rfl rfl rfl ?_
  refine v_callV1 (q := 6) (As := [_, _]) hC dX12_areNamed_3 rfl lX12_157 mX12_arePair iX12_arePair eX12_arePair rfl (hL.1 53 (by decide)) (ct_X12_arePair d hL hF a b) rfl rfl (by omega) rfl (Nat.le_of_ble_eq_true rfl) ?_
  refine v_if_eq (q := 9) (tgt := 26) hC dX12_areNamed_6 rfl (by decide) (fun h6 => ?_) (fun h6 => ?_)
  · refine v_iconst (q := 27) (v := 0) hC dX12_areNamed_26 rfl (by decide) ?_
    refine v_zreturn hC hB dX12_areNamed_27 ⟨Nat.le_refl _, Nat.le_refl _⟩ (by first | exact Or.inl rfl | exact Or.inr rfl | exact zb_01 _) ?_
    generalize (zval n a && zval n b && !decide (a = b)) = K at *
    first | exact ⟨zbt (by simp_all [zb_eq0]), rfl⟩ | exact ⟨zbf (by simp_all [zb_eq0]), rfl⟩
  · refine v_iload_n (q := 10) hC dX12_areNamed_9 rfl rfl rfl ?_
    refine v_iconst (q := 11) (v := -1) hC dX12_areNamed_10 rfl (by decide) ?_
    refine v_icmp_eq (q := 14) (tgt := 22) hC dX12_areNamed_11 rfl (by decide) (fun h11 => ?_) (fun h11 => ?_)
    · refine v_iconst (q := 23) (v := 1) hC dX12_areNamed_22 rfl (by decide) ?_
      refine v_goto (q := 27) hC dX12_areNamed_23 (by decide) ?_
      refine v_zreturn hC hB dX12_areNamed_27 ⟨Nat.le_refl _, Nat.le_refl _⟩ (by first | exact Or.inl rfl | exact Or.inr rfl | exact zb_01 _) ?_
      generalize (zval n a && zval n b && !decide (a = b)) = K at *
      first | exact ⟨zbt (by simp_all [zb_eq0]), rfl⟩ | exact ⟨zbf (by simp_all [zb_eq0]), rfl⟩
    · refine v_aload_n (q := 15) hC dX12_areNamed_14 rfl rfl rfl ?_
      refine v_iload_n (q := 16) hC dX12_areNamed_15 rfl rfl rfl ?_
      refine v_callV1 (q := 19) (As := [_]) hC dX12_areNamed_16 rfl lX12_193 mX12_isFavour iX12_isFavour eX12_isFavour rfl (hL.1 53 (by decide)) (ct_X12_isFavour (d + 1) hL hd.1 (by omega) r) rfl rfl (by omega) rfl (Nat.le_of_ble_eq_true rfl) ?_
      refine v_if_eq (q := 22) (tgt := 26) hC dX12_areNamed_19 rfl (by decide) (fun h19 => ?_) (fun h19 => ?_)
      · refine v_iconst (q := 27) (v := 0) hC dX12_areNamed_26 rfl (by decide) ?_
        refine v_zreturn hC hB dX12_areNamed_27 ⟨Nat.le_refl _, Nat.le_refl _⟩ (by first | exact Or.inl rfl | exact Or.inr rfl | exact zb_01 _) ?_
        generalize (zval n a && zval n b && !decide (a = b)) = K at *
        first | exact ⟨zbt (by simp_all [zb_eq0]), rfl⟩ | exact ⟨zbf (by simp_all [zb_eq0]), rfl⟩
      · refine v_iconst (q := 23) (v := 1) hC dX12_areNamed_22 rfl (by decide) ?_
        refine v_goto (q := 27) hC dX12_areNamed_23 (by decide) ?_
        refine v_zreturn hC hB dX12_areNamed_27 ⟨Nat.le_refl _, Nat.le_refl _⟩ (by first | exact Or.inl rfl | exact Or.inr rfl | exact zb_01 _) ?_
        generalize (zval n a && zval n b && !decide (a = b)) = K at *
        first | exact ⟨zbt (by simp_all [zb_eq0]), rfl⟩ | exact ⟨zbf (by simp_all [zb_eq0]), rfl⟩

