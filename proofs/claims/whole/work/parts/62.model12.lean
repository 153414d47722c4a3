/-! ===== the model: ways ===== -/
theorem z60 (a : Nat) : 6 * nI a = nI (6 * a) := by rw [show (6 : Int32) = nI 6 from rfl, pk_mul]
theorem zdv6 {k : Nat} (hk : k < 1000) : nI k / 6 = nI (k / 6) := by rw [show (6 : Int32) = nI 6 from rfl, pk_div (by omega) (by omega) (by omega)]
theorem zrm6 {k : Nat} (hk : k < 1000) : nI k - nI k / 6 * 6 = nI (k % 6) := by rw [show (6 : Int32) = nI 6 from rfl, pk_rem (by omega) (by omega) (by omega)]
/-- the first row by codes -/
def pV1 (n : Nat) (gv sn : Nat → Nat → Bool) (i h0 b h w : Nat) : Option Nat := if h < n ∧ w < n ∧ w < b then (pR1 gv sn i h0 h w).map (fun g => 6 * (0 + 1) + g) else none
theorem pV1_n {n : Nat} {gv sn : Nat → Nat → Bool} {i h0 h w : Nat} : pMk n (pCd n gv sn i h0 1) h w = pV1 n gv sn i h0 n h w := by
  unfold pMk pV1
  by_cases hm : h < n ∧ w < n
  · rw [if_pos hm, if_pos ⟨hm.1, hm.2, hm.2⟩]
    show pMin2 none _ = _
    rfl
  · rw [if_neg hm, if_neg (by omega)]
theorem pV1_b {n : Nat} {gv sn : Nat → Nat → Bool} {i h0 b h w : Nat} (hh0 : h0 < n) (hb : b < n) : pV1 n gv sn i h0 (b + 1) h w = if h = h0 ∧ w = b then (if sn i b = false ∧ gv h0 b = true then some (6 + b) else none) else pV1 n gv sn i h0 b h w := by
  unfold pV1
  by_cases e : h = h0 ∧ w = b
  · obtain ⟨rfl, rfl⟩ := e
    rw [if_pos (by omega), if_pos ⟨rfl, rfl⟩]
    unfold pR1
    by_cases hp : sn i w = false ∧ gv h w = true
    · rw [if_pos ⟨rfl, hp⟩, if_pos hp]; rfl
    · rw [if_neg (fun z => hp z.2), if_neg hp]; rfl
  · rw [if_neg e]
    by_cases e2 : h < n ∧ w < n ∧ w < b
    · rw [if_pos e2, if_pos (by omega)]
    · rw [if_neg e2]
      by_cases e3 : h < n ∧ w < n ∧ w < b + 1
      · rw [if_pos e3]
        unfold pR1
        rw [if_neg (by omega)]
        rfl
      · rw [if_neg e3]
theorem pV_bc {n M : Nat} {C : Nat → Nat → Option Nat} {gv sn : Nat → Nat → Bool} {k b h w : Nat} {x : Option Nat} (hh : h < 6) (hb : b < n) (hk : k % 6 < n) (e : pT M C gv sn (k % 6) b (k / 6) = x) : pV n M C gv sn k (b + 1) h w = if h = k % 6 ∧ w = b then pMin2 (pV n M C gv sn k b (k % 6) b) x else pV n M C gv sn k b h w := by
  rw [pV_b hh hb hk, e]
  by_cases e : h = k % 6 ∧ w = b
  · rw [if_pos e, if_pos e, e.1, e.2]
  · rw [if_neg e, if_neg e]
theorem pFw_t {gv sn : Nat → Nat → Bool} {d a b : Nat} (h : ¬ zb (pFw gv sn (some d) a b) = 0) : sn d b = false ∧ gv a b = true := by
  have h := zb_ne h
  unfold pFw at h
  cases e1 : sn d b <;> cases e2 : gv a b <;> simp_all
theorem pFw_f {gv sn : Nat → Nat → Bool} {d a b : Nat} (h : zb (pFw gv sn (some d) a b) = 0) : ¬ (sn d b = false ∧ gv a b = true) := by
  have h := zb_eq0.mp h
  unfold pFw at h
  cases e1 : sn d b <;> cases e2 : gv a b <;> simp_all

set_option maxRecDepth 100000 in
set_option maxHeartbeats 4000000 in
theorem ct_X12_layWays (d : Nat) {σ : zSt} (hL : zLay σ) {n : Nat} {kd : Nat → Nat} {kin met : Nat → Nat → Bool} {t : Nat} (hF : zMf σ n kd kin met t) {m : Nat} {F : Nat → Nat → Int32} {w : Nat} (hd : zMr σ m F w) {mb : Option Nat} {pr : Option (Nat × Nat)} (hs : zMs σ mb pr) (hmb : ∀ g, mb = some g → g < 6) (hsy : ∀ a b, a < 6 → b < 6 → kin a b = kin b a) {f i h0 : Nat} (hf : f < m) (e0 : F 0 f = nI i) (e1 : F 1 f = nI h0) (hi : i < n) (hh0 : h0 < n) : zCt (d + 3) MX12_layWays [.ref 53, .int (nI f)] σ (fun r σ' => r = none ∧ zSm [61, 62] [] σ σ' ∧ zFar σ' (pMk n (pCd n (gvS kd kin met mb pr) (pSn kin) i h0 8))) := by
  refine zCt.of (L := [some (.ref 53), some (.int (nI f)), none, none, none, none, none, none]) (by decide) (Nat.le_of_ble_eq_true rfl) rfl (fun X hC hB => ?_)
  have hC : zC X RX12 cX12_layWays 8 (d + 3) 0 0 := hC
  have hB : zB X none 0 0 "layWays" σ _ := hB
  show zV X 8 0 [some (.ref 53), some (.int (nI f)), none, none, none, none, none, none] [] 0 0 σ
  have hn6 := hF.2.1
  have hm12 := hd.2.1
  have lp3 : ∀ (r3 : Nat) (M : Nat) (o3 o4 o5 o6 o7 : Option Value) (σ1 : zSt), M + r3 = 8 → 1 ≤ M → zSm [61, 62] [] σ σ1 → zFar σ1 (pMk n (pCd n (gvS kd kin met mb pr) (pSn kin) i h0 M)) → zV X 8 111 [some (.ref 53), some (.int (nI f)), some (.int (nI M)), o3, o4, o5, o6, o7] [] 0 0 σ1 := by
    intro r3
    induction r3 with
    | zero =>
      intro M o3 o4 o5 o6 o7 σ1 hM hM1 hS hz
      have hL1 := hS.lay hL
      have hF1 := hF.sm hS rfl rfl
      have hd1 := hd.sm hS rfl rfl
      have hs1 := hs.sm hS rfl
      refine v_iload_n (q := 112) hC dX12_layWays_111 rfl rfl rfl ?_
      refine v_bipush (q := 114) (v := 8) hC dX12_layWays_112 rfl (by decide) ?_
      refine v_icmp_ge (q := 117) (tgt := 296) hC dX12_layWays_114 rfl (by decide) (fun h114 => ?_) (fun h114 => ?_)
      · refine v_return hC hB dX12_layWays_296 ⟨Nat.le_refl _, Nat.le_refl _⟩ ?_
        have e : M = 8 := by omega
        subst e
        exact ⟨rfl, hS, hz⟩
      · exact absurd (nI_le (a := 8) (b := M) (by omega) (by omega)) h114
    | succ r3 ih =>
      intro M o3 o4 o5 o6 o7 σ1 hM hM1 hS hz
      have hL1 := hS.lay hL
      have hF1 := hF.sm hS rfl rfl
      have hd1 := hd.sm hS rfl rfl
      have hs1 := hs.sm hS rfl
      refine v_iload_n (q := 112) hC dX12_layWays_111 rfl rfl rfl ?_
      refine v_bipush (q := 114) (v := 8) hC dX12_layWays_112 rfl (by decide) ?_
      refine v_icmp_ge (q := 117) (tgt := 296) hC dX12_layWays_114 rfl (by decide) (fun h114 => ?_) (fun h114 => ?_)
      · exact absurd h114 (nI_ge (a := M) (b := 8) (by omega) (by omega))
      · refine v_iconst (q := 118) (v := 0) hC dX12_layWays_117 rfl (by decide) ?_
        refine v_istore_n (q := 119) (L' := [_, _, _, _, _, _, _, _]) hC dX12_layWays_118 rfl rfl (by decide) rfl rfl ?_
        have ih3 := ih
        have hBd : pBd M (pMk n (pCd n (gvS kd kin met mb pr) (pSn kin) i h0 M)) := pBd_Cd hn6
        have lp4 : ∀ (r4 : Nat) (k : Nat) (o4 o5 o6 o7 : Option Value) (σ1 : zSt), k + r4 = 36 → zSm [61, 62] [] σ σ1 → zFar σ1 (pV n M (pMk n (pCd n (gvS kd kin met mb pr) (pSn kin) i h0 M)) (gvS kd kin met mb pr) (pSn kin) k 0) → zV X 8 119 [some (.ref 53), some (.int (nI f)), some (.int (nI M)), some (.int (nI k)), o4, o5, o6, o7] [] 0 0 σ1 := by
          intro r4
          induction r4 with
          | zero =>
            intro k o4 o5 o6 o7 σ1 hk hS hz
            have hL1 := hS.lay hL
            have hF1 := hF.sm hS rfl rfl
            have hd1 := hd.sm hS rfl rfl
            have hs1 := hs.sm hS rfl
            refine v_iload_n (q := 120) hC dX12_layWays_119 rfl rfl rfl ?_
            refine v_bipush (q := 122) (v := 36) hC dX12_layWays_120 rfl (by decide) ?_
            refine v_icmp_ge (q := 125) (tgt := 290) hC dX12_layWays_122 rfl (by decide) (fun h122 => ?_) (fun h122 => ?_)
            · refine v_iinc (q := 293) (v := 1) (L' := [_, _, _, _, _, _, _, _]) hC dX12_layWays_290 rfl rfl (by decide) (by decide) rfl rfl ?_
              refine v_goto (q := 111) hC dX12_layWays_293 (by decide) ?_
              have e : k = 36 := by omega
              subst e
              rw [nI_1 M]
              exact ih3 (M + 1) _ _ _ _ _ σ1 (by omega) (by omega) hS (hz.eq (fun h w hh hw => (pV_36 hn6 (by omega) hh).symm))
            · exact absurd (nI_le (a := 36) (b := k) (by omega) (by omega)) h122
          | succ r4 ih =>
            intro k o4 o5 o6 o7 σ1 hk hS hz
            have hL1 := hS.lay hL
            have hF1 := hF.sm hS rfl rfl
            have hd1 := hd.sm hS rfl rfl
            have hs1 := hs.sm hS rfl
            refine v_iload_n (q := 120) hC dX12_layWays_119 rfl rfl rfl ?_
            refine v_bipush (q := 122) (v := 36) hC dX12_layWays_120 rfl (by decide) ?_
            refine v_icmp_ge (q := 125) (tgt := 290) hC dX12_layWays_122 rfl (by decide) (fun h122 => ?_) (fun h122 => ?_)
            · exact absurd h122 (nI_ge (a := k) (b := 36) (by omega) (by omega))
            · refine v_iconst (q := 126) (v := 0) hC dX12_layWays_125 rfl (by decide) ?_
              refine v_istore (q := 128) (L' := [_, _, _, _, _, _, _, _]) hC dX12_layWays_126 rfl (by decide) rfl rfl ?_
              have ih4 := ih
              have lp5 : ∀ (r : Nat) (b : Nat) (o5 o6 o7 : Option Value) (σ1 : zSt), b + r = n → zSm [61, 62] [] σ σ1 → zFar σ1 (pV n M (pMk n (pCd n (gvS kd kin met mb pr) (pSn kin) i h0 M)) (gvS kd kin met mb pr) (pSn kin) k b) → zV X 8 128 [some (.ref 53), some (.int (nI f)), some (.int (nI M)), some (.int (nI k)), some (.int (nI b)), o5, o6, o7] [] 0 0 σ1 := by
                intro r
                induction r with
                | zero =>
                  intro b o5 o6 o7 σ1 hb hS hz
                  have hL1 := hS.lay hL
                  have hF1 := hF.sm hS rfl rfl
                  have hd1 := hd.sm hS rfl rfl
                  have hs1 := hs.sm hS rfl
                  refine v_iload (q := 130) hC dX12_layWays_128 rfl rfl ?_
                  refine v_aload_n (q := 131) hC dX12_layWays_130 rfl rfl rfl ?_
                  refine v_getI (q := 134) hC dX12_layWays_131 rfl fX12_126 (hL1.1 53 (by decide)) ?_
                  rw [hF1.1]
                  refine v_icmp_ge (q := 137) (tgt := 284) hC dX12_layWays_134 rfl (by decide) (fun h134 => ?_) (fun h134 => ?_)
                  · refine v_iinc (q := 287) (v := 1) (L' := [_, _, _, _, _, _, _, _]) hC dX12_layWays_284 rfl rfl (by decide) (by decide) rfl rfl ?_
                    refine v_goto (q := 119) hC dX12_layWays_287 (by decide) ?_
                    have e : b = n := by omega
                    subst e
                    rw [nI_1 k]
                    exact ih4 (k + 1) _ _ _ _ σ1 (by omega) hS (hz.eq (fun h w hh hw => pV_k hh))
                  · exact absurd (nI_le (a := n) (b := b) (by omega) (by omega)) h134
                | succ r ih =>
                  intro b o5 o6 o7 σ1 hb hS hz
                  have hL1 := hS.lay hL
                  have hF1 := hF.sm hS rfl rfl
                  have hd1 := hd.sm hS rfl rfl
                  have hs1 := hs.sm hS rfl
                  refine v_iload (q := 130) hC dX12_layWays_128 rfl rfl ?_
                  refine v_aload_n (q := 131) hC dX12_layWays_130 rfl rfl rfl ?_
                  refine v_getI (q := 134) hC dX12_layWays_131 rfl fX12_126 (hL1.1 53 (by decide)) ?_
                  rw [hF1.1]
                  refine v_icmp_ge (q := 137) (tgt := 284) hC dX12_layWays_134 rfl (by decide) (fun h134 => ?_) (fun h134 => ?_)
                  · exact absurd h134 (nI_ge (a := b) (b := n) (by omega) (by omega))
                  · have hbn : b < n := by omega
                    have hzk := hz (k / 6) (k % 6) (by omega) (by omega)
                    rw [show 6 * (k / 6) + k % 6 = k by omega] at hzk
                    refine v_aload_n (q := 138) hC dX12_layWays_137 rfl rfl rfl ?_
                    refine v_getR (q := 141) (r := 61) hC dX12_layWays_138 rfl fX12_31 (hL1.1 53 (by decide)) (hL1.2 53 24 61 rfl) ?_
                    refine v_iload_n (q := 142) hC dX12_layWays_141 rfl rfl rfl ?_
                    refine v_ialdN (q := 143) (j := k) hC dX12_layWays_142 rfl (hL1.1 61 (by decide)) rfl (by omega) (by decide) ?_
                    refine v_iload_n (q := 144) hC dX12_layWays_143 rfl rfl rfl ?_
                    refine v_icmp_ne (q := 147) (tgt := 284) hC dX12_layWays_144 rfl (by decide) (fun h144 => ?_) (fun h144 => ?_)
                    · refine v_iinc (q := 287) (v := 1) (L' := [_, _, _, _, _, _, _, _]) hC dX12_layWays_284 rfl rfl (by decide) (by decide) rfl rfl ?_
                      refine v_goto (q := 119) hC dX12_layWays_287 (by decide) ?_
                      have hx : pLv M ((pMk n (pCd n (gvS kd kin met mb pr) (pSn kin) i h0 M)) (k / 6) (k % 6)) = none := by
                        cases e : (pMk n (pCd n (gvS kd kin met mb pr) (pSn kin) i h0 M)) (k / 6) (k % 6) with
                        | none => rfl
                        | some z =>
                          refine if_neg (fun hzM => ?_)
                          have hm : k / 6 < n ∧ k % 6 < n := by unfold pMk at e; split at e; assumption; cases e
                          rw [pV_of hBd hm.1 hm.2 e] at hzk
                          exact h144 (by rw [hzk.2.1, hzM])
                      rw [nI_1 k]
                      exact ih4 (k + 1) _ _ _ _ σ1 (by omega) hS (hz.eq (fun h w hh hw => pV_x hh hx))
                    · obtain ⟨c, ec, hc60, hcM, ey⟩ := hzk.lv (by omega) h144
                      obtain ⟨hdn, hkn, eC⟩ := pV_at hBd ec hcM
                      refine v_iload_n (q := 148) hC dX12_layWays_147 rfl rfl rfl ?_
                      refine v_bipush (q := 150) (v := 6) hC dX12_layWays_148 rfl (by decide) ?_
                      refine v_irem (q := 151) hC dX12_layWays_150 rfl (by decide) ?_
                      rw [zrm6 (by omega)]
                      refine v_istore (q := 153) (L' := [_, _, _, _, _, _, _, _]) hC dX12_layWays_151 rfl (by decide) rfl rfl ?_
                      refine v_aload_n (q := 154) hC dX12_layWays_153 rfl rfl rfl ?_
                      refine v_iload_n (q := 155) hC dX12_layWays_154 rfl rfl rfl ?_
                      refine v_bipush (q := 157) (v := 6) hC dX12_layWays_155 rfl (by decide) ?_
                      refine v_idiv (q := 158) hC dX12_layWays_157 rfl (by decide) ?_
                      rw [zdv6 (by omega), show nI (k / 6) = zo (some (k / 6)) from rfl]
                      refine v_iload (q := 160) hC dX12_layWays_158 rfl rfl ?_
                      refine v_iload (q := 162) hC dX12_layWays_160 rfl rfl ?_
                      refine v_callV1 (q := 165) (As := [_, _, _]) hC dX12_layWays_162 rfl lX12_189 mX12_follows iX12_follows eX12_follows rfl (hL1.1 53 (by decide)) (ct_X12_follows d hL1 hF1 hs1 hmb hsy (i := some (k / 6)) (fun g hg => by cases hg; exact hdn) hkn hbn) rfl rfl (by omega) rfl (Nat.le_of_ble_eq_true rfl) ?_
                      refine v_if_eq (q := 168) (tgt := 278) hC dX12_layWays_165 rfl (by decide) (fun h165 => ?_) (fun h165 => ?_)
                      · refine v_iinc (q := 281) (v := 1) (L' := [_, _, _, _, _, _, _, _]) hC dX12_layWays_278 rfl rfl (by decide) (by decide) rfl rfl ?_
                        refine v_goto (q := 128) hC dX12_layWays_281 (by decide) ?_
                        have hP := pFw_f h165
                        rw [nI_1 b]
                        refine ih (b + 1) _ _ _ _ (by omega) hS (hz.eq (fun h w hh hw => ?_))
                        rw [pV_b hh hbn hkn]
                        have ePT : pT M (pMk n (pCd n (gvS kd kin met mb pr) (pSn kin) i h0 M)) (gvS kd kin met mb pr) (pSn kin) (k % 6) b (k / 6) = none := by unfold pT; rw [if_neg hP]
                        rw [ePT, pMin2_none]
                        split <;> rfl
                      · have hP := pFw_t h165
                        have ePT : pT M (pMk n (pCd n (gvS kd kin met mb pr) (pSn kin) i h0 M)) (gvS kd kin met mb pr) (pSn kin) (k % 6) b (k / 6) = some (c + 6) := by unfold pT; rw [if_pos hP, eC]; exact if_pos hcM
                        have hza := hz (k % 6) b (by omega) (by omega)
                        have hup : ∀ z, pV n M (pMk n (pCd n (gvS kd kin met mb pr) (pSn kin) i h0 M)) (gvS kd kin met mb pr) (pSn kin) k b (k % 6) b = some z → z / 6 ≤ M + 1 := fun z hz => pV_up hBd hz
                        refine v_bipush (q := 170) (v := 6) hC dX12_layWays_168 rfl (by decide) ?_
                        refine v_iload (q := 172) hC dX12_layWays_170 rfl rfl ?_
                        refine v_imul (q := 173) hC dX12_layWays_172 rfl ?_
                        refine v_iload (q := 175) hC dX12_layWays_173 rfl rfl ?_
                        refine v_iadd (q := 176) hC dX12_layWays_175 rfl ?_
                        rw [z6' (k % 6) b]
                        refine v_istore (q := 178) (L' := [_, _, _, _, _, _, _, _]) hC dX12_layWays_176 rfl (by decide) rfl rfl ?_
                        refine v_aload_n (q := 179) hC dX12_layWays_178 rfl rfl rfl ?_
                        refine v_getR (q := 182) (r := 61) hC dX12_layWays_179 rfl fX12_31 (hL1.1 53 (by decide)) (hL1.2 53 24 61 rfl) ?_
                        refine v_iload (q := 184) hC dX12_layWays_182 rfl rfl ?_
                        refine v_ialdN (q := 185) (j := (6 * (k % 6) + b)) hC dX12_layWays_184 rfl (hL1.1 61 (by decide)) rfl (by omega) (by decide) ?_
                        refine v_iconst (q := 186) (v := -1) hC dX12_layWays_185 rfl (by decide) ?_
                        refine v_icmp_eq (q := 189) (tgt := 218) hC dX12_layWays_186 rfl (by decide) (fun h186 => ?_) (fun h186 => ?_)
                        · refine v_iconst (q := 219) (v := 1) hC dX12_layWays_218 rfl (by decide) ?_
                          refine v_goto (q := 223) hC dX12_layWays_219 (by decide) ?_
                          have j223 : ∀ bt : Bool, ((bt = true ∧ pMin2 (pV n M (pMk n (pCd n (gvS kd kin met mb pr) (pSn kin) i h0 M)) (gvS kd kin met mb pr) (pSn kin) k b (k % 6) b) (some (c + 6)) = some (c + 6)) ∨ (bt = false ∧ pMin2 (pV n M (pMk n (pCd n (gvS kd kin met mb pr) (pSn kin) i h0 M)) (gvS kd kin met mb pr) (pSn kin) k b (k % 6) b) (some (c + 6)) = pV n M (pMk n (pCd n (gvS kd kin met mb pr) (pSn kin) i h0 M)) (gvS kd kin met mb pr) (pSn kin) k b (k % 6) b)) → zV X 8 223 [some (.ref 53), some (.int (nI f)), some (.int (nI M)), some (.int (nI k)), some (.int (nI b)), some (.int (nI (k % 6))), some (.int (nI (6 * (k % 6) + b))), o7] [.int (zb bt)] 0 0 σ1 := by
                            intro bt hbt
                            refine v_istore (q := 225) (L' := [_, _, _, _, _, _, _, _]) hC dX12_layWays_223 rfl (by decide) rfl rfl ?_
                            refine v_aload_n (q := 226) hC dX12_layWays_225 rfl rfl rfl ?_
                            refine v_getR (q := 229) (r := 62) hC dX12_layWays_226 rfl fX12_34 (hL1.1 53 (by decide)) (hL1.2 53 25 62 rfl) ?_
                            refine v_iload (q := 231) hC dX12_layWays_229 rfl rfl ?_
                            refine v_iload (q := 233) hC dX12_layWays_231 rfl rfl ?_
                            refine v_if_eq (q := 236) (tgt := 245) hC dX12_layWays_233 rfl (by decide) (fun h233 => ?_) (fun h233 => ?_)
                            · refine v_aload_n (q := 246) hC dX12_layWays_245 rfl rfl rfl ?_
                              refine v_getR (q := 249) (r := 62) hC dX12_layWays_246 rfl fX12_34 (hL1.1 53 (by decide)) (hL1.2 53 25 62 rfl) ?_
                              refine v_iload (q := 251) hC dX12_layWays_249 rfl rfl ?_
                              refine v_ialdN (q := 252) (j := (6 * (k % 6) + b)) hC dX12_layWays_251 rfl (hL1.1 62 (by decide)) rfl (by omega) (by decide) ?_
                              refine v_iastN (q := 253) (j := (6 * (k % 6) + b)) hC dX12_layWays_252 rfl (hL1.1 62 (by decide)) rfl (by omega) (by decide) ?_
                              refine v_aload_n (q := 254) hC dX12_layWays_253 rfl rfl rfl ?_
                              refine v_getR (q := 257) (r := 61) hC dX12_layWays_254 rfl fX12_31 (hL1.1 53 (by decide)) (hL1.2 53 24 61 rfl) ?_
                              refine v_iload (q := 259) hC dX12_layWays_257 rfl rfl ?_
                              refine v_iload (q := 261) hC dX12_layWays_259 rfl rfl ?_
                              refine v_if_eq (q := 264) (tgt := 270) hC dX12_layWays_261 rfl (by decide) (fun h261 => ?_) (fun h261 => ?_)
                              · refine v_aload_n (q := 271) hC dX12_layWays_270 rfl rfl rfl ?_
                                refine v_getR (q := 274) (r := 61) hC dX12_layWays_271 rfl fX12_31 (hL1.1 53 (by decide)) (hL1.2 53 24 61 rfl) ?_
                                refine v_iload (q := 276) hC dX12_layWays_274 rfl rfl ?_
                                refine v_ialdN (q := 277) (j := (6 * (k % 6) + b)) hC dX12_layWays_276 rfl (hL1.1 61 (by decide)) rfl (by omega) (by decide) ?_
                                refine v_iastN (q := 278) (j := (6 * (k % 6) + b)) hC dX12_layWays_277 rfl (hL1.1 61 (by decide)) rfl (by omega) (by decide) ?_
                                refine v_iinc (q := 281) (v := 1) (L' := [_, _, _, _, _, _, _, _]) hC dX12_layWays_278 rfl rfl (by decide) (by decide) rfl rfl ?_
                                refine v_goto (q := 128) hC dX12_layWays_281 (by decide) ?_
                                rw [nI_1 b]
                                first
                                  | exact absurd h233 h261
                                  | exact absurd h261 h233
                                  | (have hb1 := (zb_ne h233)
                                     have hm2 := hbt.resolve_right (fun z => by rw [z.1] at hb1; cases hb1)
                                     refine ih (b + 1) _ _ _ _ (by omega) ((hS.c (by simp) (by decide)).c (by simp) (by decide)) (hz.set (a := k % 6) (b := b) (x := nI (M + 1)) (y := nI (c % 6)) (o := pMin2 (pV n M (pMk n (pCd n (gvS kd kin met mb pr) (pSn kin) i h0 M)) (gvS kd kin met mb pr) (pSn kin) k b (k % 6) b) (some (c + 6))) (by omega) (fun q => by rw [zI_sI]; by_cases e : q = 6 * (k % 6) + b <;> simp [e]; rw [zI_ne (by omega)]) (fun q => by rw [zI_ne (by omega), zI_sI]; by_cases e : q = 6 * (k % 6) + b <;> simp [e]) ?_ (fun h w hh hw => pV_bc hh hbn hkn ePT))
                                     rw [hm2.2]
                                     exact ⟨by omega, by rw [show (c + 6) / 6 = M + 1 by omega], by rw [show (c + 6) % 6 = c % 6 by omega]⟩)
                                  | (have hb1 := (zb_eq0.mp h233)
                                     have hm2 := hbt.resolve_left (fun z => by rw [z.1] at hb1; cases hb1)
                                     rw [zI_ne (by omega)]
                                     refine ih (b + 1) _ _ _ _ (by omega) ((hS.c (by simp) (by decide)).c (by simp) (by decide)) (hz.set (a := k % 6) (b := b) (x := zI σ1 61 (6 * (k % 6) + b)) (y := zI σ1 62 (6 * (k % 6) + b)) (o := pMin2 (pV n M (pMk n (pCd n (gvS kd kin met mb pr) (pSn kin) i h0 M)) (gvS kd kin met mb pr) (pSn kin) k b (k % 6) b) (some (c + 6))) (by omega) (fun q => by rw [zI_sI]; by_cases e : q = 6 * (k % 6) + b <;> simp [e]; rw [zI_ne (by omega)]) (fun q => by rw [zI_ne (by omega), zI_sI]; by_cases e : q = 6 * (k % 6) + b <;> simp [e]) ?_ (fun h w hh hw => pV_bc hh hbn hkn ePT))
                                     rw [hm2.2]
                                     exact hza)
                              · refine v_iload_n (q := 265) hC dX12_layWays_264 rfl rfl rfl ?_
                                refine v_iconst (q := 266) (v := 1) hC dX12_layWays_265 rfl (by decide) ?_
                                refine v_iadd (q := 267) hC dX12_layWays_266 rfl ?_
                                rw [nI_1 M]
                                refine v_goto (q := 277) hC dX12_layWays_267 (by decide) ?_
                                refine v_iastN (q := 278) (j := (6 * (k % 6) + b)) hC dX12_layWays_277 rfl (hL1.1 61 (by decide)) rfl (by omega) (by decide) ?_
                                refine v_iinc (q := 281) (v := 1) (L' := [_, _, _, _, _, _, _, _]) hC dX12_layWays_278 rfl rfl (by decide) (by decide) rfl rfl ?_
                                refine v_goto (q := 128) hC dX12_layWays_281 (by decide) ?_
                                rw [nI_1 b]
                                first
                                  | exact absurd h233 h261
                                  | exact absurd h261 h233
                                  | (have hb1 := (zb_ne h233)
                                     have hm2 := hbt.resolve_right (fun z => by rw [z.1] at hb1; cases hb1)
                                     refine ih (b + 1) _ _ _ _ (by omega) ((hS.c (by simp) (by decide)).c (by simp) (by decide)) (hz.set (a := k % 6) (b := b) (x := nI (M + 1)) (y := nI (c % 6)) (o := pMin2 (pV n M (pMk n (pCd n (gvS kd kin met mb pr) (pSn kin) i h0 M)) (gvS kd kin met mb pr) (pSn kin) k b (k % 6) b) (some (c + 6))) (by omega) (fun q => by rw [zI_sI]; by_cases e : q = 6 * (k % 6) + b <;> simp [e]; rw [zI_ne (by omega)]) (fun q => by rw [zI_ne (by omega), zI_sI]; by_cases e : q = 6 * (k % 6) + b <;> simp [e]) ?_ (fun h w hh hw => pV_bc hh hbn hkn ePT))
                                     rw [hm2.2]
                                     exact ⟨by omega, by rw [show (c + 6) / 6 = M + 1 by omega], by rw [show (c + 6) % 6 = c % 6 by omega]⟩)
                                  | (have hb1 := (zb_eq0.mp h233)
                                     have hm2 := hbt.resolve_left (fun z => by rw [z.1] at hb1; cases hb1)
                                     rw [zI_ne (by omega)]
                                     refine ih (b + 1) _ _ _ _ (by omega) ((hS.c (by simp) (by decide)).c (by simp) (by decide)) (hz.set (a := k % 6) (b := b) (x := zI σ1 61 (6 * (k % 6) + b)) (y := zI σ1 62 (6 * (k % 6) + b)) (o := pMin2 (pV n M (pMk n (pCd n (gvS kd kin met mb pr) (pSn kin) i h0 M)) (gvS kd kin met mb pr) (pSn kin) k b (k % 6) b) (some (c + 6))) (by omega) (fun q => by rw [zI_sI]; by_cases e : q = 6 * (k % 6) + b <;> simp [e]; rw [zI_ne (by omega)]) (fun q => by rw [zI_ne (by omega), zI_sI]; by_cases e : q = 6 * (k % 6) + b <;> simp [e]) ?_ (fun h w hh hw => pV_bc hh hbn hkn ePT))
                                     rw [hm2.2]
                                     exact hza)
                            · refine v_aload_n (q := 237) hC dX12_layWays_236 rfl rfl rfl ?_
                              refine v_getR (q := 240) (r := 62) hC dX12_layWays_237 rfl fX12_34 (hL1.1 53 (by decide)) (hL1.2 53 25 62 rfl) ?_
                              refine v_iload_n (q := 241) hC dX12_layWays_240 rfl rfl rfl ?_
                              refine v_ialdN (q := 242) (j := k) hC dX12_layWays_241 rfl (hL1.1 62 (by decide)) rfl (by omega) (by decide) ?_
                              rw [ey]
                              refine v_goto (q := 252) hC dX12_layWays_242 (by decide) ?_
                              refine v_iastN (q := 253) (j := (6 * (k % 6) + b)) hC dX12_layWays_252 rfl (hL1.1 62 (by decide)) rfl (by omega) (by decide) ?_
                              refine v_aload_n (q := 254) hC dX12_layWays_253 rfl rfl rfl ?_
                              refine v_getR (q := 257) (r := 61) hC dX12_layWays_254 rfl fX12_31 (hL1.1 53 (by decide)) (hL1.2 53 24 61 rfl) ?_
                              refine v_iload (q := 259) hC dX12_layWays_257 rfl rfl ?_
                              refine v_iload (q := 261) hC dX12_layWays_259 rfl rfl ?_
                              refine v_if_eq (q := 264) (tgt := 270) hC dX12_layWays_261 rfl (by decide) (fun h261 => ?_) (fun h261 => ?_)
                              · refine v_aload_n (q := 271) hC dX12_layWays_270 rfl rfl rfl ?_
                                refine v_getR (q := 274) (r := 61) hC dX12_layWays_271 rfl fX12_31 (hL1.1 53 (by decide)) (hL1.2 53 24 61 rfl) ?_
                                refine v_iload (q := 276) hC dX12_layWays_274 rfl rfl ?_
                                refine v_ialdN (q := 277) (j := (6 * (k % 6) + b)) hC dX12_layWays_276 rfl (hL1.1 61 (by decide)) rfl (by omega) (by decide) ?_
                                refine v_iastN (q := 278) (j := (6 * (k % 6) + b)) hC dX12_layWays_277 rfl (hL1.1 61 (by decide)) rfl (by omega) (by decide) ?_
                                refine v_iinc (q := 281) (v := 1) (L' := [_, _, _, _, _, _, _, _]) hC dX12_layWays_278 rfl rfl (by decide) (by decide) rfl rfl ?_
                                refine v_goto (q := 128) hC dX12_layWays_281 (by decide) ?_
                                rw [nI_1 b]
                                first
                                  | exact absurd h233 h261
                                  | exact absurd h261 h233
                                  | (have hb1 := (zb_ne h233)
                                     have hm2 := hbt.resolve_right (fun z => by rw [z.1] at hb1; cases hb1)
                                     refine ih (b + 1) _ _ _ _ (by omega) ((hS.c (by simp) (by decide)).c (by simp) (by decide)) (hz.set (a := k % 6) (b := b) (x := nI (M + 1)) (y := nI (c % 6)) (o := pMin2 (pV n M (pMk n (pCd n (gvS kd kin met mb pr) (pSn kin) i h0 M)) (gvS kd kin met mb pr) (pSn kin) k b (k % 6) b) (some (c + 6))) (by omega) (fun q => by rw [zI_sI]; by_cases e : q = 6 * (k % 6) + b <;> simp [e]; rw [zI_ne (by omega)]) (fun q => by rw [zI_ne (by omega), zI_sI]; by_cases e : q = 6 * (k % 6) + b <;> simp [e]) ?_ (fun h w hh hw => pV_bc hh hbn hkn ePT))
                                     rw [hm2.2]
                                     exact ⟨by omega, by rw [show (c + 6) / 6 = M + 1 by omega], by rw [show (c + 6) % 6 = c % 6 by omega]⟩)
                                  | (have hb1 := (zb_eq0.mp h233)
                                     have hm2 := hbt.resolve_left (fun z => by rw [z.1] at hb1; cases hb1)
                                     rw [zI_ne (by omega)]
                                     refine ih (b + 1) _ _ _ _ (by omega) ((hS.c (by simp) (by decide)).c (by simp) (by decide)) (hz.set (a := k % 6) (b := b) (x := zI σ1 61 (6 * (k % 6) + b)) (y := zI σ1 62 (6 * (k % 6) + b)) (o := pMin2 (pV n M (pMk n (pCd n (gvS kd kin met mb pr) (pSn kin) i h0 M)) (gvS kd kin met mb pr) (pSn kin) k b (k % 6) b) (some (c + 6))) (by omega) (fun q => by rw [zI_sI]; by_cases e : q = 6 * (k % 6) + b <;> simp [e]; rw [zI_ne (by omega)]) (fun q => by rw [zI_ne (by omega), zI_sI]; by_cases e : q = 6 * (k % 6) + b <;> simp [e]) ?_ (fun h w hh hw => pV_bc hh hbn hkn ePT))
                                     rw [hm2.2]
                                     exact hza)
                              · refine v_iload_n (q := 265) hC dX12_layWays_264 rfl rfl rfl ?_
                                refine v_iconst (q := 266) (v := 1) hC dX12_layWays_265 rfl (by decide) ?_
                                refine v_iadd (q := 267) hC dX12_layWays_266 rfl ?_
                                rw [nI_1 M]
                                refine v_goto (q := 277) hC dX12_layWays_267 (by decide) ?_
                                refine v_iastN (q := 278) (j := (6 * (k % 6) + b)) hC dX12_layWays_277 rfl (hL1.1 61 (by decide)) rfl (by omega) (by decide) ?_
                                refine v_iinc (q := 281) (v := 1) (L' := [_, _, _, _, _, _, _, _]) hC dX12_layWays_278 rfl rfl (by decide) (by decide) rfl rfl ?_
                                refine v_goto (q := 128) hC dX12_layWays_281 (by decide) ?_
                                rw [nI_1 b]
                                first
                                  | exact absurd h233 h261
                                  | exact absurd h261 h233
                                  | (have hb1 := (zb_ne h233)
                                     have hm2 := hbt.resolve_right (fun z => by rw [z.1] at hb1; cases hb1)
                                     refine ih (b + 1) _ _ _ _ (by omega) ((hS.c (by simp) (by decide)).c (by simp) (by decide)) (hz.set (a := k % 6) (b := b) (x := nI (M + 1)) (y := nI (c % 6)) (o := pMin2 (pV n M (pMk n (pCd n (gvS kd kin met mb pr) (pSn kin) i h0 M)) (gvS kd kin met mb pr) (pSn kin) k b (k % 6) b) (some (c + 6))) (by omega) (fun q => by rw [zI_sI]; by_cases e : q = 6 * (k % 6) + b <;> simp [e]; rw [zI_ne (by omega)]) (fun q => by rw [zI_ne (by omega), zI_sI]; by_cases e : q = 6 * (k % 6) + b <;> simp [e]) ?_ (fun h w hh hw => pV_bc hh hbn hkn ePT))
                                     rw [hm2.2]
                                     exact ⟨by omega, by rw [show (c + 6) / 6 = M + 1 by omega], by rw [show (c + 6) % 6 = c % 6 by omega]⟩)
                                  | (have hb1 := (zb_eq0.mp h233)
                                     have hm2 := hbt.resolve_left (fun z => by rw [z.1] at hb1; cases hb1)
                                     rw [zI_ne (by omega)]
                                     refine ih (b + 1) _ _ _ _ (by omega) ((hS.c (by simp) (by decide)).c (by simp) (by decide)) (hz.set (a := k % 6) (b := b) (x := zI σ1 61 (6 * (k % 6) + b)) (y := zI σ1 62 (6 * (k % 6) + b)) (o := pMin2 (pV n M (pMk n (pCd n (gvS kd kin met mb pr) (pSn kin) i h0 M)) (gvS kd kin met mb pr) (pSn kin) k b (k % 6) b) (some (c + 6))) (by omega) (fun q => by rw [zI_sI]; by_cases e : q = 6 * (k % 6) + b <;> simp [e]; rw [zI_ne (by omega)]) (fun q => by rw [zI_ne (by omega), zI_sI]; by_cases e : q = 6 * (k % 6) + b <;> simp [e]) ?_ (fun h w hh hw => pV_bc hh hbn hkn ePT))
                                     rw [hm2.2]
                                     exact hza)
                          first
                            | exact j223 true (Or.inl ⟨rfl, zbet1 hza h186⟩)
                            | exact j223 false (Or.inr ⟨rfl, zbet2 hza hcM (by omega) hup h186 h199⟩)
                            | exact j223 false (Or.inr ⟨rfl, zbet3 hza hcM (by omega) h199 h215⟩)
                            | exact j223 true (Or.inl ⟨rfl, zbet4 hza hcM (by omega) h199 h215⟩)
                        · refine v_aload_n (q := 190) hC dX12_layWays_189 rfl rfl rfl ?_
                          refine v_getR (q := 193) (r := 61) hC dX12_layWays_190 rfl fX12_31 (hL1.1 53 (by decide)) (hL1.2 53 24 61 rfl) ?_
                          refine v_iload (q := 195) hC dX12_layWays_193 rfl rfl ?_
                          refine v_ialdN (q := 196) (j := (6 * (k % 6) + b)) hC dX12_layWays_195 rfl (hL1.1 61 (by decide)) rfl (by omega) (by decide) ?_
                          refine v_iload_n (q := 197) hC dX12_layWays_196 rfl rfl rfl ?_
                          refine v_iconst (q := 198) (v := 1) hC dX12_layWays_197 rfl (by decide) ?_
                          refine v_iadd (q := 199) hC dX12_layWays_198 rfl ?_
                          rw [nI_1 M]
                          refine v_icmp_ne (q := 202) (tgt := 222) hC dX12_layWays_199 rfl (by decide) (fun h199 => ?_) (fun h199 => ?_)
                          · refine v_iconst (q := 223) (v := 0) hC dX12_layWays_222 rfl (by decide) ?_
                            have j223 : ∀ bt : Bool, ((bt = true ∧ pMin2 (pV n M (pMk n (pCd n (gvS kd kin met mb pr) (pSn kin) i h0 M)) (gvS kd kin met mb pr) (pSn kin) k b (k % 6) b) (some (c + 6)) = some (c + 6)) ∨ (bt = false ∧ pMin2 (pV n M (pMk n (pCd n (gvS kd kin met mb pr) (pSn kin) i h0 M)) (gvS kd kin met mb pr) (pSn kin) k b (k % 6) b) (some (c + 6)) = pV n M (pMk n (pCd n (gvS kd kin met mb pr) (pSn kin) i h0 M)) (gvS kd kin met mb pr) (pSn kin) k b (k % 6) b)) → zV X 8 223 [some (.ref 53), some (.int (nI f)), some (.int (nI M)), some (.int (nI k)), some (.int (nI b)), some (.int (nI (k % 6))), some (.int (nI (6 * (k % 6) + b))), o7] [.int (zb bt)] 0 0 σ1 := by
                              intro bt hbt
                              refine v_istore (q := 225) (L' := [_, _, _, _, _, _, _, _]) hC dX12_layWays_223 rfl (by decide) rfl rfl ?_
                              refine v_aload_n (q := 226) hC dX12_layWays_225 rfl rfl rfl ?_
                              refine v_getR (q := 229) (r := 62) hC dX12_layWays_226 rfl fX12_34 (hL1.1 53 (by decide)) (hL1.2 53 25 62 rfl) ?_
                              refine v_iload (q := 231) hC dX12_layWays_229 rfl rfl ?_
                              refine v_iload (q := 233) hC dX12_layWays_231 rfl rfl ?_
                              refine v_if_eq (q := 236) (tgt := 245) hC dX12_layWays_233 rfl (by decide) (fun h233 => ?_) (fun h233 => ?_)
                              · refine v_aload_n (q := 246) hC dX12_layWays_245 rfl rfl rfl ?_
                                refine v_getR (q := 249) (r := 62) hC dX12_layWays_246 rfl fX12_34 (hL1.1 53 (by decide)) (hL1.2 53 25 62 rfl) ?_
                                refine v_iload (q := 251) hC dX12_layWays_249 rfl rfl ?_
                                refine v_ialdN (q := 252) (j := (6 * (k % 6) + b)) hC dX12_layWays_251 rfl (hL1.1 62 (by decide)) rfl (by omega) (by decide) ?_
                                refine v_iastN (q := 253) (j := (6 * (k % 6) + b)) hC dX12_layWays_252 rfl (hL1.1 62 (by decide)) rfl (by omega) (by decide) ?_
                                refine v_aload_n (q := 254) hC dX12_layWays_253 rfl rfl rfl ?_
                                refine v_getR (q := 257) (r := 61) hC dX12_layWays_254 rfl fX12_31 (hL1.1 53 (by decide)) (hL1.2 53 24 61 rfl) ?_
                                refine v_iload (q := 259) hC dX12_layWays_257 rfl rfl ?_
                                refine v_iload (q := 261) hC dX12_layWays_259 rfl rfl ?_
                                refine v_if_eq (q := 264) (tgt := 270) hC dX12_layWays_261 rfl (by decide) (fun h261 => ?_) (fun h261 => ?_)
                                · refine v_aload_n (q := 271) hC dX12_layWays_270 rfl rfl rfl ?_
                                  refine v_getR (q := 274) (r := 61) hC dX12_layWays_271 rfl fX12_31 (hL1.1 53 (by decide)) (hL1.2 53 24 61 rfl) ?_
                                  refine v_iload (q := 276) hC dX12_layWays_274 rfl rfl ?_
                                  refine v_ialdN (q := 277) (j := (6 * (k % 6) + b)) hC dX12_layWays_276 rfl (hL1.1 61 (by decide)) rfl (by omega) (by decide) ?_
                                  refine v_iastN (q := 278) (j := (6 * (k % 6) + b)) hC dX12_layWays_277 rfl (hL1.1 61 (by decide)) rfl (by omega) (by decide) ?_
                                  refine v_iinc (q := 281) (v := 1) (L' := [_, _, _, _, _, _, _, _]) hC dX12_layWays_278 rfl rfl (by decide) (by decide) rfl rfl ?_
                                  refine v_goto (q := 128) hC dX12_layWays_281 (by decide) ?_
                                  rw [nI_1 b]
                                  first
                                    | exact absurd h233 h261
                                    | exact absurd h261 h233
                                    | (have hb1 := (zb_ne h233)
                                       have hm2 := hbt.resolve_right (fun z => by rw [z.1] at hb1; cases hb1)
                                       refine ih (b + 1) _ _ _ _ (by omega) ((hS.c (by simp) (by decide)).c (by simp) (by decide)) (hz.set (a := k % 6) (b := b) (x := nI (M + 1)) (y := nI (c % 6)) (o := pMin2 (pV n M (pMk n (pCd n (gvS kd kin met mb pr) (pSn kin) i h0 M)) (gvS kd kin met mb pr) (pSn kin) k b (k % 6) b) (some (c + 6))) (by omega) (fun q => by rw [zI_sI]; by_cases e : q = 6 * (k % 6) + b <;> simp [e]; rw [zI_ne (by omega)]) (fun q => by rw [zI_ne (by omega), zI_sI]; by_cases e : q = 6 * (k % 6) + b <;> simp [e]) ?_ (fun h w hh hw => pV_bc hh hbn hkn ePT))
                                       rw [hm2.2]
                                       exact ⟨by omega, by rw [show (c + 6) / 6 = M + 1 by omega], by rw [show (c + 6) % 6 = c % 6 by omega]⟩)
                                    | (have hb1 := (zb_eq0.mp h233)
                                       have hm2 := hbt.resolve_left (fun z => by rw [z.1] at hb1; cases hb1)
                                       rw [zI_ne (by omega)]
                                       refine ih (b + 1) _ _ _ _ (by omega) ((hS.c (by simp) (by decide)).c (by simp) (by decide)) (hz.set (a := k % 6) (b := b) (x := zI σ1 61 (6 * (k % 6) + b)) (y := zI σ1 62 (6 * (k % 6) + b)) (o := pMin2 (pV n M (pMk n (pCd n (gvS kd kin met mb pr) (pSn kin) i h0 M)) (gvS kd kin met mb pr) (pSn kin) k b (k % 6) b) (some (c + 6))) (by omega) (fun q => by rw [zI_sI]; by_cases e : q = 6 * (k % 6) + b <;> simp [e]; rw [zI_ne (by omega)]) (fun q => by rw [zI_ne (by omega), zI_sI]; by_cases e : q = 6 * (k % 6) + b <;> simp [e]) ?_ (fun h w hh hw => pV_bc hh hbn hkn ePT))
                                       rw [hm2.2]
                                       exact hza)
                                · refine v_iload_n (q := 265) hC dX12_layWays_264 rfl rfl rfl ?_
                                  refine v_iconst (q := 266) (v := 1) hC dX12_layWays_265 rfl (by decide) ?_
                                  refine v_iadd (q := 267) hC dX12_layWays_266 rfl ?_
                                  rw [nI_1 M]
                                  refine v_goto (q := 277) hC dX12_layWays_267 (by decide) ?_
                                  refine v_iastN (q := 278) (j := (6 * (k % 6) + b)) hC dX12_layWays_277 rfl (hL1.1 61 (by decide)) rfl (by omega) (by decide) ?_
                                  refine v_iinc (q := 281) (v := 1) (L' := [_, _, _, _, _, _, _, _]) hC dX12_layWays_278 rfl rfl (by decide) (by decide) rfl rfl ?_
                                  refine v_goto (q := 128) hC dX12_layWays_281 (by decide) ?_
                                  rw [nI_1 b]
                                  first
                                    | exact absurd h233 h261
                                    | exact absurd h261 h233
                                    | (have hb1 := (zb_ne h233)
                                       have hm2 := hbt.resolve_right (fun z => by rw [z.1] at hb1; cases hb1)
                                       refine ih (b + 1) _ _ _ _ (by omega) ((hS.c (by simp) (by decide)).c (by simp) (by decide)) (hz.set (a := k % 6) (b := b) (x := nI (M + 1)) (y := nI (c % 6)) (o := pMin2 (pV n M (pMk n (pCd n (gvS kd kin met mb pr) (pSn kin) i h0 M)) (gvS kd kin met mb pr) (pSn kin) k b (k % 6) b) (some (c + 6))) (by omega) (fun q => by rw [zI_sI]; by_cases e : q = 6 * (k % 6) + b <;> simp [e]; rw [zI_ne (by omega)]) (fun q => by rw [zI_ne (by omega), zI_sI]; by_cases e : q = 6 * (k % 6) + b <;> simp [e]) ?_ (fun h w hh hw => pV_bc hh hbn hkn ePT))
                                       rw [hm2.2]
                                       exact ⟨by omega, by rw [show (c + 6) / 6 = M + 1 by omega], by rw [show (c + 6) % 6 = c % 6 by omega]⟩)
                                    | (have hb1 := (zb_eq0.mp h233)
                                       have hm2 := hbt.resolve_left (fun z => by rw [z.1] at hb1; cases hb1)
                                       rw [zI_ne (by omega)]
                                       refine ih (b + 1) _ _ _ _ (by omega) ((hS.c (by simp) (by decide)).c (by simp) (by decide)) (hz.set (a := k % 6) (b := b) (x := zI σ1 61 (6 * (k % 6) + b)) (y := zI σ1 62 (6 * (k % 6) + b)) (o := pMin2 (pV n M (pMk n (pCd n (gvS kd kin met mb pr) (pSn kin) i h0 M)) (gvS kd kin met mb pr) (pSn kin) k b (k % 6) b) (some (c + 6))) (by omega) (fun q => by rw [zI_sI]; by_cases e : q = 6 * (k % 6) + b <;> simp [e]; rw [zI_ne (by omega)]) (fun q => by rw [zI_ne (by omega), zI_sI]; by_cases e : q = 6 * (k % 6) + b <;> simp [e]) ?_ (fun h w hh hw => pV_bc hh hbn hkn ePT))
                                       rw [hm2.2]
                                       exact hza)
                              · refine v_aload_n (q := 237) hC dX12_layWays_236 rfl rfl rfl ?_
                                refine v_getR (q := 240) (r := 62) hC dX12_layWays_237 rfl fX12_34 (hL1.1 53 (by decide)) (hL1.2 53 25 62 rfl) ?_
                                refine v_iload_n (q := 241) hC dX12_layWays_240 rfl rfl rfl ?_
                                refine v_ialdN (q := 242) (j := k) hC dX12_layWays_241 rfl (hL1.1 62 (by decide)) rfl (by omega) (by decide) ?_
                                rw [ey]
                                refine v_goto (q := 252) hC dX12_layWays_242 (by decide) ?_
                                refine v_iastN (q := 253) (j := (6 * (k % 6) + b)) hC dX12_layWays_252 rfl (hL1.1 62 (by decide)) rfl (by omega) (by decide) ?_
                                refine v_aload_n (q := 254) hC dX12_layWays_253 rfl rfl rfl ?_
                                refine v_getR (q := 257) (r := 61) hC dX12_layWays_254 rfl fX12_31 (hL1.1 53 (by decide)) (hL1.2 53 24 61 rfl) ?_
                                refine v_iload (q := 259) hC dX12_layWays_257 rfl rfl ?_
                                refine v_iload (q := 261) hC dX12_layWays_259 rfl rfl ?_
                                refine v_if_eq (q := 264) (tgt := 270) hC dX12_layWays_261 rfl (by decide) (fun h261 => ?_) (fun h261 => ?_)
                                · refine v_aload_n (q := 271) hC dX12_layWays_270 rfl rfl rfl ?_
                                  refine v_getR (q := 274) (r := 61) hC dX12_layWays_271 rfl fX12_31 (hL1.1 53 (by decide)) (hL1.2 53 24 61 rfl) ?_
                                  refine v_iload (q := 276) hC dX12_layWays_274 rfl rfl ?_
                                  refine v_ialdN (q := 277) (j := (6 * (k % 6) + b)) hC dX12_layWays_276 rfl (hL1.1 61 (by decide)) rfl (by omega) (by decide) ?_
                                  refine v_iastN (q := 278) (j := (6 * (k % 6) + b)) hC dX12_layWays_277 rfl (hL1.1 61 (by decide)) rfl (by omega) (by decide) ?_
                                  refine v_iinc (q := 281) (v := 1) (L' := [_, _, _, _, _, _, _, _]) hC dX12_layWays_278 rfl rfl (by decide) (by decide) rfl rfl ?_
                                  refine v_goto (q := 128) hC dX12_layWays_281 (by decide) ?_
                                  rw [nI_1 b]
                                  first
                                    | exact absurd h233 h261
                                    | exact absurd h261 h233
                                    | (have hb1 := (zb_ne h233)
                                       have hm2 := hbt.resolve_right (fun z => by rw [z.1] at hb1; cases hb1)
                                       refine ih (b + 1) _ _ _ _ (by omega) ((hS.c (by simp) (by decide)).c (by simp) (by decide)) (hz.set (a := k % 6) (b := b) (x := nI (M + 1)) (y := nI (c % 6)) (o := pMin2 (pV n M (pMk n (pCd n (gvS kd kin met mb pr) (pSn kin) i h0 M)) (gvS kd kin met mb pr) (pSn kin) k b (k % 6) b) (some (c + 6))) (by omega) (fun q => by rw [zI_sI]; by_cases e : q = 6 * (k % 6) + b <;> simp [e]; rw [zI_ne (by omega)]) (fun q => by rw [zI_ne (by omega), zI_sI]; by_cases e : q = 6 * (k % 6) + b <;> simp [e]) ?_ (fun h w hh hw => pV_bc hh hbn hkn ePT))
                                       rw [hm2.2]
                                       exact ⟨by omega, by rw [show (c + 6) / 6 = M + 1 by omega], by rw [show (c + 6) % 6 = c % 6 by omega]⟩)
                                    | (have hb1 := (zb_eq0.mp h233)
                                       have hm2 := hbt.resolve_left (fun z => by rw [z.1] at hb1; cases hb1)
                                       rw [zI_ne (by omega)]
                                       refine ih (b + 1) _ _ _ _ (by omega) ((hS.c (by simp) (by decide)).c (by simp) (by decide)) (hz.set (a := k % 6) (b := b) (x := zI σ1 61 (6 * (k % 6) + b)) (y := zI σ1 62 (6 * (k % 6) + b)) (o := pMin2 (pV n M (pMk n (pCd n (gvS kd kin met mb pr) (pSn kin) i h0 M)) (gvS kd kin met mb pr) (pSn kin) k b (k % 6) b) (some (c + 6))) (by omega) (fun q => by rw [zI_sI]; by_cases e : q = 6 * (k % 6) + b <;> simp [e]; rw [zI_ne (by omega)]) (fun q => by rw [zI_ne (by omega), zI_sI]; by_cases e : q = 6 * (k % 6) + b <;> simp [e]) ?_ (fun h w hh hw => pV_bc hh hbn hkn ePT))
                                       rw [hm2.2]
                                       exact hza)
                                · refine v_iload_n (q := 265) hC dX12_layWays_264 rfl rfl rfl ?_
                                  refine v_iconst (q := 266) (v := 1) hC dX12_layWays_265 rfl (by decide) ?_
                                  refine v_iadd (q := 267) hC dX12_layWays_266 rfl ?_
                                  rw [nI_1 M]
                                  refine v_goto (q := 277) hC dX12_layWays_267 (by decide) ?_
                                  refine v_iastN (q := 278) (j := (6 * (k % 6) + b)) hC dX12_layWays_277 rfl (hL1.1 61 (by decide)) rfl (by omega) (by decide) ?_
                                  refine v_iinc (q := 281) (v := 1) (L' := [_, _, _, _, _, _, _, _]) hC dX12_layWays_278 rfl rfl (by decide) (by decide) rfl rfl ?_
                                  refine v_goto (q := 128) hC dX12_layWays_281 (by decide) ?_
                                  rw [nI_1 b]
                                  first
                                    | exact absurd h233 h261
                                    | exact absurd h261 h233
                                    | (have hb1 := (zb_ne h233)
                                       have hm2 := hbt.resolve_right (fun z => by rw [z.1] at hb1; cases hb1)
                                       refine ih (b + 1) _ _ _ _ (by omega) ((hS.c (by simp) (by decide)).c (by simp) (by decide)) (hz.set (a := k % 6) (b := b) (x := nI (M + 1)) (y := nI (c % 6)) (o := pMin2 (pV n M (pMk n (pCd n (gvS kd kin met mb pr) (pSn kin) i h0 M)) (gvS kd kin met mb pr) (pSn kin) k b (k % 6) b) (some (c + 6))) (by omega) (fun q => by rw [zI_sI]; by_cases e : q = 6 * (k % 6) + b <;> simp [e]; rw [zI_ne (by omega)]) (fun q => by rw [zI_ne (by omega), zI_sI]; by_cases e : q = 6 * (k % 6) + b <;> simp [e]) ?_ (fun h w hh hw => pV_bc hh hbn hkn ePT))
                                       rw [hm2.2]
                                       exact ⟨by omega, by rw [show (c + 6) / 6 = M + 1 by omega], by rw [show (c + 6) % 6 = c % 6 by omega]⟩)
                                    | (have hb1 := (zb_eq0.mp h233)
                                       have hm2 := hbt.resolve_left (fun z => by rw [z.1] at hb1; cases hb1)
                                       rw [zI_ne (by omega)]
                                       refine ih (b + 1) _ _ _ _ (by omega) ((hS.c (by simp) (by decide)).c (by simp) (by decide)) (hz.set (a := k % 6) (b := b) (x := zI σ1 61 (6 * (k % 6) + b)) (y := zI σ1 62 (6 * (k % 6) + b)) (o := pMin2 (pV n M (pMk n (pCd n (gvS kd kin met mb pr) (pSn kin) i h0 M)) (gvS kd kin met mb pr) (pSn kin) k b (k % 6) b) (some (c + 6))) (by omega) (fun q => by rw [zI_sI]; by_cases e : q = 6 * (k % 6) + b <;> simp [e]; rw [zI_ne (by omega)]) (fun q => by rw [zI_ne (by omega), zI_sI]; by_cases e : q = 6 * (k % 6) + b <;> simp [e]) ?_ (fun h w hh hw => pV_bc hh hbn hkn ePT))
                                       rw [hm2.2]
                                       exact hza)
                            first
                              | exact j223 true (Or.inl ⟨rfl, zbet1 hza h186⟩)
                              | exact j223 false (Or.inr ⟨rfl, zbet2 hza hcM (by omega) hup h186 h199⟩)
                              | exact j223 false (Or.inr ⟨rfl, zbet3 hza hcM (by omega) h199 h215⟩)
                              | exact j223 true (Or.inl ⟨rfl, zbet4 hza hcM (by omega) h199 h215⟩)
                          · refine v_aload_n (q := 203) hC dX12_layWays_202 rfl rfl rfl ?_
                            refine v_getR (q := 206) (r := 62) hC dX12_layWays_203 rfl fX12_34 (hL1.1 53 (by decide)) (hL1.2 53 25 62 rfl) ?_
                            refine v_iload_n (q := 207) hC dX12_layWays_206 rfl rfl rfl ?_
                            refine v_ialdN (q := 208) (j := k) hC dX12_layWays_207 rfl (hL1.1 62 (by decide)) rfl (by omega) (by decide) ?_
                            rw [ey]
                            refine v_aload_n (q := 209) hC dX12_layWays_208 rfl rfl rfl ?_
                            refine v_getR (q := 212) (r := 62) hC dX12_layWays_209 rfl fX12_34 (hL1.1 53 (by decide)) (hL1.2 53 25 62 rfl) ?_
                            refine v_iload (q := 214) hC dX12_layWays_212 rfl rfl ?_
                            refine v_ialdN (q := 215) (j := (6 * (k % 6) + b)) hC dX12_layWays_214 rfl (hL1.1 62 (by decide)) rfl (by omega) (by decide) ?_
                            refine v_icmp_ge (q := 218) (tgt := 222) hC dX12_layWays_215 rfl (by decide) (fun h215 => ?_) (fun h215 => ?_)
                            · refine v_iconst (q := 223) (v := 0) hC dX12_layWays_222 rfl (by decide) ?_
                              have j223 : ∀ bt : Bool, ((bt = true ∧ pMin2 (pV n M (pMk n (pCd n (gvS kd kin met mb pr) (pSn kin) i h0 M)) (gvS kd kin met mb pr) (pSn kin) k b (k % 6) b) (some (c + 6)) = some (c + 6)) ∨ (bt = false ∧ pMin2 (pV n M (pMk n (pCd n (gvS kd kin met mb pr) (pSn kin) i h0 M)) (gvS kd kin met mb pr) (pSn kin) k b (k % 6) b) (some (c + 6)) = pV n M (pMk n (pCd n (gvS kd kin met mb pr) (pSn kin) i h0 M)) (gvS kd kin met mb pr) (pSn kin) k b (k % 6) b)) → zV X 8 223 [some (.ref 53), some (.int (nI f)), some (.int (nI M)), some (.int (nI k)), some (.int (nI b)), some (.int (nI (k % 6))), some (.int (nI (6 * (k % 6) + b))), o7] [.int (zb bt)] 0 0 σ1 := by
                                intro bt hbt
                                refine v_istore (q := 225) (L' := [_, _, _, _, _, _, _, _]) hC dX12_layWays_223 rfl (by decide) rfl rfl ?_
                                refine v_aload_n (q := 226) hC dX12_layWays_225 rfl rfl rfl ?_
                                refine v_getR (q := 229) (r := 62) hC dX12_layWays_226 rfl fX12_34 (hL1.1 53 (by decide)) (hL1.2 53 25 62 rfl) ?_
                                refine v_iload (q := 231) hC dX12_layWays_229 rfl rfl ?_
                                refine v_iload (q := 233) hC dX12_layWays_231 rfl rfl ?_
                                refine v_if_eq (q := 236) (tgt := 245) hC dX12_layWays_233 rfl (by decide) (fun h233 => ?_) (fun h233 => ?_)
                                · refine v_aload_n (q := 246) hC dX12_layWays_245 rfl rfl rfl ?_
                                  refine v_getR (q := 249) (r := 62) hC dX12_layWays_246 rfl fX12_34 (hL1.1 53 (by decide)) (hL1.2 53 25 62 rfl) ?_
                                  refine v_iload (q := 251) hC dX12_layWays_249 rfl rfl ?_
                                  refine v_ialdN (q := 252) (j := (6 * (k % 6) + b)) hC dX12_layWays_251 rfl (hL1.1 62 (by decide)) rfl (by omega) (by decide) ?_
                                  refine v_iastN (q := 253) (j := (6 * (k % 6) + b)) hC dX12_layWays_252 rfl (hL1.1 62 (by decide)) rfl (by omega) (by decide) ?_
                                  refine v_aload_n (q := 254) hC dX12_layWays_253 rfl rfl rfl ?_
                                  refine v_getR (q := 257) (r := 61) hC dX12_layWays_254 rfl fX12_31 (hL1.1 53 (by decide)) (hL1.2 53 24 61 rfl) ?_
                                  refine v_iload (q := 259) hC dX12_layWays_257 rfl rfl ?_
                                  refine v_iload (q := 261) hC dX12_layWays_259 rfl rfl ?_
                                  refine v_if_eq (q := 264) (tgt := 270) hC dX12_layWays_261 rfl (by decide) (fun h261 => ?_) (fun h261 => ?_)
                                  · refine v_aload_n (q := 271) hC dX12_layWays_270 rfl rfl rfl ?_
                                    refine v_getR (q := 274) (r := 61) hC dX12_layWays_271 rfl fX12_31 (hL1.1 53 (by decide)) (hL1.2 53 24 61 rfl) ?_
                                    refine v_iload (q := 276) hC dX12_layWays_274 rfl rfl ?_
                                    refine v_ialdN (q := 277) (j := (6 * (k % 6) + b)) hC dX12_layWays_276 rfl (hL1.1 61 (by decide)) rfl (by omega) (by decide) ?_
                                    refine v_iastN (q := 278) (j := (6 * (k % 6) + b)) hC dX12_layWays_277 rfl (hL1.1 61 (by decide)) rfl (by omega) (by decide) ?_
                                    refine v_iinc (q := 281) (v := 1) (L' := [_, _, _, _, _, _, _, _]) hC dX12_layWays_278 rfl rfl (by decide) (by decide) rfl rfl ?_
                                    refine v_goto (q := 128) hC dX12_layWays_281 (by decide) ?_
                                    rw [nI_1 b]
                                    first
                                      | exact absurd h233 h261
                                      | exact absurd h261 h233
                                      | (have hb1 := (zb_ne h233)
                                         have hm2 := hbt.resolve_right (fun z => by rw [z.1] at hb1; cases hb1)
                                         refine ih (b + 1) _ _ _ _ (by omega) ((hS.c (by simp) (by decide)).c (by simp) (by decide)) (hz.set (a := k % 6) (b := b) (x := nI (M + 1)) (y := nI (c % 6)) (o := pMin2 (pV n M (pMk n (pCd n (gvS kd kin met mb pr) (pSn kin) i h0 M)) (gvS kd kin met mb pr) (pSn kin) k b (k % 6) b) (some (c + 6))) (by omega) (fun q => by rw [zI_sI]; by_cases e : q = 6 * (k % 6) + b <;> simp [e]; rw [zI_ne (by omega)]) (fun q => by rw [zI_ne (by omega), zI_sI]; by_cases e : q = 6 * (k % 6) + b <;> simp [e]) ?_ (fun h w hh hw => pV_bc hh hbn hkn ePT))
                                         rw [hm2.2]
                                         exact ⟨by omega, by rw [show (c + 6) / 6 = M + 1 by omega], by rw [show (c + 6) % 6 = c % 6 by omega]⟩)
                                      | (have hb1 := (zb_eq0.mp h233)
                                         have hm2 := hbt.resolve_left (fun z => by rw [z.1] at hb1; cases hb1)
                                         rw [zI_ne (by omega)]
                                         refine ih (b + 1) _ _ _ _ (by omega) ((hS.c (by simp) (by decide)).c (by simp) (by decide)) (hz.set (a := k % 6) (b := b) (x := zI σ1 61 (6 * (k % 6) + b)) (y := zI σ1 62 (6 * (k % 6) + b)) (o := pMin2 (pV n M (pMk n (pCd n (gvS kd kin met mb pr) (pSn kin) i h0 M)) (gvS kd kin met mb pr) (pSn kin) k b (k % 6) b) (some (c + 6))) (by omega) (fun q => by rw [zI_sI]; by_cases e : q = 6 * (k % 6) + b <;> simp [e]; rw [zI_ne (by omega)]) (fun q => by rw [zI_ne (by omega), zI_sI]; by_cases e : q = 6 * (k % 6) + b <;> simp [e]) ?_ (fun h w hh hw => pV_bc hh hbn hkn ePT))
                                         rw [hm2.2]
                                         exact hza)
                                  · refine v_iload_n (q := 265) hC dX12_layWays_264 rfl rfl rfl ?_
                                    refine v_iconst (q := 266) (v := 1) hC dX12_layWays_265 rfl (by decide) ?_
                                    refine v_iadd (q := 267) hC dX12_layWays_266 rfl ?_
                                    rw [nI_1 M]
                                    refine v_goto (q := 277) hC dX12_layWays_267 (by decide) ?_
                                    refine v_iastN (q := 278) (j := (6 * (k % 6) + b)) hC dX12_layWays_277 rfl (hL1.1 61 (by decide)) rfl (by omega) (by decide) ?_
                                    refine v_iinc (q := 281) (v := 1) (L' := [_, _, _, _, _, _, _, _]) hC dX12_layWays_278 rfl rfl (by decide) (by decide) rfl rfl ?_
                                    refine v_goto (q := 128) hC dX12_layWays_281 (by decide) ?_
                                    rw [nI_1 b]
                                    first
                                      | exact absurd h233 h261
                                      | exact absurd h261 h233
                                      | (have hb1 := (zb_ne h233)
                                         have hm2 := hbt.resolve_right (fun z => by rw [z.1] at hb1; cases hb1)
                                         refine ih (b + 1) _ _ _ _ (by omega) ((hS.c (by simp) (by decide)).c (by simp) (by decide)) (hz.set (a := k % 6) (b := b) (x := nI (M + 1)) (y := nI (c % 6)) (o := pMin2 (pV n M (pMk n (pCd n (gvS kd kin met mb pr) (pSn kin) i h0 M)) (gvS kd kin met mb pr) (pSn kin) k b (k % 6) b) (some (c + 6))) (by omega) (fun q => by rw [zI_sI]; by_cases e : q = 6 * (k % 6) + b <;> simp [e]; rw [zI_ne (by omega)]) (fun q => by rw [zI_ne (by omega), zI_sI]; by_cases e : q = 6 * (k % 6) + b <;> simp [e]) ?_ (fun h w hh hw => pV_bc hh hbn hkn ePT))
                                         rw [hm2.2]
                                         exact ⟨by omega, by rw [show (c + 6) / 6 = M + 1 by omega], by rw [show (c + 6) % 6 = c % 6 by omega]⟩)
                                      | (have hb1 := (zb_eq0.mp h233)
                                         have hm2 := hbt.resolve_left (fun z => by rw [z.1] at hb1; cases hb1)
                                         rw [zI_ne (by omega)]
                                         refine ih (b + 1) _ _ _ _ (by omega) ((hS.c (by simp) (by decide)).c (by simp) (by decide)) (hz.set (a := k % 6) (b := b) (x := zI σ1 61 (6 * (k % 6) + b)) (y := zI σ1 62 (6 * (k % 6) + b)) (o := pMin2 (pV n M (pMk n (pCd n (gvS kd kin met mb pr) (pSn kin) i h0 M)) (gvS kd kin met mb pr) (pSn kin) k b (k % 6) b) (some (c + 6))) (by omega) (fun q => by rw [zI_sI]; by_cases e : q = 6 * (k % 6) + b <;> simp [e]; rw [zI_ne (by omega)]) (fun q => by rw [zI_ne (by omega), zI_sI]; by_cases e : q = 6 * (k % 6) + b <;> simp [e]) ?_ (fun h w hh hw => pV_bc hh hbn hkn ePT))
                                         rw [hm2.2]
                                         exact hza)
                                · refine v_aload_n (q := 237) hC dX12_layWays_236 rfl rfl rfl ?_
                                  refine v_getR (q := 240) (r := 62) hC dX12_layWays_237 rfl fX12_34 (hL1.1 53 (by decide)) (hL1.2 53 25 62 rfl) ?_
                                  refine v_iload_n (q := 241) hC dX12_layWays_240 rfl rfl rfl ?_
                                  refine v_ialdN (q := 242) (j := k) hC dX12_layWays_241 rfl (hL1.1 62 (by decide)) rfl (by omega) (by decide) ?_
                                  rw [ey]
                                  refine v_goto (q := 252) hC dX12_layWays_242 (by decide) ?_
                                  refine v_iastN (q := 253) (j := (6 * (k % 6) + b)) hC dX12_layWays_252 rfl (hL1.1 62 (by decide)) rfl (by omega) (by decide) ?_
                                  refine v_aload_n (q := 254) hC dX12_layWays_253 rfl rfl rfl ?_
                                  refine v_getR (q := 257) (r := 61) hC dX12_layWays_254 rfl fX12_31 (hL1.1 53 (by decide)) (hL1.2 53 24 61 rfl) ?_
                                  refine v_iload (q := 259) hC dX12_layWays_257 rfl rfl ?_
                                  refine v_iload (q := 261) hC dX12_layWays_259 rfl rfl ?_
                                  refine v_if_eq (q := 264) (tgt := 270) hC dX12_layWays_261 rfl (by decide) (fun h261 => ?_) (fun h261 => ?_)
                                  · refine v_aload_n (q := 271) hC dX12_layWays_270 rfl rfl rfl ?_
                                    refine v_getR (q := 274) (r := 61) hC dX12_layWays_271 rfl fX12_31 (hL1.1 53 (by decide)) (hL1.2 53 24 61 rfl) ?_
                                    refine v_iload (q := 276) hC dX12_layWays_274 rfl rfl ?_
                                    refine v_ialdN (q := 277) (j := (6 * (k % 6) + b)) hC dX12_layWays_276 rfl (hL1.1 61 (by decide)) rfl (by omega) (by decide) ?_
                                    refine v_iastN (q := 278) (j := (6 * (k % 6) + b)) hC dX12_layWays_277 rfl (hL1.1 61 (by decide)) rfl (by omega) (by decide) ?_
                                    refine v_iinc (q := 281) (v := 1) (L' := [_, _, _, _, _, _, _, _]) hC dX12_layWays_278 rfl rfl (by decide) (by decide) rfl rfl ?_
                                    refine v_goto (q := 128) hC dX12_layWays_281 (by decide) ?_
                                    rw [nI_1 b]
                                    first
                                      | exact absurd h233 h261
                                      | exact absurd h261 h233
                                      | (have hb1 := (zb_ne h233)
                                         have hm2 := hbt.resolve_right (fun z => by rw [z.1] at hb1; cases hb1)
                                         refine ih (b + 1) _ _ _ _ (by omega) ((hS.c (by simp) (by decide)).c (by simp) (by decide)) (hz.set (a := k % 6) (b := b) (x := nI (M + 1)) (y := nI (c % 6)) (o := pMin2 (pV n M (pMk n (pCd n (gvS kd kin met mb pr) (pSn kin) i h0 M)) (gvS kd kin met mb pr) (pSn kin) k b (k % 6) b) (some (c + 6))) (by omega) (fun q => by rw [zI_sI]; by_cases e : q = 6 * (k % 6) + b <;> simp [e]; rw [zI_ne (by omega)]) (fun q => by rw [zI_ne (by omega), zI_sI]; by_cases e : q = 6 * (k % 6) + b <;> simp [e]) ?_ (fun h w hh hw => pV_bc hh hbn hkn ePT))
                                         rw [hm2.2]
                                         exact ⟨by omega, by rw [show (c + 6) / 6 = M + 1 by omega], by rw [show (c + 6) % 6 = c % 6 by omega]⟩)
                                      | (have hb1 := (zb_eq0.mp h233)
                                         have hm2 := hbt.resolve_left (fun z => by rw [z.1] at hb1; cases hb1)
                                         rw [zI_ne (by omega)]
                                         refine ih (b + 1) _ _ _ _ (by omega) ((hS.c (by simp) (by decide)).c (by simp) (by decide)) (hz.set (a := k % 6) (b := b) (x := zI σ1 61 (6 * (k % 6) + b)) (y := zI σ1 62 (6 * (k % 6) + b)) (o := pMin2 (pV n M (pMk n (pCd n (gvS kd kin met mb pr) (pSn kin) i h0 M)) (gvS kd kin met mb pr) (pSn kin) k b (k % 6) b) (some (c + 6))) (by omega) (fun q => by rw [zI_sI]; by_cases e : q = 6 * (k % 6) + b <;> simp [e]; rw [zI_ne (by omega)]) (fun q => by rw [zI_ne (by omega), zI_sI]; by_cases e : q = 6 * (k % 6) + b <;> simp [e]) ?_ (fun h w hh hw => pV_bc hh hbn hkn ePT))
                                         rw [hm2.2]
                                         exact hza)
                                  · refine v_iload_n (q := 265) hC dX12_layWays_264 rfl rfl rfl ?_
                                    refine v_iconst (q := 266) (v := 1) hC dX12_layWays_265 rfl (by decide) ?_
                                    refine v_iadd (q := 267) hC dX12_layWays_266 rfl ?_
                                    rw [nI_1 M]
                                    refine v_goto (q := 277) hC dX12_layWays_267 (by decide) ?_
                                    refine v_iastN (q := 278) (j := (6 * (k % 6) + b)) hC dX12_layWays_277 rfl (hL1.1 61 (by decide)) rfl (by omega) (by decide) ?_
                                    refine v_iinc (q := 281) (v := 1) (L' := [_, _, _, _, _, _, _, _]) hC dX12_layWays_278 rfl rfl (by decide) (by decide) rfl rfl ?_
                                    refine v_goto (q := 128) hC dX12_layWays_281 (by decide) ?_
                                    rw [nI_1 b]
                                    first
                                      | exact absurd h233 h261
                                      | exact absurd h261 h233
                                      | (have hb1 := (zb_ne h233)
                                         have hm2 := hbt.resolve_right (fun z => by rw [z.1] at hb1; cases hb1)
                                         refine ih (b + 1) _ _ _ _ (by omega) ((hS.c (by simp) (by decide)).c (by simp) (by decide)) (hz.set (a := k % 6) (b := b) (x := nI (M + 1)) (y := nI (c % 6)) (o := pMin2 (pV n M (pMk n (pCd n (gvS kd kin met mb pr) (pSn kin) i h0 M)) (gvS kd kin met mb pr) (pSn kin) k b (k % 6) b) (some (c + 6))) (by omega) (fun q => by rw [zI_sI]; by_cases e : q = 6 * (k % 6) + b <;> simp [e]; rw [zI_ne (by omega)]) (fun q => by rw [zI_ne (by omega), zI_sI]; by_cases e : q = 6 * (k % 6) + b <;> simp [e]) ?_ (fun h w hh hw => pV_bc hh hbn hkn ePT))
                                         rw [hm2.2]
                                         exact ⟨by omega, by rw [show (c + 6) / 6 = M + 1 by omega], by rw [show (c + 6) % 6 = c % 6 by omega]⟩)
                                      | (have hb1 := (zb_eq0.mp h233)
                                         have hm2 := hbt.resolve_left (fun z => by rw [z.1] at hb1; cases hb1)
                                         rw [zI_ne (by omega)]
                                         refine ih (b + 1) _ _ _ _ (by omega) ((hS.c (by simp) (by decide)).c (by simp) (by decide)) (hz.set (a := k % 6) (b := b) (x := zI σ1 61 (6 * (k % 6) + b)) (y := zI σ1 62 (6 * (k % 6) + b)) (o := pMin2 (pV n M (pMk n (pCd n (gvS kd kin met mb pr) (pSn kin) i h0 M)) (gvS kd kin met mb pr) (pSn kin) k b (k % 6) b) (some (c + 6))) (by omega) (fun q => by rw [zI_sI]; by_cases e : q = 6 * (k % 6) + b <;> simp [e]; rw [zI_ne (by omega)]) (fun q => by rw [zI_ne (by omega), zI_sI]; by_cases e : q = 6 * (k % 6) + b <;> simp [e]) ?_ (fun h w hh hw => pV_bc hh hbn hkn ePT))
                                         rw [hm2.2]
                                         exact hza)
                              first
                                | exact j223 true (Or.inl ⟨rfl, zbet1 hza h186⟩)
                                | exact j223 false (Or.inr ⟨rfl, zbet2 hza hcM (by omega) hup h186 h199⟩)
                                | exact j223 false (Or.inr ⟨rfl, zbet3 hza hcM (by omega) h199 h215⟩)
                                | exact j223 true (Or.inl ⟨rfl, zbet4 hza hcM (by omega) h199 h215⟩)
                            · refine v_iconst (q := 219) (v := 1) hC dX12_layWays_218 rfl (by decide) ?_
                              refine v_goto (q := 223) hC dX12_layWays_219 (by decide) ?_
                              have j223 : ∀ bt : Bool, ((bt = true ∧ pMin2 (pV n M (pMk n (pCd n (gvS kd kin met mb pr) (pSn kin) i h0 M)) (gvS kd kin met mb pr) (pSn kin) k b (k % 6) b) (some (c + 6)) = some (c + 6)) ∨ (bt = false ∧ pMin2 (pV n M (pMk n (pCd n (gvS kd kin met mb pr) (pSn kin) i h0 M)) (gvS kd kin met mb pr) (pSn kin) k b (k % 6) b) (some (c + 6)) = pV n M (pMk n (pCd n (gvS kd kin met mb pr) (pSn kin) i h0 M)) (gvS kd kin met mb pr) (pSn kin) k b (k % 6) b)) → zV X 8 223 [some (.ref 53), some (.int (nI f)), some (.int (nI M)), some (.int (nI k)), some (.int (nI b)), some (.int (nI (k % 6))), some (.int (nI (6 * (k % 6) + b))), o7] [.int (zb bt)] 0 0 σ1 := by
                                intro bt hbt
                                refine v_istore (q := 225) (L' := [_, _, _, _, _, _, _, _]) hC dX12_layWays_223 rfl (by decide) rfl rfl ?_
                                refine v_aload_n (q := 226) hC dX12_layWays_225 rfl rfl rfl ?_
                                refine v_getR (q := 229) (r := 62) hC dX12_layWays_226 rfl fX12_34 (hL1.1 53 (by decide)) (hL1.2 53 25 62 rfl) ?_
                                refine v_iload (q := 231) hC dX12_layWays_229 rfl rfl ?_
                                refine v_iload (q := 233) hC dX12_layWays_231 rfl rfl ?_
                                refine v_if_eq (q := 236) (tgt := 245) hC dX12_layWays_233 rfl (by decide) (fun h233 => ?_) (fun h233 => ?_)
                                · refine v_aload_n (q := 246) hC dX12_layWays_245 rfl rfl rfl ?_
                                  refine v_getR (q := 249) (r := 62) hC dX12_layWays_246 rfl fX12_34 (hL1.1 53 (by decide)) (hL1.2 53 25 62 rfl) ?_
                                  refine v_iload (q := 251) hC dX12_layWays_249 rfl rfl ?_
                                  refine v_ialdN (q := 252) (j := (6 * (k % 6) + b)) hC dX12_layWays_251 rfl (hL1.1 62 (by decide)) rfl (by omega) (by decide) ?_
                                  refine v_iastN (q := 253) (j := (6 * (k % 6) + b)) hC dX12_layWays_252 rfl (hL1.1 62 (by decide)) rfl (by omega) (by decide) ?_
                                  refine v_aload_n (q := 254) hC dX12_layWays_253 rfl rfl rfl ?_
                                  refine v_getR (q := 257) (r := 61) hC dX12_layWays_254 rfl fX12_31 (hL1.1 53 (by decide)) (hL1.2 53 24 61 rfl) ?_
                                  refine v_iload (q := 259) hC dX12_layWays_257 rfl rfl ?_
                                  refine v_iload (q := 261) hC dX12_layWays_259 rfl rfl ?_
                                  refine v_if_eq (q := 264) (tgt := 270) hC dX12_layWays_261 rfl (by decide) (fun h261 => ?_) (fun h261 => ?_)
                                  · refine v_aload_n (q := 271) hC dX12_layWays_270 rfl rfl rfl ?_
                                    refine v_getR (q := 274) (r := 61) hC dX12_layWays_271 rfl fX12_31 (hL1.1 53 (by decide)) (hL1.2 53 24 61 rfl) ?_
                                    refine v_iload (q := 276) hC dX12_layWays_274 rfl rfl ?_
                                    refine v_ialdN (q := 277) (j := (6 * (k % 6) + b)) hC dX12_layWays_276 rfl (hL1.1 61 (by decide)) rfl (by omega) (by decide) ?_
                                    refine v_iastN (q := 278) (j := (6 * (k % 6) + b)) hC dX12_layWays_277 rfl (hL1.1 61 (by decide)) rfl (by omega) (by decide) ?_
                                    refine v_iinc (q := 281) (v := 1) (L' := [_, _, _, _, _, _, _, _]) hC dX12_layWays_278 rfl rfl (by decide) (by decide) rfl rfl ?_
                                    refine v_goto (q := 128) hC dX12_layWays_281 (by decide) ?_
                                    rw [nI_1 b]
                                    first
                                      | exact absurd h233 h261
                                      | exact absurd h261 h233
                                      | (have hb1 := (zb_ne h233)
                                         have hm2 := hbt.resolve_right (fun z => by rw [z.1] at hb1; cases hb1)
                                         refine ih (b + 1) _ _ _ _ (by omega) ((hS.c (by simp) (by decide)).c (by simp) (by decide)) (hz.set (a := k % 6) (b := b) (x := nI (M + 1)) (y := nI (c % 6)) (o := pMin2 (pV n M (pMk n (pCd n (gvS kd kin met mb pr) (pSn kin) i h0 M)) (gvS kd kin met mb pr) (pSn kin) k b (k % 6) b) (some (c + 6))) (by omega) (fun q => by rw [zI_sI]; by_cases e : q = 6 * (k % 6) + b <;> simp [e]; rw [zI_ne (by omega)]) (fun q => by rw [zI_ne (by omega), zI_sI]; by_cases e : q = 6 * (k % 6) + b <;> simp [e]) ?_ (fun h w hh hw => pV_bc hh hbn hkn ePT))
                                         rw [hm2.2]
                                         exact ⟨by omega, by rw [show (c + 6) / 6 = M + 1 by omega], by rw [show (c + 6) % 6 = c % 6 by omega]⟩)
                                      | (have hb1 := (zb_eq0.mp h233)
                                         have hm2 := hbt.resolve_left (fun z => by rw [z.1] at hb1; cases hb1)
                                         rw [zI_ne (by omega)]
                                         refine ih (b + 1) _ _ _ _ (by omega) ((hS.c (by simp) (by decide)).c (by simp) (by decide)) (hz.set (a := k % 6) (b := b) (x := zI σ1 61 (6 * (k % 6) + b)) (y := zI σ1 62 (6 * (k % 6) + b)) (o := pMin2 (pV n M (pMk n (pCd n (gvS kd kin met mb pr) (pSn kin) i h0 M)) (gvS kd kin met mb pr) (pSn kin) k b (k % 6) b) (some (c + 6))) (by omega) (fun q => by rw [zI_sI]; by_cases e : q = 6 * (k % 6) + b <;> simp [e]; rw [zI_ne (by omega)]) (fun q => by rw [zI_ne (by omega), zI_sI]; by_cases e : q = 6 * (k % 6) + b <;> simp [e]) ?_ (fun h w hh hw => pV_bc hh hbn hkn ePT))
                                         rw [hm2.2]
                                         exact hza)
                                  · refine v_iload_n (q := 265) hC dX12_layWays_264 rfl rfl rfl ?_
                                    refine v_iconst (q := 266) (v := 1) hC dX12_layWays_265 rfl (by decide) ?_
                                    refine v_iadd (q := 267) hC dX12_layWays_266 rfl ?_
                                    rw [nI_1 M]
                                    refine v_goto (q := 277) hC dX12_layWays_267 (by decide) ?_
                                    refine v_iastN (q := 278) (j := (6 * (k % 6) + b)) hC dX12_layWays_277 rfl (hL1.1 61 (by decide)) rfl (by omega) (by decide) ?_
                                    refine v_iinc (q := 281) (v := 1) (L' := [_, _, _, _, _, _, _, _]) hC dX12_layWays_278 rfl rfl (by decide) (by decide) rfl rfl ?_
                                    refine v_goto (q := 128) hC dX12_layWays_281 (by decide) ?_
                                    rw [nI_1 b]
                                    first
                                      | exact absurd h233 h261
                                      | exact absurd h261 h233
                                      | (have hb1 := (zb_ne h233)
                                         have hm2 := hbt.resolve_right (fun z => by rw [z.1] at hb1; cases hb1)
                                         refine ih (b + 1) _ _ _ _ (by omega) ((hS.c (by simp) (by decide)).c (by simp) (by decide)) (hz.set (a := k % 6) (b := b) (x := nI (M + 1)) (y := nI (c % 6)) (o := pMin2 (pV n M (pMk n (pCd n (gvS kd kin met mb pr) (pSn kin) i h0 M)) (gvS kd kin met mb pr) (pSn kin) k b (k % 6) b) (some (c + 6))) (by omega) (fun q => by rw [zI_sI]; by_cases e : q = 6 * (k % 6) + b <;> simp [e]; rw [zI_ne (by omega)]) (fun q => by rw [zI_ne (by omega), zI_sI]; by_cases e : q = 6 * (k % 6) + b <;> simp [e]) ?_ (fun h w hh hw => pV_bc hh hbn hkn ePT))
                                         rw [hm2.2]
                                         exact ⟨by omega, by rw [show (c + 6) / 6 = M + 1 by omega], by rw [show (c + 6) % 6 = c % 6 by omega]⟩)
                                      | (have hb1 := (zb_eq0.mp h233)
                                         have hm2 := hbt.resolve_left (fun z => by rw [z.1] at hb1; cases hb1)
                                         rw [zI_ne (by omega)]
                                         refine ih (b + 1) _ _ _ _ (by omega) ((hS.c (by simp) (by decide)).c (by simp) (by decide)) (hz.set (a := k % 6) (b := b) (x := zI σ1 61 (6 * (k % 6) + b)) (y := zI σ1 62 (6 * (k % 6) + b)) (o := pMin2 (pV n M (pMk n (pCd n (gvS kd kin met mb pr) (pSn kin) i h0 M)) (gvS kd kin met mb pr) (pSn kin) k b (k % 6) b) (some (c + 6))) (by omega) (fun q => by rw [zI_sI]; by_cases e : q = 6 * (k % 6) + b <;> simp [e]; rw [zI_ne (by omega)]) (fun q => by rw [zI_ne (by omega), zI_sI]; by_cases e : q = 6 * (k % 6) + b <;> simp [e]) ?_ (fun h w hh hw => pV_bc hh hbn hkn ePT))
                                         rw [hm2.2]
                                         exact hza)
                                · refine v_aload_n (q := 237) hC dX12_layWays_236 rfl rfl rfl ?_
                                  refine v_getR (q := 240) (r := 62) hC dX12_layWays_237 rfl fX12_34 (hL1.1 53 (by decide)) (hL1.2 53 25 62 rfl) ?_
                                  refine v_iload_n (q := 241) hC dX12_layWays_240 rfl rfl rfl ?_
                                  refine v_ialdN (q := 242) (j := k) hC dX12_layWays_241 rfl (hL1.1 62 (by decide)) rfl (by omega) (by decide) ?_
                                  rw [ey]
                                  refine v_goto (q := 252) hC dX12_layWays_242 (by decide) ?_
                                  refine v_iastN (q := 253) (j := (6 * (k % 6) + b)) hC dX12_layWays_252 rfl (hL1.1 62 (by decide)) rfl (by omega) (by decide) ?_
                                  refine v_aload_n (q := 254) hC dX12_layWays_253 rfl rfl rfl ?_
                                  refine v_getR (q := 257) (r := 61) hC dX12_layWays_254 rfl fX12_31 (hL1.1 53 (by decide)) (hL1.2 53 24 61 rfl) ?_
                                  refine v_iload (q := 259) hC dX12_layWays_257 rfl rfl ?_
                                  refine v_iload (q := 261) hC dX12_layWays_259 rfl rfl ?_
                                  refine v_if_eq (q := 264) (tgt := 270) hC dX12_layWays_261 rfl (by decide) (fun h261 => ?_) (fun h261 => ?_)
                                  · refine v_aload_n (q := 271) hC dX12_layWays_270 rfl rfl rfl ?_
                                    refine v_getR (q := 274) (r := 61) hC dX12_layWays_271 rfl fX12_31 (hL1.1 53 (by decide)) (hL1.2 53 24 61 rfl) ?_
                                    refine v_iload (q := 276) hC dX12_layWays_274 rfl rfl ?_
                                    refine v_ialdN (q := 277) (j := (6 * (k % 6) + b)) hC dX12_layWays_276 rfl (hL1.1 61 (by decide)) rfl (by omega) (by decide) ?_
                                    refine v_iastN (q := 278) (j := (6 * (k % 6) + b)) hC dX12_layWays_277 rfl (hL1.1 61 (by decide)) rfl (by omega) (by decide) ?_
                                    refine v_iinc (q := 281) (v := 1) (L' := [_, _, _, _, _, _, _, _]) hC dX12_layWays_278 rfl rfl (by decide) (by decide) rfl rfl ?_
                                    refine v_goto (q := 128) hC dX12_layWays_281 (by decide) ?_
                                    rw [nI_1 b]
                                    first
                                      | exact absurd h233 h261
                                      | exact absurd h261 h233
                                      | (have hb1 := (zb_ne h233)
                                         have hm2 := hbt.resolve_right (fun z => by rw [z.1] at hb1; cases hb1)
                                         refine ih (b + 1) _ _ _ _ (by omega) ((hS.c (by simp) (by decide)).c (by simp) (by decide)) (hz.set (a := k % 6) (b := b) (x := nI (M + 1)) (y := nI (c % 6)) (o := pMin2 (pV n M (pMk n (pCd n (gvS kd kin met mb pr) (pSn kin) i h0 M)) (gvS kd kin met mb pr) (pSn kin) k b (k % 6) b) (some (c + 6))) (by omega) (fun q => by rw [zI_sI]; by_cases e : q = 6 * (k % 6) + b <;> simp [e]; rw [zI_ne (by omega)]) (fun q => by rw [zI_ne (by omega), zI_sI]; by_cases e : q = 6 * (k % 6) + b <;> simp [e]) ?_ (fun h w hh hw => pV_bc hh hbn hkn ePT))
                                         rw [hm2.2]
                                         exact ⟨by omega, by rw [show (c + 6) / 6 = M + 1 by omega], by rw [show (c + 6) % 6 = c % 6 by omega]⟩)
                                      | (have hb1 := (zb_eq0.mp h233)
                                         have hm2 := hbt.resolve_left (fun z => by rw [z.1] at hb1; cases hb1)
                                         rw [zI_ne (by omega)]
                                         refine ih (b + 1) _ _ _ _ (by omega) ((hS.c (by simp) (by decide)).c (by simp) (by decide)) (hz.set (a := k % 6) (b := b) (x := zI σ1 61 (6 * (k % 6) + b)) (y := zI σ1 62 (6 * (k % 6) + b)) (o := pMin2 (pV n M (pMk n (pCd n (gvS kd kin met mb pr) (pSn kin) i h0 M)) (gvS kd kin met mb pr) (pSn kin) k b (k % 6) b) (some (c + 6))) (by omega) (fun q => by rw [zI_sI]; by_cases e : q = 6 * (k % 6) + b <;> simp [e]; rw [zI_ne (by omega)]) (fun q => by rw [zI_ne (by omega), zI_sI]; by_cases e : q = 6 * (k % 6) + b <;> simp [e]) ?_ (fun h w hh hw => pV_bc hh hbn hkn ePT))
                                         rw [hm2.2]
                                         exact hza)
                                  · refine v_iload_n (q := 265) hC dX12_layWays_264 rfl rfl rfl ?_
                                    refine v_iconst (q := 266) (v := 1) hC dX12_layWays_265 rfl (by decide) ?_
                                    refine v_iadd (q := 267) hC dX12_layWays_266 rfl ?_
                                    rw [nI_1 M]
                                    refine v_goto (q := 277) hC dX12_layWays_267 (by decide) ?_
                                    refine v_iastN (q := 278) (j := (6 * (k % 6) + b)) hC dX12_layWays_277 rfl (hL1.1 61 (by decide)) rfl (by omega) (by decide) ?_
                                    refine v_iinc (q := 281) (v := 1) (L' := [_, _, _, _, _, _, _, _]) hC dX12_layWays_278 rfl rfl (by decide) (by decide) rfl rfl ?_
                                    refine v_goto (q := 128) hC dX12_layWays_281 (by decide) ?_
                                    rw [nI_1 b]
                                    first
                                      | exact absurd h233 h261
                                      | exact absurd h261 h233
                                      | (have hb1 := (zb_ne h233)
                                         have hm2 := hbt.resolve_right (fun z => by rw [z.1] at hb1; cases hb1)
                                         refine ih (b + 1) _ _ _ _ (by omega) ((hS.c (by simp) (by decide)).c (by simp) (by decide)) (hz.set (a := k % 6) (b := b) (x := nI (M + 1)) (y := nI (c % 6)) (o := pMin2 (pV n M (pMk n (pCd n (gvS kd kin met mb pr) (pSn kin) i h0 M)) (gvS kd kin met mb pr) (pSn kin) k b (k % 6) b) (some (c + 6))) (by omega) (fun q => by rw [zI_sI]; by_cases e : q = 6 * (k % 6) + b <;> simp [e]; rw [zI_ne (by omega)]) (fun q => by rw [zI_ne (by omega), zI_sI]; by_cases e : q = 6 * (k % 6) + b <;> simp [e]) ?_ (fun h w hh hw => pV_bc hh hbn hkn ePT))
                                         rw [hm2.2]
                                         exact ⟨by omega, by rw [show (c + 6) / 6 = M + 1 by omega], by rw [show (c + 6) % 6 = c % 6 by omega]⟩)
                                      | (have hb1 := (zb_eq0.mp h233)
                                         have hm2 := hbt.resolve_left (fun z => by rw [z.1] at hb1; cases hb1)
                                         rw [zI_ne (by omega)]
                                         refine ih (b + 1) _ _ _ _ (by omega) ((hS.c (by simp) (by decide)).c (by simp) (by decide)) (hz.set (a := k % 6) (b := b) (x := zI σ1 61 (6 * (k % 6) + b)) (y := zI σ1 62 (6 * (k % 6) + b)) (o := pMin2 (pV n M (pMk n (pCd n (gvS kd kin met mb pr) (pSn kin) i h0 M)) (gvS kd kin met mb pr) (pSn kin) k b (k % 6) b) (some (c + 6))) (by omega) (fun q => by rw [zI_sI]; by_cases e : q = 6 * (k % 6) + b <;> simp [e]; rw [zI_ne (by omega)]) (fun q => by rw [zI_ne (by omega), zI_sI]; by_cases e : q = 6 * (k % 6) + b <;> simp [e]) ?_ (fun h w hh hw => pV_bc hh hbn hkn ePT))
                                         rw [hm2.2]
                                         exact hza)
                              first
                                | exact j223 true (Or.inl ⟨rfl, zbet1 hza h186⟩)
                                | exact j223 false (Or.inr ⟨rfl, zbet2 hza hcM (by omega) hup h186 h199⟩)
                                | exact j223 false (Or.inr ⟨rfl, zbet3 hza hcM (by omega) h199 h215⟩)
                                | exact j223 true (Or.inl ⟨rfl, zbet4 hza hcM (by omega) h199 h215⟩)
              exact lp5 n 0 _ _ _ σ1 (by omega) hS hz
        exact lp4 36 0 _ _ _ _ σ1 (by omega) hS (hz.eq (fun h w hh hw => pV_0 hh))
  have lp2 : ∀ (r : Nat) (b : Nat) (σ1 : zSt), b + r = n → zSm [61, 62] [] σ σ1 → zFar σ1 (pV1 n (gvS kd kin met mb pr) (pSn kin) i h0 b) → zV X 8 23 [some (.ref 53), some (.int (nI f)), some (.int (nI b)), none, none, none, none, none] [] 0 0 σ1 := by
    intro r
    induction r with
    | zero =>
      intro b σ1 hb hS hz
      have hL1 := hS.lay hL
      have hF1 := hF.sm hS rfl rfl
      have hd1 := hd.sm hS rfl rfl
      have hs1 := hs.sm hS rfl
      refine v_iload_n (q := 24) hC dX12_layWays_23 rfl rfl rfl ?_
      refine v_aload_n (q := 25) hC dX12_layWays_24 rfl rfl rfl ?_
      refine v_getI (q := 28) hC dX12_layWays_25 rfl fX12_126 (hL1.1 53 (by decide)) ?_
      rw [hF1.1]
      refine v_icmp_ge (q := 31) (tgt := 109) hC dX12_layWays_28 rfl (by decide) (fun h28 => ?_) (fun h28 => ?_)
      · refine v_iconst (q := 110) (v := 1) hC dX12_layWays_109 rfl (by decide) ?_
        refine v_istore_n (q := 111) (L' := [_, _, _, _, _, _, _, _]) hC dX12_layWays_110 rfl rfl (by decide) rfl rfl ?_
        have e : b = n := by omega
        subst e
        exact lp3 7 1 _ _ _ _ _ σ1 (by omega) (by omega) hS (hz.eq (fun a b ha hb => pV1_n))
      · exact absurd (nI_le (a := n) (b := b) (by omega) (by omega)) h28
    | succ r ih =>
      intro b σ1 hb hS hz
      have hL1 := hS.lay hL
      have hF1 := hF.sm hS rfl rfl
      have hd1 := hd.sm hS rfl rfl
      have hs1 := hs.sm hS rfl
      refine v_iload_n (q := 24) hC dX12_layWays_23 rfl rfl rfl ?_
      refine v_aload_n (q := 25) hC dX12_layWays_24 rfl rfl rfl ?_
      refine v_getI (q := 28) hC dX12_layWays_25 rfl fX12_126 (hL1.1 53 (by decide)) ?_
      rw [hF1.1]
      refine v_icmp_ge (q := 31) (tgt := 109) hC dX12_layWays_28 rfl (by decide) (fun h28 => ?_) (fun h28 => ?_)
      · exact absurd h28 (nI_ge (a := b) (b := n) (by omega) (by omega))
      · have hbn : b < n := by omega
        refine v_aload_n (q := 32) hC dX12_layWays_31 rfl rfl rfl ?_
        refine v_aload_n (q := 33) hC dX12_layWays_32 rfl rfl rfl ?_
        refine v_getR (q := 36) (r := 60) hC dX12_layWays_33 rfl fX12_28 (hL1.1 53 (by decide)) (hL1.2 53 23 60 rfl) ?_
        refine v_bipush (q := 38) (v := 6) hC dX12_layWays_36 rfl (by decide) ?_
        refine v_iload_n (q := 39) hC dX12_layWays_38 rfl rfl rfl ?_
        refine v_imul (q := 40) hC dX12_layWays_39 rfl ?_
        refine v_ialdN (q := 41) (j := 6 * f) hC dX12_layWays_40 rfl (hL1.1 60 (by decide)) (z60 f) (by omega) (by decide) ?_
        rw [show zI σ1 60 (6 * f) = zo (some i) by have := hd1.2.2.2 0 f (by decide) hf; rw [Nat.add_zero] at this; rw [this, e0]; rfl]
        refine v_aload_n (q := 42) hC dX12_layWays_41 rfl rfl rfl ?_
        refine v_getR (q := 45) (r := 60) hC dX12_layWays_42 rfl fX12_28 (hL1.1 53 (by decide)) (hL1.2 53 23 60 rfl) ?_
        refine v_bipush (q := 47) (v := 6) hC dX12_layWays_45 rfl (by decide) ?_
        refine v_iload_n (q := 48) hC dX12_layWays_47 rfl rfl rfl ?_
        refine v_imul (q := 49) hC dX12_layWays_48 rfl ?_
        refine v_iconst (q := 50) (v := 1) hC dX12_layWays_49 rfl (by decide) ?_
        refine v_iadd (q := 51) hC dX12_layWays_50 rfl ?_
        refine v_ialdN (q := 52) (j := 6 * f + 1) hC dX12_layWays_51 rfl (hL1.1 60 (by decide)) (z6' f 1) (by omega) (by decide) ?_
        rw [hd1.2.2.2 1 f (by decide) hf, e1]
        refine v_iload_n (q := 53) hC dX12_layWays_52 rfl rfl rfl ?_
        refine v_callV1 (q := 56) (As := [_, _, _]) hC dX12_layWays_53 rfl lX12_189 mX12_follows iX12_follows eX12_follows rfl (hL1.1 53 (by decide)) (ct_X12_follows d hL1 hF1 hs1 hmb hsy (i := some i) (fun g hg => by cases hg; exact hi) hh0 hbn) rfl rfl (by omega) rfl (Nat.le_of_ble_eq_true rfl) ?_
        refine v_if_eq (q := 59) (tgt := 103) hC dX12_layWays_56 rfl (by decide) (fun h56 => ?_) (fun h56 => ?_)
        · refine v_iinc (q := 106) (v := 1) (L' := [_, _, _, _, _, _, _, _]) hC dX12_layWays_103 rfl rfl (by decide) (by decide) rfl rfl ?_
          refine v_goto (q := 23) hC dX12_layWays_106 (by decide) ?_
          rw [nI_1 b]
          first
            | (have hP := pFw_t h56
               refine ih (b + 1) _ (by omega) ((hS.c (by simp) (by decide)).c (by simp) (by decide)) (hz.set (a := h0) (b := b) (x := 1) (y := nI b) (o := some (6 + b)) (by omega) (fun q => by rw [zI_ne (by omega), zI_sI]; by_cases e : q = 6 * h0 + b <;> simp [e]) (fun q => by rw [zI_sI]; by_cases e : q = 6 * h0 + b <;> simp [e]; rw [zI_ne (by omega)]) ⟨by omega, by rw [show (6 + b) / 6 = 1 by omega]; rfl, by rw [show (6 + b) % 6 = b by omega]⟩ (fun h w hh hw => by rw [pV1_b hh0 hbn, if_pos hP])))
            | (have hP := pFw_f h56
               refine ih (b + 1) _ (by omega) hS (hz.eq (fun h w hh hw => ?_))
               rw [pV1_b hh0 hbn, if_neg hP]
               by_cases e : h = h0 ∧ w = b
               · rw [if_pos e]; unfold pV1; rw [if_neg (by omega)]
               · rw [if_neg e])
        · refine v_aload_n (q := 60) hC dX12_layWays_59 rfl rfl rfl ?_
          refine v_getR (q := 63) (r := 61) hC dX12_layWays_60 rfl fX12_31 (hL1.1 53 (by decide)) (hL1.2 53 24 61 rfl) ?_
          refine v_bipush (q := 65) (v := 6) hC dX12_layWays_63 rfl (by decide) ?_
          refine v_aload_n (q := 66) hC dX12_layWays_65 rfl rfl rfl ?_
          refine v_getR (q := 69) (r := 60) hC dX12_layWays_66 rfl fX12_28 (hL1.1 53 (by decide)) (hL1.2 53 23 60 rfl) ?_
          refine v_bipush (q := 71) (v := 6) hC dX12_layWays_69 rfl (by decide) ?_
          refine v_iload_n (q := 72) hC dX12_layWays_71 rfl rfl rfl ?_
          refine v_imul (q := 73) hC dX12_layWays_72 rfl ?_
          refine v_iconst (q := 74) (v := 1) hC dX12_layWays_73 rfl (by decide) ?_
          refine v_iadd (q := 75) hC dX12_layWays_74 rfl ?_
          refine v_ialdN (q := 76) (j := 6 * f + 1) hC dX12_layWays_75 rfl (hL1.1 60 (by decide)) (z6' f 1) (by omega) (by decide) ?_
          rw [hd1.2.2.2 1 f (by decide) hf, e1]
          refine v_imul (q := 77) hC dX12_layWays_76 rfl ?_
          refine v_iload_n (q := 78) hC dX12_layWays_77 rfl rfl rfl ?_
          refine v_iadd (q := 79) hC dX12_layWays_78 rfl ?_
          refine v_iconst (q := 80) (v := 1) hC dX12_layWays_79 rfl (by decide) ?_
          refine v_iastN (q := 81) (j := 6 * h0 + b) hC dX12_layWays_80 rfl (hL1.1 61 (by decide)) (z6' h0 b) (by omega) (by decide) ?_
          refine v_aload_n (q := 82) hC dX12_layWays_81 rfl rfl rfl ?_
          refine v_getR (q := 85) (r := 62) hC dX12_layWays_82 rfl fX12_34 (hL1.1 53 (by decide)) (hL1.2 53 25 62 rfl) ?_
          refine v_bipush (q := 87) (v := 6) hC dX12_layWays_85 rfl (by decide) ?_
          refine v_aload_n (q := 88) hC dX12_layWays_87 rfl rfl rfl ?_
          refine v_getR (q := 91) (r := 60) hC dX12_layWays_88 rfl fX12_28 (hL1.1 53 (by decide)) (hL1.2 53 23 60 rfl) ?_
          refine v_bipush (q := 93) (v := 6) hC dX12_layWays_91 rfl (by decide) ?_
          refine v_iload_n (q := 94) hC dX12_layWays_93 rfl rfl rfl ?_
          refine v_imul (q := 95) hC dX12_layWays_94 rfl ?_
          refine v_iconst (q := 96) (v := 1) hC dX12_layWays_95 rfl (by decide) ?_
          refine v_iadd (q := 97) hC dX12_layWays_96 rfl ?_
          refine v_ialdN (q := 98) (j := 6 * f + 1) hC dX12_layWays_97 rfl (hL1.1 60 (by decide)) (z6' f 1) (by omega) (by decide) ?_
          rw [zI_ne (by omega), hd1.2.2.2 1 f (by decide) hf, e1]
          refine v_imul (q := 99) hC dX12_layWays_98 rfl ?_
          refine v_iload_n (q := 100) hC dX12_layWays_99 rfl rfl rfl ?_
          refine v_iadd (q := 101) hC dX12_layWays_100 rfl ?_
          refine v_iload_n (q := 102) hC dX12_layWays_101 rfl rfl rfl ?_
          refine v_iastN (q := 103) (j := 6 * h0 + b) hC dX12_layWays_102 rfl (hL1.1 62 (by decide)) (z6' h0 b) (by omega) (by decide) ?_
          refine v_iinc (q := 106) (v := 1) (L' := [_, _, _, _, _, _, _, _]) hC dX12_layWays_103 rfl rfl (by decide) (by decide) rfl rfl ?_
          refine v_goto (q := 23) hC dX12_layWays_106 (by decide) ?_
          rw [nI_1 b]
          first
            | (have hP := pFw_t h56
               refine ih (b + 1) _ (by omega) ((hS.c (by simp) (by decide)).c (by simp) (by decide)) (hz.set (a := h0) (b := b) (x := 1) (y := nI b) (o := some (6 + b)) (by omega) (fun q => by rw [zI_ne (by omega), zI_sI]; by_cases e : q = 6 * h0 + b <;> simp [e]) (fun q => by rw [zI_sI]; by_cases e : q = 6 * h0 + b <;> simp [e]; rw [zI_ne (by omega)]) ⟨by omega, by rw [show (6 + b) / 6 = 1 by omega]; rfl, by rw [show (6 + b) % 6 = b by omega]⟩ (fun h w hh hw => by rw [pV1_b hh0 hbn, if_pos hP])))
            | (have hP := pFw_f h56
               refine ih (b + 1) _ (by omega) hS (hz.eq (fun h w hh hw => ?_))
               rw [pV1_b hh0 hbn, if_neg hP]
               by_cases e : h = h0 ∧ w = b
               · rw [if_pos e]; unfold pV1; rw [if_neg (by omega)]
               · rw [if_neg e])
  have lp1 : ∀ (r : Nat) (q : Nat) (σ1 : zSt), q + r = 36 → zSm [61, 62] [] σ σ1 → (∀ a, a < q → zI σ1 61 a = -1) → zV X 8 2 [some (.ref 53), some (.int (nI f)), some (.int (nI q)), none, none, none, none, none] [] 0 0 σ1 := by
    intro r
    induction r with
    | zero =>
      intro q σ1 hq hS hz
      have hL1 := hS.lay hL
      have hF1 := hF.sm hS rfl rfl
      have hd1 := hd.sm hS rfl rfl
      have hs1 := hs.sm hS rfl
      refine v_iload_n (q := 3) hC dX12_layWays_2 rfl rfl rfl ?_
      refine v_bipush (q := 5) (v := 36) hC dX12_layWays_3 rfl (by decide) ?_
      refine v_icmp_ge (q := 8) (tgt := 21) hC dX12_layWays_5 rfl (by decide) (fun h5 => ?_) (fun h5 => ?_)
      · refine v_iconst (q := 22) (v := 0) hC dX12_layWays_21 rfl (by decide) ?_
        refine v_istore_n (q := 23) (L' := [_, _, _, _, _, _, _, _]) hC dX12_layWays_22 rfl rfl (by decide) rfl rfl ?_
        have e : q = 36 := by omega
        subst e
        exact lp2 n 0 σ1 (by omega) hS (fun h w hh hw => by unfold pV1; rw [if_neg (by omega)]; exact hz _ (by omega))
      · exact absurd (nI_le (a := 36) (b := q) (by omega) (by omega)) h5
    | succ r ih =>
      intro q σ1 hq hS hz
      have hL1 := hS.lay hL
      have hF1 := hF.sm hS rfl rfl
      have hd1 := hd.sm hS rfl rfl
      have hs1 := hs.sm hS rfl
      refine v_iload_n (q := 3) hC dX12_layWays_2 rfl rfl rfl ?_
      refine v_bipush (q := 5) (v := 36) hC dX12_layWays_3 rfl (by decide) ?_
      refine v_icmp_ge (q := 8) (tgt := 21) hC dX12_layWays_5 rfl (by decide) (fun h5 => ?_) (fun h5 => ?_)
      · exact absurd h5 (nI_ge (a := q) (b := 36) (by omega) (by omega))
      · refine v_aload_n (q := 9) hC dX12_layWays_8 rfl rfl rfl ?_
        refine v_getR (q := 12) (r := 61) hC dX12_layWays_9 rfl fX12_31 (hL1.1 53 (by decide)) (hL1.2 53 24 61 rfl) ?_
        refine v_iload_n (q := 13) hC dX12_layWays_12 rfl rfl rfl ?_
        refine v_iconst (q := 14) (v := -1) hC dX12_layWays_13 rfl (by decide) ?_
        refine v_iastN (q := 15) (j := q) hC dX12_layWays_14 rfl (hL1.1 61 (by decide)) rfl (by omega) (by decide) ?_
        refine v_iinc (q := 18) (v := 1) (L' := [_, _, _, _, _, _, _, _]) hC dX12_layWays_15 rfl rfl (by decide) (by decide) rfl rfl ?_
        refine v_goto (q := 2) hC dX12_layWays_18 (by decide) ?_
        rw [nI_1 q]
        refine ih (q + 1) _ (by omega) (hS.c (by simp) (by decide)) (fun a ha => ?_)
        rw [zI_sI]
        by_cases e : a = q
        · rw [if_pos ⟨rfl, e⟩]
        · rw [if_neg (fun z => e z.2)]; exact hz a (by omega)
  refine v_iconst (q := 1) (v := 0) hC dX12_layWays_0 rfl (by decide) ?_
  refine v_istore_n (q := 2) (L' := [_, _, _, _, _, _, _, _]) hC dX12_layWays_1 rfl rfl (by decide) rfl rfl ?_
  exact lp1 36 0 σ (by omega) zSm.rf (fun a ha => absurd ha (Nat.not_lt_zero a))

