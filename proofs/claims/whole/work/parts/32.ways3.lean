/-! ===== Ways: reached, bars, meetings ===== -/
theorem pFst_or {P : Nat → Bool} (k : Nat) : (pFst P (k + 1)).isSome = ((pFst P k).isSome || P k) := by
  simp only [pFst]
  cases pFst P k with
  | some g => simp
  | none => cases P k <;> simp
def pTc (n : Nat) (gv sn : Nat → Nat → Bool) (i h0 : Nat) (k w : Nat) : Bool := (pFst (fun k => decide (w < n) && (pLst n (pRow n gv sn i h0 k) w).isSome) k).isSome
def pRch (n : Nat) (gv sn : Nat → Nat → Bool) (i h0 : Nat) : Nat := pCnt (pTc n gv sn i h0 8) 6
theorem zEnv3 {cs rs : List Nat} {σ σ1 : zSt} {n : Nat} {gv sn : Nat → Nat → Bool} (hL : zLay σ) (hn : zI σ 8 4 = nI n) (hp : zSp σ n gv sn) (hS : zSame cs rs σ σ1) (hc : (cs.all fun c => !(c == 8) && !(c == 15) && !(c == 16)) = true) (hr : rs.all (fun c => (zrl.getD c []).all (fun r => r.isNone)) = true) : zLay σ1 ∧ zI σ1 8 4 = nI n ∧ zSp σ1 n gv sn := by
  have hx : ∀ c, c = 8 ∨ c = 15 ∨ c = 16 → c ∉ cs := by
    intro c hc1 hm
    have := List.all_eq_true.mp hc c hm
    rcases hc1 with rfl | rfl | rfl <;> simp at this
  exact ⟨hL.same hS hr, by rw [hS.2.2.2 8 (hx 8 (by simp))]; exact hn, fun a b ha hb => by rw [hS.2.2.2 15 (hx 15 (by simp)), hS.2.2.2 16 (hx 16 (by simp))]; exact hp a b ha hb⟩

set_option maxRecDepth 100000 in
set_option maxHeartbeats 4000000 in
theorem ct_X10_reached (d : Nat) {σ : zSt} (hL : zLay σ) {n : Nat} (hn : zI σ 8 4 = nI n) (hn6 : n ≤ 6) {gv sn : Nat → Nat → Bool} (hp : zSp σ n gv sn) {a b : Nat} (hw : zRb σ 18 a b) {i h0 : Nat} (hi : i < n) (hh0 : h0 < n) : zCt (d + 3) MX10_reached [.ref 17, .int (nI i), .int (nI h0)] σ (fun r σ' => r = some (.int (nI (pRch n gv sn i h0))) ∧ zSame [19, 20, 21] [18] σ σ' ∧ ∃ a b, zRb σ' 18 a b) := by
  refine zCt.of (L := [some (.ref 17), some (.int (nI i)), some (.int (nI h0)), none, none]) (by decide) (Nat.le_of_ble_eq_true rfl) rfl (fun X hC hB => ?_)
  have hC : zC X RX10 cX10_reached 5 (d + 3) 0 0 := hC
  have hB : zB X (some .int) 0 0 "reached" σ _ := hB
  show zV X 5 0 [some (.ref 17), some (.int (nI i)), some (.int (nI h0)), none, none] [] 0 0 σ
  have lpB : ∀ (rb : Nat) (k : Nat) (σ1 : zSt) (a b : Nat) (o4 : Option Value), k + rb = 8 → zSame [19, 20, 21] [18] σ σ1 → zRb σ1 18 a b → zHold σ1 a n (fun h w => zo (pRow n gv sn i h0 k h w)) → (∀ w, w < 6 → zI σ1 21 w = zb (pTc n gv sn i h0 k w)) → zV X 5 29 [some (.ref 17), some (.int (nI i)), some (.int (nI h0)), some (.int (nI (k + 1))), o4] [] 0 0 σ1 := by
    intro rb
    induction rb with
    | zero =>
      intro k σ1 a b o4 hk hS hw1 ha hT
      obtain ⟨hL1, hn1, hp1⟩ := zEnv3 hL hn hp hS (by decide) (by decide)
      refine v_iload_n (q := 30) hC dX10_reached_29 rfl rfl rfl ?_
      refine v_bipush (q := 32) (v := 8) hC dX10_reached_30 rfl (by decide) ?_
      refine v_icmp_gt (q := 35) (tgt := 49) hC dX10_reached_32 rfl (by decide) (fun h32 => ?_) (fun h32 => ?_)
      · refine v_iconst (q := 50) (v := 0) hC dX10_reached_49 rfl (by decide) ?_
        refine v_istore_n (q := 51) (L' := [_, _, _, _, _]) hC dX10_reached_50 rfl rfl (by decide) rfl rfl ?_
        refine v_iconst (q := 52) (v := 0) hC dX10_reached_51 rfl (by decide) ?_
        refine v_istore (q := 54) (L' := [_, _, _, _, _]) hC dX10_reached_52 rfl (by decide) rfl rfl ?_
        have e : k = 8 := by omega
        subst e
        have lpC : ∀ (rc : Nat) (k : Nat) (x : Int32), x = nI (pCnt (pTc n gv sn i h0 8) k) → k + rc = 6 → zV X 5 54 [some (.ref 17), some (.int (nI i)), some (.int (nI h0)), some (.int x), some (.int (nI k))] [] 0 0 σ1 := by
          intro rc
          induction rc with
          | zero =>
            intro k x hx hk
            subst hx
            refine v_iload (q := 56) hC dX10_reached_54 rfl rfl ?_
            refine v_bipush (q := 58) (v := 6) hC dX10_reached_56 rfl (by decide) ?_
            refine v_icmp_ge (q := 61) (tgt := 80) hC dX10_reached_58 rfl (by decide) (fun h58 => ?_) (fun h58 => ?_)
            · refine v_iload_n (q := 81) hC dX10_reached_80 rfl rfl rfl ?_
              refine v_ireturn hC hB dX10_reached_81 ⟨Nat.le_refl _, Nat.le_refl _⟩ ?_
              have e : k = 6 := by omega
              subst e
              exact ⟨rfl, hS, a, b, hw1⟩
            · exact absurd (nI_le (a := 6) (b := k) (by omega) (by omega)) h58
          | succ rc ih =>
            intro k x hx hk
            subst hx
            refine v_iload (q := 56) hC dX10_reached_54 rfl rfl ?_
            refine v_bipush (q := 58) (v := 6) hC dX10_reached_56 rfl (by decide) ?_
            refine v_icmp_ge (q := 61) (tgt := 80) hC dX10_reached_58 rfl (by decide) (fun h58 => ?_) (fun h58 => ?_)
            · exact absurd h58 (nI_ge (a := k) (b := 6) (by omega) (by omega))
            · refine v_aload_n (q := 62) hC dX10_reached_61 rfl rfl rfl ?_
              refine v_getR (q := 65) (r := 21) hC dX10_reached_62 rfl fX10_18 (hL1.1 17 (by decide)) (hL1.2 17 3 21 rfl) ?_
              refine v_iload (q := 67) hC dX10_reached_65 rfl rfl ?_
              refine v_zaldN (q := 68) (j := k) hC dX10_reached_67 rfl (hL1.1 21 (by decide)) rfl (by omega) (by decide) ?_
              rw [hT k (by omega)]
              refine v_if_eq (q := 71) (tgt := 74) hC dX10_reached_68 rfl (by decide) (fun h68 => ?_) (fun h68 => ?_)
              · refine v_iinc (q := 77) (v := 1) (L' := [_, _, _, _, _]) hC dX10_reached_74 rfl rfl (by decide) (by decide) rfl rfl ?_
                refine v_goto (q := 54) hC dX10_reached_77 (by decide) ?_
                rw [nI_1 k]
                exact ih (k + 1) _ (by first | exact pCnt_t (by simpa [zb_eq0] using h68) | exact pCnt_f (by simpa [zb_eq0] using h68)) (by omega)
              · refine v_iinc (q := 74) (v := 1) (L' := [_, _, _, _, _]) hC dX10_reached_71 rfl rfl (by decide) (by decide) rfl rfl ?_
                refine v_iinc (q := 77) (v := 1) (L' := [_, _, _, _, _]) hC dX10_reached_74 rfl rfl (by decide) (by decide) rfl rfl ?_
                refine v_goto (q := 54) hC dX10_reached_77 (by decide) ?_
                rw [nI_1 k]
                exact ih (k + 1) _ (by first | exact pCnt_t (by simpa [zb_eq0] using h68) | exact pCnt_f (by simpa [zb_eq0] using h68)) (by omega)
        exact lpC 6 0 _ rfl (by omega)
      · exact absurd (nI_lt (a := 8) (b := k + 1) (by omega) (by omega)) h32
    | succ rb ih =>
      intro k σ1 a b o4 hk hS hw1 ha hT
      obtain ⟨hL1, hn1, hp1⟩ := zEnv3 hL hn hp hS (by decide) (by decide)
      refine v_iload_n (q := 30) hC dX10_reached_29 rfl rfl rfl ?_
      refine v_bipush (q := 32) (v := 8) hC dX10_reached_30 rfl (by decide) ?_
      refine v_icmp_gt (q := 35) (tgt := 49) hC dX10_reached_32 rfl (by decide) (fun h32 => ?_) (fun h32 => ?_)
      · exact absurd h32 (nI_nlt (a := 8) (b := k + 1) (by omega) (by omega))
      · refine v_aload_n (q := 36) hC dX10_reached_35 rfl rfl rfl ?_
        refine v_callVQ (q := 39) (As := []) hC dX10_reached_36 rfl lX10_75 mX10_touchEnds iX10_touchEnds eX10_touchEnds rfl (hL1.1 17 (by decide)) (ct_X10_touchEnds (d + 0) hL1 hn1 hn6 hw1 (pRow_lt k) ha hT) rfl rfl (by omega) (by decide) (Nat.le_of_ble_eq_true rfl) ?_
        rintro _ σ2 ⟨rfl, hS2, hT2⟩
        obtain ⟨hL2, hn2, hp2⟩ := zEnv3 hL1 hn1 hp1 hS2 (by decide) (by decide)
        refine v_aload_n (q := 40) hC dX10_reached_39 rfl rfl rfl ?_
        refine v_callVQ (q := 43) (As := []) hC dX10_reached_40 rfl lX10_72 mX10_doNext iX10_doNext eX10_doNext rfl (hL2.1 17 (by decide)) (ct_X10_doNext (d + 0) hL2 hn2 hn6 hp2 (hw1.same hS2 (by simp)) (pRow_lt k) (ha.same hS2 (by have := hw1.2; simp; omega))) rfl rfl (by omega) (by decide) (Nat.le_of_ble_eq_true rfl) ?_
        rintro _ σ3 ⟨rfl, hS3, hw3, ha3⟩
        refine v_iinc (q := 46) (v := 1) (L' := [_, _, _, _, _]) hC dX10_reached_43 rfl rfl (by decide) (by decide) rfl rfl ?_
        refine v_goto (q := 29) hC dX10_reached_46 (by decide) ?_
        rw [nI_1 (k + 1)]
        refine ih (k + 1) σ3 b a _ (by omega) ((hS.tr (hS2.mono (by simp) (by simp))).tr (hS3.mono (by simp) (by simp))) hw3 ha3 (fun w hw => ?_)
        rw [hS3.2.2.2 21 (by decide), hT2 w hw]
        congr 1
        exact (pFst_or k).symm
  have lpA : ∀ (ra : Nat) (k : Nat) (σ1 : zSt), k + ra = 6 → zSame [21] [] σ σ1 → (∀ w, w < k → zI σ1 21 w = 0) → zV X 5 2 [some (.ref 17), some (.int (nI i)), some (.int (nI h0)), some (.int (nI k)), none] [] 0 0 σ1 := by
    intro ra
    induction ra with
    | zero =>
      intro k σ1 hk hS hz
      obtain ⟨hL1, hn1, hp1⟩ := zEnv3 hL hn hp hS (by decide) (by decide)
      refine v_iload_n (q := 3) hC dX10_reached_2 rfl rfl rfl ?_
      refine v_bipush (q := 5) (v := 6) hC dX10_reached_3 rfl (by decide) ?_
      refine v_icmp_ge (q := 8) (tgt := 21) hC dX10_reached_5 rfl (by decide) (fun h5 => ?_) (fun h5 => ?_)
      · refine v_aload_n (q := 22) hC dX10_reached_21 rfl rfl rfl ?_
        refine v_iload_n (q := 23) hC dX10_reached_22 rfl rfl rfl ?_
        refine v_iload_n (q := 24) hC dX10_reached_23 rfl rfl rfl ?_
        refine v_callVQ (q := 27) (As := [_, _]) hC dX10_reached_24 rfl lX10_64 mX10_doFirst iX10_doFirst eX10_doFirst rfl (hL1.1 17 (by decide)) (ct_X10_doFirst (d + 1) hL1 hn1 hn6 hp1 (hw.same hS (by simp)) hi hh0) rfl rfl (by omega) (by decide) (Nat.le_of_ble_eq_true rfl) ?_
        rintro _ σ0 ⟨rfl, hS0, hw0, ha0⟩
        refine v_iconst (q := 28) (v := 1) hC dX10_reached_27 rfl (by decide) ?_
        refine v_istore_n (q := 29) (L' := [_, _, _, _, _]) hC dX10_reached_28 rfl rfl (by decide) rfl rfl ?_
        exact lpB 8 0 σ0 b a _ (by omega) ((hS.mono (by simp) (by simp)).tr (hS0.mono (by simp) (by simp))) hw0 ha0 (fun w hw => by rw [hS0.2.2.2 21 (by decide), hz w (by omega)]; rfl)
      · exact absurd (nI_le (a := 6) (b := k) (by omega) (by omega)) h5
    | succ ra ih =>
      intro k σ1 hk hS hz
      obtain ⟨hL1, hn1, hp1⟩ := zEnv3 hL hn hp hS (by decide) (by decide)
      refine v_iload_n (q := 3) hC dX10_reached_2 rfl rfl rfl ?_
      refine v_bipush (q := 5) (v := 6) hC dX10_reached_3 rfl (by decide) ?_
      refine v_icmp_ge (q := 8) (tgt := 21) hC dX10_reached_5 rfl (by decide) (fun h5 => ?_) (fun h5 => ?_)
      · exact absurd h5 (nI_ge (a := k) (b := 6) (by omega) (by omega))
      · refine v_aload_n (q := 9) hC dX10_reached_8 rfl rfl rfl ?_
        refine v_getR (q := 12) (r := 21) hC dX10_reached_9 rfl fX10_18 (hL1.1 17 (by decide)) (hL1.2 17 3 21 rfl) ?_
        refine v_iload_n (q := 13) hC dX10_reached_12 rfl rfl rfl ?_
        refine v_iconst (q := 14) (v := 0) hC dX10_reached_13 rfl (by decide) ?_
        refine v_zastN (q := 15) (j := k) hC dX10_reached_14 rfl (hL1.1 21 (by decide)) rfl (by omega) (by decide) (by first | exact Or.inl rfl | exact Or.inr rfl | exact zb_01 _) ?_
        refine v_iinc (q := 18) (v := 1) (L' := [_, _, _, _, _]) hC dX10_reached_15 rfl rfl (by decide) (by decide) rfl rfl ?_
        refine v_goto (q := 2) hC dX10_reached_18 (by decide) ?_
        rw [nI_1 k]
        exact ih (k + 1) _ (by omega) (hS.addI (by simp)) (fun w hw => by rw [zI_sI]; split <;> first | rfl | exact hz w (by omega))
  refine v_iconst (q := 1) (v := 0) hC dX10_reached_0 rfl (by decide) ?_
  refine v_istore_n (q := 2) (L' := [_, _, _, _, _]) hC dX10_reached_1 rfl rfl (by decide) rfl rfl ?_
  exact lpA 6 0 σ (by omega) zSame.rf (fun w hw => absurd hw (by omega))

/-- were w a miser; had x and y met -/
def gvM (gv : Nat → Nat → Bool) (w a b : Nat) : Bool := !decide (a = w) && gv a b
def gvT (kd : Nat → Nat) (gv : Nat → Nat → Bool) (x y a b : Nat) : Bool := if a = y ∧ b = x then !pIs 1 (kd y) else if a = x ∧ b = y then !pIs 1 (kd x) else gv a b
abbrev pG (kd : Nat → Nat) (kin met : Nat → Nat → Bool) := pGv kd kin met
/-- what the class's searches leave as it was -/
def zWy (σ σ' : zSt) (n : Nat) (kd : Nat → Nat) (kin met : Nat → Nat → Bool) : Prop := zSame [15, 16, 19, 20, 21] [18] σ σ' ∧ zSp σ' n (pGv kd kin met) (pSn kin) ∧ ∃ a b, zRb σ' 18 a b
theorem pSh_lt {n : Nat} {gv sn : Nat → Nat → Bool} {i h0 p k : Nat} (h : pSh n gv sn i h0 p = some k) : k < 8 := (pFst_some h).1
theorem zsh1 {n : Nat} {gv sn : Nat → Nat → Bool} {i h0 p : Nat} : zo ((pSh n gv sn i h0 p).map (· + 1)) = -1 ↔ pSh n gv sn i h0 p = none := by
  cases e : pSh n gv sn i h0 p with
  | none => simp [zo]
  | some k => simp [zo]; exact nI_m1 (by have := pSh_lt e; omega)

set_option maxRecDepth 100000 in
set_option maxHeartbeats 4000000 in
theorem ct_X10_isBar (d : Nat) {σ : zSt} (hL : zLay σ) {n : Nat} {kd : Nat → Nat} {kin met : Nat → Nat → Bool} {t : Nat} (hF : zFk σ n kd kin met t) (hp : zSp σ n (pGv kd kin met) (pSn kin)) {a b : Nat} (hw : zRb σ 18 a b) {x i h0 p : Nat} (hx : x < n) (hi : i < n) (hh0 : h0 < n) (hpn : p < n) : zCt (d + 4) MX10_isBar [.ref 17, .int (nI x), .int (nI i), .int (nI h0), .int (nI p)] σ (zQb fun r σ' => r = decide (pSh n (gvM (pGv kd kin met) x) (pSn kin) i h0 p = none) ∧ zWy σ σ' n kd kin met) := by
  refine zCt.of (L := [some (.ref 17), some (.int (nI x)), some (.int (nI i)), some (.int (nI h0)), some (.int (nI p)), none]) (by decide) (Nat.le_of_ble_eq_true rfl) rfl (fun X hC hB => ?_)
  have hC : zC X RX10 cX10_isBar 6 (d + 4) 0 0 := hC
  have hB : zB X (some .boolean) 0 0 "isBar" σ _ := hB
  show zV X 6 0 [some (.ref 17), some (.int (nI x)), some (.int (nI i)), some (.int (nI h0)), some (.int (nI p)), none] [] 0 0 σ
  have hn6 := hF.2.1
  refine v_aload_n (q := 1) hC dX10_isBar_0 rfl rfl rfl ?_
  refine v_getR (q := 4) (r := 14) hC dX10_isBar_1 rfl fX10_26 (hL.1 17 (by decide)) (hL.2 17 1 14 rfl) ?_
  refine v_iload_n (q := 5) hC dX10_isBar_4 rfl rfl rfl ?_
  refine v_callVQ (q := 8) (As := [_]) hC dX10_isBar_5 rfl lX10_86 mX8_supposeMiser iX8_supposeMiser eX8_supposeMiser rfl (hL.1 14 (by decide)) (ct_X8_supposeMiser (d + 2) hL hF.1 hn6 hx) rfl rfl (by omega) (by decide) (Nat.le_of_ble_eq_true rfl) ?_
  rintro _ σ1 ⟨rfl, hS1, g1⟩
  have hL1 := hL.same hS1 rfl
  have hF1 := hF.same hS1 rfl
  have hp1 : zSp σ1 n (gvM (pGv kd kin met) x) (pSn kin) := fun a b ha hb => ⟨by rw [g1 a b ha hb]; unfold gvM; by_cases e : a = x <;> simp [e, zb_f, (hp a b ha hb).1], by rw [hS1.2.2.2 16 (by decide)]; exact (hp a b ha hb).2⟩
  refine v_aload_n (q := 9) hC dX10_isBar_8 rfl rfl rfl ?_
  refine v_iload_n (q := 10) hC dX10_isBar_9 rfl rfl rfl ?_
  refine v_iload_n (q := 11) hC dX10_isBar_10 rfl rfl rfl ?_
  refine v_iload (q := 13) hC dX10_isBar_11 rfl rfl ?_
  refine v_callVQ (q := 16) (As := [_, _, _]) hC dX10_isBar_13 rfl lX10_78 mX10_shortest iX10_shortest eX10_shortest rfl (hL1.1 17 (by decide)) (ct_X10_shortest d hL1 hF1.1 hn6 hp1 (hw.same hS1 (by simp)) hi hh0 hpn) rfl rfl (by omega) (by decide) (Nat.le_of_ble_eq_true rfl) ?_
  rintro _ σ2 ⟨rfl, hS2, g2, a2, b2, hw2⟩
  have hL2 := hL1.same hS2 (by decide)
  have hF2 := hF1.same hS2 (by decide)
  refine v_istore (q := 18) (L' := [_, _, _, _, _, _]) hC dX10_isBar_16 rfl (by decide) rfl rfl ?_
  refine v_aload_n (q := 19) hC dX10_isBar_18 rfl rfl rfl ?_
  refine v_getR (q := 22) (r := 14) hC dX10_isBar_19 rfl fX10_26 (hL2.1 17 (by decide)) (hL2.2 17 1 14 rfl) ?_
  refine v_callVQ (q := 25) (As := []) hC dX10_isBar_22 rfl lX10_89 mX8_supposeNothing iX8_supposeNothing eX8_supposeNothing rfl (hL2.1 14 (by decide)) (ct_X8_supposeNothing (d + 1) hL2 hF2) rfl rfl (by omega) (by decide) (Nat.le_of_ble_eq_true rfl) ?_
  rintro _ σ3 ⟨rfl, hS3, hp3⟩
  refine v_iload (q := 27) hC dX10_isBar_25 rfl rfl ?_
  refine v_iconst (q := 28) (v := -1) hC dX10_isBar_27 rfl (by decide) ?_
  refine v_icmp_ne (q := 31) (tgt := 35) hC dX10_isBar_28 rfl (by decide) (fun h28 => ?_) (fun h28 => ?_)
  · refine v_iconst (q := 36) (v := 0) hC dX10_isBar_35 rfl (by decide) ?_
    refine v_zreturn hC hB dX10_isBar_36 ⟨Nat.le_refl _, Nat.le_refl _⟩ (by first | exact Or.inl rfl | exact Or.inr rfl | exact zb_01 _) ?_
    have hW : zWy σ σ3 n kd kin met := ⟨((hS1.mono (by simp) (by simp)).tr (hS2.mono (by simp) (by simp))).tr (hS3.mono (by simp) (by simp)), hp3, a2, b2, hw2.same hS3 (by simp)⟩
    rw [zsh1] at h28
    first | exact ⟨true, rfl, (decide_eq_true h28).symm, hW⟩ | exact ⟨false, rfl, (decide_eq_false h28).symm, hW⟩
  · refine v_iconst (q := 32) (v := 1) hC dX10_isBar_31 rfl (by decide) ?_
    refine v_goto (q := 36) hC dX10_isBar_32 (by decide) ?_
    refine v_zreturn hC hB dX10_isBar_36 ⟨Nat.le_refl _, Nat.le_refl _⟩ (by first | exact Or.inl rfl | exact Or.inr rfl | exact zb_01 _) ?_
    have hW : zWy σ σ3 n kd kin met := ⟨((hS1.mono (by simp) (by simp)).tr (hS2.mono (by simp) (by simp))).tr (hS3.mono (by simp) (by simp)), hp3, a2, b2, hw2.same hS3 (by simp)⟩
    rw [zsh1] at h28
    first | exact ⟨true, rfl, (decide_eq_true h28).symm, hW⟩ | exact ⟨false, rfl, (decide_eq_false h28).symm, hW⟩

theorem zWy.env {σ σ1 : zSt} {n : Nat} {kd : Nat → Nat} {kin met : Nat → Nat → Bool} {t : Nat} (hL : zLay σ) (hF : zFk σ n kd kin met t) (h : zWy σ σ1 n kd kin met) : zLay σ1 ∧ zFk σ1 n kd kin met t := ⟨hL.same h.1 (by decide), hF.same h.1 (by decide)⟩
theorem zWy.tr {σ σ1 σ2 : zSt} {n : Nat} {kd : Nat → Nat} {kin met : Nat → Nat → Bool} (h : zWy σ σ1 n kd kin met) (h' : zWy σ1 σ2 n kd kin met) : zWy σ σ2 n kd kin met := ⟨h.1.tr h'.1, h'.2⟩
def pBr (n : Nat) (gv sn : Nat → Nat → Bool) (i h0 p w : Nat) : Bool := !decide (w = p) && !decide (w = h0) && decide (pSh n (gvM gv w) sn i h0 p = none)

set_option maxRecDepth 100000 in
set_option maxHeartbeats 4000000 in
theorem ct_X10_leastBar (d : Nat) {σ : zSt} (hL : zLay σ) {n : Nat} {kd : Nat → Nat} {kin met : Nat → Nat → Bool} {t : Nat} (hF : zFk σ n kd kin met t) (hp : zSp σ n (pGv kd kin met) (pSn kin)) {a b : Nat} (hw : zRb σ 18 a b) {i h0 p : Nat} (hi : i < n) (hh0 : h0 < n) (hpn : p < n) : zCt (d + 5) MX10_leastBar [.ref 17, .int (nI i), .int (nI h0), .int (nI p)] σ (fun r σ' => r = some (.int (zo (if pSh n (pGv kd kin met) (pSn kin) i h0 p = none then none else pFst (pBr n (pGv kd kin met) (pSn kin) i h0 p) n))) ∧ zWy σ σ' n kd kin met) := by
  refine zCt.of (L := [some (.ref 17), some (.int (nI i)), some (.int (nI h0)), some (.int (nI p)), none]) (by decide) (Nat.le_of_ble_eq_true rfl) rfl (fun X hC hB => ?_)
  have hC : zC X RX10 cX10_leastBar 5 (d + 5) 0 0 := hC
  have hB : zB X (some .int) 0 0 "leastBar" σ _ := hB
  show zV X 5 0 [some (.ref 17), some (.int (nI i)), some (.int (nI h0)), some (.int (nI p)), none] [] 0 0 σ
  have hn6 := hF.2.1
  refine v_aload_n (q := 1) hC dX10_leastBar_0 rfl rfl rfl ?_
  refine v_iload_n (q := 2) hC dX10_leastBar_1 rfl rfl rfl ?_
  refine v_iload_n (q := 3) hC dX10_leastBar_2 rfl rfl rfl ?_
  refine v_iload_n (q := 4) hC dX10_leastBar_3 rfl rfl rfl ?_
  refine v_callVQ (q := 7) (As := [_, _, _]) hC dX10_leastBar_4 rfl lX10_78 mX10_shortest iX10_shortest eX10_shortest rfl (hL.1 17 (by decide)) (ct_X10_shortest (d + 1) hL hF.1 hn6 hp hw hi hh0 hpn) rfl rfl (by omega) (by decide) (Nat.le_of_ble_eq_true rfl) ?_
  rintro _ σ0 ⟨rfl, hS0, g0, a0, b0, hw0⟩
  have hW0 : zWy σ σ0 n kd kin met := ⟨hS0.mono (by simp) (by simp), hp.same hS0 (by decide), a0, b0, hw0⟩
  refine v_iconst (q := 8) (v := -1) hC dX10_leastBar_7 rfl (by decide) ?_
  refine v_icmp_ne (q := 11) (tgt := 13) hC dX10_leastBar_8 rfl (by decide) (fun h8 => ?_) (fun h8 => ?_)
  · have hsh : ¬ pSh n (pGv kd kin met) (pSn kin) i h0 p = none := fun z => h8 (zsh1.mpr z)
    refine v_iconst (q := 14) (v := 0) hC dX10_leastBar_13 rfl (by decide) ?_
    refine v_istore (q := 16) (L' := [_, _, _, _, _]) hC dX10_leastBar_14 rfl (by decide) rfl rfl ?_
    have lp : ∀ (r : Nat) (k : Nat) (σ1 : zSt), k + r = n → zWy σ σ1 n kd kin met → pFst (pBr n (pGv kd kin met) (pSn kin) i h0 p) k = none → zV X 5 16 [some (.ref 17), some (.int (nI i)), some (.int (nI h0)), some (.int (nI p)), some (.int (nI k))] [] 0 0 σ1 := by
      intro r
      induction r with
      | zero =>
        intro k σ1 hk hW hf
        obtain ⟨hL1, hF1⟩ := hW.env hL hF
        have hn1 := hF1.1
        obtain ⟨a1, b1, hw1⟩ := hW.2.2
        refine v_iload (q := 18) hC dX10_leastBar_16 rfl rfl ?_
        refine v_aload_n (q := 19) hC dX10_leastBar_18 rfl rfl rfl ?_
        refine v_getR (q := 22) (r := 8) hC dX10_leastBar_19 rfl fX10_22 (hL1.1 17 (by decide)) (hL1.2 17 0 8 rfl) ?_
        refine v_getI (q := 25) hC dX10_leastBar_22 rfl fX10_34 (hL1.1 8 (by decide)) ?_
        rw [hn1]
        refine v_icmp_ge (q := 28) (tgt := 61) hC dX10_leastBar_25 rfl (by decide) (fun h25 => ?_) (fun h25 => ?_)
        · refine v_iconst (q := 62) (v := -1) hC dX10_leastBar_61 rfl (by decide) ?_
          refine v_ireturn hC hB dX10_leastBar_62 ⟨Nat.le_refl _, Nat.le_refl _⟩ ?_
          have e : k = n := by omega
          subst e
          rw [if_neg hsh, hf]
          exact ⟨rfl, hW⟩
        · exact absurd (nI_le (a := n) (b := k) (by omega) (by omega)) h25
      | succ r ih =>
        intro k σ1 hk hW hf
        obtain ⟨hL1, hF1⟩ := hW.env hL hF
        have hn1 := hF1.1
        obtain ⟨a1, b1, hw1⟩ := hW.2.2
        refine v_iload (q := 18) hC dX10_leastBar_16 rfl rfl ?_
        refine v_aload_n (q := 19) hC dX10_leastBar_18 rfl rfl rfl ?_
        refine v_getR (q := 22) (r := 8) hC dX10_leastBar_19 rfl fX10_22 (hL1.1 17 (by decide)) (hL1.2 17 0 8 rfl) ?_
        refine v_getI (q := 25) hC dX10_leastBar_22 rfl fX10_34 (hL1.1 8 (by decide)) ?_
        rw [hn1]
        refine v_icmp_ge (q := 28) (tgt := 61) hC dX10_leastBar_25 rfl (by decide) (fun h25 => ?_) (fun h25 => ?_)
        · exact absurd h25 (nI_ge (a := k) (b := n) (by omega) (by omega))
        · have hkn : k < n := by omega
          have c1 : nI k = nI p ↔ k = p := nI_eq (by omega) (by omega)
          have c2 : nI k = nI h0 ↔ k = h0 := nI_eq (by omega) (by omega)
          refine v_iload (q := 30) hC dX10_leastBar_28 rfl rfl ?_
          refine v_iload_n (q := 31) hC dX10_leastBar_30 rfl rfl rfl ?_
          refine v_icmp_eq (q := 34) (tgt := 55) hC dX10_leastBar_31 rfl (by decide) (fun h31 => ?_) (fun h31 => ?_)
          · refine v_iinc (q := 58) (v := 1) (L' := [_, _, _, _, _]) hC dX10_leastBar_55 rfl rfl (by decide) (by decide) rfl rfl ?_
            refine v_goto (q := 16) hC dX10_leastBar_58 (by decide) ?_
            rw [nI_1 k]
            first
              | exact ih (k + 1) _ (by omega) (hW.tr hW2) (pFst_f hf (by unfold pBr; rw [← hbb, zb_eq0.mp h49]; simp))
              | exact ih (k + 1) _ (by omega) hW (pFst_f hf (by have e := c1.mp h31; unfold pBr; simp [e]))
              | exact ih (k + 1) _ (by omega) hW (pFst_f hf (by have e := c2.mp h37; unfold pBr; simp [e]))
          · refine v_iload (q := 36) hC dX10_leastBar_34 rfl rfl ?_
            refine v_iload_n (q := 37) hC dX10_leastBar_36 rfl rfl rfl ?_
            refine v_icmp_eq (q := 40) (tgt := 55) hC dX10_leastBar_37 rfl (by decide) (fun h37 => ?_) (fun h37 => ?_)
            · refine v_iinc (q := 58) (v := 1) (L' := [_, _, _, _, _]) hC dX10_leastBar_55 rfl rfl (by decide) (by decide) rfl rfl ?_
              refine v_goto (q := 16) hC dX10_leastBar_58 (by decide) ?_
              rw [nI_1 k]
              first
                | exact ih (k + 1) _ (by omega) (hW.tr hW2) (pFst_f hf (by unfold pBr; rw [← hbb, zb_eq0.mp h49]; simp))
                | exact ih (k + 1) _ (by omega) hW (pFst_f hf (by have e := c1.mp h31; unfold pBr; simp [e]))
                | exact ih (k + 1) _ (by omega) hW (pFst_f hf (by have e := c2.mp h37; unfold pBr; simp [e]))
            · refine v_aload_n (q := 41) hC dX10_leastBar_40 rfl rfl rfl ?_
              refine v_iload (q := 43) hC dX10_leastBar_41 rfl rfl ?_
              refine v_iload_n (q := 44) hC dX10_leastBar_43 rfl rfl rfl ?_
              refine v_iload_n (q := 45) hC dX10_leastBar_44 rfl rfl rfl ?_
              refine v_iload_n (q := 46) hC dX10_leastBar_45 rfl rfl rfl ?_
              refine v_callVQ (q := 49) (As := [_, _, _, _]) hC dX10_leastBar_46 rfl lX10_82 mX10_isBar iX10_isBar eX10_isBar rfl (hL1.1 17 (by decide)) (ct_X10_isBar d hL1 hF1 hW.2.1 hw1 hkn hi hh0 hpn) rfl rfl (by omega) (by decide) (Nat.le_of_ble_eq_true rfl) ?_
              rintro _ σ2 ⟨bb, rfl, hbb, hW2⟩
              refine v_if_eq (q := 52) (tgt := 55) hC dX10_leastBar_49 rfl (by decide) (fun h49 => ?_) (fun h49 => ?_)
              · refine v_iinc (q := 58) (v := 1) (L' := [_, _, _, _, _]) hC dX10_leastBar_55 rfl rfl (by decide) (by decide) rfl rfl ?_
                refine v_goto (q := 16) hC dX10_leastBar_58 (by decide) ?_
                rw [nI_1 k]
                first
                  | exact ih (k + 1) _ (by omega) (hW.tr hW2) (pFst_f hf (by unfold pBr; rw [← hbb, zb_eq0.mp h49]; simp))
                  | exact ih (k + 1) _ (by omega) hW (pFst_f hf (by have e := c1.mp h31; unfold pBr; simp [e]))
                  | exact ih (k + 1) _ (by omega) hW (pFst_f hf (by have e := c2.mp h37; unfold pBr; simp [e]))
              · refine v_iload (q := 54) hC dX10_leastBar_52 rfl rfl ?_
                refine v_ireturn hC hB dX10_leastBar_54 ⟨Nat.le_refl _, Nat.le_refl _⟩ ?_
                have hbt : bb = true := by simpa [zb_eq0] using h49
                have n1 : ¬ k = p := fun z => h31 (c1.mpr z)
                have n2 : ¬ k = h0 := fun z => h37 (c2.mpr z)
                rw [if_neg hsh, pFst_at hf (by unfold pBr; rw [← hbb, hbt]; simp [n1, n2]) hkn]
                exact ⟨rfl, hW.tr hW2⟩
    exact lp n 0 σ0 (by omega) hW0 rfl
  · refine v_iconst (q := 12) (v := -1) hC dX10_leastBar_11 rfl (by decide) ?_
    refine v_ireturn hC hB dX10_leastBar_12 ⟨Nat.le_refl _, Nat.le_refl _⟩ ?_
    rw [if_pos (zsh1.mp (by simpa using h8))]
    exact ⟨rfl, hW0⟩

set_option maxRecDepth 100000 in
set_option maxHeartbeats 4000000 in
theorem ct_X10_shortestHadMet (d : Nat) {σ : zSt} (hL : zLay σ) {n : Nat} {kd : Nat → Nat} {kin met : Nat → Nat → Bool} {t : Nat} (hF : zFk σ n kd kin met t) (hp : zSp σ n (pGv kd kin met) (pSn kin)) {a b : Nat} (hw : zRb σ 18 a b) {x y i h0 p : Nat} (hx : x < n) (hy : y < n) (hi : i < n) (hh0 : h0 < n) (hpn : p < n) : zCt (d + 4) MX10_shortestHadMet [.ref 17, .int (nI x), .int (nI y), .int (nI i), .int (nI h0), .int (nI p)] σ (fun r σ' => r = some (.int (zo ((pSh n (gvT kd (pGv kd kin met) x y) (pSn kin) i h0 p).map (· + 1)))) ∧ zWy σ σ' n kd kin met) := by
  refine zCt.of (L := [some (.ref 17), some (.int (nI x)), some (.int (nI y)), some (.int (nI i)), some (.int (nI h0)), some (.int (nI p)), none]) (by decide) (Nat.le_of_ble_eq_true rfl) rfl (fun X hC hB => ?_)
  have hC : zC X RX10 cX10_shortestHadMet 7 (d + 4) 0 0 := hC
  have hB : zB X (some .int) 0 0 "shortestHadMet" σ _ := hB
  show zV X 7 0 [some (.ref 17), some (.int (nI x)), some (.int (nI y)), some (.int (nI i)), some (.int (nI h0)), some (.int (nI p)), none] [] 0 0 σ
  have hn6 := hF.2.1
  refine v_aload_n (q := 1) hC dX10_shortestHadMet_0 rfl rfl rfl ?_
  refine v_getR (q := 4) (r := 14) hC dX10_shortestHadMet_1 rfl fX10_26 (hL.1 17 (by decide)) (hL.2 17 1 14 rfl) ?_
  refine v_iload_n (q := 5) hC dX10_shortestHadMet_4 rfl rfl rfl ?_
  refine v_iload_n (q := 6) hC dX10_shortestHadMet_5 rfl rfl rfl ?_
  refine v_callV0 (q := 9) (As := [_, _]) hC dX10_shortestHadMet_6 rfl lX10_100 mX8_supposeMet iX8_supposeMet eX8_supposeMet rfl (hL.1 14 (by decide)) (ct_X8_supposeMet (d + 2) hL hF hx hy) rfl rfl (by omega) rfl (Nat.le_of_ble_eq_true rfl) ?_
  have hS1 : zSame [15] [] σ (zsI (zsI σ 15 (6 * x + y) (zb (!pIs 1 (kd x)))) 15 (6 * y + x) (zb (!pIs 1 (kd y)))) := (zSame.sI (by simp)).addI (by simp)
  have hp1 : zSp (zsI (zsI σ 15 (6 * x + y) (zb (!pIs 1 (kd x)))) 15 (6 * y + x) (zb (!pIs 1 (kd y)))) n (gvT kd (pGv kd kin met) x y) (pSn kin) := fun a b ha hb => ⟨by
    unfold gvT; rw [zI_sI, zI_sI]; by_cases e1 : a = y ∧ b = x
    · rw [if_pos ⟨rfl, by omega⟩, if_pos e1]
    · rw [if_neg (by omega), if_neg e1]; by_cases e2 : a = x ∧ b = y
      · rw [if_pos ⟨rfl, by omega⟩, if_pos e2]
      · rw [if_neg (by omega), if_neg e2]; exact (hp a b ha hb).1, by rw [hS1.2.2.2 16 (by decide)]; exact (hp a b ha hb).2⟩
  generalize zsI (zsI σ 15 _ _) 15 _ _ = σ1 at hS1 hp1 ⊢
  have hL1 := hL.same hS1 rfl
  have hF1 := hF.same hS1 rfl
  refine v_aload_n (q := 10) hC dX10_shortestHadMet_9 rfl rfl rfl ?_
  refine v_iload_n (q := 11) hC dX10_shortestHadMet_10 rfl rfl rfl ?_
  refine v_iload (q := 13) hC dX10_shortestHadMet_11 rfl rfl ?_
  refine v_iload (q := 15) hC dX10_shortestHadMet_13 rfl rfl ?_
  refine v_callVQ (q := 18) (As := [_, _, _]) hC dX10_shortestHadMet_15 rfl lX10_78 mX10_shortest iX10_shortest eX10_shortest rfl (hL1.1 17 (by decide)) (ct_X10_shortest d hL1 hF1.1 hn6 hp1 (hw.same hS1 (by simp)) hi hh0 hpn) rfl rfl (by omega) (by decide) (Nat.le_of_ble_eq_true rfl) ?_
  rintro _ σ2 ⟨rfl, hS2, g2, a2, b2, hw2⟩
  have hL2 := hL1.same hS2 (by decide)
  have hF2 := hF1.same hS2 (by decide)
  refine v_istore (q := 20) (L' := [_, _, _, _, _, _, _]) hC dX10_shortestHadMet_18 rfl (by decide) rfl rfl ?_
  refine v_aload_n (q := 21) hC dX10_shortestHadMet_20 rfl rfl rfl ?_
  refine v_getR (q := 24) (r := 14) hC dX10_shortestHadMet_21 rfl fX10_26 (hL2.1 17 (by decide)) (hL2.2 17 1 14 rfl) ?_
  refine v_callVQ (q := 27) (As := []) hC dX10_shortestHadMet_24 rfl lX10_89 mX8_supposeNothing iX8_supposeNothing eX8_supposeNothing rfl (hL2.1 14 (by decide)) (ct_X8_supposeNothing (d + 1) hL2 hF2) rfl rfl (by omega) (by decide) (Nat.le_of_ble_eq_true rfl) ?_
  rintro _ σ3 ⟨rfl, hS3, hp3⟩
  refine v_iload (q := 29) hC dX10_shortestHadMet_27 rfl rfl ?_
  refine v_ireturn hC hB dX10_shortestHadMet_29 ⟨Nat.le_refl _, Nat.le_refl _⟩ ?_
  exact ⟨rfl, ((hS1.mono (by simp) (by simp)).tr (hS2.mono (by simp) (by simp))).tr (hS3.mono (by simp) (by simp)), hp3, a2, b2, hw2.same hS3 (by simp)⟩

/-- one more pair tried: the shortest way so far, the pair -/
def pMs (s : Option Nat × Option Nat) (len : Option Nat) (xy : Nat) : Option Nat × Option Nat := match len with
  | none => s
  | some l => match s.1 with
    | none => (some l, some xy)
    | some m => if l < m then (some l, some xy) else s
/-- the pairs ahead of number k, tried in order -/
def pMq (n : Nat) (K : Nat → Nat → Bool) (len : Nat → Nat → Option Nat) (l0 : Option Nat) : Nat → Option Nat × Option Nat
  | 0 => (l0, none)
  | k + 1 => if k / 6 < k % 6 ∧ k % 6 < n ∧ K (k / 6) (k % 6) = false then pMs (pMq n K len l0 k) (len (k / 6) (k % 6)) k else pMq n K len l0 k
theorem pMq_skip {n : Nat} {K : Nat → Nat → Bool} {len : Nat → Nat → Option Nat} {l0 : Option Nat} (k : Nat) : ∀ (j : Nat), (∀ q, k ≤ q → q < k + j → ¬ (q / 6 < q % 6 ∧ q % 6 < n)) → pMq n K len l0 (k + j) = pMq n K len l0 k
  | 0, _ => rfl
  | j + 1, h => by
    rw [← Nat.add_assoc]
    simp only [pMq]
    rw [if_neg (fun z => h (k + j) (by omega) (by omega) ⟨z.1, z.2.1⟩)]
    exact pMq_skip k j (fun q h1 h2 => h q h1 (by omega))
theorem pMq_at {n : Nat} {K : Nat → Nat → Bool} {len : Nat → Nat → Option Nat} {l0 : Option Nat} {x y : Nat} (hxy : x < y) (hy : y < n) (hn : n ≤ 6) : pMq n K len l0 (6 * x + (y + 1)) = if K x y = false then pMs (pMq n K len l0 (6 * x + y)) (len x y) (6 * x + y) else pMq n K len l0 (6 * x + y) := by
  rw [← Nat.add_assoc]
  simp only [pMq]
  have e1 : (6 * x + y) / 6 = x := by omega
  have e2 : (6 * x + y) % 6 = y := by omega
  rw [e1, e2]
  by_cases h : K x y = false
  · rw [if_pos ⟨hxy, hy, h⟩, if_pos h]
  · rw [if_neg (fun z => h z.2.2), if_neg h]
/-- lengths of ways are small -/
def pSm (x : Option Nat) : Prop := ∀ g, x = some g → g < 100
theorem pSm_sh {n : Nat} {gv sn : Nat → Nat → Bool} {i h0 p : Nat} : pSm ((pSh n gv sn i h0 p).map (· + 1)) := by
  intro g hg
  cases e : pSh n gv sn i h0 p with
  | none => rw [e] at hg; cases hg
  | some k => rw [e] at hg; cases hg; have := pSh_lt e; show k + 1 < 100; omega
theorem pMq_sm {n : Nat} {K : Nat → Nat → Bool} {len : Nat → Nat → Option Nat} {l0 : Option Nat} (h0 : pSm l0) (hl : ∀ x y, pSm (len x y)) : ∀ k, pSm (pMq n K len l0 k).1
  | 0 => h0
  | k + 1 => by
    have ih := pMq_sm (n := n) (K := K) h0 hl k
    simp only [pMq]
    split
    · unfold pMs
      cases e : len (k / 6) (k % 6) with
      | none => exact ih
      | some l =>
        have := hl _ _ l e
        dsimp only
        cases e2 : (pMq n K len l0 k).1 with
        | none => intro g hg; cases hg; exact this
        | some m =>
          dsimp only
          split
          · intro g hg; cases hg; exact this
          · exact ih
    · exact ih

theorem zmt0 {s : Option Nat × Option Nat} {len : Option Nat} {xy : Nat} (sl : pSm len) (sm : pSm s.1) (h : zo len = -1 ∨ (¬ zo s.1 = -1 ∧ zo s.1 ≤ zo len)) : s = pMs s len xy := by
  unfold pMs
  cases len with
  | none => rfl
  | some l =>
    have hl := sl l rfl
    rcases h with h | ⟨h1, h2⟩
    · exact absurd h (nI_m1 (by omega))
    · cases e : s.1 with
      | none => rw [e] at h1; exact absurd rfl h1
      | some m =>
        have hm := sm m e
        rw [e] at h2
        have : m ≤ l := (nI_leI (by omega) (by omega)).mp h2
        dsimp only
        rw [if_neg (by omega)]
theorem zmt1 {s : Option Nat × Option Nat} {len : Option Nat} {xy : Nat} (sl : pSm len) (sm : pSm s.1) (h0 : ¬ zo len = -1) (h : zo s.1 = -1 ∨ ¬ zo s.1 ≤ zo len) : zo len = zo (pMs s len xy).1 ∧ nI xy = zo (pMs s len xy).2 := by
  unfold pMs
  cases len with
  | none => exact absurd rfl h0
  | some l =>
    have hl := sl l rfl
    cases e : s.1 with
    | none => exact ⟨rfl, rfl⟩
    | some m =>
      have hm := sm m e
      rw [e] at h
      have : l < m := by
        rcases h with h | h
        · exact absurd h (nI_m1 (by omega))
        · exact Nat.not_le.mp (fun z => h ((nI_leI (by omega) (by omega)).mpr z))
      dsimp only
      rw [if_pos this]
      exact ⟨rfl, rfl⟩

set_option maxRecDepth 100000 in
set_option maxHeartbeats 4000000 in
theorem ct_X10_bestMeeting (d : Nat) {σ : zSt} (hL : zLay σ) {n : Nat} {kd : Nat → Nat} {kin met : Nat → Nat → Bool} {t : Nat} (hF : zFk σ n kd kin met t) (hp : zSp σ n (pGv kd kin met) (pSn kin)) {a b : Nat} (hw : zRb σ 18 a b) {i h0 p : Nat} (hi : i < n) (hh0 : h0 < n) (hpn : p < n) : zCt (d + 5) MX10_bestMeeting [.ref 17, .int (nI i), .int (nI h0), .int (nI p)] σ (fun r σ' => r = some (.int (zo (pMq n (pKn kd kin met) (fun q1 q2 => (pSh n (gvT kd (pGv kd kin met) q1 q2) (pSn kin) i h0 p).map (· + 1)) ((pSh n (pGv kd kin met) (pSn kin) i h0 p).map (· + 1)) 36).2)) ∧ zWy σ σ' n kd kin met) := by
  refine zCt.of (L := [some (.ref 17), some (.int (nI i)), some (.int (nI h0)), some (.int (nI p)), none, none, none, none, none]) (by decide) (Nat.le_of_ble_eq_true rfl) rfl (fun X hC hB => ?_)
  have hC : zC X RX10 cX10_bestMeeting 9 (d + 5) 0 0 := hC
  have hB : zB X (some .int) 0 0 "bestMeeting" σ _ := hB
  show zV X 9 0 [some (.ref 17), some (.int (nI i)), some (.int (nI h0)), some (.int (nI p)), none, none, none, none, none] [] 0 0 σ
  have hn6 := hF.2.1
  have lp : ∀ (ro : Nat) (x : Nat) (l4 l5 : Int32) (o7 o8 : Option Value) (σ1 : zSt), x + ro = n → zWy σ σ1 n kd kin met → l4 = zo (pMq n (pKn kd kin met) (fun q1 q2 => (pSh n (gvT kd (pGv kd kin met) q1 q2) (pSn kin) i h0 p).map (· + 1)) ((pSh n (pGv kd kin met) (pSn kin) i h0 p).map (· + 1)) (6 * x)).1 → l5 = zo (pMq n (pKn kd kin met) (fun q1 q2 => (pSh n (gvT kd (pGv kd kin met) q1 q2) (pSn kin) i h0 p).map (· + 1)) ((pSh n (pGv kd kin met) (pSn kin) i h0 p).map (· + 1)) (6 * x)).2 → zV X 9 15 [some (.ref 17), some (.int (nI i)), some (.int (nI h0)), some (.int (nI p)), some (.int l4), some (.int l5), some (.int (nI x)), o7, o8] [] 0 0 σ1 := by
    intro ro
    induction ro with
    | zero =>
      intro x l4 l5 o7 o8 σ1 hx hW e4 e5
      obtain ⟨hL1, hF1⟩ := hW.env hL hF
      have hn1 := hF1.1
      obtain ⟨a1, b1, hw1⟩ := hW.2.2
      refine v_iload (q := 17) hC dX10_bestMeeting_15 rfl rfl ?_
      refine v_aload_n (q := 18) hC dX10_bestMeeting_17 rfl rfl rfl ?_
      refine v_getR (q := 21) (r := 8) hC dX10_bestMeeting_18 rfl fX10_22 (hL1.1 17 (by decide)) (hL1.2 17 0 8 rfl) ?_
      refine v_getI (q := 24) hC dX10_bestMeeting_21 rfl fX10_34 (hL1.1 8 (by decide)) ?_
      rw [hn1]
      refine v_icmp_ge (q := 27) (tgt := 120) hC dX10_bestMeeting_24 rfl (by decide) (fun h24 => ?_) (fun h24 => ?_)
      · refine v_iload (q := 122) hC dX10_bestMeeting_120 rfl rfl ?_
        refine v_ireturn hC hB dX10_bestMeeting_122 ⟨Nat.le_refl _, Nat.le_refl _⟩ ?_
        have e : x = n := by omega
        subst e
        have sk := pMq_skip (n := x) (K := pKn kd kin met) (len := (fun q1 q2 => (pSh x (gvT kd (pGv kd kin met) q1 q2) (pSn kin) i h0 p).map (· + 1))) (l0 := (pSh x (pGv kd kin met) (pSn kin) i h0 p).map (· + 1)) (6 * x) (36 - 6 * x) (fun q h1 h2 => by omega)
        rw [show 6 * x + (36 - 6 * x) = 36 by omega] at sk
        rw [sk, ← e5]
        exact ⟨rfl, hW⟩
      · exact absurd (nI_le (a := n) (b := x) (by omega) (by omega)) h24
    | succ ro ih =>
      intro x l4 l5 o7 o8 σ1 hx hW e4 e5
      obtain ⟨hL1, hF1⟩ := hW.env hL hF
      have hn1 := hF1.1
      obtain ⟨a1, b1, hw1⟩ := hW.2.2
      refine v_iload (q := 17) hC dX10_bestMeeting_15 rfl rfl ?_
      refine v_aload_n (q := 18) hC dX10_bestMeeting_17 rfl rfl rfl ?_
      refine v_getR (q := 21) (r := 8) hC dX10_bestMeeting_18 rfl fX10_22 (hL1.1 17 (by decide)) (hL1.2 17 0 8 rfl) ?_
      refine v_getI (q := 24) hC dX10_bestMeeting_21 rfl fX10_34 (hL1.1 8 (by decide)) ?_
      rw [hn1]
      refine v_icmp_ge (q := 27) (tgt := 120) hC dX10_bestMeeting_24 rfl (by decide) (fun h24 => ?_) (fun h24 => ?_)
      · exact absurd h24 (nI_ge (a := x) (b := n) (by omega) (by omega))
      · refine v_iload (q := 29) hC dX10_bestMeeting_27 rfl rfl ?_
        refine v_iconst (q := 30) (v := 1) hC dX10_bestMeeting_29 rfl (by decide) ?_
        refine v_iadd (q := 31) hC dX10_bestMeeting_30 rfl ?_
        refine v_istore (q := 33) (L' := [_, _, _, _, _, _, _, _, _]) hC dX10_bestMeeting_31 rfl (by decide) rfl rfl ?_
        rw [nI_1 x]
        have iho := ih
        have lp2 : ∀ (r : Nat) (y : Nat) (l4 l5 : Int32) (o8 : Option Value) (σ1 : zSt), y + r = n → x < y → zWy σ σ1 n kd kin met → l4 = zo (pMq n (pKn kd kin met) (fun q1 q2 => (pSh n (gvT kd (pGv kd kin met) q1 q2) (pSn kin) i h0 p).map (· + 1)) ((pSh n (pGv kd kin met) (pSn kin) i h0 p).map (· + 1)) (6 * x + y)).1 → l5 = zo (pMq n (pKn kd kin met) (fun q1 q2 => (pSh n (gvT kd (pGv kd kin met) q1 q2) (pSn kin) i h0 p).map (· + 1)) ((pSh n (pGv kd kin met) (pSn kin) i h0 p).map (· + 1)) (6 * x + y)).2 → zV X 9 33 [some (.ref 17), some (.int (nI i)), some (.int (nI h0)), some (.int (nI p)), some (.int l4), some (.int l5), some (.int (nI x)), some (.int (nI y)), o8] [] 0 0 σ1 := by
          intro r
          induction r with
          | zero =>
            intro y l4 l5 o8 σ1 hy hxy hW e4 e5
            obtain ⟨hL1, hF1⟩ := hW.env hL hF
            have hn1 := hF1.1
            obtain ⟨a1, b1, hw1⟩ := hW.2.2
            refine v_iload (q := 35) hC dX10_bestMeeting_33 rfl rfl ?_
            refine v_aload_n (q := 36) hC dX10_bestMeeting_35 rfl rfl rfl ?_
            refine v_getR (q := 39) (r := 8) hC dX10_bestMeeting_36 rfl fX10_22 (hL1.1 17 (by decide)) (hL1.2 17 0 8 rfl) ?_
            refine v_getI (q := 42) hC dX10_bestMeeting_39 rfl fX10_34 (hL1.1 8 (by decide)) ?_
            rw [hn1]
            refine v_icmp_ge (q := 45) (tgt := 114) hC dX10_bestMeeting_42 rfl (by decide) (fun h42 => ?_) (fun h42 => ?_)
            · refine v_iinc (q := 117) (v := 1) (L' := [_, _, _, _, _, _, _, _, _]) hC dX10_bestMeeting_114 rfl rfl (by decide) (by decide) rfl rfl ?_
              refine v_goto (q := 15) hC dX10_bestMeeting_117 (by decide) ?_
              rw [nI_1 x]
              have e : y = n := by omega
              subst e
              have sk := pMq_skip (n := y) (K := pKn kd kin met) (len := (fun q1 q2 => (pSh y (gvT kd (pGv kd kin met) q1 q2) (pSn kin) i h0 p).map (· + 1))) (l0 := (pSh y (pGv kd kin met) (pSn kin) i h0 p).map (· + 1)) (6 * x + y) (6 - y) (fun q h1 h2 => by omega)
              rw [show 6 * x + y + (6 - y) = 6 * (x + 1) by omega] at sk
              exact iho (x + 1) _ _ _ _ _ (by omega) hW (by rw [sk]; exact e4) (by rw [sk]; exact e5)
            · exact absurd (nI_le (a := n) (b := y) (by omega) (by omega)) h42
          | succ r ih =>
            intro y l4 l5 o8 σ1 hy hxy hW e4 e5
            obtain ⟨hL1, hF1⟩ := hW.env hL hF
            have hn1 := hF1.1
            obtain ⟨a1, b1, hw1⟩ := hW.2.2
            refine v_iload (q := 35) hC dX10_bestMeeting_33 rfl rfl ?_
            refine v_aload_n (q := 36) hC dX10_bestMeeting_35 rfl rfl rfl ?_
            refine v_getR (q := 39) (r := 8) hC dX10_bestMeeting_36 rfl fX10_22 (hL1.1 17 (by decide)) (hL1.2 17 0 8 rfl) ?_
            refine v_getI (q := 42) hC dX10_bestMeeting_39 rfl fX10_34 (hL1.1 8 (by decide)) ?_
            rw [hn1]
            refine v_icmp_ge (q := 45) (tgt := 114) hC dX10_bestMeeting_42 rfl (by decide) (fun h42 => ?_) (fun h42 => ?_)
            · exact absurd h42 (nI_ge (a := y) (b := n) (by omega) (by omega))
            · have hyn : y < n := by omega
              have hxn : x < n := by omega
              have at1 := pMq_at (K := pKn kd kin met) (len := (fun q1 q2 => (pSh n (gvT kd (pGv kd kin met) q1 q2) (pSn kin) i h0 p).map (· + 1))) (l0 := (pSh n (pGv kd kin met) (pSn kin) i h0 p).map (· + 1)) hxy hyn hn6
              have sm := pMq_sm (n := n) (K := pKn kd kin met) (len := (fun q1 q2 => (pSh n (gvT kd (pGv kd kin met) q1 q2) (pSn kin) i h0 p).map (· + 1))) (l0 := (pSh n (pGv kd kin met) (pSn kin) i h0 p).map (· + 1)) pSm_sh (fun _ _ => pSm_sh) (6 * x + y)
              generalize hm : (pMq n (pKn kd kin met) (fun q1 q2 => (pSh n (gvT kd (pGv kd kin met) q1 q2) (pSn kin) i h0 p).map (· + 1)) ((pSh n (pGv kd kin met) (pSn kin) i h0 p).map (· + 1)) (6 * x + y)) = s0 at at1 sm e4 e5
              subst e4
              subst e5
              refine v_aload_n (q := 46) hC dX10_bestMeeting_45 rfl rfl rfl ?_
              refine v_getR (q := 49) (r := 8) hC dX10_bestMeeting_46 rfl fX10_22 (hL1.1 17 (by decide)) (hL1.2 17 0 8 rfl) ?_
              refine v_iload (q := 51) hC dX10_bestMeeting_49 rfl rfl ?_
              refine v_iload (q := 53) hC dX10_bestMeeting_51 rfl rfl ?_
              refine v_callV1 (q := 56) (As := [_, _]) hC dX10_bestMeeting_53 rfl lX10_92 mX2_know iX2_know eX2_know rfl (hL1.1 8 (by decide)) (ct_X2_know (d + 3) hL1 hF1 hxn hyn) rfl rfl (by omega) rfl (Nat.le_of_ble_eq_true rfl) ?_
              refine v_if_eq (q := 59) (tgt := 63) hC dX10_bestMeeting_56 rfl (by decide) (fun h56 => ?_) (fun h56 => ?_)
              · have hK : pKn kd kin met x y = false := by simpa [zb_eq0] using h56
                rw [hK, if_pos rfl] at at1
                have sl : pSm ((pSh n (gvT kd (pGv kd kin met) x y) (pSn kin) i h0 p).map (· + 1)) := pSm_sh
                refine v_aload_n (q := 64) hC dX10_bestMeeting_63 rfl rfl rfl ?_
                refine v_iload (q := 66) hC dX10_bestMeeting_64 rfl rfl ?_
                refine v_iload (q := 68) hC dX10_bestMeeting_66 rfl rfl ?_
                refine v_iload_n (q := 69) hC dX10_bestMeeting_68 rfl rfl rfl ?_
                refine v_iload_n (q := 70) hC dX10_bestMeeting_69 rfl rfl rfl ?_
                refine v_iload_n (q := 71) hC dX10_bestMeeting_70 rfl rfl rfl ?_
                refine v_callVQ (q := 74) (As := [_, _, _, _, _]) hC dX10_bestMeeting_71 rfl lX10_96 mX10_shortestHadMet iX10_shortestHadMet eX10_shortestHadMet rfl (hL1.1 17 (by decide)) (ct_X10_shortestHadMet d hL1 hF1 hW.2.1 hw1 hxn hyn hi hh0 hpn) rfl rfl (by omega) (by decide) (Nat.le_of_ble_eq_true rfl) ?_
                rintro _ σ2 ⟨rfl, hW2⟩
                refine v_istore (q := 76) (L' := [_, _, _, _, _, _, _, _, _]) hC dX10_bestMeeting_74 rfl (by decide) rfl rfl ?_
                refine v_iload (q := 78) hC dX10_bestMeeting_76 rfl rfl ?_
                refine v_iconst (q := 79) (v := -1) hC dX10_bestMeeting_78 rfl (by decide) ?_
                refine v_icmp_eq (q := 82) (tgt := 108) hC dX10_bestMeeting_79 rfl (by decide) (fun h79 => ?_) (fun h79 => ?_)
                · refine v_iinc (q := 111) (v := 1) (L' := [_, _, _, _, _, _, _, _, _]) hC dX10_bestMeeting_108 rfl rfl (by decide) (by decide) rfl rfl ?_
                  refine v_goto (q := 33) hC dX10_bestMeeting_111 (by decide) ?_
                  rw [nI_1 y]
                  first
                    | exact absurd rfl h79
                    | exact ih (y + 1) _ _ _ _ (by omega) (by omega) hW (by rw [at1]) (by rw [at1])
                    | exact ih (y + 1) _ _ _ _ (by omega) (by omega) (hW.tr hW2) (by rw [at1]; exact (zmt1 sl sm h79 (by first | exact Or.inl h85 | exact Or.inr h92)).1) (by rw [at1, z6 x y]; exact (zmt1 sl sm h79 (by first | exact Or.inl h85 | exact Or.inr h92)).2)
                    | exact ih (y + 1) _ _ _ _ (by omega) (by omega) (hW.tr hW2) (by rw [at1]; exact congrArg (fun z => zo z.1) (zmt0 sl sm (Or.inl h79))) (by rw [at1]; exact congrArg (fun z => zo z.2) (zmt0 sl sm (Or.inl h79)))
                    | exact ih (y + 1) _ _ _ _ (by omega) (by omega) (hW.tr hW2) (by rw [at1]; exact congrArg (fun z => zo z.1) (zmt0 sl sm (Or.inr ⟨h85, h92⟩))) (by rw [at1]; exact congrArg (fun z => zo z.2) (zmt0 sl sm (Or.inr ⟨h85, h92⟩)))
                · refine v_iload (q := 84) hC dX10_bestMeeting_82 rfl rfl ?_
                  refine v_iconst (q := 85) (v := -1) hC dX10_bestMeeting_84 rfl (by decide) ?_
                  refine v_icmp_eq (q := 88) (tgt := 95) hC dX10_bestMeeting_85 rfl (by decide) (fun h85 => ?_) (fun h85 => ?_)
                  · refine v_iload (q := 97) hC dX10_bestMeeting_95 rfl rfl ?_
                    refine v_istore (q := 99) (L' := [_, _, _, _, _, _, _, _, _]) hC dX10_bestMeeting_97 rfl (by decide) rfl rfl ?_
                    refine v_iload (q := 101) hC dX10_bestMeeting_99 rfl rfl ?_
                    refine v_iload (q := 103) hC dX10_bestMeeting_101 rfl rfl ?_
                    refine v_callSN1 (q := 106) (As := [_, _]) hC dX10_bestMeeting_103 rfl lX10_50 mX11_two sX11_two (ct_X11_two (d + 4) _ _) rfl rfl (by omega) rfl (Nat.le_of_ble_eq_true rfl) ?_
                    refine v_istore (q := 108) (L' := [_, _, _, _, _, _, _, _, _]) hC dX10_bestMeeting_106 rfl (by decide) rfl rfl ?_
                    refine v_iinc (q := 111) (v := 1) (L' := [_, _, _, _, _, _, _, _, _]) hC dX10_bestMeeting_108 rfl rfl (by decide) (by decide) rfl rfl ?_
                    refine v_goto (q := 33) hC dX10_bestMeeting_111 (by decide) ?_
                    rw [nI_1 y]
                    first
                      | exact absurd rfl h79
                      | exact ih (y + 1) _ _ _ _ (by omega) (by omega) hW (by rw [at1]) (by rw [at1])
                      | exact ih (y + 1) _ _ _ _ (by omega) (by omega) (hW.tr hW2) (by rw [at1]; exact (zmt1 sl sm h79 (by first | exact Or.inl h85 | exact Or.inr h92)).1) (by rw [at1, z6 x y]; exact (zmt1 sl sm h79 (by first | exact Or.inl h85 | exact Or.inr h92)).2)
                      | exact ih (y + 1) _ _ _ _ (by omega) (by omega) (hW.tr hW2) (by rw [at1]; exact congrArg (fun z => zo z.1) (zmt0 sl sm (Or.inl h79))) (by rw [at1]; exact congrArg (fun z => zo z.2) (zmt0 sl sm (Or.inl h79)))
                      | exact ih (y + 1) _ _ _ _ (by omega) (by omega) (hW.tr hW2) (by rw [at1]; exact congrArg (fun z => zo z.1) (zmt0 sl sm (Or.inr ⟨h85, h92⟩))) (by rw [at1]; exact congrArg (fun z => zo z.2) (zmt0 sl sm (Or.inr ⟨h85, h92⟩)))
                  · refine v_iload (q := 90) hC dX10_bestMeeting_88 rfl rfl ?_
                    refine v_iload (q := 92) hC dX10_bestMeeting_90 rfl rfl ?_
                    refine v_icmp_ge (q := 95) (tgt := 108) hC dX10_bestMeeting_92 rfl (by decide) (fun h92 => ?_) (fun h92 => ?_)
                    · refine v_iinc (q := 111) (v := 1) (L' := [_, _, _, _, _, _, _, _, _]) hC dX10_bestMeeting_108 rfl rfl (by decide) (by decide) rfl rfl ?_
                      refine v_goto (q := 33) hC dX10_bestMeeting_111 (by decide) ?_
                      rw [nI_1 y]
                      first
                        | exact absurd rfl h79
                        | exact ih (y + 1) _ _ _ _ (by omega) (by omega) hW (by rw [at1]) (by rw [at1])
                        | exact ih (y + 1) _ _ _ _ (by omega) (by omega) (hW.tr hW2) (by rw [at1]; exact (zmt1 sl sm h79 (by first | exact Or.inl h85 | exact Or.inr h92)).1) (by rw [at1, z6 x y]; exact (zmt1 sl sm h79 (by first | exact Or.inl h85 | exact Or.inr h92)).2)
                        | exact ih (y + 1) _ _ _ _ (by omega) (by omega) (hW.tr hW2) (by rw [at1]; exact congrArg (fun z => zo z.1) (zmt0 sl sm (Or.inl h79))) (by rw [at1]; exact congrArg (fun z => zo z.2) (zmt0 sl sm (Or.inl h79)))
                        | exact ih (y + 1) _ _ _ _ (by omega) (by omega) (hW.tr hW2) (by rw [at1]; exact congrArg (fun z => zo z.1) (zmt0 sl sm (Or.inr ⟨h85, h92⟩))) (by rw [at1]; exact congrArg (fun z => zo z.2) (zmt0 sl sm (Or.inr ⟨h85, h92⟩)))
                    · refine v_iload (q := 97) hC dX10_bestMeeting_95 rfl rfl ?_
                      refine v_istore (q := 99) (L' := [_, _, _, _, _, _, _, _, _]) hC dX10_bestMeeting_97 rfl (by decide) rfl rfl ?_
                      refine v_iload (q := 101) hC dX10_bestMeeting_99 rfl rfl ?_
                      refine v_iload (q := 103) hC dX10_bestMeeting_101 rfl rfl ?_
                      refine v_callSN1 (q := 106) (As := [_, _]) hC dX10_bestMeeting_103 rfl lX10_50 mX11_two sX11_two (ct_X11_two (d + 4) _ _) rfl rfl (by omega) rfl (Nat.le_of_ble_eq_true rfl) ?_
                      refine v_istore (q := 108) (L' := [_, _, _, _, _, _, _, _, _]) hC dX10_bestMeeting_106 rfl (by decide) rfl rfl ?_
                      refine v_iinc (q := 111) (v := 1) (L' := [_, _, _, _, _, _, _, _, _]) hC dX10_bestMeeting_108 rfl rfl (by decide) (by decide) rfl rfl ?_
                      refine v_goto (q := 33) hC dX10_bestMeeting_111 (by decide) ?_
                      rw [nI_1 y]
                      first
                        | exact absurd rfl h79
                        | exact ih (y + 1) _ _ _ _ (by omega) (by omega) hW (by rw [at1]) (by rw [at1])
                        | exact ih (y + 1) _ _ _ _ (by omega) (by omega) (hW.tr hW2) (by rw [at1]; exact (zmt1 sl sm h79 (by first | exact Or.inl h85 | exact Or.inr h92)).1) (by rw [at1, z6 x y]; exact (zmt1 sl sm h79 (by first | exact Or.inl h85 | exact Or.inr h92)).2)
                        | exact ih (y + 1) _ _ _ _ (by omega) (by omega) (hW.tr hW2) (by rw [at1]; exact congrArg (fun z => zo z.1) (zmt0 sl sm (Or.inl h79))) (by rw [at1]; exact congrArg (fun z => zo z.2) (zmt0 sl sm (Or.inl h79)))
                        | exact ih (y + 1) _ _ _ _ (by omega) (by omega) (hW.tr hW2) (by rw [at1]; exact congrArg (fun z => zo z.1) (zmt0 sl sm (Or.inr ⟨h85, h92⟩))) (by rw [at1]; exact congrArg (fun z => zo z.2) (zmt0 sl sm (Or.inr ⟨h85, h92⟩)))
              · have hK : pKn kd kin met x y = true := by simpa [zb_eq0] using h56
                rw [hK, if_neg (by simp)] at at1
                refine v_iconst (q := 60) (v := -1) hC dX10_bestMeeting_59 rfl (by decide) ?_
                refine v_goto (q := 74) hC dX10_bestMeeting_60 (by decide) ?_
                refine v_istore (q := 76) (L' := [_, _, _, _, _, _, _, _, _]) hC dX10_bestMeeting_74 rfl (by decide) rfl rfl ?_
                refine v_iload (q := 78) hC dX10_bestMeeting_76 rfl rfl ?_
                refine v_iconst (q := 79) (v := -1) hC dX10_bestMeeting_78 rfl (by decide) ?_
                refine v_icmp_eq (q := 82) (tgt := 108) hC dX10_bestMeeting_79 rfl (by decide) (fun h79 => ?_) (fun h79 => ?_)
                · refine v_iinc (q := 111) (v := 1) (L' := [_, _, _, _, _, _, _, _, _]) hC dX10_bestMeeting_108 rfl rfl (by decide) (by decide) rfl rfl ?_
                  refine v_goto (q := 33) hC dX10_bestMeeting_111 (by decide) ?_
                  rw [nI_1 y]
                  first
                    | exact absurd rfl h79
                    | exact ih (y + 1) _ _ _ _ (by omega) (by omega) hW (by rw [at1]) (by rw [at1])
                    | exact ih (y + 1) _ _ _ _ (by omega) (by omega) (hW.tr hW2) (by rw [at1]; exact (zmt1 sl sm h79 (by first | exact Or.inl h85 | exact Or.inr h92)).1) (by rw [at1, z6 x y]; exact (zmt1 sl sm h79 (by first | exact Or.inl h85 | exact Or.inr h92)).2)
                    | exact ih (y + 1) _ _ _ _ (by omega) (by omega) (hW.tr hW2) (by rw [at1]; exact congrArg (fun z => zo z.1) (zmt0 sl sm (Or.inl h79))) (by rw [at1]; exact congrArg (fun z => zo z.2) (zmt0 sl sm (Or.inl h79)))
                    | exact ih (y + 1) _ _ _ _ (by omega) (by omega) (hW.tr hW2) (by rw [at1]; exact congrArg (fun z => zo z.1) (zmt0 sl sm (Or.inr ⟨h85, h92⟩))) (by rw [at1]; exact congrArg (fun z => zo z.2) (zmt0 sl sm (Or.inr ⟨h85, h92⟩)))
                · refine v_iload (q := 84) hC dX10_bestMeeting_82 rfl rfl ?_
                  refine v_iconst (q := 85) (v := -1) hC dX10_bestMeeting_84 rfl (by decide) ?_
                  refine v_icmp_eq (q := 88) (tgt := 95) hC dX10_bestMeeting_85 rfl (by decide) (fun h85 => ?_) (fun h85 => ?_)
                  · refine v_iload (q := 97) hC dX10_bestMeeting_95 rfl rfl ?_
                    refine v_istore (q := 99) (L' := [_, _, _, _, _, _, _, _, _]) hC dX10_bestMeeting_97 rfl (by decide) rfl rfl ?_
                    refine v_iload (q := 101) hC dX10_bestMeeting_99 rfl rfl ?_
                    refine v_iload (q := 103) hC dX10_bestMeeting_101 rfl rfl ?_
                    refine v_callSN1 (q := 106) (As := [_, _]) hC dX10_bestMeeting_103 rfl lX10_50 mX11_two sX11_two (ct_X11_two (d + 4) _ _) rfl rfl (by omega) rfl (Nat.le_of_ble_eq_true rfl) ?_
                    refine v_istore (q := 108) (L' := [_, _, _, _, _, _, _, _, _]) hC dX10_bestMeeting_106 rfl (by decide) rfl rfl ?_
                    refine v_iinc (q := 111) (v := 1) (L' := [_, _, _, _, _, _, _, _, _]) hC dX10_bestMeeting_108 rfl rfl (by decide) (by decide) rfl rfl ?_
                    refine v_goto (q := 33) hC dX10_bestMeeting_111 (by decide) ?_
                    rw [nI_1 y]
                    first
                      | exact absurd rfl h79
                      | exact ih (y + 1) _ _ _ _ (by omega) (by omega) hW (by rw [at1]) (by rw [at1])
                      | exact ih (y + 1) _ _ _ _ (by omega) (by omega) (hW.tr hW2) (by rw [at1]; exact (zmt1 sl sm h79 (by first | exact Or.inl h85 | exact Or.inr h92)).1) (by rw [at1, z6 x y]; exact (zmt1 sl sm h79 (by first | exact Or.inl h85 | exact Or.inr h92)).2)
                      | exact ih (y + 1) _ _ _ _ (by omega) (by omega) (hW.tr hW2) (by rw [at1]; exact congrArg (fun z => zo z.1) (zmt0 sl sm (Or.inl h79))) (by rw [at1]; exact congrArg (fun z => zo z.2) (zmt0 sl sm (Or.inl h79)))
                      | exact ih (y + 1) _ _ _ _ (by omega) (by omega) (hW.tr hW2) (by rw [at1]; exact congrArg (fun z => zo z.1) (zmt0 sl sm (Or.inr ⟨h85, h92⟩))) (by rw [at1]; exact congrArg (fun z => zo z.2) (zmt0 sl sm (Or.inr ⟨h85, h92⟩)))
                  · refine v_iload (q := 90) hC dX10_bestMeeting_88 rfl rfl ?_
                    refine v_iload (q := 92) hC dX10_bestMeeting_90 rfl rfl ?_
                    refine v_icmp_ge (q := 95) (tgt := 108) hC dX10_bestMeeting_92 rfl (by decide) (fun h92 => ?_) (fun h92 => ?_)
                    · refine v_iinc (q := 111) (v := 1) (L' := [_, _, _, _, _, _, _, _, _]) hC dX10_bestMeeting_108 rfl rfl (by decide) (by decide) rfl rfl ?_
                      refine v_goto (q := 33) hC dX10_bestMeeting_111 (by decide) ?_
                      rw [nI_1 y]
                      first
                        | exact absurd rfl h79
                        | exact ih (y + 1) _ _ _ _ (by omega) (by omega) hW (by rw [at1]) (by rw [at1])
                        | exact ih (y + 1) _ _ _ _ (by omega) (by omega) (hW.tr hW2) (by rw [at1]; exact (zmt1 sl sm h79 (by first | exact Or.inl h85 | exact Or.inr h92)).1) (by rw [at1, z6 x y]; exact (zmt1 sl sm h79 (by first | exact Or.inl h85 | exact Or.inr h92)).2)
                        | exact ih (y + 1) _ _ _ _ (by omega) (by omega) (hW.tr hW2) (by rw [at1]; exact congrArg (fun z => zo z.1) (zmt0 sl sm (Or.inl h79))) (by rw [at1]; exact congrArg (fun z => zo z.2) (zmt0 sl sm (Or.inl h79)))
                        | exact ih (y + 1) _ _ _ _ (by omega) (by omega) (hW.tr hW2) (by rw [at1]; exact congrArg (fun z => zo z.1) (zmt0 sl sm (Or.inr ⟨h85, h92⟩))) (by rw [at1]; exact congrArg (fun z => zo z.2) (zmt0 sl sm (Or.inr ⟨h85, h92⟩)))
                    · refine v_iload (q := 97) hC dX10_bestMeeting_95 rfl rfl ?_
                      refine v_istore (q := 99) (L' := [_, _, _, _, _, _, _, _, _]) hC dX10_bestMeeting_97 rfl (by decide) rfl rfl ?_
                      refine v_iload (q := 101) hC dX10_bestMeeting_99 rfl rfl ?_
                      refine v_iload (q := 103) hC dX10_bestMeeting_101 rfl rfl ?_
                      refine v_callSN1 (q := 106) (As := [_, _]) hC dX10_bestMeeting_103 rfl lX10_50 mX11_two sX11_two (ct_X11_two (d + 4) _ _) rfl rfl (by omega) rfl (Nat.le_of_ble_eq_true rfl) ?_
                      refine v_istore (q := 108) (L' := [_, _, _, _, _, _, _, _, _]) hC dX10_bestMeeting_106 rfl (by decide) rfl rfl ?_
                      refine v_iinc (q := 111) (v := 1) (L' := [_, _, _, _, _, _, _, _, _]) hC dX10_bestMeeting_108 rfl rfl (by decide) (by decide) rfl rfl ?_
                      refine v_goto (q := 33) hC dX10_bestMeeting_111 (by decide) ?_
                      rw [nI_1 y]
                      first
                        | exact absurd rfl h79
                        | exact ih (y + 1) _ _ _ _ (by omega) (by omega) hW (by rw [at1]) (by rw [at1])
                        | exact ih (y + 1) _ _ _ _ (by omega) (by omega) (hW.tr hW2) (by rw [at1]; exact (zmt1 sl sm h79 (by first | exact Or.inl h85 | exact Or.inr h92)).1) (by rw [at1, z6 x y]; exact (zmt1 sl sm h79 (by first | exact Or.inl h85 | exact Or.inr h92)).2)
                        | exact ih (y + 1) _ _ _ _ (by omega) (by omega) (hW.tr hW2) (by rw [at1]; exact congrArg (fun z => zo z.1) (zmt0 sl sm (Or.inl h79))) (by rw [at1]; exact congrArg (fun z => zo z.2) (zmt0 sl sm (Or.inl h79)))
                        | exact ih (y + 1) _ _ _ _ (by omega) (by omega) (hW.tr hW2) (by rw [at1]; exact congrArg (fun z => zo z.1) (zmt0 sl sm (Or.inr ⟨h85, h92⟩))) (by rw [at1]; exact congrArg (fun z => zo z.2) (zmt0 sl sm (Or.inr ⟨h85, h92⟩)))
        have sk := pMq_skip (n := n) (K := pKn kd kin met) (len := (fun q1 q2 => (pSh n (gvT kd (pGv kd kin met) q1 q2) (pSn kin) i h0 p).map (· + 1))) (l0 := (pSh n (pGv kd kin met) (pSn kin) i h0 p).map (· + 1)) (6 * x) (x + 1) (fun q h1 h2 => by omega)
        exact lp2 (n - (x + 1)) (x + 1) _ _ _ σ1 (by omega) (by omega) hW (by rw [sk]; exact e4) (by rw [sk]; exact e5)
  refine v_aload_n (q := 1) hC dX10_bestMeeting_0 rfl rfl rfl ?_
  refine v_iload_n (q := 2) hC dX10_bestMeeting_1 rfl rfl rfl ?_
  refine v_iload_n (q := 3) hC dX10_bestMeeting_2 rfl rfl rfl ?_
  refine v_iload_n (q := 4) hC dX10_bestMeeting_3 rfl rfl rfl ?_
  refine v_callVQ (q := 7) (As := [_, _, _]) hC dX10_bestMeeting_4 rfl lX10_78 mX10_shortest iX10_shortest eX10_shortest rfl (hL.1 17 (by decide)) (ct_X10_shortest (d + 1) hL hF.1 hn6 hp hw hi hh0 hpn) rfl rfl (by omega) (by decide) (Nat.le_of_ble_eq_true rfl) ?_
  rintro _ σ0 ⟨rfl, hS0, g0, a0, b0, hw0⟩
  have hW0 : zWy σ σ0 n kd kin met := ⟨hS0.mono (by simp) (by simp), hp.same hS0 (by decide), a0, b0, hw0⟩
  refine v_istore (q := 9) (L' := [_, _, _, _, _, _, _, _, _]) hC dX10_bestMeeting_7 rfl (by decide) rfl rfl ?_
  refine v_iconst (q := 10) (v := -1) hC dX10_bestMeeting_9 rfl (by decide) ?_
  refine v_istore (q := 12) (L' := [_, _, _, _, _, _, _, _, _]) hC dX10_bestMeeting_10 rfl (by decide) rfl rfl ?_
  refine v_iconst (q := 13) (v := 0) hC dX10_bestMeeting_12 rfl (by decide) ?_
  refine v_istore (q := 15) (L' := [_, _, _, _, _, _, _, _, _]) hC dX10_bestMeeting_13 rfl (by decide) rfl rfl ?_
  exact lp n 0 _ _ _ _ σ0 (by omega) hW0 rfl rfl

