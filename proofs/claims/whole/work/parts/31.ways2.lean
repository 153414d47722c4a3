/-! ===== Ways: first and next row, least, shortest, reached ===== -/
theorem zHold.same {cs rs : List Nat} {σ σ' : zSt} {a n : Nat} {V : Nat → Nat → Int32} (h : zHold σ a n V) (hS : zSame cs rs σ σ') (ha : a ∉ cs) : zHold σ' a n V := fun x y hx hy => by rw [hS.2.2.2 a ha]; exact h x y hx hy
theorem zHold.eq {σ : zSt} {a n : Nat} {V V' : Nat → Nat → Int32} (h : zHold σ a n V) (he : ∀ x y, x < n → y < n → V x y = V' x y) : zHold σ a n V' := fun x y hx hy => by rw [h x y hx hy]; exact he x y hx hy
/-- the latest row of a Rows holds V -/
def zRo (σ : zSt) (c n : Nat) (V : Nat → Nat → Int32) : Prop := ∃ a b, zRb σ c a b ∧ zHold σ a n V
theorem zRb.inb {σ : zSt} {a b : Nat} (h : zRb σ 18 a b) : a ∈ [19, 20] ∧ b ∈ [19, 20] := by have := h.2; simp; omega
theorem zEnv {σ σ1 : zSt} {n : Nat} {gv sn : Nat → Nat → Bool} (hL : zLay σ) (hn : zI σ 8 4 = nI n) (hp : zSp σ n gv sn) (hS : zSame [19, 20] [18] σ σ1) : zLay σ1 ∧ zI σ1 8 4 = nI n ∧ zSp σ1 n gv sn := ⟨hL.same hS (by decide), by rw [hS.2.2.2 8 (by decide)]; exact hn, hp.same hS (by decide)⟩

theorem zfir {σ1 : zSt} {b n i h0 k : Nat} {gv sn : Nat → Nat → Bool} (hn6 : n ≤ 6) (hh0 : h0 < n) (hkn : k < n) (hq : zHold σ1 b n (fun h w => zo (if w < k then pR1 gv sn i h0 h w else none))) (hP : sn i k = false ∧ gv h0 k = true) : zHold (zsI σ1 b (6 * h0 + k) (nI k)) b n (fun h w => zo (if w < k + 1 then pR1 gv sn i h0 h w else none)) := by
  intro h w hh hw
  rw [zI_sI]
  by_cases e : h = h0 ∧ w = k
  · obtain ⟨rfl, rfl⟩ := e
    rw [if_pos ⟨rfl, rfl⟩]
    simp [pR1, hP, zo]
  · rw [if_neg (by omega), hq h w hh hw]
    try dsimp only
    by_cases e2 : w < k
    · rw [if_pos e2, if_pos (by omega)]
    · rw [if_neg e2]
      by_cases e3 : w < k + 1
      · rw [if_pos e3]; simp only [pR1]; rw [if_neg (by omega)]
      · rw [if_neg e3]
theorem zfir0 {σ1 : zSt} {b n i h0 k : Nat} {gv sn : Nat → Nat → Bool} (hkn : k < n) (hq : zHold σ1 b n (fun h w => zo (if w < k then pR1 gv sn i h0 h w else none))) (hP : ¬ (sn i k = false ∧ gv h0 k = true)) : zHold σ1 b n (fun h w => zo (if w < k + 1 then pR1 gv sn i h0 h w else none)) := by
  refine hq.eq (fun h w hh hw => ?_)
  try dsimp only
  by_cases e2 : w < k
  · rw [if_pos e2, if_pos (by omega)]
  · rw [if_neg e2]
    by_cases e3 : w < k + 1
    · have : w = k := by omega
      subst this
      rw [if_pos e3]; simp only [pR1]; rw [if_neg (fun z => hP z.2)]
    · rw [if_neg e3]

set_option maxRecDepth 100000 in
set_option maxHeartbeats 4000000 in
theorem ct_X10_doFirst (d : Nat) {σ : zSt} (hL : zLay σ) {n : Nat} (hn : zI σ 8 4 = nI n) (hn6 : n ≤ 6) {gv sn : Nat → Nat → Bool} (hp : zSp σ n gv sn) {a b : Nat} (hw : zRb σ 18 a b) {i h0 : Nat} (hi : i < n) (hh0 : h0 < n) : zCt (d + 1) MX10_doFirst [.ref 17, .int (nI i), .int (nI h0)] σ (fun r σ' => r = none ∧ zSame [19, 20] [18] σ σ' ∧ zRb σ' 18 b a ∧ zHold σ' b n (fun h w => zo (pR1 gv sn i h0 h w))) := by
  refine zCt.of (L := [some (.ref 17), some (.int (nI i)), some (.int (nI h0)), none]) (by decide) (Nat.le_of_ble_eq_true rfl) rfl (fun X hC hB => ?_)
  have hC : zC X RX10 cX10_doFirst 4 (d + 1) 0 0 := hC
  have hB : zB X none 0 0 "doFirst" σ _ := hB
  show zV X 4 0 [some (.ref 17), some (.int (nI i)), some (.int (nI h0)), none] [] 0 0 σ
  have hab := hw.2
  have lp : ∀ (r : Nat) (k : Nat) (σ1 : zSt), k + r = n → zSame [19, 20] [18] σ σ1 → zRb σ1 18 a b → zHold σ1 b n (fun h w => zo (if w < k then pR1 gv sn i h0 h w else none)) → zV X 4 10 [some (.ref 17), some (.int (nI i)), some (.int (nI h0)), some (.int (nI k))] [] 0 0 σ1 := by
    intro r
    induction r with
    | zero =>
      intro k σ1 hk hS hw1 hq
      obtain ⟨hL1, hn1, hp1⟩ := zEnv hL hn hp hS
      refine v_iload_n (q := 11) hC dX10_doFirst_10 rfl rfl rfl ?_
      refine v_aload_n (q := 12) hC dX10_doFirst_11 rfl rfl rfl ?_
      refine v_getR (q := 15) (r := 8) hC dX10_doFirst_12 rfl fX10_22 (hL1.1 17 (by decide)) (hL1.2 17 0 8 rfl) ?_
      refine v_getI (q := 18) hC dX10_doFirst_15 rfl fX10_34 (hL1.1 8 (by decide)) ?_
      rw [hn1]
      refine v_icmp_ge (q := 21) (tgt := 54) hC dX10_doFirst_18 rfl (by decide) (fun h18 => ?_) (fun h18 => ?_)
      · refine v_aload_n (q := 55) hC dX10_doFirst_54 rfl rfl rfl ?_
        refine v_getR (q := 58) (r := 18) hC dX10_doFirst_55 rfl fX10_12 (hL1.1 17 (by decide)) (hL1.2 17 2 18 rfl) ?_
        refine v_callV0 (q := 61) (As := []) hC dX10_doFirst_58 rfl lX10_54 mX7_turn iX7_turn eX7_turn rfl (hL1.1 18 (by decide)) (ct_X7_turn (d + 0) hw1.1) rfl rfl (by omega) rfl (Nat.le_of_ble_eq_true rfl) ?_
        refine v_return hC hB dX10_doFirst_61 ⟨Nat.le_refl _, Nat.le_refl _⟩ ?_
        refine ⟨rfl, (hS.tr (zSame.sR (by simp))).tr (zSame.sR (by simp)), hw1.turn, ?_⟩
        refine zHold.eq (V := fun h w => zo (if w < k then pR1 gv sn i h0 h w else none)) (fun h w hh hw => hq h w hh hw) (fun h w hh hw => ?_)
        try dsimp only
        rw [if_pos (show w < k by omega)]
      · exact absurd (nI_le (a := n) (b := k) (by omega) (by omega)) h18
    | succ r ih =>
      intro k σ1 hk hS hw1 hq
      obtain ⟨hL1, hn1, hp1⟩ := zEnv hL hn hp hS
      refine v_iload_n (q := 11) hC dX10_doFirst_10 rfl rfl rfl ?_
      refine v_aload_n (q := 12) hC dX10_doFirst_11 rfl rfl rfl ?_
      refine v_getR (q := 15) (r := 8) hC dX10_doFirst_12 rfl fX10_22 (hL1.1 17 (by decide)) (hL1.2 17 0 8 rfl) ?_
      refine v_getI (q := 18) hC dX10_doFirst_15 rfl fX10_34 (hL1.1 8 (by decide)) ?_
      rw [hn1]
      refine v_icmp_ge (q := 21) (tgt := 54) hC dX10_doFirst_18 rfl (by decide) (fun h18 => ?_) (fun h18 => ?_)
      · exact absurd h18 (nI_ge (a := k) (b := n) (by omega) (by omega))
      · have hkn : k < n := by omega
        refine v_aload_n (q := 22) hC dX10_doFirst_21 rfl rfl rfl ?_
        refine v_getR (q := 25) (r := 14) hC dX10_doFirst_22 rfl fX10_26 (hL1.1 17 (by decide)) (hL1.2 17 1 14 rfl) ?_
        refine v_iload_n (q := 26) hC dX10_doFirst_25 rfl rfl rfl ?_
        refine v_iload_n (q := 27) hC dX10_doFirst_26 rfl rfl rfl ?_
        refine v_iload_n (q := 28) hC dX10_doFirst_27 rfl rfl rfl ?_
        refine v_callV1 (q := 31) (As := [_, _, _]) hC dX10_doFirst_28 rfl lX10_40 mX8_passes iX8_passes eX8_passes rfl (hL1.1 14 (by decide)) (ct_X8_passes (d + 0) hL1 hn6 hp1 hi hh0 hkn) rfl rfl (by omega) rfl (Nat.le_of_ble_eq_true rfl) ?_
        refine v_if_eq (q := 34) (tgt := 48) hC dX10_doFirst_31 rfl (by decide) (fun h31 => ?_) (fun h31 => ?_)
        · refine v_iinc (q := 51) (v := 1) (L' := [_, _, _, _]) hC dX10_doFirst_48 rfl rfl (by decide) (by decide) rfl rfl ?_
          refine v_goto (q := 10) hC dX10_doFirst_51 (by decide) ?_
          rw [nI_1 k]
          first
            | refine ih (k + 1) _ (by omega) (hS.addI hw1.inb.2) (hw1.same (zSame.sI (cs := [19, 20]) (rs := []) hw1.inb.2) (by simp)) (zfir hn6 hh0 hkn hq (zkP h31))
            | refine ih (k + 1) _ (by omega) hS hw1 (zfir0 hkn hq (zkN h31))
        · refine v_aload_n (q := 35) hC dX10_doFirst_34 rfl rfl rfl ?_
          refine v_getR (q := 38) (r := 18) hC dX10_doFirst_35 rfl fX10_12 (hL1.1 17 (by decide)) (hL1.2 17 2 18 rfl) ?_
          refine v_getR (q := 41) (r := b) hC dX10_doFirst_38 rfl fX10_46 (hL1.1 18 (by decide)) hw1.1.2.2.1 ?_
          refine v_iload_n (q := 42) hC dX10_doFirst_41 rfl rfl rfl ?_
          refine v_iload_n (q := 43) hC dX10_doFirst_42 rfl rfl rfl ?_
          refine v_callSN1 (q := 46) (As := [_, _]) hC dX10_doFirst_43 rfl lX10_50 mX11_two sX11_two (ct_X11_two (d + 0) _ _) rfl rfl (by omega) rfl (Nat.le_of_ble_eq_true rfl) ?_
          refine v_iload_n (q := 47) hC dX10_doFirst_46 rfl rfl rfl ?_
          refine v_iastN (q := 48) (j := 6 * h0 + k) hC dX10_doFirst_47 rfl hw1.1.2.2.2.2.1 (z6 h0 k) (by omega) (by decide) ?_
          refine v_iinc (q := 51) (v := 1) (L' := [_, _, _, _]) hC dX10_doFirst_48 rfl rfl (by decide) (by decide) rfl rfl ?_
          refine v_goto (q := 10) hC dX10_doFirst_51 (by decide) ?_
          rw [nI_1 k]
          first
            | refine ih (k + 1) _ (by omega) (hS.addI hw1.inb.2) (hw1.same (zSame.sI (cs := [19, 20]) (rs := []) hw1.inb.2) (by simp)) (zfir hn6 hh0 hkn hq (zkP h31))
            | refine ih (k + 1) _ (by omega) hS hw1 (zfir0 hkn hq (zkN h31))
  refine v_aload_n (q := 1) hC dX10_doFirst_0 rfl rfl rfl ?_
  refine v_getR (q := 4) (r := 18) hC dX10_doFirst_1 rfl fX10_12 (hL.1 17 (by decide)) (hL.2 17 2 18 rfl) ?_
  refine v_iconst (q := 5) (v := -1) hC dX10_doFirst_4 rfl (by decide) ?_
  refine v_callVQ (q := 8) (As := [_]) hC dX10_doFirst_5 rfl lX10_30 mX7_open iX7_open eX7_open rfl (hL.1 18 (by decide)) (ct_X7_open (d + 0) hw.1 _) rfl rfl (by omega) (by decide) (Nat.le_of_ble_eq_true rfl) ?_
  rintro _ σ0 ⟨rfl, hS0, g0⟩
  have hSa : zSame [19, 20] [18] σ σ0 := (hS0.mono (by intro x hx; have := hw.2; simp at hx ⊢; omega) (by simp))
  refine v_iconst (q := 9) (v := 0) hC dX10_doFirst_8 rfl (by decide) ?_
  refine v_istore_n (q := 10) (L' := [_, _, _, _]) hC dX10_doFirst_9 rfl rfl (by decide) rfl rfl ?_
  exact lp n 0 σ0 (by omega) hSa (hw.same hS0 (by simp)) (fun h w hh hw => by rw [g0 _ (by omega)]; simp [zo])

theorem zlt2 {n : Nat} {gv sn : Nat → Nat → Bool} {R : Nat → Nat → Option Nat} (hR : pRlt n R) {i j : Nat} (hi : i < n := by assumption) : pRlt n (fun h w => pMinR (pTrm gv sn R h w) (if h < j then i + 1 else i)) := by
  intro h w hh hw g hg
  refine pMinR_lt _ (fun d hd g' hg' => ?_) g hg
  have hd' : d < n := by split at hd <;> omega
  simp only [pTrm] at hg'
  split at hg'
  · exact hR d h hd' hh g' hg'
  · cases hg'
theorem znx {gv sn : Nat → Nat → Bool} {R : Nat → Nat → Option Nat} {i j h w f : Nat} (ef : R i j = some f) : zo (if h = j then pMin2 (pMinR (pTrm gv sn R h w) (if h < j then i + 1 else i)) (if sn i w = false ∧ gv j w = true then some f else none) else pMinR (pTrm gv sn R h w) (if h < j then i + 1 else i)) = zo (pMinR (pTrm gv sn R h w) (if h < j + 1 then i + 1 else i)) := by
  by_cases e : h = j
  · subst e
    rw [if_pos rfl, if_neg (Nat.lt_irrefl h), if_pos (Nat.lt_succ_self h)]
    show _ = zo (pMin2 _ (pTrm gv sn R h w i))
    unfold pTrm
    rw [ef]
  · rw [if_neg e]
    by_cases e2 : h < j
    · rw [if_pos e2, if_pos (by omega)]
    · rw [if_neg e2, if_neg (by omega)]
theorem znx0 {gv sn : Nat → Nat → Bool} {R : Nat → Nat → Option Nat} {i j h w : Nat} (ef : R i j = none) : zo (pMinR (pTrm gv sn R h w) (if h < j then i + 1 else i)) = zo (pMinR (pTrm gv sn R h w) (if h < j + 1 then i + 1 else i)) := by
  by_cases e : h = j
  · subst e
    rw [if_neg (by omega), if_pos (by omega)]
    show _ = zo (pMin2 _ (pTrm gv sn R h w i))
    have : pTrm gv sn R h w i = none := by unfold pTrm; rw [ef]; simp
    rw [this, pMin2_none]
  · by_cases e2 : h < j
    · rw [if_pos e2, if_pos (by omega)]
    · rw [if_neg e2, if_neg (by omega)]

set_option maxRecDepth 100000 in
set_option maxHeartbeats 4000000 in
theorem ct_X10_doNext (d : Nat) {σ : zSt} (hL : zLay σ) {n : Nat} (hn : zI σ 8 4 = nI n) (hn6 : n ≤ 6) {gv sn : Nat → Nat → Bool} (hp : zSp σ n gv sn) {a b : Nat} (hw : zRb σ 18 a b) {R : Nat → Nat → Option Nat} (hRl : pRlt n R) (ha : zHold σ a n (fun h w => zo (R h w))) : zCt (d + 2) MX10_doNext [.ref 17] σ (fun r σ' => r = none ∧ zSame [19, 20] [18] σ σ' ∧ zRb σ' 18 b a ∧ zHold σ' b n (fun h w => zo (pRn n gv sn R h w))) := by
  refine zCt.of (L := [some (.ref 17), none, none, none]) (by decide) (Nat.le_of_ble_eq_true rfl) rfl (fun X hC hB => ?_)
  have hC : zC X RX10 cX10_doNext 4 (d + 2) 0 0 := hC
  have hB : zB X none 0 0 "doNext" σ _ := hB
  show zV X 4 0 [some (.ref 17), none, none, none] [] 0 0 σ
  have hab := hw.2
  have lp : ∀ (ro : Nat) (i : Nat) (o2 o3 : Option Value) (σ1 : zSt), i + ro = n → zSame [19, 20] [18] σ σ1 → zRb σ1 18 a b → zHold σ1 a n (fun h w => zo (R h w)) → zHold σ1 b n (fun h w => zo (pMinR (pTrm gv sn R h w) i)) → zV X 4 10 [some (.ref 17), some (.int (nI i)), o2, o3] [] 0 0 σ1 := by
    intro ro
    induction ro with
    | zero =>
      intro i o2 o3 σ1 hi hS hw1 ha hq
      obtain ⟨hL1, hn1, hp1⟩ := zEnv hL hn hp hS
      refine v_iload_n (q := 11) hC dX10_doNext_10 rfl rfl rfl ?_
      refine v_aload_n (q := 12) hC dX10_doNext_11 rfl rfl rfl ?_
      refine v_getR (q := 15) (r := 8) hC dX10_doNext_12 rfl fX10_22 (hL1.1 17 (by decide)) (hL1.2 17 0 8 rfl) ?_
      refine v_getI (q := 18) hC dX10_doNext_15 rfl fX10_34 (hL1.1 8 (by decide)) ?_
      rw [hn1]
      refine v_icmp_ge (q := 21) (tgt := 72) hC dX10_doNext_18 rfl (by decide) (fun h18 => ?_) (fun h18 => ?_)
      · refine v_aload_n (q := 73) hC dX10_doNext_72 rfl rfl rfl ?_
        refine v_getR (q := 76) (r := 18) hC dX10_doNext_73 rfl fX10_12 (hL1.1 17 (by decide)) (hL1.2 17 2 18 rfl) ?_
        refine v_callV0 (q := 79) (As := []) hC dX10_doNext_76 rfl lX10_54 mX7_turn iX7_turn eX7_turn rfl (hL1.1 18 (by decide)) (ct_X7_turn (d + 1) hw1.1) rfl rfl (by omega) rfl (Nat.le_of_ble_eq_true rfl) ?_
        refine v_return hC hB dX10_doNext_79 ⟨Nat.le_refl _, Nat.le_refl _⟩ ?_
        have e : i = n := by omega
        subst e
        exact ⟨rfl, (hS.tr (zSame.sR (by simp))).tr (zSame.sR (by simp)), hw1.turn, fun h w hh hw => hq h w hh hw⟩
      · exact absurd (nI_le (a := n) (b := i) (by omega) (by omega)) h18
    | succ ro ih =>
      intro i o2 o3 σ1 hi hS hw1 ha hq
      obtain ⟨hL1, hn1, hp1⟩ := zEnv hL hn hp hS
      refine v_iload_n (q := 11) hC dX10_doNext_10 rfl rfl rfl ?_
      refine v_aload_n (q := 12) hC dX10_doNext_11 rfl rfl rfl ?_
      refine v_getR (q := 15) (r := 8) hC dX10_doNext_12 rfl fX10_22 (hL1.1 17 (by decide)) (hL1.2 17 0 8 rfl) ?_
      refine v_getI (q := 18) hC dX10_doNext_15 rfl fX10_34 (hL1.1 8 (by decide)) ?_
      rw [hn1]
      refine v_icmp_ge (q := 21) (tgt := 72) hC dX10_doNext_18 rfl (by decide) (fun h18 => ?_) (fun h18 => ?_)
      · exact absurd h18 (nI_ge (a := i) (b := n) (by omega) (by omega))
      · refine v_iconst (q := 22) (v := 0) hC dX10_doNext_21 rfl (by decide) ?_
        refine v_istore_n (q := 23) (L' := [_, _, _, _]) hC dX10_doNext_22 rfl rfl (by decide) rfl rfl ?_
        have iho := ih
        have lp2 : ∀ (r : Nat) (j : Nat) (o3 : Option Value) (σ1 : zSt), j + r = n → i < n → zSame [19, 20] [18] σ σ1 → zRb σ1 18 a b → zHold σ1 a n (fun h w => zo (R h w)) → zHold σ1 b n (fun h w => zo (pMinR (pTrm gv sn R h w) (if h < j then i + 1 else i))) → zV X 4 23 [some (.ref 17), some (.int (nI i)), some (.int (nI j)), o3] [] 0 0 σ1 := by
          intro r
          induction r with
          | zero =>
            intro j o3 σ1 hj hi hS hw1 ha hq
            obtain ⟨hL1, hn1, hp1⟩ := zEnv hL hn hp hS
            refine v_iload_n (q := 24) hC dX10_doNext_23 rfl rfl rfl ?_
            refine v_aload_n (q := 25) hC dX10_doNext_24 rfl rfl rfl ?_
            refine v_getR (q := 28) (r := 8) hC dX10_doNext_25 rfl fX10_22 (hL1.1 17 (by decide)) (hL1.2 17 0 8 rfl) ?_
            refine v_getI (q := 31) hC dX10_doNext_28 rfl fX10_34 (hL1.1 8 (by decide)) ?_
            rw [hn1]
            refine v_icmp_ge (q := 34) (tgt := 66) hC dX10_doNext_31 rfl (by decide) (fun h31 => ?_) (fun h31 => ?_)
            · refine v_iinc (q := 69) (v := 1) (L' := [_, _, _, _]) hC dX10_doNext_66 rfl rfl (by decide) (by decide) rfl rfl ?_
              refine v_goto (q := 10) hC dX10_doNext_69 (by decide) ?_
              rw [nI_1 i]
              exact iho (i + 1) _ _ _ (by omega) hS hw1 ha (hq.eq (fun h w hh hw => by rw [if_pos (show h < j by omega)]))
            · exact absurd (nI_le (a := n) (b := j) (by omega) (by omega)) h31
          | succ r ih =>
            intro j o3 σ1 hj hi hS hw1 ha hq
            obtain ⟨hL1, hn1, hp1⟩ := zEnv hL hn hp hS
            refine v_iload_n (q := 24) hC dX10_doNext_23 rfl rfl rfl ?_
            refine v_aload_n (q := 25) hC dX10_doNext_24 rfl rfl rfl ?_
            refine v_getR (q := 28) (r := 8) hC dX10_doNext_25 rfl fX10_22 (hL1.1 17 (by decide)) (hL1.2 17 0 8 rfl) ?_
            refine v_getI (q := 31) hC dX10_doNext_28 rfl fX10_34 (hL1.1 8 (by decide)) ?_
            rw [hn1]
            refine v_icmp_ge (q := 34) (tgt := 66) hC dX10_doNext_31 rfl (by decide) (fun h31 => ?_) (fun h31 => ?_)
            · exact absurd h31 (nI_ge (a := j) (b := n) (by omega) (by omega))
            · have hjn : j < n := by omega
              refine v_aload_n (q := 35) hC dX10_doNext_34 rfl rfl rfl ?_
              refine v_getR (q := 38) (r := 18) hC dX10_doNext_35 rfl fX10_12 (hL1.1 17 (by decide)) (hL1.2 17 2 18 rfl) ?_
              refine v_getR (q := 41) (r := a) hC dX10_doNext_38 rfl fX10_57 (hL1.1 18 (by decide)) hw1.1.2.1 ?_
              refine v_iload_n (q := 42) hC dX10_doNext_41 rfl rfl rfl ?_
              refine v_iload_n (q := 43) hC dX10_doNext_42 rfl rfl rfl ?_
              refine v_callSN1 (q := 46) (As := [_, _]) hC dX10_doNext_43 rfl lX10_50 mX11_two sX11_two (ct_X11_two (d + 1) _ _) rfl rfl (by omega) rfl (Nat.le_of_ble_eq_true rfl) ?_
              refine v_ialdN (q := 47) (j := 6 * i + j) hC dX10_doNext_46 rfl hw1.1.2.2.2.1 (z6 i j) (by omega) (by decide) ?_
              rw [ha i j hi hjn]
              try dsimp only
              refine v_istore_n (q := 48) (L' := [_, _, _, _]) hC dX10_doNext_47 rfl rfl (by decide) rfl rfl ?_
              refine v_iload_n (q := 49) hC dX10_doNext_48 rfl rfl rfl ?_
              refine v_iconst (q := 50) (v := -1) hC dX10_doNext_49 rfl (by decide) ?_
              refine v_icmp_eq (q := 53) (tgt := 60) hC dX10_doNext_50 rfl (by decide) (fun h50 => ?_) (fun h50 => ?_)
              · refine v_iinc (q := 63) (v := 1) (L' := [_, _, _, _]) hC dX10_doNext_60 rfl rfl (by decide) (by decide) rfl rfl ?_
                refine v_goto (q := 23) hC dX10_doNext_63 (by decide) ?_
                rw [nI_1 j]
                first
                  | exact ih (j + 1) _ σ2 (by omega) hi (hS.tr (hS2.mono (by intro x hx; have := hw1.2; simp at hx ⊢; omega) (by simp))) (hw1.same hS2 (by simp)) (ha.same hS2 (by have := hw1.1.2.2.2.2.2; simp; omega)) (hq2.eq (fun h w hh hw => znx ef))
                  | exact ih (j + 1) _ σ1 (by omega) hi hS hw1 ha (hq.eq (fun h w hh hw => znx0 ((zo_eq (fun g hg => hRl i j hi hjn g hg) (by omega)).mp h50)))
              · obtain ⟨f, ef⟩ : ∃ f, R i j = some f := by cases e : R i j with | none => exact absurd (by rw [e]; rfl) h50 | some f => exact ⟨f, rfl⟩
                have hf := hRl i j hi hjn f ef
                refine v_aload_n (q := 54) hC dX10_doNext_53 rfl rfl rfl ?_
                refine v_iload_n (q := 55) hC dX10_doNext_54 rfl rfl rfl ?_
                refine v_iload_n (q := 56) hC dX10_doNext_55 rfl rfl rfl ?_
                refine v_iload_n (q := 57) hC dX10_doNext_56 rfl rfl rfl ?_
                rw [show zo (R i j) = nI f by rw [ef]; rfl]
                refine v_callVQ (q := 60) (As := [_, _, _]) hC dX10_doNext_57 rfl lX10_60 mX10_passOn iX10_passOn eX10_passOn rfl (hL1.1 17 (by decide)) (ct_X10_passOn d hL1 hn1 hn6 hp1 hw1 hi hjn hf (zlt2 hRl) hq) rfl rfl (by omega) (by decide) (Nat.le_of_ble_eq_true rfl) ?_
                rintro _ σ2 ⟨rfl, hS2, hq2⟩
                refine v_iinc (q := 63) (v := 1) (L' := [_, _, _, _]) hC dX10_doNext_60 rfl rfl (by decide) (by decide) rfl rfl ?_
                refine v_goto (q := 23) hC dX10_doNext_63 (by decide) ?_
                rw [nI_1 j]
                first
                  | exact ih (j + 1) _ σ2 (by omega) hi (hS.tr (hS2.mono (by intro x hx; have := hw1.2; simp at hx ⊢; omega) (by simp))) (hw1.same hS2 (by simp)) (ha.same hS2 (by have := hw1.1.2.2.2.2.2; simp; omega)) (hq2.eq (fun h w hh hw => znx ef))
                  | exact ih (j + 1) _ σ1 (by omega) hi hS hw1 ha (hq.eq (fun h w hh hw => znx0 ((zo_eq (fun g hg => hRl i j hi hjn g hg) (by omega)).mp h50)))
        exact lp2 n 0 _ σ1 (by omega) (by omega) hS hw1 ha (hq.eq (fun h w hh hw => by simp))
  refine v_aload_n (q := 1) hC dX10_doNext_0 rfl rfl rfl ?_
  refine v_getR (q := 4) (r := 18) hC dX10_doNext_1 rfl fX10_12 (hL.1 17 (by decide)) (hL.2 17 2 18 rfl) ?_
  refine v_iconst (q := 5) (v := -1) hC dX10_doNext_4 rfl (by decide) ?_
  refine v_callVQ (q := 8) (As := [_]) hC dX10_doNext_5 rfl lX10_30 mX7_open iX7_open eX7_open rfl (hL.1 18 (by decide)) (ct_X7_open (d + 1) hw.1 _) rfl rfl (by omega) (by decide) (Nat.le_of_ble_eq_true rfl) ?_
  rintro _ σ0 ⟨rfl, hS0, g0⟩
  have hSa : zSame [19, 20] [18] σ σ0 := (hS0.mono (by intro x hx; have := hw.2; simp at hx ⊢; omega) (by simp))
  refine v_iconst (q := 9) (v := 0) hC dX10_doNext_8 rfl (by decide) ?_
  refine v_istore_n (q := 10) (L' := [_, _, _, _]) hC dX10_doNext_9 rfl rfl (by decide) rfl rfl ?_
  exact lp n 0 _ _ σ0 (by omega) hSa (hw.same hS0 (by simp)) (ha.same hS0 (by have := hw.1.2.2.2.2.2; simp; omega)) (fun h w hh hw => by rw [g0 _ (by omega)]; rfl)

theorem zle0 {f : Nat → Option Nat} {k : Nat} (h : zo (f k) = -1) (hk : ∀ g, f k = some g → g < 6) : zo (pMinR f k) = zo (pMinR f (k + 1)) := by
  show _ = zo (pMin2 _ (f k))
  rw [(zo_eq hk (by omega)).mp h, pMin2_none]
theorem zle1 {f : Nat → Option Nat} {k : Nat} (h : zo (pMinR f k) = -1) (hk : ∀ g, pMinR f k = some g → g < 6) : zo (f k) = zo (pMinR f (k + 1)) := by
  show _ = zo (pMin2 _ (f k))
  rw [(zo_eq hk (by omega)).mp h]; rfl
theorem zle2 {f : Nat → Option Nat} {k : Nat} (h0 : ¬ zo (f k) = -1) (h : ¬ zo (pMinR f k) ≤ zo (f k)) (hk : ∀ g, f k = some g → g < 6) (hm : ∀ g, pMinR f k = some g → g < 6) : zo (f k) = zo (pMinR f (k + 1)) := by
  show _ = zo (pMin2 (pMinR f k) (f k))
  cases e : pMinR f k with
  | none => rfl
  | some a =>
    cases e2 : f k with
    | none => rw [e2] at h0; exact absurd rfl h0
    | some b =>
      rw [e, e2] at h
      have := hk b e2; have := hm a e
      have hlt : b < a := Nat.not_le.mp (fun z => h ((nI_leI (by omega) (by omega)).mpr z))
      simp [pMin2, zo, hlt]
theorem zle3 {f : Nat → Option Nat} {k : Nat} (h0 : ¬ zo (f k) = -1) (h1 : ¬ zo (pMinR f k) = -1) (h : zo (pMinR f k) ≤ zo (f k)) (hk : ∀ g, f k = some g → g < 6) (hm : ∀ g, pMinR f k = some g → g < 6) : zo (pMinR f k) = zo (pMinR f (k + 1)) := by
  show _ = zo (pMin2 (pMinR f k) (f k))
  cases e : pMinR f k with
  | none => rw [e] at h1; exact absurd rfl h1
  | some a =>
    cases e2 : f k with
    | none => rfl
    | some b =>
      rw [e, e2] at h
      have := hk b e2; have := hm a e
      have hlt : a ≤ b := (nI_leI (by omega) (by omega)).mp h
      simp [pMin2, zo, show ¬ b < a by omega]

set_option maxRecDepth 100000 in
set_option maxHeartbeats 4000000 in
theorem ct_X10_leastFirstTo (d : Nat) {σ : zSt} (hL : zLay σ) {n : Nat} (hn : zI σ 8 4 = nI n) (hn6 : n ≤ 6) {a b : Nat} (hw : zRb σ 18 a b) {R : Nat → Nat → Option Nat} (hRl : pRlt n R) (ha : zHold σ a n (fun h w => zo (R h w))) {p : Nat} (hpn : p < n) : zEv (d + 1) MX10_leastFirstTo [.ref 17, .int (nI p)] σ (some (.int (zo (pLst n R p)))) σ := by
  refine zCt.of (L := [some (.ref 17), some (.int (nI p)), none, none, none]) (by decide) (Nat.le_of_ble_eq_true rfl) rfl (fun X hC hB => ?_)
  have hC : zC X RX10 cX10_leastFirstTo 5 (d + 1) 0 0 := hC
  have hB : zB X (some .int) 0 0 "leastFirstTo" σ _ := hB
  show zV X 5 0 [some (.ref 17), some (.int (nI p)), none, none, none] [] 0 0 σ
  have lp : ∀ (r : Nat) (k : Nat) (x : Int32) (o4 : Option Value), x = zo (pMinR (fun d => R d p) k) → k + r = n → zV X 5 4 [some (.ref 17), some (.int (nI p)), some (.int x), some (.int (nI k)), o4] [] 0 0 σ := by
    intro r
    induction r with
    | zero =>
      intro k x o4 hx hk
      subst hx
      refine v_iload_n (q := 5) hC dX10_leastFirstTo_4 rfl rfl rfl ?_
      refine v_aload_n (q := 6) hC dX10_leastFirstTo_5 rfl rfl rfl ?_
      refine v_getR (q := 9) (r := 8) hC dX10_leastFirstTo_6 rfl fX10_22 (hL.1 17 (by decide)) (hL.2 17 0 8 rfl) ?_
      refine v_getI (q := 12) hC dX10_leastFirstTo_9 rfl fX10_34 (hL.1 8 (by decide)) ?_
      rw [hn]
      refine v_icmp_ge (q := 15) (tgt := 56) hC dX10_leastFirstTo_12 rfl (by decide) (fun h12 => ?_) (fun h12 => ?_)
      · refine v_iload_n (q := 57) hC dX10_leastFirstTo_56 rfl rfl rfl ?_
        refine v_ireturn hC hB dX10_leastFirstTo_57 ⟨Nat.le_refl _, Nat.le_refl _⟩ ?_
        have e : k = n := by omega
        subst e
        exact ⟨rfl, rfl⟩
      · exact absurd (nI_le (a := n) (b := k) (by omega) (by omega)) h12
    | succ r ih =>
      intro k x o4 hx hk
      subst hx
      refine v_iload_n (q := 5) hC dX10_leastFirstTo_4 rfl rfl rfl ?_
      refine v_aload_n (q := 6) hC dX10_leastFirstTo_5 rfl rfl rfl ?_
      refine v_getR (q := 9) (r := 8) hC dX10_leastFirstTo_6 rfl fX10_22 (hL.1 17 (by decide)) (hL.2 17 0 8 rfl) ?_
      refine v_getI (q := 12) hC dX10_leastFirstTo_9 rfl fX10_34 (hL.1 8 (by decide)) ?_
      rw [hn]
      refine v_icmp_ge (q := 15) (tgt := 56) hC dX10_leastFirstTo_12 rfl (by decide) (fun h12 => ?_) (fun h12 => ?_)
      · exact absurd h12 (nI_ge (a := k) (b := n) (by omega) (by omega))
      · have hkn : k < n := by omega
        refine v_aload_n (q := 16) hC dX10_leastFirstTo_15 rfl rfl rfl ?_
        refine v_getR (q := 19) (r := 18) hC dX10_leastFirstTo_16 rfl fX10_12 (hL.1 17 (by decide)) (hL.2 17 2 18 rfl) ?_
        refine v_getR (q := 22) (r := a) hC dX10_leastFirstTo_19 rfl fX10_57 (hL.1 18 (by decide)) hw.1.2.1 ?_
        refine v_iload_n (q := 23) hC dX10_leastFirstTo_22 rfl rfl rfl ?_
        refine v_iload_n (q := 24) hC dX10_leastFirstTo_23 rfl rfl rfl ?_
        refine v_callSN1 (q := 27) (As := [_, _]) hC dX10_leastFirstTo_24 rfl lX10_50 mX11_two sX11_two (ct_X11_two d _ _) rfl rfl (by omega) rfl (Nat.le_of_ble_eq_true rfl) ?_
        refine v_ialdN (q := 28) (j := 6 * k + p) hC dX10_leastFirstTo_27 rfl hw.1.2.2.2.1 (z6 k p) (by omega) (by decide) ?_
        rw [ha k p hkn hpn]
        try dsimp only
        refine v_istore (q := 30) (L' := [_, _, _, _, _]) hC dX10_leastFirstTo_28 rfl (by decide) rfl rfl ?_
        refine v_iload (q := 32) hC dX10_leastFirstTo_30 rfl rfl ?_
        refine v_iconst (q := 33) (v := -1) hC dX10_leastFirstTo_32 rfl (by decide) ?_
        refine v_icmp_eq (q := 36) (tgt := 50) hC dX10_leastFirstTo_33 rfl (by decide) (fun h33 => ?_) (fun h33 => ?_)
        · refine v_iinc (q := 53) (v := 1) (L' := [_, _, _, _, _]) hC dX10_leastFirstTo_50 rfl rfl (by decide) (by decide) rfl rfl ?_
          refine v_goto (q := 4) hC dX10_leastFirstTo_53 (by decide) ?_
          rw [nI_1 k]
          have hk6 : ∀ g, R k p = some g → g < 6 := fun g hg => by have := hRl k p hkn hpn g hg; omega
          have hm6 : ∀ g, pMinR (fun d => R d p) k = some g → g < 6 := fun g hg => by have := pMinR_lt (n := n) k (fun d hd g hg => hRl d p (by omega) hpn g hg) g hg; omega
          first
            | exact ih (k + 1) _ _ (zle0 (f := fun d => R d p) (k := k) h33 hk6) (by omega)
            | exact ih (k + 1) _ _ (zle1 (f := fun d => R d p) (k := k) h38 hm6) (by omega)
            | exact ih (k + 1) _ _ (zle2 (f := fun d => R d p) (k := k) h33 h44 hk6 hm6) (by omega)
            | exact ih (k + 1) _ _ (zle3 (f := fun d => R d p) (k := k) h33 h38 h44 hk6 hm6) (by omega)
        · refine v_iload_n (q := 37) hC dX10_leastFirstTo_36 rfl rfl rfl ?_
          refine v_iconst (q := 38) (v := -1) hC dX10_leastFirstTo_37 rfl (by decide) ?_
          refine v_icmp_eq (q := 41) (tgt := 47) hC dX10_leastFirstTo_38 rfl (by decide) (fun h38 => ?_) (fun h38 => ?_)
          · refine v_iload (q := 49) hC dX10_leastFirstTo_47 rfl rfl ?_
            refine v_istore_n (q := 50) (L' := [_, _, _, _, _]) hC dX10_leastFirstTo_49 rfl rfl (by decide) rfl rfl ?_
            refine v_iinc (q := 53) (v := 1) (L' := [_, _, _, _, _]) hC dX10_leastFirstTo_50 rfl rfl (by decide) (by decide) rfl rfl ?_
            refine v_goto (q := 4) hC dX10_leastFirstTo_53 (by decide) ?_
            rw [nI_1 k]
            have hk6 : ∀ g, R k p = some g → g < 6 := fun g hg => by have := hRl k p hkn hpn g hg; omega
            have hm6 : ∀ g, pMinR (fun d => R d p) k = some g → g < 6 := fun g hg => by have := pMinR_lt (n := n) k (fun d hd g hg => hRl d p (by omega) hpn g hg) g hg; omega
            first
              | exact ih (k + 1) _ _ (zle0 (f := fun d => R d p) (k := k) h33 hk6) (by omega)
              | exact ih (k + 1) _ _ (zle1 (f := fun d => R d p) (k := k) h38 hm6) (by omega)
              | exact ih (k + 1) _ _ (zle2 (f := fun d => R d p) (k := k) h33 h44 hk6 hm6) (by omega)
              | exact ih (k + 1) _ _ (zle3 (f := fun d => R d p) (k := k) h33 h38 h44 hk6 hm6) (by omega)
          · refine v_iload (q := 43) hC dX10_leastFirstTo_41 rfl rfl ?_
            refine v_iload_n (q := 44) hC dX10_leastFirstTo_43 rfl rfl rfl ?_
            refine v_icmp_ge (q := 47) (tgt := 50) hC dX10_leastFirstTo_44 rfl (by decide) (fun h44 => ?_) (fun h44 => ?_)
            · refine v_iinc (q := 53) (v := 1) (L' := [_, _, _, _, _]) hC dX10_leastFirstTo_50 rfl rfl (by decide) (by decide) rfl rfl ?_
              refine v_goto (q := 4) hC dX10_leastFirstTo_53 (by decide) ?_
              rw [nI_1 k]
              have hk6 : ∀ g, R k p = some g → g < 6 := fun g hg => by have := hRl k p hkn hpn g hg; omega
              have hm6 : ∀ g, pMinR (fun d => R d p) k = some g → g < 6 := fun g hg => by have := pMinR_lt (n := n) k (fun d hd g hg => hRl d p (by omega) hpn g hg) g hg; omega
              first
                | exact ih (k + 1) _ _ (zle0 (f := fun d => R d p) (k := k) h33 hk6) (by omega)
                | exact ih (k + 1) _ _ (zle1 (f := fun d => R d p) (k := k) h38 hm6) (by omega)
                | exact ih (k + 1) _ _ (zle2 (f := fun d => R d p) (k := k) h33 h44 hk6 hm6) (by omega)
                | exact ih (k + 1) _ _ (zle3 (f := fun d => R d p) (k := k) h33 h38 h44 hk6 hm6) (by omega)
            · refine v_iload (q := 49) hC dX10_leastFirstTo_47 rfl rfl ?_
              refine v_istore_n (q := 50) (L' := [_, _, _, _, _]) hC dX10_leastFirstTo_49 rfl rfl (by decide) rfl rfl ?_
              refine v_iinc (q := 53) (v := 1) (L' := [_, _, _, _, _]) hC dX10_leastFirstTo_50 rfl rfl (by decide) (by decide) rfl rfl ?_
              refine v_goto (q := 4) hC dX10_leastFirstTo_53 (by decide) ?_
              rw [nI_1 k]
              have hk6 : ∀ g, R k p = some g → g < 6 := fun g hg => by have := hRl k p hkn hpn g hg; omega
              have hm6 : ∀ g, pMinR (fun d => R d p) k = some g → g < 6 := fun g hg => by have := pMinR_lt (n := n) k (fun d hd g hg => hRl d p (by omega) hpn g hg) g hg; omega
              first
                | exact ih (k + 1) _ _ (zle0 (f := fun d => R d p) (k := k) h33 hk6) (by omega)
                | exact ih (k + 1) _ _ (zle1 (f := fun d => R d p) (k := k) h38 hm6) (by omega)
                | exact ih (k + 1) _ _ (zle2 (f := fun d => R d p) (k := k) h33 h44 hk6 hm6) (by omega)
                | exact ih (k + 1) _ _ (zle3 (f := fun d => R d p) (k := k) h33 h38 h44 hk6 hm6) (by omega)
  refine v_iconst (q := 1) (v := -1) hC dX10_leastFirstTo_0 rfl (by decide) ?_
  refine v_istore_n (q := 2) (L' := [_, _, _, _, _]) hC dX10_leastFirstTo_1 rfl rfl (by decide) rfl rfl ?_
  refine v_iconst (q := 3) (v := 0) hC dX10_leastFirstTo_2 rfl (by decide) ?_
  refine v_istore_n (q := 4) (L' := [_, _, _, _, _]) hC dX10_leastFirstTo_3 rfl rfl (by decide) rfl rfl ?_
  exact lp n 0 _ _ rfl (by omega)

/-- in how few favours, less one, one comes to p -/
def pSh (n : Nat) (gv sn : Nat → Nat → Bool) (i h0 p : Nat) : Option Nat := pFst (fun k => (pLst n (pRow n gv sn i h0 k) p).isSome) 8
theorem pLst_lt {n : Nat} {R : Nat → Nat → Option Nat} (hR : pRlt n R) {p : Nat} (hp : p < n) (h6 : n ≤ 6) : ∀ g, pLst n R p = some g → g < 6 := fun g hg => by have := pMinR_lt (n := n) n (fun d hd g hg => hR d p hd hp g hg) g hg; omega
theorem zls {n : Nat} {R : Nat → Nat → Option Nat} (hR : pRlt n R) {p : Nat} (hp : p < n) (h6 : n ≤ 6) : zo (pLst n R p) = -1 ↔ (pLst n R p).isSome = false := by
  rw [zo_eq (pLst_lt hR hp h6) (by omega)]; simp

set_option maxRecDepth 100000 in
set_option maxHeartbeats 4000000 in
theorem ct_X10_shortest (d : Nat) {σ : zSt} (hL : zLay σ) {n : Nat} (hn : zI σ 8 4 = nI n) (hn6 : n ≤ 6) {gv sn : Nat → Nat → Bool} (hp : zSp σ n gv sn) {a b : Nat} (hw : zRb σ 18 a b) {i h0 p : Nat} (hi : i < n) (hh0 : h0 < n) (hpn : p < n) : zCt (d + 3) MX10_shortest [.ref 17, .int (nI i), .int (nI h0), .int (nI p)] σ (fun r σ' => r = some (.int (zo ((pSh n gv sn i h0 p).map (· + 1)))) ∧ zSame [19, 20] [18] σ σ' ∧ (∀ k, pSh n gv sn i h0 p = some k → zRo σ' 18 n (fun h w => zo (pRow n gv sn i h0 k h w))) ∧ ∃ a b, zRb σ' 18 a b) := by
  refine zCt.of (L := [some (.ref 17), some (.int (nI i)), some (.int (nI h0)), some (.int (nI p)), none]) (by decide) (Nat.le_of_ble_eq_true rfl) rfl (fun X hC hB => ?_)
  have hC : zC X RX10 cX10_shortest 5 (d + 3) 0 0 := hC
  have hB : zB X (some .int) 0 0 "shortest" σ _ := hB
  show zV X 5 0 [some (.ref 17), some (.int (nI i)), some (.int (nI h0)), some (.int (nI p)), none] [] 0 0 σ
  have lp : ∀ (r : Nat) (k : Nat) (σ1 : zSt) (a b : Nat), k + r = 8 → zSame [19, 20] [18] σ σ1 → zRb σ1 18 a b → zHold σ1 a n (fun h w => zo (pRow n gv sn i h0 k h w)) → pFst (fun k => (pLst n (pRow n gv sn i h0 k) p).isSome) k = none → zV X 5 9 [some (.ref 17), some (.int (nI i)), some (.int (nI h0)), some (.int (nI p)), some (.int (nI (k + 1)))] [] 0 0 σ1 := by
    intro r
    induction r with
    | zero =>
      intro k σ1 a b hk hS hw1 ha hf
      obtain ⟨hL1, hn1, hp1⟩ := zEnv hL hn hp hS
      refine v_iload (q := 11) hC dX10_shortest_9 rfl rfl ?_
      refine v_bipush (q := 13) (v := 8) hC dX10_shortest_11 rfl (by decide) ?_
      refine v_icmp_gt (q := 16) (tgt := 38) hC dX10_shortest_13 rfl (by decide) (fun h13 => ?_) (fun h13 => ?_)
      · refine v_iconst (q := 39) (v := -1) hC dX10_shortest_38 rfl (by decide) ?_
        refine v_ireturn hC hB dX10_shortest_39 ⟨Nat.le_refl _, Nat.le_refl _⟩ ?_
        have e : k = 8 := by omega
        subst e
        have e8 : pSh n gv sn i h0 p = none := hf
        rw [e8]
        exact ⟨rfl, hS, fun k hk => (by cases hk), a, b, hw1⟩
      · exact absurd (nI_lt (a := 8) (b := k + 1) (by omega) (by omega)) h13
    | succ r ih =>
      intro k σ1 a b hk hS hw1 ha hf
      obtain ⟨hL1, hn1, hp1⟩ := zEnv hL hn hp hS
      refine v_iload (q := 11) hC dX10_shortest_9 rfl rfl ?_
      refine v_bipush (q := 13) (v := 8) hC dX10_shortest_11 rfl (by decide) ?_
      refine v_icmp_gt (q := 16) (tgt := 38) hC dX10_shortest_13 rfl (by decide) (fun h13 => ?_) (fun h13 => ?_)
      · exact absurd h13 (nI_nlt (a := 8) (b := k + 1) (by omega) (by omega))
      · refine v_aload_n (q := 17) hC dX10_shortest_16 rfl rfl rfl ?_
        refine v_iload_n (q := 18) hC dX10_shortest_17 rfl rfl rfl ?_
        refine v_callV1 (q := 21) (As := [_]) hC dX10_shortest_18 rfl lX10_68 mX10_leastFirstTo iX10_leastFirstTo eX10_leastFirstTo rfl (hL1.1 17 (by decide)) (ct_X10_leastFirstTo (d + 1) hL1 hn1 hn6 hw1 (pRow_lt k) ha hpn) rfl rfl (by omega) rfl (Nat.le_of_ble_eq_true rfl) ?_
        refine v_iconst (q := 22) (v := -1) hC dX10_shortest_21 rfl (by decide) ?_
        refine v_icmp_eq (q := 25) (tgt := 28) hC dX10_shortest_22 rfl (by decide) (fun h22 => ?_) (fun h22 => ?_)
        · refine v_aload_n (q := 29) hC dX10_shortest_28 rfl rfl rfl ?_
          refine v_callVQ (q := 32) (As := []) hC dX10_shortest_29 rfl lX10_72 mX10_doNext iX10_doNext eX10_doNext rfl (hL1.1 17 (by decide)) (ct_X10_doNext d hL1 hn1 hn6 hp1 hw1 (pRow_lt k) ha) rfl rfl (by omega) (by decide) (Nat.le_of_ble_eq_true rfl) ?_
          rintro _ σ2 ⟨rfl, hS2, hw2, ha2⟩
          refine v_iinc (q := 35) (v := 1) (L' := [_, _, _, _, _]) hC dX10_shortest_32 rfl rfl (by decide) (by decide) rfl rfl ?_
          refine v_goto (q := 9) hC dX10_shortest_35 (by decide) ?_
          rw [nI_1 (k + 1)]
          exact ih (k + 1) σ2 b a (by omega) (hS.tr hS2) hw2 ha2 (pFst_f hf ((zls (pRow_lt k) hpn hn6).mp h22))
        · refine v_iload (q := 27) hC dX10_shortest_25 rfl rfl ?_
          refine v_ireturn hC hB dX10_shortest_27 ⟨Nat.le_refl _, Nat.le_refl _⟩ ?_
          have e8 : pSh n gv sn i h0 p = some k := pFst_at hf (by cases e : (pLst n (pRow n gv sn i h0 k) p).isSome with | true => rfl | false => exact absurd ((zls (pRow_lt k) hpn hn6).mpr e) h22) (by omega)
          rw [e8]
          exact ⟨rfl, hS, fun k' hk' => (by cases hk'; exact ⟨a, b, hw1, ha⟩), a, b, hw1⟩
  refine v_aload_n (q := 1) hC dX10_shortest_0 rfl rfl rfl ?_
  refine v_iload_n (q := 2) hC dX10_shortest_1 rfl rfl rfl ?_
  refine v_iload_n (q := 3) hC dX10_shortest_2 rfl rfl rfl ?_
  refine v_callVQ (q := 6) (As := [_, _]) hC dX10_shortest_3 rfl lX10_64 mX10_doFirst iX10_doFirst eX10_doFirst rfl (hL.1 17 (by decide)) (ct_X10_doFirst (d + 1) hL hn hn6 hp hw hi hh0) rfl rfl (by omega) (by decide) (Nat.le_of_ble_eq_true rfl) ?_
  rintro _ σ0 ⟨rfl, hS0, hw0, ha0⟩
  refine v_iconst (q := 7) (v := 1) hC dX10_shortest_6 rfl (by decide) ?_
  refine v_istore (q := 9) (L' := [_, _, _, _, _]) hC dX10_shortest_7 rfl (by decide) rfl rfl ?_
  exact lp 8 0 σ0 b a (by omega) hS0 hw0 ha0 rfl

theorem ztou {σ1 : zSt} {k : Nat} {T U : Nat → Bool} (hq : ∀ w, w < 6 → zI σ1 21 w = zb (T w || (decide (w < k) && U w))) (hx : U k = true) : ∀ w, w < 6 → zI (zsI σ1 21 k 1) 21 w = zb (T w || (decide (w < k + 1) && U w)) := by
  intro w hw
  rw [zI_sI]
  by_cases e : w = k
  · subst e; simp [hx, zb]
  · rw [if_neg (by omega), hq w hw]
    have : (w < k + 1) ↔ w < k := by omega
    simp [this]
theorem ztou0 {σ1 : zSt} {k : Nat} {T U : Nat → Bool} (hq : ∀ w, w < 6 → zI σ1 21 w = zb (T w || (decide (w < k) && U w))) (hx : U k = false) : ∀ w, w < 6 → zI σ1 21 w = zb (T w || (decide (w < k + 1) && U w)) := by
  intro w hw
  rw [hq w hw]
  by_cases e : w = k
  · subst e; simp [hx]
  · have : (w < k + 1) ↔ w < k := by omega
    simp [this]

set_option maxRecDepth 100000 in
set_option maxHeartbeats 4000000 in
theorem ct_X10_touchEnds (d : Nat) {σ : zSt} (hL : zLay σ) {n : Nat} (hn : zI σ 8 4 = nI n) (hn6 : n ≤ 6) {a b : Nat} (hw : zRb σ 18 a b) {R : Nat → Nat → Option Nat} (hRl : pRlt n R) (ha : zHold σ a n (fun h w => zo (R h w))) {T : Nat → Bool} (hT : ∀ w, w < 6 → zI σ 21 w = zb (T w)) : zCt (d + 2) MX10_touchEnds [.ref 17] σ (fun r σ' => r = none ∧ zSame [21] [] σ σ' ∧ ∀ w, w < 6 → zI σ' 21 w = zb (T w || (decide (w < n) && (pLst n R w).isSome))) := by
  refine zCt.of (L := [some (.ref 17), none]) (by decide) (Nat.le_of_ble_eq_true rfl) rfl (fun X hC hB => ?_)
  have hC : zC X RX10 cX10_touchEnds 2 (d + 2) 0 0 := hC
  have hB : zB X none 0 0 "touchEnds" σ _ := hB
  show zV X 2 0 [some (.ref 17), none] [] 0 0 σ
  have lp : ∀ (r : Nat) (k : Nat) (σ1 : zSt), k + r = n → zSame [21] [] σ σ1 → (∀ w, w < 6 → zI σ1 21 w = zb (T w || (decide (w < k) && (pLst n R w).isSome))) → zV X 2 2 [some (.ref 17), some (.int (nI k))] [] 0 0 σ1 := by
    intro r
    induction r with
    | zero =>
      intro k σ1 hk hS hq
      have hL1 := hL.same hS (by decide)
      have hn1 : zI σ1 8 4 = nI n := by rw [hS.2.2.2 8 (by decide)]; exact hn
      have hw1 := hw.same hS (by simp)
      have ha1 := ha.same hS (by have := hw.2; simp; omega)
      refine v_iload_n (q := 3) hC dX10_touchEnds_2 rfl rfl rfl ?_
      refine v_aload_n (q := 4) hC dX10_touchEnds_3 rfl rfl rfl ?_
      refine v_getR (q := 7) (r := 8) hC dX10_touchEnds_4 rfl fX10_22 (hL1.1 17 (by decide)) (hL1.2 17 0 8 rfl) ?_
      refine v_getI (q := 10) hC dX10_touchEnds_7 rfl fX10_34 (hL1.1 8 (by decide)) ?_
      rw [hn1]
      refine v_icmp_ge (q := 13) (tgt := 35) hC dX10_touchEnds_10 rfl (by decide) (fun h10 => ?_) (fun h10 => ?_)
      · refine v_return hC hB dX10_touchEnds_35 ⟨Nat.le_refl _, Nat.le_refl _⟩ ?_
        have e : k = n := by omega
        subst e
        exact ⟨rfl, hS, hq⟩
      · exact absurd (nI_le (a := n) (b := k) (by omega) (by omega)) h10
    | succ r ih =>
      intro k σ1 hk hS hq
      have hL1 := hL.same hS (by decide)
      have hn1 : zI σ1 8 4 = nI n := by rw [hS.2.2.2 8 (by decide)]; exact hn
      have hw1 := hw.same hS (by simp)
      have ha1 := ha.same hS (by have := hw.2; simp; omega)
      refine v_iload_n (q := 3) hC dX10_touchEnds_2 rfl rfl rfl ?_
      refine v_aload_n (q := 4) hC dX10_touchEnds_3 rfl rfl rfl ?_
      refine v_getR (q := 7) (r := 8) hC dX10_touchEnds_4 rfl fX10_22 (hL1.1 17 (by decide)) (hL1.2 17 0 8 rfl) ?_
      refine v_getI (q := 10) hC dX10_touchEnds_7 rfl fX10_34 (hL1.1 8 (by decide)) ?_
      rw [hn1]
      refine v_icmp_ge (q := 13) (tgt := 35) hC dX10_touchEnds_10 rfl (by decide) (fun h10 => ?_) (fun h10 => ?_)
      · exact absurd h10 (nI_ge (a := k) (b := n) (by omega) (by omega))
      · have hkn : k < n := by omega
        refine v_aload_n (q := 14) hC dX10_touchEnds_13 rfl rfl rfl ?_
        refine v_iload_n (q := 15) hC dX10_touchEnds_14 rfl rfl rfl ?_
        refine v_callV1 (q := 18) (As := [_]) hC dX10_touchEnds_15 rfl lX10_68 mX10_leastFirstTo iX10_leastFirstTo eX10_leastFirstTo rfl (hL1.1 17 (by decide)) (ct_X10_leastFirstTo d hL1 hn1 hn6 hw1 hRl ha1 hkn) rfl rfl (by omega) rfl (Nat.le_of_ble_eq_true rfl) ?_
        refine v_iconst (q := 19) (v := -1) hC dX10_touchEnds_18 rfl (by decide) ?_
        refine v_icmp_eq (q := 22) (tgt := 29) hC dX10_touchEnds_19 rfl (by decide) (fun h19 => ?_) (fun h19 => ?_)
        · refine v_iinc (q := 32) (v := 1) (L' := [_, _]) hC dX10_touchEnds_29 rfl rfl (by decide) (by decide) rfl rfl ?_
          refine v_goto (q := 2) hC dX10_touchEnds_32 (by decide) ?_
          rw [nI_1 k]
          first
            | exact ih (k + 1) _ (by omega) (hS.addI (by simp)) (ztou hq (by cases e : (pLst n R k).isSome with | true => rfl | false => exact absurd ((zls hRl hkn hn6).mpr e) h19))
            | exact ih (k + 1) _ (by omega) hS (ztou0 hq ((zls hRl hkn hn6).mp h19))
        · refine v_aload_n (q := 23) hC dX10_touchEnds_22 rfl rfl rfl ?_
          refine v_getR (q := 26) (r := 21) hC dX10_touchEnds_23 rfl fX10_18 (hL1.1 17 (by decide)) (hL1.2 17 3 21 rfl) ?_
          refine v_iload_n (q := 27) hC dX10_touchEnds_26 rfl rfl rfl ?_
          refine v_iconst (q := 28) (v := 1) hC dX10_touchEnds_27 rfl (by decide) ?_
          refine v_zastN (q := 29) (j := k) hC dX10_touchEnds_28 rfl (hL1.1 21 (by decide)) rfl (by omega) (by decide) (by first | exact Or.inl rfl | exact Or.inr rfl | exact zb_01 _) ?_
          refine v_iinc (q := 32) (v := 1) (L' := [_, _]) hC dX10_touchEnds_29 rfl rfl (by decide) (by decide) rfl rfl ?_
          refine v_goto (q := 2) hC dX10_touchEnds_32 (by decide) ?_
          rw [nI_1 k]
          first
            | exact ih (k + 1) _ (by omega) (hS.addI (by simp)) (ztou hq (by cases e : (pLst n R k).isSome with | true => rfl | false => exact absurd ((zls hRl hkn hn6).mpr e) h19))
            | exact ih (k + 1) _ (by omega) hS (ztou0 hq ((zls hRl hkn hn6).mp h19))
  refine v_iconst (q := 1) (v := 0) hC dX10_touchEnds_0 rfl (by decide) ?_
  refine v_istore_n (q := 2) (L' := [_, _]) hC dX10_touchEnds_1 rfl rfl (by decide) rfl rfl ?_
  exact lp n 0 σ (by omega) zSame.rf (fun w hw => by rw [hT w hw]; simp)

