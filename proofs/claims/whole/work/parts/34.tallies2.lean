/-! ===== Tallies: rings, fits, sure ===== -/
theorem pSum_le {f : Nat → Nat} {B : Nat} : ∀ (k : Nat), (∀ d, d < k → f d ≤ B) → pSum f k ≤ k * B
  | 0, _ => by simp [pSum]
  | k + 1, h => by
    simp only [pSum]
    have := pSum_le (f := f) (B := B) k (fun d hd => h d (by omega))
    have := h k (by omega)
    rw [Nat.succ_mul]; omega
theorem pSum_z {f : Nat → Nat} : ∀ (k : Nat), (∀ d, d < k → f d = 0) → pSum f k = 0
  | 0, _ => rfl
  | k + 1, h => by simp only [pSum]; rw [pSum_z k (fun d hd => h d (by omega)), h k (by omega)]
theorem pSum_congr {f g : Nat → Nat} : ∀ {k : Nat}, (∀ d, d < k → f d = g d) → pSum f k = pSum g k
  | 0, _ => rfl
  | k + 1, h => by simp only [pSum]; rw [pSum_congr (k := k) (fun d hd => h d (by omega)), h k (by omega)]
theorem tB_z {n : Nat} {gv : Nat → Nat → Bool} {t0 t1 : Int32} {h w : Nat} (hh : n ≤ h) : tB n gv t0 t1 h w = 0 := by unfold tB; rw [if_neg (by omega)]
theorem tN_z {n : Nat} {gv sn : Nat → Nat → Bool} {tw : Int32} {T : Nat → Nat → Nat} {h w : Nat} (hh : n ≤ h) : tN n gv sn tw T h w = 0 := pSum_z n (fun d _ => by unfold tM; rw [if_neg (by omega)])
theorem tB_le {n : Nat} {gv : Nat → Nat → Bool} {t0 t1 : Int32} {h w : Nat} : tB n gv t0 t1 h w ≤ 1 := by unfold tB; split <;> omega
theorem tN_le {n B : Nat} {gv sn : Nat → Nat → Bool} {tw : Int32} {T : Nat → Nat → Nat} {h w : Nat} (hn : n ≤ 6) (hT : ∀ h w, T h w ≤ B) : tN n gv sn tw T h w ≤ 6 * B := by
  have h1 := pSum_le (f := tM n gv sn tw T h w) (B := B) n (fun d _ => by unfold tM; split <;> first | exact hT d h | omega)
  have h2 : n * B ≤ 6 * B := Nat.mul_le_mul_right B hn
  exact Nat.le_trans h1 h2
theorem tS_le {T : Nat → Nat → Nat} {B : Nat} (hT : ∀ h w, T h w ≤ B) : tS T ≤ 36 * B := pSum_le 36 (fun d _ => hT _ _)
/-- chains of p by their length -/
def pRg (n : Nat) (gv sn : Nat → Nat → Bool) (p len : Nat) : Nat → Nat → Nat → Nat
  | 0 => tB n gv (nI p) (-1)
  | k + 1 => tN n gv sn (if k + 2 = len then nI p else -1) (tD p (pRg n gv sn p len k))
theorem pRg_z {n : Nat} {gv sn : Nat → Nat → Bool} {p len : Nat} : ∀ (k h w : Nat), n ≤ h → pRg n gv sn p len k h w = 0
  | 0, _, _, hh => tB_z hh
  | _ + 1, _, _, hh => tN_z hh
def pFtT (n : Nat) (gv sn : Nat → Nat → Bool) (W : Nat → Int32) : Nat → Nat → Nat → Nat
  | 0 => tB n gv (W 0) (W 1)
  | k + 1 => tN n gv sn (W (k + 2)) (pFtT n gv sn W k)
/-- in how many ways the diary of m, W, fits -/
def pFt (n : Nat) (gv sn : Nat → Nat → Bool) (m : Nat) (W : Nat → Int32) : Nat := if m = 0 then 1 else if m = 1 then (if W 0 = -1 then n else 1) else tS (pFtT n gv sn W (m - 2))
theorem pFtT_le {n : Nat} {gv sn : Nat → Nat → Bool} {W : Nat → Int32} (hn : n ≤ 6) : ∀ (k h w : Nat), pFtT n gv sn W k h w ≤ 6 ^ k
  | 0, _, _ => tB_le
  | k + 1, h, w => by
    have := tN_le (T := pFtT n gv sn W k) (B := 6 ^ k) (gv := gv) (sn := sn) (tw := W (k + 2)) (h := h) (w := w) hn (fun h w => pFtT_le hn k h w)
    simp only [pFtT]
    rw [Nat.pow_succ, Nat.mul_comm]
    exact this
theorem pFt_lt {n : Nat} {gv sn : Nat → Nat → Bool} {W : Nat → Int32} {m : Nat} (hn : n ≤ 6) (hm : m ≤ 7) : pFt n gv sn m W < 1000000 := by
  unfold pFt
  split
  · omega
  · split
    · split <;> omega
    · have h1 := tS_le (T := pFtT n gv sn W (m - 2)) (B := 6 ^ (m - 2)) (fun h w => pFtT_le hn (m - 2) h w)
      have h2 : 6 ^ (m - 2) ≤ 6 ^ 5 := Nat.pow_le_pow_right (by omega) (by omega)
      have h3 : (6 : Nat) ^ 5 = 7776 := rfl
      omega
theorem pFtT_congr {n : Nat} {gv sn : Nat → Nat → Bool} {W W' : Nat → Int32} : ∀ (k : Nat), (∀ i, i < k + 2 → W i = W' i) → pFtT n gv sn W k = pFtT n gv sn W' k
  | 0, h => by simp only [pFtT]; rw [h 0 (by omega), h 1 (by omega)]
  | k + 1, h => by simp only [pFtT]; rw [pFtT_congr k (fun i hi => h i (by omega)), h (k + 2) (by omega)]
theorem pFt_congr {n : Nat} {gv sn : Nat → Nat → Bool} {W W' : Nat → Int32} {m : Nat} (h : ∀ i, i < m → W i = W' i) : pFt n gv sn m W = pFt n gv sn m W' := by
  unfold pFt
  split
  · rfl
  · split
    · rw [h 0 (by omega)]
    · rw [pFtT_congr (m - 2) (fun i hi => h i (by omega))]

set_option maxRecDepth 100000 in
set_option maxHeartbeats 4000000 in
theorem ct_X9_ringsOf (d : Nat) {σ : zSt} (hL : zLay σ) {n : Nat} (hn : zI σ 8 4 = nI n) (hn6 : n ≤ 6) {gv sn : Nat → Nat → Bool} (hp : zSp σ n gv sn) {a b : Nat} (hw : zRb σ 23 a b) {p len : Nat} (hpn : p < n) (hl2 : 2 ≤ len) (hl6 : len ≤ 6) : zCt (d + 3) MX9_ringsOf [.ref 22, .int (nI p), .int (nI len)] σ (fun r σ' => r = some (.int (nI (tS (pRg n gv sn p len (len - 1))))) ∧ zSame [24, 25] [23] σ σ' ∧ ∃ a b, zRb σ' 23 a b) := by
  refine zCt.of (L := [some (.ref 22), some (.int (nI p)), some (.int (nI len)), none]) (by decide) (Nat.le_of_ble_eq_true rfl) rfl (fun X hC hB => ?_)
  have hC : zC X RX9 cX9_ringsOf 4 (d + 3) 0 0 := hC
  have hB : zB X (some .int) 0 0 "ringsOf" σ _ := hB
  show zV X 4 0 [some (.ref 22), some (.int (nI p)), some (.int (nI len)), none] [] 0 0 σ
  have lp : ∀ (r : Nat) (k : Nat) (σ1 : zSt) (a1 b1 : Nat), k + 1 + r = len → zSame [24, 25] [23] σ σ1 → zRb σ1 23 a1 b1 → zHold σ1 a1 6 (fun h w => nI (pRg n gv sn p len k h w)) → zV X 4 8 [some (.ref 22), some (.int (nI p)), some (.int (nI len)), some (.int (nI (k + 2)))] [] 0 0 σ1 := by
    intro r
    induction r with
    | zero =>
      intro k σ1 a1 b1 hk hS hw1 ha
      obtain ⟨hL1, hn1, hp1⟩ := zEnv3 hL hn hp hS (by decide) (by decide)
      refine v_iload_n (q := 9) hC dX9_ringsOf_8 rfl rfl rfl ?_
      refine v_iload_n (q := 10) hC dX9_ringsOf_9 rfl rfl rfl ?_
      refine v_icmp_gt (q := 13) (tgt := 38) hC dX9_ringsOf_10 rfl (by decide) (fun h10 => ?_) (fun h10 => ?_)
      · refine v_aload_n (q := 39) hC dX9_ringsOf_38 rfl rfl rfl ?_
        refine v_callV1 (q := 42) (As := []) hC dX9_ringsOf_39 rfl lX9_84 mX9_sumOfLatest iX9_sumOfLatest eX9_sumOfLatest rfl (hL1.1 22 (by decide)) (ct_X9_sumOfLatest (d + 2) hL1 hw1 ha) rfl rfl (by omega) rfl (Nat.le_of_ble_eq_true rfl) ?_
        refine v_ireturn hC hB dX9_ringsOf_42 ⟨Nat.le_refl _, Nat.le_refl _⟩ ?_
        have e : len - 1 = k := by omega
        rw [e]
        exact ⟨rfl, hS, a1, b1, hw1⟩
      · exact absurd (nI_lt (a := len) (b := k + 2) (by omega) (by omega)) h10
    | succ r ih =>
      intro k σ1 a1 b1 hk hS hw1 ha
      obtain ⟨hL1, hn1, hp1⟩ := zEnv3 hL hn hp hS (by decide) (by decide)
      refine v_iload_n (q := 9) hC dX9_ringsOf_8 rfl rfl rfl ?_
      refine v_iload_n (q := 10) hC dX9_ringsOf_9 rfl rfl rfl ?_
      refine v_icmp_gt (q := 13) (tgt := 38) hC dX9_ringsOf_10 rfl (by decide) (fun h10 => ?_) (fun h10 => ?_)
      · exact absurd h10 (nI_nlt (a := len) (b := k + 2) (by omega) (by omega))
      · refine v_aload_n (q := 14) hC dX9_ringsOf_13 rfl rfl rfl ?_
        refine v_iload_n (q := 15) hC dX9_ringsOf_14 rfl rfl rfl ?_
        refine v_callVQ (q := 18) (As := [_]) hC dX9_ringsOf_15 rfl lX9_78 mX9_dropEndsAt iX9_dropEndsAt eX9_dropEndsAt rfl (hL1.1 22 (by decide)) (ct_X9_dropEndsAt (d + 1) hL1 hn1 hn6 hw1 ha (fun h w hh => pRg_z k h w hh) hpn) rfl rfl (by omega) (by decide) (Nat.le_of_ble_eq_true rfl) ?_
        rintro _ σ2 ⟨rfl, hS2, ha2⟩
        have hS2m : zSame [24, 25] [23] σ1 σ2 := hS2.mono (by intro x hx; have := hw1.2; simp at hx ⊢; omega) (by simp)
        obtain ⟨hL2, hn2, hp2⟩ := zEnv3 hL1 hn1 hp1 hS2m (by decide) (by decide)
        refine v_aload_n (q := 19) hC dX9_ringsOf_18 rfl rfl rfl ?_
        refine v_iload_n (q := 20) hC dX9_ringsOf_19 rfl rfl rfl ?_
        refine v_iload_n (q := 21) hC dX9_ringsOf_20 rfl rfl rfl ?_
        have c0 : nI (k + 2) = nI len ↔ k + 2 = len := nI_eq (by omega) (by omega)
        refine v_icmp_ne (q := 24) (tgt := 28) hC dX9_ringsOf_21 rfl (by decide) (fun h21 => ?_) (fun h21 => ?_)
        · refine v_iconst (q := 29) (v := -1) hC dX9_ringsOf_28 rfl (by decide) ?_
          refine v_callVQ (q := 32) (As := [_]) hC dX9_ringsOf_29 rfl lX9_81 mX9_goOn iX9_goOn eX9_goOn rfl (hL2.1 22 (by decide)) (ct_X9_goOn d hL2 hn2 hn6 hp2 (hw1.same hS2 (by simp)) _ ha2) rfl rfl (by omega) (by decide) (Nat.le_of_ble_eq_true rfl) ?_
          rintro _ σ3 ⟨rfl, hS3, hw3, ha3⟩
          refine v_iinc (q := 35) (v := 1) (L' := [_, _, _, _]) hC dX9_ringsOf_32 rfl rfl (by decide) (by decide) rfl rfl ?_
          refine v_goto (q := 8) hC dX9_ringsOf_35 (by decide) ?_
          rw [nI_1 (k + 2)]
          refine ih (k + 1) σ3 b1 a1 (by omega) ((hS.tr hS2m).tr hS3) hw3 (ha3.eq (fun h w hh hw => ?_))
          simp only [pRg]
          first | rw [if_pos (c0.mp h21)] | rw [if_neg (fun z => h21 (c0.mpr z))]
        · refine v_iload_n (q := 25) hC dX9_ringsOf_24 rfl rfl rfl ?_
          refine v_goto (q := 29) hC dX9_ringsOf_25 (by decide) ?_
          refine v_callVQ (q := 32) (As := [_]) hC dX9_ringsOf_29 rfl lX9_81 mX9_goOn iX9_goOn eX9_goOn rfl (hL2.1 22 (by decide)) (ct_X9_goOn d hL2 hn2 hn6 hp2 (hw1.same hS2 (by simp)) _ ha2) rfl rfl (by omega) (by decide) (Nat.le_of_ble_eq_true rfl) ?_
          rintro _ σ3 ⟨rfl, hS3, hw3, ha3⟩
          refine v_iinc (q := 35) (v := 1) (L' := [_, _, _, _]) hC dX9_ringsOf_32 rfl rfl (by decide) (by decide) rfl rfl ?_
          refine v_goto (q := 8) hC dX9_ringsOf_35 (by decide) ?_
          rw [nI_1 (k + 2)]
          refine ih (k + 1) σ3 b1 a1 (by omega) ((hS.tr hS2m).tr hS3) hw3 (ha3.eq (fun h w hh hw => ?_))
          simp only [pRg]
          first | rw [if_pos (c0.mp h21)] | rw [if_neg (fun z => h21 (c0.mpr z))]
  refine v_aload_n (q := 1) hC dX9_ringsOf_0 rfl rfl rfl ?_
  refine v_iload_n (q := 2) hC dX9_ringsOf_1 rfl rfl rfl ?_
  refine v_iconst (q := 3) (v := -1) hC dX9_ringsOf_2 rfl (by decide) ?_
  refine v_callVQ (q := 6) (As := [_, _]) hC dX9_ringsOf_3 rfl lX9_74 mX9_begin iX9_begin eX9_begin rfl (hL.1 22 (by decide)) (ct_X9_begin d hL hn hn6 hp hw _ _) rfl rfl (by omega) (by decide) (Nat.le_of_ble_eq_true rfl) ?_
  rintro _ σ0 ⟨rfl, hS0, hw0, ha0⟩
  refine v_iconst (q := 7) (v := 2) hC dX9_ringsOf_6 rfl (by decide) ?_
  refine v_istore_n (q := 8) (L' := [_, _, _, _]) hC dX9_ringsOf_7 rfl rfl (by decide) rfl rfl ?_
  exact lp (len - 1) 0 σ0 b a (by omega) hS0 hw0 ha0

set_option maxRecDepth 100000 in
set_option maxHeartbeats 4000000 in
theorem ct_X9_fitsOf (d : Nat) {σ : zSt} (hL : zLay σ) {n : Nat} (hn : zI σ 8 4 = nI n) (hn6 : n ≤ 6) {gv sn : Nat → Nat → Bool} (hp : zSp σ n gv sn) {a b : Nat} (hw : zRb σ 23 a b) {c m : Nat} (hdr : zDr σ c) (hc : c = 26 ∨ c = 42) (hm : zI σ c 1 = nI m) (hm7 : m ≤ 7) : zCt (d + 3) MX9_fitsOf [.ref 22, .ref c] σ (fun r σ' => r = some (.int (nI (pFt n gv sn m (zI σ (c + 1))))) ∧ zSame [24, 25] [23] σ σ' ∧ ∃ a b, zRb σ' 23 a b) := by
  refine zCt.of (L := [some (.ref 22), some (.ref c), none]) (by decide) (Nat.le_of_ble_eq_true rfl) rfl (fun X hC hB => ?_)
  have hC : zC X RX9 cX9_fitsOf 3 (d + 3) 0 0 := hC
  have hB : zB X (some .int) 0 0 "fitsOf" σ _ := hB
  show zV X 3 0 [some (.ref 22), some (.ref c), none] [] 0 0 σ
  have c0 : nI m = 0 ↔ m = 0 := nI_eq (a := m) (b := 0) (by omega) (by omega)
  have c1 : nI m = 1 ↔ m = 1 := nI_eq (a := m) (b := 1) (by omega) (by omega)
  have lp : ∀ (r : Nat) (k : Nat) (σ1 : zSt) (a1 b1 : Nat), k + 2 + r = m → zSame [24, 25] [23] σ σ1 → zRb σ1 23 a1 b1 → zHold σ1 a1 6 (fun h w => nI (pFtT n gv sn (zI σ (c + 1)) k h w)) → zV X 3 57 [some (.ref 22), some (.ref c), some (.int (nI (k + 2)))] [] 0 0 σ1 := by
    intro r
    induction r with
    | zero =>
      intro k σ1 a1 b1 hk hS hw1 ha
      obtain ⟨hL1, hn1, hp1⟩ := zEnv3 hL hn hp hS (by decide) (by decide)
      have hdr1 : zDr σ1 c := ⟨by rw [hS.1]; exact hdr.1, by rw [hS.1]; exact hdr.2.1, by rw [hS.2.2.1 c (by simp; omega)]; exact hdr.2.2⟩
      have hm1 : zI σ1 c 1 = nI m := by rw [hS.2.2.2 c (by simp; omega)]; exact hm
      have hW1 : ∀ i, zI σ1 (c + 1) i = zI σ (c + 1) i := hS.2.2.2 (c + 1) (by simp; omega)
      refine v_iload_n (q := 58) hC dX9_fitsOf_57 rfl rfl rfl ?_
      refine v_aload_n (q := 59) hC dX9_fitsOf_58 rfl rfl rfl ?_
      refine v_getI (q := 62) hC dX9_fitsOf_59 rfl fX9_88 hdr1.1 ?_
      rw [hm1]
      refine v_icmp_ge (q := 65) (tgt := 81) hC dX9_fitsOf_62 rfl (by decide) (fun h62 => ?_) (fun h62 => ?_)
      · refine v_aload_n (q := 82) hC dX9_fitsOf_81 rfl rfl rfl ?_
        refine v_callV1 (q := 85) (As := []) hC dX9_fitsOf_82 rfl lX9_84 mX9_sumOfLatest iX9_sumOfLatest eX9_sumOfLatest rfl (hL1.1 22 (by decide)) (ct_X9_sumOfLatest (d + 2) hL1 hw1 ha) rfl rfl (by omega) rfl (Nat.le_of_ble_eq_true rfl) ?_
        refine v_ireturn hC hB dX9_fitsOf_85 ⟨Nat.le_refl _, Nat.le_refl _⟩ ?_
        unfold pFt
        have e : m - 2 = k := by omega
        rw [if_neg (by omega), if_neg (by omega), e]
        exact ⟨rfl, hS, a1, b1, hw1⟩
      · exact absurd (nI_le (a := m) (b := k + 2) (by omega) (by omega)) h62
    | succ r ih =>
      intro k σ1 a1 b1 hk hS hw1 ha
      obtain ⟨hL1, hn1, hp1⟩ := zEnv3 hL hn hp hS (by decide) (by decide)
      have hdr1 : zDr σ1 c := ⟨by rw [hS.1]; exact hdr.1, by rw [hS.1]; exact hdr.2.1, by rw [hS.2.2.1 c (by simp; omega)]; exact hdr.2.2⟩
      have hm1 : zI σ1 c 1 = nI m := by rw [hS.2.2.2 c (by simp; omega)]; exact hm
      have hW1 : ∀ i, zI σ1 (c + 1) i = zI σ (c + 1) i := hS.2.2.2 (c + 1) (by simp; omega)
      refine v_iload_n (q := 58) hC dX9_fitsOf_57 rfl rfl rfl ?_
      refine v_aload_n (q := 59) hC dX9_fitsOf_58 rfl rfl rfl ?_
      refine v_getI (q := 62) hC dX9_fitsOf_59 rfl fX9_88 hdr1.1 ?_
      rw [hm1]
      refine v_icmp_ge (q := 65) (tgt := 81) hC dX9_fitsOf_62 rfl (by decide) (fun h62 => ?_) (fun h62 => ?_)
      · exact absurd h62 (nI_ge (a := k + 2) (b := m) (by omega) (by omega))
      · refine v_aload_n (q := 66) hC dX9_fitsOf_65 rfl rfl rfl ?_
        refine v_aload_n (q := 67) hC dX9_fitsOf_66 rfl rfl rfl ?_
        refine v_getR (q := 70) (r := (c + 1)) hC dX9_fitsOf_67 rfl fX9_89 hdr1.1 hdr1.2.2 ?_
        refine v_iload_n (q := 71) hC dX9_fitsOf_70 rfl rfl rfl ?_
        refine v_ialdN (q := 72) (j := k + 2) hC dX9_fitsOf_71 rfl hdr1.2.1 rfl (by omega) (by decide) ?_
        rw [hW1]
        refine v_callVQ (q := 75) (As := [_]) hC dX9_fitsOf_72 rfl lX9_81 mX9_goOn iX9_goOn eX9_goOn rfl (hL1.1 22 (by decide)) (ct_X9_goOn d hL1 hn1 hn6 hp1 hw1 _ ha) rfl rfl (by omega) (by decide) (Nat.le_of_ble_eq_true rfl) ?_
        rintro _ σ3 ⟨rfl, hS3, hw3, ha3⟩
        refine v_iinc (q := 78) (v := 1) (L' := [_, _, _]) hC dX9_fitsOf_75 rfl rfl (by decide) (by decide) rfl rfl ?_
        refine v_goto (q := 57) hC dX9_fitsOf_78 (by decide) ?_
        rw [nI_1 (k + 2)]
        exact ih (k + 1) σ3 b1 a1 (by omega) (hS.tr hS3) hw3 ha3
  refine v_aload_n (q := 1) hC dX9_fitsOf_0 rfl rfl rfl ?_
  refine v_getI (q := 4) hC dX9_fitsOf_1 rfl fX9_88 hdr.1 ?_
  rw [hm]
  refine v_if_ne (q := 7) (tgt := 9) hC dX9_fitsOf_4 rfl (by decide) (fun h4 => ?_) (fun h4 => ?_)
  · have m0 : ¬ m = 0 := fun z => h4 (c0.mpr z)
    refine v_aload_n (q := 10) hC dX9_fitsOf_9 rfl rfl rfl ?_
    refine v_getI (q := 13) hC dX9_fitsOf_10 rfl fX9_88 hdr.1 ?_
    rw [hm]
    refine v_iconst (q := 14) (v := 1) hC dX9_fitsOf_13 rfl (by decide) ?_
    refine v_icmp_ne (q := 17) (tgt := 39) hC dX9_fitsOf_14 rfl (by decide) (fun h14 => ?_) (fun h14 => ?_)
    · refine v_aload_n (q := 40) hC dX9_fitsOf_39 rfl rfl rfl ?_
      refine v_aload_n (q := 41) hC dX9_fitsOf_40 rfl rfl rfl ?_
      refine v_getR (q := 44) (r := (c + 1)) hC dX9_fitsOf_41 rfl fX9_89 hdr.1 hdr.2.2 ?_
      refine v_iconst (q := 45) (v := 0) hC dX9_fitsOf_44 rfl (by decide) ?_
      refine v_ialdN (q := 46) (j := 0) hC dX9_fitsOf_45 rfl hdr.2.1 rfl (by omega) (by decide) ?_
      refine v_aload_n (q := 47) hC dX9_fitsOf_46 rfl rfl rfl ?_
      refine v_getR (q := 50) (r := (c + 1)) hC dX9_fitsOf_47 rfl fX9_89 hdr.1 hdr.2.2 ?_
      refine v_iconst (q := 51) (v := 1) hC dX9_fitsOf_50 rfl (by decide) ?_
      refine v_ialdN (q := 52) (j := 1) hC dX9_fitsOf_51 rfl hdr.2.1 rfl (by omega) (by decide) ?_
      refine v_callVQ (q := 55) (As := [_, _]) hC dX9_fitsOf_52 rfl lX9_74 mX9_begin iX9_begin eX9_begin rfl (hL.1 22 (by decide)) (ct_X9_begin d hL hn hn6 hp hw _ _) rfl rfl (by omega) (by decide) (Nat.le_of_ble_eq_true rfl) ?_
      rintro _ σ0 ⟨rfl, hS0, hw0, ha0⟩
      refine v_iconst (q := 56) (v := 2) hC dX9_fitsOf_55 rfl (by decide) ?_
      refine v_istore_n (q := 57) (L' := [_, _, _]) hC dX9_fitsOf_56 rfl rfl (by decide) rfl rfl ?_
      have m1 : ¬ m = 1 := fun z => h14 (c1.mpr z)
      exact lp (m - 2) 0 σ0 b a (by omega) hS0 hw0 ha0
    · refine v_aload_n (q := 18) hC dX9_fitsOf_17 rfl rfl rfl ?_
      refine v_getR (q := 21) (r := (c + 1)) hC dX9_fitsOf_18 rfl fX9_89 hdr.1 hdr.2.2 ?_
      refine v_iconst (q := 22) (v := 0) hC dX9_fitsOf_21 rfl (by decide) ?_
      refine v_ialdN (q := 23) (j := 0) hC dX9_fitsOf_22 rfl hdr.2.1 rfl (by omega) (by decide) ?_
      refine v_iconst (q := 24) (v := -1) hC dX9_fitsOf_23 rfl (by decide) ?_
      refine v_icmp_ne (q := 27) (tgt := 37) hC dX9_fitsOf_24 rfl (by decide) (fun h24 => ?_) (fun h24 => ?_)
      · refine v_iconst (q := 38) (v := 1) hC dX9_fitsOf_37 rfl (by decide) ?_
        try rw [hn]
        refine v_ireturn hC hB dX9_fitsOf_38 ⟨Nat.le_refl _, Nat.le_refl _⟩ ?_
        have m1 : m = 1 := c1.mp h14
        unfold pFt
        rw [if_neg m0, if_pos m1]
        first | (rw [if_pos h24]; exact ⟨rfl, zSame.rf, a, b, hw⟩) | (rw [if_neg h24]; exact ⟨rfl, zSame.rf, a, b, hw⟩)
      · refine v_aload_n (q := 28) hC dX9_fitsOf_27 rfl rfl rfl ?_
        refine v_getR (q := 31) (r := 8) hC dX9_fitsOf_28 rfl fX9_25 (hL.1 22 (by decide)) (hL.2 22 0 8 rfl) ?_
        refine v_getI (q := 34) hC dX9_fitsOf_31 rfl fX9_37 (hL.1 8 (by decide)) ?_
        refine v_goto (q := 38) hC dX9_fitsOf_34 (by decide) ?_
        try rw [hn]
        refine v_ireturn hC hB dX9_fitsOf_38 ⟨Nat.le_refl _, Nat.le_refl _⟩ ?_
        have m1 : m = 1 := c1.mp h14
        unfold pFt
        rw [if_neg m0, if_pos m1]
        first | (rw [if_pos h24]; exact ⟨rfl, zSame.rf, a, b, hw⟩) | (rw [if_neg h24]; exact ⟨rfl, zSame.rf, a, b, hw⟩)
  · refine v_iconst (q := 8) (v := 1) hC dX9_fitsOf_7 rfl (by decide) ?_
    refine v_ireturn hC hB dX9_fitsOf_8 ⟨Nat.le_refl _, Nat.le_refl _⟩ ?_
    have m0 : m = 0 := c0.mp h4
    unfold pFt
    rw [if_pos m0]
    exact ⟨rfl, zSame.rf, a, b, hw⟩

def zup (W : Nat → Int32) (q : Nat) (x : Int32) (i : Nat) : Int32 := if i = q then x else W i
def pOn (n : Nat) (gv sn : Nat → Nat → Bool) (m : Nat) (W : Nat → Int32) (q w : Nat) : Bool := pCb w (W q) && decide (0 < pFt n gv sn m (zup W q (nI w)))
/-- the only one -/
def pOnly (P : Nat → Bool) (n : Nat) : Option Nat := if pCnt P n = 1 then pFst P n else none
theorem pCnt_mono {P : Nat → Bool} (i : Nat) : ∀ (k : Nat), pCnt P i ≤ pCnt P (i + k)
  | 0 => Nat.le_refl _
  | k + 1 => by rw [← Nat.add_assoc]; simp only [pCnt]; have := pCnt_mono (P := P) i k; omega
theorem pCnt_fst {P : Nat → Bool} : ∀ (k : Nat), pFst P k = none ↔ pCnt P k = 0
  | 0 => by simp [pFst, pCnt]
  | k + 1 => by
    have ih := pCnt_fst (P := P) k
    simp only [pFst, pCnt]
    cases e : pFst P k with
    | some g => rw [e] at ih; simp at ih ⊢; intro h; exact absurd h ih
    | none => rw [e] at ih; simp at ih; rw [ih]; cases P k <;> simp
theorem pOnly_two {P : Nat → Bool} {k n : Nat} (h1 : ¬ pFst P k = none) (h2 : P k = true) (hk : k < n) : pOnly P n = none := by
  have a1 : 1 ≤ pCnt P k := by
    rcases Nat.eq_zero_or_pos (pCnt P k) with z | z
    · exact absurd ((pCnt_fst k).mpr z) h1
    · exact z
  have a2 : pCnt P (k + 1) = pCnt P k + 1 := by simp [pCnt, h2]
  have a3 := pCnt_mono (P := P) (k + 1) (n - (k + 1))
  rw [show k + 1 + (n - (k + 1)) = n by omega] at a3
  unfold pOnly
  rw [if_neg (by omega)]
theorem pOnly_end {P : Nat → Bool} {n : Nat} (h : pCnt P n ≤ 1) : pOnly P n = pFst P n := by
  unfold pOnly
  split
  · rfl
  · exact ((pCnt_fst n).mpr (by omega)).symm
theorem zon1 {P : Nat → Bool} {k : Nat} (h : pFst P k = none) (hP : P k = true) : nI k = zo (pFst P (k + 1)) ∧ pCnt P (k + 1) ≤ 1 := by
  refine ⟨by rw [pFst_t h hP]; rfl, ?_⟩
  have := (pCnt_fst k).mp h
  simp [pCnt, hP, this]
theorem zon0 {P : Nat → Bool} {k : Nat} (hP : P k = false) : zo (pFst P k) = zo (pFst P (k + 1)) ∧ pCnt P (k + 1) = pCnt P k := by
  constructor
  · simp only [pFst]; cases pFst P k <;> simp [hP]
  · simp [pCnt, hP]
theorem zfo {P : Nat → Bool} {k : Nat} (hk : k ≤ 100) : zo (pFst P k) = -1 ↔ pFst P k = none := zo_eq (n := k) (fun g hg => (pFst_some hg).1) hk
theorem zgu {σ σ1 : zSt} {q : Nat} {x : Int32} (hg : ∀ i, i < 7 → i ≠ q → zI σ1 27 i = zI σ 43 i) : ∀ i, i < 7 → zI (zsI σ1 27 q x) 27 i = zup (zI σ 43) q x i := by
  intro i hi
  unfold zup
  rw [zI_sI]
  by_cases e : i = q
  · simp [e]
  · rw [if_neg (fun z => e z.2), if_neg e]; exact hg i hi e
theorem ct_X0_copyQ (d : Nat) {σ : zSt} {c e : Nat} (hp : zDr σ c) (he : zDr σ e) (hce : e ≠ c ∧ e + 1 ≠ c ∧ e ≠ c + 1) : zCt (d + 1) MX0_copyFrom [.ref c, .ref e] σ (fun r σ' => r = none ∧ zSame [c, c + 1] [] σ σ' ∧ (∀ j, j < 7 → zI σ' (c + 1) j = zI σ (e + 1) j) ∧ zI σ' c 1 = zI σ e 1) := by
  refine zCt.mono (ct_X0_copyFrom d hp he) ?_
  rintro r σ' ⟨rfl, rfl⟩
  refine ⟨rfl, (zSame.sA (by simp)).addI (by simp), fun j hj => ?_, ?_⟩
  · rw [zI_sI, if_neg (by omega), zI_sA, if_pos rfl, if_pos hj]
  · rw [zI_sI, if_pos ⟨rfl, rfl⟩, zI_sA, if_neg hce.2.2]

set_option maxRecDepth 100000 in
set_option maxHeartbeats 4000000 in
theorem ct_X9_onlyOneAt (d : Nat) {σ : zSt} (hL : zLay σ) {n : Nat} (hn : zI σ 8 4 = nI n) (hn6 : n ≤ 6) {gv sn : Nat → Nat → Bool} (hp : zSp σ n gv sn) {a b : Nat} (hw : zRb σ 23 a b) {m q : Nat} (hm : zI σ 42 1 = nI m) (hm7 : m ≤ 7) (hq : q < m) : zCt (d + 4) MX9_onlyOneAt [.ref 22, .ref 42, .int (nI q)] σ (fun r σ' => r = some (.int (zo (pOnly (pOn n gv sn m (zI σ 43) q) n))) ∧ zSame [24, 25, 26, 27] [23] σ σ' ∧ ∃ a b, zRb σ' 23 a b) := by
  refine zCt.of (L := [some (.ref 22), some (.ref 42), some (.int (nI q)), none, none]) (by decide) (Nat.le_of_ble_eq_true rfl) rfl (fun X hC hB => ?_)
  have hC : zC X RX9 cX9_onlyOneAt 5 (d + 4) 0 0 := hC
  have hB : zB X (some .int) 0 0 "onlyOneAt" σ _ := hB
  show zV X 5 0 [some (.ref 22), some (.ref 42), some (.int (nI q)), none, none] [] 0 0 σ
  have lp : ∀ (r : Nat) (k : Nat) (x : Int32) (σ1 : zSt) (a1 b1 : Nat), k + r = n → x = zo (pFst (pOn n gv sn m (zI σ 43) q) k) → pCnt (pOn n gv sn m (zI σ 43) q) k ≤ 1 → zSame [24, 25, 26, 27] [23] σ σ1 → zRb σ1 23 a1 b1 → (∀ i, i < 7 → i ≠ q → zI σ1 27 i = zI σ 43 i) → zI σ1 26 1 = nI m → zV X 5 13 [some (.ref 22), some (.ref 42), some (.int (nI q)), some (.int x), some (.int (nI k))] [] 0 0 σ1 := by
    intro r
    induction r with
    | zero =>
      intro k x σ1 a1 b1 hk hx hc1 hS hw1 hg hs26
      obtain ⟨hL1, hn1, hp1⟩ := zEnv3 hL hn hp hS (by decide) (by decide)
      subst hx
      refine v_iload (q := 15) hC dX9_onlyOneAt_13 rfl rfl ?_
      refine v_aload_n (q := 16) hC dX9_onlyOneAt_15 rfl rfl rfl ?_
      refine v_getR (q := 19) (r := 8) hC dX9_onlyOneAt_16 rfl fX9_25 (hL1.1 22 (by decide)) (hL1.2 22 0 8 rfl) ?_
      refine v_getI (q := 22) hC dX9_onlyOneAt_19 rfl fX9_37 (hL1.1 8 (by decide)) ?_
      rw [hn1]
      refine v_icmp_ge (q := 25) (tgt := 77) hC dX9_onlyOneAt_22 rfl (by decide) (fun h22 => ?_) (fun h22 => ?_)
      · refine v_iload_n (q := 78) hC dX9_onlyOneAt_77 rfl rfl rfl ?_
        refine v_ireturn hC hB dX9_onlyOneAt_78 ⟨Nat.le_refl _, Nat.le_refl _⟩ ?_
        have e : k = n := by omega
        subst e
        rw [pOnly_end hc1]
        exact ⟨rfl, hS, a1, b1, hw1⟩
      · exact absurd (nI_le (a := n) (b := k) (by omega) (by omega)) h22
    | succ r ih =>
      intro k x σ1 a1 b1 hk hx hc1 hS hw1 hg hs26
      obtain ⟨hL1, hn1, hp1⟩ := zEnv3 hL hn hp hS (by decide) (by decide)
      subst hx
      refine v_iload (q := 15) hC dX9_onlyOneAt_13 rfl rfl ?_
      refine v_aload_n (q := 16) hC dX9_onlyOneAt_15 rfl rfl rfl ?_
      refine v_getR (q := 19) (r := 8) hC dX9_onlyOneAt_16 rfl fX9_25 (hL1.1 22 (by decide)) (hL1.2 22 0 8 rfl) ?_
      refine v_getI (q := 22) hC dX9_onlyOneAt_19 rfl fX9_37 (hL1.1 8 (by decide)) ?_
      rw [hn1]
      refine v_icmp_ge (q := 25) (tgt := 77) hC dX9_onlyOneAt_22 rfl (by decide) (fun h22 => ?_) (fun h22 => ?_)
      · exact absurd h22 (nI_ge (a := k) (b := n) (by omega) (by omega))
      · refine v_aload_n (q := 26) hC dX9_onlyOneAt_25 rfl rfl rfl ?_
        refine v_getR (q := 29) (r := 26) hC dX9_onlyOneAt_26 rfl fX9_21 (hL1.1 22 (by decide)) (hL1.2 22 3 26 rfl) ?_
        refine v_getR (q := 32) (r := 27) hC dX9_onlyOneAt_29 rfl fX9_89 (hL1.1 26 (by decide)) (hL1.2 26 0 27 rfl) ?_
        refine v_iload_n (q := 33) hC dX9_onlyOneAt_32 rfl rfl rfl ?_
        refine v_iload (q := 35) hC dX9_onlyOneAt_33 rfl rfl ?_
        refine v_iastN (q := 36) (j := q) hC dX9_onlyOneAt_35 rfl (hL1.1 27 (by decide)) rfl (by omega) (by decide) ?_
        have hkn : k < n := by omega
        have hSg : zSame [24, 25, 26, 27] [23] σ (zsI σ1 27 q (nI k)) := hS.addI (by simp)
        have hg2 := zgu (x := nI k) hg
        have hs2 : zI (zsI σ1 27 q (nI k)) 26 1 = nI m := by rw [zI_ne (by omega)]; exact hs26
        have hw2 : zRb (zsI σ1 27 q (nI k)) 23 a1 b1 := hw1.same (zSame.sI (cs := [27]) (rs := []) (by simp)) (by simp)
        generalize zsI σ1 27 q (nI k) = σ2 at hSg hg2 hs2 hw2 ⊢
        obtain ⟨hL2, hn2, hp2⟩ := zEnv3 hL hn hp hSg (by decide) (by decide)
        refine v_iload (q := 38) hC dX9_onlyOneAt_36 rfl rfl ?_
        refine v_aload_n (q := 39) hC dX9_onlyOneAt_38 rfl rfl rfl ?_
        refine v_getR (q := 42) (r := 43) hC dX9_onlyOneAt_39 rfl fX9_89 (hL2.1 42 (by decide)) (hL2.2 42 0 43 rfl) ?_
        refine v_iload_n (q := 43) hC dX9_onlyOneAt_42 rfl rfl rfl ?_
        refine v_ialdN (q := 44) (j := q) hC dX9_onlyOneAt_43 rfl (hL2.1 43 (by decide)) rfl (by omega) (by decide) ?_
        rw [hSg.2.2.2 43 (by decide)]
        refine v_callS1 (q := 47) (As := [_, _]) hC dX9_onlyOneAt_44 rfl lX9_43 mX9_canBe sX9_canBe (ct_X9_canBe (d + 3) (by omega) _) rfl rfl (by omega) rfl (Nat.le_of_ble_eq_true rfl) ?_
        refine v_if_eq (q := 50) (tgt := 71) hC dX9_onlyOneAt_47 rfl (by decide) (fun h47 => ?_) (fun h47 => ?_)
        · have hcb0 : pOn n gv sn m (zI σ 43) q k = false := by unfold pOn; rw [zb_eq0.mp h47]; rfl
          refine v_iinc (q := 74) (v := 1) (L' := [_, _, _, _, _]) hC dX9_onlyOneAt_71 rfl rfl (by decide) (by decide) rfl rfl ?_
          refine v_goto (q := 13) hC dX9_onlyOneAt_74 (by decide) ?_
          rw [nI_1 k]
          first
            | exact ih (k + 1) _ σ3 a3 b3 (by omega) (zon1 hx62 hon).1 (zon1 hx62 hon).2 (hSg.tr (hS3.mono (by simp) (by simp))) hw3 (fun i hi hq9 => by rw [hS3.2.2.2 27 (by decide), hg2 i hi]; unfold zup; rw [if_neg hq9]) (by rw [hS3.2.2.2 26 (by decide)]; exact hs2)
            | exact ih (k + 1) _ σ3 a3 b3 (by omega) (zon0 hon0).1 (by rw [(zon0 hon0).2]; exact hc1) (hSg.tr (hS3.mono (by simp) (by simp))) hw3 (fun i hi hq9 => by rw [hS3.2.2.2 27 (by decide), hg2 i hi]; unfold zup; rw [if_neg hq9]) (by rw [hS3.2.2.2 26 (by decide)]; exact hs2)
            | exact ih (k + 1) _ σ2 a1 b1 (by omega) (zon0 hcb0).1 (by rw [(zon0 hcb0).2]; exact hc1) hSg hw2 (fun i hi hq9 => by rw [hg2 i hi]; unfold zup; rw [if_neg hq9]) hs2
        · have hcb : pCb k (zI σ 43 q) = true := by simpa [zb_eq0] using h47
          refine v_aload_n (q := 51) hC dX9_onlyOneAt_50 rfl rfl rfl ?_
          refine v_aload_n (q := 52) hC dX9_onlyOneAt_51 rfl rfl rfl ?_
          refine v_getR (q := 55) (r := 26) hC dX9_onlyOneAt_52 rfl fX9_21 (hL2.1 22 (by decide)) (hL2.2 22 3 26 rfl) ?_
          refine v_callVQ (q := 58) (As := [_]) hC dX9_onlyOneAt_55 rfl lX9_96 mX9_fitsOf iX9_fitsOf eX9_fitsOf rfl (hL2.1 22 (by decide)) (ct_X9_fitsOf d hL2 hn2 hn6 hp2 hw2 (zDr.of hL2 (c := 26) (by simp)) (by simp) hs2 hm7) rfl rfl (by omega) (by decide) (Nat.le_of_ble_eq_true rfl) ?_
          rintro _ σ3 ⟨rfl, hS3, a3, b3, hw3⟩
          have hpf : pFt n gv sn m (zI σ2 27) = pFt n gv sn m (zup (zI σ 43) q (nI k)) := pFt_congr (fun i hi => hg2 i (by omega))
          rw [hpf]
          have hlt := pFt_lt (gv := gv) (sn := sn) (W := zup (zI σ 43) q (nI k)) hn6 hm7
          refine v_if_le (q := 61) (tgt := 71) hC dX9_onlyOneAt_58 rfl (by decide) (fun h58 => ?_) (fun h58 => ?_)
          · have hz : pFt n gv sn m (zup (zI σ 43) q (nI k)) = 0 := by have := (nI_leI (a := pFt n gv sn m (zup (zI σ 43) q (nI k))) (b := 0) (by omega) (by omega)).mp h58; omega
            have hon0 : pOn n gv sn m (zI σ 43) q k = false := by unfold pOn; rw [hz]; simp
            refine v_iinc (q := 74) (v := 1) (L' := [_, _, _, _, _]) hC dX9_onlyOneAt_71 rfl rfl (by decide) (by decide) rfl rfl ?_
            refine v_goto (q := 13) hC dX9_onlyOneAt_74 (by decide) ?_
            rw [nI_1 k]
            first
              | exact ih (k + 1) _ σ3 a3 b3 (by omega) (zon1 hx62 hon).1 (zon1 hx62 hon).2 (hSg.tr (hS3.mono (by simp) (by simp))) hw3 (fun i hi hq9 => by rw [hS3.2.2.2 27 (by decide), hg2 i hi]; unfold zup; rw [if_neg hq9]) (by rw [hS3.2.2.2 26 (by decide)]; exact hs2)
              | exact ih (k + 1) _ σ3 a3 b3 (by omega) (zon0 hon0).1 (by rw [(zon0 hon0).2]; exact hc1) (hSg.tr (hS3.mono (by simp) (by simp))) hw3 (fun i hi hq9 => by rw [hS3.2.2.2 27 (by decide), hg2 i hi]; unfold zup; rw [if_neg hq9]) (by rw [hS3.2.2.2 26 (by decide)]; exact hs2)
              | exact ih (k + 1) _ σ2 a1 b1 (by omega) (zon0 hcb0).1 (by rw [(zon0 hcb0).2]; exact hc1) hSg hw2 (fun i hi hq9 => by rw [hg2 i hi]; unfold zup; rw [if_neg hq9]) hs2
          · have hz : 0 < pFt n gv sn m (zup (zI σ 43) q (nI k)) := Nat.not_le.mp (fun z => h58 ((nI_leI (a := pFt n gv sn m (zup (zI σ 43) q (nI k))) (b := 0) (by omega) (by omega)).mpr z))
            have hon : pOn n gv sn m (zI σ 43) q k = true := by unfold pOn; rw [hcb]; simp [hz]
            refine v_iload_n (q := 62) hC dX9_onlyOneAt_61 rfl rfl rfl ?_
            refine v_iconst (q := 63) (v := -1) hC dX9_onlyOneAt_62 rfl (by decide) ?_
            refine v_icmp_eq (q := 66) (tgt := 68) hC dX9_onlyOneAt_63 rfl (by decide) (fun h63 => ?_) (fun h63 => ?_)
            · have hx62 := (zfo (by omega)).mp h63
              refine v_iload (q := 70) hC dX9_onlyOneAt_68 rfl rfl ?_
              refine v_istore_n (q := 71) (L' := [_, _, _, _, _]) hC dX9_onlyOneAt_70 rfl rfl (by decide) rfl rfl ?_
              refine v_iinc (q := 74) (v := 1) (L' := [_, _, _, _, _]) hC dX9_onlyOneAt_71 rfl rfl (by decide) (by decide) rfl rfl ?_
              refine v_goto (q := 13) hC dX9_onlyOneAt_74 (by decide) ?_
              rw [nI_1 k]
              first
                | exact ih (k + 1) _ σ3 a3 b3 (by omega) (zon1 hx62 hon).1 (zon1 hx62 hon).2 (hSg.tr (hS3.mono (by simp) (by simp))) hw3 (fun i hi hq9 => by rw [hS3.2.2.2 27 (by decide), hg2 i hi]; unfold zup; rw [if_neg hq9]) (by rw [hS3.2.2.2 26 (by decide)]; exact hs2)
                | exact ih (k + 1) _ σ3 a3 b3 (by omega) (zon0 hon0).1 (by rw [(zon0 hon0).2]; exact hc1) (hSg.tr (hS3.mono (by simp) (by simp))) hw3 (fun i hi hq9 => by rw [hS3.2.2.2 27 (by decide), hg2 i hi]; unfold zup; rw [if_neg hq9]) (by rw [hS3.2.2.2 26 (by decide)]; exact hs2)
                | exact ih (k + 1) _ σ2 a1 b1 (by omega) (zon0 hcb0).1 (by rw [(zon0 hcb0).2]; exact hc1) hSg hw2 (fun i hi hq9 => by rw [hg2 i hi]; unfold zup; rw [if_neg hq9]) hs2
            · have hx63 : ¬ pFst (pOn n gv sn m (zI σ 43) q) k = none := fun z => h63 ((zfo (by omega)).mpr z)
              refine v_iconst (q := 67) (v := -1) hC dX9_onlyOneAt_66 rfl (by decide) ?_
              refine v_ireturn hC hB dX9_onlyOneAt_67 ⟨Nat.le_refl _, Nat.le_refl _⟩ ?_
              rw [pOnly_two (k := k) hx63 hon hkn]
              exact ⟨rfl, hSg.tr (hS3.mono (by simp) (by simp)), a3, b3, hw3⟩
  refine v_iconst (q := 1) (v := -1) hC dX9_onlyOneAt_0 rfl (by decide) ?_
  refine v_istore_n (q := 2) (L' := [_, _, _, _, _]) hC dX9_onlyOneAt_1 rfl rfl (by decide) rfl rfl ?_
  refine v_aload_n (q := 3) hC dX9_onlyOneAt_2 rfl rfl rfl ?_
  refine v_getR (q := 6) (r := 26) hC dX9_onlyOneAt_3 rfl fX9_21 (hL.1 22 (by decide)) (hL.2 22 3 26 rfl) ?_
  refine v_aload_n (q := 7) hC dX9_onlyOneAt_6 rfl rfl rfl ?_
  refine v_callVQ (q := 10) (As := [_]) hC dX9_onlyOneAt_7 rfl lX9_92 mX0_copyFrom iX0_copyFrom eX0_copyFrom rfl (hL.1 26 (by decide)) (ct_X0_copyQ (d + 2) (zDr.of hL (c := 26) (by simp)) (zDr.of hL (c := 42) (by simp)) (by decide)) rfl rfl (by omega) (by decide) (Nat.le_of_ble_eq_true rfl) ?_
  rintro _ σ0 ⟨rfl, hS0, g0, g1⟩
  refine v_iconst (q := 11) (v := 0) hC dX9_onlyOneAt_10 rfl (by decide) ?_
  refine v_istore (q := 13) (L' := [_, _, _, _, _]) hC dX9_onlyOneAt_11 rfl (by decide) rfl rfl ?_
  exact lp n 0 _ σ0 a b (by omega) rfl (Nat.zero_le 1) (hS0.mono (by simp) (by simp)) (hw.same hS0 (by simp)) (fun i hi _ => g0 i hi) (by rw [g1]; exact hm)

