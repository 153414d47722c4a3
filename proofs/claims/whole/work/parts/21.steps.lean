/-! ===== Folk.begin, Page, Diary, Draws, Rows, Steps ===== -/
theorem ct_X6_copyQ (d : Nat) {σ : zSt} {c e : Nat} (hp : zPr σ c) (he : zPr σ e) (hce : e ≠ c ∧ e + 1 ≠ c ∧ e ≠ c + 1) (h01 : ∀ j, j < 36 → zI σ (e + 1) j = 0 ∨ zI σ (e + 1) j = 1) : zCt (d + 1) MX6_copyFrom [.ref c, .ref e] σ (fun r σ' => r = none ∧ zSame [c, c + 1] [] σ σ' ∧ (∀ j, j < 36 → zI σ' (c + 1) j = zI σ (e + 1) j) ∧ zI σ' c 1 = zI σ e 1) := by
  refine zCt.mono (ct_X6_copyFrom d hp he h01) ?_
  rintro r σ' ⟨rfl, rfl⟩
  refine ⟨rfl, (zSame.sA (by simp)).addI (by simp), fun j hj => ?_, ?_⟩
  · rw [zI_sI, if_neg (by omega), zI_sA, if_pos rfl, if_pos hj]
  · rw [zI_sI, if_pos ⟨rfl, rfl⟩, zI_sA, if_neg hce.2.2]

set_option maxRecDepth 100000 in
set_option maxHeartbeats 4000000 in
theorem ct_X2_begin (d : Nat) {σ : zSt} (hL : zLay σ) (h5 : ∀ j, j < 36 → zI σ 5 j = 0 ∨ zI σ 5 j = 1) (h7 : ∀ j, j < 36 → zI σ 7 j = 0 ∨ zI σ 7 j = 1) : zCt (d + 2) MX2_begin [.ref 8, .ref 3] σ (fun r σ' => r = none ∧ zSame [8, 9, 10, 11, 12] [] σ σ' ∧ (∀ j, j < 36 → zI σ' 10 j = zI σ 5 j) ∧ (∀ j, j < 36 → zI σ' 12 j = zI σ 7 j) ∧ zI σ' 9 1 = zI σ 4 1 ∧ zI σ' 11 1 = zI σ 6 1 ∧ zI σ' 8 3 = zI σ 3 2 ∧ zI σ' 8 4 = 0) := by
  refine zCt.of (L := [some (.ref 8), some (.ref 3)]) (by decide) (Nat.le_of_ble_eq_true rfl) rfl (fun X hC hB => ?_)
  have hC : zC X RX2 cX2_begin 2 (d + 2) 0 0 := hC
  have hB : zB X none 0 0 "begin" σ _ := hB
  show zV X 2 0 [some (.ref 8), some (.ref 3)] [] 0 0 σ
  refine v_aload_n (q := 1) hC dX2_begin_0 rfl rfl rfl ?_
  refine v_getR (q := 4) (r := 9) hC dX2_begin_1 rfl fX2_12 (hL.1 8 (by decide)) (hL.2 8 0 9 rfl) ?_
  refine v_aload_n (q := 5) hC dX2_begin_4 rfl rfl rfl ?_
  refine v_getR (q := 8) (r := 4) hC dX2_begin_5 rfl fX2_25 (hL.1 3 (by decide)) (hL.2 3 0 4 rfl) ?_
  refine v_callVQ (q := 11) (As := [_]) hC dX2_begin_8 rfl lX2_28 mX6_copyFrom iX6_copyFrom eX6_copyFrom rfl (hL.1 9 (by decide)) (ct_X6_copyQ d (zPr.of hL (c := 9) (by simp)) (zPr.of hL (c := 4) (by simp)) (by decide) h5) rfl rfl (by omega) (by decide) (Nat.le_of_ble_eq_true rfl) ?_
  rintro _ σ1 ⟨rfl, hS1, g1, g2⟩
  have hL1 := hL.same hS1 rfl
  refine v_aload_n (q := 12) hC dX2_begin_11 rfl rfl rfl ?_
  refine v_getR (q := 15) (r := 11) hC dX2_begin_12 rfl fX2_18 (hL1.1 8 (by decide)) (hL1.2 8 1 11 rfl) ?_
  refine v_aload_n (q := 16) hC dX2_begin_15 rfl rfl rfl ?_
  refine v_getR (q := 19) (r := 6) hC dX2_begin_16 rfl fX2_32 (hL1.1 3 (by decide)) (hL1.2 3 1 6 rfl) ?_
  refine v_callVQ (q := 22) (As := [_]) hC dX2_begin_19 rfl lX2_28 mX6_copyFrom iX6_copyFrom eX6_copyFrom rfl (hL1.1 11 (by decide)) (ct_X6_copyQ d (zPr.of hL1 (c := 11) (by simp)) (zPr.of hL1 (c := 6) (by simp)) (by decide) (fun j hj => by rw [hS1.2.2.2 7 (by decide)]; exact h7 j hj)) rfl rfl (by omega) (by decide) (Nat.le_of_ble_eq_true rfl) ?_
  rintro _ σ2 ⟨rfl, hS2, g3, g4⟩
  have hL2 := hL1.same hS2 rfl
  refine v_aload_n (q := 23) hC dX2_begin_22 rfl rfl rfl ?_
  refine v_aload_n (q := 24) hC dX2_begin_23 rfl rfl rfl ?_
  refine v_getI (q := 27) hC dX2_begin_24 rfl fX2_33 (hL2.1 3 (by decide)) ?_
  refine v_putI (q := 30) hC dX2_begin_27 rfl fX2_37 (hL2.1 8 (by decide)) ?_
  refine v_aload_n (q := 31) hC dX2_begin_30 rfl rfl rfl ?_
  refine v_iconst (q := 32) (v := 0) hC dX2_begin_31 rfl (by decide) ?_
  refine v_putI (q := 35) hC dX2_begin_32 rfl fX2_38 (hL2.1 8 (by decide)) ?_
  refine v_return hC hB dX2_begin_35 ⟨Nat.le_refl _, Nat.le_refl _⟩ ?_
  have e3 : zI σ2 3 2 = zI σ 3 2 := by rw [hS2.2.2.2 3 (by decide), hS1.2.2.2 3 (by decide)]
  refine ⟨rfl, ((((hS1.mono (by simp) (by simp)).tr (hS2.mono (by simp) (by simp))).addI (by simp)).addI (by simp)), fun j hj => ?_, fun j hj => ?_, ?_, ?_, ?_, ?_⟩
  · rw [zI_sI, if_neg (by omega), zI_sI, if_neg (by omega), hS2.2.2.2 10 (by decide)]; exact g1 j hj
  · rw [zI_sI, if_neg (by omega), zI_sI, if_neg (by omega)]; exact (g3 j hj).trans (hS1.2.2.2 7 (by decide) j)
  · rw [zI_sI, if_neg (by omega), zI_sI, if_neg (by omega), hS2.2.2.2 9 (by decide)]; exact g2
  · rw [zI_sI, if_neg (by omega), zI_sI, if_neg (by omega)]; exact g4.trans (hS1.2.2.2 6 (by decide) 1)
  · rw [zI_sI, if_neg (by omega), zI_sI, if_pos ⟨rfl, rfl⟩]; exact e3
  · rw [zI_sI, if_pos ⟨rfl, rfl⟩]

set_option maxRecDepth 100000 in
set_option maxHeartbeats 4000000 in
theorem ct_X5_add (d : Nat) {σ : zSt} (hL : zLay σ) {m : Nat} (hm : zI σ 1 1 = nI m) (hm2 : m < 54) (x : Int32) : zEv (d + 0) MX5_add [.ref 1, .int x] σ none (zsI (zsI σ 2 m x) 1 1 (nI (m + 1))) := by
  refine zCt.of (L := [some (.ref 1), some (.int x)]) (by decide) (Nat.le_of_ble_eq_true rfl) rfl (fun X hC hB => ?_)
  have hC : zC X RX5 cX5_add 2 (d + 0) 0 0 := hC
  have hB : zB X none 0 0 "add" σ _ := hB
  show zV X 2 0 [some (.ref 1), some (.int x)] [] 0 0 σ
  refine v_aload_n (q := 1) hC dX5_add_0 rfl rfl rfl ?_
  refine v_getR (q := 4) (r := 2) hC dX5_add_1 rfl fX5_9 (hL.1 1 (by decide)) (hL.2 1 0 2 rfl) ?_
  refine v_aload_n (q := 5) hC dX5_add_4 rfl rfl rfl ?_
  refine v_getI (q := 8) hC dX5_add_5 rfl fX5_15 (hL.1 1 (by decide)) ?_
  refine v_iload_n (q := 9) hC dX5_add_8 rfl rfl rfl ?_
  refine v_iastN (q := 10) (j := m) hC dX5_add_9 rfl (hL.1 2 (by decide)) hm (by omega) (by decide) ?_
  refine v_aload_n (q := 11) hC dX5_add_10 rfl rfl rfl ?_
  refine v_dup (q := 12) hC dX5_add_11 rfl rfl ?_
  refine v_getI (q := 15) hC dX5_add_12 rfl fX5_15 (hL.1 1 (by decide)) ?_
  refine v_iconst (q := 16) (v := 1) hC dX5_add_15 rfl (by decide) ?_
  refine v_iadd (q := 17) hC dX5_add_16 rfl ?_
  refine v_putI (q := 20) hC dX5_add_17 rfl fX5_15 (hL.1 1 (by decide)) ?_
  refine v_return hC hB dX5_add_20 ⟨Nat.le_refl _, Nat.le_refl _⟩ ?_
  have e1 : zI (zsI σ 2 m x) 1 1 = nI m := by rw [zI_sI, if_neg (by omega)]; exact hm
  rw [e1, nI_1]
  exact ⟨rfl, rfl⟩

/-- a Diary at cell c, its row at c + 1 -/
def zDr (σ : zSt) (c : Nat) : Prop := σ.1[c]? = some (0, 0) ∧ σ.1[c + 1]? = some (1, 7) ∧ zR σ c 0 = some (c + 1)
theorem zDr.of {σ : zSt} (hL : zLay σ) {c : Nat} (hc : c = 26 ∨ c = 42 ∨ c = 51) : zDr σ c := by
  rcases hc with rfl | rfl | rfl
  · exact ⟨hL.1 26 (by decide), hL.1 27 (by decide), hL.2 26 0 27 rfl⟩
  · exact ⟨hL.1 42 (by decide), hL.1 43 (by decide), hL.2 42 0 43 rfl⟩
  · exact ⟨hL.1 51 (by decide), hL.1 52 (by decide), hL.2 51 0 52 rfl⟩

set_option maxRecDepth 100000 in
set_option maxHeartbeats 4000000 in
theorem ct_X0_add (d : Nat) {σ : zSt} {c : Nat} (hp : zDr σ c) {m : Nat} (hm : zI σ c 1 = nI m) (hm2 : m < 7) (x : Int32) : zEv (d + 0) MX0_add [.ref c, .int x] σ none (zsI (zsI σ (c + 1) m x) c 1 (nI (m + 1))) := by
  refine zCt.of (L := [some (.ref c), some (.int x)]) (by decide) (Nat.le_of_ble_eq_true rfl) rfl (fun X hC hB => ?_)
  have hC : zC X RX0 cX0_add 2 (d + 0) 0 0 := hC
  have hB : zB X none 0 0 "add" σ _ := hB
  show zV X 2 0 [some (.ref c), some (.int x)] [] 0 0 σ
  refine v_aload_n (q := 1) hC dX0_add_0 rfl rfl rfl ?_
  refine v_getR (q := 4) (r := (c + 1)) hC dX0_add_1 rfl fX0_9 hp.1 hp.2.2 ?_
  refine v_aload_n (q := 5) hC dX0_add_4 rfl rfl rfl ?_
  refine v_getI (q := 8) hC dX0_add_5 rfl fX0_15 hp.1 ?_
  refine v_iload_n (q := 9) hC dX0_add_8 rfl rfl rfl ?_
  refine v_iastN (q := 10) (j := m) hC dX0_add_9 rfl hp.2.1 hm (by omega) (by decide) ?_
  refine v_aload_n (q := 11) hC dX0_add_10 rfl rfl rfl ?_
  refine v_dup (q := 12) hC dX0_add_11 rfl rfl ?_
  refine v_getI (q := 15) hC dX0_add_12 rfl fX0_15 hp.1 ?_
  refine v_iconst (q := 16) (v := 1) hC dX0_add_15 rfl (by decide) ?_
  refine v_iadd (q := 17) hC dX0_add_16 rfl ?_
  refine v_putI (q := 20) hC dX0_add_17 rfl fX0_15 hp.1 ?_
  refine v_return hC hB dX0_add_20 ⟨Nat.le_refl _, Nat.le_refl _⟩ ?_
  have e1 : zI (zsI σ (c + 1) m x) c 1 = nI m := by rw [zI_sI, if_neg (by omega)]; exact hm
  rw [e1, nI_1]
  exact ⟨rfl, rfl⟩

set_option maxRecDepth 100000 in
set_option maxHeartbeats 4000000 in
theorem ct_X0_copyFrom (d : Nat) {σ : zSt} {c e : Nat} (hp : zDr σ c) (he : zDr σ e) : zEv (d + 1) MX0_copyFrom [.ref c, .ref e] σ none (zsI (zsA σ (c + 1) (fun j => if j < 7 then zI σ (e + 1) j else zI σ (c + 1) j)) c 1 (zI (zsA σ (c + 1) (fun j => if j < 7 then zI σ (e + 1) j else zI σ (c + 1) j)) e 1)) := by
  refine zCt.of (L := [some (.ref c), some (.ref e)]) (by decide) (Nat.le_of_ble_eq_true rfl) rfl (fun X hC hB => ?_)
  have hC : zC X RX0 cX0_copyFrom 2 (d + 1) 0 0 := hC
  have hB : zB X none 0 0 "copyFrom" σ _ := hB
  show zV X 2 0 [some (.ref c), some (.ref e)] [] 0 0 σ
  refine v_aload_n (q := 1) hC dX0_copyFrom_0 rfl rfl rfl ?_
  refine v_getR (q := 4) (r := (e + 1)) hC dX0_copyFrom_1 rfl fX0_9 he.1 he.2.2 ?_
  refine v_iconst (q := 5) (v := 0) hC dX0_copyFrom_4 rfl (by decide) ?_
  refine v_aload_n (q := 6) hC dX0_copyFrom_5 rfl rfl rfl ?_
  refine v_getR (q := 9) (r := (c + 1)) hC dX0_copyFrom_6 rfl fX0_9 hp.1 hp.2.2 ?_
  refine v_iconst (q := 10) (v := 0) hC dX0_copyFrom_9 rfl (by decide) ?_
  refine v_bipush (q := 12) (v := 7) hC dX0_copyFrom_10 rfl (by decide) ?_
  refine zcopy (q := 15) 0 (Or.inl rfl) hC hB rfl dX0_copyFrom_12 rfl lX0_19 (by omega) he.2.1 hp.2.1 (by decide) rfl (fun z => absurd z (by decide)) (Nat.le_of_ble_eq_true rfl) ?_
  refine v_aload_n (q := 16) hC dX0_copyFrom_15 rfl rfl rfl ?_
  refine v_aload_n (q := 17) hC dX0_copyFrom_16 rfl rfl rfl ?_
  refine v_getI (q := 20) hC dX0_copyFrom_17 rfl fX0_15 he.1 ?_
  refine v_putI (q := 23) hC dX0_copyFrom_20 rfl fX0_15 hp.1 ?_
  refine v_return hC hB dX0_copyFrom_23 ⟨Nat.le_refl _, Nat.le_refl _⟩ ?_
  exact ⟨rfl, rfl⟩

/-- the next seed; a draw of m by it -/
def pSeed (s : Int32) : Int32 := ((1103515245 : Int64) * s.toInt64 + 12345 &&& 2147483647).toInt32
def pDraw (s m : Int32) : Int32 := if m < 1 then 0 else s / 65536 - s / 65536 / m * m

set_option maxRecDepth 100000 in
set_option maxHeartbeats 4000000 in
theorem ct_X1_init (d : Nat) {σ : zSt} {c : Nat} (hs : σ.1[c]? = some (0, 1)) (x : Int32) : zEv (d + 1) MX1_init [.ref c, .int x] σ none (zsI σ c 0 x) := by
  refine zCt.of (L := [some (.ref c), some (.int x)]) (by decide) (Nat.le_of_ble_eq_true rfl) rfl (fun X hC hB => ?_)
  have hC : zC X RX1 cX1_init 2 (d + 1) 0 0 := hC
  have hB : zB X none 0 0 "<init>" σ _ := hB
  show zV X 2 0 [some (.ref c), some (.int x)] [] 0 0 σ
  refine v_aload_n (q := 1) hC dX1_init_0 rfl rfl rfl ?_
  refine v_obj (q := 4) hC dX1_init_1 rfl lX1_1 (by omega) (Nat.le_of_ble_eq_true rfl) ?_
  refine v_aload_n (q := 5) hC dX1_init_4 rfl rfl rfl ?_
  refine v_iload_n (q := 6) hC dX1_init_5 rfl rfl rfl ?_
  refine v_putI (q := 9) hC dX1_init_6 rfl fX1_7 hs ?_
  refine v_return hC hB dX1_init_9 ⟨Nat.le_refl _, Nat.le_refl _⟩ ?_
  exact ⟨rfl, rfl⟩

set_option maxRecDepth 100000 in
set_option maxHeartbeats 4000000 in
theorem ct_X1_drawOf (d : Nat) {σ : zSt} {c : Nat} (hs : σ.1[c]? = some (0, 1)) (m : Int32) : zEv (d + 0) MX1_drawOf [.ref c, .int m] σ (some (.int (pDraw (pSeed (zI σ c 0)) m))) (zsI σ c 0 (pSeed (zI σ c 0))) := by
  refine zCt.of (L := [some (.ref c), some (.int m)]) (by decide) (Nat.le_of_ble_eq_true rfl) rfl (fun X hC hB => ?_)
  have hC : zC X RX1 cX1_drawOf 2 (d + 0) 0 0 := hC
  have hB : zB X (some .int) 0 0 "drawOf" σ _ := hB
  show zV X 2 0 [some (.ref c), some (.int m)] [] 0 0 σ
  refine v_aload_n (q := 1) hC dX1_drawOf_0 rfl rfl rfl ?_
  refine v_ldc2 (q := 4) hC dX1_drawOf_1 rfl kX1_13 ?_
  refine v_aload_n (q := 5) hC dX1_drawOf_4 rfl rfl rfl ?_
  refine v_getI (q := 8) hC dX1_drawOf_5 rfl fX1_7 hs ?_
  refine v_i2l (q := 9) hC dX1_drawOf_8 rfl ?_
  refine v_lmul (q := 10) hC dX1_drawOf_9 rfl ?_
  refine v_ldc2 (q := 13) hC dX1_drawOf_10 rfl kX1_15 ?_
  refine v_ladd (q := 14) hC dX1_drawOf_13 rfl ?_
  refine v_ldc2 (q := 17) hC dX1_drawOf_14 rfl kX1_17 ?_
  refine v_land (q := 18) hC dX1_drawOf_17 rfl ?_
  refine v_l2i (q := 19) hC dX1_drawOf_18 rfl ?_
  show zV X 2 19 [some (.ref c), some (.int m)] [.int (pSeed (zI σ c 0)), .ref c] 0 0 σ
  refine v_putI (q := 22) hC dX1_drawOf_19 rfl fX1_7 hs ?_
  have e9 : zI (zsI σ c 0 (pSeed (zI σ c 0))) c 0 = pSeed (zI σ c 0) := by simp [zI_sI]
  refine v_iload_n (q := 23) hC dX1_drawOf_22 rfl rfl rfl ?_
  refine v_iconst (q := 24) (v := 1) hC dX1_drawOf_23 rfl (by decide) ?_
  refine v_icmp_ge (q := 27) (tgt := 31) hC dX1_drawOf_24 rfl (by decide) (fun h24 => ?_) (fun h24 => ?_)
  · refine v_aload_n (q := 32) hC dX1_drawOf_31 rfl rfl rfl ?_
    refine v_getI (q := 35) hC dX1_drawOf_32 rfl fX1_7 hs ?_
    rw [e9]
    refine v_ldc (q := 37) hC dX1_drawOf_35 rfl kX1_19 ?_
    refine v_idiv (q := 38) hC dX1_drawOf_37 rfl (by decide) ?_
    refine v_iload_n (q := 39) hC dX1_drawOf_38 rfl rfl rfl ?_
    refine v_irem (q := 40) hC dX1_drawOf_39 rfl (fun z => by rw [z] at h24; exact absurd h24 (by decide)) ?_
    refine v_ireturn hC hB dX1_drawOf_40 ⟨Nat.le_refl _, Nat.le_refl _⟩ ?_
    refine ⟨?_, rfl⟩
    unfold pDraw
    first
      | rw [if_pos (Int32.not_le.mp h24)]
      | rw [if_neg (Int32.not_lt.mpr h24)]
  · refine v_iconst (q := 28) (v := 0) hC dX1_drawOf_27 rfl (by decide) ?_
    refine v_goto (q := 40) hC dX1_drawOf_28 (by decide) ?_
    refine v_ireturn hC hB dX1_drawOf_40 ⟨Nat.le_refl _, Nat.le_refl _⟩ ?_
    refine ⟨?_, rfl⟩
    unfold pDraw
    first
      | rw [if_pos (Int32.not_le.mp h24)]
      | rw [if_neg (Int32.not_lt.mpr h24)]

/-- Rows at cell c: the latest row at a, the coming one at b -/
def zRw (σ : zSt) (c a b : Nat) : Prop := σ.1[c]? = some (0, 7) ∧ zR σ c 0 = some a ∧ zR σ c 1 = some b ∧ σ.1[a]? = some (1, 36) ∧ σ.1[b]? = some (1, 36) ∧ a ≠ b
theorem zRw.same {cs rs : List Nat} {σ σ' : zSt} {c a b : Nat} (h : zRw σ c a b) (hS : zSame cs rs σ σ') (hc : c ∉ rs) : zRw σ' c a b := ⟨by rw [hS.1]; exact h.1, by rw [hS.2.2.1 c hc]; exact h.2.1, by rw [hS.2.2.1 c hc]; exact h.2.2.1, by rw [hS.1]; exact h.2.2.2.1, by rw [hS.1]; exact h.2.2.2.2.1, h.2.2.2.2.2⟩

set_option maxRecDepth 100000 in
set_option maxHeartbeats 4000000 in
theorem ct_X7_open (d : Nat) {σ : zSt} {c a b : Nat} (hw : zRw σ c a b) (x : Int32) : zCt (d + 0) MX7_open [.ref c, .int x] σ (fun r σ' => r = none ∧ zSame [b] [] σ σ' ∧ ∀ j, j < 36 → zI σ' b j = x) := by
  refine zCt.of (L := [some (.ref c), some (.int x), none]) (by decide) (Nat.le_of_ble_eq_true rfl) rfl (fun X hC hB => ?_)
  have hC : zC X RX7 cX7_open 3 (d + 0) 0 0 := hC
  have hB : zB X none 0 0 "open" σ _ := hB
  show zV X 3 0 [some (.ref c), some (.int x), none] [] 0 0 σ
  have lp : ∀ (r : Nat) (i : Nat) (σ1 : zSt), i + r = 36 → zSame [b] [] σ σ1 → (∀ j, j < i → zI σ1 b j = x) → zV X 3 2 [some (.ref c), some (.int x), some (.int (nI i))] [] 0 0 σ1 := by
    intro r
    induction r with
    | zero =>
      intro i σ1 hi hS hz
      have hw1 := hw.same hS (by simp)
      refine v_iload_n (q := 3) hC dX7_open_2 rfl rfl rfl ?_
      refine v_aload_n (q := 4) hC dX7_open_3 rfl rfl rfl ?_
      refine v_getR (q := 7) (r := b) hC dX7_open_4 rfl fX7_15 hw1.1 hw1.2.2.1 ?_
      refine v_alen (q := 8) hC dX7_open_7 rfl hw1.2.2.2.2.1 rfl ?_
      refine v_icmp_ge (q := 11) (tgt := 24) hC dX7_open_8 rfl (by decide) (fun h8 => ?_) (fun h8 => ?_)
      · refine v_return hC hB dX7_open_24 ⟨Nat.le_refl _, Nat.le_refl _⟩ ?_
        exact ⟨rfl, hS, fun j hj => hz j (by omega)⟩
      · exact absurd (nI_le (a := 36) (b := i) (by omega) (by omega)) h8
    | succ r ih =>
      intro i σ1 hi hS hz
      have hw1 := hw.same hS (by simp)
      refine v_iload_n (q := 3) hC dX7_open_2 rfl rfl rfl ?_
      refine v_aload_n (q := 4) hC dX7_open_3 rfl rfl rfl ?_
      refine v_getR (q := 7) (r := b) hC dX7_open_4 rfl fX7_15 hw1.1 hw1.2.2.1 ?_
      refine v_alen (q := 8) hC dX7_open_7 rfl hw1.2.2.2.2.1 rfl ?_
      refine v_icmp_ge (q := 11) (tgt := 24) hC dX7_open_8 rfl (by decide) (fun h8 => ?_) (fun h8 => ?_)
      · exact absurd h8 (nI_ge (a := i) (b := 36) (by omega) (by omega))
      · refine v_aload_n (q := 12) hC dX7_open_11 rfl rfl rfl ?_
        refine v_getR (q := 15) (r := b) hC dX7_open_12 rfl fX7_15 hw1.1 hw1.2.2.1 ?_
        refine v_iload_n (q := 16) hC dX7_open_15 rfl rfl rfl ?_
        refine v_iload_n (q := 17) hC dX7_open_16 rfl rfl rfl ?_
        refine v_iastN (q := 18) (j := i) hC dX7_open_17 rfl hw1.2.2.2.2.1 rfl (by omega) (by decide) ?_
        refine v_iinc (q := 21) (v := 1) (L' := [_, _, _]) hC dX7_open_18 rfl rfl (by decide) (by decide) rfl rfl ?_
        refine v_goto (q := 2) hC dX7_open_21 (by decide) ?_
        rw [nI_1]
        exact ih (i + 1) _ (by omega) (hS.addI (by simp)) (fun j hj => by rw [zI_sI]; split <;> first | rfl | exact hz j (by omega))
  refine v_iconst (q := 1) (v := 0) hC dX7_open_0 rfl (by decide) ?_
  refine v_istore_n (q := 2) (L' := [_, _, _]) hC dX7_open_1 rfl rfl (by decide) rfl rfl ?_
  exact lp 36 0 σ (by omega) zSame.rf (fun j hj => absurd hj (by omega))

set_option maxRecDepth 100000 in
set_option maxHeartbeats 4000000 in
theorem ct_X7_turn (d : Nat) {σ : zSt} {c a b : Nat} (hw : zRw σ c a b) : zEv (d + 0) MX7_turn [.ref c] σ none (zsR (zsR σ c 0 (some b)) c 1 (some a)) := by
  refine zCt.of (L := [some (.ref c), none]) (by decide) (Nat.le_of_ble_eq_true rfl) rfl (fun X hC hB => ?_)
  have hC : zC X RX7 cX7_turn 2 (d + 0) 0 0 := hC
  have hB : zB X none 0 0 "turn" σ _ := hB
  show zV X 2 0 [some (.ref c), none] [] 0 0 σ
  refine v_aload_n (q := 1) hC dX7_turn_0 rfl rfl rfl ?_
  refine v_getR (q := 4) (r := a) hC dX7_turn_1 rfl fX7_9 hw.1 hw.2.1 ?_
  refine v_astore_n (q := 5) (L' := [_, _]) hC dX7_turn_4 rfl rfl (by decide) rfl rfl ?_
  refine v_aload_n (q := 6) hC dX7_turn_5 rfl rfl rfl ?_
  refine v_aload_n (q := 7) hC dX7_turn_6 rfl rfl rfl ?_
  refine v_getR (q := 10) (r := b) hC dX7_turn_7 rfl fX7_15 hw.1 hw.2.2.1 ?_
  refine v_putR (q := 13) hC dX7_turn_10 rfl fX7_9 (fun _ => ⟨rfl, rfl⟩) hw.1 ?_
  refine v_aload_n (q := 14) hC dX7_turn_13 rfl rfl rfl ?_
  refine v_aload_n (q := 15) hC dX7_turn_14 rfl rfl rfl ?_
  refine v_putR (q := 18) hC dX7_turn_15 rfl fX7_15 (fun _ => ⟨rfl, rfl⟩) hw.1 ?_
  refine v_return hC hB dX7_turn_18 ⟨Nat.le_refl _, Nat.le_refl _⟩ ?_
  exact ⟨rfl, rfl⟩

def pGv (kd : Nat → Nat) (kin met : Nat → Nat → Bool) (a b : Nat) : Bool := !decide (a = b) && !pIs 1 (kd a) && pKn kd kin met a b
def pSn (kin : Nat → Nat → Bool) (a b : Nat) : Bool := decide (a = b) || kin a b
/-- the class's tables of steps, among n -/
def zSp (σ : zSt) (n : Nat) (gv sn : Nat → Nat → Bool) : Prop := ∀ a b, a < n → b < n → zI σ 15 (6 * a + b) = zb (gv a b) ∧ zI σ 16 (6 * a + b) = zb (sn a b)
theorem zSp.same {cs rs : List Nat} {σ σ' : zSt} {n : Nat} {gv sn : Nat → Nat → Bool} (h : zSp σ n gv sn) (hS : zSame cs rs σ σ') (hc : (cs.all fun c => !(c == 15) && !(c == 16)) = true) : zSp σ' n gv sn := by
  have hx : ∀ c, c = 15 ∨ c = 16 → c ∉ cs := by
    intro c hc1 hm
    have := List.all_eq_true.mp hc c hm
    rcases hc1 with rfl | rfl <;> simp at this
  intro a b ha hb
  rw [hS.2.2.2 15 (hx 15 (by simp)), hS.2.2.2 16 (hx 16 (by simp))]
  exact h a b ha hb
theorem z6i {a b a' b' : Nat} (hb : b < 6) (hb' : b' < 6) : 6 * a + b = 6 * a' + b' ↔ a = a' ∧ b = b' := by omega

set_option maxRecDepth 100000 in
set_option maxHeartbeats 4000000 in
theorem ct_X8_begins (d : Nat) {σ : zSt} (hL : zLay σ) {n : Nat} (hn6 : n ≤ 6) {gv sn : Nat → Nat → Bool} (hp : zSp σ n gv sn) {a b : Nat} (ha : a < n) (hb : b < n) : zEv (d + 1) MX8_begins [.ref 14, .int (nI a), .int (nI b)] σ (some (.int (zb (gv a b)))) σ := by
  refine zCt.of (L := [some (.ref 14), some (.int (nI a)), some (.int (nI b))]) (by decide) (Nat.le_of_ble_eq_true rfl) rfl (fun X hC hB => ?_)
  have hC : zC X RX8 cX8_begins 3 (d + 1) 0 0 := hC
  have hB : zB X (some .boolean) 0 0 "begins" σ _ := hB
  show zV X 3 0 [some (.ref 14), some (.int (nI a)), some (.int (nI b))] [] 0 0 σ
  refine v_aload_n (q := 1) hC dX8_begins_0 rfl rfl rfl ?_
  refine v_getR (q := 4) (r := 15) hC dX8_begins_1 rfl fX8_9 (hL.1 14 (by decide)) (hL.2 14 1 15 rfl) ?_
  refine v_iload_n (q := 5) hC dX8_begins_4 rfl rfl rfl ?_
  refine v_iload_n (q := 6) hC dX8_begins_5 rfl rfl rfl ?_
  refine v_callSN1 (q := 9) (As := [_, _]) hC dX8_begins_6 rfl lX8_28 mX11_two sX11_two (ct_X11_two d _ _) rfl rfl (by omega) rfl (Nat.le_of_ble_eq_true rfl) ?_
  refine v_zaldN (q := 10) (j := 6 * a + b) hC dX8_begins_9 rfl (hL.1 15 (by decide)) (z6 a b) (by omega) (by decide) ?_
  rw [(hp a b ha hb).1]
  refine v_zreturn hC hB dX8_begins_10 ⟨Nat.le_refl _, Nat.le_refl _⟩ (by first | exact Or.inl rfl | exact Or.inr rfl | exact zb_01 _) ?_
  exact ⟨rfl, rfl⟩

set_option maxRecDepth 100000 in
set_option maxHeartbeats 4000000 in
theorem ct_X8_passes (d : Nat) {σ : zSt} (hL : zLay σ) {n : Nat} (hn6 : n ≤ 6) {gv sn : Nat → Nat → Bool} (hp : zSp σ n gv sn) {a b e : Nat} (ha : a < n) (hb : b < n) (he : e < n) : zEv (d + 0) MX8_passes [.ref 14, .int (nI a), .int (nI b), .int (nI e)] σ (some (.int (zb (!sn a e && gv b e)))) σ := by
  refine zCt.of (L := [some (.ref 14), some (.int (nI a)), some (.int (nI b)), some (.int (nI e))]) (by decide) (Nat.le_of_ble_eq_true rfl) rfl (fun X hC hB => ?_)
  have hC : zC X RX8 cX8_passes 4 (d + 0) 0 0 := hC
  have hB : zB X (some .boolean) 0 0 "passes" σ _ := hB
  show zV X 4 0 [some (.ref 14), some (.int (nI a)), some (.int (nI b)), some (.int (nI e))] [] 0 0 σ
  refine v_aload_n (q := 1) hC dX8_passes_0 rfl rfl rfl ?_
  refine v_getR (q := 4) (r := 16) hC dX8_passes_1 rfl fX8_15 (hL.1 14 (by decide)) (hL.2 14 2 16 rfl) ?_
  refine v_iload_n (q := 5) hC dX8_passes_4 rfl rfl rfl ?_
  refine v_bipush (q := 7) (v := 6) hC dX8_passes_5 rfl (by decide) ?_
  refine v_imul (q := 8) hC dX8_passes_7 rfl ?_
  refine v_iload_n (q := 9) hC dX8_passes_8 rfl rfl rfl ?_
  refine v_iadd (q := 10) hC dX8_passes_9 rfl ?_
  refine v_zaldN (q := 11) (j := 6 * a + e) hC dX8_passes_10 rfl (hL.1 16 (by decide)) (z6 a e) (by omega) (by decide) ?_
  rw [(hp a e ha he).2]
  refine v_if_ne (q := 14) (tgt := 32) hC dX8_passes_11 rfl (by decide) (fun h11 => ?_) (fun h11 => ?_)
  · refine v_iconst (q := 33) (v := 0) hC dX8_passes_32 rfl (by decide) ?_
    refine v_zreturn hC hB dX8_passes_33 ⟨Nat.le_refl _, Nat.le_refl _⟩ (by first | exact Or.inl rfl | exact Or.inr rfl | exact zb_01 _) ?_
    first | exact ⟨zbt (by simp_all [zb_eq0]), rfl⟩ | exact ⟨zbf (by simp_all [zb_eq0]), rfl⟩
  · refine v_aload_n (q := 15) hC dX8_passes_14 rfl rfl rfl ?_
    refine v_getR (q := 18) (r := 15) hC dX8_passes_15 rfl fX8_9 (hL.1 14 (by decide)) (hL.2 14 1 15 rfl) ?_
    refine v_iload_n (q := 19) hC dX8_passes_18 rfl rfl rfl ?_
    refine v_bipush (q := 21) (v := 6) hC dX8_passes_19 rfl (by decide) ?_
    refine v_imul (q := 22) hC dX8_passes_21 rfl ?_
    refine v_iload_n (q := 23) hC dX8_passes_22 rfl rfl rfl ?_
    refine v_iadd (q := 24) hC dX8_passes_23 rfl ?_
    refine v_zaldN (q := 25) (j := 6 * b + e) hC dX8_passes_24 rfl (hL.1 15 (by decide)) (z6 b e) (by omega) (by decide) ?_
    rw [(hp b e hb he).1]
    refine v_if_eq (q := 28) (tgt := 32) hC dX8_passes_25 rfl (by decide) (fun h25 => ?_) (fun h25 => ?_)
    · refine v_iconst (q := 33) (v := 0) hC dX8_passes_32 rfl (by decide) ?_
      refine v_zreturn hC hB dX8_passes_33 ⟨Nat.le_refl _, Nat.le_refl _⟩ (by first | exact Or.inl rfl | exact Or.inr rfl | exact zb_01 _) ?_
      first | exact ⟨zbt (by simp_all [zb_eq0]), rfl⟩ | exact ⟨zbf (by simp_all [zb_eq0]), rfl⟩
    · refine v_iconst (q := 29) (v := 1) hC dX8_passes_28 rfl (by decide) ?_
      refine v_goto (q := 33) hC dX8_passes_29 (by decide) ?_
      refine v_zreturn hC hB dX8_passes_33 ⟨Nat.le_refl _, Nat.le_refl _⟩ (by first | exact Or.inl rfl | exact Or.inr rfl | exact zb_01 _) ?_
      first | exact ⟨zbt (by simp_all [zb_eq0]), rfl⟩ | exact ⟨zbf (by simp_all [zb_eq0]), rfl⟩

set_option maxRecDepth 100000 in
set_option maxHeartbeats 4000000 in
theorem ct_X8_supposeMiser (d : Nat) {σ : zSt} (hL : zLay σ) {n : Nat} (hn : zI σ 8 4 = nI n) (hn6 : n ≤ 6) {w : Nat} (hw : w < n) : zCt (d + 1) MX8_supposeMiser [.ref 14, .int (nI w)] σ (fun r σ' => r = none ∧ zSame [15] [] σ σ' ∧ ∀ a b, a < n → b < n → zI σ' 15 (6 * a + b) = if a = w then 0 else zI σ 15 (6 * a + b)) := by
  refine zCt.of (L := [some (.ref 14), some (.int (nI w)), none]) (by decide) (Nat.le_of_ble_eq_true rfl) rfl (fun X hC hB => ?_)
  have hC : zC X RX8 cX8_supposeMiser 3 (d + 1) 0 0 := hC
  have hB : zB X none 0 0 "supposeMiser" σ _ := hB
  show zV X 3 0 [some (.ref 14), some (.int (nI w)), none] [] 0 0 σ
  have lp : ∀ (r : Nat) (i : Nat) (σ1 : zSt), i + r = n → zSame [15] [] σ σ1 → (∀ a b, a < n → b < n → zI σ1 15 (6 * a + b) = if a = w ∧ b < i then 0 else zI σ 15 (6 * a + b)) → zV X 3 2 [some (.ref 14), some (.int (nI w)), some (.int (nI i))] [] 0 0 σ1 := by
    intro r
    induction r with
    | zero =>
      intro i σ1 hi hS hz
      have hL1 := hL.same hS rfl
      have hn1 : zI σ1 8 4 = nI n := by rw [hS.2.2.2 8 (by decide)]; exact hn
      refine v_iload_n (q := 3) hC dX8_supposeMiser_2 rfl rfl rfl ?_
      refine v_aload_n (q := 4) hC dX8_supposeMiser_3 rfl rfl rfl ?_
      refine v_getR (q := 7) (r := 8) hC dX8_supposeMiser_4 rfl fX8_18 (hL1.1 14 (by decide)) (hL1.2 14 0 8 rfl) ?_
      refine v_getI (q := 10) hC dX8_supposeMiser_7 rfl fX8_22 (hL1.1 8 (by decide)) ?_
      rw [hn1]
      refine v_icmp_ge (q := 13) (tgt := 30) hC dX8_supposeMiser_10 rfl (by decide) (fun h10 => ?_) (fun h10 => ?_)
      · refine v_return hC hB dX8_supposeMiser_30 ⟨Nat.le_refl _, Nat.le_refl _⟩ ?_
        exact ⟨rfl, hS, fun a b ha hb => by rw [hz a b ha hb]; by_cases e : a = w <;> simp [e, show b < i by omega]⟩
      · exact absurd (nI_le (a := n) (b := i) (by omega) (by omega)) h10
    | succ r ih =>
      intro i σ1 hi hS hz
      have hL1 := hL.same hS rfl
      have hn1 : zI σ1 8 4 = nI n := by rw [hS.2.2.2 8 (by decide)]; exact hn
      refine v_iload_n (q := 3) hC dX8_supposeMiser_2 rfl rfl rfl ?_
      refine v_aload_n (q := 4) hC dX8_supposeMiser_3 rfl rfl rfl ?_
      refine v_getR (q := 7) (r := 8) hC dX8_supposeMiser_4 rfl fX8_18 (hL1.1 14 (by decide)) (hL1.2 14 0 8 rfl) ?_
      refine v_getI (q := 10) hC dX8_supposeMiser_7 rfl fX8_22 (hL1.1 8 (by decide)) ?_
      rw [hn1]
      refine v_icmp_ge (q := 13) (tgt := 30) hC dX8_supposeMiser_10 rfl (by decide) (fun h10 => ?_) (fun h10 => ?_)
      · exact absurd h10 (nI_ge (a := i) (b := n) (by omega) (by omega))
      · refine v_aload_n (q := 14) hC dX8_supposeMiser_13 rfl rfl rfl ?_
        refine v_getR (q := 17) (r := 15) hC dX8_supposeMiser_14 rfl fX8_9 (hL1.1 14 (by decide)) (hL1.2 14 1 15 rfl) ?_
        refine v_iload_n (q := 18) hC dX8_supposeMiser_17 rfl rfl rfl ?_
        refine v_iload_n (q := 19) hC dX8_supposeMiser_18 rfl rfl rfl ?_
        refine v_callSN1 (q := 22) (As := [_, _]) hC dX8_supposeMiser_19 rfl lX8_28 mX11_two sX11_two (ct_X11_two d _ _) rfl rfl (by omega) rfl (Nat.le_of_ble_eq_true rfl) ?_
        refine v_iconst (q := 23) (v := 0) hC dX8_supposeMiser_22 rfl (by decide) ?_
        refine v_zastN (q := 24) (j := 6 * w + i) hC dX8_supposeMiser_23 rfl (hL1.1 15 (by decide)) (z6 w i) (by omega) (by decide) (by first | exact Or.inl rfl | exact Or.inr rfl | exact zb_01 _) ?_
        refine v_iinc (q := 27) (v := 1) (L' := [_, _, _]) hC dX8_supposeMiser_24 rfl rfl (by decide) (by decide) rfl rfl ?_
        refine v_goto (q := 2) hC dX8_supposeMiser_27 (by decide) ?_
        rw [nI_1]
        refine ih (i + 1) _ (by omega) (hS.addI (by simp)) (fun a b ha hb => ?_)
        rw [zI_sI, hz a b ha hb]
        by_cases e1 : a = w
        · subst e1
          by_cases e2 : b = i
          · subst e2; simp
          · rw [if_neg (by omega)]; by_cases e3 : b < i <;> simp [e3] <;> omega
        · rw [if_neg (by omega)]; simp [e1]
  refine v_iconst (q := 1) (v := 0) hC dX8_supposeMiser_0 rfl (by decide) ?_
  refine v_istore_n (q := 2) (L' := [_, _, _]) hC dX8_supposeMiser_1 rfl rfl (by decide) rfl rfl ?_
  exact lp n 0 σ (by omega) zSame.rf (fun a b _ _ => by simp)

set_option maxRecDepth 100000 in
set_option maxHeartbeats 4000000 in
theorem ct_X8_supposeMet (d : Nat) {σ : zSt} (hL : zLay σ) {n : Nat} {kd : Nat → Nat} {kin met : Nat → Nat → Bool} {t : Nat} (hF : zFk σ n kd kin met t) {a b : Nat} (ha : a < n) (hb : b < n) : zEv (d + 1) MX8_supposeMet [.ref 14, .int (nI a), .int (nI b)] σ none (zsI (zsI σ 15 (6 * a + b) (zb (!pIs 1 (kd a)))) 15 (6 * b + a) (zb (!pIs 1 (kd b)))) := by
  refine zCt.of (L := [some (.ref 14), some (.int (nI a)), some (.int (nI b))]) (by decide) (Nat.le_of_ble_eq_true rfl) rfl (fun X hC hB => ?_)
  have hC : zC X RX8 cX8_supposeMet 3 (d + 1) 0 0 := hC
  have hB : zB X none 0 0 "supposeMet" σ _ := hB
  show zV X 3 0 [some (.ref 14), some (.int (nI a)), some (.int (nI b))] [] 0 0 σ
  have hn6 := hF.2.1
  have hS1 : zSame [15] [] σ (zsI σ 15 (6 * a + b) (zb (!pIs 1 (kd a)))) := zSame.sI (by simp)
  have hL1 := hL.same hS1 rfl
  have hF1 := hF.same hS1 rfl
  have j53 : ∀ x : Int32, x = zb (!pIs 1 (kd b)) → zV X 3 53 [some (.ref 14), some (.int (nI a)), some (.int (nI b))] [.int x, .int (nI b * 6 + nI a), .ref 15] 0 0 (zsI σ 15 (6 * a + b) (zb (!pIs 1 (kd a)))) := by
    intro x hx
    subst hx
    refine v_zastN (q := 54) (j := 6 * b + a) hC dX8_supposeMet_53 rfl (hL1.1 15 (by decide)) (z6 b a) (by omega) (by decide) (by first | exact Or.inl rfl | exact Or.inr rfl | exact zb_01 _) ?_
    refine v_return hC hB dX8_supposeMet_54 ⟨Nat.le_refl _, Nat.le_refl _⟩ ?_
    exact ⟨rfl, rfl⟩
  have j26 : ∀ x : Int32, x = zb (!pIs 1 (kd a)) → zV X 3 26 [some (.ref 14), some (.int (nI a)), some (.int (nI b))] [.int x, .int (nI a * 6 + nI b), .ref 15] 0 0 σ := by
    intro x hx
    subst hx
    refine v_zastN (q := 27) (j := 6 * a + b) hC dX8_supposeMet_26 rfl (hL.1 15 (by decide)) (z6 a b) (by omega) (by decide) (by first | exact Or.inl rfl | exact Or.inr rfl | exact zb_01 _) ?_
    refine v_aload_n (q := 28) hC dX8_supposeMet_27 rfl rfl rfl ?_
    refine v_getR (q := 31) (r := 15) hC dX8_supposeMet_28 rfl fX8_9 (hL1.1 14 (by decide)) (hL1.2 14 1 15 rfl) ?_
    refine v_iload_n (q := 32) hC dX8_supposeMet_31 rfl rfl rfl ?_
    refine v_iload_n (q := 33) hC dX8_supposeMet_32 rfl rfl rfl ?_
    refine v_callSN1 (q := 36) (As := [_, _]) hC dX8_supposeMet_33 rfl lX8_28 mX11_two sX11_two (ct_X11_two d _ _) rfl rfl (by omega) rfl (Nat.le_of_ble_eq_true rfl) ?_
    refine v_aload_n (q := 37) hC dX8_supposeMet_36 rfl rfl rfl ?_
    refine v_getR (q := 40) (r := 8) hC dX8_supposeMet_37 rfl fX8_18 (hL1.1 14 (by decide)) (hL1.2 14 0 8 rfl) ?_
    refine v_iload_n (q := 41) hC dX8_supposeMet_40 rfl rfl rfl ?_
    refine v_iconst (q := 42) (v := 1) hC dX8_supposeMet_41 rfl (by decide) ?_
    refine v_callV1 (q := 45) (As := [_, _]) hC dX8_supposeMet_42 rfl lX8_32 mX2_isA iX2_isA eX2_isA rfl (hL1.1 8 (by decide)) (ct_X2_isA d hL1 hF1 (k := 1) hb (by decide)) rfl rfl (by omega) rfl (Nat.le_of_ble_eq_true rfl) ?_
    refine v_if_ne (q := 48) (tgt := 52) hC dX8_supposeMet_45 rfl (by decide) (fun h45 => ?_) (fun h45 => ?_)
    · refine v_iconst (q := 53) (v := 0) hC dX8_supposeMet_52 rfl (by decide) ?_
      exact j53 _ (by simp_all [zb_eq0, zb])
    · refine v_iconst (q := 49) (v := 1) hC dX8_supposeMet_48 rfl (by decide) ?_
      refine v_goto (q := 53) hC dX8_supposeMet_49 (by decide) ?_
      exact j53 _ (by simp_all [zb_eq0, zb])
  refine v_aload_n (q := 1) hC dX8_supposeMet_0 rfl rfl rfl ?_
  refine v_getR (q := 4) (r := 15) hC dX8_supposeMet_1 rfl fX8_9 (hL.1 14 (by decide)) (hL.2 14 1 15 rfl) ?_
  refine v_iload_n (q := 5) hC dX8_supposeMet_4 rfl rfl rfl ?_
  refine v_iload_n (q := 6) hC dX8_supposeMet_5 rfl rfl rfl ?_
  refine v_callSN1 (q := 9) (As := [_, _]) hC dX8_supposeMet_6 rfl lX8_28 mX11_two sX11_two (ct_X11_two d _ _) rfl rfl (by omega) rfl (Nat.le_of_ble_eq_true rfl) ?_
  refine v_aload_n (q := 10) hC dX8_supposeMet_9 rfl rfl rfl ?_
  refine v_getR (q := 13) (r := 8) hC dX8_supposeMet_10 rfl fX8_18 (hL.1 14 (by decide)) (hL.2 14 0 8 rfl) ?_
  refine v_iload_n (q := 14) hC dX8_supposeMet_13 rfl rfl rfl ?_
  refine v_iconst (q := 15) (v := 1) hC dX8_supposeMet_14 rfl (by decide) ?_
  refine v_callV1 (q := 18) (As := [_, _]) hC dX8_supposeMet_15 rfl lX8_32 mX2_isA iX2_isA eX2_isA rfl (hL.1 8 (by decide)) (ct_X2_isA d hL hF (k := 1) ha (by decide)) rfl rfl (by omega) rfl (Nat.le_of_ble_eq_true rfl) ?_
  refine v_if_ne (q := 21) (tgt := 25) hC dX8_supposeMet_18 rfl (by decide) (fun h18 => ?_) (fun h18 => ?_)
  · refine v_iconst (q := 26) (v := 0) hC dX8_supposeMet_25 rfl (by decide) ?_
    exact j26 _ (by simp_all [zb_eq0, zb])
  · refine v_iconst (q := 22) (v := 1) hC dX8_supposeMet_21 rfl (by decide) ?_
    refine v_goto (q := 26) hC dX8_supposeMet_22 (by decide) ?_
    exact j26 _ (by simp_all [zb_eq0, zb])

/-- the steps' tables are right for the pairs ahead of (i, j) -/
def zSq (σ : zSt) (n : Nat) (kd : Nat → Nat) (kin met : Nat → Nat → Bool) (i j : Nat) : Prop := ∀ a b, a < n → b < n → (a < i ∨ (a = i ∧ b < j)) → zI σ 15 (6 * a + b) = zb (pGv kd kin met a b) ∧ zI σ 16 (6 * a + b) = zb (pSn kin a b)

set_option maxRecDepth 100000 in
set_option maxHeartbeats 4000000 in
theorem ct_X8_supposeNothing (d : Nat) {σ : zSt} (hL : zLay σ) {n : Nat} {kd : Nat → Nat} {kin met : Nat → Nat → Bool} {t : Nat} (hF : zFk σ n kd kin met t) : zCt (d + 2) MX8_supposeNothing [.ref 14] σ (fun r σ' => r = none ∧ zSame [15, 16] [] σ σ' ∧ zSp σ' n (pGv kd kin met) (pSn kin)) := by
  refine zCt.of (L := [some (.ref 14), none, none]) (by decide) (Nat.le_of_ble_eq_true rfl) rfl (fun X hC hB => ?_)
  have hC : zC X RX8 cX8_supposeNothing 3 (d + 2) 0 0 := hC
  have hB : zB X none 0 0 "supposeNothing" σ _ := hB
  show zV X 3 0 [some (.ref 14), none, none] [] 0 0 σ
  have lp : ∀ (ro : Nat) (i : Nat) (σ1 : zSt) (o2 : Option Value), i + ro = n → zSame [15, 16] [] σ σ1 → zSq σ1 n kd kin met i 0 → zV X 3 2 [some (.ref 14), some (.int (nI i)), o2] [] 0 0 σ1 := by
    intro ro
    induction ro with
    | zero =>
      intro i σ1 o2 hi hS hq
      have hL1 := hL.same hS rfl
      have hF1 := hF.same hS rfl
      have hn1 := hF1.1
      have hn6 := hF.2.1
      refine v_iload_n (q := 3) hC dX8_supposeNothing_2 rfl rfl rfl ?_
      refine v_aload_n (q := 4) hC dX8_supposeNothing_3 rfl rfl rfl ?_
      refine v_getR (q := 7) (r := 8) hC dX8_supposeNothing_4 rfl fX8_18 (hL1.1 14 (by decide)) (hL1.2 14 0 8 rfl) ?_
      refine v_getI (q := 10) hC dX8_supposeNothing_7 rfl fX8_22 (hL1.1 8 (by decide)) ?_
      rw [hn1]
      refine v_icmp_ge (q := 13) (tgt := 114) hC dX8_supposeNothing_10 rfl (by decide) (fun h10 => ?_) (fun h10 => ?_)
      · refine v_return hC hB dX8_supposeNothing_114 ⟨Nat.le_refl _, Nat.le_refl _⟩ ?_
        exact ⟨rfl, hS, fun a b ha hb => hq a b ha hb (by omega)⟩
      · exact absurd (nI_le (a := n) (b := i) (by omega) (by omega)) h10
    | succ ro ih =>
      intro i σ1 o2 hi hS hq
      have hL1 := hL.same hS rfl
      have hF1 := hF.same hS rfl
      have hn1 := hF1.1
      have hn6 := hF.2.1
      refine v_iload_n (q := 3) hC dX8_supposeNothing_2 rfl rfl rfl ?_
      refine v_aload_n (q := 4) hC dX8_supposeNothing_3 rfl rfl rfl ?_
      refine v_getR (q := 7) (r := 8) hC dX8_supposeNothing_4 rfl fX8_18 (hL1.1 14 (by decide)) (hL1.2 14 0 8 rfl) ?_
      refine v_getI (q := 10) hC dX8_supposeNothing_7 rfl fX8_22 (hL1.1 8 (by decide)) ?_
      rw [hn1]
      refine v_icmp_ge (q := 13) (tgt := 114) hC dX8_supposeNothing_10 rfl (by decide) (fun h10 => ?_) (fun h10 => ?_)
      · exact absurd h10 (nI_ge (a := i) (b := n) (by omega) (by omega))
      · refine v_iconst (q := 14) (v := 0) hC dX8_supposeNothing_13 rfl (by decide) ?_
        refine v_istore_n (q := 15) (L' := [_, _, _]) hC dX8_supposeNothing_14 rfl rfl (by decide) rfl rfl ?_
        have iho := ih
        have lp2 : ∀ (r : Nat) (j : Nat) (σ1 : zSt), j + r = n → i < n → zSame [15, 16] [] σ σ1 → zSq σ1 n kd kin met i j → zV X 3 15 [some (.ref 14), some (.int (nI i)), some (.int (nI j))] [] 0 0 σ1 := by
          intro r
          induction r with
          | zero =>
            intro j σ1 hj hi hS hq
            have hL1 := hL.same hS rfl
            have hF1 := hF.same hS rfl
            have hn1 := hF1.1
            have hn6 := hF.2.1
            refine v_iload_n (q := 16) hC dX8_supposeNothing_15 rfl rfl rfl ?_
            refine v_aload_n (q := 17) hC dX8_supposeNothing_16 rfl rfl rfl ?_
            refine v_getR (q := 20) (r := 8) hC dX8_supposeNothing_17 rfl fX8_18 (hL1.1 14 (by decide)) (hL1.2 14 0 8 rfl) ?_
            refine v_getI (q := 23) hC dX8_supposeNothing_20 rfl fX8_22 (hL1.1 8 (by decide)) ?_
            rw [hn1]
            refine v_icmp_ge (q := 26) (tgt := 108) hC dX8_supposeNothing_23 rfl (by decide) (fun h23 => ?_) (fun h23 => ?_)
            · refine v_iinc (q := 111) (v := 1) (L' := [_, _, _]) hC dX8_supposeNothing_108 rfl rfl (by decide) (by decide) rfl rfl ?_
              refine v_goto (q := 2) hC dX8_supposeNothing_111 (by decide) ?_
              rw [nI_1]
              exact iho (i + 1) _ (some (.int (nI j))) (by omega) hS (fun a b ha hb hab => hq a b ha hb (by omega))
            · exact absurd (nI_le (a := n) (b := j) (by omega) (by omega)) h23
          | succ r ih =>
            intro j σ1 hj hi hS hq
            have hL1 := hL.same hS rfl
            have hF1 := hF.same hS rfl
            have hn1 := hF1.1
            have hn6 := hF.2.1
            refine v_iload_n (q := 16) hC dX8_supposeNothing_15 rfl rfl rfl ?_
            refine v_aload_n (q := 17) hC dX8_supposeNothing_16 rfl rfl rfl ?_
            refine v_getR (q := 20) (r := 8) hC dX8_supposeNothing_17 rfl fX8_18 (hL1.1 14 (by decide)) (hL1.2 14 0 8 rfl) ?_
            refine v_getI (q := 23) hC dX8_supposeNothing_20 rfl fX8_22 (hL1.1 8 (by decide)) ?_
            rw [hn1]
            refine v_icmp_ge (q := 26) (tgt := 108) hC dX8_supposeNothing_23 rfl (by decide) (fun h23 => ?_) (fun h23 => ?_)
            · exact absurd h23 (nI_ge (a := j) (b := n) (by omega) (by omega))
            · have hi6 : i < 6 := by omega
              have hj6 : j < 6 := by omega
              have hS2 : zSame [15, 16] [] σ1 (zsI σ1 15 (6 * i + j) (zb (pGv kd kin met i j))) := zSame.sI (by simp)
              have hL2 := hL1.same hS2 rfl
              have hF2 := hF1.same hS2 rfl
              have j101 : ∀ x : Int32, x = zb (pSn kin i j) → zV X 3 101 [some (.ref 14), some (.int (nI i)), some (.int (nI j))] [.int x, .int (nI i * 6 + nI j), .ref 16] 0 0 (zsI σ1 15 (6 * i + j) (zb (pGv kd kin met i j))) := by
                intro x hx
                subst hx
                refine v_zastN (q := 102) (j := 6 * i + j) hC dX8_supposeNothing_101 rfl (hL2.1 16 (by decide)) (z6 i j) (by omega) (by decide) (by first | exact Or.inl rfl | exact Or.inr rfl | exact zb_01 _) ?_
                refine v_iinc (q := 105) (v := 1) (L' := [_, _, _]) hC dX8_supposeNothing_102 rfl rfl (by decide) (by decide) rfl rfl ?_
                refine v_goto (q := 15) hC dX8_supposeNothing_105 (by decide) ?_
                rw [nI_1]
                refine ih (j + 1) _ (by omega) (by omega) ((hS.tr hS2).addI (by simp)) (fun a b ha hb hab => ?_)
                rw [zI_sI, if_neg (by omega), zI_sI, zI_sI, zI_sI]
                by_cases e : a = i ∧ b = j
                · obtain ⟨rfl, rfl⟩ := e; simp
                · rw [if_neg (by omega), if_neg (by omega), if_neg (by omega)]; exact hq a b ha hb (by omega)
              have j69 : ∀ x : Int32, x = zb (pGv kd kin met i j) → zV X 3 69 [some (.ref 14), some (.int (nI i)), some (.int (nI j))] [.int x, .int (nI i * 6 + nI j), .ref 15] 0 0 σ1 := by
                intro x hx
                subst hx
                refine v_zastN (q := 70) (j := 6 * i + j) hC dX8_supposeNothing_69 rfl (hL1.1 15 (by decide)) (z6 i j) (by omega) (by decide) (by first | exact Or.inl rfl | exact Or.inr rfl | exact zb_01 _) ?_
                refine v_aload_n (q := 71) hC dX8_supposeNothing_70 rfl rfl rfl ?_
                refine v_getR (q := 74) (r := 16) hC dX8_supposeNothing_71 rfl fX8_15 (hL2.1 14 (by decide)) (hL2.2 14 2 16 rfl) ?_
                refine v_iload_n (q := 75) hC dX8_supposeNothing_74 rfl rfl rfl ?_
                refine v_iload_n (q := 76) hC dX8_supposeNothing_75 rfl rfl rfl ?_
                refine v_callSN1 (q := 79) (As := [_, _]) hC dX8_supposeNothing_76 rfl lX8_28 mX11_two sX11_two (ct_X11_two (d + 1) _ _) rfl rfl (by omega) rfl (Nat.le_of_ble_eq_true rfl) ?_
                refine v_iload_n (q := 80) hC dX8_supposeNothing_79 rfl rfl rfl ?_
                refine v_iload_n (q := 81) hC dX8_supposeNothing_80 rfl rfl rfl ?_
                refine v_icmp_eq (q := 84) (tgt := 96) hC dX8_supposeNothing_81 rfl (by decide) (fun h81 => ?_) (fun h81 => ?_)
                · refine v_iconst (q := 97) (v := 1) hC dX8_supposeNothing_96 rfl (by decide) ?_
                  refine v_goto (q := 101) hC dX8_supposeNothing_97 (by decide) ?_
                  have c0 : nI i = nI j ↔ i = j := nI_eq (by omega) (by omega)
                  exact j101 _ (by simp_all [zb_eq0, zb, pSn])
                · refine v_aload_n (q := 85) hC dX8_supposeNothing_84 rfl rfl rfl ?_
                  refine v_getR (q := 88) (r := 8) hC dX8_supposeNothing_85 rfl fX8_18 (hL2.1 14 (by decide)) (hL2.2 14 0 8 rfl) ?_
                  refine v_iload_n (q := 89) hC dX8_supposeNothing_88 rfl rfl rfl ?_
                  refine v_iload_n (q := 90) hC dX8_supposeNothing_89 rfl rfl rfl ?_
                  refine v_callV1 (q := 93) (As := [_, _]) hC dX8_supposeNothing_90 rfl lX8_39 mX2_akin iX2_akin eX2_akin rfl (hL2.1 8 (by decide)) (ct_X2_akin d hL2 hF2 hi6 hj6) rfl rfl (by omega) rfl (Nat.le_of_ble_eq_true rfl) ?_
                  refine v_if_eq (q := 96) (tgt := 100) hC dX8_supposeNothing_93 rfl (by decide) (fun h93 => ?_) (fun h93 => ?_)
                  · refine v_iconst (q := 101) (v := 0) hC dX8_supposeNothing_100 rfl (by decide) ?_
                    have c0 : nI i = nI j ↔ i = j := nI_eq (by omega) (by omega)
                    exact j101 _ (by simp_all [zb_eq0, zb, pSn])
                  · refine v_iconst (q := 97) (v := 1) hC dX8_supposeNothing_96 rfl (by decide) ?_
                    refine v_goto (q := 101) hC dX8_supposeNothing_97 (by decide) ?_
                    have c0 : nI i = nI j ↔ i = j := nI_eq (by omega) (by omega)
                    exact j101 _ (by simp_all [zb_eq0, zb, pSn])
              refine v_aload_n (q := 27) hC dX8_supposeNothing_26 rfl rfl rfl ?_
              refine v_getR (q := 30) (r := 15) hC dX8_supposeNothing_27 rfl fX8_9 (hL1.1 14 (by decide)) (hL1.2 14 1 15 rfl) ?_
              refine v_iload_n (q := 31) hC dX8_supposeNothing_30 rfl rfl rfl ?_
              refine v_iload_n (q := 32) hC dX8_supposeNothing_31 rfl rfl rfl ?_
              refine v_callSN1 (q := 35) (As := [_, _]) hC dX8_supposeNothing_32 rfl lX8_28 mX11_two sX11_two (ct_X11_two (d + 1) _ _) rfl rfl (by omega) rfl (Nat.le_of_ble_eq_true rfl) ?_
              refine v_iload_n (q := 36) hC dX8_supposeNothing_35 rfl rfl rfl ?_
              refine v_iload_n (q := 37) hC dX8_supposeNothing_36 rfl rfl rfl ?_
              refine v_icmp_eq (q := 40) (tgt := 68) hC dX8_supposeNothing_37 rfl (by decide) (fun h37 => ?_) (fun h37 => ?_)
              · refine v_iconst (q := 69) (v := 0) hC dX8_supposeNothing_68 rfl (by decide) ?_
                have c0 : nI i = nI j ↔ i = j := nI_eq (by omega) (by omega)
                exact j69 _ (by simp_all [zb_eq0, zb, pGv])
              · refine v_aload_n (q := 41) hC dX8_supposeNothing_40 rfl rfl rfl ?_
                refine v_getR (q := 44) (r := 8) hC dX8_supposeNothing_41 rfl fX8_18 (hL1.1 14 (by decide)) (hL1.2 14 0 8 rfl) ?_
                refine v_iload_n (q := 45) hC dX8_supposeNothing_44 rfl rfl rfl ?_
                refine v_iconst (q := 46) (v := 1) hC dX8_supposeNothing_45 rfl (by decide) ?_
                refine v_callV1 (q := 49) (As := [_, _]) hC dX8_supposeNothing_46 rfl lX8_32 mX2_isA iX2_isA eX2_isA rfl (hL1.1 8 (by decide)) (ct_X2_isA (d + 1) hL1 hF1 (k := 1) hi (by decide)) rfl rfl (by omega) rfl (Nat.le_of_ble_eq_true rfl) ?_
                refine v_if_ne (q := 52) (tgt := 68) hC dX8_supposeNothing_49 rfl (by decide) (fun h49 => ?_) (fun h49 => ?_)
                · refine v_iconst (q := 69) (v := 0) hC dX8_supposeNothing_68 rfl (by decide) ?_
                  have c0 : nI i = nI j ↔ i = j := nI_eq (by omega) (by omega)
                  exact j69 _ (by simp_all [zb_eq0, zb, pGv])
                · refine v_aload_n (q := 53) hC dX8_supposeNothing_52 rfl rfl rfl ?_
                  refine v_getR (q := 56) (r := 8) hC dX8_supposeNothing_53 rfl fX8_18 (hL1.1 14 (by decide)) (hL1.2 14 0 8 rfl) ?_
                  refine v_iload_n (q := 57) hC dX8_supposeNothing_56 rfl rfl rfl ?_
                  refine v_iload_n (q := 58) hC dX8_supposeNothing_57 rfl rfl rfl ?_
                  refine v_callV1 (q := 61) (As := [_, _]) hC dX8_supposeNothing_58 rfl lX8_36 mX2_know iX2_know eX2_know rfl (hL1.1 8 (by decide)) (ct_X2_know d hL1 hF1 hi (by omega)) rfl rfl (by omega) rfl (Nat.le_of_ble_eq_true rfl) ?_
                  refine v_if_eq (q := 64) (tgt := 68) hC dX8_supposeNothing_61 rfl (by decide) (fun h61 => ?_) (fun h61 => ?_)
                  · refine v_iconst (q := 69) (v := 0) hC dX8_supposeNothing_68 rfl (by decide) ?_
                    have c0 : nI i = nI j ↔ i = j := nI_eq (by omega) (by omega)
                    exact j69 _ (by simp_all [zb_eq0, zb, pGv])
                  · refine v_iconst (q := 65) (v := 1) hC dX8_supposeNothing_64 rfl (by decide) ?_
                    refine v_goto (q := 69) hC dX8_supposeNothing_65 (by decide) ?_
                    have c0 : nI i = nI j ↔ i = j := nI_eq (by omega) (by omega)
                    exact j69 _ (by simp_all [zb_eq0, zb, pGv])
        exact lp2 n 0 σ1 (by omega) (by omega) hS hq
  refine v_iconst (q := 1) (v := 0) hC dX8_supposeNothing_0 rfl (by decide) ?_
  refine v_istore_n (q := 2) (L' := [_, _, _]) hC dX8_supposeNothing_1 rfl rfl (by decide) rfl rfl ?_
  exact lp n 0 σ none (by have := hF.2.1; omega) zSame.rf (fun a b _ _ hab => absurd hab (by omega))

