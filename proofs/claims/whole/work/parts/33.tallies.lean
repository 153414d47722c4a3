/-! ===== Tallies: the rows ===== -/
def pCb (p : Nat) (told : Int32) : Bool := decide (told = -1) || decide (told = nI p)
def pSum (f : Nat → Nat) : Nat → Nat
  | 0 => 0
  | k + 1 => pSum f k + f k
/-- how many begin so; how many go on so -/
def tB (n : Nat) (gv : Nat → Nat → Bool) (t0 t1 : Int32) (h w : Nat) : Nat := if h < n ∧ w < n ∧ pCb h t0 = true ∧ pCb w t1 = true ∧ gv h w = true then 1 else 0
def tM (n : Nat) (gv sn : Nat → Nat → Bool) (tw : Int32) (T : Nat → Nat → Nat) (h w d : Nat) : Nat := if h < n ∧ w < n ∧ pCb w tw = true ∧ sn d w = false ∧ gv h w = true then T d h else 0
def tN (n : Nat) (gv sn : Nat → Nat → Bool) (tw : Int32) (T : Nat → Nat → Nat) (h w : Nat) : Nat := pSum (tM n gv sn tw T h w) n
def tD (p : Nat) (T : Nat → Nat → Nat) (h w : Nat) : Nat := if w = p then 0 else T h w
def tS (T : Nat → Nat → Nat) : Nat := pSum (fun i => T (i / 6) (i % 6)) 36
theorem zHr.inb {σ : zSt} {a b : Nat} (h : zRb σ 23 a b) : a ∈ [24, 25] ∧ b ∈ [24, 25] := by have := h.2; simp; omega

set_option maxRecDepth 100000 in
set_option maxHeartbeats 4000000 in
theorem ct_X9_canBe (d : Nat) {σ : zSt} {p : Nat} (hp6 : p < 6) (told : Int32) : zEv (d + 0) MX9_canBe [.int (nI p), .int told] σ (some (.int (zb (pCb p told)))) σ := by
  refine zCt.of (L := [some (.int (nI p)), some (.int told)]) (by decide) (Nat.le_of_ble_eq_true rfl) rfl (fun X hC hB => ?_)
  have hC : zC X RX9 cX9_canBe 2 (d + 0) 0 0 := hC
  have hB : zB X (some .boolean) 0 0 "canBe" σ _ := hB
  show zV X 2 0 [some (.int (nI p)), some (.int told)] [] 0 0 σ
  refine v_iload_n (q := 1) hC dX9_canBe_0 rfl rfl rfl ?_
  refine v_iconst (q := 2) (v := -1) hC dX9_canBe_1 rfl (by decide) ?_
  refine v_icmp_eq (q := 5) (tgt := 10) hC dX9_canBe_2 rfl (by decide) (fun h2 => ?_) (fun h2 => ?_)
  · refine v_iconst (q := 11) (v := 1) hC dX9_canBe_10 rfl (by decide) ?_
    refine v_goto (q := 15) hC dX9_canBe_11 (by decide) ?_
    refine v_zreturn hC hB dX9_canBe_15 ⟨Nat.le_refl _, Nat.le_refl _⟩ (by first | exact Or.inl rfl | exact Or.inr rfl | exact zb_01 _) ?_
    first | exact ⟨zbt (by simp_all [pCb]), rfl⟩ | exact ⟨zbf (by simp_all [pCb]), rfl⟩
  · refine v_iload_n (q := 6) hC dX9_canBe_5 rfl rfl rfl ?_
    refine v_iload_n (q := 7) hC dX9_canBe_6 rfl rfl rfl ?_
    refine v_icmp_ne (q := 10) (tgt := 14) hC dX9_canBe_7 rfl (by decide) (fun h7 => ?_) (fun h7 => ?_)
    · refine v_iconst (q := 15) (v := 0) hC dX9_canBe_14 rfl (by decide) ?_
      refine v_zreturn hC hB dX9_canBe_15 ⟨Nat.le_refl _, Nat.le_refl _⟩ (by first | exact Or.inl rfl | exact Or.inr rfl | exact zb_01 _) ?_
      first | exact ⟨zbt (by simp_all [pCb]), rfl⟩ | exact ⟨zbf (by simp_all [pCb]), rfl⟩
    · refine v_iconst (q := 11) (v := 1) hC dX9_canBe_10 rfl (by decide) ?_
      refine v_goto (q := 15) hC dX9_canBe_11 (by decide) ?_
      refine v_zreturn hC hB dX9_canBe_15 ⟨Nat.le_refl _, Nat.le_refl _⟩ (by first | exact Or.inl rfl | exact Or.inr rfl | exact zb_01 _) ?_
      first | exact ⟨zbt (by simp_all [pCb]), rfl⟩ | exact ⟨zbf (by simp_all [pCb]), rfl⟩

def zPt (n : Nat) (gv sn : Nat → Nat → Bool) (i j : Nat) (tw x : Int32) (k : Nat) (C : Nat → Nat → Int32) (h w : Nat) : Int32 := if h = j ∧ w < k ∧ pCb w tw = true ∧ sn i w = false ∧ gv j w = true then C h w + x else C h w
theorem ztp {σ1 : zSt} {b n i j k : Nat} {gv sn : Nat → Nat → Bool} {tw x : Int32} {C : Nat → Nat → Int32} (hn6 : n ≤ 6) (hj : j < n) (hkn : k < n) (hq : zHold σ1 b 6 (zPt n gv sn i j tw x k C)) (h1 : pCb k tw = true) (hP : sn i k = false ∧ gv j k = true) : zHold (zsI σ1 b (6 * j + k) (zI σ1 b (6 * j + k) + x)) b 6 (zPt n gv sn i j tw x (k + 1) C) := by
  intro h w hh hw
  rw [zI_sI]
  by_cases e : h = j ∧ w = k
  · obtain ⟨rfl, rfl⟩ := e
    rw [if_pos ⟨rfl, rfl⟩, hq h w hh hw]
    unfold zPt
    rw [if_neg (by omega), if_pos ⟨rfl, by omega, h1, hP⟩]
  · rw [if_neg (by omega), hq h w hh hw]
    unfold zPt
    by_cases e2 : h = j ∧ w < k ∧ pCb w tw = true ∧ sn i w = false ∧ gv j w = true
    · rw [if_pos e2, if_pos ⟨e2.1, by omega, e2.2.2⟩]
    · rw [if_neg e2, if_neg (fun z => e2 ⟨z.1, by omega, z.2.2⟩)]
theorem ztp0 {σ1 : zSt} {b n i j k : Nat} {gv sn : Nat → Nat → Bool} {tw x : Int32} {C : Nat → Nat → Int32} (hq : zHold σ1 b 6 (zPt n gv sn i j tw x k C)) (hP : ¬ (pCb k tw = true ∧ sn i k = false ∧ gv j k = true)) : zHold σ1 b 6 (zPt n gv sn i j tw x (k + 1) C) := by
  refine hq.eq (fun h w hh hw => ?_)
  unfold zPt
  by_cases e2 : h = j ∧ w < k ∧ pCb w tw = true ∧ sn i w = false ∧ gv j w = true
  · rw [if_pos e2, if_pos ⟨e2.1, by omega, e2.2.2⟩]
  · rw [if_neg e2, if_neg ?_]
    rintro ⟨z1, z2, z3⟩
    by_cases e3 : w = k
    · subst e3; exact hP z3
    · exact e2 ⟨z1, by omega, z3⟩

set_option maxRecDepth 100000 in
set_option maxHeartbeats 4000000 in
theorem ct_X9_passOn (d : Nat) {σ : zSt} (hL : zLay σ) {n : Nat} (hn : zI σ 8 4 = nI n) (hn6 : n ≤ 6) {gv sn : Nat → Nat → Bool} (hp : zSp σ n gv sn) {a b : Nat} (hw : zRb σ 23 a b) {i j : Nat} (hi : i < n) (hj : j < n) (tw x : Int32) {C : Nat → Nat → Int32} (hb : zHold σ b 6 C) : zCt (d + 1) MX9_passOn [.ref 22, .int (nI i), .int (nI j), .int tw, .int x] σ (fun r σ' => r = none ∧ zSame [b] [] σ σ' ∧ zHold σ' b 6 (zPt n gv sn i j tw x n C)) := by
  refine zCt.of (L := [some (.ref 22), some (.int (nI i)), some (.int (nI j)), some (.int tw), some (.int x), none]) (by decide) (Nat.le_of_ble_eq_true rfl) rfl (fun X hC hB => ?_)
  have hC : zC X RX9 cX9_passOn 6 (d + 1) 0 0 := hC
  have hB : zB X none 0 0 "passOn" σ _ := hB
  show zV X 6 0 [some (.ref 22), some (.int (nI i)), some (.int (nI j)), some (.int tw), some (.int x), none] [] 0 0 σ
  have hab := hw.2
  have lp : ∀ (r : Nat) (k : Nat) (σ1 : zSt), k + r = n → zSame [b] [] σ σ1 → zHold σ1 b 6 (zPt n gv sn i j tw x k C) → zV X 6 3 [some (.ref 22), some (.int (nI i)), some (.int (nI j)), some (.int tw), some (.int x), some (.int (nI k))] [] 0 0 σ1 := by
    intro r
    induction r with
    | zero =>
      intro k σ1 hk hS hq
      have hL1 := hL.same hS rfl
      have hn1 : zI σ1 8 4 = nI n := by rw [hS.2.2.2 8 (by simp; omega)]; exact hn
      have hp1 : zSp σ1 n gv sn := fun x y hx hy => by rw [hS.2.2.2 15 (by simp; omega), hS.2.2.2 16 (by simp; omega)]; exact hp x y hx hy
      have hw1 : zRb σ1 23 a b := hw.same hS (by simp)
      refine v_iload (q := 5) hC dX9_passOn_3 rfl rfl ?_
      refine v_aload_n (q := 6) hC dX9_passOn_5 rfl rfl rfl ?_
      refine v_getR (q := 9) (r := 8) hC dX9_passOn_6 rfl fX9_25 (hL1.1 22 (by decide)) (hL1.2 22 0 8 rfl) ?_
      refine v_getI (q := 12) hC dX9_passOn_9 rfl fX9_37 (hL1.1 8 (by decide)) ?_
      rw [hn1]
      refine v_icmp_ge (q := 15) (tgt := 63) hC dX9_passOn_12 rfl (by decide) (fun h12 => ?_) (fun h12 => ?_)
      · refine v_return hC hB dX9_passOn_63 ⟨Nat.le_refl _, Nat.le_refl _⟩ ?_
        have e : k = n := by omega
        subst e
        exact ⟨rfl, hS, hq⟩
      · exact absurd (nI_le (a := n) (b := k) (by omega) (by omega)) h12
    | succ r ih =>
      intro k σ1 hk hS hq
      have hL1 := hL.same hS rfl
      have hn1 : zI σ1 8 4 = nI n := by rw [hS.2.2.2 8 (by simp; omega)]; exact hn
      have hp1 : zSp σ1 n gv sn := fun x y hx hy => by rw [hS.2.2.2 15 (by simp; omega), hS.2.2.2 16 (by simp; omega)]; exact hp x y hx hy
      have hw1 : zRb σ1 23 a b := hw.same hS (by simp)
      refine v_iload (q := 5) hC dX9_passOn_3 rfl rfl ?_
      refine v_aload_n (q := 6) hC dX9_passOn_5 rfl rfl rfl ?_
      refine v_getR (q := 9) (r := 8) hC dX9_passOn_6 rfl fX9_25 (hL1.1 22 (by decide)) (hL1.2 22 0 8 rfl) ?_
      refine v_getI (q := 12) hC dX9_passOn_9 rfl fX9_37 (hL1.1 8 (by decide)) ?_
      rw [hn1]
      refine v_icmp_ge (q := 15) (tgt := 63) hC dX9_passOn_12 rfl (by decide) (fun h12 => ?_) (fun h12 => ?_)
      · exact absurd h12 (nI_ge (a := k) (b := n) (by omega) (by omega))
      · have hkn : k < n := by omega
        refine v_iload (q := 17) hC dX9_passOn_15 rfl rfl ?_
        refine v_iload_n (q := 18) hC dX9_passOn_17 rfl rfl rfl ?_
        refine v_callS1 (q := 21) (As := [_, _]) hC dX9_passOn_18 rfl lX9_43 mX9_canBe sX9_canBe (ct_X9_canBe (d + 0) (by omega) tw) rfl rfl (by omega) rfl (Nat.le_of_ble_eq_true rfl) ?_
        refine v_if_eq (q := 24) (tgt := 57) hC dX9_passOn_21 rfl (by decide) (fun h21 => ?_) (fun h21 => ?_)
        · refine v_iinc (q := 60) (v := 1) (L' := [_, _, _, _, _, _]) hC dX9_passOn_57 rfl rfl (by decide) (by decide) rfl rfl ?_
          refine v_goto (q := 3) hC dX9_passOn_60 (by decide) ?_
          rw [nI_1 k]
          first
            | exact ih (k + 1) _ (by omega) (hS.addI (by simp)) (ztp hn6 hj hkn hq (by simpa [zb_eq0] using h21) (zkP h35))
            | exact ih (k + 1) _ (by omega) hS (ztp0 hq (fun z => zkN h35 z.2))
            | exact ih (k + 1) _ (by omega) hS (ztp0 hq (fun z => by rw [z.1] at h21; exact absurd h21 (by decide)))
        · refine v_aload_n (q := 25) hC dX9_passOn_24 rfl rfl rfl ?_
          refine v_getR (q := 28) (r := 14) hC dX9_passOn_25 rfl fX9_29 (hL1.1 22 (by decide)) (hL1.2 22 1 14 rfl) ?_
          refine v_iload_n (q := 29) hC dX9_passOn_28 rfl rfl rfl ?_
          refine v_iload_n (q := 30) hC dX9_passOn_29 rfl rfl rfl ?_
          refine v_iload (q := 32) hC dX9_passOn_30 rfl rfl ?_
          refine v_callV1 (q := 35) (As := [_, _, _]) hC dX9_passOn_32 rfl lX9_70 mX8_passes iX8_passes eX8_passes rfl (hL1.1 14 (by decide)) (ct_X8_passes (d + 0) hL1 hn6 hp1 hi hj hkn) rfl rfl (by omega) rfl (Nat.le_of_ble_eq_true rfl) ?_
          refine v_if_eq (q := 38) (tgt := 57) hC dX9_passOn_35 rfl (by decide) (fun h35 => ?_) (fun h35 => ?_)
          · refine v_iinc (q := 60) (v := 1) (L' := [_, _, _, _, _, _]) hC dX9_passOn_57 rfl rfl (by decide) (by decide) rfl rfl ?_
            refine v_goto (q := 3) hC dX9_passOn_60 (by decide) ?_
            rw [nI_1 k]
            first
              | exact ih (k + 1) _ (by omega) (hS.addI (by simp)) (ztp hn6 hj hkn hq (by simpa [zb_eq0] using h21) (zkP h35))
              | exact ih (k + 1) _ (by omega) hS (ztp0 hq (fun z => zkN h35 z.2))
              | exact ih (k + 1) _ (by omega) hS (ztp0 hq (fun z => by rw [z.1] at h21; exact absurd h21 (by decide)))
          · refine v_aload_n (q := 39) hC dX9_passOn_38 rfl rfl rfl ?_
            refine v_getR (q := 42) (r := 23) hC dX9_passOn_39 rfl fX9_12 (hL1.1 22 (by decide)) (hL1.2 22 2 23 rfl) ?_
            refine v_getR (q := 45) (r := b) hC dX9_passOn_42 rfl fX9_52 (hL1.1 23 (by decide)) hw1.1.2.2.1 ?_
            refine v_iload_n (q := 46) hC dX9_passOn_45 rfl rfl rfl ?_
            refine v_iload (q := 48) hC dX9_passOn_46 rfl rfl ?_
            refine v_callSN1 (q := 51) (As := [_, _]) hC dX9_passOn_48 rfl lX9_56 mX11_two sX11_two (ct_X11_two (d + 0) _ _) rfl rfl (by omega) rfl (Nat.le_of_ble_eq_true rfl) ?_
            refine v_dup2 (q := 52) hC dX9_passOn_51 rfl rfl rfl ?_
            refine v_ialdN (q := 53) (j := 6 * j + k) hC dX9_passOn_52 rfl hw1.1.2.2.2.2.1 (z6 j k) (by omega) (by decide) ?_
            refine v_iload (q := 55) hC dX9_passOn_53 rfl rfl ?_
            refine v_iadd (q := 56) hC dX9_passOn_55 rfl ?_
            refine v_iastN (q := 57) (j := 6 * j + k) hC dX9_passOn_56 rfl hw1.1.2.2.2.2.1 (z6 j k) (by omega) (by decide) ?_
            refine v_iinc (q := 60) (v := 1) (L' := [_, _, _, _, _, _]) hC dX9_passOn_57 rfl rfl (by decide) (by decide) rfl rfl ?_
            refine v_goto (q := 3) hC dX9_passOn_60 (by decide) ?_
            rw [nI_1 k]
            first
              | exact ih (k + 1) _ (by omega) (hS.addI (by simp)) (ztp hn6 hj hkn hq (by simpa [zb_eq0] using h21) (zkP h35))
              | exact ih (k + 1) _ (by omega) hS (ztp0 hq (fun z => zkN h35 z.2))
              | exact ih (k + 1) _ (by omega) hS (ztp0 hq (fun z => by rw [z.1] at h21; exact absurd h21 (by decide)))
  refine v_iconst (q := 1) (v := 0) hC dX9_passOn_0 rfl (by decide) ?_
  refine v_istore (q := 3) (L' := [_, _, _, _, _, _]) hC dX9_passOn_1 rfl (by decide) rfl rfl ?_
  exact lp n 0 σ (by omega) zSame.rf (hb.eq (fun h w hh hw => by unfold zPt; rw [if_neg (by omega)]))

def zBt (n : Nat) (gv : Nat → Nat → Bool) (t0 t1 : Int32) (i j h w : Nat) : Int32 := if h < i ∨ (h = i ∧ w < j) then nI (tB n gv t0 t1 h w) else 0
theorem zbt1 {σ1 : zSt} {b n i j : Nat} {gv : Nat → Nat → Bool} {t0 t1 : Int32} (hn6 : n ≤ 6) (hi : i < n) (hj : j < n) (hq : zHold σ1 b 6 (zBt n gv t0 t1 i j)) (h1 : pCb i t0 = true ∧ pCb j t1 = true ∧ gv i j = true) : zHold (zsI σ1 b (6 * i + j) 1) b 6 (zBt n gv t0 t1 i (j + 1)) := by
  intro h w hh hw
  rw [zI_sI]
  by_cases e : h = i ∧ w = j
  · obtain ⟨rfl, rfl⟩ := e
    rw [if_pos ⟨rfl, rfl⟩]
    unfold zBt tB
    rw [if_pos (by omega), if_pos ⟨hi, hj, h1⟩]; rfl
  · rw [if_neg (by omega), hq h w hh hw]
    unfold zBt
    by_cases e2 : h < i ∨ (h = i ∧ w < j)
    · rw [if_pos e2, if_pos (by omega)]
    · rw [if_neg e2, if_neg (by omega)]
theorem zbt0 {σ1 : zSt} {b n i j : Nat} {gv : Nat → Nat → Bool} {t0 t1 : Int32} (hq : zHold σ1 b 6 (zBt n gv t0 t1 i j)) (h1 : ¬ (pCb i t0 = true ∧ pCb j t1 = true ∧ gv i j = true)) : zHold σ1 b 6 (zBt n gv t0 t1 i (j + 1)) := by
  refine hq.eq (fun h w hh hw => ?_)
  unfold zBt
  by_cases e2 : h < i ∨ (h = i ∧ w < j)
  · rw [if_pos e2, if_pos (by omega)]
  · rw [if_neg e2]
    by_cases e3 : h = i ∧ w = j
    · obtain ⟨rfl, rfl⟩ := e3
      rw [if_pos (by omega)]
      unfold tB
      rw [if_neg (fun z => h1 z.2.2)]; rfl
    · rw [if_neg (by omega)]

set_option maxRecDepth 100000 in
set_option maxHeartbeats 4000000 in
theorem ct_X9_begin (d : Nat) {σ : zSt} (hL : zLay σ) {n : Nat} (hn : zI σ 8 4 = nI n) (hn6 : n ≤ 6) {gv sn : Nat → Nat → Bool} (hp : zSp σ n gv sn) {a b : Nat} (hw : zRb σ 23 a b) (t0 t1 : Int32) : zCt (d + 2) MX9_begin [.ref 22, .int t0, .int t1] σ (fun r σ' => r = none ∧ zSame [24, 25] [23] σ σ' ∧ zRb σ' 23 b a ∧ zHold σ' b 6 (fun h w => nI (tB n gv t0 t1 h w))) := by
  refine zCt.of (L := [some (.ref 22), some (.int t0), some (.int t1), none, none]) (by decide) (Nat.le_of_ble_eq_true rfl) rfl (fun X hC hB => ?_)
  have hC : zC X RX9 cX9_begin 5 (d + 2) 0 0 := hC
  have hB : zB X none 0 0 "begin" σ _ := hB
  show zV X 5 0 [some (.ref 22), some (.int t0), some (.int t1), none, none] [] 0 0 σ
  have hab := hw.2
  have lp : ∀ (ro : Nat) (i : Nat) (o4 : Option Value) (σ1 : zSt), i + ro = n → zSame [24, 25] [23] σ σ1 → zRb σ1 23 a b → zHold σ1 b 6 (zBt n gv t0 t1 i 0) → zV X 5 10 [some (.ref 22), some (.int t0), some (.int t1), some (.int (nI i)), o4] [] 0 0 σ1 := by
    intro ro
    induction ro with
    | zero =>
      intro i o4 σ1 hi hS hw1 hq
      obtain ⟨hL1, hn1, hp1⟩ := zEnv3 hL hn hp hS (by decide) (by decide)
      refine v_iload_n (q := 11) hC dX9_begin_10 rfl rfl rfl ?_
      refine v_aload_n (q := 12) hC dX9_begin_11 rfl rfl rfl ?_
      refine v_getR (q := 15) (r := 8) hC dX9_begin_12 rfl fX9_25 (hL1.1 22 (by decide)) (hL1.2 22 0 8 rfl) ?_
      refine v_getI (q := 18) hC dX9_begin_15 rfl fX9_37 (hL1.1 8 (by decide)) ?_
      rw [hn1]
      refine v_icmp_ge (q := 21) (tgt := 93) hC dX9_begin_18 rfl (by decide) (fun h18 => ?_) (fun h18 => ?_)
      · refine v_aload_n (q := 94) hC dX9_begin_93 rfl rfl rfl ?_
        refine v_getR (q := 97) (r := 23) hC dX9_begin_94 rfl fX9_12 (hL1.1 22 (by decide)) (hL1.2 22 2 23 rfl) ?_
        refine v_callV0 (q := 100) (As := []) hC dX9_begin_97 rfl lX9_60 mX7_turn iX7_turn eX7_turn rfl (hL1.1 23 (by decide)) (ct_X7_turn (d + 1) hw1.1) rfl rfl (by omega) rfl (Nat.le_of_ble_eq_true rfl) ?_
        refine v_return hC hB dX9_begin_100 ⟨Nat.le_refl _, Nat.le_refl _⟩ ?_
        refine ⟨rfl, (hS.tr (zSame.sR (by simp))).tr (zSame.sR (by simp)), hw1.turn, ?_⟩
        intro h w hh hw
        refine (hq h w hh hw).trans ?_
        unfold zBt
        by_cases e : h < i ∨ h = i ∧ w < 0
        · rw [if_pos e]
        · rw [if_neg e]; show (0 : Int32) = nI (tB n gv t0 t1 h w); unfold tB; rw [if_neg (by omega)]; rfl
      · exact absurd (nI_le (a := n) (b := i) (by omega) (by omega)) h18
    | succ ro ih =>
      intro i o4 σ1 hi hS hw1 hq
      obtain ⟨hL1, hn1, hp1⟩ := zEnv3 hL hn hp hS (by decide) (by decide)
      refine v_iload_n (q := 11) hC dX9_begin_10 rfl rfl rfl ?_
      refine v_aload_n (q := 12) hC dX9_begin_11 rfl rfl rfl ?_
      refine v_getR (q := 15) (r := 8) hC dX9_begin_12 rfl fX9_25 (hL1.1 22 (by decide)) (hL1.2 22 0 8 rfl) ?_
      refine v_getI (q := 18) hC dX9_begin_15 rfl fX9_37 (hL1.1 8 (by decide)) ?_
      rw [hn1]
      refine v_icmp_ge (q := 21) (tgt := 93) hC dX9_begin_18 rfl (by decide) (fun h18 => ?_) (fun h18 => ?_)
      · exact absurd h18 (nI_ge (a := i) (b := n) (by omega) (by omega))
      · refine v_iconst (q := 22) (v := 0) hC dX9_begin_21 rfl (by decide) ?_
        refine v_istore (q := 24) (L' := [_, _, _, _, _]) hC dX9_begin_22 rfl (by decide) rfl rfl ?_
        have iho := ih
        have lp2 : ∀ (r : Nat) (j : Nat) (σ1 : zSt), j + r = n → i < n → zSame [24, 25] [23] σ σ1 → zRb σ1 23 a b → zHold σ1 b 6 (zBt n gv t0 t1 i j) → zV X 5 24 [some (.ref 22), some (.int t0), some (.int t1), some (.int (nI i)), some (.int (nI j))] [] 0 0 σ1 := by
          intro r
          induction r with
          | zero =>
            intro j σ1 hj hi hS hw1 hq
            obtain ⟨hL1, hn1, hp1⟩ := zEnv3 hL hn hp hS (by decide) (by decide)
            refine v_iload (q := 26) hC dX9_begin_24 rfl rfl ?_
            refine v_aload_n (q := 27) hC dX9_begin_26 rfl rfl rfl ?_
            refine v_getR (q := 30) (r := 8) hC dX9_begin_27 rfl fX9_25 (hL1.1 22 (by decide)) (hL1.2 22 0 8 rfl) ?_
            refine v_getI (q := 33) hC dX9_begin_30 rfl fX9_37 (hL1.1 8 (by decide)) ?_
            rw [hn1]
            refine v_icmp_ge (q := 36) (tgt := 87) hC dX9_begin_33 rfl (by decide) (fun h33 => ?_) (fun h33 => ?_)
            · refine v_iinc (q := 90) (v := 1) (L' := [_, _, _, _, _]) hC dX9_begin_87 rfl rfl (by decide) (by decide) rfl rfl ?_
              refine v_goto (q := 10) hC dX9_begin_90 (by decide) ?_
              rw [nI_1 i]
              refine iho (i + 1) _ _ (by omega) hS hw1 (hq.eq (fun h w hh hw => ?_))
              unfold zBt
              by_cases e : h < i ∨ (h = i ∧ w < j)
              · rw [if_pos e, if_pos (by omega)]
              · rw [if_neg e]; by_cases e2 : h < i + 1 ∨ h = i + 1 ∧ w < 0
                · rw [if_pos e2]; unfold tB; rw [if_neg (by omega)]; rfl
                · rw [if_neg e2]
            · exact absurd (nI_le (a := n) (b := j) (by omega) (by omega)) h33
          | succ r ih =>
            intro j σ1 hj hi hS hw1 hq
            obtain ⟨hL1, hn1, hp1⟩ := zEnv3 hL hn hp hS (by decide) (by decide)
            refine v_iload (q := 26) hC dX9_begin_24 rfl rfl ?_
            refine v_aload_n (q := 27) hC dX9_begin_26 rfl rfl rfl ?_
            refine v_getR (q := 30) (r := 8) hC dX9_begin_27 rfl fX9_25 (hL1.1 22 (by decide)) (hL1.2 22 0 8 rfl) ?_
            refine v_getI (q := 33) hC dX9_begin_30 rfl fX9_37 (hL1.1 8 (by decide)) ?_
            rw [hn1]
            refine v_icmp_ge (q := 36) (tgt := 87) hC dX9_begin_33 rfl (by decide) (fun h33 => ?_) (fun h33 => ?_)
            · exact absurd h33 (nI_ge (a := j) (b := n) (by omega) (by omega))
            · have hjn : j < n := by omega
              refine v_iload_n (q := 37) hC dX9_begin_36 rfl rfl rfl ?_
              refine v_iload_n (q := 38) hC dX9_begin_37 rfl rfl rfl ?_
              refine v_callS1 (q := 41) (As := [_, _]) hC dX9_begin_38 rfl lX9_43 mX9_canBe sX9_canBe (ct_X9_canBe (d + 1) (by omega) t0) rfl rfl (by omega) rfl (Nat.le_of_ble_eq_true rfl) ?_
              refine v_if_eq (q := 44) (tgt := 81) hC dX9_begin_41 rfl (by decide) (fun h41 => ?_) (fun h41 => ?_)
              · refine v_iinc (q := 84) (v := 1) (L' := [_, _, _, _, _]) hC dX9_begin_81 rfl rfl (by decide) (by decide) rfl rfl ?_
                refine v_goto (q := 24) hC dX9_begin_84 (by decide) ?_
                rw [nI_1 j]
                first
                  | exact ih (j + 1) _ (by omega) hi (hS.addI (zHr.inb hw1).2) (hw1.same (zSame.sI (cs := [24, 25]) (rs := []) (zHr.inb hw1).2) (by simp)) (zbt1 hn6 hi hjn hq ⟨by simpa [zb_eq0] using h41, by simpa [zb_eq0] using h50, by simpa [zb_eq0] using h63⟩)
                  | exact ih (j + 1) _ (by omega) hi hS hw1 (zbt0 hq (fun z => by rw [z.2.2] at h63; exact absurd h63 (by decide)))
                  | exact ih (j + 1) _ (by omega) hi hS hw1 (zbt0 hq (fun z => by rw [z.2.1] at h50; exact absurd h50 (by decide)))
                  | exact ih (j + 1) _ (by omega) hi hS hw1 (zbt0 hq (fun z => by rw [z.1] at h41; exact absurd h41 (by decide)))
              · refine v_iload (q := 46) hC dX9_begin_44 rfl rfl ?_
                refine v_iload_n (q := 47) hC dX9_begin_46 rfl rfl rfl ?_
                refine v_callS1 (q := 50) (As := [_, _]) hC dX9_begin_47 rfl lX9_43 mX9_canBe sX9_canBe (ct_X9_canBe (d + 1) (by omega) t1) rfl rfl (by omega) rfl (Nat.le_of_ble_eq_true rfl) ?_
                refine v_if_eq (q := 53) (tgt := 81) hC dX9_begin_50 rfl (by decide) (fun h50 => ?_) (fun h50 => ?_)
                · refine v_iinc (q := 84) (v := 1) (L' := [_, _, _, _, _]) hC dX9_begin_81 rfl rfl (by decide) (by decide) rfl rfl ?_
                  refine v_goto (q := 24) hC dX9_begin_84 (by decide) ?_
                  rw [nI_1 j]
                  first
                    | exact ih (j + 1) _ (by omega) hi (hS.addI (zHr.inb hw1).2) (hw1.same (zSame.sI (cs := [24, 25]) (rs := []) (zHr.inb hw1).2) (by simp)) (zbt1 hn6 hi hjn hq ⟨by simpa [zb_eq0] using h41, by simpa [zb_eq0] using h50, by simpa [zb_eq0] using h63⟩)
                    | exact ih (j + 1) _ (by omega) hi hS hw1 (zbt0 hq (fun z => by rw [z.2.2] at h63; exact absurd h63 (by decide)))
                    | exact ih (j + 1) _ (by omega) hi hS hw1 (zbt0 hq (fun z => by rw [z.2.1] at h50; exact absurd h50 (by decide)))
                    | exact ih (j + 1) _ (by omega) hi hS hw1 (zbt0 hq (fun z => by rw [z.1] at h41; exact absurd h41 (by decide)))
                · refine v_aload_n (q := 54) hC dX9_begin_53 rfl rfl rfl ?_
                  refine v_getR (q := 57) (r := 14) hC dX9_begin_54 rfl fX9_29 (hL1.1 22 (by decide)) (hL1.2 22 1 14 rfl) ?_
                  refine v_iload_n (q := 58) hC dX9_begin_57 rfl rfl rfl ?_
                  refine v_iload (q := 60) hC dX9_begin_58 rfl rfl ?_
                  refine v_callV1 (q := 63) (As := [_, _]) hC dX9_begin_60 rfl lX9_47 mX8_begins iX8_begins eX8_begins rfl (hL1.1 14 (by decide)) (ct_X8_begins (d + 0) hL1 hn6 hp1 hi hjn) rfl rfl (by omega) rfl (Nat.le_of_ble_eq_true rfl) ?_
                  refine v_if_eq (q := 66) (tgt := 81) hC dX9_begin_63 rfl (by decide) (fun h63 => ?_) (fun h63 => ?_)
                  · refine v_iinc (q := 84) (v := 1) (L' := [_, _, _, _, _]) hC dX9_begin_81 rfl rfl (by decide) (by decide) rfl rfl ?_
                    refine v_goto (q := 24) hC dX9_begin_84 (by decide) ?_
                    rw [nI_1 j]
                    first
                      | exact ih (j + 1) _ (by omega) hi (hS.addI (zHr.inb hw1).2) (hw1.same (zSame.sI (cs := [24, 25]) (rs := []) (zHr.inb hw1).2) (by simp)) (zbt1 hn6 hi hjn hq ⟨by simpa [zb_eq0] using h41, by simpa [zb_eq0] using h50, by simpa [zb_eq0] using h63⟩)
                      | exact ih (j + 1) _ (by omega) hi hS hw1 (zbt0 hq (fun z => by rw [z.2.2] at h63; exact absurd h63 (by decide)))
                      | exact ih (j + 1) _ (by omega) hi hS hw1 (zbt0 hq (fun z => by rw [z.2.1] at h50; exact absurd h50 (by decide)))
                      | exact ih (j + 1) _ (by omega) hi hS hw1 (zbt0 hq (fun z => by rw [z.1] at h41; exact absurd h41 (by decide)))
                  · refine v_aload_n (q := 67) hC dX9_begin_66 rfl rfl rfl ?_
                    refine v_getR (q := 70) (r := 23) hC dX9_begin_67 rfl fX9_12 (hL1.1 22 (by decide)) (hL1.2 22 2 23 rfl) ?_
                    refine v_getR (q := 73) (r := b) hC dX9_begin_70 rfl fX9_52 (hL1.1 23 (by decide)) hw1.1.2.2.1 ?_
                    refine v_iload_n (q := 74) hC dX9_begin_73 rfl rfl rfl ?_
                    refine v_iload (q := 76) hC dX9_begin_74 rfl rfl ?_
                    refine v_callSN1 (q := 79) (As := [_, _]) hC dX9_begin_76 rfl lX9_56 mX11_two sX11_two (ct_X11_two (d + 1) _ _) rfl rfl (by omega) rfl (Nat.le_of_ble_eq_true rfl) ?_
                    refine v_iconst (q := 80) (v := 1) hC dX9_begin_79 rfl (by decide) ?_
                    refine v_iastN (q := 81) (j := 6 * i + j) hC dX9_begin_80 rfl hw1.1.2.2.2.2.1 (z6 i j) (by omega) (by decide) ?_
                    refine v_iinc (q := 84) (v := 1) (L' := [_, _, _, _, _]) hC dX9_begin_81 rfl rfl (by decide) (by decide) rfl rfl ?_
                    refine v_goto (q := 24) hC dX9_begin_84 (by decide) ?_
                    rw [nI_1 j]
                    first
                      | exact ih (j + 1) _ (by omega) hi (hS.addI (zHr.inb hw1).2) (hw1.same (zSame.sI (cs := [24, 25]) (rs := []) (zHr.inb hw1).2) (by simp)) (zbt1 hn6 hi hjn hq ⟨by simpa [zb_eq0] using h41, by simpa [zb_eq0] using h50, by simpa [zb_eq0] using h63⟩)
                      | exact ih (j + 1) _ (by omega) hi hS hw1 (zbt0 hq (fun z => by rw [z.2.2] at h63; exact absurd h63 (by decide)))
                      | exact ih (j + 1) _ (by omega) hi hS hw1 (zbt0 hq (fun z => by rw [z.2.1] at h50; exact absurd h50 (by decide)))
                      | exact ih (j + 1) _ (by omega) hi hS hw1 (zbt0 hq (fun z => by rw [z.1] at h41; exact absurd h41 (by decide)))
        exact lp2 n 0 σ1 (by omega) (by omega) hS hw1 hq
  refine v_aload_n (q := 1) hC dX9_begin_0 rfl rfl rfl ?_
  refine v_getR (q := 4) (r := 23) hC dX9_begin_1 rfl fX9_12 (hL.1 22 (by decide)) (hL.2 22 2 23 rfl) ?_
  refine v_iconst (q := 5) (v := 0) hC dX9_begin_4 rfl (by decide) ?_
  refine v_callVQ (q := 8) (As := [_]) hC dX9_begin_5 rfl lX9_33 mX7_open iX7_open eX7_open rfl (hL.1 23 (by decide)) (ct_X7_open (d + 1) hw.1 _) rfl rfl (by omega) (by decide) (Nat.le_of_ble_eq_true rfl) ?_
  rintro _ σ0 ⟨rfl, hS0, g0⟩
  have hSa : zSame [24, 25] [23] σ σ0 := (hS0.mono (by intro x hx; have := hw.2; simp at hx ⊢; omega) (by simp))
  refine v_iconst (q := 9) (v := 0) hC dX9_begin_8 rfl (by decide) ?_
  refine v_istore_n (q := 10) (L' := [_, _, _, _, _]) hC dX9_begin_9 rfl rfl (by decide) rfl rfl ?_
  exact lp n 0 _ σ0 (by omega) hSa (hw.same hS0 (by simp)) (fun h w hh hw => by rw [g0 _ (by omega)]; unfold zBt; rw [if_neg (by omega)])

/-- the coming row, when the doers ahead of i and, of i, the holders ahead of j are through -/
def zGo (n : Nat) (gv sn : Nat → Nat → Bool) (tw : Int32) (T : Nat → Nat → Nat) (i j h w : Nat) : Int32 := nI (pSum (tM n gv sn tw T h w) (if h < j then i + 1 else i))
theorem zgo1 {n i j : Nat} {gv sn : Nat → Nat → Bool} {tw : Int32} {T : Nat → Nat → Nat} (hj : j < n) (h w : Nat) : zPt n gv sn i j tw (nI (T i j)) n (zGo n gv sn tw T i j) h w = zGo n gv sn tw T i (j + 1) h w := by
  unfold zPt zGo
  by_cases e : h = j
  · subst e
    rw [if_neg (Nat.lt_irrefl h), if_pos (Nat.lt_succ_self h)]
    show _ = nI (pSum _ i + tM n gv sn tw T h w i)
    unfold tM
    by_cases c : h = h ∧ w < n ∧ pCb w tw = true ∧ sn i w = false ∧ gv h w = true
    · rw [if_pos c, if_pos ⟨hj, c.2⟩, nI_add]
    · rw [if_neg c, if_neg (fun z => c ⟨rfl, z.2⟩)]; rfl
  · rw [if_neg (fun z => e z.1)]
    by_cases e2 : h < j
    · rw [if_pos e2, if_pos (by omega)]
    · rw [if_neg e2, if_neg (by omega)]
theorem zgo0 {n i j : Nat} {gv sn : Nat → Nat → Bool} {tw : Int32} {T : Nat → Nat → Nat} (h0 : nI (T i j) = 0) (h w : Nat) : zGo n gv sn tw T i j h w = zGo n gv sn tw T i (j + 1) h w := by
  unfold zGo
  by_cases e : h = j
  · subst e
    rw [if_neg (Nat.lt_irrefl h), if_pos (Nat.lt_succ_self h)]
    show _ = nI (pSum _ i + tM n gv sn tw T h w i)
    unfold tM
    split
    · rw [← nI_add, h0]; simp
    · rfl
  · by_cases e2 : h < j
    · rw [if_pos e2, if_pos (by omega)]
    · rw [if_neg e2, if_neg (by omega)]

set_option maxRecDepth 100000 in
set_option maxHeartbeats 4000000 in
theorem ct_X9_goOn (d : Nat) {σ : zSt} (hL : zLay σ) {n : Nat} (hn : zI σ 8 4 = nI n) (hn6 : n ≤ 6) {gv sn : Nat → Nat → Bool} (hp : zSp σ n gv sn) {a b : Nat} (hw : zRb σ 23 a b) (tw : Int32) {T : Nat → Nat → Nat} (ha : zHold σ a 6 (fun h w => nI (T h w))) : zCt (d + 2) MX9_goOn [.ref 22, .int tw] σ (fun r σ' => r = none ∧ zSame [24, 25] [23] σ σ' ∧ zRb σ' 23 b a ∧ zHold σ' b 6 (fun h w => nI (tN n gv sn tw T h w))) := by
  refine zCt.of (L := [some (.ref 22), some (.int tw), none, none, none]) (by decide) (Nat.le_of_ble_eq_true rfl) rfl (fun X hC hB => ?_)
  have hC : zC X RX9 cX9_goOn 5 (d + 2) 0 0 := hC
  have hB : zB X none 0 0 "goOn" σ _ := hB
  show zV X 5 0 [some (.ref 22), some (.int tw), none, none, none] [] 0 0 σ
  have hab := hw.2
  have lp : ∀ (ro : Nat) (i : Nat) (o3 o4 : Option Value) (σ1 : zSt), i + ro = n → zSame [24, 25] [23] σ σ1 → zRb σ1 23 a b → zHold σ1 a 6 (fun h w => nI (T h w)) → zHold σ1 b 6 (zGo n gv sn tw T i 0) → zV X 5 10 [some (.ref 22), some (.int tw), some (.int (nI i)), o3, o4] [] 0 0 σ1 := by
    intro ro
    induction ro with
    | zero =>
      intro i o3 o4 σ1 hi hS hw1 ha hq
      obtain ⟨hL1, hn1, hp1⟩ := zEnv3 hL hn hp hS (by decide) (by decide)
      refine v_iload_n (q := 11) hC dX9_goOn_10 rfl rfl rfl ?_
      refine v_aload_n (q := 12) hC dX9_goOn_11 rfl rfl rfl ?_
      refine v_getR (q := 15) (r := 8) hC dX9_goOn_12 rfl fX9_25 (hL1.1 22 (by decide)) (hL1.2 22 0 8 rfl) ?_
      refine v_getI (q := 18) hC dX9_goOn_15 rfl fX9_37 (hL1.1 8 (by decide)) ?_
      rw [hn1]
      refine v_icmp_ge (q := 21) (tgt := 75) hC dX9_goOn_18 rfl (by decide) (fun h18 => ?_) (fun h18 => ?_)
      · refine v_aload_n (q := 76) hC dX9_goOn_75 rfl rfl rfl ?_
        refine v_getR (q := 79) (r := 23) hC dX9_goOn_76 rfl fX9_12 (hL1.1 22 (by decide)) (hL1.2 22 2 23 rfl) ?_
        refine v_callV0 (q := 82) (As := []) hC dX9_goOn_79 rfl lX9_60 mX7_turn iX7_turn eX7_turn rfl (hL1.1 23 (by decide)) (ct_X7_turn (d + 1) hw1.1) rfl rfl (by omega) rfl (Nat.le_of_ble_eq_true rfl) ?_
        refine v_return hC hB dX9_goOn_82 ⟨Nat.le_refl _, Nat.le_refl _⟩ ?_
        have e : i = n := by omega
        subst e
        refine ⟨rfl, (hS.tr (zSame.sR (by simp))).tr (zSame.sR (by simp)), hw1.turn, fun h w hh hw => (hq h w hh hw).trans ?_⟩
        unfold zGo
        rw [if_neg (Nat.not_lt_zero h)]; rfl
      · exact absurd (nI_le (a := n) (b := i) (by omega) (by omega)) h18
    | succ ro ih =>
      intro i o3 o4 σ1 hi hS hw1 ha hq
      obtain ⟨hL1, hn1, hp1⟩ := zEnv3 hL hn hp hS (by decide) (by decide)
      refine v_iload_n (q := 11) hC dX9_goOn_10 rfl rfl rfl ?_
      refine v_aload_n (q := 12) hC dX9_goOn_11 rfl rfl rfl ?_
      refine v_getR (q := 15) (r := 8) hC dX9_goOn_12 rfl fX9_25 (hL1.1 22 (by decide)) (hL1.2 22 0 8 rfl) ?_
      refine v_getI (q := 18) hC dX9_goOn_15 rfl fX9_37 (hL1.1 8 (by decide)) ?_
      rw [hn1]
      refine v_icmp_ge (q := 21) (tgt := 75) hC dX9_goOn_18 rfl (by decide) (fun h18 => ?_) (fun h18 => ?_)
      · exact absurd h18 (nI_ge (a := i) (b := n) (by omega) (by omega))
      · refine v_iconst (q := 22) (v := 0) hC dX9_goOn_21 rfl (by decide) ?_
        refine v_istore_n (q := 23) (L' := [_, _, _, _, _]) hC dX9_goOn_22 rfl rfl (by decide) rfl rfl ?_
        have iho := ih
        have lp2 : ∀ (r : Nat) (j : Nat) (o4 : Option Value) (σ1 : zSt), j + r = n → i < n → zSame [24, 25] [23] σ σ1 → zRb σ1 23 a b → zHold σ1 a 6 (fun h w => nI (T h w)) → zHold σ1 b 6 (zGo n gv sn tw T i j) → zV X 5 23 [some (.ref 22), some (.int tw), some (.int (nI i)), some (.int (nI j)), o4] [] 0 0 σ1 := by
          intro r
          induction r with
          | zero =>
            intro j o4 σ1 hj hi hS hw1 ha hq
            obtain ⟨hL1, hn1, hp1⟩ := zEnv3 hL hn hp hS (by decide) (by decide)
            refine v_iload_n (q := 24) hC dX9_goOn_23 rfl rfl rfl ?_
            refine v_aload_n (q := 25) hC dX9_goOn_24 rfl rfl rfl ?_
            refine v_getR (q := 28) (r := 8) hC dX9_goOn_25 rfl fX9_25 (hL1.1 22 (by decide)) (hL1.2 22 0 8 rfl) ?_
            refine v_getI (q := 31) hC dX9_goOn_28 rfl fX9_37 (hL1.1 8 (by decide)) ?_
            rw [hn1]
            refine v_icmp_ge (q := 34) (tgt := 69) hC dX9_goOn_31 rfl (by decide) (fun h31 => ?_) (fun h31 => ?_)
            · refine v_iinc (q := 72) (v := 1) (L' := [_, _, _, _, _]) hC dX9_goOn_69 rfl rfl (by decide) (by decide) rfl rfl ?_
              refine v_goto (q := 10) hC dX9_goOn_72 (by decide) ?_
              rw [nI_1 i]
              refine iho (i + 1) _ _ _ (by omega) hS hw1 ha (hq.eq (fun h w hh hw => ?_))
              unfold zGo
              rw [if_neg (Nat.not_lt_zero h)]
              by_cases e : h < j
              · rw [if_pos e]
              · rw [if_neg e]; show _ = nI (pSum _ i + tM n gv sn tw T h w i); unfold tM; rw [if_neg (by omega)]; rfl
            · exact absurd (nI_le (a := n) (b := j) (by omega) (by omega)) h31
          | succ r ih =>
            intro j o4 σ1 hj hi hS hw1 ha hq
            obtain ⟨hL1, hn1, hp1⟩ := zEnv3 hL hn hp hS (by decide) (by decide)
            refine v_iload_n (q := 24) hC dX9_goOn_23 rfl rfl rfl ?_
            refine v_aload_n (q := 25) hC dX9_goOn_24 rfl rfl rfl ?_
            refine v_getR (q := 28) (r := 8) hC dX9_goOn_25 rfl fX9_25 (hL1.1 22 (by decide)) (hL1.2 22 0 8 rfl) ?_
            refine v_getI (q := 31) hC dX9_goOn_28 rfl fX9_37 (hL1.1 8 (by decide)) ?_
            rw [hn1]
            refine v_icmp_ge (q := 34) (tgt := 69) hC dX9_goOn_31 rfl (by decide) (fun h31 => ?_) (fun h31 => ?_)
            · exact absurd h31 (nI_ge (a := j) (b := n) (by omega) (by omega))
            · have hjn : j < n := by omega
              refine v_aload_n (q := 35) hC dX9_goOn_34 rfl rfl rfl ?_
              refine v_getR (q := 38) (r := 23) hC dX9_goOn_35 rfl fX9_12 (hL1.1 22 (by decide)) (hL1.2 22 2 23 rfl) ?_
              refine v_getR (q := 41) (r := a) hC dX9_goOn_38 rfl fX9_63 (hL1.1 23 (by decide)) hw1.1.2.1 ?_
              refine v_iload_n (q := 42) hC dX9_goOn_41 rfl rfl rfl ?_
              refine v_iload_n (q := 43) hC dX9_goOn_42 rfl rfl rfl ?_
              refine v_callSN1 (q := 46) (As := [_, _]) hC dX9_goOn_43 rfl lX9_56 mX11_two sX11_two (ct_X11_two (d + 1) _ _) rfl rfl (by omega) rfl (Nat.le_of_ble_eq_true rfl) ?_
              refine v_ialdN (q := 47) (j := 6 * i + j) hC dX9_goOn_46 rfl hw1.1.2.2.2.1 (z6 i j) (by omega) (by decide) ?_
              rw [ha i j (by omega) (by omega)]
              try dsimp only
              refine v_istore (q := 49) (L' := [_, _, _, _, _]) hC dX9_goOn_47 rfl (by decide) rfl rfl ?_
              refine v_iload (q := 51) hC dX9_goOn_49 rfl rfl ?_
              refine v_if_eq (q := 54) (tgt := 63) hC dX9_goOn_51 rfl (by decide) (fun h51 => ?_) (fun h51 => ?_)
              · refine v_iinc (q := 66) (v := 1) (L' := [_, _, _, _, _]) hC dX9_goOn_63 rfl rfl (by decide) (by decide) rfl rfl ?_
                refine v_goto (q := 23) hC dX9_goOn_66 (by decide) ?_
                rw [nI_1 j]
                first
                  | exact ih (j + 1) _ σ2 (by omega) hi (hS.tr (hS2.mono (by intro x hx; have := hw1.2; simp at hx ⊢; omega) (by simp))) (hw1.same hS2 (by simp)) (ha.same hS2 (by have := hw1.1.2.2.2.2.2; simp; omega)) (hq2.eq (fun h w hh hw => zgo1 hjn h w))
                  | exact ih (j + 1) _ σ1 (by omega) hi hS hw1 ha (hq.eq (fun h w hh hw => zgo0 h51 h w))
              · refine v_aload_n (q := 55) hC dX9_goOn_54 rfl rfl rfl ?_
                refine v_iload_n (q := 56) hC dX9_goOn_55 rfl rfl rfl ?_
                refine v_iload_n (q := 57) hC dX9_goOn_56 rfl rfl rfl ?_
                refine v_iload_n (q := 58) hC dX9_goOn_57 rfl rfl rfl ?_
                refine v_iload (q := 60) hC dX9_goOn_58 rfl rfl ?_
                refine v_callVQ (q := 63) (As := [_, _, _, _]) hC dX9_goOn_60 rfl lX9_66 mX9_passOn iX9_passOn eX9_passOn rfl (hL1.1 22 (by decide)) (ct_X9_passOn d hL1 hn1 hn6 hp1 hw1 hi hjn tw _ hq) rfl rfl (by omega) (by decide) (Nat.le_of_ble_eq_true rfl) ?_
                rintro _ σ2 ⟨rfl, hS2, hq2⟩
                refine v_iinc (q := 66) (v := 1) (L' := [_, _, _, _, _]) hC dX9_goOn_63 rfl rfl (by decide) (by decide) rfl rfl ?_
                refine v_goto (q := 23) hC dX9_goOn_66 (by decide) ?_
                rw [nI_1 j]
                first
                  | exact ih (j + 1) _ σ2 (by omega) hi (hS.tr (hS2.mono (by intro x hx; have := hw1.2; simp at hx ⊢; omega) (by simp))) (hw1.same hS2 (by simp)) (ha.same hS2 (by have := hw1.1.2.2.2.2.2; simp; omega)) (hq2.eq (fun h w hh hw => zgo1 hjn h w))
                  | exact ih (j + 1) _ σ1 (by omega) hi hS hw1 ha (hq.eq (fun h w hh hw => zgo0 h51 h w))
        exact lp2 n 0 _ σ1 (by omega) (by omega) hS hw1 ha hq
  refine v_aload_n (q := 1) hC dX9_goOn_0 rfl rfl rfl ?_
  refine v_getR (q := 4) (r := 23) hC dX9_goOn_1 rfl fX9_12 (hL.1 22 (by decide)) (hL.2 22 2 23 rfl) ?_
  refine v_iconst (q := 5) (v := 0) hC dX9_goOn_4 rfl (by decide) ?_
  refine v_callVQ (q := 8) (As := [_]) hC dX9_goOn_5 rfl lX9_33 mX7_open iX7_open eX7_open rfl (hL.1 23 (by decide)) (ct_X7_open (d + 1) hw.1 _) rfl rfl (by omega) (by decide) (Nat.le_of_ble_eq_true rfl) ?_
  rintro _ σ0 ⟨rfl, hS0, g0⟩
  have hSa : zSame [24, 25] [23] σ σ0 := (hS0.mono (by intro x hx; have := hw.2; simp at hx ⊢; omega) (by simp))
  refine v_iconst (q := 9) (v := 0) hC dX9_goOn_8 rfl (by decide) ?_
  refine v_istore_n (q := 10) (L' := [_, _, _, _, _]) hC dX9_goOn_9 rfl rfl (by decide) rfl rfl ?_
  exact lp n 0 _ _ σ0 (by omega) hSa (hw.same hS0 (by simp)) (ha.same hS0 (by have := hw.1.2.2.2.2.2; simp; omega)) (fun h w hh hw => by rw [g0 _ (by omega)]; unfold zGo; rw [if_neg (Nat.not_lt_zero h)]; rfl)

set_option maxRecDepth 100000 in
set_option maxHeartbeats 4000000 in
theorem ct_X9_sumOfLatest (d : Nat) {σ : zSt} (hL : zLay σ) {a b : Nat} (hw : zRb σ 23 a b) {T : Nat → Nat → Nat} (ha : zHold σ a 6 (fun h w => nI (T h w))) : zEv (d + 0) MX9_sumOfLatest [.ref 22] σ (some (.int (nI (tS T)))) σ := by
  refine zCt.of (L := [some (.ref 22), none, none, none, none, none]) (by decide) (Nat.le_of_ble_eq_true rfl) rfl (fun X hC hB => ?_)
  have hC : zC X RX9 cX9_sumOfLatest 6 (d + 0) 0 0 := hC
  have hB : zB X (some .int) 0 0 "sumOfLatest" σ _ := hB
  show zV X 6 0 [some (.ref 22), none, none, none, none, none] [] 0 0 σ
  have lp : ∀ (r : Nat) (k : Nat) (x : Int32) (o5 : Option Value), x = nI (pSum (fun i => T (i / 6) (i % 6)) k) → k + r = 36 → zV X 6 16 [some (.ref 22), some (.int x), some (.ref a), some (.int 36), some (.int (nI k)), o5] [] 0 0 σ := by
    intro r
    induction r with
    | zero =>
      intro k x o5 hx hk
      subst hx
      refine v_iload (q := 18) hC dX9_sumOfLatest_16 rfl rfl ?_
      refine v_iload_n (q := 19) hC dX9_sumOfLatest_18 rfl rfl rfl ?_
      refine v_icmp_ge (q := 22) (tgt := 39) hC dX9_sumOfLatest_19 rfl (by decide) (fun h19 => ?_) (fun h19 => ?_)
      · refine v_iload_n (q := 40) hC dX9_sumOfLatest_39 rfl rfl rfl ?_
        refine v_ireturn hC hB dX9_sumOfLatest_40 ⟨Nat.le_refl _, Nat.le_refl _⟩ ?_
        have e : k = 36 := by omega
        subst e
        exact ⟨rfl, rfl⟩
      · exact absurd (nI_le (a := 36) (b := k) (by omega) (by omega)) h19
    | succ r ih =>
      intro k x o5 hx hk
      subst hx
      refine v_iload (q := 18) hC dX9_sumOfLatest_16 rfl rfl ?_
      refine v_iload_n (q := 19) hC dX9_sumOfLatest_18 rfl rfl rfl ?_
      refine v_icmp_ge (q := 22) (tgt := 39) hC dX9_sumOfLatest_19 rfl (by decide) (fun h19 => ?_) (fun h19 => ?_)
      · exact absurd h19 (nI_ge (a := k) (b := 36) (by omega) (by omega))
      · refine v_aload_n (q := 23) hC dX9_sumOfLatest_22 rfl rfl rfl ?_
        refine v_iload (q := 25) hC dX9_sumOfLatest_23 rfl rfl ?_
        refine v_ialdN (q := 26) (j := k) hC dX9_sumOfLatest_25 rfl hw.1.2.2.2.1 rfl (by omega) (by decide) ?_
        have e6 := ha (k / 6) (k % 6) (by omega) (by omega)
        rw [show 6 * (k / 6) + k % 6 = k by omega] at e6
        rw [e6]
        try dsimp only
        refine v_istore (q := 28) (L' := [_, _, _, _, _, _]) hC dX9_sumOfLatest_26 rfl (by decide) rfl rfl ?_
        refine v_iload_n (q := 29) hC dX9_sumOfLatest_28 rfl rfl rfl ?_
        refine v_iload (q := 31) hC dX9_sumOfLatest_29 rfl rfl ?_
        refine v_iadd (q := 32) hC dX9_sumOfLatest_31 rfl ?_
        refine v_istore_n (q := 33) (L' := [_, _, _, _, _, _]) hC dX9_sumOfLatest_32 rfl rfl (by decide) rfl rfl ?_
        refine v_iinc (q := 36) (v := 1) (L' := [_, _, _, _, _, _]) hC dX9_sumOfLatest_33 rfl rfl (by decide) (by decide) rfl rfl ?_
        refine v_goto (q := 16) hC dX9_sumOfLatest_36 (by decide) ?_
        rw [nI_1 k]
        exact ih (k + 1) _ _ (by rw [nI_add]; rfl) (by omega)
  refine v_iconst (q := 1) (v := 0) hC dX9_sumOfLatest_0 rfl (by decide) ?_
  refine v_istore_n (q := 2) (L' := [_, _, _, _, _, _]) hC dX9_sumOfLatest_1 rfl rfl (by decide) rfl rfl ?_
  refine v_aload_n (q := 3) hC dX9_sumOfLatest_2 rfl rfl rfl ?_
  refine v_getR (q := 6) (r := 23) hC dX9_sumOfLatest_3 rfl fX9_12 (hL.1 22 (by decide)) (hL.2 22 2 23 rfl) ?_
  refine v_getR (q := 9) (r := a) hC dX9_sumOfLatest_6 rfl fX9_63 (hL.1 23 (by decide)) hw.1.2.1 ?_
  refine v_astore_n (q := 10) (L' := [_, _, _, _, _, _]) hC dX9_sumOfLatest_9 rfl rfl (by decide) rfl rfl ?_
  refine v_aload_n (q := 11) hC dX9_sumOfLatest_10 rfl rfl rfl ?_
  refine v_alen (q := 12) hC dX9_sumOfLatest_11 rfl hw.1.2.2.2.1 rfl ?_
  refine v_istore_n (q := 13) (L' := [_, _, _, _, _, _]) hC dX9_sumOfLatest_12 rfl rfl (by decide) rfl rfl ?_
  refine v_iconst (q := 14) (v := 0) hC dX9_sumOfLatest_13 rfl (by decide) ?_
  refine v_istore (q := 16) (L' := [_, _, _, _, _, _]) hC dX9_sumOfLatest_14 rfl (by decide) rfl rfl ?_
  exact lp 36 0 _ _ rfl (by omega)

def zDt (p k : Nat) (T : Nat → Nat → Nat) (h w : Nat) : Int32 := if w = p ∧ h < k then 0 else nI (T h w)

set_option maxRecDepth 100000 in
set_option maxHeartbeats 4000000 in
theorem ct_X9_dropEndsAt (d : Nat) {σ : zSt} (hL : zLay σ) {n : Nat} (hn : zI σ 8 4 = nI n) (hn6 : n ≤ 6) {a b : Nat} (hw : zRb σ 23 a b) {T : Nat → Nat → Nat} (ha : zHold σ a 6 (fun h w => nI (T h w))) (hT : ∀ h w, n ≤ h → T h w = 0) {p : Nat} (hpn : p < n) : zCt (d + 1) MX9_dropEndsAt [.ref 22, .int (nI p)] σ (fun r σ' => r = none ∧ zSame [a] [] σ σ' ∧ zHold σ' a 6 (fun h w => nI (tD p T h w))) := by
  refine zCt.of (L := [some (.ref 22), some (.int (nI p)), none]) (by decide) (Nat.le_of_ble_eq_true rfl) rfl (fun X hC hB => ?_)
  have hC : zC X RX9 cX9_dropEndsAt 3 (d + 1) 0 0 := hC
  have hB : zB X none 0 0 "dropEndsAt" σ _ := hB
  show zV X 3 0 [some (.ref 22), some (.int (nI p)), none] [] 0 0 σ
  have lp : ∀ (r : Nat) (k : Nat) (σ1 : zSt), k + r = n → zSame [a] [] σ σ1 → zHold σ1 a 6 (zDt p k T) → zV X 3 2 [some (.ref 22), some (.int (nI p)), some (.int (nI k))] [] 0 0 σ1 := by
    intro r
    induction r with
    | zero =>
      intro k σ1 hk hS hq
      have hL1 := hL.same hS rfl
      have hn1 : zI σ1 8 4 = nI n := by rw [hS.2.2.2 8 (by have := hw.2; simp; omega)]; exact hn
      have hw1 : zRb σ1 23 a b := hw.same hS (by simp)
      refine v_iload_n (q := 3) hC dX9_dropEndsAt_2 rfl rfl rfl ?_
      refine v_aload_n (q := 4) hC dX9_dropEndsAt_3 rfl rfl rfl ?_
      refine v_getR (q := 7) (r := 8) hC dX9_dropEndsAt_4 rfl fX9_25 (hL1.1 22 (by decide)) (hL1.2 22 0 8 rfl) ?_
      refine v_getI (q := 10) hC dX9_dropEndsAt_7 rfl fX9_37 (hL1.1 8 (by decide)) ?_
      rw [hn1]
      refine v_icmp_ge (q := 13) (tgt := 33) hC dX9_dropEndsAt_10 rfl (by decide) (fun h10 => ?_) (fun h10 => ?_)
      · refine v_return hC hB dX9_dropEndsAt_33 ⟨Nat.le_refl _, Nat.le_refl _⟩ ?_
        refine ⟨rfl, hS, hq.eq (fun h w hh hw => ?_)⟩
        unfold zDt tD
        by_cases e : w = p
        · subst e; rw [if_pos rfl]; by_cases e2 : h < k
          · rw [if_pos ⟨rfl, e2⟩]; rfl
          · rw [if_neg (fun z => e2 z.2), hT h w (by omega)]
        · rw [if_neg e, if_neg (fun z => e z.1)]
      · exact absurd (nI_le (a := n) (b := k) (by omega) (by omega)) h10
    | succ r ih =>
      intro k σ1 hk hS hq
      have hL1 := hL.same hS rfl
      have hn1 : zI σ1 8 4 = nI n := by rw [hS.2.2.2 8 (by have := hw.2; simp; omega)]; exact hn
      have hw1 : zRb σ1 23 a b := hw.same hS (by simp)
      refine v_iload_n (q := 3) hC dX9_dropEndsAt_2 rfl rfl rfl ?_
      refine v_aload_n (q := 4) hC dX9_dropEndsAt_3 rfl rfl rfl ?_
      refine v_getR (q := 7) (r := 8) hC dX9_dropEndsAt_4 rfl fX9_25 (hL1.1 22 (by decide)) (hL1.2 22 0 8 rfl) ?_
      refine v_getI (q := 10) hC dX9_dropEndsAt_7 rfl fX9_37 (hL1.1 8 (by decide)) ?_
      rw [hn1]
      refine v_icmp_ge (q := 13) (tgt := 33) hC dX9_dropEndsAt_10 rfl (by decide) (fun h10 => ?_) (fun h10 => ?_)
      · exact absurd h10 (nI_ge (a := k) (b := n) (by omega) (by omega))
      · refine v_aload_n (q := 14) hC dX9_dropEndsAt_13 rfl rfl rfl ?_
        refine v_getR (q := 17) (r := 23) hC dX9_dropEndsAt_14 rfl fX9_12 (hL1.1 22 (by decide)) (hL1.2 22 2 23 rfl) ?_
        refine v_getR (q := 20) (r := a) hC dX9_dropEndsAt_17 rfl fX9_63 (hL1.1 23 (by decide)) hw1.1.2.1 ?_
        refine v_iload_n (q := 21) hC dX9_dropEndsAt_20 rfl rfl rfl ?_
        refine v_iload_n (q := 22) hC dX9_dropEndsAt_21 rfl rfl rfl ?_
        refine v_callSN1 (q := 25) (As := [_, _]) hC dX9_dropEndsAt_22 rfl lX9_56 mX11_two sX11_two (ct_X11_two (d + 0) _ _) rfl rfl (by omega) rfl (Nat.le_of_ble_eq_true rfl) ?_
        refine v_iconst (q := 26) (v := 0) hC dX9_dropEndsAt_25 rfl (by decide) ?_
        refine v_iastN (q := 27) (j := 6 * k + p) hC dX9_dropEndsAt_26 rfl hw1.1.2.2.2.1 (z6 k p) (by omega) (by decide) ?_
        refine v_iinc (q := 30) (v := 1) (L' := [_, _, _]) hC dX9_dropEndsAt_27 rfl rfl (by decide) (by decide) rfl rfl ?_
        refine v_goto (q := 2) hC dX9_dropEndsAt_30 (by decide) ?_
        rw [nI_1 k]
        refine ih (k + 1) _ (by omega) (hS.addI (by simp)) (fun h w hh hw => ?_)
        rw [zI_sI]
        by_cases e : h = k ∧ w = p
        · obtain ⟨rfl, rfl⟩ := e; rw [if_pos ⟨rfl, rfl⟩]; unfold zDt; rw [if_pos (by omega)]
        · rw [if_neg (by omega), hq h w hh hw]; unfold zDt; by_cases e2 : w = p ∧ h < k
          · rw [if_pos e2, if_pos (by omega)]
          · rw [if_neg e2, if_neg (by omega)]
  refine v_iconst (q := 1) (v := 0) hC dX9_dropEndsAt_0 rfl (by decide) ?_
  refine v_istore_n (q := 2) (L' := [_, _, _]) hC dX9_dropEndsAt_1 rfl rfl (by decide) rfl rfl ?_
  exact lp n 0 σ (by omega) zSame.rf (ha.eq (fun h w hh hw => by unfold zDt; rw [if_neg (by omega)]))

