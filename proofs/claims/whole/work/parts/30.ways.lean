/-! ===== Ways: the rows ===== -/
def pMin2 : Option Nat → Option Nat → Option Nat
  | none, y => y
  | some a, none => some a
  | some a, some b => some (if b < a then b else a)
def pMinR (f : Nat → Option Nat) : Nat → Option Nat
  | 0 => none
  | k + 1 => pMin2 (pMinR f k) (f k)
theorem pMin2_none (x : Option Nat) : pMin2 x none = x := by cases x <;> rfl
theorem pMin2_lt {x y : Option Nat} {n : Nat} (hx : ∀ g, x = some g → g < n) (hy : ∀ g, y = some g → g < n) : ∀ g, pMin2 x y = some g → g < n := by
  intro g h
  cases x with
  | none => exact hy g h
  | some a =>
    cases y with
    | none => exact hx g h
    | some b =>
      simp only [pMin2, Option.some.injEq] at h
      split at h
      · exact hy g (by rw [← h])
      · exact hx g (by rw [← h])
theorem pMinR_lt {f : Nat → Option Nat} {n : Nat} : ∀ (k : Nat), (∀ d, d < k → ∀ g, f d = some g → g < n) → ∀ g, pMinR f k = some g → g < n
  | 0, _, g, h => by simp [pMinR] at h
  | k + 1, hf, g, h => pMin2_lt (pMinR_lt k (fun d hd => hf d (by omega))) (hf k (by omega)) g h
/-- whom the first favour is FOR; how a row comes out of the one ahead -/
def pR1 (gv sn : Nat → Nat → Bool) (d h0 h w : Nat) : Option Nat := if h = h0 ∧ sn d w = false ∧ gv h0 w = true then some w else none
def pTrm (gv sn : Nat → Nat → Bool) (R : Nat → Nat → Option Nat) (h w d : Nat) : Option Nat := if sn d w = false ∧ gv h w = true then R d h else none
def pRn (n : Nat) (gv sn : Nat → Nat → Bool) (R : Nat → Nat → Option Nat) (h w : Nat) : Option Nat := pMinR (pTrm gv sn R h w) n
def pRow (n : Nat) (gv sn : Nat → Nat → Bool) (d h0 : Nat) : Nat → Nat → Nat → Option Nat
  | 0 => pR1 gv sn d h0
  | k + 1 => pRn n gv sn (pRow n gv sn d h0 k)
def pLst (n : Nat) (R : Nat → Nat → Option Nat) (p : Nat) : Option Nat := pMinR (fun d => R d p) n
/-- a row holds numbers of people -/
def pRlt (n : Nat) (R : Nat → Nat → Option Nat) : Prop := ∀ h w, h < n → w < n → ∀ g, R h w = some g → g < n
theorem pRow_lt {n : Nat} {gv sn : Nat → Nat → Bool} {d h0 : Nat} : ∀ k, pRlt n (pRow n gv sn d h0 k)
  | 0 => by
    intro h w hh hw g hg
    simp only [pRow, pR1] at hg
    split at hg
    · cases hg; exact hw
    · cases hg
  | k + 1 => by
    intro h w hh hw g hg
    simp only [pRow, pRn] at hg
    refine pMinR_lt n (fun d' hd' g' hg' => ?_) g hg
    simp only [pTrm] at hg'
    split at hg'
    · exact pRow_lt k d' h hd' hh g' hg'
    · cases hg'
/-- the two rows of a Rows at cell c, in either order -/
def zRb (σ : zSt) (c a b : Nat) : Prop := zRw σ c a b ∧ (a = c + 1 ∧ b = c + 2 ∨ a = c + 2 ∧ b = c + 1)
theorem zRb.same {cs rs : List Nat} {σ σ' : zSt} {c a b : Nat} (h : zRb σ c a b) (hS : zSame cs rs σ σ') (hc : c ∉ rs) : zRb σ' c a b := ⟨h.1.same hS hc, h.2⟩
theorem zRb.turn {σ : zSt} {c a b : Nat} (h : zRb σ c a b) : zRb (zsR (zsR σ c 0 (some b)) c 1 (some a)) c b a := by
  obtain ⟨⟨h1, h2, h3, h4, h5, h6⟩, h7⟩ := h
  exact ⟨⟨h1, by simp [zR_sR], by simp [zR_sR], h5, h4, Ne.symm h6⟩, by omega⟩
def zHold (σ : zSt) (a n : Nat) (V : Nat → Nat → Int32) : Prop := ∀ h w, h < n → w < n → zI σ a (6 * h + w) = V h w
theorem zo_eq {x : Option Nat} {n : Nat} (h : ∀ g, x = some g → g < n) (hn : n ≤ 100) : zo x = -1 ↔ x = none := by
  cases x with
  | none => simp [zo]
  | some g => simp [zo]; exact nI_m1 (by have := h g rfl; omega)

theorem zkP {s g : Bool} (h : ¬ zb (!s && g) = 0) : s = false ∧ g = true := by cases s <;> cases g <;> simp_all [zb]
theorem zkN {s g : Bool} (h : zb (!s && g) = 0) : ¬ (s = false ∧ g = true) := by cases s <;> cases g <;> simp_all [zb]
theorem zkA {x : Option Nat} {f : Nat} {s g : Bool} (hk : zo x = -1 ∨ nI f < zo x) (hP : s = false ∧ g = true) (hx : ∀ k, x = some k → k < 6) (hf : f < 6) : nI f = zo (pMin2 x (if s = false ∧ g = true then some f else none)) := by
  rw [if_pos hP]
  cases x with
  | none => rfl
  | some k =>
    have hk6 := hx k rfl
    rcases hk with e | e
    · exact absurd e (nI_m1 (by omega))
    · have : f < k := (nI_ltI (by omega) (by omega)).mp e
      simp [pMin2, zo, this]
theorem zkB {x : Option Nat} {f : Nat} {s g : Bool} (hP : ¬ (s = false ∧ g = true)) : zo x = zo (pMin2 x (if s = false ∧ g = true then some f else none)) := by
  rw [if_neg hP, pMin2_none]
theorem zkC {x : Option Nat} {f : Nat} {s g : Bool} (h1 : ¬ zo x = -1) (h2 : zo x ≤ nI f) (hx : ∀ k, x = some k → k < 6) (hf : f < 6) : zo x = zo (pMin2 x (if s = false ∧ g = true then some f else none)) := by
  cases x with
  | none => exact absurd rfl h1
  | some k =>
    have hk6 := hx k rfl
    have : k ≤ f := (nI_leI (by omega) (by omega)).mp h2
    split
    · simp [pMin2, zo, show ¬ f < k by omega]
    · rfl

theorem zpas {σ1 : zSt} {b n j k f : Nat} {C : Nat → Nat → Option Nat} {T : Nat → Option Nat} (hn6 : n ≤ 6) (hj : j < n) (hkn : k < n) (hq : zHold σ1 b n (fun h w => zo (if h = j ∧ w < k then pMin2 (C h w) (T w) else C h w))) (hx : nI f = zo (pMin2 (C j k) (T k))) : zHold (zsI σ1 b (6 * j + k) (nI f)) b n (fun h w => zo (if h = j ∧ w < k + 1 then pMin2 (C h w) (T w) else C h w)) := by
  intro h w hh hw
  rw [zI_sI]
  by_cases e : h = j ∧ w = k
  · obtain ⟨rfl, rfl⟩ := e
    rw [if_pos ⟨rfl, rfl⟩, hx]
    simp
  · rw [if_neg (by omega), hq h w hh hw]
    dsimp only
    by_cases e2 : h = j ∧ w < k
    · rw [if_pos e2, if_pos ⟨e2.1, by omega⟩]
    · rw [if_neg e2, if_neg (by omega)]
theorem zpas0 {σ1 : zSt} {b n j k : Nat} {C : Nat → Nat → Option Nat} {T : Nat → Option Nat} (hj : j < n) (hkn : k < n) (hq : zHold σ1 b n (fun h w => zo (if h = j ∧ w < k then pMin2 (C h w) (T w) else C h w))) (hx : zo (C j k) = zo (pMin2 (C j k) (T k))) : zHold σ1 b n (fun h w => zo (if h = j ∧ w < k + 1 then pMin2 (C h w) (T w) else C h w)) := by
  intro h w hh hw
  rw [hq h w hh hw]
  dsimp only
  by_cases e : h = j ∧ w = k
  · obtain ⟨rfl, rfl⟩ := e
    rw [if_neg (by omega), if_pos (by omega), hx]
  · by_cases e2 : h = j ∧ w < k
    · rw [if_pos e2, if_pos ⟨e2.1, by omega⟩]
    · rw [if_neg e2, if_neg (by omega)]

set_option maxRecDepth 100000 in
set_option maxHeartbeats 4000000 in
theorem ct_X10_passOn (d : Nat) {σ : zSt} (hL : zLay σ) {n : Nat} (hn : zI σ 8 4 = nI n) (hn6 : n ≤ 6) {gv sn : Nat → Nat → Bool} (hp : zSp σ n gv sn) {a b : Nat} (hw : zRb σ 18 a b) {i j f : Nat} (hi : i < n) (hj : j < n) (hf : f < n) {C : Nat → Nat → Option Nat} (hCl : pRlt n C) (hb : zHold σ b n (fun h w => zo (C h w))) : zCt (d + 1) MX10_passOn [.ref 17, .int (nI i), .int (nI j), .int (nI f)] σ (fun r σ' => r = none ∧ zSame [b] [] σ σ' ∧ zHold σ' b n (fun h w => zo (if h = j then pMin2 (C h w) (if sn i w = false ∧ gv j w = true then some f else none) else C h w))) := by
  refine zCt.of (L := [some (.ref 17), some (.int (nI i)), some (.int (nI j)), some (.int (nI f)), none, none, none]) (by decide) (Nat.le_of_ble_eq_true rfl) rfl (fun X hC hB => ?_)
  have hC : zC X RX10 cX10_passOn 7 (d + 1) 0 0 := hC
  have hB : zB X none 0 0 "passOn" σ _ := hB
  show zV X 7 0 [some (.ref 17), some (.int (nI i)), some (.int (nI j)), some (.int (nI f)), none, none, none] [] 0 0 σ
  have hab := hw.2
  have lp : ∀ (r : Nat) (k : Nat) (o5 o6 : Option Value) (σ1 : zSt), k + r = n → zSame [b] [] σ σ1 → zHold σ1 b n (fun h w => zo (if h = j ∧ w < k then pMin2 (C h w) (if sn i w = false ∧ gv j w = true then some f else none) else C h w)) → zV X 7 3 [some (.ref 17), some (.int (nI i)), some (.int (nI j)), some (.int (nI f)), some (.int (nI k)), o5, o6] [] 0 0 σ1 := by
    intro r
    induction r with
    | zero =>
      intro k o5 o6 σ1 hk hS hq
      have hL1 := hL.same hS rfl
      have hn1 : zI σ1 8 4 = nI n := by rw [hS.2.2.2 8 (by simp; omega)]; exact hn
      have hp1 : zSp σ1 n gv sn := fun x y hx hy => by rw [hS.2.2.2 15 (by simp; omega), hS.2.2.2 16 (by simp; omega)]; exact hp x y hx hy
      have hw1 : zRb σ1 18 a b := hw.same hS (by simp)
      refine v_iload (q := 5) hC dX10_passOn_3 rfl rfl ?_
      refine v_aload_n (q := 6) hC dX10_passOn_5 rfl rfl rfl ?_
      refine v_getR (q := 9) (r := 8) hC dX10_passOn_6 rfl fX10_22 (hL1.1 17 (by decide)) (hL1.2 17 0 8 rfl) ?_
      refine v_getI (q := 12) hC dX10_passOn_9 rfl fX10_34 (hL1.1 8 (by decide)) ?_
      rw [hn1]
      refine v_icmp_ge (q := 15) (tgt := 78) hC dX10_passOn_12 rfl (by decide) (fun h12 => ?_) (fun h12 => ?_)
      · refine v_return hC hB dX10_passOn_78 ⟨Nat.le_refl _, Nat.le_refl _⟩ ?_
        refine ⟨rfl, hS, fun h w hh hw => ?_⟩
        rw [hq h w hh hw]
        by_cases e : h = j <;> simp [e, show w < k by omega]
      · exact absurd (nI_le (a := n) (b := k) (by omega) (by omega)) h12
    | succ r ih =>
      intro k o5 o6 σ1 hk hS hq
      have hL1 := hL.same hS rfl
      have hn1 : zI σ1 8 4 = nI n := by rw [hS.2.2.2 8 (by simp; omega)]; exact hn
      have hp1 : zSp σ1 n gv sn := fun x y hx hy => by rw [hS.2.2.2 15 (by simp; omega), hS.2.2.2 16 (by simp; omega)]; exact hp x y hx hy
      have hw1 : zRb σ1 18 a b := hw.same hS (by simp)
      refine v_iload (q := 5) hC dX10_passOn_3 rfl rfl ?_
      refine v_aload_n (q := 6) hC dX10_passOn_5 rfl rfl rfl ?_
      refine v_getR (q := 9) (r := 8) hC dX10_passOn_6 rfl fX10_22 (hL1.1 17 (by decide)) (hL1.2 17 0 8 rfl) ?_
      refine v_getI (q := 12) hC dX10_passOn_9 rfl fX10_34 (hL1.1 8 (by decide)) ?_
      rw [hn1]
      refine v_icmp_ge (q := 15) (tgt := 78) hC dX10_passOn_12 rfl (by decide) (fun h12 => ?_) (fun h12 => ?_)
      · exact absurd h12 (nI_ge (a := k) (b := n) (by omega) (by omega))
      · refine v_iload_n (q := 16) hC dX10_passOn_15 rfl rfl rfl ?_
        refine v_iload (q := 18) hC dX10_passOn_16 rfl rfl ?_
        refine v_callSN1 (q := 21) (As := [_, _]) hC dX10_passOn_18 rfl lX10_50 mX11_two sX11_two (ct_X11_two (d + 0) _ _) rfl rfl (by omega) rfl (Nat.le_of_ble_eq_true rfl) ?_
        refine v_istore (q := 23) (L' := [_, _, _, _, _, _, _]) hC dX10_passOn_21 rfl (by decide) rfl rfl ?_
        refine v_aload_n (q := 24) hC dX10_passOn_23 rfl rfl rfl ?_
        refine v_getR (q := 27) (r := 18) hC dX10_passOn_24 rfl fX10_12 (hL1.1 17 (by decide)) (hL1.2 17 2 18 rfl) ?_
        refine v_getR (q := 30) (r := b) hC dX10_passOn_27 rfl fX10_46 (hL1.1 18 (by decide)) hw1.1.2.2.1 ?_
        refine v_iload (q := 32) hC dX10_passOn_30 rfl rfl ?_
        refine v_ialdN (q := 33) (j := 6 * j + k) hC dX10_passOn_32 rfl hw1.1.2.2.2.2.1 (z6 j k) (by omega) (by decide) ?_
        have hkn : k < n := by omega
        rw [hq j k hj hkn]
        dsimp only
        rw [if_neg (show ¬ (j = j ∧ k < k) by omega)]
        refine v_istore (q := 35) (L' := [_, _, _, _, _, _, _]) hC dX10_passOn_33 rfl (by decide) rfl rfl ?_
        refine v_iload (q := 37) hC dX10_passOn_35 rfl rfl ?_
        refine v_iconst (q := 38) (v := -1) hC dX10_passOn_37 rfl (by decide) ?_
        refine v_icmp_eq (q := 41) (tgt := 47) hC dX10_passOn_38 rfl (by decide) (fun h38 => ?_) (fun h38 => ?_)
        · refine v_aload_n (q := 48) hC dX10_passOn_47 rfl rfl rfl ?_
          refine v_getR (q := 51) (r := 14) hC dX10_passOn_48 rfl fX10_26 (hL1.1 17 (by decide)) (hL1.2 17 1 14 rfl) ?_
          refine v_iload_n (q := 52) hC dX10_passOn_51 rfl rfl rfl ?_
          refine v_iload_n (q := 53) hC dX10_passOn_52 rfl rfl rfl ?_
          refine v_iload (q := 55) hC dX10_passOn_53 rfl rfl ?_
          refine v_callV1 (q := 58) (As := [_, _, _]) hC dX10_passOn_55 rfl lX10_40 mX8_passes iX8_passes eX8_passes rfl (hL1.1 14 (by decide)) (ct_X8_passes (d + 0) hL1 hn6 hp1 hi hj hkn) rfl rfl (by omega) rfl (Nat.le_of_ble_eq_true rfl) ?_
          refine v_if_eq (q := 61) (tgt := 72) hC dX10_passOn_58 rfl (by decide) (fun h58 => ?_) (fun h58 => ?_)
          · refine v_iinc (q := 75) (v := 1) (L' := [_, _, _, _, _, _, _]) hC dX10_passOn_72 rfl rfl (by decide) (by decide) rfl rfl ?_
            refine v_goto (q := 3) hC dX10_passOn_75 (by decide) ?_
            rw [nI_1 k]
            have hCk : ∀ g, C j k = some g → g < 6 := fun g hg => by have := hCl j k hj hkn g hg; omega
            first
              | exact ih (k + 1) _ _ _ (by omega) (hS.addI (by simp)) (zpas hn6 hj hkn hq (zkA (by first | exact Or.inl h38 | exact Or.inr (Int32.not_le.mp h44)) (zkP h58) hCk (by omega)))
              | exact ih (k + 1) _ _ _ (by omega) hS (zpas0 hj hkn hq (zkB (zkN h58)))
              | exact ih (k + 1) _ _ _ (by omega) hS (zpas0 hj hkn hq (zkC h38 h44 hCk (by omega)))
          · refine v_aload_n (q := 62) hC dX10_passOn_61 rfl rfl rfl ?_
            refine v_getR (q := 65) (r := 18) hC dX10_passOn_62 rfl fX10_12 (hL1.1 17 (by decide)) (hL1.2 17 2 18 rfl) ?_
            refine v_getR (q := 68) (r := b) hC dX10_passOn_65 rfl fX10_46 (hL1.1 18 (by decide)) hw1.1.2.2.1 ?_
            refine v_iload (q := 70) hC dX10_passOn_68 rfl rfl ?_
            refine v_iload_n (q := 71) hC dX10_passOn_70 rfl rfl rfl ?_
            refine v_iastN (q := 72) (j := 6 * j + k) hC dX10_passOn_71 rfl hw1.1.2.2.2.2.1 (z6 j k) (by omega) (by decide) ?_
            refine v_iinc (q := 75) (v := 1) (L' := [_, _, _, _, _, _, _]) hC dX10_passOn_72 rfl rfl (by decide) (by decide) rfl rfl ?_
            refine v_goto (q := 3) hC dX10_passOn_75 (by decide) ?_
            rw [nI_1 k]
            have hCk : ∀ g, C j k = some g → g < 6 := fun g hg => by have := hCl j k hj hkn g hg; omega
            first
              | exact ih (k + 1) _ _ _ (by omega) (hS.addI (by simp)) (zpas hn6 hj hkn hq (zkA (by first | exact Or.inl h38 | exact Or.inr (Int32.not_le.mp h44)) (zkP h58) hCk (by omega)))
              | exact ih (k + 1) _ _ _ (by omega) hS (zpas0 hj hkn hq (zkB (zkN h58)))
              | exact ih (k + 1) _ _ _ (by omega) hS (zpas0 hj hkn hq (zkC h38 h44 hCk (by omega)))
        · refine v_iload_n (q := 42) hC dX10_passOn_41 rfl rfl rfl ?_
          refine v_iload (q := 44) hC dX10_passOn_42 rfl rfl ?_
          refine v_icmp_ge (q := 47) (tgt := 72) hC dX10_passOn_44 rfl (by decide) (fun h44 => ?_) (fun h44 => ?_)
          · refine v_iinc (q := 75) (v := 1) (L' := [_, _, _, _, _, _, _]) hC dX10_passOn_72 rfl rfl (by decide) (by decide) rfl rfl ?_
            refine v_goto (q := 3) hC dX10_passOn_75 (by decide) ?_
            rw [nI_1 k]
            have hCk : ∀ g, C j k = some g → g < 6 := fun g hg => by have := hCl j k hj hkn g hg; omega
            first
              | exact ih (k + 1) _ _ _ (by omega) (hS.addI (by simp)) (zpas hn6 hj hkn hq (zkA (by first | exact Or.inl h38 | exact Or.inr (Int32.not_le.mp h44)) (zkP h58) hCk (by omega)))
              | exact ih (k + 1) _ _ _ (by omega) hS (zpas0 hj hkn hq (zkB (zkN h58)))
              | exact ih (k + 1) _ _ _ (by omega) hS (zpas0 hj hkn hq (zkC h38 h44 hCk (by omega)))
          · refine v_aload_n (q := 48) hC dX10_passOn_47 rfl rfl rfl ?_
            refine v_getR (q := 51) (r := 14) hC dX10_passOn_48 rfl fX10_26 (hL1.1 17 (by decide)) (hL1.2 17 1 14 rfl) ?_
            refine v_iload_n (q := 52) hC dX10_passOn_51 rfl rfl rfl ?_
            refine v_iload_n (q := 53) hC dX10_passOn_52 rfl rfl rfl ?_
            refine v_iload (q := 55) hC dX10_passOn_53 rfl rfl ?_
            refine v_callV1 (q := 58) (As := [_, _, _]) hC dX10_passOn_55 rfl lX10_40 mX8_passes iX8_passes eX8_passes rfl (hL1.1 14 (by decide)) (ct_X8_passes (d + 0) hL1 hn6 hp1 hi hj hkn) rfl rfl (by omega) rfl (Nat.le_of_ble_eq_true rfl) ?_
            refine v_if_eq (q := 61) (tgt := 72) hC dX10_passOn_58 rfl (by decide) (fun h58 => ?_) (fun h58 => ?_)
            · refine v_iinc (q := 75) (v := 1) (L' := [_, _, _, _, _, _, _]) hC dX10_passOn_72 rfl rfl (by decide) (by decide) rfl rfl ?_
              refine v_goto (q := 3) hC dX10_passOn_75 (by decide) ?_
              rw [nI_1 k]
              have hCk : ∀ g, C j k = some g → g < 6 := fun g hg => by have := hCl j k hj hkn g hg; omega
              first
                | exact ih (k + 1) _ _ _ (by omega) (hS.addI (by simp)) (zpas hn6 hj hkn hq (zkA (by first | exact Or.inl h38 | exact Or.inr (Int32.not_le.mp h44)) (zkP h58) hCk (by omega)))
                | exact ih (k + 1) _ _ _ (by omega) hS (zpas0 hj hkn hq (zkB (zkN h58)))
                | exact ih (k + 1) _ _ _ (by omega) hS (zpas0 hj hkn hq (zkC h38 h44 hCk (by omega)))
            · refine v_aload_n (q := 62) hC dX10_passOn_61 rfl rfl rfl ?_
              refine v_getR (q := 65) (r := 18) hC dX10_passOn_62 rfl fX10_12 (hL1.1 17 (by decide)) (hL1.2 17 2 18 rfl) ?_
              refine v_getR (q := 68) (r := b) hC dX10_passOn_65 rfl fX10_46 (hL1.1 18 (by decide)) hw1.1.2.2.1 ?_
              refine v_iload (q := 70) hC dX10_passOn_68 rfl rfl ?_
              refine v_iload_n (q := 71) hC dX10_passOn_70 rfl rfl rfl ?_
              refine v_iastN (q := 72) (j := 6 * j + k) hC dX10_passOn_71 rfl hw1.1.2.2.2.2.1 (z6 j k) (by omega) (by decide) ?_
              refine v_iinc (q := 75) (v := 1) (L' := [_, _, _, _, _, _, _]) hC dX10_passOn_72 rfl rfl (by decide) (by decide) rfl rfl ?_
              refine v_goto (q := 3) hC dX10_passOn_75 (by decide) ?_
              rw [nI_1 k]
              have hCk : ∀ g, C j k = some g → g < 6 := fun g hg => by have := hCl j k hj hkn g hg; omega
              first
                | exact ih (k + 1) _ _ _ (by omega) (hS.addI (by simp)) (zpas hn6 hj hkn hq (zkA (by first | exact Or.inl h38 | exact Or.inr (Int32.not_le.mp h44)) (zkP h58) hCk (by omega)))
                | exact ih (k + 1) _ _ _ (by omega) hS (zpas0 hj hkn hq (zkB (zkN h58)))
                | exact ih (k + 1) _ _ _ (by omega) hS (zpas0 hj hkn hq (zkC h38 h44 hCk (by omega)))
  refine v_iconst (q := 1) (v := 0) hC dX10_passOn_0 rfl (by decide) ?_
  refine v_istore (q := 3) (L' := [_, _, _, _, _, _, _]) hC dX10_passOn_1 rfl (by decide) rfl rfl ?_
  exact lp n 0 _ _ σ (by omega) zSame.rf (fun h w hh hw => by rw [hb h w hh hw]; simp)

