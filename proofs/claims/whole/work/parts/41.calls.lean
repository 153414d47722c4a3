/-! ===== what each call answers and does ===== -/
def sLetter (S : pS) (c : Int32) : Int32 × pS := if c < 1 ∨ 126 < c then (-102, S) else if qPl S = 54 then (-104, S) else (nI (qPl S + 1), ((qPl S + 1, zup (qPc S) (qPl S) c), S.2))
def sBlank (S : pS) : Int32 × pS := (nI (qPl S), ((0, qPc S), S.2))
def sFault (S : pS) : Int32 × pS := (nI (pRead (qPc S) (qPl S) 0 pR0).1, S)
def sLaw (S : pS) : Int32 × pS := match (pRead (qPc S) (qPl S) 0 pR0).2 with
  | none => (-103, S)
  | some (st, _, kin, km, met, mm, tm) => if st = 8 then (nI mm, ((0, qPc S), (kin, km, met, mm, tm), (0, qKd S), (0, qF S, 0), (0, qDw S), qQ S + 1, S.2.2.2.2.2.2)) else (-103, S)
def pTwo (S : pS) (a b : Int32) : Bool := zval (qN S) a && zval (qN S) b && !decide (a = b)
def pBtw (S : pS) (a b : Nat) : Int32 := if qKin S a b then 3 else if pKn (qKd S) (qKin S) (qMet S) a b then 2 else 0
def sBetween (S : pS) (a b : Int32) : Int32 × pS := if pTwo S a b then (pBtw S (dN a) (dN b), S) else (-101, S)
def sPerson (S : pS) (k : Int32) : Int32 × pS := if k < 0 ∨ 4 < k then (-102, S) else if qQ S = 0 then (-103, S) else if qN S = 6 then (-104, S) else (nI (qN S), (S.1, S.2.1, (qN S + 1, fun a => if a = qN S then dN k else qKd S a), S.2.2.2))
def pAbt (S : pS) (p : Nat) (k : Nat) : Int32 := match k with
  | 0 => nI (qKd S p)
  | 1 => nI (pCnt (fun f => decide (qF S 0 f = nI p)) (qM S))
  | 2 => nI (pCnt (fun f => decide (qF S 1 f = nI p)) (qM S))
  | 3 => nI (pCnt (fun f => pOw (qF S) (nI p) f) (qM S))
  | 4 => nI (pCnt (fun f => pOw (qF S) (nI p) f && decide (nI (qW S) - qF S 3 f > nI (pTm (qKd S) (qT S) p))) (qM S))
  | _ => nI (pTm (qKd S) (qT S) p)
def sAbout (S : pS) (p k : Int32) : Int32 × pS := if zval (qN S) p then (if k < 0 ∨ 5 < k then (-102, S) else (pAbt S (dN p) (dN k), S)) else (-101, S)
def sAs (S : pS) (p k : Int32) : Int32 × pS := if zval (qN S) p then (if k < 0 ∨ 4 < k then (-102, S) else (if pIs (dN k) (qKd S (dN p)) then p else -1, S)) else (-101, S)
def pOld (r : Int32) : Option Nat := if r = -1 then none else some (dN r)
def pMay (S : pS) (a b worth r : Int32) : Int32 := if pTwo S a b && (decide (r = -1) || zval (qM S) r) then (if worth < 1 ∨ 99 < worth then -102 else zb (pLf (qKd S) (qKin S) (qMet S) (qT S) (qF S) (qW S) (dN a) (dN b) worth (pOld r))) else -101
def sMay (S : pS) (a b worth r : Int32) : Int32 × pS := (pMay S a b worth r, S)
def sFavour (S : pS) (a b worth r : Int32) : Int32 × pS := if pMay S a b worth r < 0 then (pMay S a b worth r, S) else if pMay S a b worth r = 0 then (-103, S) else if qM S = 12 then (-104, S) else (nI (qM S), (S.1, S.2.1, S.2.2.1, (qM S + 1, pAdd (qM S) (qF S) a b worth (nI (qW S)) (pOld r), qW S), S.2.2.2.2))
def pDd (S : pS) (f k : Nat) : Int32 := if k < 6 then qF S k f else if k = 6 then nI (pAh (qF S) 12 f) else zb (pHm (qF S) (qF S 0 (pFo (qF S) 12 f)) 12 (qF S 5 (pFo (qF S) 12 f)))
def sDeed (S : pS) (f k : Int32) : Int32 × pS := if zval (qM S) f then (if k < 0 ∨ 7 < k then (-102, S) else (pDd S (dN f) (dN k), S)) else (-101, S)
def sWeek (S : pS) : Int32 × pS := if qQ S = 0 then (-103, S) else (nI (qW S + 1), (S.1, S.2.1, S.2.2.1, (qM S, qF S, qW S + 1), S.2.2.2.2))
abbrev pGS (S : pS) : Nat → Nat → Bool := pGv (qKd S) (qKin S) (qMet S)
abbrev pNS (S : pS) : Nat → Nat → Bool := pSn (qKin S)
def pWay (S : pS) (f p : Nat) : Option Nat := pSh (qN S) (pGS S) (pNS S) (dN (qF S 0 f)) (dN (qF S 1 f)) p
def sWay (S : pS) (f p k : Int32) : Int32 × pS := if zval (qM S) f && zval (qN S) p then (if k < 0 ∨ 1 < k then (-102, S) else if qF S 5 (dN f) = -1 then (match pWay S (dN f) (dN p) with
  | none => (-1, S)
  | some j => (if k = 0 then nI (j + 1) else zo (pLst (qN S) (pRow (qN S) (pGS S) (pNS S) (dN (qF S 0 (dN f))) (dN (qF S 1 (dN f))) j) (dN p)), S)) else (-103, S)) else (-101, S)
def sReach (S : pS) (f : Int32) : Int32 × pS := if zval (qM S) f then (if qF S 5 (dN f) = -1 then (nI (pRch (qN S) (pGS S) (pNS S) (dN (qF S 0 (dN f))) (dN (qF S 1 (dN f)))), S) else (-103, S)) else (-101, S)
def sBars (S : pS) (f p : Int32) : Int32 × pS := if zval (qM S) f && zval (qN S) p then (if qF S 5 (dN f) = -1 then (zo (if pWay S (dN f) (dN p) = none then none else pFst (pBr (qN S) (pGS S) (pNS S) (dN (qF S 0 (dN f))) (dN (qF S 1 (dN f))) (dN p)) (qN S)), S) else (-103, S)) else (-101, S)
def pMtg (S : pS) (i h p : Nat) : Option Nat := (pMq (qN S) (pKn (qKd S) (qKin S) (qMet S)) (fun q1 q2 => (pSh (qN S) (gvT (qKd S) (pGS S) q1 q2) (pNS S) i h p).map (· + 1)) ((pSh (qN S) (pGS S) (pNS S) i h p).map (· + 1)) 36).2
def sMeeting (S : pS) (f p : Int32) : Int32 × pS := if zval (qM S) f && zval (qN S) p then (if qF S 5 (dN f) = -1 then (zo (pMtg S (dN (qF S 0 (dN f))) (dN (qF S 1 (dN f))) (dN p)), S) else (-103, S)) else (-101, S)
def pRng (S : pS) (p len : Nat) : Nat := tS (pRg (qN S) (pGS S) (pNS S) p len (len - 1))
def sRings (S : pS) (p len : Int32) : Int32 × pS := if zval (qN S) p then (if len < 2 ∨ 6 < len then (-102, S) else (nI (pRng S (dN p) (dN len)), S)) else (-101, S)
def sThanks (S : pS) (p : Int32) : Int32 × pS := if p = -1 ∨ zval (qN S) p = true then (if qDl S = 7 then (-104, S) else (nI (qDl S + 1), (S.1, S.2.1, S.2.2.1, S.2.2.2.1, (qDl S + 1, zup (qDw S) (qDl S) p), S.2.2.2.2.2))) else (-101, S)
def sForget (S : pS) : Int32 × pS := (nI (qDl S), (S.1, S.2.1, S.2.2.1, S.2.2.2.1, (0, qDw S), S.2.2.2.2.2))
def pFit (S : pS) : Nat := pFt (qN S) (pGS S) (pNS S) (qDl S) (qDw S)
def sFits (S : pS) : Int32 × pS := (nI (pFit S), S)
def sSure (S : pS) (q : Int32) : Int32 × pS := if zval (qDl S) q then (zo (pOnly (pOn (qN S) (pGS S) (pNS S) (qDl S) (qDw S) (dN q)) (qN S)), S) else (-101, S)
def sImage (S : pS) : Int32 × pS := if qQ S = 0 then (-103, S) else (nI (qW S), (S.1, S.2.1, S.2.2.1, S.2.2.2.1, S.2.2.2.2.1, qQ S, (qQ S, qN S, S.2.2.2.1, S.2.2.2.2.1)))
def sRestore (S : pS) : Int32 × pS := if qKr S = 0 ∨ ¬ qKr S = qQ S ∨ ¬ qKp S = qN S then (-103, S) else (nI (qW2 S), (S.1, S.2.1, S.2.2.1, (qM2 S, qF2 S, qW2 S), (qD2 S, qV2 S), S.2.2.2.2.2))
def pCou (S : pS) (k : Nat) : Int32 := match k with
  | 0 => nI (qMm S)
  | 1 => nI (qKm S)
  | 2 => nI (qT S)
  | 3 => nI (qN S)
  | 4 => nI (qM S)
  | 5 => nI (pCnt (fun f => decide (qF S 5 f = -1)) (qM S))
  | 6 => nI (qW S)
  | 7 => nI (pCnt (fun f => decide (qF S 4 f = -1) && pHm (qF S) (qF S 0 f) 12 (qF S 5 f)) (qM S))
  | 8 => nI (qDl S)
  | 9 => nI (qPl S)
  | _ => nI (qQ S)
def sCount (S : pS) (k : Int32) : Int32 × pS := if k < 0 ∨ 10 < k then (-102, S) else (pCou S (dN k), S)
theorem pRead_congr {pc pc' : Nat → Int32} : ∀ (k i : Nat) (S : pRs), (∀ j, i ≤ j → j < i + k → pc j = pc' j) → pRead pc k i S = pRead pc' k i S
  | 0, _, _, _ => rfl
  | k + 1, i, S, h => by
    simp only [pRead]
    rw [h i (by omega) (by omega)]
    cases pGo (pc' i) S with
    | none => rfl
    | some S' => exact pRead_congr k (i + 1) S' (fun j h1 h2 => h j (by omega) (by omega))
theorem pRead_fst {pc : Nat → Int32} : ∀ (k i : Nat) (S : pRs), ((pRead pc k i S).2 = none → (pRead pc k i S).1 < i + k) ∧ (∀ S', (pRead pc k i S).2 = some S' → (pRead pc k i S).1 = i + k)
  | 0, i, S => ⟨fun h => by simp [pRead] at h, fun S' h => rfl⟩
  | k + 1, i, S => by
    simp only [pRead]
    cases pGo (pc i) S with
    | none => exact ⟨fun _ => by show i < i + (k + 1); omega, fun S' h => by cases h⟩
    | some S1 =>
      have := pRead_fst (pc := pc) k (i + 1) S1
      exact ⟨fun h => by have := this.1 h; dsimp only; omega, fun S' h => by have := this.2 S' h; dsimp only; omega⟩
theorem zltv {x : Int32} {k : Nat} (hk : k < 2 ^ 31) : x < nI k ↔ x.toInt < k := by rw [Int32.lt_iff_toInt_lt, nI_toInt hk]
theorem zgtv {x : Int32} {k : Nat} (hk : k < 2 ^ 31) : nI k < x ↔ (k : Int) < x.toInt := by rw [Int32.lt_iff_toInt_lt, nI_toInt hk]
/-- a number between two bounds is that of a Nat -/
theorem zbw {x : Int32} (lo hi : Nat) (hh : hi < 2 ^ 30) (hl : lo ≤ hi) (h1 : ¬ x < nI lo) (h2 : ¬ nI hi < x) : ∃ k, lo ≤ k ∧ k ≤ hi ∧ x = nI k := by
  rw [zltv (by omega)] at h1
  rw [zgtv (by omega)] at h2
  have e : x = nI x.toInt.toNat := by apply Int32.toInt_inj.mp; rw [nI_toInt (by omega)]; omega
  exact ⟨x.toInt.toNat, by omega, by omega, e⟩

set_option maxRecDepth 100000 in
set_option maxHeartbeats 4000000 in
theorem cl_letter (d : Nat) {σ : zSt} {S : pS} {B : Nat} (h : zCl σ S) (ok : pOk B S) (c : Int32) : zCt (d + 1) MX11_letter [.ref 0, .int c] σ (zQs zCl zFc σ (sLetter S c)) := by
  refine zCt.of (L := [some (.ref 0), some (.int c)]) (by decide) (Nat.le_of_ble_eq_true rfl) rfl (fun X hC hB => ?_)
  have hC : zC X RX11 cX11_letter 2 (d + 1) 0 0 := hC
  have hB : zB X (some .int) 0 0 "letter" σ _ := hB
  show zV X 2 0 [some (.ref 0), some (.int c)] [] 0 0 σ
  have h0 := h
  obtain ⟨hL, hPg, hF, hK, hp, h18, h23, hd, hy, hd2, hy2, hq⟩ := h
  obtain ⟨oB, oq, ow, oqt, ot, okm, omm, oq0, oL, oD, okr, okp, oK, osym, okp6, okd⟩ := ok
  refine v_iload_n (q := 1) hC dX11_letter_0 rfl rfl rfl ?_
  refine v_iconst (q := 2) (v := 1) hC dX11_letter_1 rfl (by decide) ?_
  refine v_icmp_lt (q := 5) (tgt := 11) hC dX11_letter_2 rfl (by decide) (fun h2 => ?_) (fun h2 => ?_)
  · refine v_bipush (q := 13) (v := -102) hC dX11_letter_11 rfl (by decide) ?_
    refine v_ireturn hC hB dX11_letter_13 ⟨Nat.le_refl _, Nat.le_refl _⟩ ?_
    exact zQs.mk (by unfold sLetter; exact if_pos (by first | exact Or.inl h2 | exact Or.inr (Int32.not_le.mp h8))) h0 (zFc.of (cs := []) (rs := []) zSame.rf rfl rfl)
  · refine v_iload_n (q := 6) hC dX11_letter_5 rfl rfl rfl ?_
    refine v_bipush (q := 8) (v := 126) hC dX11_letter_6 rfl (by decide) ?_
    refine v_icmp_le (q := 11) (tgt := 14) hC dX11_letter_8 rfl (by decide) (fun h8 => ?_) (fun h8 => ?_)
    · refine v_aload_n (q := 15) hC dX11_letter_14 rfl rfl rfl ?_
      refine v_getR (q := 18) (r := 1) hC dX11_letter_15 rfl fX11_10 (hL.1 0 (by decide)) (hL.2 0 0 1 rfl) ?_
      refine v_getI (q := 21) hC dX11_letter_18 rfl fX11_78 (hL.1 1 (by decide)) ?_
      rw [hPg.1]
      refine v_bipush (q := 23) (v := 54) hC dX11_letter_21 rfl (by decide) ?_
      refine v_icmp_lt (q := 26) (tgt := 29) hC dX11_letter_23 rfl (by decide) (fun h23_ => ?_) (fun h23_ => ?_)
      · have hlt : qPl S < 54 := (nI_ltI (a := qPl S) (b := 54) (by have := hPg.2.1; omega) (by omega)).mp h23_
        refine v_aload_n (q := 30) hC dX11_letter_29 rfl rfl rfl ?_
        refine v_getR (q := 33) (r := 1) hC dX11_letter_30 rfl fX11_10 (hL.1 0 (by decide)) (hL.2 0 0 1 rfl) ?_
        refine v_iload_n (q := 34) hC dX11_letter_33 rfl rfl rfl ?_
        refine v_callV0 (q := 37) (As := [_]) hC dX11_letter_34 rfl lX11_82 mX5_add iX5_add eX5_add rfl (hL.1 1 (by decide)) (ct_X5_add d hL hPg.1 hlt c) rfl rfl (by omega) rfl (Nat.le_of_ble_eq_true rfl) ?_
        refine v_aload_n (q := 38) hC dX11_letter_37 rfl rfl rfl ?_
        refine v_getR (q := 41) (r := 1) hC dX11_letter_38 rfl fX11_10 (hL.1 0 (by decide)) (hL.2 0 0 1 rfl) ?_
        refine v_getI (q := 44) hC dX11_letter_41 rfl fX11_78 (hL.1 1 (by decide)) ?_
        rw [zI_eq]
        refine v_ireturn hC hB dX11_letter_44 ⟨Nat.le_refl _, Nat.le_refl _⟩ ?_
        have hS : zSame [1, 2] [] σ (zsI (zsI σ 2 (qPl S) c) 1 1 (nI (qPl S + 1))) := (zSame.sI (by simp)).addI (by simp)
        refine zQs.mk (S' := ((qPl S + 1, zup (qPc S) (qPl S) c), S.2)) (by unfold sLetter; rw [if_neg (by rintro (z | z); exact h2 z; exact absurd h8 (Int32.not_le.mpr z)), if_neg (by omega)]) ⟨hL.same hS rfl, ⟨zI_eq, by show qPl S + 1 ≤ 54; omega, fun i hi => ?_⟩, hF.same hS rfl, hK.same hS rfl, hp.same hS rfl, h18.same hS rfl, h23.same hS rfl, hd.same hS rfl, hy.same hS rfl, hd2.same hS rfl, hy2.same hS rfl, hq.same hS rfl⟩ (zFc.of hS rfl rfl)
        show zI _ 2 i = zup (qPc S) (qPl S) c i
        unfold zup
        rw [zI_ne (by omega), zI_sI]
        by_cases e : i = qPl S
        · rw [if_pos ⟨rfl, e⟩, if_pos e]
        · rw [if_neg (fun z => e z.2), if_neg e]; exact hPg.2.2 i (by show i < qPl S; have : i < qPl S + 1 := hi; omega)
      · refine v_bipush (q := 28) (v := -104) hC dX11_letter_26 rfl (by decide) ?_
        refine v_ireturn hC hB dX11_letter_28 ⟨Nat.le_refl _, Nat.le_refl _⟩ ?_
        have e54 : qPl S = 54 := by have := hPg.2.1; have c0 : ¬ qPl S < 54 := fun z => h23_ (nI_lt (a := qPl S) (b := 54) z (by omega)); omega
        exact zQs.mk (by unfold sLetter; rw [if_neg (by rintro (z | z); exact h2 z; exact absurd h8 (Int32.not_le.mpr z)), if_pos e54]) h0 (zFc.of (cs := []) (rs := []) zSame.rf rfl rfl)
    · refine v_bipush (q := 13) (v := -102) hC dX11_letter_11 rfl (by decide) ?_
      refine v_ireturn hC hB dX11_letter_13 ⟨Nat.le_refl _, Nat.le_refl _⟩ ?_
      exact zQs.mk (by unfold sLetter; exact if_pos (by first | exact Or.inl h2 | exact Or.inr (Int32.not_le.mp h8))) h0 (zFc.of (cs := []) (rs := []) zSame.rf rfl rfl)

set_option maxRecDepth 100000 in
set_option maxHeartbeats 4000000 in
theorem cl_blank (d : Nat) {σ : zSt} {S : pS} {B : Nat} (h : zCl σ S) (ok : pOk B S) : zCt (d + 0) MX11_blank [.ref 0] σ (zQs zCl zFc σ (sBlank S)) := by
  refine zCt.of (L := [some (.ref 0), none]) (by decide) (Nat.le_of_ble_eq_true rfl) rfl (fun X hC hB => ?_)
  have hC : zC X RX11 cX11_blank 2 (d + 0) 0 0 := hC
  have hB : zB X (some .int) 0 0 "blank" σ _ := hB
  show zV X 2 0 [some (.ref 0), none] [] 0 0 σ
  have h0 := h
  obtain ⟨hL, hPg, hF, hK, hp, h18, h23, hd, hy, hd2, hy2, hq⟩ := h
  obtain ⟨oB, oq, ow, oqt, ot, okm, omm, oq0, oL, oD, okr, okp, oK, osym, okp6, okd⟩ := ok
  refine v_aload_n (q := 1) hC dX11_blank_0 rfl rfl rfl ?_
  refine v_getR (q := 4) (r := 1) hC dX11_blank_1 rfl fX11_10 (hL.1 0 (by decide)) (hL.2 0 0 1 rfl) ?_
  refine v_getI (q := 7) hC dX11_blank_4 rfl fX11_78 (hL.1 1 (by decide)) ?_
  rw [hPg.1]
  refine v_istore_n (q := 8) (L' := [_, _]) hC dX11_blank_7 rfl rfl (by decide) rfl rfl ?_
  refine v_aload_n (q := 9) hC dX11_blank_8 rfl rfl rfl ?_
  refine v_getR (q := 12) (r := 1) hC dX11_blank_9 rfl fX11_10 (hL.1 0 (by decide)) (hL.2 0 0 1 rfl) ?_
  refine v_iconst (q := 13) (v := 0) hC dX11_blank_12 rfl (by decide) ?_
  refine v_putI (q := 16) hC dX11_blank_13 rfl fX11_78 (hL.1 1 (by decide)) ?_
  refine v_iload_n (q := 17) hC dX11_blank_16 rfl rfl rfl ?_
  refine v_ireturn hC hB dX11_blank_17 ⟨Nat.le_refl _, Nat.le_refl _⟩ ?_
  have hS : zSame [1] [] σ (zsI σ 1 1 0) := zSame.sI (by simp)
  exact zQs.mk (S' := ((0, qPc S), S.2)) rfl ⟨hL.same hS rfl, ⟨zI_eq, Nat.zero_le _, fun i hi => absurd hi (Nat.not_lt_zero i)⟩, hF.same hS rfl, hK.same hS rfl, hp.same hS rfl, h18.same hS rfl, h23.same hS rfl, hd.same hS rfl, hy.same hS rfl, hd2.same hS rfl, hy2.same hS rfl, hq.same hS rfl⟩ (zFc.of hS rfl rfl)

set_option maxRecDepth 100000 in
set_option maxHeartbeats 4000000 in
theorem cl_fault (d : Nat) {σ : zSt} {S : pS} {B : Nat} (h : zCl σ S) (ok : pOk B S) : zCt (d + 5) MX11_fault [.ref 0] σ (zQs zCl zFc σ (sFault S)) := by
  refine zCt.of (L := [some (.ref 0)]) (by decide) (Nat.le_of_ble_eq_true rfl) rfl (fun X hC hB => ?_)
  have hC : zC X RX11 cX11_fault 1 (d + 5) 0 0 := hC
  have hB : zB X (some .int) 0 0 "fault" σ _ := hB
  show zV X 1 0 [some (.ref 0)] [] 0 0 σ
  have h0 := h
  obtain ⟨hL, hPg, hF, hK, hp, h18, h23, hd, hy, hd2, hy2, hq⟩ := h
  obtain ⟨oB, oq, ow, oqt, ot, okm, omm, oq0, oL, oD, okr, okp, oK, osym, okp6, okd⟩ := ok
  refine v_aload_n (q := 1) hC dX11_fault_0 rfl rfl rfl ?_
  refine v_getR (q := 4) (r := 3) hC dX11_fault_1 rfl fX11_19 (hL.1 0 (by decide)) (hL.2 0 1 3 rfl) ?_
  refine v_aload_n (q := 5) hC dX11_fault_4 rfl rfl rfl ?_
  refine v_getR (q := 8) (r := 1) hC dX11_fault_5 rfl fX11_10 (hL.1 0 (by decide)) (hL.2 0 0 1 rfl) ?_
  refine v_callVQ (q := 11) (As := [_]) hC dX11_fault_8 rfl lX11_86 mX3_read iX3_read eX3_read rfl (hL.1 3 (by decide)) (ct_X3_read d hL hPg.1 hPg.2.1) rfl rfl (by omega) (by decide) (Nat.le_of_ble_eq_true rfl) ?_
  rintro _ σ1 ⟨rfl, hS, -⟩
  rw [pRead_congr (qPl S) 0 pR0 (fun j _ hj => hPg.2.2 j (by omega))]
  refine v_ireturn hC hB dX11_fault_11 ⟨Nat.le_refl _, Nat.le_refl _⟩ ?_
  exact zQs.mk rfl (h0.sc hS rfl rfl (h18.same hS rfl) (h23.same hS rfl)) (zFc.of hS rfl rfl)

theorem zst8 {st : Nat} (h : st ≤ 9) (e : pSg st = 6) : st = 8 := by
  match st, h, e with
  | 0, _, e => exact absurd e (by decide)
  | 1, _, e => exact absurd e (by decide)
  | 2, _, e => exact absurd e (by decide)
  | 3, _, e => exact absurd e (by decide)
  | 4, _, e => exact absurd e (by decide)
  | 5, _, e => exact absurd e (by decide)
  | 6, _, e => exact absurd e (by decide)
  | 7, _, e => exact absurd e (by decide)
  | 8, _, _ => rfl
  | 9, _, e => exact absurd e (by decide)
  | st + 10, h, _ => exact absurd h (by omega)

set_option maxRecDepth 100000 in
set_option maxHeartbeats 4000000 in
theorem cl_law (d : Nat) {σ : zSt} {S : pS} {B : Nat} (h : zCl σ S) (ok : pOk B S) : zCt (d + 5) MX11_law [.ref 0] σ (zQs zCl zFc σ (sLaw S)) := by
  refine zCt.of (L := [some (.ref 0), none]) (by decide) (Nat.le_of_ble_eq_true rfl) rfl (fun X hC hB => ?_)
  have hC : zC X RX11 cX11_law 2 (d + 5) 0 0 := hC
  have hB : zB X (some .int) 0 0 "law" σ _ := hB
  show zV X 2 0 [some (.ref 0), none] [] 0 0 σ
  have h0 := h
  obtain ⟨hL, hPg, hF, hK, hp, h18, h23, hd, hy, hd2, hy2, hq⟩ := h
  obtain ⟨oB, oq, ow, oqt, ot, okm, omm, oq0, oL, oD, okr, okp, oK, osym, okp6, okd⟩ := ok
  have hcg := pRead_congr (qPl S) 0 pR0 (fun j _ hj => hPg.2.2 j (by omega))
  have hfs := pRead_fst (pc := qPc S) (qPl S) 0 pR0
  generalize hv : pRead (qPc S) (qPl S) 0 pR0 = rv at hcg hfs
  refine v_aload_n (q := 1) hC dX11_law_0 rfl rfl rfl ?_
  refine v_getR (q := 4) (r := 3) hC dX11_law_1 rfl fX11_19 (hL.1 0 (by decide)) (hL.2 0 1 3 rfl) ?_
  refine v_aload_n (q := 5) hC dX11_law_4 rfl rfl rfl ?_
  refine v_getR (q := 8) (r := 1) hC dX11_law_5 rfl fX11_10 (hL.1 0 (by decide)) (hL.2 0 0 1 rfl) ?_
  refine v_callVQ (q := 11) (As := [_]) hC dX11_law_8 rfl lX11_86 mX3_read iX3_read eX3_read rfl (hL.1 3 (by decide)) (ct_X3_read d hL hPg.1 hPg.2.1) rfl rfl (by omega) (by decide) (Nat.le_of_ble_eq_true rfl) ?_
  rintro _ σ1 ⟨rfl, hS1, hrd⟩
  rw [hcg] at hrd ⊢
  have hL1 := hL.same hS1 rfl
  have hPg1 := hPg.same hS1 rfl
  refine v_istore_n (q := 12) (L' := [_, _]) hC dX11_law_11 rfl rfl (by decide) rfl rfl ?_
  refine v_iload_n (q := 13) hC dX11_law_12 rfl rfl rfl ?_
  refine v_aload_n (q := 14) hC dX11_law_13 rfl rfl rfl ?_
  refine v_getR (q := 17) (r := 1) hC dX11_law_14 rfl fX11_10 (hL1.1 0 (by decide)) (hL1.2 0 0 1 rfl) ?_
  refine v_getI (q := 20) hC dX11_law_17 rfl fX11_78 (hL1.1 1 (by decide)) ?_
  rw [hPg1.1]
  refine v_icmp_ne (q := 23) (tgt := 33) hC dX11_law_20 rfl (by decide) (fun h20 => ?_) (fun h20 => ?_)
  · have hno : sLaw S = (-103, S) := by
      unfold sLaw; rw [hv]; cases e9 : rv.2 with
      | none => rfl
      | some S9 => exact absurd (by rw [hfs.2 S9 e9, Nat.zero_add]) h20
    refine v_bipush (q := 35) (v := -103) hC dX11_law_33 rfl (by decide) ?_
    refine v_ireturn hC hB dX11_law_35 ⟨Nat.le_refl _, Nat.le_refl _⟩ ?_
    exact zQs.mk hno (h0.sc hS1 rfl rfl (h18.same hS1 rfl) (h23.same hS1 rfl)) (zFc.of hS1 rfl rfl)
  · have hs0 : rv.1 = qPl S := by have h9 : rv.1 ≤ qPl S := (by cases e9 : rv.2 with | none => have := hfs.1 e9; omega | some S9 => have := hfs.2 S9 e9; omega); exact (nI_eq (by have := hPg.2.1; omega) (by have := hPg.2.1; omega)).mp h20
    obtain ⟨⟨st, fd, kin, km, met, mm, tm⟩, er⟩ : ∃ S9, rv.2 = some S9 := by cases e9 : rv.2 with | none => (have := hfs.1 e9; omega) | some S9 => exact ⟨S9, rfl⟩
    have hR := hrd _ er
    obtain ⟨hA, w3, w5, w4, w2, wok⟩ := hR
    refine v_aload_n (q := 24) hC dX11_law_23 rfl rfl rfl ?_
    refine v_getR (q := 27) (r := 3) hC dX11_law_24 rfl fX11_19 (hL1.1 0 (by decide)) (hL1.2 0 1 3 rfl) ?_
    refine v_callV1 (q := 30) (As := []) hC dX11_law_27 rfl lX11_90 mX3_isWhole iX3_isWhole eX3_isWhole rfl (hL1.1 3 (by decide)) (ct_X3_isWhole (d + 4) hL1) rfl rfl (by omega) rfl (Nat.le_of_ble_eq_true rfl) ?_
    refine v_if_ne (q := 33) (tgt := 36) hC dX11_law_30 rfl (by decide) (fun h30 => ?_) (fun h30 => ?_)
    · have hst : st = 8 := by have e6 : zI σ1 3 3 = 6 := (by simpa [zb_eq0] using h30); rw [w3] at e6; exact zst8 wok.1 e6
      subst hst
      have h5 : ∀ j, j < 36 → zI σ1 5 j = 0 ∨ zI σ1 5 j = 1 := fun j hj => by have := hA.1 (j / 6) (j % 6) (by omega) (by omega); rw [show 6 * (j / 6) + j % 6 = j by omega] at this; rw [this]; exact zb_01 _
      have h7 : ∀ j, j < 36 → zI σ1 7 j = 0 ∨ zI σ1 7 j = 1 := fun j hj => by have := hA.2.1 (j / 6) (j % 6) (by omega) (by omega); rw [show 6 * (j / 6) + j % 6 = j by omega] at this; rw [this]; exact zb_01 _
      refine v_aload_n (q := 37) hC dX11_law_36 rfl rfl rfl ?_
      refine v_getR (q := 40) (r := 8) hC dX11_law_37 rfl fX11_26 (hL1.1 0 (by decide)) (hL1.2 0 2 8 rfl) ?_
      refine v_aload_n (q := 41) hC dX11_law_40 rfl rfl rfl ?_
      refine v_getR (q := 44) (r := 3) hC dX11_law_41 rfl fX11_19 (hL1.1 0 (by decide)) (hL1.2 0 1 3 rfl) ?_
      refine v_callVQ (q := 47) (As := [_]) hC dX11_law_44 rfl lX11_94 mX2_begin iX2_begin eX2_begin rfl (hL1.1 8 (by decide)) (ct_X2_begin (d + 2) hL1 h5 h7) rfl rfl (by omega) (by decide) (Nat.le_of_ble_eq_true rfl) ?_
      rintro _ σ2 ⟨rfl, hS2, g1, g2, g3, g4, g5, g6⟩
      have hL2 := hL1.same hS2 rfl
      have hq2 := (hq.same hS1 rfl).same hS2 rfl
      refine v_aload_n (q := 48) hC dX11_law_47 rfl rfl rfl ?_
      refine v_getR (q := 51) (r := 28) hC dX11_law_48 rfl fX11_58 (hL2.1 0 (by decide)) (hL2.2 0 6 28 rfl) ?_
      refine v_callV0 (q := 54) (As := []) hC dX11_law_51 rfl lX11_98 mX4_clear iX4_clear eX4_clear rfl (hL2.1 28 (by decide)) (ct_X4_clear (d + 4) (zLg.of hL2 (by simp))) rfl rfl (by omega) rfl (Nat.le_of_ble_eq_true rfl) ?_
      refine v_aload_n (q := 55) hC dX11_law_54 rfl rfl rfl ?_
      refine v_getR (q := 58) (r := 42) hC dX11_law_55 rfl fX11_68 (hL2.1 0 (by decide)) (hL2.2 0 8 42 rfl) ?_
      refine v_iconst (q := 59) (v := 0) hC dX11_law_58 rfl (by decide) ?_
      refine v_putI (q := 62) hC dX11_law_59 rfl fX11_101 (hL2.1 42 (by decide)) ?_
      refine v_aload_n (q := 63) hC dX11_law_62 rfl rfl rfl ?_
      refine v_getR (q := 66) (r := 1) hC dX11_law_63 rfl fX11_10 (hL2.1 0 (by decide)) (hL2.2 0 0 1 rfl) ?_
      refine v_iconst (q := 67) (v := 0) hC dX11_law_66 rfl (by decide) ?_
      refine v_putI (q := 70) hC dX11_law_67 rfl fX11_78 (hL2.1 1 (by decide)) ?_
      refine v_aload_n (q := 71) hC dX11_law_70 rfl rfl rfl ?_
      refine v_dup (q := 72) hC dX11_law_71 rfl rfl ?_
      refine v_getI (q := 75) hC dX11_law_72 rfl fX11_102 (hL2.1 0 (by decide)) ?_
      refine v_iconst (q := 76) (v := 1) hC dX11_law_75 rfl (by decide) ?_
      refine v_iadd (q := 77) hC dX11_law_76 rfl ?_
      refine v_putI (q := 80) hC dX11_law_77 rfl fX11_102 (hL2.1 0 (by decide)) ?_
      refine v_aload_n (q := 81) hC dX11_law_80 rfl rfl rfl ?_
      refine v_getR (q := 84) (r := 8) hC dX11_law_81 rfl fX11_26 (hL2.1 0 (by decide)) (hL2.2 0 2 8 rfl) ?_
      refine v_getR (q := 87) (r := 11) hC dX11_law_84 rfl fX11_105 (hL2.1 8 (by decide)) (hL2.2 8 1 11 rfl) ?_
      refine v_getI (q := 90) hC dX11_law_87 rfl fX11_109 (hL2.1 11 (by decide)) ?_
      refine v_ireturn hC hB dX11_law_90 ⟨Nat.le_refl _, Nat.le_refl _⟩ ?_
      have e72 : zI (zsI (zsI (zsI (zsI σ2 28 6 0) 28 7 0) 42 1 0) 1 1 0) 0 11 = nI (qQ S) := by rw [zI_ne (by omega), zI_ne (by omega), zI_ne (by omega), zI_ne (by omega)]; exact hq2.1
      rw [e72, nI_1]
      have hS3 : zSame [0, 1, 28, 42] [] σ2 (zsI (zsI (zsI (zsI (zsI σ2 28 6 0) 28 7 0) 42 1 0) 1 1 0) 0 11 (nI (qQ S + 1))) := ((((zSame.sI (by simp)).addI (by simp)).addI (by simp)).addI (by simp)).addI (by simp)
      have x28 : ∀ i, zI (zsI (zsI (zsI (zsI (zsI σ2 28 6 0) 28 7 0) 42 1 0) 1 1 0) 0 11 (nI (qQ S + 1))) 28 i = if i = 7 then 0 else if i = 6 then 0 else zI σ2 28 i := fun i => by rw [zI_ne (by omega), zI_ne (by omega), zI_ne (by omega), zI_sI, zI_sI]; by_cases e1 : i = 7 <;> by_cases e2 : i = 6 <;> simp [e1, e2]
      have x42 : zI (zsI (zsI (zsI (zsI (zsI σ2 28 6 0) 28 7 0) 42 1 0) 1 1 0) 0 11 (nI (qQ S + 1))) 42 1 = 0 := by rw [zI_ne (by omega), zI_ne (by omega), zI_eq]
      have x1 : zI (zsI (zsI (zsI (zsI (zsI σ2 28 6 0) 28 7 0) 42 1 0) 1 1 0) 0 11 (nI (qQ S + 1))) 1 1 = 0 := by rw [zI_ne (by omega), zI_eq]
      have x0 : ∀ i, zI (zsI (zsI (zsI (zsI (zsI σ2 28 6 0) 28 7 0) 42 1 0) 1 1 0) 0 11 (nI (qQ S + 1))) 0 i = if i = 11 then nI (qQ S + 1) else zI σ2 0 i := fun i => by rw [zI_sI]; by_cases e1 : i = 11 <;> simp [e1]; · rw [zI_ne (by omega), zI_ne (by omega), zI_ne (by omega), zI_ne (by omega)]
      generalize zsI (zsI (zsI (zsI (zsI σ2 28 6 0) 28 7 0) 42 1 0) 1 1 0) 0 11 (nI (qQ S + 1)) = σ3 at hS3 x28 x42 x1 x0 ⊢
      have er8 : sLaw S = (nI mm, ((0, qPc S), (kin, km, met, mm, tm), (0, qKd S), (0, qF S, 0), (0, qDw S), qQ S + 1, S.2.2.2.2.2.2)) := by unfold sLaw; rw [hv, er]; exact if_pos rfl
      have a2 : zI σ3 11 1 = nI mm := by rw [hS3.2.2.2 11 (by decide), g4]; exact hA.2.2.2
      rw [a2]
      refine zQs.mk er8 ⟨hL2.same hS3 rfl, ⟨x1, Nat.zero_le _, fun i hi => absurd hi (Nat.not_lt_zero i)⟩, ⟨by rw [hS3.2.2.2 8 (by decide)]; exact g6, Nat.zero_le _, fun a ha => absurd ha (Nat.not_lt_zero a), fun a b ha hb => ⟨by rw [hS3.2.2.2 10 (by decide), g1 _ (by omega)]; exact hA.1 a b ha hb, by rw [hS3.2.2.2 12 (by decide), g2 _ (by omega)]; exact hA.2.1 a b ha hb⟩, by rw [hS3.2.2.2 8 (by decide), g5]; exact w2 rfl, by have := wok.2.2.2.2.2.2 rfl; exact this.2⟩, ⟨by rw [hS3.2.2.2 9 (by decide), g3]; exact hA.2.2.1, a2⟩, fun a b ha => absurd ha (Nat.not_lt_zero a), ((h18.same hS1 rfl).same hS2 rfl).same hS3 rfl, ((h23.same hS1 rfl).same hS2 rfl).same hS3 rfl, ⟨by rw [x28]; rfl, Nat.zero_le _, by rw [x28]; rfl, fun j f _ hf => absurd hf (Nat.not_lt_zero f)⟩, ⟨x42, Nat.zero_le _, fun i hi => absurd hi (Nat.not_lt_zero i)⟩, ((hd2.same hS1 rfl).same hS2 rfl).same hS3 rfl, ((hy2.same hS1 rfl).same hS2 rfl).same hS3 rfl, ⟨by rw [x0]; rfl, by rw [x0]; exact hq2.2.1, by rw [x0]; exact hq2.2.2⟩⟩ (zFc.of (((hS1.mono (cs' := [0, 1, 3, 4, 5, 6, 7, 8, 9, 10, 11, 12, 28, 42]) (rs' := []) (by decide) (by decide)).tr (hS2.mono (by decide) (by decide))).tr (hS3.mono (by decide) (by decide))) rfl rfl)
    · have hno : sLaw S = (-103, S) := by
        unfold sLaw; rw [hv, er]; exact if_neg (fun z => by subst z; rw [show zI σ1 3 3 = 6 from w3] at h30; exact absurd h30 (by decide))
      refine v_bipush (q := 35) (v := -103) hC dX11_law_33 rfl (by decide) ?_
      refine v_ireturn hC hB dX11_law_35 ⟨Nat.le_refl _, Nat.le_refl _⟩ ?_
      exact zQs.mk hno (h0.sc hS1 rfl rfl (h18.same hS1 rfl) (h23.same hS1 rfl)) (zFc.of hS1 rfl rfl)

