/-! ===== the class's trial weeks ===== -/
theorem pSeed_n (s : Int32) : ∃ k, k < 2 ^ 31 ∧ pSeed s = nI k := by
  unfold pSeed
  generalize (1103515245 : Int64) * s.toInt64 + 12345 = x
  have h1 : (x &&& 2147483647) = lN (x.toBitVec &&& 2147483647#64).toNat := by
    apply Int64.toBitVec_inj.mp
    rw [Int64.toBitVec_and]
    show _ = BitVec.ofNat 64 _
    rw [BitVec.ofNat_toNat, BitVec.setWidth_eq]
    rfl
  refine ⟨(x.toBitVec &&& 2147483647#64).toNat, ?_, ?_⟩
  · rw [BitVec.toNat_and]
    have := @Nat.and_le_right x.toBitVec.toNat (2147483647#64).toNat
    have e : (2147483647#64).toNat = 2147483647 := rfl
    omega
  · rw [h1, lN_i]
theorem pDraw_n (s : Int32) {n : Nat} (h1 : 1 ≤ n) (hn : n < 2 ^ 31) : ∃ b, b < n ∧ pDraw (pSeed s) (nI n) = nI b := by
  obtain ⟨k, hk, e⟩ := pSeed_n s
  refine ⟨k / 65536 % n, Nat.mod_lt _ h1, ?_⟩
  unfold pDraw
  have g : ¬ nI n < 1 := fun z => absurd ((nI_ltI (a := n) (b := 1) hn (by omega)).mp z) (by omega)
  rw [if_neg g, e, show (65536 : Int32) = nI 65536 from rfl, pk_div hk (by omega) (by omega), pk_rem (by omega) h1 hn]
theorem zo_n {old : Option Nat} {m : Nat} (h : ∀ g, old = some g → g < m) : zo old = -1 ∨ ∃ g, g < m ∧ zo old = nI g := by
  cases old with
  | none => exact Or.inl rfl
  | some g => exact Or.inr ⟨g, h g rfl, rfl⟩
theorem pLw_add {m n w a b p : Nat} {F : Nat → Nat → Int32} {old : Option Nat} (h : pLw m F n w) (ha : a < n) (hb : b < n) (hp : 1 ≤ p) (hp9 : p ≤ 99) (ho : ∀ g, old = some g → g < m) : pLw (m + 1) (pAdd m F (nI a) (nI b) (nI p) (nI w) old) n w := by
  refine ⟨h.1, fun f hf => ?_⟩
  by_cases e : f = m
  · subst e
    simp only [pAdd, if_true]
    exact ⟨⟨a, ha, rfl⟩, ⟨b, hb, rfl⟩, ⟨p, hp, hp9, rfl⟩, ⟨w, Nat.le_refl _, rfl⟩, zo_n ho, Or.inl trivial⟩
  · have hf' : f < m := by omega
    obtain ⟨q0, q1, q2, q3, q4, q5⟩ := h.2 f hf'
    simp only [pAdd, if_neg e]
    refine ⟨by rw [if_neg (by omega)]; exact q0, by rw [if_neg (by omega)]; exact q1, by rw [if_neg (by omega)]; exact q2, by rw [if_neg (by omega)]; exact q3, by rw [if_neg (by omega)]; exact q4, ?_⟩
    split
    · exact Or.inr ⟨m, hf', by omega, rfl⟩
    · rcases q5 with z | ⟨g, hg, hg2, z⟩
      · exact Or.inl z
      · exact Or.inr ⟨g, hg, by omega, z⟩
theorem pLw_mono {m n n' w w' : Nat} {F : Nat → Nat → Int32} (h : pLw m F n w) (hn : n ≤ n') (hw : w ≤ w') (hw' : w' < 1000000) : pLw m F n' w' := by
  refine ⟨hw', fun f hf => ?_⟩
  obtain ⟨⟨a, ha, ea⟩, ⟨b, hb, eb⟩, q2, ⟨c, hc, ec⟩, q4, q5⟩ := h.2 f hf
  exact ⟨⟨a, by omega, ea⟩, ⟨b, by omega, eb⟩, q2, ⟨c, by omega, ec⟩, q4, q5⟩
/-- a trial: favours, their columns, the seed -/
abbrev pWk : Type := Nat × (Nat → Nat → Int32) × Int32
def pRep (n : Nat) (kd : Nat → Nat) (kin met : Nat → Nat → Bool) (t w who f : Nat) (x : pWk) : pWk := if pDraw (pSeed x.2.2) 2 = 1 then (x.1, x.2.1, pSeed x.2.2) else if x.1 = 12 then (x.1, x.2.1, pSeed (pSeed x.2.2)) else if pLf kd kin met t x.2.1 w who (dN (pDraw (pSeed (pSeed x.2.2)) (nI n))) (x.2.1 2 f) (some f) = true then (x.1 + 1, pAdd x.1 x.2.1 (nI who) (pDraw (pSeed (pSeed x.2.2)) (nI n)) (x.2.1 2 f) (nI w) (some f), pSeed (pSeed x.2.2)) else (x.1, x.2.1, pSeed (pSeed x.2.2))
def pWho (n : Nat) (kd : Nat → Nat) (kin met : Nat → Nat → Bool) (t w who : Nat) (x : pWk) : pWk := match pFst (pOw x.2.1 (nI who)) x.1 with
  | none => x
  | some f => pRep n kd kin met t w who f x
def pWkU (n : Nat) (kd : Nat → Nat) (kin met : Nat → Nat → Bool) (t w : Nat) (x : pWk) : Nat → pWk
  | 0 => x
  | k + 1 => pWho n kd kin met t w k (pWkU n kd kin met t w x k)
def pWks (n : Nat) (kd : Nat → Nat) (kin met : Nat → Nat → Bool) (t w : Nat) (x : pWk) : Nat → pWk
  | 0 => x
  | k + 1 => pWkU n kd kin met t (w + k) (pWks n kd kin met t w x k) n
def pWkA (x : pWk) (j : Nat) : Int32 := match j with
  | 0 => nI x.1
  | 1 => nI (pCnt (fun f => decide (x.2.1 5 f = -1)) x.1)
  | 2 => nI (pCnt (fun f => decide (x.2.1 4 f = -1) && pHm x.2.1 (x.2.1 0 f) 12 (x.2.1 5 f)) x.1)
  | _ => x.2.2
def sWeeks (S : pS) (k s what : Int32) : Int32 × pS := if k < 1 ∨ 60 < k ∨ s < 0 ∨ what < 0 ∨ 3 < what then (-102, S) else if qQ S = 0 then (-103, S) else (pWkA (pWks (qN S) (qKd S) (qKin S) (qMet S) (qT S) (qW S) (qM S, qF S, s) (dN k)) (dN what), S)
theorem pRep_ok {n : Nat} {kd : Nat → Nat} {kin met : Nat → Nat → Bool} {t w who f : Nat} {x : pWk} (hw : pLw x.1 x.2.1 n w) (h1 : 1 ≤ n) (hn : n ≤ 6) (hwho : who < n) (hf : f < x.1) : pLw (pRep n kd kin met t w who f x).1 (pRep n kd kin met t w who f x).2.1 n w := by
  unfold pRep
  split
  · exact hw
  · split
    · exact hw
    · split
      · obtain ⟨b, hb, e⟩ := pDraw_n (pSeed x.2.2) h1 (by omega)
        obtain ⟨-, -, ⟨p, hp, hp9, ep⟩, -⟩ := hw.2 f hf
        rw [e, ep]
        exact pLw_add hw hwho hb hp hp9 (fun g hg => by cases hg; exact hf)
      · exact hw
theorem pFst_lt {P : Nat → Bool} : ∀ {m f : Nat}, pFst P m = some f → f < m
  | 0, f, h => by simp [pFst] at h
  | m + 1, f, h => by
    simp only [pFst] at h
    cases e : pFst P m with
    | some g => rw [e] at h; simp at h; have := pFst_lt e; omega
    | none => rw [e] at h; simp at h; omega
theorem pWho_ok {n : Nat} {kd : Nat → Nat} {kin met : Nat → Nat → Bool} {t w who : Nat} {x : pWk} (hw : pLw x.1 x.2.1 n w) (hn : n ≤ 6) (hwho : who < n) : pLw (pWho n kd kin met t w who x).1 (pWho n kd kin met t w who x).2.1 n w := by
  unfold pWho
  split
  · exact hw
  · rename_i f e
    exact pRep_ok hw (by omega) hn hwho (pFst_lt e)
theorem pWkU_ok {n : Nat} {kd : Nat → Nat} {kin met : Nat → Nat → Bool} {t w : Nat} {x : pWk} (hw : pLw x.1 x.2.1 n w) (hn : n ≤ 6) : ∀ k, k ≤ n → pLw (pWkU n kd kin met t w x k).1 (pWkU n kd kin met t w x k).2.1 n w
  | 0, _ => hw
  | k + 1, hk => pWho_ok (pWkU_ok hw hn k (by omega)) hn (by omega)
theorem pWks_ok {n : Nat} {kd : Nat → Nat} {kin met : Nat → Nat → Bool} {t w : Nat} {x : pWk} (hw : pLw x.1 x.2.1 n w) (hn : n ≤ 6) (hB : w < 900000) : ∀ k, k ≤ 60 → pLw (pWks n kd kin met t w x k).1 (pWks n kd kin met t w x k).2.1 n (w + k)
  | 0, _ => hw
  | k + 1, hk => pLw_mono (pWkU_ok (pWks_ok hw hn hB k (by omega)) hn n (Nat.le_refl _)) (Nat.le_refl _) (by omega) (by omega)
/-- the trial's memory -/
def zTr (σ : zSt) (c n : Nat) (kd : Nat → Nat) (kin met : Nat → Nat → Bool) (t w : Nat) (x : pWk) : Prop := zLay σ ∧ zFk σ n kd kin met t ∧ zLd σ 35 x.1 x.2.1 w ∧ σ.1[c]? = some (0, 1) ∧ zI σ c 0 = x.2.2
theorem ztl {c : Nat} (hc : 71 ≤ c) : ((c :: zlc 35).all fun c => !(c == 8) && !(c == 10) && !(c == 12) && !(c == 13)) = true := by
  simp [zlc]
  omega
theorem zT1 {σ : zSt} {c n : Nat} {kd : Nat → Nat} {kin met : Nat → Nat → Bool} {t w : Nat} {x : pWk} (h : zTr σ c n kd kin met t w x) (hc : 71 ≤ c) (s : Int32) : zTr (zsI σ c 0 s) c n kd kin met t w (x.1, x.2.1, s) ∧ zSame (c :: zlc 35) [] σ (zsI σ c 0 s) := by
  have hS : zSame (c :: zlc 35) [] σ (zsI σ c 0 s) := zSame.sI (by simp)
  obtain ⟨h1, h2, h3, h4, h5⟩ := h
  exact ⟨⟨h1.same hS rfl, h2.same hS (ztl hc), ⟨by rw [zI_ne (by omega)]; exact h3.1, h3.2.1, by rw [zI_ne (by omega)]; exact h3.2.2.1, fun j f hj hf => by rw [zI_ne (by omega)]; exact h3.2.2.2 j f hj hf⟩, h4, zI_eq⟩, hS⟩

set_option maxRecDepth 100000 in
set_option maxHeartbeats 4000000 in
theorem ct_X11_repayByDraw (d : Nat) {σ : zSt} {c n : Nat} {kd : Nat → Nat} {kin met : Nat → Nat → Bool} {t w : Nat} {x : pWk} (h : zTr σ c n kd kin met t w x) (hc : 71 ≤ c) (hw : pLw x.1 x.2.1 n w) {who f : Nat} (hwho : who < n) (hf : f < x.1) : zCt (d + 4) MX11_repayByDraw [.ref 0, .int (nI who), .int (nI f), .ref c] σ (fun r σ' => r = none ∧ zSame (c :: zlc 35) [] σ σ' ∧ zTr σ' c n kd kin met t w (pRep n kd kin met t w who f x)) := by
  refine zCt.of (L := [some (.ref 0), some (.int (nI who)), some (.int (nI f)), some (.ref c), none, none]) (by decide) (Nat.le_of_ble_eq_true rfl) rfl (fun X hC hB => ?_)
  have hC : zC X RX11 cX11_repayByDraw 6 (d + 4) 0 0 := hC
  have hB : zB X none 0 0 "repayByDraw" σ _ := hB
  show zV X 6 0 [some (.ref 0), some (.int (nI who)), some (.int (nI f)), some (.ref c), none, none] [] 0 0 σ
  obtain ⟨hL, hF, hd, hs, hx⟩ := h
  have h0 : zTr σ c n kd kin met t w x := ⟨hL, hF, hd, hs, hx⟩
  have hn6 := hF.2.1
  have hm12 := hd.2.1
  refine v_aload_n (q := 1) hC dX11_repayByDraw_0 rfl rfl rfl ?_
  refine v_iconst (q := 2) (v := 2) hC dX11_repayByDraw_1 rfl (by decide) ?_
  refine v_callV1 (q := 5) (As := [_]) hC dX11_repayByDraw_2 rfl lX11_261 mX1_drawOf iX1_drawOf eX1_drawOf rfl (by assumption) (ct_X1_drawOf (d + 3) hs 2) rfl rfl (by omega) rfl (Nat.le_of_ble_eq_true rfl) ?_
  rw [hx]
  obtain ⟨⟨hL, hF, hd, hs, hx1⟩, hS1⟩ := zT1 h0 hc (pSeed x.2.2)
  have h1 : zTr (zsI σ c 0 (pSeed x.2.2)) c n kd kin met t w (x.1, x.2.1, pSeed x.2.2) := ⟨hL, hF, hd, hs, hx1⟩
  generalize zsI σ c 0 (pSeed x.2.2) = σ1 at *
  refine v_iconst (q := 6) (v := 1) hC dX11_repayByDraw_5 rfl (by decide) ?_
  refine v_icmp_ne (q := 9) (tgt := 10) hC dX11_repayByDraw_6 rfl (by decide) (fun h6 => ?_) (fun h6 => ?_)
  · refine v_aload_n (q := 11) hC dX11_repayByDraw_10 rfl rfl rfl ?_
    refine v_aload_n (q := 12) hC dX11_repayByDraw_11 rfl rfl rfl ?_
    refine v_getR (q := 15) (r := 8) hC dX11_repayByDraw_12 rfl fX11_26 (hL.1 0 (by decide)) (hL.2 0 2 8 rfl) ?_
    refine v_getI (q := 18) hC dX11_repayByDraw_15 rfl fX11_122 (hL.1 8 (by decide)) ?_
    rw [hF.1]
    refine v_callV1 (q := 21) (As := [_]) hC dX11_repayByDraw_18 rfl lX11_261 mX1_drawOf iX1_drawOf eX1_drawOf rfl (by assumption) (ct_X1_drawOf (d + 3) hs (nI n)) rfl rfl (by omega) rfl (Nat.le_of_ble_eq_true rfl) ?_
    rw [hx1]
    obtain ⟨⟨hL, hF, hd, hs, hx2⟩, hS2⟩ := zT1 h1 hc (pSeed (pSeed x.2.2))
    have h2 : zTr (zsI σ1 c 0 (pSeed (pSeed x.2.2))) c n kd kin met t w (x.1, x.2.1, pSeed (pSeed x.2.2)) := ⟨hL, hF, hd, hs, hx2⟩
    generalize zsI σ1 c 0 (pSeed (pSeed x.2.2)) = σ2 at *
    have hLg := zLg.of hL (c := 35) (by simp)
    obtain ⟨b, hb, eb⟩ := pDraw_n (pSeed x.2.2) (show 1 ≤ n by omega) (show n < 2 ^ 31 by omega)
    have hd : zLd σ2 35 x.1 x.2.1 w := hd
    rw [eb]
    refine v_istore (q := 23) (L' := [_, _, _, _, _, _]) hC dX11_repayByDraw_21 rfl (by decide) rfl rfl ?_
    refine v_aload_n (q := 24) hC dX11_repayByDraw_23 rfl rfl rfl ?_
    refine v_getR (q := 27) (r := 35) hC dX11_repayByDraw_24 rfl fX11_62 (hL.1 0 (by decide)) (hL.2 0 7 35 rfl) ?_
    refine v_callV1 (q := 30) (As := []) hC dX11_repayByDraw_27 rfl lX11_165 mX4_isFull iX4_isFull eX4_isFull rfl (hL.1 35 (by decide)) (ct_X4_isFull (d + 3) hLg hd) rfl rfl (by omega) rfl (Nat.le_of_ble_eq_true rfl) ?_
    refine v_if_eq (q := 33) (tgt := 34) hC dX11_repayByDraw_30 rfl (by decide) (fun h30 => ?_) (fun h30 => ?_)
    · have hm11 : x.1 < 12 := by have := of_decide_eq_false (zb_eq0.mp h30); omega
      refine v_aload_n (q := 35) hC dX11_repayByDraw_34 rfl rfl rfl ?_
      refine v_getR (q := 38) (r := 35) hC dX11_repayByDraw_35 rfl fX11_62 (hL.1 0 (by decide)) (hL.2 0 7 35 rfl) ?_
      refine v_getR (q := 41) (r := 38) hC dX11_repayByDraw_38 rfl fX11_176 (hL.1 35 (by decide)) (hL.2 35 2 38 rfl) ?_
      refine v_iload_n (q := 42) hC dX11_repayByDraw_41 rfl rfl rfl ?_
      refine v_ialdN (q := 43) (j := f) hC dX11_repayByDraw_42 rfl (hL.1 38 (by decide)) rfl (by omega) (by decide) ?_
      rw [show zI σ2 38 f = x.2.1 2 f from hd.2.2.2 2 f (by decide) hf]
      refine v_istore (q := 45) (L' := [_, _, _, _, _, _]) hC dX11_repayByDraw_43 rfl (by decide) rfl rfl ?_
      refine v_aload_n (q := 46) hC dX11_repayByDraw_45 rfl rfl rfl ?_
      refine v_getR (q := 49) (r := 35) hC dX11_repayByDraw_46 rfl fX11_62 (hL.1 0 (by decide)) (hL.2 0 7 35 rfl) ?_
      refine v_aload_n (q := 50) hC dX11_repayByDraw_49 rfl rfl rfl ?_
      refine v_getR (q := 53) (r := 8) hC dX11_repayByDraw_50 rfl fX11_26 (hL.1 0 (by decide)) (hL.2 0 2 8 rfl) ?_
      refine v_iload_n (q := 54) hC dX11_repayByDraw_53 rfl rfl rfl ?_
      refine v_iload (q := 56) hC dX11_repayByDraw_54 rfl rfl ?_
      refine v_iload (q := 58) hC dX11_repayByDraw_56 rfl rfl ?_
      refine v_iload_n (q := 59) hC dX11_repayByDraw_58 rfl rfl rfl ?_
      refine v_callV1 (q := 62) (As := [_, _, _, _, _]) hC dX11_repayByDraw_59 rfl lX11_157 mX4_isLawful iX4_isLawful eX4_isLawful rfl (hL.1 35 (by decide)) (ct_X4_isLawful d hLg hd hL hF hw hwho hb (x.2.1 2 f) (old := some f) (fun g hg => by cases hg; exact hf)) rfl rfl (by omega) rfl (Nat.le_of_ble_eq_true rfl) ?_
      refine v_if_eq (q := 65) (tgt := 79) hC dX11_repayByDraw_62 rfl (by decide) (fun h62 => ?_) (fun h62 => ?_)
      · refine v_return hC hB dX11_repayByDraw_79 ⟨Nat.le_refl _, Nat.le_refl _⟩ ?_
        have e : pRep n kd kin met t w who f x = (x.1, x.2.1, pSeed (pSeed x.2.2)) := by unfold pRep; rw [if_neg h6, if_neg (by omega), eb, dN_nI (by omega)]; exact if_neg (by rw [zb_eq0.mp h62]; decide)
        rw [e]
        exact ⟨rfl, hS1.tr hS2, h2⟩
      · refine v_aload_n (q := 66) hC dX11_repayByDraw_65 rfl rfl rfl ?_
        refine v_getR (q := 69) (r := 35) hC dX11_repayByDraw_66 rfl fX11_62 (hL.1 0 (by decide)) (hL.2 0 7 35 rfl) ?_
        refine v_iload_n (q := 70) hC dX11_repayByDraw_69 rfl rfl rfl ?_
        refine v_iload (q := 72) hC dX11_repayByDraw_70 rfl rfl ?_
        refine v_iload (q := 74) hC dX11_repayByDraw_72 rfl rfl ?_
        refine v_iload_n (q := 75) hC dX11_repayByDraw_74 rfl rfl rfl ?_
        refine v_callVQ (q := 78) (As := [_, _, _, _]) hC dX11_repayByDraw_75 rfl lX11_168 mX4_add iX4_add eX4_add rfl (hL.1 35 (by decide)) (ct_X4_add (d + 3) hLg hd hm11 (nI who) (nI b) (x.2.1 2 f) (old := some f) (fun g hg => by cases hg; exact hf)) rfl rfl (by omega) (by decide) (Nat.le_of_ble_eq_true rfl) ?_
        rintro _ σ3 ⟨rfl, hS3, hd3⟩
        refine v_pop (q := 79) hC dX11_repayByDraw_78 rfl rfl ?_
        refine v_return hC hB dX11_repayByDraw_79 ⟨Nat.le_refl _, Nat.le_refl _⟩ ?_
        have e : pRep n kd kin met t w who f x = (x.1 + 1, pAdd x.1 x.2.1 (nI who) (nI b) (x.2.1 2 f) (nI w) (some f), pSeed (pSeed x.2.2)) := by unfold pRep; rw [if_neg h6, if_neg (by omega), eb, dN_nI (by omega)]; exact if_pos (zb_ne h62)
        rw [e]
        have hS4 := hS3.mono (cs' := c :: zlc 35) (rs' := []) (fun z hz => List.mem_cons_of_mem _ hz) (fun z hz => hz)
        exact ⟨rfl, (hS1.tr hS2).tr hS4, hL.same hS3 rfl, hF.same hS3 rfl, hd3, by rw [hS3.1]; exact hs, by rw [hS3.2.2.2 c (by simp [zlc]; omega)]; exact hx2⟩
    · refine v_return hC hB dX11_repayByDraw_33 ⟨Nat.le_refl _, Nat.le_refl _⟩ ?_
      have e : pRep n kd kin met t w who f x = (x.1, x.2.1, pSeed (pSeed x.2.2)) := by unfold pRep; rw [if_neg h6]; exact if_pos (of_decide_eq_true (zb_ne h30))
      rw [e]
      exact ⟨rfl, hS1.tr hS2, h2⟩
  · refine v_return hC hB dX11_repayByDraw_9 ⟨Nat.le_refl _, Nat.le_refl _⟩ ?_
    have e : pRep n kd kin met t w who f x = (x.1, x.2.1, pSeed x.2.2) := if_pos h6
    rw [e]
    exact ⟨rfl, hS1, h1⟩

theorem zo_m {o : Option Nat} {m : Nat} (h : ∀ g, o = some g → g < m) (hm : m < 2 ^ 31) : zo o = -1 ↔ o = none := by
  cases o with
  | none => exact ⟨fun _ => rfl, fun _ => rfl⟩
  | some g =>
    refine ⟨fun z => ?_, fun z => by cases z⟩
    have z : nI g = -1 := z
    have h1 := nI_pos' (n := g) (by have := h g rfl; omega)
    rw [z] at h1
    exact absurd h1 (by decide)

set_option maxRecDepth 100000 in
set_option maxHeartbeats 4000000 in
theorem ct_X11_liveTrialWeek (d : Nat) {σ : zSt} {c n : Nat} {kd : Nat → Nat} {kin met : Nat → Nat → Bool} {t w : Nat} {x : pWk} (h : zTr σ c n kd kin met t w x) (hc : 71 ≤ c) (hw : pLw x.1 x.2.1 n w) : zCt (d + 5) MX11_liveTrialWeek [.ref 0, .ref c] σ (fun r σ' => r = none ∧ zSame (c :: zlc 35) [] σ σ' ∧ zTr σ' c n kd kin met t (w + 1) (pWkU n kd kin met t w x n)) := by
  refine zCt.of (L := [some (.ref 0), some (.ref c), none, none]) (by decide) (Nat.le_of_ble_eq_true rfl) rfl (fun X hC hB => ?_)
  have hC : zC X RX11 cX11_liveTrialWeek 4 (d + 5) 0 0 := hC
  have hB : zB X none 0 0 "liveTrialWeek" σ _ := hB
  show zV X 4 0 [some (.ref 0), some (.ref c), none, none] [] 0 0 σ
  have h0 := h
  have lp : ∀ (r : Nat) (i : Nat) (σ1 : zSt) (o3 : Option Value), i + r = n → zSame (c :: zlc 35) [] σ σ1 → zTr σ1 c n kd kin met t w (pWkU n kd kin met t w x i) → zV X 4 2 [some (.ref 0), some (.ref c), some (.int (nI i)), o3] [] 0 0 σ1 := by
    intro r
    induction r with
    | zero =>
      intro i σ1 o3 hi hS h1
      obtain ⟨hL1, hF1, hd1, hs1, hx1⟩ := h1
      have h1 : zTr σ1 c n kd kin met t w (pWkU n kd kin met t w x i) := ⟨hL1, hF1, hd1, hs1, hx1⟩
      have hn1 := hF1.1
      have hn6 := hF1.2.1
      refine v_iload_n (q := 3) hC dX11_liveTrialWeek_2 rfl rfl rfl ?_
      refine v_aload_n (q := 4) hC dX11_liveTrialWeek_3 rfl rfl rfl ?_
      refine v_getR (q := 7) (r := 8) hC dX11_liveTrialWeek_4 rfl fX11_26 (hL1.1 0 (by decide)) (hL1.2 0 2 8 rfl) ?_
      refine v_getI (q := 10) hC dX11_liveTrialWeek_7 rfl fX11_122 (hL1.1 8 (by decide)) ?_
      rw [hn1]
      refine v_icmp_ge (q := 13) (tgt := 40) hC dX11_liveTrialWeek_10 rfl (by decide) (fun h10 => ?_) (fun h10 => ?_)
      · refine v_aload_n (q := 41) hC dX11_liveTrialWeek_40 rfl rfl rfl ?_
        refine v_getR (q := 44) (r := 35) hC dX11_liveTrialWeek_41 rfl fX11_62 (hL1.1 0 (by decide)) (hL1.2 0 7 35 rfl) ?_
        refine v_dup (q := 45) hC dX11_liveTrialWeek_44 rfl rfl ?_
        refine v_getI (q := 48) hC dX11_liveTrialWeek_45 rfl fX11_197 (hL1.1 35 (by decide)) ?_
        refine v_iconst (q := 49) (v := 1) hC dX11_liveTrialWeek_48 rfl (by decide) ?_
        refine v_iadd (q := 50) hC dX11_liveTrialWeek_49 rfl ?_
        refine v_putI (q := 53) hC dX11_liveTrialWeek_50 rfl fX11_197 (hL1.1 35 (by decide)) ?_
        refine v_return hC hB dX11_liveTrialWeek_53 ⟨Nat.le_refl _, Nat.le_refl _⟩ ?_
        have e : i = n := by omega
        subst e
        have hS2 : zSame (zlc 35) [] σ1 (zsI σ1 35 7 (zI σ1 35 7 + 1)) := zSame.sI (by simp [zlc])
        refine ⟨rfl, hS.tr (hS2.mono (fun z hz => List.mem_cons_of_mem _ hz) (fun z hz => hz)), hL1.same hS2 rfl, hF1.same hS2 rfl, ⟨by rw [zI_ne (by omega)]; exact hd1.1, hd1.2.1, by rw [zI_eq, hd1.2.2.1, nI_1], fun j f hj hf => by rw [zI_ne (by omega)]; exact hd1.2.2.2 j f hj hf⟩, hs1, by rw [zI_ne (by omega)]; exact hx1⟩
      · exact absurd (nI_le (a := n) (b := i) (by omega) (by omega)) h10
    | succ r ih =>
      intro i σ1 o3 hi hS h1
      obtain ⟨hL1, hF1, hd1, hs1, hx1⟩ := h1
      have h1 : zTr σ1 c n kd kin met t w (pWkU n kd kin met t w x i) := ⟨hL1, hF1, hd1, hs1, hx1⟩
      have hn1 := hF1.1
      have hn6 := hF1.2.1
      refine v_iload_n (q := 3) hC dX11_liveTrialWeek_2 rfl rfl rfl ?_
      refine v_aload_n (q := 4) hC dX11_liveTrialWeek_3 rfl rfl rfl ?_
      refine v_getR (q := 7) (r := 8) hC dX11_liveTrialWeek_4 rfl fX11_26 (hL1.1 0 (by decide)) (hL1.2 0 2 8 rfl) ?_
      refine v_getI (q := 10) hC dX11_liveTrialWeek_7 rfl fX11_122 (hL1.1 8 (by decide)) ?_
      rw [hn1]
      refine v_icmp_ge (q := 13) (tgt := 40) hC dX11_liveTrialWeek_10 rfl (by decide) (fun h10 => ?_) (fun h10 => ?_)
      · exact absurd h10 (nI_ge (a := i) (b := n) (by omega) (by omega))
      · refine v_aload_n (q := 14) hC dX11_liveTrialWeek_13 rfl rfl rfl ?_
        refine v_getR (q := 17) (r := 35) hC dX11_liveTrialWeek_14 rfl fX11_62 (hL1.1 0 (by decide)) (hL1.2 0 7 35 rfl) ?_
        refine v_iload_n (q := 18) hC dX11_liveTrialWeek_17 rfl rfl rfl ?_
        refine v_callV1 (q := 21) (As := [_]) hC dX11_liveTrialWeek_18 rfl lX11_254 mX4_leastOwedBy iX4_leastOwedBy eX4_leastOwedBy rfl (hL1.1 35 (by decide)) (ct_X4_leastOwedBy (d + 2) (zLg.of hL1 (c := 35) (by simp)) hd1 (nI i)) rfl rfl (by omega) rfl (Nat.le_of_ble_eq_true rfl) ?_
        refine v_istore_n (q := 22) (L' := [_, _, _, _]) hC dX11_liveTrialWeek_21 rfl rfl (by decide) rfl rfl ?_
        refine v_iload_n (q := 23) hC dX11_liveTrialWeek_22 rfl rfl rfl ?_
        refine v_iconst (q := 24) (v := -1) hC dX11_liveTrialWeek_23 rfl (by decide) ?_
        refine v_icmp_eq (q := 27) (tgt := 34) hC dX11_liveTrialWeek_24 rfl (by decide) (fun h24 => ?_) (fun h24 => ?_)
        · have en := (zo_m (m := 13) (fun g hg => by have := pFst_lt hg; have := hd1.2.1; omega) (by omega)).mp h24
          have e1 : pWkU n kd kin met t w x (i + 1) = pWkU n kd kin met t w x i := by show pWho n kd kin met t w i _ = _; unfold pWho; rw [en]
          refine v_iinc (q := 37) (v := 1) (L' := [_, _, _, _]) hC dX11_liveTrialWeek_34 rfl rfl (by decide) (by decide) rfl rfl ?_
          refine v_goto (q := 2) hC dX11_liveTrialWeek_37 (by decide) ?_
          rw [nI_1 i]
          first | exact ih (i + 1) _ _ (by omega) (hS.tr hS2) (by rw [e1]; exact h2) | exact ih (i + 1) _ _ (by omega) hS (by rw [e1]; exact h1)
        · obtain ⟨f, en⟩ : ∃ f, pFst (pOw (pWkU n kd kin met t w x i).2.1 (nI i)) (pWkU n kd kin met t w x i).1 = some f := by cases e : pFst (pOw (pWkU n kd kin met t w x i).2.1 (nI i)) (pWkU n kd kin met t w x i).1 with | none => exact absurd (by rw [e]; rfl) h24 | some f => exact ⟨f, rfl⟩
          have e1 : pWkU n kd kin met t w x (i + 1) = pRep n kd kin met t w i f (pWkU n kd kin met t w x i) := by show pWho n kd kin met t w i _ = _; unfold pWho; rw [en]
          rw [en]
          refine v_aload_n (q := 28) hC dX11_liveTrialWeek_27 rfl rfl rfl ?_
          refine v_iload_n (q := 29) hC dX11_liveTrialWeek_28 rfl rfl rfl ?_
          refine v_iload_n (q := 30) hC dX11_liveTrialWeek_29 rfl rfl rfl ?_
          refine v_aload_n (q := 31) hC dX11_liveTrialWeek_30 rfl rfl rfl ?_
          refine v_callVQ (q := 34) (As := [_, _, _]) hC dX11_liveTrialWeek_31 rfl lX11_257 mX11_repayByDraw iX11_repayByDraw eX11_repayByDraw rfl (hL1.1 0 (by decide)) (ct_X11_repayByDraw d h1 hc (pWkU_ok hw hn6 i (by omega)) (show i < n by omega) (pFst_lt en)) rfl rfl (by omega) (by decide) (Nat.le_of_ble_eq_true rfl) ?_
          rintro _ σ2 ⟨rfl, hS2, h2⟩
          refine v_iinc (q := 37) (v := 1) (L' := [_, _, _, _]) hC dX11_liveTrialWeek_34 rfl rfl (by decide) (by decide) rfl rfl ?_
          refine v_goto (q := 2) hC dX11_liveTrialWeek_37 (by decide) ?_
          rw [nI_1 i]
          first | exact ih (i + 1) _ _ (by omega) (hS.tr hS2) (by rw [e1]; exact h2) | exact ih (i + 1) _ _ (by omega) hS (by rw [e1]; exact h1)
  refine v_iconst (q := 1) (v := 0) hC dX11_liveTrialWeek_0 rfl (by decide) ?_
  refine v_istore_n (q := 2) (L' := [_, _, _, _]) hC dX11_liveTrialWeek_1 rfl rfl (by decide) rfl rfl ?_
  exact lp n 0 σ none (by omega) zSame.rf h0

/-- what the class holds lies in its cells, the trial's aside -/
theorem zCl.agr {σ σ' : zSt} {S : pS} (h : zCl σ S) (g1 : ∀ c, c < 71 → σ'.1[c]? = σ.1[c]?) (g2 : ∀ c, c < 53 → (c < 35 ∨ 41 < c) → zI σ' c = zI σ c) (g3 : ∀ c, c < 71 → zR σ' c = zR σ c) (hz : ∀ c j r, zrf c j = some r → c < 71) : zCl σ' S := by
  obtain ⟨hL, hPg, hF, hK, hp, h18, h23, hd, hy, hd2, hy2, hq⟩ := h
  refine ⟨⟨fun c hc => by rw [g1 c hc]; exact hL.1 c hc, fun c j r hr => by rw [g3 c (hz c j r hr)]; exact hL.2 c j r hr⟩, ?_, ?_, ?_, ?_, ?_, ?_, ?_, ?_, ?_, ?_, ?_⟩
  · unfold zPg; rw [g2 1 (by omega) (by omega), g2 2 (by omega) (by omega)]; exact hPg
  · unfold zFk; rw [g2 8 (by omega) (by omega), g2 10 (by omega) (by omega), g2 12 (by omega) (by omega), g2 13 (by omega) (by omega)]; exact hF
  · unfold zKm; rw [g2 9 (by omega) (by omega), g2 11 (by omega) (by omega)]; exact hK
  · unfold zSp; rw [g2 15 (by omega) (by omega), g2 16 (by omega) (by omega)]; exact hp
  · obtain ⟨a, b, h⟩ := h18
    refine ⟨a, b, ?_⟩
    have := h.2
    unfold zRb zRw at h ⊢
    rw [g1 18 (by omega), g1 a (by omega), g1 b (by omega), g3 18 (by omega)]
    exact h
  · obtain ⟨a, b, h⟩ := h23
    refine ⟨a, b, ?_⟩
    have := h.2
    unfold zRb zRw at h ⊢
    rw [g1 23 (by omega), g1 a (by omega), g1 b (by omega), g3 23 (by omega)]
    exact h
  · exact ⟨by rw [g2 28 (by omega) (by omega)]; exact hd.1, hd.2.1, by rw [g2 28 (by omega) (by omega)]; exact hd.2.2.1, fun j f hj hf => by rw [g2 (28 + 1 + j) (by omega) (by omega)]; exact hd.2.2.2 j f hj hf⟩
  · unfold zDy; rw [g2 42 (by omega) (by omega), g2 (42 + 1) (by omega) (by omega)]; exact hy
  · exact ⟨by rw [g2 44 (by omega) (by omega)]; exact hd2.1, hd2.2.1, by rw [g2 44 (by omega) (by omega)]; exact hd2.2.2.1, fun j f hj hf => by rw [g2 (44 + 1 + j) (by omega) (by omega)]; exact hd2.2.2.2 j f hj hf⟩
  · unfold zDy; rw [g2 51 (by omega) (by omega), g2 (51 + 1) (by omega) (by omega)]; exact hy2
  · unfold zRq; rw [g2 0 (by omega) (by omega)]; exact hq

theorem zrf_lt {c j r : Nat} (h : zrf c j = some r) : c < 71 := by
  unfold zrf at h
  by_cases e : c < zrl.length
  · exact Nat.lt_of_lt_of_le e (by decide)
  · have e2 : zrl[c]? = none := List.getElem?_eq_none_iff.mpr (by omega)
    have e3 : zrl.getD c [] = [] := by rw [List.getD_eq_getElem?_getD, e2]; rfl
    rw [e3] at h
    cases h
theorem zLay.len {σ : zSt} (h : zLay σ) : 71 ≤ σ.1.length := by
  have h1 := h.1 70 (by decide)
  have h2 : zsh[70]? ≠ none := by decide
  rw [← h1] at h2
  have := List.getElem?_eq_none_iff (l := σ.1) (i := 70)
  exact Nat.lt_of_not_le (fun z => h2 (this.mpr z))
def zG (σ σ' : zSt) : Prop := σ'.1 = σ.1 ++ [(0, 1)] ∧ (∀ x, x < 71 → (x < 35 ∨ 41 < x) → zI σ' x = zI σ x) ∧ (∀ x, x < 71 → zR σ' x = zR σ x) ∧ ∀ x, x < 71 → zJ σ' x = zJ σ x
theorem zN_I {σ : zSt} {q : Nat × Nat} {x : Nat} (h : x ≠ σ.1.length) : zI (zN σ q) x = zI σ x := by
  funext i
  exact if_neg h
theorem zN_R {σ : zSt} {q : Nat × Nat} {x : Nat} (h : x ≠ σ.1.length) : zR (zN σ q) x = zR σ x := by
  funext i
  exact if_neg h
theorem zN_J {σ : zSt} {q : Nat × Nat} {x : Nat} (h : x ≠ σ.1.length) : zJ (zN σ q) x = zJ σ x := by
  funext i
  exact if_neg h
theorem zG.new {σ σ1 : zSt} (h : zSame (zlc 35) [] σ σ1) (hl : 71 ≤ σ.1.length) (s : Int32) : zG σ (zsI (zN σ1 (0, 1)) σ.1.length 0 s) := by
  have el : σ1.1.length = σ.1.length := by rw [h.1]
  refine ⟨by show σ1.1 ++ [(0, 1)] = _; rw [h.1], fun x hx hx2 => ?_, fun x hx => ?_, fun x hx => ?_⟩
  · funext i
    rw [zI_ne (by omega), zN_I (by omega)]
    exact h.2.2.2 x (by simp [zlc]; omega) i
  · show zR (zN σ1 (0, 1)) x = _
    rw [zN_R (by omega)]
    funext j
    exact h.2.2.1 x (by simp) j
  · show zJ (zN σ1 (0, 1)) x = _
    rw [zN_J (by omega), h.2.1]
theorem zG.step {c : Nat} {σ σ1 σ2 : zSt} (g : zG σ σ1) (hc : 71 ≤ c) (h : zSame (c :: zlc 35) [] σ1 σ2) : zG σ σ2 := by
  refine ⟨h.1.trans g.1, fun x hx hx2 => ?_, fun x hx => ?_, fun x hx => by rw [h.2.1]; exact g.2.2.2 x hx⟩
  · rw [← g.2.1 x hx hx2]
    funext i
    exact h.2.2.2 x (by simp [zlc]; omega) i
  · rw [← g.2.2.1 x hx]
    funext i
    exact h.2.2.1 x (by simp) i
theorem zG.sh {σ σ' : zSt} (g : zG σ σ') (hl : 71 ≤ σ.1.length) : ∀ c, c < 71 → σ'.1[c]? = σ.1[c]? := fun c hc => by rw [g.1, List.getElem?_append_left (by omega)]
theorem zG.cl {σ σ' : zSt} {S : pS} (g : zG σ σ') (h : zCl σ S) : zCl σ' S := h.agr (g.sh h.1.len) (fun c hc => g.2.1 c (by omega)) g.2.2.1 (fun _ _ _ z => zrf_lt z)
theorem zG.fc {σ σ' : zSt} (g : zG σ σ') (hl : 71 ≤ σ.1.length) : zFc σ σ' := ⟨g.sh hl, by rw [g.1]; simp, fun c h1 h2 => ⟨fun i => by rw [g.2.1 c h2 (by omega)], fun i => by rw [g.2.2.2 c h2], fun i => by rw [g.2.2.1 c h2]⟩⟩
theorem zTr.new {σ1 : zSt} {n : Nat} {kd : Nat → Nat} {kin met : Nat → Nat → Bool} {t w m : Nat} {F : Nat → Nat → Int32} (hL : zLay σ1) (hF : zFk σ1 n kd kin met t) (hd : zLd σ1 35 m F w) (s : Int32) : zTr (zsI (zN σ1 (0, 1)) σ1.1.length 0 s) σ1.1.length n kd kin met t w (m, F, s) := by
  have hl := hL.len
  have e : ∀ x, x < 71 → zI (zsI (zN σ1 (0, 1)) σ1.1.length 0 s) x = zI σ1 x := fun x hx => by funext i; rw [zI_ne (by omega), zN_I (by omega)]
  refine ⟨⟨fun c hc => ?_, fun c j r hr => ?_⟩, ?_, ?_, ?_, zI_eq⟩
  · show (σ1.1 ++ [(0, 1)])[c]? = _
    rw [List.getElem?_append_left (by omega)]
    exact hL.1 c hc
  · show zR (zN σ1 (0, 1)) c j = _
    have := zrf_lt hr
    rw [zN_R (by omega)]
    exact hL.2 c j r hr
  · unfold zFk
    rw [e 8 (by omega), e 10 (by omega), e 12 (by omega), e 13 (by omega)]
    exact hF
  · exact ⟨by rw [e 35 (by omega)]; exact hd.1, hd.2.1, by rw [e 35 (by omega)]; exact hd.2.2.1, fun j f hj hf => by rw [e (35 + 1 + j) (by omega)]; exact hd.2.2.2 j f hj hf⟩
  · show (σ1.1 ++ [(0, 1)])[σ1.1.length]? = _
    simp

set_option maxRecDepth 100000 in
set_option maxHeartbeats 4000000 in
theorem cl_weeks (d : Nat) {σ : zSt} {S : pS} {B : Nat} (h : zCl σ S) (ok : pOk B S) (k : Int32) (s : Int32) (what : Int32) : zCt (d + 6) MX11_weeks [.ref 0, .int k, .int s, .int what] σ (zQs zCl zFc σ (sWeeks S k s what)) := by
  refine zCt.of (L := [some (.ref 0), some (.int k), some (.int s), some (.int what), none, none]) (by decide) (Nat.le_of_ble_eq_true rfl) rfl (fun X hC hB => ?_)
  have hC : zC X RX11 cX11_weeks 6 (d + 6) 1 1 := hC
  have hB : zB X (some .int) 1 1 "weeks" σ _ := hB
  show zV X 6 0 [some (.ref 0), some (.int k), some (.int s), some (.int what), none, none] [] 0 0 σ
  have h0 := h
  obtain ⟨hL, hPg, hF, hK, hp, h18, h23, hd, hy, hd2, hy2, hq⟩ := h
  obtain ⟨oB, oq, ow, oqt, ot, okm, omm, oq0, oL, oD, okr, okp, oK, osym, okp6, okd⟩ := ok
  have hn6 := hF.2.1
  have hm12 := hd.2.1
  have hLg := zLg.of hL (c := 28) (by simp)
  have c0 : nI (qQ S) = 0 ↔ qQ S = 0 := nI_eq (a := qQ S) (b := 0) (by omega) (by omega)
  refine v_iload_n (q := 1) hC dX11_weeks_0 rfl rfl rfl ?_
  refine v_iconst (q := 2) (v := 1) hC dX11_weeks_1 rfl (by decide) ?_
  refine v_icmp_lt (q := 5) (tgt := 24) hC dX11_weeks_2 rfl (by decide) (fun h2 => ?_) (fun h2 => ?_)
  · refine v_bipush (q := 26) (v := -102) hC dX11_weeks_24 rfl (by decide) ?_
    refine v_ireturn hC hB dX11_weeks_26 (by decide) ?_
    exact zQs.mk (if_pos (by first | exact Or.inl h2 | exact Or.inr (Or.inl h8) | exact Or.inr (Or.inr (Or.inl h12)) | exact Or.inr (Or.inr (Or.inr (Or.inl h16))) | exact Or.inr (Or.inr (Or.inr (Or.inr (Int32.not_le.mp h21)))))) h0 (zFc.of (cs := []) (rs := []) zSame.rf rfl rfl)
  · refine v_iload_n (q := 6) hC dX11_weeks_5 rfl rfl rfl ?_
    refine v_bipush (q := 8) (v := 60) hC dX11_weeks_6 rfl (by decide) ?_
    refine v_icmp_gt (q := 11) (tgt := 24) hC dX11_weeks_8 rfl (by decide) (fun h8 => ?_) (fun h8 => ?_)
    · refine v_bipush (q := 26) (v := -102) hC dX11_weeks_24 rfl (by decide) ?_
      refine v_ireturn hC hB dX11_weeks_26 (by decide) ?_
      exact zQs.mk (if_pos (by first | exact Or.inl h2 | exact Or.inr (Or.inl h8) | exact Or.inr (Or.inr (Or.inl h12)) | exact Or.inr (Or.inr (Or.inr (Or.inl h16))) | exact Or.inr (Or.inr (Or.inr (Or.inr (Int32.not_le.mp h21)))))) h0 (zFc.of (cs := []) (rs := []) zSame.rf rfl rfl)
    · refine v_iload_n (q := 12) hC dX11_weeks_11 rfl rfl rfl ?_
      refine v_if_lt (q := 15) (tgt := 24) hC dX11_weeks_12 rfl (by decide) (fun h12 => ?_) (fun h12 => ?_)
      · refine v_bipush (q := 26) (v := -102) hC dX11_weeks_24 rfl (by decide) ?_
        refine v_ireturn hC hB dX11_weeks_26 (by decide) ?_
        exact zQs.mk (if_pos (by first | exact Or.inl h2 | exact Or.inr (Or.inl h8) | exact Or.inr (Or.inr (Or.inl h12)) | exact Or.inr (Or.inr (Or.inr (Or.inl h16))) | exact Or.inr (Or.inr (Or.inr (Or.inr (Int32.not_le.mp h21)))))) h0 (zFc.of (cs := []) (rs := []) zSame.rf rfl rfl)
      · refine v_iload_n (q := 16) hC dX11_weeks_15 rfl rfl rfl ?_
        refine v_if_lt (q := 19) (tgt := 24) hC dX11_weeks_16 rfl (by decide) (fun h16 => ?_) (fun h16 => ?_)
        · refine v_bipush (q := 26) (v := -102) hC dX11_weeks_24 rfl (by decide) ?_
          refine v_ireturn hC hB dX11_weeks_26 (by decide) ?_
          exact zQs.mk (if_pos (by first | exact Or.inl h2 | exact Or.inr (Or.inl h8) | exact Or.inr (Or.inr (Or.inl h12)) | exact Or.inr (Or.inr (Or.inr (Or.inl h16))) | exact Or.inr (Or.inr (Or.inr (Or.inr (Int32.not_le.mp h21)))))) h0 (zFc.of (cs := []) (rs := []) zSame.rf rfl rfl)
        · refine v_iload_n (q := 20) hC dX11_weeks_19 rfl rfl rfl ?_
          refine v_iconst (q := 21) (v := 3) hC dX11_weeks_20 rfl (by decide) ?_
          refine v_icmp_le (q := 24) (tgt := 27) hC dX11_weeks_21 rfl (by decide) (fun h21 => ?_) (fun h21 => ?_)
          · have hno : ¬ (k < 1 ∨ 60 < k ∨ s < 0 ∨ what < 0 ∨ 3 < what) := (by rintro (z | z | z | z | z); exact h2 z; exact h8 z; exact h12 z; exact h16 z; exact absurd h21 (Int32.not_le.mpr z))
            obtain ⟨k, hk0, hk7, rfl⟩ := zbw (x := k) 1 60 (by omega) (by omega) h2 h8
            obtain ⟨what, hw0, hw3, rfl⟩ := zbw (x := what) 0 3 (by omega) (by omega) h16 (Int32.not_lt.mpr h21)
            refine v_aload_n (q := 28) hC dX11_weeks_27 rfl rfl rfl ?_
            refine v_getI (q := 31) hC dX11_weeks_28 rfl fX11_102 (hL.1 0 (by decide)) ?_
            rw [hq.1]
            refine v_if_ne (q := 34) (tgt := 37) hC dX11_weeks_31 rfl (by decide) (fun h31 => ?_) (fun h31 => ?_)
            · have hq0 : ¬ qQ S = 0 := fun z => h31 (c0.mpr z)
              refine v_aload_n (q := 38) hC dX11_weeks_37 rfl rfl rfl ?_
              refine v_getR (q := 41) (r := 35) hC dX11_weeks_38 rfl fX11_62 (hL.1 0 (by decide)) (hL.2 0 7 35 rfl) ?_
              refine v_aload_n (q := 42) hC dX11_weeks_41 rfl rfl rfl ?_
              refine v_getR (q := 45) (r := 28) hC dX11_weeks_42 rfl fX11_58 (hL.1 0 (by decide)) (hL.2 0 6 28 rfl) ?_
              refine v_callVQ (q := 48) (As := [_]) hC dX11_weeks_45 rfl lX11_231 mX4_copyFrom iX4_copyFrom eX4_copyFrom rfl (hL.1 35 (by decide)) (ct_X4_copyFrom (d + 4) (zLg.of hL (c := 35) (by simp)) (zLg.of hL (c := 28) (by simp)) (by omega)) rfl rfl (by omega) (by decide) (Nat.le_of_ble_eq_true rfl) ?_
              rintro _ σ1 ⟨rfl, hS1, g1, g2, g3⟩
              have hL1 := hL.same hS1 rfl
              have hF1 := hF.same hS1 rfl
              have hd1 := zcq.ld hd g1 g2 g3
              refine v_new (q := 51) hC dX11_weeks_48 rfl nX11_235 (by decide) ?_
              have ec : σ1.1.length = σ.1.length := by rw [hS1.1]
              have hT := zTr.new hL1 hF1 hd1 s
              have hG := zG.new hS1 hL.len s
              have hc : 71 ≤ σ1.1.length := hL1.len
              rw [← ec] at hG
              generalize σ1.1.length = c at hT hG hc ⊢
              refine v_dup (q := 52) hC dX11_weeks_51 rfl rfl ?_
              refine v_iload_n (q := 53) hC dX11_weeks_52 rfl rfl rfl ?_
              refine v_callI (q := 56) (As := [_]) hC dX11_weeks_53 rfl lX11_237 mX1_init iX1_init rfl (ct_X1_init (σ := zN σ1 (0, 1)) (d + 4) hT.2.2.2.1 s) rfl rfl (by omega) (by decide) (Nat.le_of_ble_eq_true rfl) ?_
              rintro _ _ ⟨rfl, rfl⟩
              generalize zsI (zN σ1 (0, 1)) c 0 s = σ3 at hT hG ⊢
              refine v_astore (q := 58) (L' := [_, _, _, _, _, _]) hC dX11_weeks_56 rfl (by decide) rfl rfl ?_
              refine v_iconst (q := 59) (v := 0) hC dX11_weeks_58 rfl (by decide) ?_
              refine v_istore (q := 61) (L' := [_, _, _, _, _, _]) hC dX11_weeks_59 rfl (by decide) rfl rfl ?_
              have lp : ∀ (r : Nat) (i : Nat) (σ1 : zSt), i + r = k → zG σ σ1 → zTr σ1 c (qN S) (qKd S) (qKin S) (qMet S) (qT S) (qW S + i) (pWks (qN S) (qKd S) (qKin S) (qMet S) (qT S) (qW S) (qM S, qF S, s) i) → zV X 6 61 [some (.ref 0), some (.int (nI k)), some (.int s), some (.int (nI what)), some (.ref c), some (.int (nI i))] [] 1 1 σ1 := by
                intro r
                induction r with
                | zero =>
                  intro i σ1 hi hg h1
                  obtain ⟨hL1, hF1, hd1, hs1, hx1⟩ := h1
                  have h1 : zTr σ1 c (qN S) (qKd S) (qKin S) (qMet S) (qT S) (qW S + i) (pWks (qN S) (qKd S) (qKin S) (qMet S) (qT S) (qW S) (qM S, qF S, s) i) := ⟨hL1, hF1, hd1, hs1, hx1⟩
                  refine v_iload (q := 63) hC dX11_weeks_61 rfl rfl ?_
                  refine v_iload_n (q := 64) hC dX11_weeks_63 rfl rfl rfl ?_
                  refine v_icmp_ge (q := 67) (tgt := 79) hC dX11_weeks_64 rfl (by decide) (fun h64 => ?_) (fun h64 => ?_)
                  · refine v_iload_n (q := 80) hC dX11_weeks_79 rfl rfl rfl ?_
                    by_cases h80_0 : nI what = 0
                    · refine v_tableIn (q := 108) (off := 28) hC dX11_weeks_80 (by rw [h80_0]; decide) (by rw [h80_0]; decide) (by rw [h80_0]; rfl) (by decide) ?_
                      refine v_aload_n (q := 109) hC dX11_weeks_108 rfl rfl rfl ?_
                      refine v_getR (q := 112) (r := 35) hC dX11_weeks_109 rfl fX11_62 (hL1.1 0 (by decide)) (hL1.2 0 7 35 rfl) ?_
                      refine v_getI (q := 115) hC dX11_weeks_112 rfl fX11_243 (hL1.1 35 (by decide)) ?_
                      refine v_ireturn hC hB dX11_weeks_115 (by decide) ?_
                      have e : what = 0 := (nI_eq (a := what) (b := 0) (by omega) (by omega)).mp h80_0
                      subst e
                      have ei : i = k := by omega
                      subst ei
                      rw [hd1.1]
                      refine zQs.mk (S' := S) ?_ (hg.cl h0) (hg.fc hL.len)
                      unfold sWeeks
                      rw [if_neg hno, if_neg hq0, dN_nI (by omega), dN_nI (by omega)]
                      rfl
                    by_cases h80_1 : nI what = 1
                    · refine v_tableIn (q := 116) (off := 36) hC dX11_weeks_80 (by rw [h80_1]; decide) (by rw [h80_1]; decide) (by rw [h80_1]; rfl) (by decide) ?_
                      refine v_aload_n (q := 117) hC dX11_weeks_116 rfl rfl rfl ?_
                      refine v_getR (q := 120) (r := 35) hC dX11_weeks_117 rfl fX11_62 (hL1.1 0 (by decide)) (hL1.2 0 7 35 rfl) ?_
                      refine v_callV1 (q := 123) (As := []) hC dX11_weeks_120 rfl lX11_244 mX4_openOnes iX4_openOnes eX4_openOnes rfl (hL1.1 35 (by decide)) (ct_X4_openOnes (d + 4) (zLg.of hL1 (c := 35) (by simp)) hd1) rfl rfl (by omega) rfl (Nat.le_of_ble_eq_true rfl) ?_
                      refine v_ireturn hC hB dX11_weeks_123 (by decide) ?_
                      have e : what = 1 := (nI_eq (a := what) (b := 1) (by omega) (by omega)).mp h80_1
                      subst e
                      have ei : i = k := by omega
                      subst ei
                      refine zQs.mk (S' := S) ?_ (hg.cl h0) (hg.fc hL.len)
                      unfold sWeeks
                      rw [if_neg hno, if_neg hq0, dN_nI (by omega), dN_nI (by omega)]
                      rfl
                    by_cases h80_2 : nI what = 2
                    · refine v_tableIn (q := 124) (off := 44) hC dX11_weeks_80 (by rw [h80_2]; decide) (by rw [h80_2]; decide) (by rw [h80_2]; rfl) (by decide) ?_
                      refine v_aload_n (q := 125) hC dX11_weeks_124 rfl rfl rfl ?_
                      refine v_getR (q := 128) (r := 35) hC dX11_weeks_125 rfl fX11_62 (hL1.1 0 (by decide)) (hL1.2 0 7 35 rfl) ?_
                      refine v_callV1 (q := 131) (As := []) hC dX11_weeks_128 rfl lX11_248 mX4_homeChains iX4_homeChains eX4_homeChains rfl (hL1.1 35 (by decide)) (ct_X4_homeChains (d + 4) (zLg.of hL1 (c := 35) (by simp)) hd1 (pWks_ok (x := (qM S, qF S, s)) oL hn6 (show qW S < 900000 by omega) i (by omega))) rfl rfl (by omega) rfl (Nat.le_of_ble_eq_true rfl) ?_
                      refine v_ireturn hC hB dX11_weeks_131 (by decide) ?_
                      have e : what = 2 := (nI_eq (a := what) (b := 2) (by omega) (by omega)).mp h80_2
                      subst e
                      have ei : i = k := by omega
                      subst ei
                      refine zQs.mk (S' := S) ?_ (hg.cl h0) (hg.fc hL.len)
                      unfold sWeeks
                      rw [if_neg hno, if_neg hq0, dN_nI (by omega), dN_nI (by omega)]
                      rfl
                    refine v_tableOut (q := 132) hC dX11_weeks_80 (by have := lv_neT (a := 0) h80_0 rfl; have := lv_neT (a := 1) h80_1 rfl; have := lv_neT (a := 2) h80_2 rfl; omega) (by decide) ?_
                    refine v_aload (q := 134) hC dX11_weeks_132 rfl rfl ?_
                    refine v_getI (q := 137) hC dX11_weeks_134 rfl fX11_251 hs1 ?_
                    refine v_ireturn hC hB dX11_weeks_137 (by decide) ?_
                    have e : what = 3 := by have n0 : what ≠ 0 := (fun z => h80_0 (by rw [z]; rfl)); have n1 : what ≠ 1 := (fun z => h80_1 (by rw [z]; rfl)); have n2 : what ≠ 2 := (fun z => h80_2 (by rw [z]; rfl)); omega
                    subst e
                    have ei : i = k := by omega
                    subst ei
                    rw [hx1]
                    refine zQs.mk (S' := S) ?_ (hg.cl h0) (hg.fc hL.len)
                    unfold sWeeks
                    rw [if_neg hno, if_neg hq0, dN_nI (by omega), dN_nI (by omega)]
                    rfl
                  · exact absurd (nI_le (a := k) (b := i) (by omega) (by omega)) h64
                | succ r ih =>
                  intro i σ1 hi hg h1
                  obtain ⟨hL1, hF1, hd1, hs1, hx1⟩ := h1
                  have h1 : zTr σ1 c (qN S) (qKd S) (qKin S) (qMet S) (qT S) (qW S + i) (pWks (qN S) (qKd S) (qKin S) (qMet S) (qT S) (qW S) (qM S, qF S, s) i) := ⟨hL1, hF1, hd1, hs1, hx1⟩
                  refine v_iload (q := 63) hC dX11_weeks_61 rfl rfl ?_
                  refine v_iload_n (q := 64) hC dX11_weeks_63 rfl rfl rfl ?_
                  refine v_icmp_ge (q := 67) (tgt := 79) hC dX11_weeks_64 rfl (by decide) (fun h64 => ?_) (fun h64 => ?_)
                  · exact absurd h64 (nI_ge (a := i) (b := k) (by omega) (by omega))
                  · refine v_aload_n (q := 68) hC dX11_weeks_67 rfl rfl rfl ?_
                    refine v_aload (q := 70) hC dX11_weeks_68 rfl rfl ?_
                    refine v_callVQ (q := 73) (As := [_]) hC dX11_weeks_70 rfl lX11_239 mX11_liveTrialWeek iX11_liveTrialWeek eX11_liveTrialWeek rfl (hL1.1 0 (by decide)) (ct_X11_liveTrialWeek d h1 hc (pWks_ok (x := (qM S, qF S, s)) oL hn6 (show qW S < 900000 by omega) i (by omega))) rfl rfl (by omega) (by decide) (Nat.le_of_ble_eq_true rfl) ?_
                    rintro _ σ2 ⟨rfl, hS2, h2⟩
                    refine v_iinc (q := 76) (v := 1) (L' := [_, _, _, _, _, _]) hC dX11_weeks_73 rfl rfl (by decide) (by decide) rfl rfl ?_
                    refine v_goto (q := 61) hC dX11_weeks_76 (by decide) ?_
                    rw [nI_1 i]
                    exact ih (i + 1) σ2 (by omega) (hg.step hc hS2) h2
              exact lp k 0 σ3 (by omega) hG hT
            · refine v_bipush (q := 36) (v := -103) hC dX11_weeks_34 rfl (by decide) ?_
              refine v_ireturn hC hB dX11_weeks_36 (by decide) ?_
              exact zQs.mk (by unfold sWeeks; rw [if_neg hno]; exact if_pos (c0.mp h31)) h0 (zFc.of (cs := []) (rs := []) zSame.rf rfl rfl)
          · refine v_bipush (q := 26) (v := -102) hC dX11_weeks_24 rfl (by decide) ?_
            refine v_ireturn hC hB dX11_weeks_26 (by decide) ?_
            exact zQs.mk (if_pos (by first | exact Or.inl h2 | exact Or.inr (Or.inl h8) | exact Or.inr (Or.inr (Or.inl h12)) | exact Or.inr (Or.inr (Or.inr (Or.inl h16))) | exact Or.inr (Or.inr (Or.inr (Or.inr (Int32.not_le.mp h21)))))) h0 (zFc.of (cs := []) (rs := []) zSame.rf rfl rfl)

