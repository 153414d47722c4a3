/-! ===== what the model holds; its calls ===== -/
/-- changed are: of the model's own cell the places sl, of others the cells cs -/
def zSm (cs sl : List Nat) (σ σ' : zSt) : Prop := zSame (53 :: cs) [] σ σ' ∧ ∀ i, i ∉ sl → zI σ' 53 i = zI σ 53 i
theorem zSm.rf {cs sl : List Nat} {σ : zSt} : zSm cs sl σ σ := ⟨zSame.rf, fun _ _ => rfl⟩
theorem zSm.tr {cs sl : List Nat} {σ σ1 σ2 : zSt} (h : zSm cs sl σ σ1) (h' : zSm cs sl σ1 σ2) : zSm cs sl σ σ2 := ⟨h.1.tr h'.1, fun i hi => (h'.2 i hi).trans (h.2 i hi)⟩
theorem zSm.mono {cs sl cs' sl' : List Nat} {σ σ' : zSt} (h : zSm cs sl σ σ') (hc : ∀ c ∈ cs, c ∈ cs') (hs : ∀ c ∈ sl, c ∈ sl') : zSm cs' sl' σ σ' := ⟨h.1.mono (fun c hm => by rcases List.mem_cons.mp hm with e | e; exact List.mem_cons.mpr (Or.inl e); exact List.mem_cons.mpr (Or.inr (hc c e))) (fun _ z => z), fun i hi => h.2 i (fun z => hi (hs i z))⟩
theorem zSm.o {cs sl : List Nat} {σ σ1 : zSt} (h : zSm cs sl σ σ1) {i : Nat} {v : Int32} (hi : i ∈ sl) : zSm cs sl σ (zsI σ1 53 i v) := h.tr ⟨zSame.sI (by simp), fun j hj => zI_ne (Or.inr (fun e => hj (e ▸ hi)))⟩
theorem zSm.c {cs sl : List Nat} {σ σ1 : zSt} (h : zSm cs sl σ σ1) {c i : Nat} {v : Int32} (hc : c ∈ cs) (h53 : c ≠ 53) : zSm cs sl σ (zsI σ1 c i v) := h.tr ⟨zSame.sI (List.mem_cons_of_mem _ hc), fun j _ => zI_ne (Or.inl (Ne.symm h53))⟩
theorem zSm.of {cs sl : List Nat} {σ σ' : zSt} (h : zSame cs [] σ σ') (hc : (cs.all fun x => [53].all fun e => !(x == e)) = true) : zSm cs sl σ σ' := ⟨h.mono (fun c hm => List.mem_cons_of_mem _ hm) (fun _ z => z), fun i _ => h.2.2.2 53 (zno hc 53 (by simp)) i⟩
theorem zSm.cell {cs sl : List Nat} {σ σ' : zSt} (h : zSm cs sl σ σ') {c : Nat} (hc : c ∉ cs) (h53 : c ≠ 53) (i : Nat) : zI σ' c i = zI σ c i := h.1.2.2.2 c (fun z => by rcases List.mem_cons.mp z with e | e; exact h53 e; exact hc e) i
theorem zSm.lay {cs sl : List Nat} {σ σ' : zSt} (h : zSm cs sl σ σ') (hL : zLay σ) : zLay σ' := hL.same h.1 rfl
abbrev zDis (cs ds : List Nat) : Prop := (cs.all fun c => ds.all fun e => !(c == e)) = true
theorem zMf.sm {cs sl : List Nat} {σ σ' : zSt} {n : Nat} {kd : Nat → Nat} {kin met : Nat → Nat → Bool} {t : Nat} (h : zMf σ n kd kin met t) (hS : zSm cs sl σ σ') (hc : zDis cs [57, 58, 59]) (hs : zDis sl [9, 16]) : zMf σ' n kd kin met t := by
  have hx := zno hc
  have hy := zno hs
  exact ⟨by rw [hS.2 16 (hy 16 (by simp))]; exact h.1, h.2.1, fun a ha => by rw [hS.cell (hx 59 (by simp)) (by decide)]; exact h.2.2.1 a ha, fun a ha => by rw [hS.cell (hx 57 (by simp)) (by decide), hS.cell (hx 58 (by simp)) (by decide)]; exact h.2.2.2.1 a ha, by rw [hS.2 9 (hy 9 (by simp))]; exact h.2.2.2.2.1, h.2.2.2.2.2⟩
theorem zMr.sm {cs sl : List Nat} {σ σ' : zSt} {m w : Nat} {F : Nat → Nat → Int32} (h : zMr σ m F w) (hS : zSm cs sl σ σ') (hc : zDis cs [60]) (hs : zDis sl [12, 22]) : zMr σ' m F w := by
  have hx := zno hc
  have hy := zno hs
  exact ⟨by rw [hS.2 22 (hy 22 (by simp))]; exact h.1, h.2.1, by rw [hS.2 12 (hy 12 (by simp))]; exact h.2.2.1, fun j f hj hf => by rw [hS.cell (hx 60 (by simp)) (by decide)]; exact h.2.2.2 j f hj hf⟩
theorem zMs.sm {cs sl : List Nat} {σ σ' : zSt} {mb : Option Nat} {pr : Option (Nat × Nat)} (h : zMs σ mb pr) (hS : zSm cs sl σ σ') (hs : zDis sl [18, 19, 20, 21]) : zMs σ' mb pr := by
  have hy := zno hs
  unfold zMs
  rw [hS.2 18 (hy 18 (by simp)), hS.2 19 (hy 19 (by simp)), hS.2 20 (hy 20 (by simp)), hS.2 21 (hy 21 (by simp))]
  exact h
def zMp (σ : zSt) (pl : Nat) (pc : Nat → Int32) : Prop := zI σ 53 1 = nI pl ∧ pl ≤ 54 ∧ ∀ i, i < pl → zI σ 54 i = pc i
theorem zMp.sm {cs sl : List Nat} {σ σ' : zSt} {pl : Nat} {pc : Nat → Int32} (h : zMp σ pl pc) (hS : zSm cs sl σ σ') (hc : zDis cs [54]) (hs : zDis sl [1]) : zMp σ' pl pc := by
  have hx := zno hc
  have hy := zno hs
  exact ⟨by rw [hS.2 1 (hy 1 (by simp))]; exact h.1, h.2.1, fun i hi => by rw [hS.cell (hx 54 (by simp)) (by decide)]; exact h.2.2 i hi⟩
def zMy (σ : zSt) (l : Nat) (W : Nat → Int32) : Prop := zI σ 53 28 = nI l ∧ l ≤ 7 ∧ ∀ i, i < l → zI σ 65 i = W i
theorem zMy.sm {cs sl : List Nat} {σ σ' : zSt} {l : Nat} {W : Nat → Int32} (h : zMy σ l W) (hS : zSm cs sl σ σ') (hc : zDis cs [65]) (hs : zDis sl [28]) : zMy σ' l W := by
  have hx := zno hc
  have hy := zno hs
  exact ⟨by rw [hS.2 28 (hy 28 (by simp))]; exact h.1, h.2.1, fun i hi => by rw [hS.cell (hx 65 (by simp)) (by decide)]; exact h.2.2 i hi⟩
def zMm (σ : zSt) (km mm q : Nat) : Prop := zI σ 53 10 = nI km ∧ zI σ 53 11 = nI mm ∧ zI σ 53 13 = nI q
theorem zMm.sm {cs sl : List Nat} {σ σ' : zSt} {km mm q : Nat} (h : zMm σ km mm q) (hS : zSm cs sl σ σ') (hs : zDis sl [10, 11, 13]) : zMm σ' km mm q := by
  have hy := zno hs
  unfold zMm
  rw [hS.2 10 (hy 10 (by simp)), hS.2 11 (hy 11 (by simp)), hS.2 13 (hy 13 (by simp))]
  exact h
def zMe (σ : zSt) (kr kp m2 : Nat) (F2 : Nat → Nat → Int32) (w2 d2 : Nat) (V2 : Nat → Int32) : Prop := zI σ 53 34 = (if kr = 0 then -1 else nI kr) ∧ zI σ 53 35 = nI kp ∧ zI σ 53 36 = nI m2 ∧ m2 ≤ 12 ∧ zI σ 53 37 = nI w2 ∧ (∀ j f, j < 6 → f < m2 → zI σ 69 (6 * f + j) = F2 j f) ∧ zI σ 53 38 = nI d2 ∧ d2 ≤ 7 ∧ ∀ i, i < d2 → zI σ 70 i = V2 i
theorem zMe.sm {cs sl : List Nat} {σ σ' : zSt} {kr kp m2 w2 d2 : Nat} {F2 : Nat → Nat → Int32} {V2 : Nat → Int32} (h : zMe σ kr kp m2 F2 w2 d2 V2) (hS : zSm cs sl σ σ') (hc : zDis cs [69, 70]) (hs : zDis sl [34, 35, 36, 37, 38]) : zMe σ' kr kp m2 F2 w2 d2 V2 := by
  have hx := zno hc
  have hy := zno hs
  obtain ⟨h1, h2, h3, h4, h5, h6, h7, h8, h9⟩ := h
  exact ⟨by rw [hS.2 34 (hy 34 (by simp))]; exact h1, by rw [hS.2 35 (hy 35 (by simp))]; exact h2, by rw [hS.2 36 (hy 36 (by simp))]; exact h3, h4, by rw [hS.2 37 (hy 37 (by simp))]; exact h5, fun j f hj hf => by rw [hS.cell (hx 69 (by simp)) (by decide)]; exact h6 j f hj hf, by rw [hS.2 38 (hy 38 (by simp))]; exact h7, h8, fun i hi => by rw [hS.cell (hx 70 (by simp)) (by decide)]; exact h9 i hi⟩
/-- THE MODEL HOLDS S -/
def zMd (σ : zSt) (S : pS) : Prop := zLay σ ∧ zMp σ (qPl S) (qPc S) ∧ zMf σ (qN S) (qKd S) (qKin S) (qMet S) (qT S) ∧ zMr σ (qM S) (qF S) (qW S) ∧ zMs σ none none ∧ zMm σ (qKm S) (qMm S) (qQ S) ∧ zMy σ (qDl S) (qDw S) ∧ zMe σ (qKr S) (qKp S) (qM2 S) (qF2 S) (qW2 S) (qD2 S) (qV2 S)
/-- a call of the model leaves the class's cells -/
def zFm (σ σ' : zSt) : Prop := σ'.1 = σ.1 ∧ (∀ c, c < 53 → zI σ' c = zI σ c) ∧ (∀ c, c < 53 → zJ σ' c = zJ σ c) ∧ zR σ' = zR σ
theorem zFm.rf {σ : zSt} : zFm σ σ := ⟨rfl, fun _ _ => rfl, fun _ _ => rfl, rfl⟩
theorem zSm.fm {cs sl : List Nat} {σ σ' : zSt} (h : zSm cs sl σ σ') (hc : (cs.all fun c => decide (53 ≤ c)) = true) : zFm σ σ' := ⟨h.1.1, fun c hc1 => funext fun i => h.cell (fun z => by have := List.all_eq_true.mp hc c z; simp at this; omega) (by omega) i, fun c _ => by rw [h.1.2.1], funext fun c => funext fun j => h.1.2.2.1 c (by simp) j⟩

set_option maxRecDepth 100000 in
set_option maxHeartbeats 4000000 in
theorem md_between (d : Nat) {σ : zSt} {S : pS} {B : Nat} (h : zMd σ S) (ok : pOk B S) (a : Int32) (b : Int32) : zCt (d + 3) MX12_between [.ref 53, .int a, .int b] σ (zQs zMd zFm σ (sBetween S a b)) := by
  refine zCt.of (L := [some (.ref 53), some (.int a), some (.int b)]) (by decide) (Nat.le_of_ble_eq_true rfl) rfl (fun X hC hB => ?_)
  have hC : zC X RX12 cX12_between 3 (d + 3) 0 0 := hC
  have hB : zB X (some .int) 0 0 "between" σ _ := hB
  show zV X 3 0 [some (.ref 53), some (.int a), some (.int b)] [] 0 0 σ
  have h0 := h
  obtain ⟨hL, hp, hF, hd, hs, hk, hy, he⟩ := h
  obtain ⟨oB, oq, ow, oqt, ot, okm, omm, oq0, oL, oD, okr, okp, oK, osym, okp6, okd⟩ := ok
  have hn6 := hF.2.1
  have hm12 := hd.2.1
  have hsy : ∀ a b, a < 6 → b < 6 → qKin S a b = qKin S b a := fun a b ha hb => (osym a b ha hb).1
  refine v_aload_n (q := 1) hC dX12_between_0 rfl rfl rfl ?_
  refine v_iload_n (q := 2) hC dX12_between_1 rfl rfl rfl ?_
  refine v_iload_n (q := 3) hC dX12_between_2 rfl rfl rfl ?_
  refine v_callV1 (q := 6) (As := [_, _]) hC dX12_between_3 rfl lX12_157 mX12_arePair iX12_arePair eX12_arePair rfl (hL.1 53 (by decide)) (ct_X12_arePair d hL hF a b) rfl rfl (by omega) rfl (Nat.le_of_ble_eq_true rfl) ?_
  refine v_if_eq (q := 9) (tgt := 18) hC dX12_between_6 rfl (by decide) (fun h6 => ?_) (fun h6 => ?_)
  · refine v_bipush (q := 20) (v := -101) hC dX12_between_18 rfl (by decide) ?_
    refine v_ireturn hC hB dX12_between_20 ⟨Nat.le_refl _, Nat.le_refl _⟩ ?_
    first | exact zQs.mk (if_neg (by unfold pTwo; rw [zb_eq0.mp h6]; decide)) h0 zFm.rf | exact zQs.mk (by unfold sBetween pTwo; rw [if_pos hz, dN_nI (by omega), dN_nI (by omega)]; rfl) h0 zFm.rf
  · have hz := zb_ne h6
    have hz2 := hz
    rw [Bool.and_eq_true, Bool.and_eq_true] at hz2
    obtain ⟨a, ha, rfl⟩ := zval_of (by omega) hz2.1.1
    obtain ⟨b, hb, rfl⟩ := zval_of (by omega) hz2.1.2
    refine v_aload_n (q := 10) hC dX12_between_9 rfl rfl rfl ?_
    refine v_iload_n (q := 11) hC dX12_between_10 rfl rfl rfl ?_
    refine v_iload_n (q := 12) hC dX12_between_11 rfl rfl rfl ?_
    refine v_callV1 (q := 15) (As := [_, _]) hC dX12_between_12 rfl lX12_160 mX12_betweenOf iX12_betweenOf eX12_betweenOf rfl (hL.1 53 (by decide)) (ct_X12_betweenOf d hL hF hs ha hb) rfl rfl (by omega) rfl (Nat.le_of_ble_eq_true rfl) ?_
    refine v_goto (q := 20) hC dX12_between_15 (by decide) ?_
    refine v_ireturn hC hB dX12_between_20 ⟨Nat.le_refl _, Nat.le_refl _⟩ ?_
    first | exact zQs.mk (if_neg (by unfold pTwo; rw [zb_eq0.mp h6]; decide)) h0 zFm.rf | exact zQs.mk (by unfold sBetween pTwo; rw [if_pos hz, dN_nI (by omega), dN_nI (by omega)]; rfl) h0 zFm.rf

set_option maxRecDepth 100000 in
set_option maxHeartbeats 4000000 in
theorem ct_X12_tellO (d : Nat) {σ : zSt} (p : Int32) {k : Int32} (hk : k < 0 ∨ 5 < k) : zEv (d + 3) MX12_tell [.ref 53, .int p, .int k] σ (some (.int (-102))) σ := by
  refine zCt.of (L := [some (.ref 53), some (.int p), some (.int k)]) (by decide) (Nat.le_of_ble_eq_true rfl) rfl (fun X hC hB => ?_)
  have hC : zC X RX12 cX12_tell 3 (d + 3) 0 0 := hC
  have hB : zB X (some .int) 0 0 "tell" σ _ := hB
  show zV X 3 0 [some (.ref 53), some (.int p), some (.int k)] [] 0 0 σ
  refine v_iload_n (q := 1) hC dX12_tell_0 rfl rfl rfl ?_
  by_cases h1_0 : k = 0
  · exact absurd h1_0 (by rintro rfl; revert hk; decide)
  by_cases h1_1 : k = 1
  · exact absurd h1_1 (by rintro rfl; revert hk; decide)
  by_cases h1_2 : k = 2
  · exact absurd h1_2 (by rintro rfl; revert hk; decide)
  by_cases h1_3 : k = 3
  · exact absurd h1_3 (by rintro rfl; revert hk; decide)
  by_cases h1_4 : k = 4
  · exact absurd h1_4 (by rintro rfl; revert hk; decide)
  by_cases h1_5 : k = 5
  · exact absurd h1_5 (by rintro rfl; revert hk; decide)
  refine v_tableOut (q := 60) hC dX12_tell_1 (by have := lv_neT (a := 0) h1_0 rfl; have := lv_neT (a := 1) h1_1 rfl; have := lv_neT (a := 2) h1_2 rfl; have := lv_neT (a := 3) h1_3 rfl; have := lv_neT (a := 4) h1_4 rfl; have := lv_neT (a := 5) h1_5 rfl; omega) (by decide) ?_
  refine v_bipush (q := 62) (v := -102) hC dX12_tell_60 rfl (by decide) ?_
  refine v_ireturn hC hB dX12_tell_62 ⟨Nat.le_refl _, Nat.le_refl _⟩ ?_
  exact ⟨rfl, rfl⟩

set_option maxRecDepth 100000 in
set_option maxHeartbeats 4000000 in
theorem ct_X12_tellDeedO (d : Nat) {σ : zSt} (p : Int32) {k : Int32} (hk : k < 0 ∨ 7 < k) : zEv (d + 1) MX12_tellDeed [.ref 53, .int p, .int k] σ (some (.int (-102))) σ := by
  refine zCt.of (L := [some (.ref 53), some (.int p), some (.int k)]) (by decide) (Nat.le_of_ble_eq_true rfl) rfl (fun X hC hB => ?_)
  have hC : zC X RX12 cX12_tellDeed 3 (d + 1) 0 0 := hC
  have hB : zB X (some .int) 0 0 "tellDeed" σ _ := hB
  show zV X 3 0 [some (.ref 53), some (.int p), some (.int k)] [] 0 0 σ
  refine v_iload_n (q := 1) hC dX12_tellDeed_0 rfl rfl rfl ?_
  by_cases h1_0 : k = 0
  · exact absurd h1_0 (by rintro rfl; revert hk; decide)
  by_cases h1_1 : k = 1
  · exact absurd h1_1 (by rintro rfl; revert hk; decide)
  by_cases h1_2 : k = 2
  · exact absurd h1_2 (by rintro rfl; revert hk; decide)
  by_cases h1_3 : k = 3
  · exact absurd h1_3 (by rintro rfl; revert hk; decide)
  by_cases h1_4 : k = 4
  · exact absurd h1_4 (by rintro rfl; revert hk; decide)
  by_cases h1_5 : k = 5
  · exact absurd h1_5 (by rintro rfl; revert hk; decide)
  by_cases h1_6 : k = 6
  · exact absurd h1_6 (by rintro rfl; revert hk; decide)
  by_cases h1_7 : k = 7
  · exact absurd h1_7 (by rintro rfl; revert hk; decide)
  refine v_tableOut (q := 84) hC dX12_tellDeed_1 (by have := lv_neT (a := 0) h1_0 rfl; have := lv_neT (a := 1) h1_1 rfl; have := lv_neT (a := 2) h1_2 rfl; have := lv_neT (a := 3) h1_3 rfl; have := lv_neT (a := 4) h1_4 rfl; have := lv_neT (a := 5) h1_5 rfl; have := lv_neT (a := 6) h1_6 rfl; have := lv_neT (a := 7) h1_7 rfl; omega) (by decide) ?_
  refine v_bipush (q := 86) (v := -102) hC dX12_tellDeed_84 rfl (by decide) ?_
  refine v_ireturn hC hB dX12_tellDeed_86 ⟨Nat.le_refl _, Nat.le_refl _⟩ ?_
  exact ⟨rfl, rfl⟩

theorem ct_X12_tellA (d : Nat) {σ : zSt} {S : pS} {B : Nat} (h : zMd σ S) (ok : pOk B S) {p : Nat} (hp : p < qN S) (k : Int32) : zEv (d + 3) MX12_tell [.ref 53, .int (nI p), .int k] σ (some (.int (sAbout S (nI p) k).1)) σ := by
  obtain ⟨hL, -, hF, hd, -⟩ := h
  have hn6 := hF.2.1
  have hz : zval (qN S) (nI p) = true := by unfold zval; rw [nI_toInt (by omega)]; exact decide_eq_true ⟨by omega, by omega⟩
  unfold sAbout
  rw [if_pos hz]
  by_cases hk : k < 0 ∨ 5 < k
  · rw [if_pos hk]
    exact ct_X12_tellO d (nI p) hk
  · rw [if_neg hk]
    obtain ⟨k, -, hk5, rfl⟩ := zbw (x := k) 0 5 (by omega) (by omega) (fun z => hk (Or.inl z)) (fun z => hk (Or.inr z))
    have e : pAbt S (dN (nI p)) (dN (nI k)) = pTl (qKd S) (qT S) (qM S) (qF S) (qW S) p k := by
      rw [dN_nI (by omega), dN_nI (by omega)]
      unfold pTl
      have hkk : k = 0 ∨ k = 1 ∨ k = 2 ∨ k = 3 ∨ k = 4 ∨ k = 5 := by omega
      rcases hkk with rfl | rfl | rfl | rfl | rfl | rfl
      · rfl
      · rfl
      · rfl
      · rfl
      · show nI _ = nI _
        congr 1
        apply pCnt_congr
        intro f hf
        show _ = (pOw (qF S) (nI p) f && _)
        by_cases e1 : qF S 1 f = nI p
        · rw [e1, dN_nI (by omega)]
        · simp [pOw, e1]
      · rfl
    show zEv _ _ _ _ (some (.int (pAbt S (dN (nI p)) (dN (nI k))))) _
    rw [e]
    exact ct_X12_tell d hL hF hd ok.2.2.2.2.2.2.2.2.1 hp hk5
theorem ct_X12_tellDeedA (d : Nat) {σ : zSt} {S : pS} {B : Nat} (h : zMd σ S) (ok : pOk B S) {f : Nat} (hf : f < qM S) (k : Int32) : zEv (d + 1) MX12_tellDeed [.ref 53, .int (nI f), .int k] σ (some (.int (sDeed S (nI f) k).1)) σ := by
  obtain ⟨hL, -, hF, hd, -⟩ := h
  have hm := hd.2.1
  have hz : zval (qM S) (nI f) = true := by unfold zval; rw [nI_toInt (by omega)]; exact decide_eq_true ⟨by omega, by omega⟩
  unfold sDeed
  rw [if_pos hz]
  by_cases hk : k < 0 ∨ 7 < k
  · rw [if_pos hk]
    exact ct_X12_tellDeedO d (nI f) hk
  · rw [if_neg hk]
    obtain ⟨k, -, hk5, rfl⟩ := zbw (x := k) 0 7 (by omega) (by omega) (fun z => hk (Or.inl z)) (fun z => hk (Or.inr z))
    show zEv _ _ _ _ (some (.int (pDd S (dN (nI f)) (dN (nI k))))) _
    rw [dN_nI (by omega), dN_nI (by omega)]
    exact ct_X12_tellDeed d hL hd ok.2.2.2.2.2.2.2.2.1 hf hk5

set_option maxRecDepth 100000 in
set_option maxHeartbeats 4000000 in
theorem md_about (d : Nat) {σ : zSt} {S : pS} {B : Nat} (h : zMd σ S) (ok : pOk B S) (p : Int32) (k : Int32) : zCt (d + 4) MX12_about [.ref 53, .int p, .int k] σ (zQs zMd zFm σ (sAbout S p k)) := by
  refine zCt.of (L := [some (.ref 53), some (.int p), some (.int k)]) (by decide) (Nat.le_of_ble_eq_true rfl) rfl (fun X hC hB => ?_)
  have hC : zC X RX12 cX12_about 3 (d + 4) 0 0 := hC
  have hB : zB X (some .int) 0 0 "about" σ _ := hB
  show zV X 3 0 [some (.ref 53), some (.int p), some (.int k)] [] 0 0 σ
  have h0 := h
  obtain ⟨hL, hp, hF, hd, hs, hk, hy, he⟩ := h
  obtain ⟨oB, oq, ow, oqt, ot, okm, omm, oq0, oL, oD, okr, okp, oK, osym, okp6, okd⟩ := ok
  have hn6 := hF.2.1
  have hm12 := hd.2.1
  have hsy : ∀ a b, a < 6 → b < 6 → qKin S a b = qKin S b a := fun a b ha hb => (osym a b ha hb).1
  have hok : pOk B S := ⟨oB, oq, ow, oqt, ot, okm, omm, oq0, oL, oD, okr, okp, oK, osym, okp6, okd⟩
  refine v_aload_n (q := 1) hC dX12_about_0 rfl rfl rfl ?_
  refine v_iload_n (q := 2) hC dX12_about_1 rfl rfl rfl ?_
  refine v_callV1 (q := 5) (As := [_]) hC dX12_about_2 rfl lX12_138 mX12_isPerson iX12_isPerson eX12_isPerson rfl (hL.1 53 (by decide)) (ct_X12_isPerson (d + 2) hL hF.1 (by omega) p) rfl rfl (by omega) rfl (Nat.le_of_ble_eq_true rfl) ?_
  refine v_if_eq (q := 8) (tgt := 17) hC dX12_about_5 rfl (by decide) (fun h5 => ?_) (fun h5 => ?_)
  · refine v_bipush (q := 19) (v := -101) hC dX12_about_17 rfl (by decide) ?_
    refine v_ireturn hC hB dX12_about_19 ⟨Nat.le_refl _, Nat.le_refl _⟩ ?_
    first | exact zQs.mk (if_neg (by rw [zb_eq0.mp h5]; decide)) h0 zFm.rf | exact zQs.mk (S' := S) (show sAbout S (nI p) k = ((sAbout S (nI p) k).1, S) from Prod.ext rfl (by unfold sAbout; repeat (first | rfl | split))) h0 zFm.rf
  · have hz := zb_ne h5
    obtain ⟨p, hpp, rfl⟩ := zval_of (by omega) hz
    refine v_aload_n (q := 9) hC dX12_about_8 rfl rfl rfl ?_
    refine v_iload_n (q := 10) hC dX12_about_9 rfl rfl rfl ?_
    refine v_iload_n (q := 11) hC dX12_about_10 rfl rfl rfl ?_
    refine v_callV1 (q := 14) (As := [_, _]) hC dX12_about_11 rfl lX12_183 mX12_tell iX12_tell eX12_tell rfl (hL.1 53 (by decide)) (ct_X12_tellA d h0 hok hpp k) rfl rfl (by omega) rfl (Nat.le_of_ble_eq_true rfl) ?_
    refine v_goto (q := 19) hC dX12_about_14 (by decide) ?_
    refine v_ireturn hC hB dX12_about_19 ⟨Nat.le_refl _, Nat.le_refl _⟩ ?_
    first | exact zQs.mk (if_neg (by rw [zb_eq0.mp h5]; decide)) h0 zFm.rf | exact zQs.mk (S' := S) (show sAbout S (nI p) k = ((sAbout S (nI p) k).1, S) from Prod.ext rfl (by unfold sAbout; repeat (first | rfl | split))) h0 zFm.rf

set_option maxRecDepth 100000 in
set_option maxHeartbeats 4000000 in
theorem md_deed (d : Nat) {σ : zSt} {S : pS} {B : Nat} (h : zMd σ S) (ok : pOk B S) (p : Int32) (k : Int32) : zCt (d + 2) MX12_deed [.ref 53, .int p, .int k] σ (zQs zMd zFm σ (sDeed S p k)) := by
  refine zCt.of (L := [some (.ref 53), some (.int p), some (.int k)]) (by decide) (Nat.le_of_ble_eq_true rfl) rfl (fun X hC hB => ?_)
  have hC : zC X RX12 cX12_deed 3 (d + 2) 0 0 := hC
  have hB : zB X (some .int) 0 0 "deed" σ _ := hB
  show zV X 3 0 [some (.ref 53), some (.int p), some (.int k)] [] 0 0 σ
  have h0 := h
  obtain ⟨hL, hp, hF, hd, hs, hk, hy, he⟩ := h
  obtain ⟨oB, oq, ow, oqt, ot, okm, omm, oq0, oL, oD, okr, okp, oK, osym, okp6, okd⟩ := ok
  have hn6 := hF.2.1
  have hm12 := hd.2.1
  have hsy : ∀ a b, a < 6 → b < 6 → qKin S a b = qKin S b a := fun a b ha hb => (osym a b ha hb).1
  have hok : pOk B S := ⟨oB, oq, ow, oqt, ot, okm, omm, oq0, oL, oD, okr, okp, oK, osym, okp6, okd⟩
  refine v_aload_n (q := 1) hC dX12_deed_0 rfl rfl rfl ?_
  refine v_iload_n (q := 2) hC dX12_deed_1 rfl rfl rfl ?_
  refine v_callV1 (q := 5) (As := [_]) hC dX12_deed_2 rfl lX12_193 mX12_isFavour iX12_isFavour eX12_isFavour rfl (hL.1 53 (by decide)) (ct_X12_isFavour d hL hd.1 (by omega) p) rfl rfl (by omega) rfl (Nat.le_of_ble_eq_true rfl) ?_
  refine v_if_eq (q := 8) (tgt := 17) hC dX12_deed_5 rfl (by decide) (fun h5 => ?_) (fun h5 => ?_)
  · refine v_bipush (q := 19) (v := -101) hC dX12_deed_17 rfl (by decide) ?_
    refine v_ireturn hC hB dX12_deed_19 ⟨Nat.le_refl _, Nat.le_refl _⟩ ?_
    first | exact zQs.mk (if_neg (by rw [zb_eq0.mp h5]; decide)) h0 zFm.rf | exact zQs.mk (S' := S) (show sDeed S (nI p) k = ((sDeed S (nI p) k).1, S) from Prod.ext rfl (by unfold sDeed; repeat (first | rfl | split))) h0 zFm.rf
  · have hz := zb_ne h5
    obtain ⟨p, hpp, rfl⟩ := zval_of (by omega) hz
    refine v_aload_n (q := 9) hC dX12_deed_8 rfl rfl rfl ?_
    refine v_iload_n (q := 10) hC dX12_deed_9 rfl rfl rfl ?_
    refine v_iload_n (q := 11) hC dX12_deed_10 rfl rfl rfl ?_
    refine v_callV1 (q := 14) (As := [_, _]) hC dX12_deed_11 rfl lX12_218 mX12_tellDeed iX12_tellDeed eX12_tellDeed rfl (hL.1 53 (by decide)) (ct_X12_tellDeedA d h0 hok hpp k) rfl rfl (by omega) rfl (Nat.le_of_ble_eq_true rfl) ?_
    refine v_goto (q := 19) hC dX12_deed_14 (by decide) ?_
    refine v_ireturn hC hB dX12_deed_19 ⟨Nat.le_refl _, Nat.le_refl _⟩ ?_
    first | exact zQs.mk (if_neg (by rw [zb_eq0.mp h5]; decide)) h0 zFm.rf | exact zQs.mk (S' := S) (show sDeed S (nI p) k = ((sDeed S (nI p) k).1, S) from Prod.ext rfl (by unfold sDeed; repeat (first | rfl | split))) h0 zFm.rf

