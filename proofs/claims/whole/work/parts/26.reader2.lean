/-! ===== LawReader: a letter, a page ===== -/
def pSg (st : Nat) : Int32 := match st with
  | 0 => 0
  | 1 => 1
  | 2 => 2
  | 3 => 3
  | 4 => 1
  | 5 => 2
  | 6 => 3
  | 7 => 5
  | 8 => 6
  | _ => 4
def pIk (st : Nat) : Int32 := match st with
  | 4 => 0
  | 5 => 0
  | 6 => 0
  | 7 => 0
  | 8 => 0
  | _ => 1
/-- the pairs that the class's reader has read -/
def zRa (σ : zSt) (kin : Nat → Nat → Bool) (km : Nat) (met : Nat → Nat → Bool) (mm : Nat) : Prop := (∀ a b, a < 6 → b < 6 → zI σ 5 (6 * a + b) = zb (kin a b)) ∧ (∀ a b, a < 6 → b < 6 → zI σ 7 (6 * a + b) = zb (met a b)) ∧ zI σ 4 1 = nI km ∧ zI σ 6 1 = nI mm
theorem zRa.same {σ σ' : zSt} {kin met : Nat → Nat → Bool} {km mm : Nat} (h : zRa σ kin km met mm) (hS : zSame [3] [] σ σ') : zRa σ' kin km met mm := by
  have e := hS.2.2.2
  exact ⟨fun a b ha hb => by rw [e 5 (by decide)]; exact h.1 a b ha hb, fun a b ha hb => by rw [e 7 (by decide)]; exact h.2.1 a b ha hb, by rw [e 4 (by decide)]; exact h.2.2.1, by rw [e 6 (by decide)]; exact h.2.2.2⟩
/-- the class's reader stands at S -/
def zRd (σ : zSt) : pRs → Prop
  | (st, fd, kin, km, met, mm, tm) => zRa σ kin km met mm ∧ zI σ 3 3 = pSg st ∧ zI σ 3 5 = pIk st ∧ (st = 2 ∨ st = 5 → zI σ 3 4 = nI fd) ∧ (st = 8 → zI σ 3 2 = nI tm) ∧ pRok (st, fd, kin, km, met, mm, tm)
/-- what a letter does to the class's reader -/
def zTk (σ : zSt) (c : Int32) (S : pRs) (b : Bool) (σ' : zSt) : Prop := zSame [3, 4, 5, 6, 7] [] σ σ' ∧ match pGo c S with
  | none => b = false
  | some S' => b = true ∧ zRd σ' S'
theorem zTk.no {σ σ' : zSt} {c : Int32} {S : pRs} (hS : zSame [3, 4, 5, 6, 7] [] σ σ') (h : pGo c S = none) : zTk σ c S false σ' := ⟨hS, by rw [h]⟩
theorem zTk.yes {σ σ' : zSt} {c : Int32} {S S' : pRs} (hS : zSame [3, 4, 5, 6, 7] [] σ σ') (h : pGo c S = some S') (h' : zRd σ' S') : zTk σ c S true σ' := ⟨hS, by rw [h]; exact ⟨rfl, h'⟩⟩
theorem z37 {σ σ' : zSt} (h : zSame [3] [] σ σ') : zSame [3, 4, 5, 6, 7] [] σ σ' := h.mono (by simp) (by simp)

set_option maxRecDepth 100000 in
set_option maxHeartbeats 4000000 in
theorem ct_X3_takes_0 (d : Nat) {σ : zSt} (hL : zLay σ) {fd : Nat} {kin : Nat → Nat → Bool} {km : Nat} {met : Nat → Nat → Bool} {mm tm : Nat} (hR : zRd σ (0, fd, kin, km, met, mm, tm)) (c : Int32) : zCt (d + 3) MX3_takes [.ref 3, .int c] σ (zQb (zTk σ c (0, fd, kin, km, met, mm, tm))) := by
  refine zCt.of (L := [some (.ref 3), some (.int c)]) (by decide) (Nat.le_of_ble_eq_true rfl) rfl (fun X hC hB => ?_)
  have hC : zC X RX3 cX3_takes 2 (d + 3) 0 0 := hC
  have hB : zB X (some .boolean) 0 0 "takes" σ _ := hB
  show zV X 2 0 [some (.ref 3), some (.int c)] [] 0 0 σ
  obtain ⟨hA, h3, h5, h4, h2, hok⟩ := hR
  have hmm := hok.2.2.2.2.2.1
  have hmm9 : _ = 9 → mm ≤ 11 := fun z => hmm (Or.inr z)
  simp only [pRok] at hok
  refine v_aload_n (q := 1) hC dX3_takes_0 rfl rfl rfl ?_
  refine v_getI (q := 4) hC dX3_takes_1 rfl fX3_28 (hL.1 3 (by decide)) ?_
  rw [show zI σ 3 3 = 0 from h3]
  refine v_tableIn (q := 44) (off := 40) hC dX3_takes_4 (by decide) (by decide) rfl (by decide) ?_
  refine v_iload_n (q := 45) hC dX3_takes_44 rfl rfl rfl ?_
  refine v_bipush (q := 47) (v := 45) hC dX3_takes_45 rfl (by decide) ?_
  refine v_icmp_ne (q := 50) (tgt := 58) hC dX3_takes_47 rfl (by decide) (fun h47 => ?_) (fun h47 => ?_)
  · refine v_aload_n (q := 59) hC dX3_takes_58 rfl rfl rfl ?_
    refine v_iload_n (q := 60) hC dX3_takes_59 rfl rfl rfl ?_
    refine v_callVQ (q := 63) (As := [_]) hC dX3_takes_60 rfl lX3_51 mX3_takesFirstDigit iX3_takesFirstDigit eX3_takesFirstDigit rfl (hL.1 3 (by decide)) (ct_X3_takesFirstDigit (d + 1) hL c) rfl rfl (by omega) (by decide) (Nat.le_of_ble_eq_true rfl) ?_
    rintro _ σ1 ⟨b, rfl, hQ⟩
    refine v_zreturn hC hB dX3_takes_63 ⟨Nat.le_refl _, Nat.le_refl _⟩ (by first | exact Or.inl rfl | exact Or.inr rfl | exact zb_01 _) ?_
    first
      | exact ⟨true, rfl, zTk.yes (S' := (9, fd, kin, km, met, mm, tm)) (zSame.sI (by simp)) (by simp [pGo, h47]) ⟨hA.same (zSame.sI (by simp)), by simp [zI_sI, pSg], by simp [zI_sI, pIk]; exact h5, fun z => absurd z (by decide), fun z => absurd z (by decide), by simp only [pRok]; omega⟩⟩
      | (refine ⟨b, rfl, ?_⟩
         cases e : pDg c with
         | none =>
           simp only [e] at hQ
           obtain ⟨rfl, rfl⟩ := hQ
           exact zTk.no zSame.rf (by simp [pGo, e, h47])
         | some k =>
           simp only [e] at hQ
           obtain ⟨rfl, rfl⟩ := hQ
           have hS : zSame [3] [] σ (zsI (zsI σ 3 4 (nI k)) 3 3 2) := (zSame.sI (by simp)).addI (by simp)
           have hk6 := (pDg_some e).1
           refine zTk.yes (S' := (2, k, kin, km, met, mm, tm)) (z37 hS) (by simp [pGo, e, h47]) ⟨hA.same hS, by simp [zI_sI, pSg], by simp [zI_sI, pIk]; exact h5, fun _ => by simp [zI_sI], fun z => absurd z (by decide), by simp only [pRok]; omega⟩)
  · refine v_aload_n (q := 51) hC dX3_takes_50 rfl rfl rfl ?_
    refine v_iconst (q := 52) (v := 4) hC dX3_takes_51 rfl (by decide) ?_
    refine v_callV1 (q := 55) (As := [_]) hC dX3_takes_52 rfl lX3_48 mX3_goTo iX3_goTo eX3_goTo rfl (hL.1 3 (by decide)) (ct_X3_goTo (d + 2) hL _) rfl rfl (by omega) rfl (Nat.le_of_ble_eq_true rfl) ?_
    refine v_goto (q := 63) hC dX3_takes_55 (by decide) ?_
    refine v_zreturn hC hB dX3_takes_63 ⟨Nat.le_refl _, Nat.le_refl _⟩ (by first | exact Or.inl rfl | exact Or.inr rfl | exact zb_01 _) ?_
    first
      | exact ⟨true, rfl, zTk.yes (S' := (9, fd, kin, km, met, mm, tm)) (zSame.sI (by simp)) (by simp [pGo, h47]) ⟨hA.same (zSame.sI (by simp)), by simp [zI_sI, pSg], by simp [zI_sI, pIk]; exact h5, fun z => absurd z (by decide), fun z => absurd z (by decide), by simp only [pRok]; omega⟩⟩
      | (refine ⟨b, rfl, ?_⟩
         cases e : pDg c with
         | none =>
           simp only [e] at hQ
           obtain ⟨rfl, rfl⟩ := hQ
           exact zTk.no zSame.rf (by simp [pGo, e, h47])
         | some k =>
           simp only [e] at hQ
           obtain ⟨rfl, rfl⟩ := hQ
           have hS : zSame [3] [] σ (zsI (zsI σ 3 4 (nI k)) 3 3 2) := (zSame.sI (by simp)).addI (by simp)
           have hk6 := (pDg_some e).1
           refine zTk.yes (S' := (2, k, kin, km, met, mm, tm)) (z37 hS) (by simp [pGo, e, h47]) ⟨hA.same hS, by simp [zI_sI, pSg], by simp [zI_sI, pIk]; exact h5, fun _ => by simp [zI_sI], fun z => absurd z (by decide), by simp only [pRok]; omega⟩)

set_option maxRecDepth 100000 in
set_option maxHeartbeats 4000000 in
theorem ct_X3_takes_1 (d : Nat) {σ : zSt} (hL : zLay σ) {fd : Nat} {kin : Nat → Nat → Bool} {km : Nat} {met : Nat → Nat → Bool} {mm tm : Nat} (hR : zRd σ (1, fd, kin, km, met, mm, tm)) (c : Int32) : zCt (d + 3) MX3_takes [.ref 3, .int c] σ (zQb (zTk σ c (1, fd, kin, km, met, mm, tm))) := by
  refine zCt.of (L := [some (.ref 3), some (.int c)]) (by decide) (Nat.le_of_ble_eq_true rfl) rfl (fun X hC hB => ?_)
  have hC : zC X RX3 cX3_takes 2 (d + 3) 0 0 := hC
  have hB : zB X (some .boolean) 0 0 "takes" σ _ := hB
  show zV X 2 0 [some (.ref 3), some (.int c)] [] 0 0 σ
  obtain ⟨hA, h3, h5, h4, h2, hok⟩ := hR
  have hmm := hok.2.2.2.2.2.1
  have hmm9 : _ = 9 → mm ≤ 11 := fun z => hmm (Or.inr z)
  simp only [pRok] at hok
  refine v_aload_n (q := 1) hC dX3_takes_0 rfl rfl rfl ?_
  refine v_getI (q := 4) hC dX3_takes_1 rfl fX3_28 (hL.1 3 (by decide)) ?_
  rw [show zI σ 3 3 = 1 from h3]
  refine v_tableIn (q := 64) (off := 60) hC dX3_takes_4 (by decide) (by decide) rfl (by decide) ?_
  refine v_aload_n (q := 65) hC dX3_takes_64 rfl rfl rfl ?_
  refine v_iload_n (q := 66) hC dX3_takes_65 rfl rfl rfl ?_
  refine v_callVQ (q := 69) (As := [_]) hC dX3_takes_66 rfl lX3_51 mX3_takesFirstDigit iX3_takesFirstDigit eX3_takesFirstDigit rfl (hL.1 3 (by decide)) (ct_X3_takesFirstDigit (d + 1) hL c) rfl rfl (by omega) (by decide) (Nat.le_of_ble_eq_true rfl) ?_
  rintro _ σ1 ⟨b, rfl, hQ⟩
  refine v_zreturn hC hB dX3_takes_69 ⟨Nat.le_refl _, Nat.le_refl _⟩ (by first | exact Or.inl rfl | exact Or.inr rfl | exact zb_01 _) ?_
  refine ⟨b, rfl, ?_⟩
  cases e : pDg c with
  | none =>
    simp only [e] at hQ
    obtain ⟨rfl, rfl⟩ := hQ
    exact zTk.no zSame.rf (by simp [pGo, e])
  | some k =>
    simp only [e] at hQ
    obtain ⟨rfl, rfl⟩ := hQ
    have hS : zSame [3] [] σ (zsI (zsI σ 3 4 (nI k)) 3 3 2) := (zSame.sI (by simp)).addI (by simp)
    have hk6 := (pDg_some e).1
    refine zTk.yes (S' := (2, k, kin, km, met, mm, tm)) (z37 hS) (by simp [pGo, e]) ⟨hA.same hS, by simp [zI_sI, pSg], by simp [zI_sI, pIk]; exact h5, fun _ => by simp [zI_sI], fun z => absurd z (by decide), by simp only [pRok]; omega⟩

set_option maxRecDepth 100000 in
set_option maxHeartbeats 4000000 in
theorem ct_X3_takes_4 (d : Nat) {σ : zSt} (hL : zLay σ) {fd : Nat} {kin : Nat → Nat → Bool} {km : Nat} {met : Nat → Nat → Bool} {mm tm : Nat} (hR : zRd σ (4, fd, kin, km, met, mm, tm)) (c : Int32) : zCt (d + 3) MX3_takes [.ref 3, .int c] σ (zQb (zTk σ c (4, fd, kin, km, met, mm, tm))) := by
  refine zCt.of (L := [some (.ref 3), some (.int c)]) (by decide) (Nat.le_of_ble_eq_true rfl) rfl (fun X hC hB => ?_)
  have hC : zC X RX3 cX3_takes 2 (d + 3) 0 0 := hC
  have hB : zB X (some .boolean) 0 0 "takes" σ _ := hB
  show zV X 2 0 [some (.ref 3), some (.int c)] [] 0 0 σ
  obtain ⟨hA, h3, h5, h4, h2, hok⟩ := hR
  have hmm := hok.2.2.2.2.2.1
  have hmm9 : _ = 9 → mm ≤ 11 := fun z => hmm (Or.inr z)
  simp only [pRok] at hok
  refine v_aload_n (q := 1) hC dX3_takes_0 rfl rfl rfl ?_
  refine v_getI (q := 4) hC dX3_takes_1 rfl fX3_28 (hL.1 3 (by decide)) ?_
  rw [show zI σ 3 3 = 1 from h3]
  refine v_tableIn (q := 64) (off := 60) hC dX3_takes_4 (by decide) (by decide) rfl (by decide) ?_
  refine v_aload_n (q := 65) hC dX3_takes_64 rfl rfl rfl ?_
  refine v_iload_n (q := 66) hC dX3_takes_65 rfl rfl rfl ?_
  refine v_callVQ (q := 69) (As := [_]) hC dX3_takes_66 rfl lX3_51 mX3_takesFirstDigit iX3_takesFirstDigit eX3_takesFirstDigit rfl (hL.1 3 (by decide)) (ct_X3_takesFirstDigit (d + 1) hL c) rfl rfl (by omega) (by decide) (Nat.le_of_ble_eq_true rfl) ?_
  rintro _ σ1 ⟨b, rfl, hQ⟩
  refine v_zreturn hC hB dX3_takes_69 ⟨Nat.le_refl _, Nat.le_refl _⟩ (by first | exact Or.inl rfl | exact Or.inr rfl | exact zb_01 _) ?_
  refine ⟨b, rfl, ?_⟩
  cases e : pDg c with
  | none =>
    simp only [e] at hQ
    obtain ⟨rfl, rfl⟩ := hQ
    exact zTk.no zSame.rf (by simp [pGo, e])
  | some k =>
    simp only [e] at hQ
    obtain ⟨rfl, rfl⟩ := hQ
    have hS : zSame [3] [] σ (zsI (zsI σ 3 4 (nI k)) 3 3 2) := (zSame.sI (by simp)).addI (by simp)
    have hk6 := (pDg_some e).1
    refine zTk.yes (S' := (5, k, kin, km, met, mm, tm)) (z37 hS) (by simp [pGo, e]) ⟨hA.same hS, by simp [zI_sI, pSg], by simp [zI_sI, pIk]; exact h5, fun _ => by simp [zI_sI], fun z => absurd z (by decide), by simp only [pRok]; omega⟩

set_option maxRecDepth 100000 in
set_option maxHeartbeats 4000000 in
theorem ct_X3_takes_2 (d : Nat) {σ : zSt} (hL : zLay σ) {fd : Nat} {kin : Nat → Nat → Bool} {km : Nat} {met : Nat → Nat → Bool} {mm tm : Nat} (hR : zRd σ (2, fd, kin, km, met, mm, tm)) (c : Int32) : zCt (d + 3) MX3_takes [.ref 3, .int c] σ (zQb (zTk σ c (2, fd, kin, km, met, mm, tm))) := by
  refine zCt.of (L := [some (.ref 3), some (.int c)]) (by decide) (Nat.le_of_ble_eq_true rfl) rfl (fun X hC hB => ?_)
  have hC : zC X RX3 cX3_takes 2 (d + 3) 0 0 := hC
  have hB : zB X (some .boolean) 0 0 "takes" σ _ := hB
  show zV X 2 0 [some (.ref 3), some (.int c)] [] 0 0 σ
  obtain ⟨hA, h3, h5, h4, h2, hok⟩ := hR
  have hmm := hok.2.2.2.2.2.1
  have hmm9 : _ = 9 → mm ≤ 11 := fun z => hmm (Or.inr z)
  simp only [pRok] at hok
  refine v_aload_n (q := 1) hC dX3_takes_0 rfl rfl rfl ?_
  refine v_getI (q := 4) hC dX3_takes_1 rfl fX3_28 (hL.1 3 (by decide)) ?_
  rw [show zI σ 3 3 = 2 from h3]
  refine v_tableIn (q := 70) (off := 66) hC dX3_takes_4 (by decide) (by decide) rfl (by decide) ?_
  refine v_aload_n (q := 71) hC dX3_takes_70 rfl rfl rfl ?_
  refine v_iload_n (q := 72) hC dX3_takes_71 rfl rfl rfl ?_
  refine v_callVQ (q := 75) (As := [_]) hC dX3_takes_72 rfl lX3_54 mX3_takesSecondDigit iX3_takesSecondDigit eX3_takesSecondDigit rfl (hL.1 3 (by decide)) (ct_X3_takesSecondDigit_K d hL h5 hok.2.1 (h4 (by simp)) hA.1 hA.2.2.1 c) rfl rfl (by omega) (by decide) (Nat.le_of_ble_eq_true rfl) ?_
  rintro _ σ1 ⟨b, rfl, hQ⟩
  refine v_zreturn hC hB dX3_takes_75 ⟨Nat.le_refl _, Nat.le_refl _⟩ (by first | exact Or.inl rfl | exact Or.inr rfl | exact zb_01 _) ?_
  refine ⟨b, rfl, ?_⟩
  cases e : pDg c with
  | none =>
    simp only [e] at hQ
    obtain ⟨rfl, rfl⟩ := hQ
    exact zTk.no zSame.rf (by simp [pGo, e])
  | some k =>
    simp only [e] at hQ
    by_cases hx : k = fd ∨ kin fd k = true
    · rw [if_pos hx] at hQ; obtain ⟨rfl, rfl⟩ := hQ
      exact zTk.no zSame.rf (by simp [pGo, e, hx])
    · rw [if_neg hx] at hQ; obtain ⟨rfl, g1, g2, g3, g5, g6⟩ := hQ
      refine zTk.yes (S' := (3, fd, pAd kin fd k, km + 1, met, mm, tm)) (g1.mono (by simp) (by simp)) (by simp [pGo, e, hx]) ⟨⟨fun a b ha hb => g5 a b ha hb, fun a b ha hb => by rw [g1.2.2.2 7 (by decide)]; exact hA.2.1 a b ha hb, g6, by rw [g1.2.2.2 6 (by decide)]; exact hA.2.2.2⟩, by rw [g2]; rfl, by rw [g3 5 (by decide)]; exact h5, fun z => absurd z (by decide), fun z => absurd z (by decide), by simp only [pRok]; omega⟩

set_option maxRecDepth 100000 in
set_option maxHeartbeats 4000000 in
theorem ct_X3_takes_5 (d : Nat) {σ : zSt} (hL : zLay σ) {fd : Nat} {kin : Nat → Nat → Bool} {km : Nat} {met : Nat → Nat → Bool} {mm tm : Nat} (hR : zRd σ (5, fd, kin, km, met, mm, tm)) (c : Int32) : zCt (d + 3) MX3_takes [.ref 3, .int c] σ (zQb (zTk σ c (5, fd, kin, km, met, mm, tm))) := by
  refine zCt.of (L := [some (.ref 3), some (.int c)]) (by decide) (Nat.le_of_ble_eq_true rfl) rfl (fun X hC hB => ?_)
  have hC : zC X RX3 cX3_takes 2 (d + 3) 0 0 := hC
  have hB : zB X (some .boolean) 0 0 "takes" σ _ := hB
  show zV X 2 0 [some (.ref 3), some (.int c)] [] 0 0 σ
  obtain ⟨hA, h3, h5, h4, h2, hok⟩ := hR
  have hmm := hok.2.2.2.2.2.1
  have hmm9 : _ = 9 → mm ≤ 11 := fun z => hmm (Or.inr z)
  simp only [pRok] at hok
  refine v_aload_n (q := 1) hC dX3_takes_0 rfl rfl rfl ?_
  refine v_getI (q := 4) hC dX3_takes_1 rfl fX3_28 (hL.1 3 (by decide)) ?_
  rw [show zI σ 3 3 = 2 from h3]
  refine v_tableIn (q := 70) (off := 66) hC dX3_takes_4 (by decide) (by decide) rfl (by decide) ?_
  refine v_aload_n (q := 71) hC dX3_takes_70 rfl rfl rfl ?_
  refine v_iload_n (q := 72) hC dX3_takes_71 rfl rfl rfl ?_
  refine v_callVQ (q := 75) (As := [_]) hC dX3_takes_72 rfl lX3_54 mX3_takesSecondDigit iX3_takesSecondDigit eX3_takesSecondDigit rfl (hL.1 3 (by decide)) (ct_X3_takesSecondDigit_M d hL h5 hok.2.1 (h4 (by simp)) hA.2.1 hA.2.2.2 c) rfl rfl (by omega) (by decide) (Nat.le_of_ble_eq_true rfl) ?_
  rintro _ σ1 ⟨b, rfl, hQ⟩
  refine v_zreturn hC hB dX3_takes_75 ⟨Nat.le_refl _, Nat.le_refl _⟩ (by first | exact Or.inl rfl | exact Or.inr rfl | exact zb_01 _) ?_
  refine ⟨b, rfl, ?_⟩
  cases e : pDg c with
  | none =>
    simp only [e] at hQ
    obtain ⟨rfl, rfl⟩ := hQ
    exact zTk.no zSame.rf (by simp [pGo, e])
  | some k =>
    simp only [e] at hQ
    by_cases hx : k = fd ∨ met fd k = true
    · rw [if_pos hx] at hQ; obtain ⟨rfl, rfl⟩ := hQ
      exact zTk.no zSame.rf (by simp [pGo, e, hx])
    · rw [if_neg hx] at hQ; obtain ⟨rfl, g1, g2, g3, g5, g6⟩ := hQ
      refine zTk.yes (S' := (6, fd, kin, km, pAd met fd k, mm + 1, tm)) (g1.mono (by simp) (by simp)) (by simp [pGo, e, hx]) ⟨⟨fun a b ha hb => by rw [g1.2.2.2 5 (by decide)]; exact hA.1 a b ha hb, fun a b ha hb => g5 a b ha hb, by rw [g1.2.2.2 4 (by decide)]; exact hA.2.2.1, g6⟩, by rw [g2]; rfl, by rw [g3 5 (by decide)]; exact h5, fun z => absurd z (by decide), fun z => absurd z (by decide), by simp only [pRok]; omega⟩

set_option maxRecDepth 100000 in
set_option maxHeartbeats 4000000 in
theorem ct_X3_takes_3 (d : Nat) {σ : zSt} (hL : zLay σ) {fd : Nat} {kin : Nat → Nat → Bool} {km : Nat} {met : Nat → Nat → Bool} {mm tm : Nat} (hR : zRd σ (3, fd, kin, km, met, mm, tm)) (c : Int32) : zCt (d + 3) MX3_takes [.ref 3, .int c] σ (zQb (zTk σ c (3, fd, kin, km, met, mm, tm))) := by
  refine zCt.of (L := [some (.ref 3), some (.int c)]) (by decide) (Nat.le_of_ble_eq_true rfl) rfl (fun X hC hB => ?_)
  have hC : zC X RX3 cX3_takes 2 (d + 3) 0 0 := hC
  have hB : zB X (some .boolean) 0 0 "takes" σ _ := hB
  show zV X 2 0 [some (.ref 3), some (.int c)] [] 0 0 σ
  obtain ⟨hA, h3, h5, h4, h2, hok⟩ := hR
  have hmm := hok.2.2.2.2.2.1
  have hmm9 : _ = 9 → mm ≤ 11 := fun z => hmm (Or.inr z)
  simp only [pRok] at hok
  refine v_aload_n (q := 1) hC dX3_takes_0 rfl rfl rfl ?_
  refine v_getI (q := 4) hC dX3_takes_1 rfl fX3_28 (hL.1 3 (by decide)) ?_
  rw [show zI σ 3 3 = 3 from h3]
  refine v_tableIn (q := 76) (off := 72) hC dX3_takes_4 (by decide) (by decide) rfl (by decide) ?_
  refine v_iload_n (q := 77) hC dX3_takes_76 rfl rfl rfl ?_
  refine v_bipush (q := 79) (v := 44) hC dX3_takes_77 rfl (by decide) ?_
  refine v_icmp_ne (q := 82) (tgt := 89) hC dX3_takes_79 rfl (by decide) (fun h79 => ?_) (fun h79 => ?_)
  · refine v_aload_n (q := 90) hC dX3_takes_89 rfl rfl rfl ?_
    refine v_iload_n (q := 91) hC dX3_takes_90 rfl rfl rfl ?_
    refine v_callVQ (q := 94) (As := [_]) hC dX3_takes_91 rfl lX3_61 mX3_takesEndOfPart iX3_takesEndOfPart eX3_takesEndOfPart rfl (hL.1 3 (by decide)) (ct_X3_takesEndOfPart_K (d + 1) hL h5 c) rfl rfl (by omega) (by decide) (Nat.le_of_ble_eq_true rfl) ?_
    rintro _ σ1 ⟨b, rfl, hQ⟩
    refine v_zreturn hC hB dX3_takes_94 ⟨Nat.le_refl _, Nat.le_refl _⟩ (by first | exact Or.inl rfl | exact Or.inr rfl | exact zb_01 _) ?_
    refine ⟨b, rfl, ?_⟩
    by_cases hc : c = 44
    · have h79 := hc
      first
        | (by_cases hx : km < 5
           · rw [if_pos hx] at hQ; obtain ⟨rfl, rfl⟩ := hQ
             exact zTk.yes (S' := (1, fd, kin, km, met, mm, tm)) (zSame.sI (by simp)) (by simp [pGo, hc, hx]) ⟨hA.same (zSame.sI (by simp)), by simp [zI_sI, pSg], by simp [zI_sI, pIk]; exact h5, fun z => absurd z (by decide), fun z => absurd z (by decide), by simp only [pRok]; omega⟩
           · rw [if_neg hx] at hQ; obtain ⟨rfl, rfl⟩ := hQ
             exact zTk.no zSame.rf (by simp [pGo, hc, hx]))
        | exact absurd hc (by assumption)
    · first
        | (by_cases hx : c = 59
           · rw [if_pos hx] at hQ; obtain ⟨rfl, rfl⟩ := hQ
             have hS : zSame [3] [] σ (zsI (zsI σ 3 5 0) 3 3 1) := (zSame.sI (by simp)).addI (by simp)
             exact zTk.yes (S' := (4, fd, kin, km, met, mm, tm)) (z37 hS) (by simp [pGo, hc, hx]) ⟨hA.same hS, by simp [zI_sI, pSg], by simp [zI_sI, pIk], fun z => absurd z (by decide), fun z => absurd z (by decide), by simp only [pRok]; omega⟩
           · rw [if_neg hx] at hQ; obtain ⟨rfl, rfl⟩ := hQ
             exact zTk.no zSame.rf (by simp [pGo, hc, hx]))
        | exact absurd (by assumption) hc
  · refine v_aload_n (q := 83) hC dX3_takes_82 rfl rfl rfl ?_
    refine v_callVQ (q := 86) (As := []) hC dX3_takes_83 rfl lX3_57 mX3_takesComma iX3_takesComma eX3_takesComma rfl (hL.1 3 (by decide)) (ct_X3_takesComma_K (d + 1) hL h5 hA.2.2.1 (by omega)) rfl rfl (by omega) (by decide) (Nat.le_of_ble_eq_true rfl) ?_
    rintro _ σ1 ⟨b, rfl, hQ⟩
    refine v_goto (q := 94) hC dX3_takes_86 (by decide) ?_
    refine v_zreturn hC hB dX3_takes_94 ⟨Nat.le_refl _, Nat.le_refl _⟩ (by first | exact Or.inl rfl | exact Or.inr rfl | exact zb_01 _) ?_
    refine ⟨b, rfl, ?_⟩
    by_cases hc : c = 44
    · have h79 := hc
      first
        | (by_cases hx : km < 5
           · rw [if_pos hx] at hQ; obtain ⟨rfl, rfl⟩ := hQ
             exact zTk.yes (S' := (1, fd, kin, km, met, mm, tm)) (zSame.sI (by simp)) (by simp [pGo, hc, hx]) ⟨hA.same (zSame.sI (by simp)), by simp [zI_sI, pSg], by simp [zI_sI, pIk]; exact h5, fun z => absurd z (by decide), fun z => absurd z (by decide), by simp only [pRok]; omega⟩
           · rw [if_neg hx] at hQ; obtain ⟨rfl, rfl⟩ := hQ
             exact zTk.no zSame.rf (by simp [pGo, hc, hx]))
        | exact absurd hc (by assumption)
    · first
        | (by_cases hx : c = 59
           · rw [if_pos hx] at hQ; obtain ⟨rfl, rfl⟩ := hQ
             have hS : zSame [3] [] σ (zsI (zsI σ 3 5 0) 3 3 1) := (zSame.sI (by simp)).addI (by simp)
             exact zTk.yes (S' := (4, fd, kin, km, met, mm, tm)) (z37 hS) (by simp [pGo, hc, hx]) ⟨hA.same hS, by simp [zI_sI, pSg], by simp [zI_sI, pIk], fun z => absurd z (by decide), fun z => absurd z (by decide), by simp only [pRok]; omega⟩
           · rw [if_neg hx] at hQ; obtain ⟨rfl, rfl⟩ := hQ
             exact zTk.no zSame.rf (by simp [pGo, hc, hx]))
        | exact absurd (by assumption) hc

set_option maxRecDepth 100000 in
set_option maxHeartbeats 4000000 in
theorem ct_X3_takes_6 (d : Nat) {σ : zSt} (hL : zLay σ) {fd : Nat} {kin : Nat → Nat → Bool} {km : Nat} {met : Nat → Nat → Bool} {mm tm : Nat} (hR : zRd σ (6, fd, kin, km, met, mm, tm)) (c : Int32) : zCt (d + 3) MX3_takes [.ref 3, .int c] σ (zQb (zTk σ c (6, fd, kin, km, met, mm, tm))) := by
  refine zCt.of (L := [some (.ref 3), some (.int c)]) (by decide) (Nat.le_of_ble_eq_true rfl) rfl (fun X hC hB => ?_)
  have hC : zC X RX3 cX3_takes 2 (d + 3) 0 0 := hC
  have hB : zB X (some .boolean) 0 0 "takes" σ _ := hB
  show zV X 2 0 [some (.ref 3), some (.int c)] [] 0 0 σ
  obtain ⟨hA, h3, h5, h4, h2, hok⟩ := hR
  have hmm := hok.2.2.2.2.2.1
  have hmm9 : _ = 9 → mm ≤ 11 := fun z => hmm (Or.inr z)
  simp only [pRok] at hok
  refine v_aload_n (q := 1) hC dX3_takes_0 rfl rfl rfl ?_
  refine v_getI (q := 4) hC dX3_takes_1 rfl fX3_28 (hL.1 3 (by decide)) ?_
  rw [show zI σ 3 3 = 3 from h3]
  refine v_tableIn (q := 76) (off := 72) hC dX3_takes_4 (by decide) (by decide) rfl (by decide) ?_
  refine v_iload_n (q := 77) hC dX3_takes_76 rfl rfl rfl ?_
  refine v_bipush (q := 79) (v := 44) hC dX3_takes_77 rfl (by decide) ?_
  refine v_icmp_ne (q := 82) (tgt := 89) hC dX3_takes_79 rfl (by decide) (fun h79 => ?_) (fun h79 => ?_)
  · refine v_aload_n (q := 90) hC dX3_takes_89 rfl rfl rfl ?_
    refine v_iload_n (q := 91) hC dX3_takes_90 rfl rfl rfl ?_
    refine v_callVQ (q := 94) (As := [_]) hC dX3_takes_91 rfl lX3_61 mX3_takesEndOfPart iX3_takesEndOfPart eX3_takesEndOfPart rfl (hL.1 3 (by decide)) (ct_X3_takesEndOfPart_M (d + 1) hL h5 c) rfl rfl (by omega) (by decide) (Nat.le_of_ble_eq_true rfl) ?_
    rintro _ σ1 ⟨b, rfl, hQ⟩
    refine v_zreturn hC hB dX3_takes_94 ⟨Nat.le_refl _, Nat.le_refl _⟩ (by first | exact Or.inl rfl | exact Or.inr rfl | exact zb_01 _) ?_
    refine ⟨b, rfl, ?_⟩
    by_cases hc : c = 44
    · have h79 := hc
      first
        | (by_cases hx : mm < 12
           · rw [if_pos hx] at hQ; obtain ⟨rfl, rfl⟩ := hQ
             exact zTk.yes (S' := (4, fd, kin, km, met, mm, tm)) (zSame.sI (by simp)) (by simp [pGo, hc, hx]) ⟨hA.same (zSame.sI (by simp)), by simp [zI_sI, pSg], by simp [zI_sI, pIk]; exact h5, fun z => absurd z (by decide), fun z => absurd z (by decide), by simp only [pRok]; omega⟩
           · rw [if_neg hx] at hQ; obtain ⟨rfl, rfl⟩ := hQ
             exact zTk.no zSame.rf (by simp [pGo, hc, hx]))
        | exact absurd hc (by assumption)
    · first
        | (by_cases hx : c = 59
           · rw [if_pos hx] at hQ; obtain ⟨rfl, rfl⟩ := hQ
             have hS : zSame [3] [] σ (zsI (zsI σ 3 5 0) 3 3 5) := (zSame.sI (by simp)).addI (by simp)
             exact zTk.yes (S' := (7, fd, kin, km, met, mm, tm)) (z37 hS) (by simp [pGo, hc, hx]) ⟨hA.same hS, by simp [zI_sI, pSg], by simp [zI_sI, pIk], fun z => absurd z (by decide), fun z => absurd z (by decide), by simp only [pRok]; omega⟩
           · rw [if_neg hx] at hQ; obtain ⟨rfl, rfl⟩ := hQ
             exact zTk.no zSame.rf (by simp [pGo, hc, hx]))
        | exact absurd (by assumption) hc
  · refine v_aload_n (q := 83) hC dX3_takes_82 rfl rfl rfl ?_
    refine v_callVQ (q := 86) (As := []) hC dX3_takes_83 rfl lX3_57 mX3_takesComma iX3_takesComma eX3_takesComma rfl (hL.1 3 (by decide)) (ct_X3_takesComma_M (d + 1) hL h5 hA.2.2.2 (by omega)) rfl rfl (by omega) (by decide) (Nat.le_of_ble_eq_true rfl) ?_
    rintro _ σ1 ⟨b, rfl, hQ⟩
    refine v_goto (q := 94) hC dX3_takes_86 (by decide) ?_
    refine v_zreturn hC hB dX3_takes_94 ⟨Nat.le_refl _, Nat.le_refl _⟩ (by first | exact Or.inl rfl | exact Or.inr rfl | exact zb_01 _) ?_
    refine ⟨b, rfl, ?_⟩
    by_cases hc : c = 44
    · have h79 := hc
      first
        | (by_cases hx : mm < 12
           · rw [if_pos hx] at hQ; obtain ⟨rfl, rfl⟩ := hQ
             exact zTk.yes (S' := (4, fd, kin, km, met, mm, tm)) (zSame.sI (by simp)) (by simp [pGo, hc, hx]) ⟨hA.same (zSame.sI (by simp)), by simp [zI_sI, pSg], by simp [zI_sI, pIk]; exact h5, fun z => absurd z (by decide), fun z => absurd z (by decide), by simp only [pRok]; omega⟩
           · rw [if_neg hx] at hQ; obtain ⟨rfl, rfl⟩ := hQ
             exact zTk.no zSame.rf (by simp [pGo, hc, hx]))
        | exact absurd hc (by assumption)
    · first
        | (by_cases hx : c = 59
           · rw [if_pos hx] at hQ; obtain ⟨rfl, rfl⟩ := hQ
             have hS : zSame [3] [] σ (zsI (zsI σ 3 5 0) 3 3 5) := (zSame.sI (by simp)).addI (by simp)
             exact zTk.yes (S' := (7, fd, kin, km, met, mm, tm)) (z37 hS) (by simp [pGo, hc, hx]) ⟨hA.same hS, by simp [zI_sI, pSg], by simp [zI_sI, pIk], fun z => absurd z (by decide), fun z => absurd z (by decide), by simp only [pRok]; omega⟩
           · rw [if_neg hx] at hQ; obtain ⟨rfl, rfl⟩ := hQ
             exact zTk.no zSame.rf (by simp [pGo, hc, hx]))
        | exact absurd (by assumption) hc

set_option maxRecDepth 100000 in
set_option maxHeartbeats 4000000 in
theorem ct_X3_takes_9 (d : Nat) {σ : zSt} (hL : zLay σ) {fd : Nat} {kin : Nat → Nat → Bool} {km : Nat} {met : Nat → Nat → Bool} {mm tm : Nat} (hR : zRd σ (9, fd, kin, km, met, mm, tm)) (c : Int32) : zCt (d + 3) MX3_takes [.ref 3, .int c] σ (zQb (zTk σ c (9, fd, kin, km, met, mm, tm))) := by
  refine zCt.of (L := [some (.ref 3), some (.int c)]) (by decide) (Nat.le_of_ble_eq_true rfl) rfl (fun X hC hB => ?_)
  have hC : zC X RX3 cX3_takes 2 (d + 3) 0 0 := hC
  have hB : zB X (some .boolean) 0 0 "takes" σ _ := hB
  show zV X 2 0 [some (.ref 3), some (.int c)] [] 0 0 σ
  obtain ⟨hA, h3, h5, h4, h2, hok⟩ := hR
  have hmm := hok.2.2.2.2.2.1
  have hmm9 : _ = 9 → mm ≤ 11 := fun z => hmm (Or.inr z)
  simp only [pRok] at hok
  refine v_aload_n (q := 1) hC dX3_takes_0 rfl rfl rfl ?_
  refine v_getI (q := 4) hC dX3_takes_1 rfl fX3_28 (hL.1 3 (by decide)) ?_
  rw [show zI σ 3 3 = 4 from h3]
  refine v_tableIn (q := 95) (off := 91) hC dX3_takes_4 (by decide) (by decide) rfl (by decide) ?_
  refine v_aload_n (q := 96) hC dX3_takes_95 rfl rfl rfl ?_
  refine v_iload_n (q := 97) hC dX3_takes_96 rfl rfl rfl ?_
  refine v_callVQ (q := 100) (As := [_]) hC dX3_takes_97 rfl lX3_61 mX3_takesEndOfPart iX3_takesEndOfPart eX3_takesEndOfPart rfl (hL.1 3 (by decide)) (ct_X3_takesEndOfPart_K (d + 1) hL h5 c) rfl rfl (by omega) (by decide) (Nat.le_of_ble_eq_true rfl) ?_
  rintro _ σ1 ⟨b, rfl, hQ⟩
  refine v_zreturn hC hB dX3_takes_100 ⟨Nat.le_refl _, Nat.le_refl _⟩ (by first | exact Or.inl rfl | exact Or.inr rfl | exact zb_01 _) ?_
  refine ⟨b, rfl, ?_⟩
  have hm11 := hmm9 rfl
  by_cases hx : c = 59
  · rw [if_pos hx] at hQ; obtain ⟨rfl, rfl⟩ := hQ
    have hS : zSame [3] [] σ (zsI (zsI σ 3 5 0) 3 3 1) := (zSame.sI (by simp)).addI (by simp)
    exact zTk.yes (S' := (4, fd, kin, km, met, mm, tm)) (z37 hS) (by simp [pGo, hx]) ⟨hA.same hS, by simp [zI_sI, pSg], by simp [zI_sI, pIk], fun z => absurd z (by decide), fun z => absurd z (by decide), by simp only [pRok]; omega⟩
  · rw [if_neg hx] at hQ; obtain ⟨rfl, rfl⟩ := hQ
    exact zTk.no zSame.rf (by simp [pGo, hx])

set_option maxRecDepth 100000 in
set_option maxHeartbeats 4000000 in
theorem ct_X3_takes_7 (d : Nat) {σ : zSt} (hL : zLay σ) {fd : Nat} {kin : Nat → Nat → Bool} {km : Nat} {met : Nat → Nat → Bool} {mm tm : Nat} (hR : zRd σ (7, fd, kin, km, met, mm, tm)) (c : Int32) : zCt (d + 3) MX3_takes [.ref 3, .int c] σ (zQb (zTk σ c (7, fd, kin, km, met, mm, tm))) := by
  refine zCt.of (L := [some (.ref 3), some (.int c)]) (by decide) (Nat.le_of_ble_eq_true rfl) rfl (fun X hC hB => ?_)
  have hC : zC X RX3 cX3_takes 2 (d + 3) 0 0 := hC
  have hB : zB X (some .boolean) 0 0 "takes" σ _ := hB
  show zV X 2 0 [some (.ref 3), some (.int c)] [] 0 0 σ
  obtain ⟨hA, h3, h5, h4, h2, hok⟩ := hR
  have hmm := hok.2.2.2.2.2.1
  have hmm9 : _ = 9 → mm ≤ 11 := fun z => hmm (Or.inr z)
  simp only [pRok] at hok
  refine v_aload_n (q := 1) hC dX3_takes_0 rfl rfl rfl ?_
  refine v_getI (q := 4) hC dX3_takes_1 rfl fX3_28 (hL.1 3 (by decide)) ?_
  rw [show zI σ 3 3 = 5 from h3]
  refine v_tableIn (q := 101) (off := 97) hC dX3_takes_4 (by decide) (by decide) rfl (by decide) ?_
  refine v_aload_n (q := 102) hC dX3_takes_101 rfl rfl rfl ?_
  refine v_iload_n (q := 103) hC dX3_takes_102 rfl rfl rfl ?_
  refine v_callVQ (q := 106) (As := [_]) hC dX3_takes_103 rfl lX3_64 mX3_takesTerm iX3_takesTerm eX3_takesTerm rfl (hL.1 3 (by decide)) (ct_X3_takesTerm (d + 1) hL c) rfl rfl (by omega) (by decide) (Nat.le_of_ble_eq_true rfl) ?_
  rintro _ σ1 ⟨b, rfl, hQ⟩
  refine v_zreturn hC hB dX3_takes_106 ⟨Nat.le_refl _, Nat.le_refl _⟩ (by first | exact Or.inl rfl | exact Or.inr rfl | exact zb_01 _) ?_
  refine ⟨b, rfl, ?_⟩
  by_cases hx : 49 ≤ c.toInt ∧ c.toInt ≤ 57
  · rw [if_pos hx] at hQ; obtain ⟨rfl, rfl⟩ := hQ
    have hS : zSame [3] [] σ (zsI (zsI σ 3 2 (c - 48)) 3 3 6) := (zSame.sI (by simp)).addI (by simp)
    have ec : c - 48 = nI (c.toInt - 48).toNat := by
      have e1 : c = nI (48 + (c.toInt - 48).toNat) := by apply Int32.toInt_inj.mp; rw [nI_toInt (by omega)]; omega
      have e2 := pk_sub (a := 48 + (c.toInt - 48).toNat) (b := 48) (by omega)
      rw [← e1] at e2; rw [show (48 : Int32) = nI 48 from rfl, e2]; congr 1; omega
    exact zTk.yes (S' := (8, fd, kin, km, met, mm, (c.toInt - 48).toNat)) (z37 hS) (by simp [pGo, hx]) ⟨hA.same hS, by simp [zI_sI, pSg], by simp [zI_sI, pIk]; exact h5, fun z => absurd z (by decide), fun _ => by rw [zI_ne (by omega), zI_eq]; exact ec, by simp only [pRok]; omega⟩
  · rw [if_neg hx] at hQ; obtain ⟨rfl, rfl⟩ := hQ
    exact zTk.no zSame.rf (by simp [pGo, hx])

set_option maxRecDepth 100000 in
set_option maxHeartbeats 4000000 in
theorem ct_X3_takes_8 (d : Nat) {σ : zSt} (hL : zLay σ) {fd : Nat} {kin : Nat → Nat → Bool} {km : Nat} {met : Nat → Nat → Bool} {mm tm : Nat} (hR : zRd σ (8, fd, kin, km, met, mm, tm)) (c : Int32) : zCt (d + 3) MX3_takes [.ref 3, .int c] σ (zQb (zTk σ c (8, fd, kin, km, met, mm, tm))) := by
  refine zCt.of (L := [some (.ref 3), some (.int c)]) (by decide) (Nat.le_of_ble_eq_true rfl) rfl (fun X hC hB => ?_)
  have hC : zC X RX3 cX3_takes 2 (d + 3) 0 0 := hC
  have hB : zB X (some .boolean) 0 0 "takes" σ _ := hB
  show zV X 2 0 [some (.ref 3), some (.int c)] [] 0 0 σ
  obtain ⟨hA, h3, h5, h4, h2, hok⟩ := hR
  have hmm := hok.2.2.2.2.2.1
  have hmm9 : _ = 9 → mm ≤ 11 := fun z => hmm (Or.inr z)
  simp only [pRok] at hok
  refine v_aload_n (q := 1) hC dX3_takes_0 rfl rfl rfl ?_
  refine v_getI (q := 4) hC dX3_takes_1 rfl fX3_28 (hL.1 3 (by decide)) ?_
  rw [show zI σ 3 3 = 6 from h3]
  refine v_tableOut (q := 107) hC dX3_takes_4 (by decide) (by decide) ?_
  refine v_iconst (q := 108) (v := 0) hC dX3_takes_107 rfl (by decide) ?_
  refine v_zreturn hC hB dX3_takes_108 ⟨Nat.le_refl _, Nat.le_refl _⟩ (by first | exact Or.inl rfl | exact Or.inr rfl | exact zb_01 _) ?_
  exact ⟨false, rfl, zTk.no zSame.rf (by simp [pGo])⟩

theorem ct_X3_takes (d : Nat) {σ : zSt} (hL : zLay σ) {S : pRs} (hR : zRd σ S) (c : Int32) : zCt (d + 3) MX3_takes [.ref 3, .int c] σ (zQb (zTk σ c S)) := by
  obtain ⟨st, fd, kin, km, met, mm, tm⟩ := S
  have h9 : st ≤ 9 := hR.2.2.2.2.2.1
  match st, h9, hR with
  | 0, _, hR => exact ct_X3_takes_0 d hL hR c
  | 1, _, hR => exact ct_X3_takes_1 d hL hR c
  | 2, _, hR => exact ct_X3_takes_2 d hL hR c
  | 3, _, hR => exact ct_X3_takes_3 d hL hR c
  | 4, _, hR => exact ct_X3_takes_4 d hL hR c
  | 5, _, hR => exact ct_X3_takes_5 d hL hR c
  | 6, _, hR => exact ct_X3_takes_6 d hL hR c
  | 7, _, hR => exact ct_X3_takes_7 d hL hR c
  | 8, _, hR => exact ct_X3_takes_8 d hL hR c
  | 9, _, hR => exact ct_X3_takes_9 d hL hR c
  | st + 10, h, _ => exact absurd h (by omega)
def pR0 : pRs := (0, 0, fun _ _ => false, 0, fun _ _ => false, 0, 0)
/-- the page's letters from place i on, k of them, read from S: how far it goes, and where it stands then -/
def pRead (pg : Nat → Int32) : Nat → Nat → pRs → Nat × Option pRs
  | 0, i, S => (i, some S)
  | k + 1, i, S => match pGo (pg i) S with
    | none => (i, none)
    | some S' => pRead pg k (i + 1) S'

set_option maxRecDepth 100000 in
set_option maxHeartbeats 4000000 in
theorem ct_X3_isWhole (d : Nat) {σ : zSt} (hL : zLay σ) : zEv (d + 0) MX3_isWhole [.ref 3] σ (some (.int (zb (decide (zI σ 3 3 = 6))))) σ := by
  refine zCt.of (L := [some (.ref 3)]) (by decide) (Nat.le_of_ble_eq_true rfl) rfl (fun X hC hB => ?_)
  have hC : zC X RX3 cX3_isWhole 1 (d + 0) 0 0 := hC
  have hB : zB X (some .boolean) 0 0 "isWhole" σ _ := hB
  show zV X 1 0 [some (.ref 3)] [] 0 0 σ
  refine v_aload_n (q := 1) hC dX3_isWhole_0 rfl rfl rfl ?_
  refine v_getI (q := 4) hC dX3_isWhole_1 rfl fX3_28 (hL.1 3 (by decide)) ?_
  refine v_bipush (q := 6) (v := 6) hC dX3_isWhole_4 rfl (by decide) ?_
  refine v_icmp_ne (q := 9) (tgt := 13) hC dX3_isWhole_6 rfl (by decide) (fun h6 => ?_) (fun h6 => ?_)
  · refine v_iconst (q := 14) (v := 0) hC dX3_isWhole_13 rfl (by decide) ?_
    refine v_zreturn hC hB dX3_isWhole_14 ⟨Nat.le_refl _, Nat.le_refl _⟩ (by first | exact Or.inl rfl | exact Or.inr rfl | exact zb_01 _) ?_
    first | exact ⟨zbt (by simp_all), rfl⟩ | exact ⟨zbf (by simp_all), rfl⟩
  · refine v_iconst (q := 10) (v := 1) hC dX3_isWhole_9 rfl (by decide) ?_
    refine v_goto (q := 14) hC dX3_isWhole_10 (by decide) ?_
    refine v_zreturn hC hB dX3_isWhole_14 ⟨Nat.le_refl _, Nat.le_refl _⟩ (by first | exact Or.inl rfl | exact Or.inr rfl | exact zb_01 _) ?_
    first | exact ⟨zbt (by simp_all), rfl⟩ | exact ⟨zbf (by simp_all), rfl⟩

set_option maxRecDepth 100000 in
set_option maxHeartbeats 4000000 in
theorem ct_X3_read (d : Nat) {σ : zSt} (hL : zLay σ) {m : Nat} (hm : zI σ 1 1 = nI m) (hm54 : m ≤ 54) : zCt (d + 4) MX3_read [.ref 3, .ref 1] σ (fun r σ' => r = some (.int (nI (pRead (zI σ 2) m 0 pR0).1)) ∧ zSame [3, 4, 5, 6, 7] [] σ σ' ∧ ∀ S1, (pRead (zI σ 2) m 0 pR0).2 = some S1 → zRd σ' S1) := by
  refine zCt.of (L := [some (.ref 3), some (.ref 1), none]) (by decide) (Nat.le_of_ble_eq_true rfl) rfl (fun X hC hB => ?_)
  have hC : zC X RX3 cX3_read 3 (d + 4) 0 0 := hC
  have hB : zB X (some .int) 0 0 "read" σ _ := hB
  show zV X 3 0 [some (.ref 3), some (.ref 1), none] [] 0 0 σ
  obtain ⟨v, w, hvw⟩ : ∃ v w, pRead (zI σ 2) m 0 pR0 = (v, w) := ⟨_, _, rfl⟩
  rw [hvw] at hB
  dsimp only at hB
  have lp : ∀ (r : Nat) (i : Nat) (S : pRs) (σ1 : zSt), i + r = m → zSame [3, 4, 5, 6, 7] [] σ σ1 → zRd σ1 S → pRead (zI σ 2) r i S = (v, w) → zV X 3 31 [some (.ref 3), some (.ref 1), some (.int (nI i))] [] 0 0 σ1 := by
    intro r
    induction r with
    | zero =>
      intro i S σ1 hi hS hR hv
      have hL1 := hL.same hS rfl
      have hm1 : zI σ1 1 1 = nI m := by rw [hS.2.2.2 1 (by decide)]; exact hm
      refine v_iload_n (q := 32) hC dX3_read_31 rfl rfl rfl ?_
      refine v_aload_n (q := 33) hC dX3_read_32 rfl rfl rfl ?_
      refine v_getI (q := 36) hC dX3_read_33 rfl fX3_35 (hL1.1 1 (by decide)) ?_
      rw [hm1]
      refine v_icmp_ge (q := 39) (tgt := 60) hC dX3_read_36 rfl (by decide) (fun h36 => ?_) (fun h36 => ?_)
      · refine v_aload_n (q := 61) hC dX3_read_60 rfl rfl rfl ?_
        refine v_getI (q := 64) hC dX3_read_61 rfl fX3_35 (hL1.1 1 (by decide)) ?_
        rw [hm1]
        refine v_ireturn hC hB dX3_read_64 ⟨Nat.le_refl _, Nat.le_refl _⟩ ?_
        simp only [pRead, Prod.mk.injEq] at hv
        obtain ⟨rfl, rfl⟩ := hv
        have e : m = i := by omega
        subst e
        exact ⟨rfl, hS, fun S1 e1 => by cases e1; exact hR⟩
      · exact absurd (nI_le (a := m) (b := i) (by omega) (by omega)) h36
    | succ r ih =>
      intro i S σ1 hi hS hR hv
      have hL1 := hL.same hS rfl
      have hm1 : zI σ1 1 1 = nI m := by rw [hS.2.2.2 1 (by decide)]; exact hm
      refine v_iload_n (q := 32) hC dX3_read_31 rfl rfl rfl ?_
      refine v_aload_n (q := 33) hC dX3_read_32 rfl rfl rfl ?_
      refine v_getI (q := 36) hC dX3_read_33 rfl fX3_35 (hL1.1 1 (by decide)) ?_
      rw [hm1]
      refine v_icmp_ge (q := 39) (tgt := 60) hC dX3_read_36 rfl (by decide) (fun h36 => ?_) (fun h36 => ?_)
      · exact absurd h36 (nI_ge (a := i) (b := m) (by omega) (by omega))
      · refine v_aload_n (q := 40) hC dX3_read_39 rfl rfl rfl ?_
        refine v_aload_n (q := 41) hC dX3_read_40 rfl rfl rfl ?_
        refine v_getR (q := 44) (r := 2) hC dX3_read_41 rfl fX3_40 (hL1.1 1 (by decide)) (hL1.2 1 0 2 rfl) ?_
        refine v_iload_n (q := 45) hC dX3_read_44 rfl rfl rfl ?_
        refine v_ialdN (q := 46) (j := i) hC dX3_read_45 rfl (hL1.1 2 (by decide)) rfl (by omega) (by decide) ?_
        rw [hS.2.2.2 2 (by decide)]
        refine v_callVQ (q := 49) (As := [_]) hC dX3_read_46 rfl lX3_44 mX3_takes iX3_takes eX3_takes rfl (hL1.1 3 (by decide)) (ct_X3_takes d hL1 hR _) rfl rfl (by omega) (by decide) (Nat.le_of_ble_eq_true rfl) ?_
        rintro _ σ2 ⟨b, rfl, hS2, hq⟩
        refine v_if_ne (q := 52) (tgt := 54) hC dX3_read_49 rfl (by decide) (fun h49 => ?_) (fun h49 => ?_)
        · have hbt : b = true := by simpa [zb_eq0] using h49
          refine v_iinc (q := 57) (v := 1) (L' := [_, _, _]) hC dX3_read_54 rfl rfl (by decide) (by decide) rfl rfl ?_
          refine v_goto (q := 31) hC dX3_read_57 (by decide) ?_
          rw [nI_1 i]
          simp only [pRead] at hv
          cases e : pGo (zI σ 2 i) S with
          | none => rw [e] at hq; dsimp only at hq; rw [hbt] at hq; cases hq
          | some S2 =>
          rw [e] at hq hv; dsimp only at hq hv
          exact ih (i + 1) S2 σ2 (by omega) (hS.tr hS2) hq.2 hv
        · have hbf : b = false := by simpa [zb_eq0] using h49
          refine v_iload_n (q := 53) hC dX3_read_52 rfl rfl rfl ?_
          refine v_ireturn hC hB dX3_read_53 ⟨Nat.le_refl _, Nat.le_refl _⟩ ?_
          simp only [pRead] at hv
          cases e : pGo (zI σ 2 i) S with
          | some S2 => rw [e] at hq; dsimp only at hq; rw [hbf] at hq; cases hq.1
          | none =>
          rw [e] at hv; simp only [Prod.mk.injEq] at hv
          obtain ⟨rfl, rfl⟩ := hv
          exact ⟨rfl, hS.tr hS2, fun S1 e1 => by cases e1⟩
  refine v_aload_n (q := 1) hC dX3_read_0 rfl rfl rfl ?_
  refine v_getR (q := 4) (r := 4) hC dX3_read_1 rfl fX3_12 (hL.1 3 (by decide)) (hL.2 3 0 4 rfl) ?_
  refine v_callVQ (q := 7) (As := []) hC dX3_read_4 rfl lX3_21 mX6_clear iX6_clear eX6_clear rfl (hL.1 4 (by decide)) (ct_X6_clear (d + 3) (zPr.of hL (c := 4) (by simp))) rfl rfl (by omega) (by decide) (Nat.le_of_ble_eq_true rfl) ?_
  rintro _ σ1 ⟨rfl, hS1, g1, g2⟩
  have hL1 := hL.same hS1 rfl
  refine v_aload_n (q := 8) hC dX3_read_7 rfl rfl rfl ?_
  refine v_getR (q := 11) (r := 6) hC dX3_read_8 rfl fX3_18 (hL1.1 3 (by decide)) (hL1.2 3 1 6 rfl) ?_
  refine v_callVQ (q := 14) (As := []) hC dX3_read_11 rfl lX3_21 mX6_clear iX6_clear eX6_clear rfl (hL1.1 6 (by decide)) (ct_X6_clear (d + 3) (zPr.of hL1 (c := 6) (by simp))) rfl rfl (by omega) (by decide) (Nat.le_of_ble_eq_true rfl) ?_
  rintro _ σ2 ⟨rfl, hS2, g3, g4⟩
  have hL2 := hL1.same hS2 rfl
  refine v_aload_n (q := 15) hC dX3_read_14 rfl rfl rfl ?_
  refine v_iconst (q := 16) (v := 0) hC dX3_read_15 rfl (by decide) ?_
  refine v_putI (q := 19) hC dX3_read_16 rfl fX3_24 (hL2.1 3 (by decide)) ?_
  refine v_aload_n (q := 20) hC dX3_read_19 rfl rfl rfl ?_
  refine v_iconst (q := 21) (v := 0) hC dX3_read_20 rfl (by decide) ?_
  refine v_putI (q := 24) hC dX3_read_21 rfl fX3_28 (hL2.1 3 (by decide)) ?_
  refine v_aload_n (q := 25) hC dX3_read_24 rfl rfl rfl ?_
  refine v_iconst (q := 26) (v := 1) hC dX3_read_25 rfl (by decide) ?_
  refine v_putZ (q := 29) hC dX3_read_26 rfl fX3_31 (hL2.1 3 (by decide)) (by decide) ?_
  refine v_iconst (q := 30) (v := 0) hC dX3_read_29 rfl (by decide) ?_
  refine v_istore_n (q := 31) (L' := [_, _, _]) hC dX3_read_30 rfl rfl (by decide) rfl rfl ?_
  have hSS : zSame [3, 4, 5, 6, 7] [] σ (zsI (zsI (zsI σ2 3 2 0) 3 3 0) 3 5 1) := (((hS1.mono (by simp) (by simp)).tr (hS2.mono (by simp) (by simp))).addI (by simp)).addI (by simp) |>.addI (by simp)
  refine lp m 0 pR0 _ (by omega) hSS ⟨⟨fun a b ha hb => ?_, fun a b ha hb => ?_, ?_, ?_⟩, ?_, ?_, fun z => absurd z (by decide), fun z => absurd z (by decide), by simp only [pRok]; omega⟩ hvw
  · rw [zI_ne (by omega), zI_ne (by omega), zI_ne (by omega), hS2.2.2.2 5 (by decide)]; exact g1 _ (by omega)
  · rw [zI_ne (by omega), zI_ne (by omega), zI_ne (by omega)]; exact g3 _ (by omega)
  · rw [zI_ne (by omega), zI_ne (by omega), zI_ne (by omega), hS2.2.2.2 4 (by decide)]; exact g2
  · rw [zI_ne (by omega), zI_ne (by omega), zI_ne (by omega)]; exact g4
  · rw [zI_ne (by omega), zI_eq]; rfl
  · rw [zI_eq]; rfl

