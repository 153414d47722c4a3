/-! ===== LawReader ===== -/
/-- a digit of a pair -/
def pDg (c : Int32) : Option Nat := if 48 ≤ c.toInt ∧ c.toInt < 54 then some (c.toInt - 48).toNat else none
theorem pDg_some {c : Int32} {k : Nat} (h : pDg c = some k) : k < 6 ∧ c = nI (48 + k) ∧ c - 48 = nI k := by
  unfold pDg at h
  split at h
  · rename_i hc
    cases h
    have e : c = nI (48 + (c.toInt - 48).toNat) := by
      apply Int32.toInt_inj.mp
      rw [nI_toInt (by omega)]
      omega
    refine ⟨by omega, e, ?_⟩
    have e2 : nI (48 + (c.toInt - 48).toNat) - 48 = nI ((c.toInt - 48).toNat) := by
      have := pk_sub (a := 48 + (c.toInt - 48).toNat) (b := 48) (by omega)
      rw [show (48 : Int32) = nI 48 from rfl, this]
      congr 1
      omega
    rw [← e] at e2
    exact e2
  · cases h
theorem pDg_iff {c : Int32} : (pDg c).isSome = decide (48 ≤ c.toInt ∧ c.toInt < 54) := by unfold pDg; split <;> simp_all
/-- one pair more -/
def pAd (K : Nat → Nat → Bool) (x y a b : Nat) : Bool := K a b || (decide (a = x) && decide (b = y)) || (decide (a = y) && decide (b = x))
/-- the reading of a law: state, first digit, kin and how many, met and how many, term -/
abbrev pRs : Type := Nat × Nat × (Nat → Nat → Bool) × Nat × (Nat → Nat → Bool) × Nat × Nat
def pGo (c : Int32) : pRs → Option pRs
  | (st, fd, kin, km, met, mm, tm) =>
    if st = 0 then (if c = 45 then some (9, fd, kin, km, met, mm, tm) else match pDg c with
      | none => none
      | some k => some (2, k, kin, km, met, mm, tm))
    else if st = 1 then (match pDg c with
      | none => none
      | some k => some (2, k, kin, km, met, mm, tm))
    else if st = 2 then (match pDg c with
      | none => none
      | some k => if k = fd ∨ kin fd k = true then none else some (3, fd, pAd kin fd k, km + 1, met, mm, tm))
    else if st = 3 then (if c = 44 then (if km < 5 then some (1, fd, kin, km, met, mm, tm) else none) else if c = 59 then some (4, fd, kin, km, met, mm, tm) else none)
    else if st = 4 then (match pDg c with
      | none => none
      | some k => some (5, k, kin, km, met, mm, tm))
    else if st = 5 then (match pDg c with
      | none => none
      | some k => if k = fd ∨ met fd k = true then none else some (6, fd, kin, km, pAd met fd k, mm + 1, tm))
    else if st = 6 then (if c = 44 then (if mm < 12 then some (4, fd, kin, km, met, mm, tm) else none) else if c = 59 then some (7, fd, kin, km, met, mm, tm) else none)
    else if st = 7 then (if 49 ≤ c.toInt ∧ c.toInt ≤ 57 then some (8, fd, kin, km, met, mm, (c.toInt - 48).toNat) else none)
    else if st = 9 then (if c = 59 then some (4, fd, kin, km, met, mm, tm) else none)
    else none
/-- a state of the reading that can be -/
def pRok : pRs → Prop
  | (st, fd, _, km, _, mm, tm) => st ≤ 9 ∧ fd < 6 ∧ km ≤ 5 ∧ mm ≤ 12 ∧ (st ≤ 2 → km ≤ 4) ∧ (st ≤ 5 ∨ st = 9 → mm ≤ 11) ∧ (st = 8 → 1 ≤ tm ∧ tm ≤ 9)

/-- an answer that is a truth -/
def zQb (R : Bool → zSt → Prop) : Option Value → zSt → Prop := fun r σ' => ∃ b : Bool, r = some (.int (zb b)) ∧ R b σ'

set_option maxRecDepth 100000 in
set_option maxHeartbeats 4000000 in
theorem ct_X3_goTo (d : Nat) {σ : zSt} (hL : zLay σ) (x : Int32) : zEv (d + 0) MX3_goTo [.ref 3, .int x] σ (some (.int 1)) (zsI σ 3 3 x) := by
  refine zCt.of (L := [some (.ref 3), some (.int x)]) (by decide) (Nat.le_of_ble_eq_true rfl) rfl (fun X hC hB => ?_)
  have hC : zC X RX3 cX3_goTo 2 (d + 0) 0 0 := hC
  have hB : zB X (some .boolean) 0 0 "goTo" σ _ := hB
  show zV X 2 0 [some (.ref 3), some (.int x)] [] 0 0 σ
  refine v_aload_n (q := 1) hC dX3_goTo_0 rfl rfl rfl ?_
  refine v_iload_n (q := 2) hC dX3_goTo_1 rfl rfl rfl ?_
  refine v_putI (q := 5) hC dX3_goTo_2 rfl fX3_28 (hL.1 3 (by decide)) ?_
  refine v_iconst (q := 6) (v := 1) hC dX3_goTo_5 rfl (by decide) ?_
  refine v_zreturn hC hB dX3_goTo_6 ⟨Nat.le_refl _, Nat.le_refl _⟩ (by first | exact Or.inl rfl | exact Or.inr rfl | exact zb_01 _) ?_
  exact ⟨rfl, rfl⟩

set_option maxRecDepth 100000 in
set_option maxHeartbeats 4000000 in
theorem ct_X3_isOfPeople (d : Nat) {σ : zSt} (c : Int32) : zEv (d + 0) MX3_isOfPeople [.int c] σ (some (.int (zb (pDg c).isSome))) σ := by
  refine zCt.of (L := [some (.int c)]) (by decide) (Nat.le_of_ble_eq_true rfl) rfl (fun X hC hB => ?_)
  have hC : zC X RX3 cX3_isOfPeople 1 (d + 0) 0 0 := hC
  have hB : zB X (some .boolean) 0 0 "isOfPeople" σ _ := hB
  show zV X 1 0 [some (.int c)] [] 0 0 σ
  refine v_iload_n (q := 1) hC dX3_isOfPeople_0 rfl rfl rfl ?_
  refine v_bipush (q := 3) (v := 48) hC dX3_isOfPeople_1 rfl (by decide) ?_
  refine v_icmp_lt (q := 6) (tgt := 16) hC dX3_isOfPeople_3 rfl (by decide) (fun h3 => ?_) (fun h3 => ?_)
  · refine v_iconst (q := 17) (v := 0) hC dX3_isOfPeople_16 rfl (by decide) ?_
    refine v_zreturn hC hB dX3_isOfPeople_17 ⟨Nat.le_refl _, Nat.le_refl _⟩ (by first | exact Or.inl rfl | exact Or.inr rfl | exact zb_01 _) ?_
    rw [pDg_iff]
    have e48 : (48 : Int32).toInt = 48 := rfl
    have e54 : (54 : Int32).toInt = 54 := rfl
    try rw [Int32.lt_iff_toInt_lt, e48] at h3
    try rw [Int32.le_iff_toInt_le, e54] at h9
    first | exact ⟨zbt (decide_eq_true (by omega)), rfl⟩ | exact ⟨zbf (decide_eq_false (by omega)), rfl⟩
  · refine v_iload_n (q := 7) hC dX3_isOfPeople_6 rfl rfl rfl ?_
    refine v_bipush (q := 9) (v := 54) hC dX3_isOfPeople_7 rfl (by decide) ?_
    refine v_icmp_ge (q := 12) (tgt := 16) hC dX3_isOfPeople_9 rfl (by decide) (fun h9 => ?_) (fun h9 => ?_)
    · refine v_iconst (q := 17) (v := 0) hC dX3_isOfPeople_16 rfl (by decide) ?_
      refine v_zreturn hC hB dX3_isOfPeople_17 ⟨Nat.le_refl _, Nat.le_refl _⟩ (by first | exact Or.inl rfl | exact Or.inr rfl | exact zb_01 _) ?_
      rw [pDg_iff]
      have e48 : (48 : Int32).toInt = 48 := rfl
      have e54 : (54 : Int32).toInt = 54 := rfl
      try rw [Int32.lt_iff_toInt_lt, e48] at h3
      try rw [Int32.le_iff_toInt_le, e54] at h9
      first | exact ⟨zbt (decide_eq_true (by omega)), rfl⟩ | exact ⟨zbf (decide_eq_false (by omega)), rfl⟩
    · refine v_iconst (q := 13) (v := 1) hC dX3_isOfPeople_12 rfl (by decide) ?_
      refine v_goto (q := 17) hC dX3_isOfPeople_13 (by decide) ?_
      refine v_zreturn hC hB dX3_isOfPeople_17 ⟨Nat.le_refl _, Nat.le_refl _⟩ (by first | exact Or.inl rfl | exact Or.inr rfl | exact zb_01 _) ?_
      rw [pDg_iff]
      have e48 : (48 : Int32).toInt = 48 := rfl
      have e54 : (54 : Int32).toInt = 54 := rfl
      try rw [Int32.lt_iff_toInt_lt, e48] at h3
      try rw [Int32.le_iff_toInt_le, e54] at h9
      first | exact ⟨zbt (decide_eq_true (by omega)), rfl⟩ | exact ⟨zbf (decide_eq_false (by omega)), rfl⟩

set_option maxRecDepth 100000 in
set_option maxHeartbeats 4000000 in
theorem ct_X3_pairsOfPart_K (d : Nat) {σ : zSt} (hL : zLay σ) (hk : zI σ 3 5 = 1) : zEv (d + 0) MX3_pairsOfPart [.ref 3] σ (some (.ref 4)) σ := by
  refine zCt.of (L := [some (.ref 3)]) (by decide) (Nat.le_of_ble_eq_true rfl) rfl (fun X hC hB => ?_)
  have hC : zC X RX3 cX3_pairsOfPart 1 (d + 0) 0 0 := hC
  have hB : zB X (some (.object "FavoursGoRound$Pairs")) 0 0 "pairsOfPart" σ _ := hB
  show zV X 1 0 [some (.ref 3)] [] 0 0 σ
  refine v_aload_n (q := 1) hC dX3_pairsOfPart_0 rfl rfl rfl ?_
  refine v_getI (q := 4) hC dX3_pairsOfPart_1 rfl fX3_31 (hL.1 3 (by decide)) ?_
  rw [hk]
  refine v_if_eq (q := 7) (tgt := 14) hC dX3_pairsOfPart_4 rfl (by decide) (fun h4 => ?_) (fun h4 => ?_)
  · exact absurd h4 (by decide)
  · refine v_aload_n (q := 8) hC dX3_pairsOfPart_7 rfl rfl rfl ?_
    refine v_getR (q := 11) (r := 4) hC dX3_pairsOfPart_8 rfl fX3_12 (hL.1 3 (by decide)) (hL.2 3 0 4 rfl) ?_
    refine v_goto (q := 18) hC dX3_pairsOfPart_11 (by decide) ?_
    refine v_areturn hC hB dX3_pairsOfPart_18 ⟨Nat.le_refl _, Nat.le_refl _⟩ ?_
    exact ⟨rfl, rfl⟩

set_option maxRecDepth 100000 in
set_option maxHeartbeats 4000000 in
theorem ct_X3_pairsOfPart_M (d : Nat) {σ : zSt} (hL : zLay σ) (hk : zI σ 3 5 = 0) : zEv (d + 0) MX3_pairsOfPart [.ref 3] σ (some (.ref 6)) σ := by
  refine zCt.of (L := [some (.ref 3)]) (by decide) (Nat.le_of_ble_eq_true rfl) rfl (fun X hC hB => ?_)
  have hC : zC X RX3 cX3_pairsOfPart 1 (d + 0) 0 0 := hC
  have hB : zB X (some (.object "FavoursGoRound$Pairs")) 0 0 "pairsOfPart" σ _ := hB
  show zV X 1 0 [some (.ref 3)] [] 0 0 σ
  refine v_aload_n (q := 1) hC dX3_pairsOfPart_0 rfl rfl rfl ?_
  refine v_getI (q := 4) hC dX3_pairsOfPart_1 rfl fX3_31 (hL.1 3 (by decide)) ?_
  rw [hk]
  refine v_if_eq (q := 7) (tgt := 14) hC dX3_pairsOfPart_4 rfl (by decide) (fun h4 => ?_) (fun h4 => ?_)
  · refine v_aload_n (q := 15) hC dX3_pairsOfPart_14 rfl rfl rfl ?_
    refine v_getR (q := 18) (r := 6) hC dX3_pairsOfPart_15 rfl fX3_18 (hL.1 3 (by decide)) (hL.2 3 1 6 rfl) ?_
    refine v_areturn hC hB dX3_pairsOfPart_18 ⟨Nat.le_refl _, Nat.le_refl _⟩ ?_
    exact ⟨rfl, rfl⟩
  · exact absurd h4 (by decide)

set_option maxRecDepth 100000 in
set_option maxHeartbeats 4000000 in
theorem ct_X3_takesFirstDigit (d : Nat) {σ : zSt} (hL : zLay σ) (c : Int32) : zCt (d + 1) MX3_takesFirstDigit [.ref 3, .int c] σ (zQb fun r σ' => match pDg c with | none => r = false ∧ σ' = σ | some k => r = true ∧ σ' = zsI (zsI σ 3 4 (nI k)) 3 3 2) := by
  refine zCt.of (L := [some (.ref 3), some (.int c)]) (by decide) (Nat.le_of_ble_eq_true rfl) rfl (fun X hC hB => ?_)
  have hC : zC X RX3 cX3_takesFirstDigit 2 (d + 1) 0 0 := hC
  have hB : zB X (some .boolean) 0 0 "takesFirstDigit" σ _ := hB
  show zV X 2 0 [some (.ref 3), some (.int c)] [] 0 0 σ
  refine v_iload_n (q := 1) hC dX3_takesFirstDigit_0 rfl rfl rfl ?_
  refine v_callS1 (q := 4) (As := [_]) hC dX3_takesFirstDigit_1 rfl lX3_67 mX3_isOfPeople sX3_isOfPeople (ct_X3_isOfPeople d _) rfl rfl (by omega) rfl (Nat.le_of_ble_eq_true rfl) ?_
  refine v_if_ne (q := 7) (tgt := 9) hC dX3_takesFirstDigit_4 rfl (by decide) (fun h4 => ?_) (fun h4 => ?_)
  · refine v_aload_n (q := 10) hC dX3_takesFirstDigit_9 rfl rfl rfl ?_
    refine v_iload_n (q := 11) hC dX3_takesFirstDigit_10 rfl rfl rfl ?_
    refine v_bipush (q := 13) (v := 48) hC dX3_takesFirstDigit_11 rfl (by decide) ?_
    refine v_isub (q := 14) hC dX3_takesFirstDigit_13 rfl ?_
    refine v_putI (q := 17) hC dX3_takesFirstDigit_14 rfl fX3_70 (hL.1 3 (by decide)) ?_
    refine v_aload_n (q := 18) hC dX3_takesFirstDigit_17 rfl rfl rfl ?_
    refine v_iconst (q := 19) (v := 2) hC dX3_takesFirstDigit_18 rfl (by decide) ?_
    refine v_callV1 (q := 22) (As := [_]) hC dX3_takesFirstDigit_19 rfl lX3_48 mX3_goTo iX3_goTo eX3_goTo rfl (hL.1 3 (by decide)) (ct_X3_goTo d (hL.same (zSame.sI (cs := [3]) (rs := []) (by simp)) rfl) _) rfl rfl (by omega) rfl (Nat.le_of_ble_eq_true rfl) ?_
    refine v_zreturn hC hB dX3_takesFirstDigit_22 ⟨Nat.le_refl _, Nat.le_refl _⟩ (by first | exact Or.inl rfl | exact Or.inr rfl | exact zb_01 _) ?_
    refine ⟨true, rfl, ?_⟩
    cases e : pDg c with
    | none => rw [e] at h4; exact absurd rfl h4
    | some k => rw [(pDg_some e).2.2]; exact ⟨rfl, rfl⟩
  · refine v_iconst (q := 8) (v := 0) hC dX3_takesFirstDigit_7 rfl (by decide) ?_
    refine v_zreturn hC hB dX3_takesFirstDigit_8 ⟨Nat.le_refl _, Nat.le_refl _⟩ (by first | exact Or.inl rfl | exact Or.inr rfl | exact zb_01 _) ?_
    refine ⟨false, rfl, ?_⟩
    cases e : pDg c with
    | none => exact ⟨rfl, rfl⟩
    | some k => rw [e] at h4; exact absurd h4 (by simp [zb])

set_option maxRecDepth 100000 in
set_option maxHeartbeats 4000000 in
theorem ct_X3_takesSecondDigit_K (d : Nat) {σ : zSt} (hL : zLay σ) (hk : zI σ 3 5 = 1) {fd km : Nat} {K : Nat → Nat → Bool} (hfd : fd < 6) (h4 : zI σ 3 4 = nI fd) (hK : ∀ a b, a < 6 → b < 6 → zI σ 5 (6 * a + b) = zb (K a b)) (hkm : zI σ 4 1 = nI km) (c : Int32) : zCt (d + 2) MX3_takesSecondDigit [.ref 3, .int c] σ (zQb fun r σ' => match pDg c with | none => r = false ∧ σ' = σ | some k => if k = fd ∨ K fd k = true then r = false ∧ σ' = σ else r = true ∧ zSame [3, 4, 5] [] σ σ' ∧ zI σ' 3 3 = 3 ∧ (∀ i, i ≠ 3 → zI σ' 3 i = zI σ 3 i) ∧ (∀ a b, a < 6 → b < 6 → zI σ' 5 (6 * a + b) = zb (pAd K fd k a b)) ∧ zI σ' 4 1 = nI (km + 1)) := by
  refine zCt.of (L := [some (.ref 3), some (.int c), none, none]) (by decide) (Nat.le_of_ble_eq_true rfl) rfl (fun X hC hB => ?_)
  have hC : zC X RX3 cX3_takesSecondDigit 4 (d + 2) 0 0 := hC
  have hB : zB X (some .boolean) 0 0 "takesSecondDigit" σ _ := hB
  show zV X 4 0 [some (.ref 3), some (.int c), none, none] [] 0 0 σ
  refine v_iload_n (q := 1) hC dX3_takesSecondDigit_0 rfl rfl rfl ?_
  refine v_callS1 (q := 4) (As := [_]) hC dX3_takesSecondDigit_1 rfl lX3_67 mX3_isOfPeople sX3_isOfPeople (ct_X3_isOfPeople (d + 1) _) rfl rfl (by omega) rfl (Nat.le_of_ble_eq_true rfl) ?_
  refine v_if_ne (q := 7) (tgt := 9) hC dX3_takesSecondDigit_4 rfl (by decide) (fun h4_ => ?_) (fun h4_ => ?_)
  · obtain ⟨k, e⟩ : ∃ k, pDg c = some k := Option.ne_none_iff_exists'.mp (by simpa [zb_eq0] using h4_)
    obtain ⟨hk6, ec, ed⟩ := pDg_some e
    have hP : zPr σ 4 := zPr.of hL (by simp)
    refine v_iload_n (q := 10) hC dX3_takesSecondDigit_9 rfl rfl rfl ?_
    refine v_bipush (q := 12) (v := 48) hC dX3_takesSecondDigit_10 rfl (by decide) ?_
    refine v_isub (q := 13) hC dX3_takesSecondDigit_12 rfl ?_
    rw [ed]
    refine v_istore_n (q := 14) (L' := [_, _, _, _]) hC dX3_takesSecondDigit_13 rfl rfl (by decide) rfl rfl ?_
    refine v_aload_n (q := 15) hC dX3_takesSecondDigit_14 rfl rfl rfl ?_
    refine v_callV1 (q := 18) (As := []) hC dX3_takesSecondDigit_15 rfl lX3_73 mX3_pairsOfPart iX3_pairsOfPart eX3_pairsOfPart rfl (hL.1 3 (by decide)) (ct_X3_pairsOfPart_K (d + 1) hL hk) rfl rfl (by omega) rfl (Nat.le_of_ble_eq_true rfl) ?_
    refine v_astore_n (q := 19) (L' := [_, _, _, _]) hC dX3_takesSecondDigit_18 rfl rfl (by decide) rfl rfl ?_
    refine v_iload_n (q := 20) hC dX3_takesSecondDigit_19 rfl rfl rfl ?_
    refine v_aload_n (q := 21) hC dX3_takesSecondDigit_20 rfl rfl rfl ?_
    refine v_getI (q := 24) hC dX3_takesSecondDigit_21 rfl fX3_70 (hL.1 3 (by decide)) ?_
    rw [h4]
    refine v_icmp_eq (q := 27) (tgt := 39) hC dX3_takesSecondDigit_24 rfl (by decide) (fun h24 => ?_) (fun h24 => ?_)
    · refine v_iconst (q := 40) (v := 0) hC dX3_takesSecondDigit_39 rfl (by decide) ?_
      refine v_zreturn hC hB dX3_takesSecondDigit_40 ⟨Nat.le_refl _, Nat.le_refl _⟩ (by first | exact Or.inl rfl | exact Or.inr rfl | exact zb_01 _) ?_
      refine ⟨false, rfl, ?_⟩
      rw [e]
      show (if _ then _ else _)
      rw [if_pos ?_]
      · exact ⟨rfl, rfl⟩
      · have c0 : nI k = nI fd ↔ k = fd := nI_eq (by omega) (by omega)
        first | exact Or.inl (c0.mp h24) | exact Or.inr (by simpa [zb_eq0] using h36)
    · refine v_aload_n (q := 28) hC dX3_takesSecondDigit_27 rfl rfl rfl ?_
      refine v_aload_n (q := 29) hC dX3_takesSecondDigit_28 rfl rfl rfl ?_
      refine v_getI (q := 32) hC dX3_takesSecondDigit_29 rfl fX3_70 (hL.1 3 (by decide)) ?_
      refine v_iload_n (q := 33) hC dX3_takesSecondDigit_32 rfl rfl rfl ?_
      rw [h4]
      refine v_callV1 (q := 36) (As := [_, _]) hC dX3_takesSecondDigit_33 rfl lX3_77 mX6_has iX6_has eX6_has rfl (hL.1 4 (by decide)) (ct_X6_has (d + 1) hP hfd hk6 (by rw [hK fd k hfd hk6]; exact zb_01 _)) rfl rfl (by omega) rfl (Nat.le_of_ble_eq_true rfl) ?_
      rw [hK fd k hfd hk6]
      refine v_if_eq (q := 39) (tgt := 41) hC dX3_takesSecondDigit_36 rfl (by decide) (fun h36 => ?_) (fun h36 => ?_)
      · refine v_aload_n (q := 42) hC dX3_takesSecondDigit_41 rfl rfl rfl ?_
        refine v_aload_n (q := 43) hC dX3_takesSecondDigit_42 rfl rfl rfl ?_
        refine v_getI (q := 46) hC dX3_takesSecondDigit_43 rfl fX3_70 (hL.1 3 (by decide)) ?_
        refine v_iload_n (q := 47) hC dX3_takesSecondDigit_46 rfl rfl rfl ?_
        rw [h4]
        refine v_callV0 (q := 50) (As := [_, _]) hC dX3_takesSecondDigit_47 rfl lX3_81 mX6_add iX6_add eX6_add rfl (hL.1 4 (by decide)) (ct_X6_add d hP hfd hk6) rfl rfl (by omega) rfl (Nat.le_of_ble_eq_true rfl) ?_
        have hS2 : zSame [3, 4, 5] [] σ (zsI (zsI (zsI σ (4 + 1) (6 * fd + k) 1) (4 + 1) (6 * k + fd) 1) 4 1 (zI σ 4 1 + 1)) := ((zSame.sI (by simp)).addI (by simp)).addI (by simp)
        refine v_aload_n (q := 51) hC dX3_takesSecondDigit_50 rfl rfl rfl ?_
        refine v_iconst (q := 52) (v := 3) hC dX3_takesSecondDigit_51 rfl (by decide) ?_
        refine v_callV1 (q := 55) (As := [_]) hC dX3_takesSecondDigit_52 rfl lX3_48 mX3_goTo iX3_goTo eX3_goTo rfl (hL.1 3 (by decide)) (ct_X3_goTo (d + 1) (hL.same hS2 rfl) _) rfl rfl (by omega) rfl (Nat.le_of_ble_eq_true rfl) ?_
        refine v_zreturn hC hB dX3_takesSecondDigit_55 ⟨Nat.le_refl _, Nat.le_refl _⟩ (by first | exact Or.inl rfl | exact Or.inr rfl | exact zb_01 _) ?_
        refine ⟨true, rfl, ?_⟩
        rw [e]
        show (if _ then _ else _)
        have c0 : nI k = nI fd ↔ k = fd := nI_eq (by omega) (by omega)
        have n1 : ¬ k = fd := fun z => h24 (c0.mpr z)
        have n2 : K fd k = false := by simpa [zb_eq0] using h36
        rw [if_neg (by simp [n1, n2])]
        refine ⟨rfl, hS2.addI (by simp), zI_eq, fun i hi => ?_, fun a b ha hb => ?_, ?_⟩
        · rw [zI_ne (by omega), zI_ne (by omega), zI_ne (by omega), zI_ne (by omega)]
        · rw [zI_ne (by omega), zI_ne (by omega), zI_sI, zI_sI, hK a b ha hb]
          unfold pAd
          by_cases e1 : a = k ∧ b = fd
          · obtain ⟨rfl, rfl⟩ := e1; simp [zb]
          · rw [if_neg (by omega)]
            by_cases e2 : a = fd ∧ b = k
            · obtain ⟨rfl, rfl⟩ := e2; simp [zb]
            · rw [if_neg (by omega)]; congr 1; by_cases x1 : a = fd <;> by_cases x2 : b = k <;> by_cases x3 : a = k <;> by_cases x4 : b = fd <;> simp_all
        · rw [zI_ne (by omega), zI_eq, hkm, nI_1]
      · refine v_iconst (q := 40) (v := 0) hC dX3_takesSecondDigit_39 rfl (by decide) ?_
        refine v_zreturn hC hB dX3_takesSecondDigit_40 ⟨Nat.le_refl _, Nat.le_refl _⟩ (by first | exact Or.inl rfl | exact Or.inr rfl | exact zb_01 _) ?_
        refine ⟨false, rfl, ?_⟩
        rw [e]
        show (if _ then _ else _)
        rw [if_pos ?_]
        · exact ⟨rfl, rfl⟩
        · have c0 : nI k = nI fd ↔ k = fd := nI_eq (by omega) (by omega)
          first | exact Or.inl (c0.mp h24) | exact Or.inr (by simpa [zb_eq0] using h36)
  · refine v_iconst (q := 8) (v := 0) hC dX3_takesSecondDigit_7 rfl (by decide) ?_
    refine v_zreturn hC hB dX3_takesSecondDigit_8 ⟨Nat.le_refl _, Nat.le_refl _⟩ (by first | exact Or.inl rfl | exact Or.inr rfl | exact zb_01 _) ?_
    refine ⟨false, rfl, ?_⟩
    cases e : pDg c with
    | none => exact ⟨rfl, rfl⟩
    | some k => rw [e] at h4_; exact absurd h4_ (by simp [zb])

set_option maxRecDepth 100000 in
set_option maxHeartbeats 4000000 in
theorem ct_X3_takesSecondDigit_M (d : Nat) {σ : zSt} (hL : zLay σ) (hk : zI σ 3 5 = 0) {fd km : Nat} {K : Nat → Nat → Bool} (hfd : fd < 6) (h4 : zI σ 3 4 = nI fd) (hK : ∀ a b, a < 6 → b < 6 → zI σ 7 (6 * a + b) = zb (K a b)) (hkm : zI σ 6 1 = nI km) (c : Int32) : zCt (d + 2) MX3_takesSecondDigit [.ref 3, .int c] σ (zQb fun r σ' => match pDg c with | none => r = false ∧ σ' = σ | some k => if k = fd ∨ K fd k = true then r = false ∧ σ' = σ else r = true ∧ zSame [3, 6, 7] [] σ σ' ∧ zI σ' 3 3 = 3 ∧ (∀ i, i ≠ 3 → zI σ' 3 i = zI σ 3 i) ∧ (∀ a b, a < 6 → b < 6 → zI σ' 7 (6 * a + b) = zb (pAd K fd k a b)) ∧ zI σ' 6 1 = nI (km + 1)) := by
  refine zCt.of (L := [some (.ref 3), some (.int c), none, none]) (by decide) (Nat.le_of_ble_eq_true rfl) rfl (fun X hC hB => ?_)
  have hC : zC X RX3 cX3_takesSecondDigit 4 (d + 2) 0 0 := hC
  have hB : zB X (some .boolean) 0 0 "takesSecondDigit" σ _ := hB
  show zV X 4 0 [some (.ref 3), some (.int c), none, none] [] 0 0 σ
  refine v_iload_n (q := 1) hC dX3_takesSecondDigit_0 rfl rfl rfl ?_
  refine v_callS1 (q := 4) (As := [_]) hC dX3_takesSecondDigit_1 rfl lX3_67 mX3_isOfPeople sX3_isOfPeople (ct_X3_isOfPeople (d + 1) _) rfl rfl (by omega) rfl (Nat.le_of_ble_eq_true rfl) ?_
  refine v_if_ne (q := 7) (tgt := 9) hC dX3_takesSecondDigit_4 rfl (by decide) (fun h4_ => ?_) (fun h4_ => ?_)
  · obtain ⟨k, e⟩ : ∃ k, pDg c = some k := Option.ne_none_iff_exists'.mp (by simpa [zb_eq0] using h4_)
    obtain ⟨hk6, ec, ed⟩ := pDg_some e
    have hP : zPr σ 6 := zPr.of hL (by simp)
    refine v_iload_n (q := 10) hC dX3_takesSecondDigit_9 rfl rfl rfl ?_
    refine v_bipush (q := 12) (v := 48) hC dX3_takesSecondDigit_10 rfl (by decide) ?_
    refine v_isub (q := 13) hC dX3_takesSecondDigit_12 rfl ?_
    rw [ed]
    refine v_istore_n (q := 14) (L' := [_, _, _, _]) hC dX3_takesSecondDigit_13 rfl rfl (by decide) rfl rfl ?_
    refine v_aload_n (q := 15) hC dX3_takesSecondDigit_14 rfl rfl rfl ?_
    refine v_callV1 (q := 18) (As := []) hC dX3_takesSecondDigit_15 rfl lX3_73 mX3_pairsOfPart iX3_pairsOfPart eX3_pairsOfPart rfl (hL.1 3 (by decide)) (ct_X3_pairsOfPart_M (d + 1) hL hk) rfl rfl (by omega) rfl (Nat.le_of_ble_eq_true rfl) ?_
    refine v_astore_n (q := 19) (L' := [_, _, _, _]) hC dX3_takesSecondDigit_18 rfl rfl (by decide) rfl rfl ?_
    refine v_iload_n (q := 20) hC dX3_takesSecondDigit_19 rfl rfl rfl ?_
    refine v_aload_n (q := 21) hC dX3_takesSecondDigit_20 rfl rfl rfl ?_
    refine v_getI (q := 24) hC dX3_takesSecondDigit_21 rfl fX3_70 (hL.1 3 (by decide)) ?_
    rw [h4]
    refine v_icmp_eq (q := 27) (tgt := 39) hC dX3_takesSecondDigit_24 rfl (by decide) (fun h24 => ?_) (fun h24 => ?_)
    · refine v_iconst (q := 40) (v := 0) hC dX3_takesSecondDigit_39 rfl (by decide) ?_
      refine v_zreturn hC hB dX3_takesSecondDigit_40 ⟨Nat.le_refl _, Nat.le_refl _⟩ (by first | exact Or.inl rfl | exact Or.inr rfl | exact zb_01 _) ?_
      refine ⟨false, rfl, ?_⟩
      rw [e]
      show (if _ then _ else _)
      rw [if_pos ?_]
      · exact ⟨rfl, rfl⟩
      · have c0 : nI k = nI fd ↔ k = fd := nI_eq (by omega) (by omega)
        first | exact Or.inl (c0.mp h24) | exact Or.inr (by simpa [zb_eq0] using h36)
    · refine v_aload_n (q := 28) hC dX3_takesSecondDigit_27 rfl rfl rfl ?_
      refine v_aload_n (q := 29) hC dX3_takesSecondDigit_28 rfl rfl rfl ?_
      refine v_getI (q := 32) hC dX3_takesSecondDigit_29 rfl fX3_70 (hL.1 3 (by decide)) ?_
      refine v_iload_n (q := 33) hC dX3_takesSecondDigit_32 rfl rfl rfl ?_
      rw [h4]
      refine v_callV1 (q := 36) (As := [_, _]) hC dX3_takesSecondDigit_33 rfl lX3_77 mX6_has iX6_has eX6_has rfl (hL.1 6 (by decide)) (ct_X6_has (d + 1) hP hfd hk6 (by rw [hK fd k hfd hk6]; exact zb_01 _)) rfl rfl (by omega) rfl (Nat.le_of_ble_eq_true rfl) ?_
      rw [hK fd k hfd hk6]
      refine v_if_eq (q := 39) (tgt := 41) hC dX3_takesSecondDigit_36 rfl (by decide) (fun h36 => ?_) (fun h36 => ?_)
      · refine v_aload_n (q := 42) hC dX3_takesSecondDigit_41 rfl rfl rfl ?_
        refine v_aload_n (q := 43) hC dX3_takesSecondDigit_42 rfl rfl rfl ?_
        refine v_getI (q := 46) hC dX3_takesSecondDigit_43 rfl fX3_70 (hL.1 3 (by decide)) ?_
        refine v_iload_n (q := 47) hC dX3_takesSecondDigit_46 rfl rfl rfl ?_
        rw [h4]
        refine v_callV0 (q := 50) (As := [_, _]) hC dX3_takesSecondDigit_47 rfl lX3_81 mX6_add iX6_add eX6_add rfl (hL.1 6 (by decide)) (ct_X6_add d hP hfd hk6) rfl rfl (by omega) rfl (Nat.le_of_ble_eq_true rfl) ?_
        have hS2 : zSame [3, 6, 7] [] σ (zsI (zsI (zsI σ (6 + 1) (6 * fd + k) 1) (6 + 1) (6 * k + fd) 1) 6 1 (zI σ 6 1 + 1)) := ((zSame.sI (by simp)).addI (by simp)).addI (by simp)
        refine v_aload_n (q := 51) hC dX3_takesSecondDigit_50 rfl rfl rfl ?_
        refine v_iconst (q := 52) (v := 3) hC dX3_takesSecondDigit_51 rfl (by decide) ?_
        refine v_callV1 (q := 55) (As := [_]) hC dX3_takesSecondDigit_52 rfl lX3_48 mX3_goTo iX3_goTo eX3_goTo rfl (hL.1 3 (by decide)) (ct_X3_goTo (d + 1) (hL.same hS2 rfl) _) rfl rfl (by omega) rfl (Nat.le_of_ble_eq_true rfl) ?_
        refine v_zreturn hC hB dX3_takesSecondDigit_55 ⟨Nat.le_refl _, Nat.le_refl _⟩ (by first | exact Or.inl rfl | exact Or.inr rfl | exact zb_01 _) ?_
        refine ⟨true, rfl, ?_⟩
        rw [e]
        show (if _ then _ else _)
        have c0 : nI k = nI fd ↔ k = fd := nI_eq (by omega) (by omega)
        have n1 : ¬ k = fd := fun z => h24 (c0.mpr z)
        have n2 : K fd k = false := by simpa [zb_eq0] using h36
        rw [if_neg (by simp [n1, n2])]
        refine ⟨rfl, hS2.addI (by simp), zI_eq, fun i hi => ?_, fun a b ha hb => ?_, ?_⟩
        · rw [zI_ne (by omega), zI_ne (by omega), zI_ne (by omega), zI_ne (by omega)]
        · rw [zI_ne (by omega), zI_ne (by omega), zI_sI, zI_sI, hK a b ha hb]
          unfold pAd
          by_cases e1 : a = k ∧ b = fd
          · obtain ⟨rfl, rfl⟩ := e1; simp [zb]
          · rw [if_neg (by omega)]
            by_cases e2 : a = fd ∧ b = k
            · obtain ⟨rfl, rfl⟩ := e2; simp [zb]
            · rw [if_neg (by omega)]; congr 1; by_cases x1 : a = fd <;> by_cases x2 : b = k <;> by_cases x3 : a = k <;> by_cases x4 : b = fd <;> simp_all
        · rw [zI_ne (by omega), zI_eq, hkm, nI_1]
      · refine v_iconst (q := 40) (v := 0) hC dX3_takesSecondDigit_39 rfl (by decide) ?_
        refine v_zreturn hC hB dX3_takesSecondDigit_40 ⟨Nat.le_refl _, Nat.le_refl _⟩ (by first | exact Or.inl rfl | exact Or.inr rfl | exact zb_01 _) ?_
        refine ⟨false, rfl, ?_⟩
        rw [e]
        show (if _ then _ else _)
        rw [if_pos ?_]
        · exact ⟨rfl, rfl⟩
        · have c0 : nI k = nI fd ↔ k = fd := nI_eq (by omega) (by omega)
          first | exact Or.inl (c0.mp h24) | exact Or.inr (by simpa [zb_eq0] using h36)
  · refine v_iconst (q := 8) (v := 0) hC dX3_takesSecondDigit_7 rfl (by decide) ?_
    refine v_zreturn hC hB dX3_takesSecondDigit_8 ⟨Nat.le_refl _, Nat.le_refl _⟩ (by first | exact Or.inl rfl | exact Or.inr rfl | exact zb_01 _) ?_
    refine ⟨false, rfl, ?_⟩
    cases e : pDg c with
    | none => exact ⟨rfl, rfl⟩
    | some k => rw [e] at h4_; exact absurd h4_ (by simp [zb])

set_option maxRecDepth 100000 in
set_option maxHeartbeats 4000000 in
theorem ct_X3_takesComma_K (d : Nat) {σ : zSt} (hL : zLay σ) (hk : zI σ 3 5 = 1) {km : Nat} (hkm : zI σ 4 1 = nI km) (hk2 : km ≤ 12) : zCt (d + 1) MX3_takesComma [.ref 3] σ (zQb fun r σ' => if km < 5 then r = true ∧ σ' = zsI σ 3 3 1 else r = false ∧ σ' = σ) := by
  refine zCt.of (L := [some (.ref 3), none]) (by decide) (Nat.le_of_ble_eq_true rfl) rfl (fun X hC hB => ?_)
  have hC : zC X RX3 cX3_takesComma 2 (d + 1) 0 0 := hC
  have hB : zB X (some .boolean) 0 0 "takesComma" σ _ := hB
  show zV X 2 0 [some (.ref 3), none] [] 0 0 σ
  refine v_aload_n (q := 1) hC dX3_takesComma_0 rfl rfl rfl ?_
  refine v_getI (q := 4) hC dX3_takesComma_1 rfl fX3_31 (hL.1 3 (by decide)) ?_
  rw [hk]
  refine v_if_eq (q := 7) (tgt := 11) hC dX3_takesComma_4 rfl (by decide) (fun h4 => ?_) (fun h4 => ?_)
  · exact absurd h4 (by decide)
  · refine v_iconst (q := 8) (v := 5) hC dX3_takesComma_7 rfl (by decide) ?_
    refine v_goto (q := 13) hC dX3_takesComma_8 (by decide) ?_
    refine v_istore_n (q := 14) (L' := [_, _]) hC dX3_takesComma_13 rfl rfl (by decide) rfl rfl ?_
    refine v_aload_n (q := 15) hC dX3_takesComma_14 rfl rfl rfl ?_
    refine v_callV1 (q := 18) (As := []) hC dX3_takesComma_15 rfl lX3_73 mX3_pairsOfPart iX3_pairsOfPart eX3_pairsOfPart rfl (hL.1 3 (by decide)) (ct_X3_pairsOfPart_K d hL hk) rfl rfl (by omega) rfl (Nat.le_of_ble_eq_true rfl) ?_
    refine v_getI (q := 21) hC dX3_takesComma_18 rfl fX3_85 (hL.1 4 (by decide)) ?_
    rw [hkm]
    refine v_iload_n (q := 22) hC dX3_takesComma_21 rfl rfl rfl ?_
    refine v_icmp_ge (q := 25) (tgt := 37) hC dX3_takesComma_22 rfl (by decide) (fun h22 => ?_) (fun h22 => ?_)
    · refine v_iconst (q := 38) (v := 0) hC dX3_takesComma_37 rfl (by decide) ?_
      refine v_zreturn hC hB dX3_takesComma_38 ⟨Nat.le_refl _, Nat.le_refl _⟩ (by first | exact Or.inl rfl | exact Or.inr rfl | exact zb_01 _) ?_
      have c0 : nI 5 ≤ nI km ↔ 5 ≤ km := nI_leI (by omega) (by omega)
      first
        | exact ⟨true, rfl, by dsimp only; rw [if_pos (Nat.not_le.mp (fun z => h22 (c0.mpr z)))]; exact ⟨rfl, rfl⟩⟩
        | exact ⟨false, rfl, by dsimp only; rw [if_neg (Nat.not_lt.mpr (c0.mp h22))]; exact ⟨rfl, rfl⟩⟩
    · refine v_aload_n (q := 26) hC dX3_takesComma_25 rfl rfl rfl ?_
      refine v_iconst (q := 27) (v := 1) hC dX3_takesComma_26 rfl (by decide) ?_
      refine v_callV1 (q := 30) (As := [_]) hC dX3_takesComma_27 rfl lX3_48 mX3_goTo iX3_goTo eX3_goTo rfl (hL.1 3 (by decide)) (ct_X3_goTo d hL _) rfl rfl (by omega) rfl (Nat.le_of_ble_eq_true rfl) ?_
      refine v_if_eq (q := 33) (tgt := 37) hC dX3_takesComma_30 rfl (by decide) (fun h30 => ?_) (fun h30 => ?_)
      · exact absurd h30 (by decide)
      · refine v_iconst (q := 34) (v := 1) hC dX3_takesComma_33 rfl (by decide) ?_
        refine v_goto (q := 38) hC dX3_takesComma_34 (by decide) ?_
        refine v_zreturn hC hB dX3_takesComma_38 ⟨Nat.le_refl _, Nat.le_refl _⟩ (by first | exact Or.inl rfl | exact Or.inr rfl | exact zb_01 _) ?_
        have c0 : nI 5 ≤ nI km ↔ 5 ≤ km := nI_leI (by omega) (by omega)
        first
          | exact ⟨true, rfl, by dsimp only; rw [if_pos (Nat.not_le.mp (fun z => h22 (c0.mpr z)))]; exact ⟨rfl, rfl⟩⟩
          | exact ⟨false, rfl, by dsimp only; rw [if_neg (Nat.not_lt.mpr (c0.mp h22))]; exact ⟨rfl, rfl⟩⟩

set_option maxRecDepth 100000 in
set_option maxHeartbeats 4000000 in
theorem ct_X3_takesEndOfPart_K (d : Nat) {σ : zSt} (hL : zLay σ) (hk : zI σ 3 5 = 1) (c : Int32) : zCt (d + 1) MX3_takesEndOfPart [.ref 3, .int c] σ (zQb fun r σ' => if c = 59 then r = true ∧ σ' = zsI (zsI σ 3 5 0) 3 3 1 else r = false ∧ σ' = σ) := by
  refine zCt.of (L := [some (.ref 3), some (.int c), none]) (by decide) (Nat.le_of_ble_eq_true rfl) rfl (fun X hC hB => ?_)
  have hC : zC X RX3 cX3_takesEndOfPart 3 (d + 1) 0 0 := hC
  have hB : zB X (some .boolean) 0 0 "takesEndOfPart" σ _ := hB
  show zV X 3 0 [some (.ref 3), some (.int c), none] [] 0 0 σ
  refine v_iload_n (q := 1) hC dX3_takesEndOfPart_0 rfl rfl rfl ?_
  refine v_bipush (q := 3) (v := 59) hC dX3_takesEndOfPart_1 rfl (by decide) ?_
  refine v_icmp_eq (q := 6) (tgt := 8) hC dX3_takesEndOfPart_3 rfl (by decide) (fun h3 => ?_) (fun h3 => ?_)
  · refine v_aload_n (q := 9) hC dX3_takesEndOfPart_8 rfl rfl rfl ?_
    refine v_getI (q := 12) hC dX3_takesEndOfPart_9 rfl fX3_31 (hL.1 3 (by decide)) ?_
    rw [hk]
    refine v_istore_n (q := 13) (L' := [_, _, _]) hC dX3_takesEndOfPart_12 rfl rfl (by decide) rfl rfl ?_
    refine v_aload_n (q := 14) hC dX3_takesEndOfPart_13 rfl rfl rfl ?_
    refine v_iconst (q := 15) (v := 0) hC dX3_takesEndOfPart_14 rfl (by decide) ?_
    refine v_putZ (q := 18) hC dX3_takesEndOfPart_15 rfl fX3_31 (hL.1 3 (by decide)) (by decide) ?_
    refine v_aload_n (q := 19) hC dX3_takesEndOfPart_18 rfl rfl rfl ?_
    refine v_iload_n (q := 20) hC dX3_takesEndOfPart_19 rfl rfl rfl ?_
    refine v_if_eq (q := 23) (tgt := 27) hC dX3_takesEndOfPart_20 rfl (by decide) (fun h20 => ?_) (fun h20 => ?_)
    · exact absurd h20 (by decide)
    · refine v_iconst (q := 24) (v := 1) hC dX3_takesEndOfPart_23 rfl (by decide) ?_
      refine v_goto (q := 28) hC dX3_takesEndOfPart_24 (by decide) ?_
      refine v_callV1 (q := 31) (As := [_]) hC dX3_takesEndOfPart_28 rfl lX3_48 mX3_goTo iX3_goTo eX3_goTo rfl (hL.1 3 (by decide)) (ct_X3_goTo d (hL.same (zSame.sI (cs := [3]) (rs := []) (by simp)) rfl) _) rfl rfl (by omega) rfl (Nat.le_of_ble_eq_true rfl) ?_
      refine v_zreturn hC hB dX3_takesEndOfPart_31 ⟨Nat.le_refl _, Nat.le_refl _⟩ (by first | exact Or.inl rfl | exact Or.inr rfl | exact zb_01 _) ?_
      first
        | exact ⟨true, rfl, by dsimp only; rw [if_pos h3]; exact ⟨rfl, rfl⟩⟩
        | exact ⟨false, rfl, by dsimp only; rw [if_neg h3]; exact ⟨rfl, rfl⟩⟩
  · refine v_iconst (q := 7) (v := 0) hC dX3_takesEndOfPart_6 rfl (by decide) ?_
    refine v_zreturn hC hB dX3_takesEndOfPart_7 ⟨Nat.le_refl _, Nat.le_refl _⟩ (by first | exact Or.inl rfl | exact Or.inr rfl | exact zb_01 _) ?_
    first
      | exact ⟨true, rfl, by dsimp only; rw [if_pos h3]; exact ⟨rfl, rfl⟩⟩
      | exact ⟨false, rfl, by dsimp only; rw [if_neg h3]; exact ⟨rfl, rfl⟩⟩

set_option maxRecDepth 100000 in
set_option maxHeartbeats 4000000 in
theorem ct_X3_takesComma_M (d : Nat) {σ : zSt} (hL : zLay σ) (hk : zI σ 3 5 = 0) {km : Nat} (hkm : zI σ 6 1 = nI km) (hk2 : km ≤ 12) : zCt (d + 1) MX3_takesComma [.ref 3] σ (zQb fun r σ' => if km < 12 then r = true ∧ σ' = zsI σ 3 3 1 else r = false ∧ σ' = σ) := by
  refine zCt.of (L := [some (.ref 3), none]) (by decide) (Nat.le_of_ble_eq_true rfl) rfl (fun X hC hB => ?_)
  have hC : zC X RX3 cX3_takesComma 2 (d + 1) 0 0 := hC
  have hB : zB X (some .boolean) 0 0 "takesComma" σ _ := hB
  show zV X 2 0 [some (.ref 3), none] [] 0 0 σ
  refine v_aload_n (q := 1) hC dX3_takesComma_0 rfl rfl rfl ?_
  refine v_getI (q := 4) hC dX3_takesComma_1 rfl fX3_31 (hL.1 3 (by decide)) ?_
  rw [hk]
  refine v_if_eq (q := 7) (tgt := 11) hC dX3_takesComma_4 rfl (by decide) (fun h4 => ?_) (fun h4 => ?_)
  · refine v_bipush (q := 13) (v := 12) hC dX3_takesComma_11 rfl (by decide) ?_
    refine v_istore_n (q := 14) (L' := [_, _]) hC dX3_takesComma_13 rfl rfl (by decide) rfl rfl ?_
    refine v_aload_n (q := 15) hC dX3_takesComma_14 rfl rfl rfl ?_
    refine v_callV1 (q := 18) (As := []) hC dX3_takesComma_15 rfl lX3_73 mX3_pairsOfPart iX3_pairsOfPart eX3_pairsOfPart rfl (hL.1 3 (by decide)) (ct_X3_pairsOfPart_M d hL hk) rfl rfl (by omega) rfl (Nat.le_of_ble_eq_true rfl) ?_
    refine v_getI (q := 21) hC dX3_takesComma_18 rfl fX3_85 (hL.1 6 (by decide)) ?_
    rw [hkm]
    refine v_iload_n (q := 22) hC dX3_takesComma_21 rfl rfl rfl ?_
    refine v_icmp_ge (q := 25) (tgt := 37) hC dX3_takesComma_22 rfl (by decide) (fun h22 => ?_) (fun h22 => ?_)
    · refine v_iconst (q := 38) (v := 0) hC dX3_takesComma_37 rfl (by decide) ?_
      refine v_zreturn hC hB dX3_takesComma_38 ⟨Nat.le_refl _, Nat.le_refl _⟩ (by first | exact Or.inl rfl | exact Or.inr rfl | exact zb_01 _) ?_
      have c0 : nI 12 ≤ nI km ↔ 12 ≤ km := nI_leI (by omega) (by omega)
      first
        | exact ⟨true, rfl, by dsimp only; rw [if_pos (Nat.not_le.mp (fun z => h22 (c0.mpr z)))]; exact ⟨rfl, rfl⟩⟩
        | exact ⟨false, rfl, by dsimp only; rw [if_neg (Nat.not_lt.mpr (c0.mp h22))]; exact ⟨rfl, rfl⟩⟩
    · refine v_aload_n (q := 26) hC dX3_takesComma_25 rfl rfl rfl ?_
      refine v_iconst (q := 27) (v := 1) hC dX3_takesComma_26 rfl (by decide) ?_
      refine v_callV1 (q := 30) (As := [_]) hC dX3_takesComma_27 rfl lX3_48 mX3_goTo iX3_goTo eX3_goTo rfl (hL.1 3 (by decide)) (ct_X3_goTo d hL _) rfl rfl (by omega) rfl (Nat.le_of_ble_eq_true rfl) ?_
      refine v_if_eq (q := 33) (tgt := 37) hC dX3_takesComma_30 rfl (by decide) (fun h30 => ?_) (fun h30 => ?_)
      · exact absurd h30 (by decide)
      · refine v_iconst (q := 34) (v := 1) hC dX3_takesComma_33 rfl (by decide) ?_
        refine v_goto (q := 38) hC dX3_takesComma_34 (by decide) ?_
        refine v_zreturn hC hB dX3_takesComma_38 ⟨Nat.le_refl _, Nat.le_refl _⟩ (by first | exact Or.inl rfl | exact Or.inr rfl | exact zb_01 _) ?_
        have c0 : nI 12 ≤ nI km ↔ 12 ≤ km := nI_leI (by omega) (by omega)
        first
          | exact ⟨true, rfl, by dsimp only; rw [if_pos (Nat.not_le.mp (fun z => h22 (c0.mpr z)))]; exact ⟨rfl, rfl⟩⟩
          | exact ⟨false, rfl, by dsimp only; rw [if_neg (Nat.not_lt.mpr (c0.mp h22))]; exact ⟨rfl, rfl⟩⟩
  · exact absurd h4 (by decide)

set_option maxRecDepth 100000 in
set_option maxHeartbeats 4000000 in
theorem ct_X3_takesEndOfPart_M (d : Nat) {σ : zSt} (hL : zLay σ) (hk : zI σ 3 5 = 0) (c : Int32) : zCt (d + 1) MX3_takesEndOfPart [.ref 3, .int c] σ (zQb fun r σ' => if c = 59 then r = true ∧ σ' = zsI (zsI σ 3 5 0) 3 3 5 else r = false ∧ σ' = σ) := by
  refine zCt.of (L := [some (.ref 3), some (.int c), none]) (by decide) (Nat.le_of_ble_eq_true rfl) rfl (fun X hC hB => ?_)
  have hC : zC X RX3 cX3_takesEndOfPart 3 (d + 1) 0 0 := hC
  have hB : zB X (some .boolean) 0 0 "takesEndOfPart" σ _ := hB
  show zV X 3 0 [some (.ref 3), some (.int c), none] [] 0 0 σ
  refine v_iload_n (q := 1) hC dX3_takesEndOfPart_0 rfl rfl rfl ?_
  refine v_bipush (q := 3) (v := 59) hC dX3_takesEndOfPart_1 rfl (by decide) ?_
  refine v_icmp_eq (q := 6) (tgt := 8) hC dX3_takesEndOfPart_3 rfl (by decide) (fun h3 => ?_) (fun h3 => ?_)
  · refine v_aload_n (q := 9) hC dX3_takesEndOfPart_8 rfl rfl rfl ?_
    refine v_getI (q := 12) hC dX3_takesEndOfPart_9 rfl fX3_31 (hL.1 3 (by decide)) ?_
    rw [hk]
    refine v_istore_n (q := 13) (L' := [_, _, _]) hC dX3_takesEndOfPart_12 rfl rfl (by decide) rfl rfl ?_
    refine v_aload_n (q := 14) hC dX3_takesEndOfPart_13 rfl rfl rfl ?_
    refine v_iconst (q := 15) (v := 0) hC dX3_takesEndOfPart_14 rfl (by decide) ?_
    refine v_putZ (q := 18) hC dX3_takesEndOfPart_15 rfl fX3_31 (hL.1 3 (by decide)) (by decide) ?_
    refine v_aload_n (q := 19) hC dX3_takesEndOfPart_18 rfl rfl rfl ?_
    refine v_iload_n (q := 20) hC dX3_takesEndOfPart_19 rfl rfl rfl ?_
    refine v_if_eq (q := 23) (tgt := 27) hC dX3_takesEndOfPart_20 rfl (by decide) (fun h20 => ?_) (fun h20 => ?_)
    · refine v_iconst (q := 28) (v := 5) hC dX3_takesEndOfPart_27 rfl (by decide) ?_
      refine v_callV1 (q := 31) (As := [_]) hC dX3_takesEndOfPart_28 rfl lX3_48 mX3_goTo iX3_goTo eX3_goTo rfl (hL.1 3 (by decide)) (ct_X3_goTo d (hL.same (zSame.sI (cs := [3]) (rs := []) (by simp)) rfl) _) rfl rfl (by omega) rfl (Nat.le_of_ble_eq_true rfl) ?_
      refine v_zreturn hC hB dX3_takesEndOfPart_31 ⟨Nat.le_refl _, Nat.le_refl _⟩ (by first | exact Or.inl rfl | exact Or.inr rfl | exact zb_01 _) ?_
      first
        | exact ⟨true, rfl, by dsimp only; rw [if_pos h3]; exact ⟨rfl, rfl⟩⟩
        | exact ⟨false, rfl, by dsimp only; rw [if_neg h3]; exact ⟨rfl, rfl⟩⟩
    · exact absurd h20 (by decide)
  · refine v_iconst (q := 7) (v := 0) hC dX3_takesEndOfPart_6 rfl (by decide) ?_
    refine v_zreturn hC hB dX3_takesEndOfPart_7 ⟨Nat.le_refl _, Nat.le_refl _⟩ (by first | exact Or.inl rfl | exact Or.inr rfl | exact zb_01 _) ?_
    first
      | exact ⟨true, rfl, by dsimp only; rw [if_pos h3]; exact ⟨rfl, rfl⟩⟩
      | exact ⟨false, rfl, by dsimp only; rw [if_neg h3]; exact ⟨rfl, rfl⟩⟩

set_option maxRecDepth 100000 in
set_option maxHeartbeats 4000000 in
theorem ct_X3_takesTerm (d : Nat) {σ : zSt} (hL : zLay σ) (c : Int32) : zCt (d + 1) MX3_takesTerm [.ref 3, .int c] σ (zQb fun r σ' => if 49 ≤ c.toInt ∧ c.toInt ≤ 57 then r = true ∧ σ' = zsI (zsI σ 3 2 (c - 48)) 3 3 6 else r = false ∧ σ' = σ) := by
  refine zCt.of (L := [some (.ref 3), some (.int c)]) (by decide) (Nat.le_of_ble_eq_true rfl) rfl (fun X hC hB => ?_)
  have hC : zC X RX3 cX3_takesTerm 2 (d + 1) 0 0 := hC
  have hB : zB X (some .boolean) 0 0 "takesTerm" σ _ := hB
  show zV X 2 0 [some (.ref 3), some (.int c)] [] 0 0 σ
  refine v_iload_n (q := 1) hC dX3_takesTerm_0 rfl rfl rfl ?_
  refine v_bipush (q := 3) (v := 49) hC dX3_takesTerm_1 rfl (by decide) ?_
  refine v_icmp_lt (q := 6) (tgt := 12) hC dX3_takesTerm_3 rfl (by decide) (fun h3 => ?_) (fun h3 => ?_)
  · refine v_iconst (q := 13) (v := 0) hC dX3_takesTerm_12 rfl (by decide) ?_
    refine v_zreturn hC hB dX3_takesTerm_13 ⟨Nat.le_refl _, Nat.le_refl _⟩ (by first | exact Or.inl rfl | exact Or.inr rfl | exact zb_01 _) ?_
    have e49 : (49 : Int32).toInt = 49 := rfl
    have e57 : (57 : Int32).toInt = 57 := rfl
    try rw [Int32.lt_iff_toInt_lt, e49] at h3
    try rw [Int32.le_iff_toInt_le, e57] at h9
    first
      | exact ⟨true, rfl, by dsimp only; rw [if_pos (by omega)]; exact ⟨rfl, rfl⟩⟩
      | exact ⟨false, rfl, by dsimp only; rw [if_neg (by omega)]; exact ⟨rfl, rfl⟩⟩
  · refine v_iload_n (q := 7) hC dX3_takesTerm_6 rfl rfl rfl ?_
    refine v_bipush (q := 9) (v := 57) hC dX3_takesTerm_7 rfl (by decide) ?_
    refine v_icmp_le (q := 12) (tgt := 14) hC dX3_takesTerm_9 rfl (by decide) (fun h9 => ?_) (fun h9 => ?_)
    · refine v_aload_n (q := 15) hC dX3_takesTerm_14 rfl rfl rfl ?_
      refine v_iload_n (q := 16) hC dX3_takesTerm_15 rfl rfl rfl ?_
      refine v_bipush (q := 18) (v := 48) hC dX3_takesTerm_16 rfl (by decide) ?_
      refine v_isub (q := 19) hC dX3_takesTerm_18 rfl ?_
      refine v_putI (q := 22) hC dX3_takesTerm_19 rfl fX3_24 (hL.1 3 (by decide)) ?_
      refine v_aload_n (q := 23) hC dX3_takesTerm_22 rfl rfl rfl ?_
      refine v_bipush (q := 25) (v := 6) hC dX3_takesTerm_23 rfl (by decide) ?_
      refine v_callV1 (q := 28) (As := [_]) hC dX3_takesTerm_25 rfl lX3_48 mX3_goTo iX3_goTo eX3_goTo rfl (hL.1 3 (by decide)) (ct_X3_goTo d (hL.same (zSame.sI (cs := [3]) (rs := []) (by simp)) rfl) _) rfl rfl (by omega) rfl (Nat.le_of_ble_eq_true rfl) ?_
      refine v_zreturn hC hB dX3_takesTerm_28 ⟨Nat.le_refl _, Nat.le_refl _⟩ (by first | exact Or.inl rfl | exact Or.inr rfl | exact zb_01 _) ?_
      have e49 : (49 : Int32).toInt = 49 := rfl
      have e57 : (57 : Int32).toInt = 57 := rfl
      try rw [Int32.lt_iff_toInt_lt, e49] at h3
      try rw [Int32.le_iff_toInt_le, e57] at h9
      first
        | exact ⟨true, rfl, by dsimp only; rw [if_pos (by omega)]; exact ⟨rfl, rfl⟩⟩
        | exact ⟨false, rfl, by dsimp only; rw [if_neg (by omega)]; exact ⟨rfl, rfl⟩⟩
    · refine v_iconst (q := 13) (v := 0) hC dX3_takesTerm_12 rfl (by decide) ?_
      refine v_zreturn hC hB dX3_takesTerm_13 ⟨Nat.le_refl _, Nat.le_refl _⟩ (by first | exact Or.inl rfl | exact Or.inr rfl | exact zb_01 _) ?_
      have e49 : (49 : Int32).toInt = 49 := rfl
      have e57 : (57 : Int32).toInt = 57 := rfl
      try rw [Int32.lt_iff_toInt_lt, e49] at h3
      try rw [Int32.le_iff_toInt_le, e57] at h9
      first
        | exact ⟨true, rfl, by dsimp only; rw [if_pos (by omega)]; exact ⟨rfl, rfl⟩⟩
        | exact ⟨false, rfl, by dsimp only; rw [if_neg (by omega)]; exact ⟨rfl, rfl⟩⟩

