/-! ===== the model: what it holds ===== -/
/-- six bits -/
def zMb (x : Int32) (K : Nat → Bool) : Prop := ∃ m : Nat, m < 64 ∧ x = nI m ∧ ∀ b, b < 6 → m.testBit b = K b
theorem zbt_sh : ∀ m : Fin 64, ∀ b : Fin 6, (nI m.1 >>> (nI b.1 &&& 31)) &&& 1 = zb (m.1.testBit b.1) := by decide +kernel
theorem zbt_or : ∀ m : Fin 64, ∀ b : Fin 6, nI m.1 ||| ((1 : Int32) <<< (nI b.1 &&& 31)) = nI (m.1 ||| 2 ^ b.1) ∧ (m.1 ||| 2 ^ b.1) < 64 := by decide +kernel
theorem zMb.sh {x : Int32} {K : Nat → Bool} (h : zMb x K) {b : Nat} (hb : b < 6) : (x >>> (nI b &&& 31)) &&& 1 = zb (K b) := by
  obtain ⟨m, hm, rfl, h⟩ := h
  rw [← h b hb]
  exact zbt_sh ⟨m, hm⟩ ⟨b, hb⟩
theorem zMb.or {x : Int32} {K : Nat → Bool} (h : zMb x K) {v : Nat} (hv : v < 6) : zMb (x ||| ((1 : Int32) <<< (nI v &&& 31))) (fun b => K b || decide (b = v)) := by
  obtain ⟨m, hm, rfl, h⟩ := h
  obtain ⟨e, l⟩ := zbt_or ⟨m, hm⟩ ⟨v, hv⟩
  refine ⟨m ||| 2 ^ v, l, e, fun b hb => ?_⟩
  rw [Nat.testBit_or, h b hb, Nat.testBit_two_pow]
  congr 1
  exact decide_eq_decide.mpr ⟨fun z => z.symm, fun z => z.symm⟩
theorem zMb.zero : zMb 0 (fun _ => false) := ⟨0, by decide, rfl, fun b _ => Nat.zero_testBit b⟩
theorem zMb.congr {x : Int32} {K K' : Nat → Bool} (h : zMb x K) (e : ∀ b, b < 6 → K' b = K b) : zMb x K' := by
  obtain ⟨m, hm, rfl, h⟩ := h
  exact ⟨m, hm, rfl, fun b hb => by rw [e b hb]; exact h b hb⟩
/-- the model's law and people -/
def zMf (σ : zSt) (n : Nat) (kd : Nat → Nat) (kin met : Nat → Nat → Bool) (t : Nat) : Prop := zI σ 53 16 = nI n ∧ n ≤ 6 ∧ (∀ a, a < n → kd a ≤ 4 ∧ zI σ 59 a = nI (kd a)) ∧ (∀ a, a < 6 → zMb (zI σ 57 a) (kin a) ∧ zMb (zI σ 58 a) (met a)) ∧ zI σ 53 9 = nI t ∧ t ≤ 9
/-- its favours -/
def zMr (σ : zSt) (m : Nat) (F : Nat → Nat → Int32) (w : Nat) : Prop := zI σ 53 22 = nI m ∧ m ≤ 12 ∧ zI σ 53 12 = nI w ∧ ∀ j f, j < 6 → f < m → zI σ 60 (6 * f + j) = F j f
/-- what is supposed besides -/
def zMs (σ : zSt) (mb : Option Nat) (pr : Option (Nat × Nat)) : Prop := zI σ 53 18 = zo mb ∧ match pr with
  | none => zI σ 53 21 = 0
  | some (a, b) => a < 6 ∧ b < 6 ∧ zI σ 53 21 = 1 ∧ zI σ 53 19 = nI a ∧ zI σ 53 20 = nI b
def pBs (pr : Option (Nat × Nat)) (a b : Nat) : Bool := match pr with
  | none => false
  | some (x, y) => decide (a = x ∧ b = y ∨ a = y ∧ b = x)
theorem zMs.bs {σ : zSt} {mb : Option Nat} {pr : Option (Nat × Nat)} (h : zMs σ mb pr) {a b : Nat} (ha : a < 6) (hb : b < 6) : (zI σ 53 21 = 1 ∧ (nI a = zI σ 53 19 ∧ nI b = zI σ 53 20 ∨ nI a = zI σ 53 20 ∧ nI b = zI σ 53 19)) ↔ pBs pr a b = true := by
  cases pr with
  | none => rw [show zI σ 53 21 = 0 from h.2]; simp [pBs]
  | some q =>
    obtain ⟨x, y⟩ := q
    obtain ⟨-, hx, hy, h1, h2, h3⟩ := h
    rw [h1, h2, h3, nI_eq (by omega) (by omega), nI_eq (by omega) (by omega), nI_eq (by omega) (by omega), nI_eq (by omega) (by omega)]
    simp [pBs]
theorem pIs3 {k : Nat} (h : k ≤ 4) : pIs 3 k = decide (2 < k) := by
  have : k = 0 ∨ k = 1 ∨ k = 2 ∨ k = 3 ∨ k = 4 := by omega
  rcases this with rfl | rfl | rfl | rfl | rfl <;> rfl
theorem pIs1 {k : Nat} : pIs 1 k = decide (k = 1) := by unfold pIs; simp [eq_comm]
/-- who may begin FOR whom, when that is supposed -/
def gvS (kd : Nat → Nat) (kin met : Nat → Nat → Bool) (mb : Option Nat) (pr : Option (Nat × Nat)) (a b : Nat) : Bool := !decide (a = b) && !(pIs 1 (kd a) || decide (mb = some a)) && (pKn kd kin met a b || pBs pr a b)
theorem zin (x l h : Int32) : decide (l.toInt64 ≤ x.toInt64 ∧ x.toInt64 ≤ h.toInt64) = decide (¬ (x < l ∨ h < x)) := by
  apply decide_eq_decide.mpr
  rw [Int64.le_iff_toInt_le, Int64.le_iff_toInt_le, Int32.toInt_toInt64, Int32.toInt_toInt64, Int32.toInt_toInt64]
  rw [Int32.lt_iff_toInt_lt, Int32.lt_iff_toInt_lt]
  omega
theorem zinN (x : Int32) {n : Nat} (hn : n ≤ 1000) : decide (¬ (x < 0 ∨ nI n - 1 < x)) = zval n x := by
  unfold zval
  apply decide_eq_decide.mpr
  have e0 : x < 0 ↔ x.toInt < 0 := by rw [Int32.lt_iff_toInt_lt]; rfl
  have e1 : (nI n - 1).toInt = (n : Int) - 1 := by
    have := pk_sub_toInt (a := n) (b := 1) (by omega) (by omega)
    exact this
  rw [e0, Int32.lt_iff_toInt_lt, e1]
  omega

set_option maxRecDepth 100000 in
set_option maxHeartbeats 4000000 in
theorem ct_X12_in (d : Nat) {σ : zSt} (x l h : Int64) : zEv (d + 0) MX12_in [.long x, .long l, .long h] σ (some (.int (zb (decide (l ≤ x ∧ x ≤ h))))) σ := by
  refine zCt.of (L := [some (.long x), none, some (.long l), none, some (.long h), none]) (by decide) (Nat.le_of_ble_eq_true rfl) rfl (fun X hC hB => ?_)
  have hC : zC X RX12 cX12_in 6 (d + 0) 0 0 := hC
  have hB : zB X (some .boolean) 0 0 "in" σ _ := hB
  show zV X 6 0 [some (.long x), none, some (.long l), none, some (.long h), none] [] 0 0 σ
  refine v_lload_n (q := 1) hC dX12_in_0 rfl rfl rfl ?_
  refine v_lload_n (q := 2) hC dX12_in_1 rfl rfl rfl ?_
  refine v_lcmp (q := 3) hC dX12_in_2 rfl ?_
  refine v_if_lt (q := 6) (tgt := 17) hC dX12_in_3 rfl (by decide) (fun h3 => ?_) (fun h3 => ?_)
  · refine v_iconst (q := 18) (v := 0) hC dX12_in_17 rfl (by decide) ?_
    refine v_zreturn hC hB dX12_in_18 ⟨Nat.le_refl _, Nat.le_refl _⟩ (by first | exact Or.inl rfl | exact Or.inr rfl | exact zb_01 _) ?_
    first | (rw [show decide (l ≤ x ∧ x ≤ h) = false from decide_eq_false (fun z => absurd ((lg_cmp_lt _ _).mp h3) (Int64.not_lt.mpr z.1))]; exact ⟨rfl, rfl⟩) | (rw [show decide (l ≤ x ∧ x ≤ h) = false from decide_eq_false (fun z => absurd ((lg_cmp_gt _ _).mp h10) (Int64.not_lt.mpr z.2))]; exact ⟨rfl, rfl⟩) | (rw [show decide (l ≤ x ∧ x ≤ h) = true from decide_eq_true ⟨Int64.not_lt.mp (fun z => h3 ((lg_cmp_lt _ _).mpr z)), Int64.not_lt.mp (fun z => h10 ((lg_cmp_gt _ _).mpr z))⟩]; exact ⟨rfl, rfl⟩)
  · refine v_lload_n (q := 7) hC dX12_in_6 rfl rfl rfl ?_
    refine v_lload (q := 9) hC dX12_in_7 rfl rfl ?_
    refine v_lcmp (q := 10) hC dX12_in_9 rfl ?_
    refine v_if_gt (q := 13) (tgt := 17) hC dX12_in_10 rfl (by decide) (fun h10 => ?_) (fun h10 => ?_)
    · refine v_iconst (q := 18) (v := 0) hC dX12_in_17 rfl (by decide) ?_
      refine v_zreturn hC hB dX12_in_18 ⟨Nat.le_refl _, Nat.le_refl _⟩ (by first | exact Or.inl rfl | exact Or.inr rfl | exact zb_01 _) ?_
      first | (rw [show decide (l ≤ x ∧ x ≤ h) = false from decide_eq_false (fun z => absurd ((lg_cmp_lt _ _).mp h3) (Int64.not_lt.mpr z.1))]; exact ⟨rfl, rfl⟩) | (rw [show decide (l ≤ x ∧ x ≤ h) = false from decide_eq_false (fun z => absurd ((lg_cmp_gt _ _).mp h10) (Int64.not_lt.mpr z.2))]; exact ⟨rfl, rfl⟩) | (rw [show decide (l ≤ x ∧ x ≤ h) = true from decide_eq_true ⟨Int64.not_lt.mp (fun z => h3 ((lg_cmp_lt _ _).mpr z)), Int64.not_lt.mp (fun z => h10 ((lg_cmp_gt _ _).mpr z))⟩]; exact ⟨rfl, rfl⟩)
    · refine v_iconst (q := 14) (v := 1) hC dX12_in_13 rfl (by decide) ?_
      refine v_goto (q := 18) hC dX12_in_14 (by decide) ?_
      refine v_zreturn hC hB dX12_in_18 ⟨Nat.le_refl _, Nat.le_refl _⟩ (by first | exact Or.inl rfl | exact Or.inr rfl | exact zb_01 _) ?_
      first | (rw [show decide (l ≤ x ∧ x ≤ h) = false from decide_eq_false (fun z => absurd ((lg_cmp_lt _ _).mp h3) (Int64.not_lt.mpr z.1))]; exact ⟨rfl, rfl⟩) | (rw [show decide (l ≤ x ∧ x ≤ h) = false from decide_eq_false (fun z => absurd ((lg_cmp_gt _ _).mp h10) (Int64.not_lt.mpr z.2))]; exact ⟨rfl, rfl⟩) | (rw [show decide (l ≤ x ∧ x ≤ h) = true from decide_eq_true ⟨Int64.not_lt.mp (fun z => h3 ((lg_cmp_lt _ _).mpr z)), Int64.not_lt.mp (fun z => h10 ((lg_cmp_gt _ _).mpr z))⟩]; exact ⟨rfl, rfl⟩)

theorem ct_X12_inI (d : Nat) {σ : zSt} (x l h : Int32) : zEv (d + 0) MX12_in [.long x.toInt64, .long l.toInt64, .long h.toInt64] σ (some (.int (zb (decide (¬ (x < l ∨ h < x)))))) σ := by
  rw [← zin]
  exact ct_X12_in d _ _ _

set_option maxRecDepth 100000 in
set_option maxHeartbeats 4000000 in
theorem ct_X12_isPerson (d : Nat) {σ : zSt} (hL : zLay σ) {n : Nat} (hn : zI σ 53 16 = nI n) (hn6 : n ≤ 1000) (p : Int32) : zEv (d + 1) MX12_isPerson [.ref 53, .int p] σ (some (.int (zb (zval n p)))) σ := by
  refine zCt.of (L := [some (.ref 53), some (.int p)]) (by decide) (Nat.le_of_ble_eq_true rfl) rfl (fun X hC hB => ?_)
  have hC : zC X RX12 cX12_isPerson 2 (d + 1) 0 0 := hC
  have hB : zB X (some .boolean) 0 0 "isPerson" σ _ := hB
  show zV X 2 0 [some (.ref 53), some (.int p)] [] 0 0 σ
  refine v_iload_n (q := 1) hC dX12_isPerson_0 rfl rfl rfl ?_
  refine v_i2l (q := 2) hC dX12_isPerson_1 rfl ?_
  refine v_lconst (q := 3) (v := 0) hC dX12_isPerson_2 rfl (by decide) ?_
  refine v_aload_n (q := 4) hC dX12_isPerson_3 rfl rfl rfl ?_
  refine v_getI (q := 7) hC dX12_isPerson_4 rfl fX12_126 (hL.1 53 (by decide)) ?_
  rw [hn]
  refine v_iconst (q := 8) (v := 1) hC dX12_isPerson_7 rfl (by decide) ?_
  refine v_isub (q := 9) hC dX12_isPerson_8 rfl ?_
  refine v_i2l (q := 10) hC dX12_isPerson_9 rfl ?_
  refine v_callS1 (q := 13) (As := [_, _, _]) hC dX12_isPerson_10 rfl lX12_70 mX12_in sX12_in (ct_X12_inI d p 0 (nI n - 1)) rfl rfl (by omega) rfl (Nat.le_of_ble_eq_true rfl) ?_
  refine v_zreturn hC hB dX12_isPerson_13 ⟨Nat.le_refl _, Nat.le_refl _⟩ (by first | exact Or.inl rfl | exact Or.inr rfl | exact zb_01 _) ?_
  rw [zinN p hn6]
  exact ⟨rfl, rfl⟩

set_option maxRecDepth 100000 in
set_option maxHeartbeats 4000000 in
theorem ct_X12_isFavour (d : Nat) {σ : zSt} (hL : zLay σ) {n : Nat} (hn : zI σ 53 22 = nI n) (hn6 : n ≤ 1000) (p : Int32) : zEv (d + 1) MX12_isFavour [.ref 53, .int p] σ (some (.int (zb (zval n p)))) σ := by
  refine zCt.of (L := [some (.ref 53), some (.int p)]) (by decide) (Nat.le_of_ble_eq_true rfl) rfl (fun X hC hB => ?_)
  have hC : zC X RX12 cX12_isFavour 2 (d + 1) 0 0 := hC
  have hB : zB X (some .boolean) 0 0 "isFavour" σ _ := hB
  show zV X 2 0 [some (.ref 53), some (.int p)] [] 0 0 σ
  refine v_iload_n (q := 1) hC dX12_isFavour_0 rfl rfl rfl ?_
  refine v_i2l (q := 2) hC dX12_isFavour_1 rfl ?_
  refine v_lconst (q := 3) (v := 0) hC dX12_isFavour_2 rfl (by decide) ?_
  refine v_aload_n (q := 4) hC dX12_isFavour_3 rfl rfl rfl ?_
  refine v_getI (q := 7) hC dX12_isFavour_4 rfl fX12_129 (hL.1 53 (by decide)) ?_
  rw [hn]
  refine v_iconst (q := 8) (v := 1) hC dX12_isFavour_7 rfl (by decide) ?_
  refine v_isub (q := 9) hC dX12_isFavour_8 rfl ?_
  refine v_i2l (q := 10) hC dX12_isFavour_9 rfl ?_
  refine v_callS1 (q := 13) (As := [_, _, _]) hC dX12_isFavour_10 rfl lX12_70 mX12_in sX12_in (ct_X12_inI d p 0 (nI n - 1)) rfl rfl (by omega) rfl (Nat.le_of_ble_eq_true rfl) ?_
  refine v_zreturn hC hB dX12_isFavour_13 ⟨Nat.le_refl _, Nat.le_refl _⟩ (by first | exact Or.inl rfl | exact Or.inr rfl | exact zb_01 _) ?_
  rw [zinN p hn6]
  exact ⟨rfl, rfl⟩

set_option maxRecDepth 100000 in
set_option maxHeartbeats 4000000 in
theorem ct_X12_lacks (d : Nat) {σ : zSt} (hL : zLay σ) {n : Nat} {kd : Nat → Nat} {kin met : Nat → Nat → Bool} {t : Nat} (hF : zMf σ n kd kin met t) : zEv (d + 0) MX12_lacks [.ref 53] σ (some (.int (zb (decide (t = 0))))) σ := by
  refine zCt.of (L := [some (.ref 53)]) (by decide) (Nat.le_of_ble_eq_true rfl) rfl (fun X hC hB => ?_)
  have hC : zC X RX12 cX12_lacks 1 (d + 0) 0 0 := hC
  have hB : zB X (some .boolean) 0 0 "lacks" σ _ := hB
  show zV X 1 0 [some (.ref 53)] [] 0 0 σ
  refine v_aload_n (q := 1) hC dX12_lacks_0 rfl rfl rfl ?_
  refine v_getI (q := 4) hC dX12_lacks_1 rfl fX12_114 (hL.1 53 (by decide)) ?_
  rw [hF.2.2.2.2.1]
  have c0 : nI t = 0 ↔ t = 0 := nI_eq (a := t) (b := 0) (by have := hF.2.2.2.2.2; omega) (by omega)
  refine v_if_ne (q := 7) (tgt := 11) hC dX12_lacks_4 rfl (by decide) (fun h4 => ?_) (fun h4 => ?_)
  · refine v_iconst (q := 12) (v := 0) hC dX12_lacks_11 rfl (by decide) ?_
    refine v_zreturn hC hB dX12_lacks_12 ⟨Nat.le_refl _, Nat.le_refl _⟩ (by first | exact Or.inl rfl | exact Or.inr rfl | exact zb_01 _) ?_
    first | exact ⟨zbt (by simp_all), rfl⟩ | exact ⟨zbf (by simp_all), rfl⟩
  · refine v_iconst (q := 8) (v := 1) hC dX12_lacks_7 rfl (by decide) ?_
    refine v_goto (q := 12) hC dX12_lacks_8 (by decide) ?_
    refine v_zreturn hC hB dX12_lacks_12 ⟨Nat.le_refl _, Nat.le_refl _⟩ (by first | exact Or.inl rfl | exact Or.inr rfl | exact zb_01 _) ?_
    first | exact ⟨zbt (by simp_all), rfl⟩ | exact ⟨zbf (by simp_all), rfl⟩

set_option maxRecDepth 100000 in
set_option maxHeartbeats 4000000 in
theorem ct_X12_arePair (d : Nat) {σ : zSt} (hL : zLay σ) {n : Nat} {kd : Nat → Nat} {kin met : Nat → Nat → Bool} {t : Nat} (hF : zMf σ n kd kin met t) (a b : Int32) : zEv (d + 2) MX12_arePair [.ref 53, .int a, .int b] σ (some (.int (zb (zval n a && zval n b && !decide (a = b))))) σ := by
  refine zCt.of (L := [some (.ref 53), some (.int a), some (.int b)]) (by decide) (Nat.le_of_ble_eq_true rfl) rfl (fun X hC hB => ?_)
  have hC : zC X RX12 cX12_arePair 3 (d + 2) 0 0 := hC
  have hB : zB X (some .boolean) 0 0 "arePair" σ _ := hB
  show zV X 3 0 [some (.ref 53), some (.int a), some (.int b)] [] 0 0 σ
  have hn6 := hF.2.1
  refine v_aload_n (q := 1) hC dX12_arePair_0 rfl rfl rfl ?_
  refine v_iload_n (q := 2) hC dX12_arePair_1 rfl rfl rfl ?_
  refine v_callV1 (q := 5) (As := [_]) hC dX12_arePair_2 rfl lX12_138 mX12_isPerson iX12_isPerson eX12_isPerson rfl (hL.1 53 (by decide)) (ct_X12_isPerson d hL hF.1 (by omega) a) rfl rfl (by omega) rfl (Nat.le_of_ble_eq_true rfl) ?_
  refine v_if_eq (q := 8) (tgt := 25) hC dX12_arePair_5 rfl (by decide) (fun h5 => ?_) (fun h5 => ?_)
  · refine v_iconst (q := 26) (v := 0) hC dX12_arePair_25 rfl (by decide) ?_
    refine v_zreturn hC hB dX12_arePair_26 ⟨Nat.le_refl _, Nat.le_refl _⟩ (by first | exact Or.inl rfl | exact Or.inr rfl | exact zb_01 _) ?_
    first | exact ⟨zbt (by simp_all [zb_eq0]), rfl⟩ | exact ⟨zbf (by simp_all [zb_eq0]), rfl⟩
  · refine v_aload_n (q := 9) hC dX12_arePair_8 rfl rfl rfl ?_
    refine v_iload_n (q := 10) hC dX12_arePair_9 rfl rfl rfl ?_
    refine v_callV1 (q := 13) (As := [_]) hC dX12_arePair_10 rfl lX12_138 mX12_isPerson iX12_isPerson eX12_isPerson rfl (hL.1 53 (by decide)) (ct_X12_isPerson d hL hF.1 (by omega) b) rfl rfl (by omega) rfl (Nat.le_of_ble_eq_true rfl) ?_
    refine v_if_eq (q := 16) (tgt := 25) hC dX12_arePair_13 rfl (by decide) (fun h13 => ?_) (fun h13 => ?_)
    · refine v_iconst (q := 26) (v := 0) hC dX12_arePair_25 rfl (by decide) ?_
      refine v_zreturn hC hB dX12_arePair_26 ⟨Nat.le_refl _, Nat.le_refl _⟩ (by first | exact Or.inl rfl | exact Or.inr rfl | exact zb_01 _) ?_
      first | exact ⟨zbt (by simp_all [zb_eq0]), rfl⟩ | exact ⟨zbf (by simp_all [zb_eq0]), rfl⟩
    · refine v_iload_n (q := 17) hC dX12_arePair_16 rfl rfl rfl ?_
      refine v_iload_n (q := 18) hC dX12_arePair_17 rfl rfl rfl ?_
      refine v_icmp_eq (q := 21) (tgt := 25) hC dX12_arePair_18 rfl (by decide) (fun h18 => ?_) (fun h18 => ?_)
      · refine v_iconst (q := 26) (v := 0) hC dX12_arePair_25 rfl (by decide) ?_
        refine v_zreturn hC hB dX12_arePair_26 ⟨Nat.le_refl _, Nat.le_refl _⟩ (by first | exact Or.inl rfl | exact Or.inr rfl | exact zb_01 _) ?_
        first | exact ⟨zbt (by simp_all [zb_eq0]), rfl⟩ | exact ⟨zbf (by simp_all [zb_eq0]), rfl⟩
      · refine v_iconst (q := 22) (v := 1) hC dX12_arePair_21 rfl (by decide) ?_
        refine v_goto (q := 26) hC dX12_arePair_22 (by decide) ?_
        refine v_zreturn hC hB dX12_arePair_26 ⟨Nat.le_refl _, Nat.le_refl _⟩ (by first | exact Or.inl rfl | exact Or.inr rfl | exact zb_01 _) ?_
        first | exact ⟨zbt (by simp_all [zb_eq0]), rfl⟩ | exact ⟨zbf (by simp_all [zb_eq0]), rfl⟩

set_option maxRecDepth 100000 in
set_option maxHeartbeats 4000000 in
theorem ct_X12_areKin (d : Nat) {σ : zSt} (hL : zLay σ) {n : Nat} {kd : Nat → Nat} {kin met : Nat → Nat → Bool} {t : Nat} (hF : zMf σ n kd kin met t) {a b : Nat} (ha : a < 6) (hb : b < 6) : zEv (d + 0) MX12_areKin [.ref 53, .int (nI a), .int (nI b)] σ (some (.int (zb (kin a b)))) σ := by
  refine zCt.of (L := [some (.ref 53), some (.int (nI a)), some (.int (nI b))]) (by decide) (Nat.le_of_ble_eq_true rfl) rfl (fun X hC hB => ?_)
  have hC : zC X RX12 cX12_areKin 3 (d + 0) 0 0 := hC
  have hB : zB X (some .boolean) 0 0 "areKin" σ _ := hB
  show zV X 3 0 [some (.ref 53), some (.int (nI a)), some (.int (nI b))] [] 0 0 σ
  refine v_aload_n (q := 1) hC dX12_areKin_0 rfl rfl rfl ?_
  refine v_getR (q := 4) (r := 57) hC dX12_areKin_1 rfl fX12_19 (hL.1 53 (by decide)) (hL.2 53 14 57 rfl) ?_
  refine v_iload_n (q := 5) hC dX12_areKin_4 rfl rfl rfl ?_
  refine v_ialdN (q := 6) (j := a) hC dX12_areKin_5 rfl (hL.1 57 (by decide)) rfl (by omega) (by decide) ?_
  refine v_iload_n (q := 7) hC dX12_areKin_6 rfl rfl rfl ?_
  refine v_ishr (q := 8) hC dX12_areKin_7 rfl ?_
  refine v_iconst (q := 9) (v := 1) hC dX12_areKin_8 rfl (by decide) ?_
  refine v_iand (q := 10) hC dX12_areKin_9 rfl ?_
  rw [((hF.2.2.2.1 a ha).1).sh hb]
  refine v_iconst (q := 11) (v := 1) hC dX12_areKin_10 rfl (by decide) ?_
  refine v_icmp_ne (q := 14) (tgt := 18) hC dX12_areKin_11 rfl (by decide) (fun h11 => ?_) (fun h11 => ?_)
  · refine v_iconst (q := 19) (v := 0) hC dX12_areKin_18 rfl (by decide) ?_
    refine v_zreturn hC hB dX12_areKin_19 ⟨Nat.le_refl _, Nat.le_refl _⟩ (by first | exact Or.inl rfl | exact Or.inr rfl | exact zb_01 _) ?_
    cases e : kin a b
    · first | exact ⟨rfl, rfl⟩ | (rw [e] at h11; exact absurd h11 (by decide))
    · first | exact ⟨rfl, rfl⟩ | (rw [e] at h11; exact absurd rfl h11)
  · refine v_iconst (q := 15) (v := 1) hC dX12_areKin_14 rfl (by decide) ?_
    refine v_goto (q := 19) hC dX12_areKin_15 (by decide) ?_
    refine v_zreturn hC hB dX12_areKin_19 ⟨Nat.le_refl _, Nat.le_refl _⟩ (by first | exact Or.inl rfl | exact Or.inr rfl | exact zb_01 _) ?_
    cases e : kin a b
    · first | exact ⟨rfl, rfl⟩ | (rw [e] at h11; exact absurd h11 (by decide))
    · first | exact ⟨rfl, rfl⟩ | (rw [e] at h11; exact absurd rfl h11)

set_option maxRecDepth 100000 in
set_option maxHeartbeats 4000000 in
theorem ct_X12_termOf (d : Nat) {σ : zSt} (hL : zLay σ) {n : Nat} {kd : Nat → Nat} {kin met : Nat → Nat → Bool} {t : Nat} (hF : zMf σ n kd kin met t) {a : Nat} (ha : a < n) : zEv (d + 0) MX12_termOf [.ref 53, .int (nI a)] σ (some (.int (nI (pTm kd t a)))) σ := by
  refine zCt.of (L := [some (.ref 53), some (.int (nI a))]) (by decide) (Nat.le_of_ble_eq_true rfl) rfl (fun X hC hB => ?_)
  have hC : zC X RX12 cX12_termOf 2 (d + 0) 0 0 := hC
  have hB : zB X (some .int) 0 0 "termOf" σ _ := hB
  show zV X 2 0 [some (.ref 53), some (.int (nI a))] [] 0 0 σ
  have hn6 := hF.2.1
  obtain ⟨k4, ek⟩ := hF.2.2.1 a ha
  refine v_aload_n (q := 1) hC dX12_termOf_0 rfl rfl rfl ?_
  refine v_getR (q := 4) (r := 59) hC dX12_termOf_1 rfl fX12_25 (hL.1 53 (by decide)) (hL.2 53 17 59 rfl) ?_
  refine v_iload_n (q := 5) hC dX12_termOf_4 rfl rfl rfl ?_
  refine v_ialdN (q := 6) (j := a) hC dX12_termOf_5 rfl (hL.1 59 (by decide)) rfl (by omega) (by decide) ?_
  rw [ek]
  have c4 : nI (kd a) = 4 ↔ kd a = 4 := nI_eq (a := kd a) (b := 4) (by omega) (by omega)
  refine v_iconst (q := 7) (v := 4) hC dX12_termOf_6 rfl (by decide) ?_
  refine v_icmp_ne (q := 10) (tgt := 19) hC dX12_termOf_7 rfl (by decide) (fun h7 => ?_) (fun h7 => ?_)
  · refine v_aload_n (q := 20) hC dX12_termOf_19 rfl rfl rfl ?_
    refine v_getI (q := 23) hC dX12_termOf_20 rfl fX12_114 (hL.1 53 (by decide)) ?_
    refine v_ireturn hC hB dX12_termOf_23 ⟨Nat.le_refl _, Nat.le_refl _⟩ ?_
    unfold pTm
    first | (rw [if_pos (c4.mp h7)]; exact ⟨by rw [show (2 : Int32) = nI 2 from rfl, pk_mul], rfl⟩) | (rw [if_neg (fun z => h7 (c4.mpr z)), hF.2.2.2.2.1]; exact ⟨rfl, rfl⟩)
  · refine v_iconst (q := 11) (v := 2) hC dX12_termOf_10 rfl (by decide) ?_
    refine v_aload_n (q := 12) hC dX12_termOf_11 rfl rfl rfl ?_
    refine v_getI (q := 15) hC dX12_termOf_12 rfl fX12_114 (hL.1 53 (by decide)) ?_
    rw [hF.2.2.2.2.1]
    refine v_imul (q := 16) hC dX12_termOf_15 rfl ?_
    refine v_goto (q := 23) hC dX12_termOf_16 (by decide) ?_
    refine v_ireturn hC hB dX12_termOf_23 ⟨Nat.le_refl _, Nat.le_refl _⟩ ?_
    unfold pTm
    first | (rw [if_pos (c4.mp h7)]; exact ⟨by rw [show (2 : Int32) = nI 2 from rfl, pk_mul], rfl⟩) | (rw [if_neg (fun z => h7 (c4.mpr z)), hF.2.2.2.2.1]; exact ⟨rfl, rfl⟩)

set_option maxRecDepth 100000 in
set_option maxHeartbeats 4000000 in
theorem ct_X12_know (d : Nat) {σ : zSt} (hL : zLay σ) {n : Nat} {kd : Nat → Nat} {kin met : Nat → Nat → Bool} {t : Nat} (hF : zMf σ n kd kin met t) {mb : Option Nat} {pr : Option (Nat × Nat)} (hs : zMs σ mb pr) (hmb : ∀ g, mb = some g → g < 6) {a b : Nat} (ha : a < n) (hb : b < n) : zEv (d + 1) MX12_know [.ref 53, .int (nI a), .int (nI b)] σ (some (.int (zb (pKn kd kin met a b || pBs pr a b)))) σ := by
  refine zCt.of (L := [some (.ref 53), some (.int (nI a)), some (.int (nI b)), none]) (by decide) (Nat.le_of_ble_eq_true rfl) rfl (fun X hC hB => ?_)
  have hC : zC X RX12 cX12_know 4 (d + 1) 0 0 := hC
  have hB : zB X (some .boolean) 0 0 "know" σ _ := hB
  show zV X 4 0 [some (.ref 53), some (.int (nI a)), some (.int (nI b)), none] [] 0 0 σ
  obtain ⟨ka4, eka⟩ := hF.2.2.1 a ha
  obtain ⟨kb4, ekb⟩ := hF.2.2.1 b hb
  have hn6 := hF.2.1
  have hbs := hs.bs (show a < 6 by omega) (show b < 6 by omega)
  have c1 : (2 : Int32) < nI (kd a) ↔ 2 < kd a := nI_ltI (a := 2) (by omega) (by omega)
  have c2 : (2 : Int32) < nI (kd b) ↔ 2 < kd b := nI_ltI (a := 2) (by omega) (by omega)
  have jn : ∀ x : Int32, x = zb (pBs pr a b) → zV X 4 45 [some (.ref 53), some (.int (nI a)), some (.int (nI b)), none] [.int x] 0 0 σ := by
    intro x hx
    subst hx
    refine v_istore_n (q := 46) (L' := [_, _, _, _]) hC dX12_know_45 rfl rfl (by decide) rfl rfl ?_
    refine v_aload_n (q := 47) hC dX12_know_46 rfl rfl rfl ?_
    refine v_iload_n (q := 48) hC dX12_know_47 rfl rfl rfl ?_
    refine v_iload_n (q := 49) hC dX12_know_48 rfl rfl rfl ?_
    refine v_callV1 (q := 52) (As := [_, _]) hC dX12_know_49 rfl lX12_150 mX12_areKin iX12_areKin eX12_areKin rfl (hL.1 53 (by decide)) (ct_X12_areKin d hL hF (show a < 6 by omega) (show b < 6 by omega)) rfl rfl (by omega) rfl (Nat.le_of_ble_eq_true rfl) ?_
    refine v_if_ne (q := 55) (tgt := 93) hC dX12_know_52 rfl (by decide) (fun h52 => ?_) (fun h52 => ?_)
    · refine v_iconst (q := 94) (v := 1) hC dX12_know_93 rfl (by decide) ?_
      refine v_goto (q := 98) hC dX12_know_94 (by decide) ?_
      refine v_zreturn hC hB dX12_know_98 ⟨Nat.le_refl _, Nat.le_refl _⟩ (by first | exact Or.inl rfl | exact Or.inr rfl | exact zb_01 _) ?_
      rw [pKn, pIs3 ka4, pIs3 kb4]
      first | exact ⟨zbt (by simp_all [zb_eq0, zb_eq1]), rfl⟩ | exact ⟨zbf (by simp_all [zb_eq0, zb_eq1]), rfl⟩
    · refine v_aload_n (q := 56) hC dX12_know_55 rfl rfl rfl ?_
      refine v_getR (q := 59) (r := 58) hC dX12_know_56 rfl fX12_22 (hL.1 53 (by decide)) (hL.2 53 15 58 rfl) ?_
      refine v_iload_n (q := 60) hC dX12_know_59 rfl rfl rfl ?_
      refine v_ialdN (q := 61) (j := a) hC dX12_know_60 rfl (hL.1 58 (by decide)) rfl (by omega) (by decide) ?_
      refine v_iload_n (q := 62) hC dX12_know_61 rfl rfl rfl ?_
      refine v_ishr (q := 63) hC dX12_know_62 rfl ?_
      refine v_iconst (q := 64) (v := 1) hC dX12_know_63 rfl (by decide) ?_
      refine v_iand (q := 65) hC dX12_know_64 rfl ?_
      rw [((hF.2.2.2.1 a (by omega)).2).sh (show b < 6 by omega)]
      refine v_iconst (q := 66) (v := 1) hC dX12_know_65 rfl (by decide) ?_
      refine v_icmp_eq (q := 69) (tgt := 93) hC dX12_know_66 rfl (by decide) (fun h66 => ?_) (fun h66 => ?_)
      · refine v_iconst (q := 94) (v := 1) hC dX12_know_93 rfl (by decide) ?_
        refine v_goto (q := 98) hC dX12_know_94 (by decide) ?_
        refine v_zreturn hC hB dX12_know_98 ⟨Nat.le_refl _, Nat.le_refl _⟩ (by first | exact Or.inl rfl | exact Or.inr rfl | exact zb_01 _) ?_
        rw [pKn, pIs3 ka4, pIs3 kb4]
        first | exact ⟨zbt (by simp_all [zb_eq0, zb_eq1]), rfl⟩ | exact ⟨zbf (by simp_all [zb_eq0, zb_eq1]), rfl⟩
      · refine v_aload_n (q := 70) hC dX12_know_69 rfl rfl rfl ?_
        refine v_getR (q := 73) (r := 59) hC dX12_know_70 rfl fX12_25 (hL.1 53 (by decide)) (hL.2 53 17 59 rfl) ?_
        refine v_iload_n (q := 74) hC dX12_know_73 rfl rfl rfl ?_
        refine v_ialdN (q := 75) (j := a) hC dX12_know_74 rfl (hL.1 59 (by decide)) rfl (by omega) (by decide) ?_
        rw [eka]
        refine v_iconst (q := 76) (v := 2) hC dX12_know_75 rfl (by decide) ?_
        refine v_icmp_gt (q := 79) (tgt := 93) hC dX12_know_76 rfl (by decide) (fun h76 => ?_) (fun h76 => ?_)
        · refine v_iconst (q := 94) (v := 1) hC dX12_know_93 rfl (by decide) ?_
          refine v_goto (q := 98) hC dX12_know_94 (by decide) ?_
          refine v_zreturn hC hB dX12_know_98 ⟨Nat.le_refl _, Nat.le_refl _⟩ (by first | exact Or.inl rfl | exact Or.inr rfl | exact zb_01 _) ?_
          rw [pKn, pIs3 ka4, pIs3 kb4]
          first | exact ⟨zbt (by simp_all [zb_eq0, zb_eq1]), rfl⟩ | exact ⟨zbf (by simp_all [zb_eq0, zb_eq1]), rfl⟩
        · refine v_aload_n (q := 80) hC dX12_know_79 rfl rfl rfl ?_
          refine v_getR (q := 83) (r := 59) hC dX12_know_80 rfl fX12_25 (hL.1 53 (by decide)) (hL.2 53 17 59 rfl) ?_
          refine v_iload_n (q := 84) hC dX12_know_83 rfl rfl rfl ?_
          refine v_ialdN (q := 85) (j := b) hC dX12_know_84 rfl (hL.1 59 (by decide)) rfl (by omega) (by decide) ?_
          rw [ekb]
          refine v_iconst (q := 86) (v := 2) hC dX12_know_85 rfl (by decide) ?_
          refine v_icmp_gt (q := 89) (tgt := 93) hC dX12_know_86 rfl (by decide) (fun h86 => ?_) (fun h86 => ?_)
          · refine v_iconst (q := 94) (v := 1) hC dX12_know_93 rfl (by decide) ?_
            refine v_goto (q := 98) hC dX12_know_94 (by decide) ?_
            refine v_zreturn hC hB dX12_know_98 ⟨Nat.le_refl _, Nat.le_refl _⟩ (by first | exact Or.inl rfl | exact Or.inr rfl | exact zb_01 _) ?_
            rw [pKn, pIs3 ka4, pIs3 kb4]
            first | exact ⟨zbt (by simp_all [zb_eq0, zb_eq1]), rfl⟩ | exact ⟨zbf (by simp_all [zb_eq0, zb_eq1]), rfl⟩
          · refine v_iload_n (q := 90) hC dX12_know_89 rfl rfl rfl ?_
            refine v_if_eq (q := 93) (tgt := 97) hC dX12_know_90 rfl (by decide) (fun h90 => ?_) (fun h90 => ?_)
            · refine v_iconst (q := 98) (v := 0) hC dX12_know_97 rfl (by decide) ?_
              refine v_zreturn hC hB dX12_know_98 ⟨Nat.le_refl _, Nat.le_refl _⟩ (by first | exact Or.inl rfl | exact Or.inr rfl | exact zb_01 _) ?_
              rw [pKn, pIs3 ka4, pIs3 kb4]
              first | exact ⟨zbt (by simp_all [zb_eq0, zb_eq1]), rfl⟩ | exact ⟨zbf (by simp_all [zb_eq0, zb_eq1]), rfl⟩
            · refine v_iconst (q := 94) (v := 1) hC dX12_know_93 rfl (by decide) ?_
              refine v_goto (q := 98) hC dX12_know_94 (by decide) ?_
              refine v_zreturn hC hB dX12_know_98 ⟨Nat.le_refl _, Nat.le_refl _⟩ (by first | exact Or.inl rfl | exact Or.inr rfl | exact zb_01 _) ?_
              rw [pKn, pIs3 ka4, pIs3 kb4]
              first | exact ⟨zbt (by simp_all [zb_eq0, zb_eq1]), rfl⟩ | exact ⟨zbf (by simp_all [zb_eq0, zb_eq1]), rfl⟩
  refine v_aload_n (q := 1) hC dX12_know_0 rfl rfl rfl ?_
  refine v_getI (q := 4) hC dX12_know_1 rfl fX12_141 (hL.1 53 (by decide)) ?_
  refine v_iconst (q := 5) (v := 1) hC dX12_know_4 rfl (by decide) ?_
  refine v_icmp_ne (q := 8) (tgt := 44) hC dX12_know_5 rfl (by decide) (fun h5 => ?_) (fun h5 => ?_)
  · refine v_iconst (q := 45) (v := 0) hC dX12_know_44 rfl (by decide) ?_
    exact jn _ (by cases e : pBs pr a b <;> simp_all [zb])
  · refine v_iload_n (q := 9) hC dX12_know_8 rfl rfl rfl ?_
    refine v_aload_n (q := 10) hC dX12_know_9 rfl rfl rfl ?_
    refine v_getI (q := 13) hC dX12_know_10 rfl fX12_144 (hL.1 53 (by decide)) ?_
    refine v_icmp_ne (q := 16) (tgt := 24) hC dX12_know_13 rfl (by decide) (fun h13 => ?_) (fun h13 => ?_)
    · refine v_iload_n (q := 25) hC dX12_know_24 rfl rfl rfl ?_
      refine v_aload_n (q := 26) hC dX12_know_25 rfl rfl rfl ?_
      refine v_getI (q := 29) hC dX12_know_26 rfl fX12_147 (hL.1 53 (by decide)) ?_
      refine v_icmp_ne (q := 32) (tgt := 44) hC dX12_know_29 rfl (by decide) (fun h29 => ?_) (fun h29 => ?_)
      · refine v_iconst (q := 45) (v := 0) hC dX12_know_44 rfl (by decide) ?_
        exact jn _ (by cases e : pBs pr a b <;> simp_all [zb])
      · refine v_iload_n (q := 33) hC dX12_know_32 rfl rfl rfl ?_
        refine v_aload_n (q := 34) hC dX12_know_33 rfl rfl rfl ?_
        refine v_getI (q := 37) hC dX12_know_34 rfl fX12_144 (hL.1 53 (by decide)) ?_
        refine v_icmp_ne (q := 40) (tgt := 44) hC dX12_know_37 rfl (by decide) (fun h37 => ?_) (fun h37 => ?_)
        · refine v_iconst (q := 45) (v := 0) hC dX12_know_44 rfl (by decide) ?_
          exact jn _ (by cases e : pBs pr a b <;> simp_all [zb])
        · refine v_iconst (q := 41) (v := 1) hC dX12_know_40 rfl (by decide) ?_
          refine v_goto (q := 45) hC dX12_know_41 (by decide) ?_
          exact jn _ (by cases e : pBs pr a b <;> simp_all [zb])
    · refine v_iload_n (q := 17) hC dX12_know_16 rfl rfl rfl ?_
      refine v_aload_n (q := 18) hC dX12_know_17 rfl rfl rfl ?_
      refine v_getI (q := 21) hC dX12_know_18 rfl fX12_147 (hL.1 53 (by decide)) ?_
      refine v_icmp_eq (q := 24) (tgt := 40) hC dX12_know_21 rfl (by decide) (fun h21 => ?_) (fun h21 => ?_)
      · refine v_iconst (q := 41) (v := 1) hC dX12_know_40 rfl (by decide) ?_
        refine v_goto (q := 45) hC dX12_know_41 (by decide) ?_
        exact jn _ (by cases e : pBs pr a b <;> simp_all [zb])
      · refine v_iload_n (q := 25) hC dX12_know_24 rfl rfl rfl ?_
        refine v_aload_n (q := 26) hC dX12_know_25 rfl rfl rfl ?_
        refine v_getI (q := 29) hC dX12_know_26 rfl fX12_147 (hL.1 53 (by decide)) ?_
        refine v_icmp_ne (q := 32) (tgt := 44) hC dX12_know_29 rfl (by decide) (fun h29 => ?_) (fun h29 => ?_)
        · refine v_iconst (q := 45) (v := 0) hC dX12_know_44 rfl (by decide) ?_
          exact jn _ (by cases e : pBs pr a b <;> simp_all [zb])
        · refine v_iload_n (q := 33) hC dX12_know_32 rfl rfl rfl ?_
          refine v_aload_n (q := 34) hC dX12_know_33 rfl rfl rfl ?_
          refine v_getI (q := 37) hC dX12_know_34 rfl fX12_144 (hL.1 53 (by decide)) ?_
          refine v_icmp_ne (q := 40) (tgt := 44) hC dX12_know_37 rfl (by decide) (fun h37 => ?_) (fun h37 => ?_)
          · refine v_iconst (q := 45) (v := 0) hC dX12_know_44 rfl (by decide) ?_
            exact jn _ (by cases e : pBs pr a b <;> simp_all [zb])
          · refine v_iconst (q := 41) (v := 1) hC dX12_know_40 rfl (by decide) ?_
            refine v_goto (q := 45) hC dX12_know_41 (by decide) ?_
            exact jn _ (by cases e : pBs pr a b <;> simp_all [zb])

set_option maxRecDepth 100000 in
set_option maxHeartbeats 4000000 in
theorem ct_X12_isMiser (d : Nat) {σ : zSt} (hL : zLay σ) {n : Nat} {kd : Nat → Nat} {kin met : Nat → Nat → Bool} {t : Nat} (hF : zMf σ n kd kin met t) {mb : Option Nat} {pr : Option (Nat × Nat)} (hs : zMs σ mb pr) (hmb : ∀ g, mb = some g → g < 6) {a : Nat} (ha : a < n) : zEv (d + 0) MX12_isMiser [.ref 53, .int (nI a)] σ (some (.int (zb (pIs 1 (kd a) || decide (mb = some a))))) σ := by
  refine zCt.of (L := [some (.ref 53), some (.int (nI a))]) (by decide) (Nat.le_of_ble_eq_true rfl) rfl (fun X hC hB => ?_)
  have hC : zC X RX12 cX12_isMiser 2 (d + 0) 0 0 := hC
  have hB : zB X (some .boolean) 0 0 "isMiser" σ _ := hB
  show zV X 2 0 [some (.ref 53), some (.int (nI a))] [] 0 0 σ
  obtain ⟨ka4, eka⟩ := hF.2.2.1 a ha
  have hn6 := hF.2.1
  have c1 : nI (kd a) = 1 ↔ kd a = 1 := nI_eq (a := kd a) (b := 1) (by omega) (by omega)
  have c2 : nI a = zo mb ↔ mb = some a := by
    cases mb with
    | none => exact ⟨fun z => absurd ((zo_m (o := some a) (m := 6) (fun g hg => by cases hg; omega) (by omega)).mp z) (by simp), fun z => by cases z⟩
    | some g => exact ⟨fun z => by have := hmb g rfl; rw [(nI_eq (a := a) (b := g) (by omega) (by omega)).mp z], fun z => by cases z; rfl⟩
  refine v_aload_n (q := 1) hC dX12_isMiser_0 rfl rfl rfl ?_
  refine v_getR (q := 4) (r := 59) hC dX12_isMiser_1 rfl fX12_25 (hL.1 53 (by decide)) (hL.2 53 17 59 rfl) ?_
  refine v_iload_n (q := 5) hC dX12_isMiser_4 rfl rfl rfl ?_
  refine v_ialdN (q := 6) (j := a) hC dX12_isMiser_5 rfl (hL.1 59 (by decide)) rfl (by omega) (by decide) ?_
  rw [eka]
  refine v_iconst (q := 7) (v := 1) hC dX12_isMiser_6 rfl (by decide) ?_
  refine v_icmp_eq (q := 10) (tgt := 18) hC dX12_isMiser_7 rfl (by decide) (fun h7 => ?_) (fun h7 => ?_)
  · refine v_iconst (q := 19) (v := 1) hC dX12_isMiser_18 rfl (by decide) ?_
    refine v_goto (q := 23) hC dX12_isMiser_19 (by decide) ?_
    refine v_zreturn hC hB dX12_isMiser_23 ⟨Nat.le_refl _, Nat.le_refl _⟩ (by first | exact Or.inl rfl | exact Or.inr rfl | exact zb_01 _) ?_
    rw [pIs1]
    first | exact ⟨zbt (by simp_all), rfl⟩ | exact ⟨zbf (by simp_all), rfl⟩
  · refine v_iload_n (q := 11) hC dX12_isMiser_10 rfl rfl rfl ?_
    refine v_aload_n (q := 12) hC dX12_isMiser_11 rfl rfl rfl ?_
    refine v_getI (q := 15) hC dX12_isMiser_12 rfl fX12_65 (hL.1 53 (by decide)) ?_
    rw [hs.1]
    refine v_icmp_ne (q := 18) (tgt := 22) hC dX12_isMiser_15 rfl (by decide) (fun h15 => ?_) (fun h15 => ?_)
    · refine v_iconst (q := 23) (v := 0) hC dX12_isMiser_22 rfl (by decide) ?_
      refine v_zreturn hC hB dX12_isMiser_23 ⟨Nat.le_refl _, Nat.le_refl _⟩ (by first | exact Or.inl rfl | exact Or.inr rfl | exact zb_01 _) ?_
      rw [pIs1]
      first | exact ⟨zbt (by simp_all), rfl⟩ | exact ⟨zbf (by simp_all), rfl⟩
    · refine v_iconst (q := 19) (v := 1) hC dX12_isMiser_18 rfl (by decide) ?_
      refine v_goto (q := 23) hC dX12_isMiser_19 (by decide) ?_
      refine v_zreturn hC hB dX12_isMiser_23 ⟨Nat.le_refl _, Nat.le_refl _⟩ (by first | exact Or.inl rfl | exact Or.inr rfl | exact zb_01 _) ?_
      rw [pIs1]
      first | exact ⟨zbt (by simp_all), rfl⟩ | exact ⟨zbf (by simp_all), rfl⟩

