/-! ===== Ledger ===== -/
/-- a Ledger at cell c, its six rows behind it -/
def zLg (σ : zSt) (c : Nat) : Prop := σ.1[c]? = some (0, 4) ∧ ∀ j, j < 6 → σ.1[c + 1 + j]? = some (1, 12) ∧ zR σ c j = some (c + 1 + j)
theorem zLg.same {cs rs : List Nat} {σ σ' : zSt} {c : Nat} (h : zLg σ c) (hS : zSame cs rs σ σ') (hc : c ∉ rs) : zLg σ' c := ⟨by rw [hS.1]; exact h.1, fun j hj => ⟨by rw [hS.1]; exact (h.2 j hj).1, by rw [hS.2.2.1 c hc]; exact (h.2 j hj).2⟩⟩
theorem zLg.of {σ : zSt} (hL : zLay σ) {c : Nat} (hc : c = 28 ∨ c = 35 ∨ c = 44) : zLg σ c := by
  rcases hc with rfl | rfl | rfl
  · refine ⟨hL.1 28 (by decide), fun j hj => ?_⟩
    match j, hj with
    | 0, _ => exact ⟨hL.1 29 (by decide), hL.2 28 0 29 rfl⟩
    | 1, _ => exact ⟨hL.1 30 (by decide), hL.2 28 1 30 rfl⟩
    | 2, _ => exact ⟨hL.1 31 (by decide), hL.2 28 2 31 rfl⟩
    | 3, _ => exact ⟨hL.1 32 (by decide), hL.2 28 3 32 rfl⟩
    | 4, _ => exact ⟨hL.1 33 (by decide), hL.2 28 4 33 rfl⟩
    | 5, _ => exact ⟨hL.1 34 (by decide), hL.2 28 5 34 rfl⟩
  · refine ⟨hL.1 35 (by decide), fun j hj => ?_⟩
    match j, hj with
    | 0, _ => exact ⟨hL.1 36 (by decide), hL.2 35 0 36 rfl⟩
    | 1, _ => exact ⟨hL.1 37 (by decide), hL.2 35 1 37 rfl⟩
    | 2, _ => exact ⟨hL.1 38 (by decide), hL.2 35 2 38 rfl⟩
    | 3, _ => exact ⟨hL.1 39 (by decide), hL.2 35 3 39 rfl⟩
    | 4, _ => exact ⟨hL.1 40 (by decide), hL.2 35 4 40 rfl⟩
    | 5, _ => exact ⟨hL.1 41 (by decide), hL.2 35 5 41 rfl⟩
  · refine ⟨hL.1 44 (by decide), fun j hj => ?_⟩
    match j, hj with
    | 0, _ => exact ⟨hL.1 45 (by decide), hL.2 44 0 45 rfl⟩
    | 1, _ => exact ⟨hL.1 46 (by decide), hL.2 44 1 46 rfl⟩
    | 2, _ => exact ⟨hL.1 47 (by decide), hL.2 44 2 47 rfl⟩
    | 3, _ => exact ⟨hL.1 48 (by decide), hL.2 44 3 48 rfl⟩
    | 4, _ => exact ⟨hL.1 49 (by decide), hL.2 44 4 49 rfl⟩
    | 5, _ => exact ⟨hL.1 50 (by decide), hL.2 44 5 50 rfl⟩
/-- what a Ledger holds: m favours, F column favour, week w -/
def zLd (σ : zSt) (c m : Nat) (F : Nat → Nat → Int32) (w : Nat) : Prop := zI σ c 6 = nI m ∧ m ≤ 12 ∧ zI σ c 7 = nI w ∧ ∀ j f, j < 6 → f < m → zI σ (c + 1 + j) f = F j f
/-- m favours among n people in week w, as they can be -/
def pLw (m : Nat) (F : Nat → Nat → Int32) (n w : Nat) : Prop := w < 1000000 ∧ ∀ f, f < m → (∃ a, a < n ∧ F 0 f = nI a) ∧ (∃ a, a < n ∧ F 1 f = nI a) ∧ (∃ a, 1 ≤ a ∧ a ≤ 99 ∧ F 2 f = nI a) ∧ (∃ a, a ≤ w ∧ F 3 f = nI a) ∧ (F 4 f = -1 ∨ ∃ g, g < f ∧ F 4 f = nI g) ∧ (F 5 f = -1 ∨ ∃ g, f < g ∧ g < m ∧ F 5 f = nI g)
def dN (x : Int32) : Nat := x.toNatClampNeg
theorem dN_nI {k : Nat} (h : k < 2 ^ 31) : dN (nI k) = k := nI_clamp h
theorem nI_m1 {k : Nat} (h : k < 2 ^ 31) : ¬ nI k = -1 := fun e => by have := congrArg Int32.toInt e; rw [nI_toInt h] at this; have h1 : (-1 : Int32).toInt = -1 := rfl; rw [h1] at this; omega
def pCnt (P : Nat → Bool) : Nat → Nat
  | 0 => 0
  | k + 1 => pCnt P k + (if P k then 1 else 0)
theorem pCnt_t {P : Nat → Bool} {i : Nat} (h : P i = true) : nI (pCnt P i) + 1 = nI (pCnt P (i + 1)) := by rw [nI_1]; simp [pCnt, h]
theorem pCnt_f {P : Nat → Bool} {i : Nat} (h : P i = false) : nI (pCnt P i) = nI (pCnt P (i + 1)) := by simp [pCnt, h]
theorem pCnt_congr {P Q : Nat → Bool} : ∀ {m : Nat}, (∀ f, f < m → P f = Q f) → pCnt P m = pCnt Q m
  | 0, _ => rfl
  | m + 1, h => by simp only [pCnt]; rw [pCnt_congr (m := m) (fun f hf => h f (by omega)), h m (by omega)]
theorem pCnt_le {P : Nat → Bool} : ∀ (m : Nat), pCnt P m ≤ m
  | 0 => Nat.le_refl _
  | m + 1 => by simp only [pCnt]; have := pCnt_le (P := P) m; split <;> omega
def pFst (P : Nat → Bool) : Nat → Option Nat
  | 0 => none
  | k + 1 => match pFst P k with
    | some g => some g
    | none => if P k then some k else none
theorem pFst_f {P : Nat → Bool} {i : Nat} (h : pFst P i = none) (h' : P i = false) : pFst P (i + 1) = none := by simp [pFst, h, h']
theorem pFst_t {P : Nat → Bool} {i : Nat} (h : pFst P i = none) (h' : P i = true) : pFst P (i + 1) = some i := by simp [pFst, h, h']
theorem pFst_up {P : Nat → Bool} {i g : Nat} (h : pFst P i = some g) : ∀ (k : Nat), pFst P (i + k) = some g
  | 0 => h
  | k + 1 => by rw [← Nat.add_assoc]; simp only [pFst]; rw [pFst_up h k]
theorem pFst_at {P : Nat → Bool} {i m : Nat} (h : pFst P i = none) (h' : P i = true) (hm : i < m) : pFst P m = some i := by
  have := pFst_up (pFst_t h h') (m - (i + 1))
  rwa [show i + 1 + (m - (i + 1)) = m by omega] at this
theorem pFst_congr {P Q : Nat → Bool} : ∀ {m : Nat}, (∀ f, f < m → P f = Q f) → pFst P m = pFst Q m
  | 0, _ => rfl
  | m + 1, h => by simp only [pFst]; rw [pFst_congr (m := m) (fun f hf => h f (by omega)), h m (by omega)]
theorem pFst_some {P : Nat → Bool} : ∀ {m g : Nat}, pFst P m = some g → g < m ∧ P g = true
  | 0, g, h => by simp [pFst] at h
  | m + 1, g, h => by
    simp only [pFst] at h
    cases e : pFst P m with
    | some k => rw [e] at h; simp at h; subst h; exact ⟨by have := (pFst_some e).1; omega, (pFst_some e).2⟩
    | none =>
      rw [e] at h
      by_cases hp : P m = true
      · simp [hp] at h; subst h; exact ⟨by omega, hp⟩
      · simp [hp] at h

set_option maxRecDepth 100000 in
set_option maxHeartbeats 4000000 in
theorem ct_X4_clear (d : Nat) {σ : zSt} {c : Nat} (hg : zLg σ c) : zEv (d + 0) MX4_clear [.ref c] σ none (zsI (zsI σ c 6 0) c 7 0) := by
  refine zCt.of (L := [some (.ref c)]) (by decide) (Nat.le_of_ble_eq_true rfl) rfl (fun X hC hB => ?_)
  have hC : zC X RX4 cX4_clear 1 (d + 0) 0 0 := hC
  have hB : zB X none 0 0 "clear" σ _ := hB
  show zV X 1 0 [some (.ref c)] [] 0 0 σ
  refine v_aload_n (q := 1) hC dX4_clear_0 rfl rfl rfl ?_
  refine v_iconst (q := 2) (v := 0) hC dX4_clear_1 rfl (by decide) ?_
  refine v_putI (q := 5) hC dX4_clear_2 rfl fX4_30 hg.1 ?_
  refine v_aload_n (q := 6) hC dX4_clear_5 rfl rfl rfl ?_
  refine v_iconst (q := 7) (v := 0) hC dX4_clear_6 rfl (by decide) ?_
  refine v_putI (q := 10) hC dX4_clear_7 rfl fX4_34 hg.1 ?_
  refine v_return hC hB dX4_clear_10 ⟨Nat.le_refl _, Nat.le_refl _⟩ ?_
  exact ⟨rfl, rfl⟩

set_option maxRecDepth 100000 in
set_option maxHeartbeats 4000000 in
theorem ct_X4_has (d : Nat) {σ : zSt} {c : Nat} (hg : zLg σ c) {m : Nat} {F : Nat → Nat → Int32} {w : Nat} (hd : zLd σ c m F w) (p : Int32) : zEv (d + 0) MX4_has [.ref c, .int p] σ (some (.int (zb (zval m p)))) σ := by
  refine zCt.of (L := [some (.ref c), some (.int p)]) (by decide) (Nat.le_of_ble_eq_true rfl) rfl (fun X hC hB => ?_)
  have hC : zC X RX4 cX4_has 2 (d + 0) 0 0 := hC
  have hB : zB X (some .boolean) 0 0 "has" σ _ := hB
  show zV X 2 0 [some (.ref c), some (.int p)] [] 0 0 σ
  have hn := hd.1
  have hm := hd.2.1
  refine v_iload_n (q := 1) hC dX4_has_0 rfl rfl rfl ?_
  refine v_if_lt (q := 4) (tgt := 16) hC dX4_has_1 rfl (by decide) (fun h1 => ?_) (fun h1 => ?_)
  · refine v_iconst (q := 17) (v := 0) hC dX4_has_16 rfl (by decide) ?_
    refine v_zreturn hC hB dX4_has_17 ⟨Nat.le_refl _, Nat.le_refl _⟩ (by first | exact Or.inl rfl | exact Or.inr rfl | exact zb_01 _) ?_
    first
      | exact ⟨zbt (by have h9 : p < nI m := (by rw [← hn]; exact Int32.not_le.mp h9); rw [zltI (by omega)] at h9; rw [zlt0] at h1; exact decide_eq_true ⟨by omega, h9⟩), rfl⟩
      | exact ⟨zbf (by have h9 : ¬ p < nI m := (by rw [← hn]; exact Int32.not_lt.mpr h9); rw [zltI (by omega)] at h9; exact decide_eq_false (fun z => h9 z.2)), rfl⟩
      | exact ⟨zbf (by rw [zlt0] at h1; exact decide_eq_false (by omega)), rfl⟩
  · refine v_iload_n (q := 5) hC dX4_has_4 rfl rfl rfl ?_
    refine v_aload_n (q := 6) hC dX4_has_5 rfl rfl rfl ?_
    refine v_getI (q := 9) hC dX4_has_6 rfl fX4_30 hg.1 ?_
    refine v_icmp_ge (q := 12) (tgt := 16) hC dX4_has_9 rfl (by decide) (fun h9 => ?_) (fun h9 => ?_)
    · refine v_iconst (q := 17) (v := 0) hC dX4_has_16 rfl (by decide) ?_
      refine v_zreturn hC hB dX4_has_17 ⟨Nat.le_refl _, Nat.le_refl _⟩ (by first | exact Or.inl rfl | exact Or.inr rfl | exact zb_01 _) ?_
      first
        | exact ⟨zbt (by have h9 : p < nI m := (by rw [← hn]; exact Int32.not_le.mp h9); rw [zltI (by omega)] at h9; rw [zlt0] at h1; exact decide_eq_true ⟨by omega, h9⟩), rfl⟩
        | exact ⟨zbf (by have h9 : ¬ p < nI m := (by rw [← hn]; exact Int32.not_lt.mpr h9); rw [zltI (by omega)] at h9; exact decide_eq_false (fun z => h9 z.2)), rfl⟩
        | exact ⟨zbf (by rw [zlt0] at h1; exact decide_eq_false (by omega)), rfl⟩
    · refine v_iconst (q := 13) (v := 1) hC dX4_has_12 rfl (by decide) ?_
      refine v_goto (q := 17) hC dX4_has_13 (by decide) ?_
      refine v_zreturn hC hB dX4_has_17 ⟨Nat.le_refl _, Nat.le_refl _⟩ (by first | exact Or.inl rfl | exact Or.inr rfl | exact zb_01 _) ?_
      first
        | exact ⟨zbt (by have h9 : p < nI m := (by rw [← hn]; exact Int32.not_le.mp h9); rw [zltI (by omega)] at h9; rw [zlt0] at h1; exact decide_eq_true ⟨by omega, h9⟩), rfl⟩
        | exact ⟨zbf (by have h9 : ¬ p < nI m := (by rw [← hn]; exact Int32.not_lt.mpr h9); rw [zltI (by omega)] at h9; exact decide_eq_false (fun z => h9 z.2)), rfl⟩
        | exact ⟨zbf (by rw [zlt0] at h1; exact decide_eq_false (by omega)), rfl⟩

set_option maxRecDepth 100000 in
set_option maxHeartbeats 4000000 in
theorem ct_X4_isFull (d : Nat) {σ : zSt} {c : Nat} (hg : zLg σ c) {m : Nat} {F : Nat → Nat → Int32} {w : Nat} (hd : zLd σ c m F w) : zEv (d + 0) MX4_isFull [.ref c] σ (some (.int (zb (decide (m = 12))))) σ := by
  refine zCt.of (L := [some (.ref c)]) (by decide) (Nat.le_of_ble_eq_true rfl) rfl (fun X hC hB => ?_)
  have hC : zC X RX4 cX4_isFull 1 (d + 0) 0 0 := hC
  have hB : zB X (some .boolean) 0 0 "isFull" σ _ := hB
  show zV X 1 0 [some (.ref c)] [] 0 0 σ
  have hm := hd.2.1
  refine v_aload_n (q := 1) hC dX4_isFull_0 rfl rfl rfl ?_
  refine v_getI (q := 4) hC dX4_isFull_1 rfl fX4_30 hg.1 ?_
  rw [hd.1]
  refine v_bipush (q := 6) (v := 12) hC dX4_isFull_4 rfl (by decide) ?_
  refine v_icmp_lt (q := 9) (tgt := 13) hC dX4_isFull_6 rfl (by decide) (fun h6 => ?_) (fun h6 => ?_)
  · refine v_iconst (q := 14) (v := 0) hC dX4_isFull_13 rfl (by decide) ?_
    refine v_zreturn hC hB dX4_isFull_14 ⟨Nat.le_refl _, Nat.le_refl _⟩ (by first | exact Or.inl rfl | exact Or.inr rfl | exact zb_01 _) ?_
    have c0 : nI m < 12 ↔ m < 12 := nI_ltI (a := m) (b := 12) (by omega) (by omega)
    rw [c0] at h6
    first | exact ⟨zbt (decide_eq_true (by omega)), rfl⟩ | exact ⟨zbf (decide_eq_false (by omega)), rfl⟩
  · refine v_iconst (q := 10) (v := 1) hC dX4_isFull_9 rfl (by decide) ?_
    refine v_goto (q := 14) hC dX4_isFull_10 (by decide) ?_
    refine v_zreturn hC hB dX4_isFull_14 ⟨Nat.le_refl _, Nat.le_refl _⟩ (by first | exact Or.inl rfl | exact Or.inr rfl | exact zb_01 _) ?_
    have c0 : nI m < 12 ↔ m < 12 := nI_ltI (a := m) (b := 12) (by omega) (by omega)
    rw [c0] at h6
    first | exact ⟨zbt (decide_eq_true (by omega)), rfl⟩ | exact ⟨zbf (decide_eq_false (by omega)), rfl⟩

set_option maxRecDepth 100000 in
set_option maxHeartbeats 4000000 in
theorem ct_X4_isOpen (d : Nat) {σ : zSt} {c : Nat} (hg : zLg σ c) {m : Nat} {F : Nat → Nat → Int32} {w : Nat} (hd : zLd σ c m F w) {f : Nat} (hf : f < m) : zEv (d + 0) MX4_isOpen [.ref c, .int (nI f)] σ (some (.int (zb (decide (F 5 f = -1))))) σ := by
  refine zCt.of (L := [some (.ref c), some (.int (nI f))]) (by decide) (Nat.le_of_ble_eq_true rfl) rfl (fun X hC hB => ?_)
  have hC : zC X RX4 cX4_isOpen 2 (d + 0) 0 0 := hC
  have hB : zB X (some .boolean) 0 0 "isOpen" σ _ := hB
  show zV X 2 0 [some (.ref c), some (.int (nI f))] [] 0 0 σ
  have hm := hd.2.1
  refine v_aload_n (q := 1) hC dX4_isOpen_0 rfl rfl rfl ?_
  refine v_getR (q := 4) (r := (c + 1 + 5)) hC dX4_isOpen_1 rfl fX4_27 hg.1 (hg.2 5 (by decide)).2 ?_
  refine v_iload_n (q := 5) hC dX4_isOpen_4 rfl rfl rfl ?_
  refine v_ialdN (q := 6) (j := f) hC dX4_isOpen_5 rfl (hg.2 5 (by decide)).1 rfl (by omega) (by decide) ?_
  rw [hd.2.2.2 5 f (by decide) hf]
  refine v_iconst (q := 7) (v := -1) hC dX4_isOpen_6 rfl (by decide) ?_
  refine v_icmp_ne (q := 10) (tgt := 14) hC dX4_isOpen_7 rfl (by decide) (fun h7 => ?_) (fun h7 => ?_)
  · refine v_iconst (q := 15) (v := 0) hC dX4_isOpen_14 rfl (by decide) ?_
    refine v_zreturn hC hB dX4_isOpen_15 ⟨Nat.le_refl _, Nat.le_refl _⟩ (by first | exact Or.inl rfl | exact Or.inr rfl | exact zb_01 _) ?_
    first | exact ⟨zbt (by simp_all), rfl⟩ | exact ⟨zbf (by simp_all), rfl⟩
  · refine v_iconst (q := 11) (v := 1) hC dX4_isOpen_10 rfl (by decide) ?_
    refine v_goto (q := 15) hC dX4_isOpen_11 (by decide) ?_
    refine v_zreturn hC hB dX4_isOpen_15 ⟨Nat.le_refl _, Nat.le_refl _⟩ (by first | exact Or.inl rfl | exact Or.inr rfl | exact zb_01 _) ?_
    first | exact ⟨zbt (by simp_all), rfl⟩ | exact ⟨zbf (by simp_all), rfl⟩

/-- the law of repaying favour g by one of a FOR b -/
def pMR (kd : Nat → Nat) (kin : Nat → Nat → Bool) (t : Nat) (F : Nat → Nat → Int32) (w a b : Nat) (price : Int32) (g : Nat) : Bool := decide (F 1 g = nI a) && decide (F 5 g = -1) && !decide (nI b = F 0 g) && !kin b (dN (F 0 g)) && !decide (price < if kd a = 2 then F 2 g - 1 else F 2 g) && !decide (nI w - F 3 g > nI (pTm kd t a))
def pLf (kd : Nat → Nat) (kin met : Nat → Nat → Bool) (t : Nat) (F : Nat → Nat → Int32) (w a b : Nat) (price : Int32) (old : Option Nat) : Bool := !decide (a = b) && !pIs 1 (kd a) && pKn kd kin met a b && (match old with
  | none => true
  | some g => pMR kd kin t F w a b price g)

set_option maxRecDepth 100000 in
set_option maxHeartbeats 4000000 in
theorem ct_X4_mayRepay (d : Nat) {σ : zSt} {c : Nat} (hg : zLg σ c) {m : Nat} {F : Nat → Nat → Int32} {w : Nat} (hd : zLd σ c m F w) {n : Nat} {kd : Nat → Nat} {kin met : Nat → Nat → Bool} {t : Nat} (hL : zLay σ) (hF : zFk σ n kd kin met t) (hw : pLw m F n w) {a b g : Nat} (ha : a < n) (hb : b < n) (hgm : g < m) (price : Int32) : zEv (d + 2) MX4_mayRepay [.ref c, .ref 8, .int (nI a), .int (nI b), .int price, .int (nI g)] σ (some (.int (zb (pMR kd kin t F w a b price g)))) σ := by
  refine zCt.of (L := [some (.ref c), some (.ref 8), some (.int (nI a)), some (.int (nI b)), some (.int price), some (.int (nI g)), none]) (by decide) (Nat.le_of_ble_eq_true rfl) rfl (fun X hC hB => ?_)
  have hC : zC X RX4 cX4_mayRepay 7 (d + 2) 0 0 := hC
  have hB : zB X (some .boolean) 0 0 "mayRepay" σ _ := hB
  show zV X 7 0 [some (.ref c), some (.ref 8), some (.int (nI a)), some (.int (nI b)), some (.int price), some (.int (nI g)), none] [] 0 0 σ
  have hm := hd.2.1
  have hn6 := hF.2.1
  obtain ⟨u, hu, e0⟩ := (hw.2 g hgm).1
  have eD : dN (F 0 g) = u := by rw [e0]; exact dN_nI (by omega)
  refine v_aload_n (q := 1) hC dX4_mayRepay_0 rfl rfl rfl ?_
  refine v_getR (q := 4) (r := (c + 1 + 0)) hC dX4_mayRepay_1 rfl fX4_9 hg.1 (hg.2 0 (by decide)).2 ?_
  refine v_iload (q := 6) hC dX4_mayRepay_4 rfl rfl ?_
  refine v_ialdN (q := 7) (j := g) hC dX4_mayRepay_6 rfl (hg.2 0 (by decide)).1 rfl (by omega) (by decide) ?_
  rw [hd.2.2.2 0 g (by decide) hgm]
  refine v_istore (q := 9) (L' := [_, _, _, _, _, _, _]) hC dX4_mayRepay_7 rfl (by decide) rfl rfl ?_
  refine v_aload_n (q := 10) hC dX4_mayRepay_9 rfl rfl rfl ?_
  refine v_getR (q := 13) (r := (c + 1 + 1)) hC dX4_mayRepay_10 rfl fX4_15 hg.1 (hg.2 1 (by decide)).2 ?_
  refine v_iload (q := 15) hC dX4_mayRepay_13 rfl rfl ?_
  refine v_ialdN (q := 16) (j := g) hC dX4_mayRepay_15 rfl (hg.2 1 (by decide)).1 rfl (by omega) (by decide) ?_
  rw [hd.2.2.2 1 g (by decide) hgm]
  refine v_iload_n (q := 17) hC dX4_mayRepay_16 rfl rfl rfl ?_
  refine v_icmp_ne (q := 20) (tgt := 86) hC dX4_mayRepay_17 rfl (by decide) (fun h17 => ?_) (fun h17 => ?_)
  · refine v_iconst (q := 87) (v := 0) hC dX4_mayRepay_86 rfl (by decide) ?_
    refine v_zreturn hC hB dX4_mayRepay_87 ⟨Nat.le_refl _, Nat.le_refl _⟩ (by first | exact Or.inl rfl | exact Or.inr rfl | exact zb_01 _) ?_
    first | exact ⟨zbt (by unfold pMR; rw [eD]; simp_all [zb_eq0]), rfl⟩ | exact ⟨zbf (by unfold pMR; rw [eD]; simp_all [zb_eq0]), rfl⟩
  · refine v_aload_n (q := 21) hC dX4_mayRepay_20 rfl rfl rfl ?_
    refine v_iload (q := 23) hC dX4_mayRepay_21 rfl rfl ?_
    refine v_callV1 (q := 26) (As := [_]) hC dX4_mayRepay_23 rfl lX4_56 mX4_isOpen iX4_isOpen eX4_isOpen rfl hg.1 (ct_X4_isOpen (d + 1) hg hd hgm) rfl rfl (by omega) rfl (Nat.le_of_ble_eq_true rfl) ?_
    refine v_if_eq (q := 29) (tgt := 86) hC dX4_mayRepay_26 rfl (by decide) (fun h26 => ?_) (fun h26 => ?_)
    · refine v_iconst (q := 87) (v := 0) hC dX4_mayRepay_86 rfl (by decide) ?_
      refine v_zreturn hC hB dX4_mayRepay_87 ⟨Nat.le_refl _, Nat.le_refl _⟩ (by first | exact Or.inl rfl | exact Or.inr rfl | exact zb_01 _) ?_
      first | exact ⟨zbt (by unfold pMR; rw [eD]; simp_all [zb_eq0]), rfl⟩ | exact ⟨zbf (by unfold pMR; rw [eD]; simp_all [zb_eq0]), rfl⟩
    · refine v_iload_n (q := 30) hC dX4_mayRepay_29 rfl rfl rfl ?_
      refine v_iload (q := 32) hC dX4_mayRepay_30 rfl rfl ?_
      refine v_icmp_eq (q := 35) (tgt := 86) hC dX4_mayRepay_32 rfl (by decide) (fun h32 => ?_) (fun h32 => ?_)
      · refine v_iconst (q := 87) (v := 0) hC dX4_mayRepay_86 rfl (by decide) ?_
        refine v_zreturn hC hB dX4_mayRepay_87 ⟨Nat.le_refl _, Nat.le_refl _⟩ (by first | exact Or.inl rfl | exact Or.inr rfl | exact zb_01 _) ?_
        first | exact ⟨zbt (by unfold pMR; rw [eD]; simp_all [zb_eq0]), rfl⟩ | exact ⟨zbf (by unfold pMR; rw [eD]; simp_all [zb_eq0]), rfl⟩
      · refine v_aload_n (q := 36) hC dX4_mayRepay_35 rfl rfl rfl ?_
        refine v_iload_n (q := 37) hC dX4_mayRepay_36 rfl rfl rfl ?_
        refine v_iload (q := 39) hC dX4_mayRepay_37 rfl rfl ?_
        rw [e0]
        refine v_callV1 (q := 42) (As := [_, _]) hC dX4_mayRepay_39 rfl lX4_60 mX2_akin iX2_akin eX2_akin rfl (hL.1 8 (by decide)) (ct_X2_akin d hL hF (by omega) (by omega)) rfl rfl (by omega) rfl (Nat.le_of_ble_eq_true rfl) ?_
        refine v_if_ne (q := 45) (tgt := 86) hC dX4_mayRepay_42 rfl (by decide) (fun h42 => ?_) (fun h42 => ?_)
        · refine v_iconst (q := 87) (v := 0) hC dX4_mayRepay_86 rfl (by decide) ?_
          refine v_zreturn hC hB dX4_mayRepay_87 ⟨Nat.le_refl _, Nat.le_refl _⟩ (by first | exact Or.inl rfl | exact Or.inr rfl | exact zb_01 _) ?_
          first | exact ⟨zbt (by unfold pMR; rw [eD]; simp_all [zb_eq0]), rfl⟩ | exact ⟨zbf (by unfold pMR; rw [eD]; simp_all [zb_eq0]), rfl⟩
        · refine v_iload (q := 47) hC dX4_mayRepay_45 rfl rfl ?_
          refine v_aload_n (q := 48) hC dX4_mayRepay_47 rfl rfl rfl ?_
          refine v_iload_n (q := 49) hC dX4_mayRepay_48 rfl rfl rfl ?_
          refine v_aload_n (q := 50) hC dX4_mayRepay_49 rfl rfl rfl ?_
          refine v_getR (q := 53) (r := (c + 1 + 2)) hC dX4_mayRepay_50 rfl fX4_18 hg.1 (hg.2 2 (by decide)).2 ?_
          refine v_iload (q := 55) hC dX4_mayRepay_53 rfl rfl ?_
          refine v_ialdN (q := 56) (j := g) hC dX4_mayRepay_55 rfl (hg.2 2 (by decide)).1 rfl (by omega) (by decide) ?_
          rw [hd.2.2.2 2 g (by decide) hgm]
          refine v_callV1 (q := 59) (As := [_, _]) hC dX4_mayRepay_56 rfl lX4_63 mX2_leastWorthBy iX2_leastWorthBy eX2_leastWorthBy rfl (hL.1 8 (by decide)) (ct_X2_leastWorthBy d hL hF ha _) rfl rfl (by omega) rfl (Nat.le_of_ble_eq_true rfl) ?_
          refine v_icmp_lt (q := 62) (tgt := 86) hC dX4_mayRepay_59 rfl (by decide) (fun h59 => ?_) (fun h59 => ?_)
          · refine v_iconst (q := 87) (v := 0) hC dX4_mayRepay_86 rfl (by decide) ?_
            refine v_zreturn hC hB dX4_mayRepay_87 ⟨Nat.le_refl _, Nat.le_refl _⟩ (by first | exact Or.inl rfl | exact Or.inr rfl | exact zb_01 _) ?_
            first | exact ⟨zbt (by unfold pMR; rw [eD]; simp_all [zb_eq0]), rfl⟩ | exact ⟨zbf (by unfold pMR; rw [eD]; simp_all [zb_eq0]), rfl⟩
          · refine v_aload_n (q := 63) hC dX4_mayRepay_62 rfl rfl rfl ?_
            refine v_getI (q := 66) hC dX4_mayRepay_63 rfl fX4_34 hg.1 ?_
            refine v_aload_n (q := 67) hC dX4_mayRepay_66 rfl rfl rfl ?_
            refine v_getR (q := 70) (r := (c + 1 + 3)) hC dX4_mayRepay_67 rfl fX4_21 hg.1 (hg.2 3 (by decide)).2 ?_
            refine v_iload (q := 72) hC dX4_mayRepay_70 rfl rfl ?_
            refine v_ialdN (q := 73) (j := g) hC dX4_mayRepay_72 rfl (hg.2 3 (by decide)).1 rfl (by omega) (by decide) ?_
            rw [hd.2.2.2 3 g (by decide) hgm, hd.2.2.1]
            refine v_isub (q := 74) hC dX4_mayRepay_73 rfl ?_
            refine v_aload_n (q := 75) hC dX4_mayRepay_74 rfl rfl rfl ?_
            refine v_iload_n (q := 76) hC dX4_mayRepay_75 rfl rfl rfl ?_
            refine v_callV1 (q := 79) (As := [_]) hC dX4_mayRepay_76 rfl lX4_67 mX2_termOf iX2_termOf eX2_termOf rfl (hL.1 8 (by decide)) (ct_X2_termOf d hL hF ha) rfl rfl (by omega) rfl (Nat.le_of_ble_eq_true rfl) ?_
            refine v_icmp_gt (q := 82) (tgt := 86) hC dX4_mayRepay_79 rfl (by decide) (fun h79 => ?_) (fun h79 => ?_)
            · refine v_iconst (q := 87) (v := 0) hC dX4_mayRepay_86 rfl (by decide) ?_
              refine v_zreturn hC hB dX4_mayRepay_87 ⟨Nat.le_refl _, Nat.le_refl _⟩ (by first | exact Or.inl rfl | exact Or.inr rfl | exact zb_01 _) ?_
              first | exact ⟨zbt (by unfold pMR; rw [eD]; simp_all [zb_eq0]), rfl⟩ | exact ⟨zbf (by unfold pMR; rw [eD]; simp_all [zb_eq0]), rfl⟩
            · refine v_iconst (q := 83) (v := 1) hC dX4_mayRepay_82 rfl (by decide) ?_
              refine v_goto (q := 87) hC dX4_mayRepay_83 (by decide) ?_
              refine v_zreturn hC hB dX4_mayRepay_87 ⟨Nat.le_refl _, Nat.le_refl _⟩ (by first | exact Or.inl rfl | exact Or.inr rfl | exact zb_01 _) ?_
              first | exact ⟨zbt (by unfold pMR; rw [eD]; simp_all [zb_eq0]), rfl⟩ | exact ⟨zbf (by unfold pMR; rw [eD]; simp_all [zb_eq0]), rfl⟩

set_option maxRecDepth 100000 in
set_option maxHeartbeats 4000000 in
theorem ct_X4_isLawful (d : Nat) {σ : zSt} {c : Nat} (hg : zLg σ c) {m : Nat} {F : Nat → Nat → Int32} {w : Nat} (hd : zLd σ c m F w) {n : Nat} {kd : Nat → Nat} {kin met : Nat → Nat → Bool} {t : Nat} (hL : zLay σ) (hF : zFk σ n kd kin met t) (hw : pLw m F n w) {a b : Nat} (ha : a < n) (hb : b < n) (price : Int32) {old : Option Nat} (ho : ∀ g, old = some g → g < m) : zEv (d + 3) MX4_isLawful [.ref c, .ref 8, .int (nI a), .int (nI b), .int price, .int (zo old)] σ (some (.int (zb (pLf kd kin met t F w a b price old)))) σ := by
  refine zCt.of (L := [some (.ref c), some (.ref 8), some (.int (nI a)), some (.int (nI b)), some (.int price), some (.int (zo old))]) (by decide) (Nat.le_of_ble_eq_true rfl) rfl (fun X hC hB => ?_)
  have hC : zC X RX4 cX4_isLawful 6 (d + 3) 0 0 := hC
  have hB : zB X (some .boolean) 0 0 "isLawful" σ _ := hB
  show zV X 6 0 [some (.ref c), some (.ref 8), some (.int (nI a)), some (.int (nI b)), some (.int price), some (.int (zo old))] [] 0 0 σ
  have hm := hd.2.1
  have hn6 := hF.2.1
  have c0 : nI a = nI b ↔ a = b := nI_eq (by omega) (by omega)
  refine v_iload_n (q := 1) hC dX4_isLawful_0 rfl rfl rfl ?_
  refine v_iload_n (q := 2) hC dX4_isLawful_1 rfl rfl rfl ?_
  refine v_icmp_eq (q := 5) (tgt := 23) hC dX4_isLawful_2 rfl (by decide) (fun h2 => ?_) (fun h2 => ?_)
  · refine v_iconst (q := 24) (v := 0) hC dX4_isLawful_23 rfl (by decide) ?_
    refine v_zreturn hC hB dX4_isLawful_24 ⟨Nat.le_refl _, Nat.le_refl _⟩ (by first | exact Or.inl rfl | exact Or.inr rfl | exact zb_01 _) ?_
    first | exact ⟨zbt (by simp_all [zb_eq0, pLf]), rfl⟩ | exact ⟨zbf (by simp_all [zb_eq0, pLf]), rfl⟩
  · refine v_aload_n (q := 6) hC dX4_isLawful_5 rfl rfl rfl ?_
    refine v_iload_n (q := 7) hC dX4_isLawful_6 rfl rfl rfl ?_
    refine v_iconst (q := 8) (v := 1) hC dX4_isLawful_7 rfl (by decide) ?_
    refine v_callV1 (q := 11) (As := [_, _]) hC dX4_isLawful_8 rfl lX4_43 mX2_isA iX2_isA eX2_isA rfl (hL.1 8 (by decide)) (ct_X2_isA (d + 2) hL hF (k := 1) ha (by decide)) rfl rfl (by omega) rfl (Nat.le_of_ble_eq_true rfl) ?_
    refine v_if_ne (q := 14) (tgt := 23) hC dX4_isLawful_11 rfl (by decide) (fun h11 => ?_) (fun h11 => ?_)
    · refine v_iconst (q := 24) (v := 0) hC dX4_isLawful_23 rfl (by decide) ?_
      refine v_zreturn hC hB dX4_isLawful_24 ⟨Nat.le_refl _, Nat.le_refl _⟩ (by first | exact Or.inl rfl | exact Or.inr rfl | exact zb_01 _) ?_
      first | exact ⟨zbt (by simp_all [zb_eq0, pLf]), rfl⟩ | exact ⟨zbf (by simp_all [zb_eq0, pLf]), rfl⟩
    · refine v_aload_n (q := 15) hC dX4_isLawful_14 rfl rfl rfl ?_
      refine v_iload_n (q := 16) hC dX4_isLawful_15 rfl rfl rfl ?_
      refine v_iload_n (q := 17) hC dX4_isLawful_16 rfl rfl rfl ?_
      refine v_callV1 (q := 20) (As := [_, _]) hC dX4_isLawful_17 rfl lX4_49 mX2_know iX2_know eX2_know rfl (hL.1 8 (by decide)) (ct_X2_know (d + 1) hL hF ha hb) rfl rfl (by omega) rfl (Nat.le_of_ble_eq_true rfl) ?_
      refine v_if_ne (q := 23) (tgt := 25) hC dX4_isLawful_20 rfl (by decide) (fun h20 => ?_) (fun h20 => ?_)
      · refine v_iload (q := 27) hC dX4_isLawful_25 rfl rfl ?_
        refine v_iconst (q := 28) (v := -1) hC dX4_isLawful_27 rfl (by decide) ?_
        refine v_icmp_eq (q := 31) (tgt := 45) hC dX4_isLawful_28 rfl (by decide) (fun h28 => ?_) (fun h28 => ?_)
        · cases old with
          | some g => exact absurd h28 (nI_m1 (by have := ho g rfl; omega))
          | none =>
          refine v_iconst (q := 46) (v := 1) hC dX4_isLawful_45 rfl (by decide) ?_
          refine v_goto (q := 50) hC dX4_isLawful_46 (by decide) ?_
          refine v_zreturn hC hB dX4_isLawful_50 ⟨Nat.le_refl _, Nat.le_refl _⟩ (by first | exact Or.inl rfl | exact Or.inr rfl | exact zb_01 _) ?_
          first | exact ⟨zbt (by simp_all [zb_eq0, pLf]), rfl⟩ | exact ⟨zbf (by simp_all [zb_eq0, pLf]), rfl⟩
        · cases old with
          | none => exact absurd rfl h28
          | some g =>
          refine v_aload_n (q := 32) hC dX4_isLawful_31 rfl rfl rfl ?_
          refine v_aload_n (q := 33) hC dX4_isLawful_32 rfl rfl rfl ?_
          refine v_iload_n (q := 34) hC dX4_isLawful_33 rfl rfl rfl ?_
          refine v_iload_n (q := 35) hC dX4_isLawful_34 rfl rfl rfl ?_
          refine v_iload (q := 37) hC dX4_isLawful_35 rfl rfl ?_
          refine v_iload (q := 39) hC dX4_isLawful_37 rfl rfl ?_
          refine v_callV1 (q := 42) (As := [_, _, _, _, _]) hC dX4_isLawful_39 rfl lX4_52 mX4_mayRepay iX4_mayRepay eX4_mayRepay rfl hg.1 (ct_X4_mayRepay d hg hd hL hF hw ha hb (ho g rfl) price) rfl rfl (by omega) rfl (Nat.le_of_ble_eq_true rfl) ?_
          refine v_if_eq (q := 45) (tgt := 49) hC dX4_isLawful_42 rfl (by decide) (fun h42 => ?_) (fun h42 => ?_)
          · refine v_iconst (q := 50) (v := 0) hC dX4_isLawful_49 rfl (by decide) ?_
            refine v_zreturn hC hB dX4_isLawful_50 ⟨Nat.le_refl _, Nat.le_refl _⟩ (by first | exact Or.inl rfl | exact Or.inr rfl | exact zb_01 _) ?_
            first | exact ⟨zbt (by simp_all [zb_eq0, pLf]), rfl⟩ | exact ⟨zbf (by simp_all [zb_eq0, pLf]), rfl⟩
          · refine v_iconst (q := 46) (v := 1) hC dX4_isLawful_45 rfl (by decide) ?_
            refine v_goto (q := 50) hC dX4_isLawful_46 (by decide) ?_
            refine v_zreturn hC hB dX4_isLawful_50 ⟨Nat.le_refl _, Nat.le_refl _⟩ (by first | exact Or.inl rfl | exact Or.inr rfl | exact zb_01 _) ?_
            first | exact ⟨zbt (by simp_all [zb_eq0, pLf]), rfl⟩ | exact ⟨zbf (by simp_all [zb_eq0, pLf]), rfl⟩
      · refine v_iconst (q := 24) (v := 0) hC dX4_isLawful_23 rfl (by decide) ?_
        refine v_zreturn hC hB dX4_isLawful_24 ⟨Nat.le_refl _, Nat.le_refl _⟩ (by first | exact Or.inl rfl | exact Or.inr rfl | exact zb_01 _) ?_
        first | exact ⟨zbt (by simp_all [zb_eq0, pLf]), rfl⟩ | exact ⟨zbf (by simp_all [zb_eq0, pLf]), rfl⟩

