/-! ===== leaves: two, with; Pairs; Folk ===== -/
-- two: the place of two
set_option maxRecDepth 100000 in
set_option maxHeartbeats 4000000 in
theorem ct_X11_two (d : Nat) {σ : zSt} (a b : Int32) : zEv (d + 0) MX11_two [.int a, .int b] σ (some (.int (a * 6 + b))) σ := by
  refine zCt.of (L := [some (.int a), some (.int b)]) (by decide) (Nat.le_of_ble_eq_true rfl) rfl (fun X hC hB => ?_)
  have hC : zC X RX11 cX11_two 2 (d + 0) 0 0 := hC
  have hB : zB X (some .int) 0 0 "two" σ _ := hB
  show zV X 2 0 [some (.int a), some (.int b)] [] 0 0 σ
  refine v_iload_n (q := 1) hC dX11_two_0 rfl rfl rfl ?_
  refine v_bipush (q := 3) (v := 6) hC dX11_two_1 rfl (by decide) ?_
  refine v_imul (q := 4) hC dX11_two_3 rfl ?_
  refine v_iload_n (q := 5) hC dX11_two_4 rfl rfl rfl ?_
  refine v_iadd (q := 6) hC dX11_two_5 rfl ?_
  refine v_ireturn hC hB dX11_two_6 ⟨Nat.le_refl _, Nat.le_refl _⟩ ?_
  exact ⟨rfl, rfl⟩

set_option maxRecDepth 100000 in
set_option maxHeartbeats 4000000 in
theorem ct_X11_with (d : Nat) {σ : zSt} (h : Int64) (x : Int32) : zEv (d + 0) MX11_with [.long h, .int x] σ (some (.long (31 * h + x.toInt64))) σ := by
  refine zCt.of (L := [some (.long h), none, some (.int x)]) (by decide) (Nat.le_of_ble_eq_true rfl) rfl (fun X hC hB => ?_)
  have hC : zC X RX11 cX11_with 3 (d + 0) 0 0 := hC
  have hB : zB X (some .long) 0 0 "with" σ _ := hB
  show zV X 3 0 [some (.long h), none, some (.int x)] [] 0 0 σ
  refine v_ldc2 (q := 3) hC dX11_with_0 rfl kX11_309 ?_
  refine v_lload_n (q := 4) hC dX11_with_3 rfl rfl rfl ?_
  refine v_lmul (q := 5) hC dX11_with_4 rfl ?_
  refine v_iload_n (q := 6) hC dX11_with_5 rfl rfl rfl ?_
  refine v_i2l (q := 7) hC dX11_with_6 rfl ?_
  refine v_ladd (q := 8) hC dX11_with_7 rfl ?_
  refine v_lreturn hC hB dX11_with_8 ⟨Nat.le_refl _, Nat.le_refl _⟩ ?_
  exact ⟨rfl, rfl⟩

/-- a Pairs at cell c, its row at c + 1 -/
def zPr (σ : zSt) (c : Nat) : Prop := σ.1[c]? = some (0, 6) ∧ σ.1[c + 1]? = some (2, 36) ∧ zR σ c 0 = some (c + 1)
theorem zPr.same {cs rs : List Nat} {σ σ' : zSt} {c : Nat} (h : zPr σ c) (hS : zSame cs rs σ σ') (hc : c ∉ rs) : zPr σ' c := ⟨by rw [hS.1]; exact h.1, by rw [hS.1]; exact h.2.1, by rw [hS.2.2.1 c hc]; exact h.2.2⟩

set_option maxRecDepth 100000 in
set_option maxHeartbeats 4000000 in
theorem ct_X6_has (d : Nat) {σ : zSt} {c : Nat} (hp : zPr σ c) {a b : Nat} (ha : a < 6) (hb : b < 6) (h01 : zI σ (c + 1) (6 * a + b) = 0 ∨ zI σ (c + 1) (6 * a + b) = 1) : zEv (d + 0) MX6_has [.ref c, .int (nI a), .int (nI b)] σ (some (.int (zI σ (c + 1) (6 * a + b)))) σ := by
  refine zCt.of (L := [some (.ref c), some (.int (nI a)), some (.int (nI b))]) (by decide) (Nat.le_of_ble_eq_true rfl) rfl (fun X hC hB => ?_)
  have hC : zC X RX6 cX6_has 3 (d + 0) 0 0 := hC
  have hB : zB X (some .boolean) 0 0 "has" σ _ := hB
  show zV X 3 0 [some (.ref c), some (.int (nI a)), some (.int (nI b))] [] 0 0 σ
  refine v_aload_n (q := 1) hC dX6_has_0 rfl rfl rfl ?_
  refine v_getR (q := 4) (r := (c + 1)) hC dX6_has_1 rfl fX6_9 hp.1 hp.2.2 ?_
  refine v_iload_n (q := 5) hC dX6_has_4 rfl rfl rfl ?_
  refine v_bipush (q := 7) (v := 6) hC dX6_has_5 rfl (by decide) ?_
  refine v_imul (q := 8) hC dX6_has_7 rfl ?_
  refine v_iload_n (q := 9) hC dX6_has_8 rfl rfl rfl ?_
  refine v_iadd (q := 10) hC dX6_has_9 rfl ?_
  refine v_zaldN (q := 11) (j := 6 * a + b) hC dX6_has_10 rfl hp.2.1 (z6 a b) (by omega) (by decide) ?_
  refine v_zreturn hC hB dX6_has_11 ⟨Nat.le_refl _, Nat.le_refl _⟩ h01 ?_
  exact ⟨rfl, rfl⟩

set_option maxRecDepth 100000 in
set_option maxHeartbeats 4000000 in
theorem ct_X6_add (d : Nat) {σ : zSt} {c : Nat} (hp : zPr σ c) {a b : Nat} (ha : a < 6) (hb : b < 6) : zEv (d + 1) MX6_add [.ref c, .int (nI a), .int (nI b)] σ none (zsI (zsI (zsI σ (c + 1) (6 * a + b) 1) (c + 1) (6 * b + a) 1) c 1 (zI σ c 1 + 1)) := by
  refine zCt.of (L := [some (.ref c), some (.int (nI a)), some (.int (nI b))]) (by decide) (Nat.le_of_ble_eq_true rfl) rfl (fun X hC hB => ?_)
  have hC : zC X RX6 cX6_add 3 (d + 1) 0 0 := hC
  have hB : zB X none 0 0 "add" σ _ := hB
  show zV X 3 0 [some (.ref c), some (.int (nI a)), some (.int (nI b))] [] 0 0 σ
  refine v_aload_n (q := 1) hC dX6_add_0 rfl rfl rfl ?_
  refine v_getR (q := 4) (r := (c + 1)) hC dX6_add_1 rfl fX6_9 hp.1 hp.2.2 ?_
  refine v_iload_n (q := 5) hC dX6_add_4 rfl rfl rfl ?_
  refine v_iload_n (q := 6) hC dX6_add_5 rfl rfl rfl ?_
  refine v_callSN1 (q := 9) (As := [_, _]) hC dX6_add_6 rfl lX6_15 mX11_two sX11_two (ct_X11_two d _ _) rfl rfl (by omega) rfl (Nat.le_of_ble_eq_true rfl) ?_
  refine v_iconst (q := 10) (v := 1) hC dX6_add_9 rfl (by decide) ?_
  refine v_zastN (q := 11) (j := 6 * a + b) hC dX6_add_10 rfl hp.2.1 (z6 a b) (by omega) (by decide) (by first | exact Or.inl rfl | exact Or.inr rfl | exact zb_01 _) ?_
  refine v_aload_n (q := 12) hC dX6_add_11 rfl rfl rfl ?_
  refine v_getR (q := 15) (r := (c + 1)) hC dX6_add_12 rfl fX6_9 hp.1 hp.2.2 ?_
  refine v_iload_n (q := 16) hC dX6_add_15 rfl rfl rfl ?_
  refine v_iload_n (q := 17) hC dX6_add_16 rfl rfl rfl ?_
  refine v_callSN1 (q := 20) (As := [_, _]) hC dX6_add_17 rfl lX6_15 mX11_two sX11_two (ct_X11_two d _ _) rfl rfl (by omega) rfl (Nat.le_of_ble_eq_true rfl) ?_
  refine v_iconst (q := 21) (v := 1) hC dX6_add_20 rfl (by decide) ?_
  refine v_zastN (q := 22) (j := 6 * b + a) hC dX6_add_21 rfl hp.2.1 (z6 b a) (by omega) (by decide) (by first | exact Or.inl rfl | exact Or.inr rfl | exact zb_01 _) ?_
  refine v_aload_n (q := 23) hC dX6_add_22 rfl rfl rfl ?_
  refine v_dup (q := 24) hC dX6_add_23 rfl rfl ?_
  refine v_getI (q := 27) hC dX6_add_24 rfl fX6_19 hp.1 ?_
  refine v_iconst (q := 28) (v := 1) hC dX6_add_27 rfl (by decide) ?_
  refine v_iadd (q := 29) hC dX6_add_28 rfl ?_
  refine v_putI (q := 32) hC dX6_add_29 rfl fX6_19 hp.1 ?_
  refine v_return hC hB dX6_add_32 ⟨Nat.le_refl _, Nat.le_refl _⟩ ?_
  refine ⟨rfl, ?_⟩
  simp [zI_sI]

set_option maxRecDepth 100000 in
set_option maxHeartbeats 4000000 in
theorem ct_X6_clear (d : Nat) {σ : zSt} {c : Nat} (hp : zPr σ c) : zCt (d + 0) MX6_clear [.ref c] σ (fun r σ' => r = none ∧ zSame [c, c + 1] [] σ σ' ∧ (∀ j, j < 36 → zI σ' (c + 1) j = 0) ∧ zI σ' c 1 = 0) := by
  refine zCt.of (L := [some (.ref c), none]) (by decide) (Nat.le_of_ble_eq_true rfl) rfl (fun X hC hB => ?_)
  have hC : zC X RX6 cX6_clear 2 (d + 0) 0 0 := hC
  have hB : zB X none 0 0 "clear" σ _ := hB
  show zV X 2 0 [some (.ref c), none] [] 0 0 σ
  have lp : ∀ (r : Nat) (i : Nat) (σ1 : zSt), i + r = 36 → zSame [c, c + 1] [] σ σ1 → (∀ j, j < i → zI σ1 (c + 1) j = 0) → zV X 2 2 [some (.ref c), some (.int (nI i))] [] 0 0 σ1 := by
    intro r
    induction r with
    | zero =>
      intro i σ1 hi hS hz
      have hp1 := hp.same hS (by simp)
      refine v_iload_n (q := 3) hC dX6_clear_2 rfl rfl rfl ?_
      refine v_aload_n (q := 4) hC dX6_clear_3 rfl rfl rfl ?_
      refine v_getR (q := 7) (r := (c + 1)) hC dX6_clear_4 rfl fX6_9 hp1.1 hp1.2.2 ?_
      refine v_alen (q := 8) hC dX6_clear_7 rfl hp1.2.1 rfl ?_
      refine v_icmp_ge (q := 11) (tgt := 24) hC dX6_clear_8 rfl (by decide) (fun h8 => ?_) (fun h8 => ?_)
      · refine v_aload_n (q := 25) hC dX6_clear_24 rfl rfl rfl ?_
        refine v_iconst (q := 26) (v := 0) hC dX6_clear_25 rfl (by decide) ?_
        refine v_putI (q := 29) hC dX6_clear_26 rfl fX6_19 hp1.1 ?_
        refine v_return hC hB dX6_clear_29 ⟨Nat.le_refl _, Nat.le_refl _⟩ ?_
        refine ⟨rfl, hS.addI (by simp), ?_, ?_⟩
        · intro j hj; rw [zI_sI, if_neg (by omega)]; exact hz j (by omega)
        · simp [zI_sI]
      · exact absurd (nI_le (a := 36) (b := i) (by omega) (by omega)) h8
    | succ r ih =>
      intro i σ1 hi hS hz
      have hp1 := hp.same hS (by simp)
      refine v_iload_n (q := 3) hC dX6_clear_2 rfl rfl rfl ?_
      refine v_aload_n (q := 4) hC dX6_clear_3 rfl rfl rfl ?_
      refine v_getR (q := 7) (r := (c + 1)) hC dX6_clear_4 rfl fX6_9 hp1.1 hp1.2.2 ?_
      refine v_alen (q := 8) hC dX6_clear_7 rfl hp1.2.1 rfl ?_
      refine v_icmp_ge (q := 11) (tgt := 24) hC dX6_clear_8 rfl (by decide) (fun h8 => ?_) (fun h8 => ?_)
      · exact absurd h8 (nI_ge (a := i) (b := 36) (by omega) (by omega))
      · refine v_aload_n (q := 12) hC dX6_clear_11 rfl rfl rfl ?_
        refine v_getR (q := 15) (r := (c + 1)) hC dX6_clear_12 rfl fX6_9 hp1.1 hp1.2.2 ?_
        refine v_iload_n (q := 16) hC dX6_clear_15 rfl rfl rfl ?_
        refine v_iconst (q := 17) (v := 0) hC dX6_clear_16 rfl (by decide) ?_
        refine v_zastN (q := 18) (j := i) hC dX6_clear_17 rfl hp1.2.1 rfl (by omega) (by decide) (by first | exact Or.inl rfl | exact Or.inr rfl | exact zb_01 _) ?_
        have hb1 := hp1
        refine v_iinc (q := 21) (v := 1) (L' := [_, _]) hC dX6_clear_18 rfl rfl (by decide) (by decide) rfl rfl ?_
        refine v_goto (q := 2) hC dX6_clear_21 (by decide) ?_
        rw [nI_1]
        exact ih (i + 1) _ (by omega) (hS.addI (by simp)) (fun j hj => by rw [zI_sI]; split <;> first | rfl | exact hz j (by omega))
  refine v_iconst (q := 1) (v := 0) hC dX6_clear_0 rfl (by decide) ?_
  refine v_istore_n (q := 2) (L' := [_, _]) hC dX6_clear_1 rfl rfl (by decide) rfl rfl ?_
  exact lp 36 0 σ (by omega) zSame.rf (fun j hj => absurd hj (by omega))

set_option maxRecDepth 100000 in
set_option maxHeartbeats 4000000 in
theorem ct_X6_copyFrom (d : Nat) {σ : zSt} {c e : Nat} (hp : zPr σ c) (he : zPr σ e) (h01 : ∀ j, j < 36 → zI σ (e + 1) j = 0 ∨ zI σ (e + 1) j = 1) : zEv (d + 1) MX6_copyFrom [.ref c, .ref e] σ none (zsI (zsA σ (c + 1) (fun j => if j < 36 then zI σ (e + 1) j else zI σ (c + 1) j)) c 1 (zI (zsA σ (c + 1) (fun j => if j < 36 then zI σ (e + 1) j else zI σ (c + 1) j)) e 1)) := by
  refine zCt.of (L := [some (.ref c), some (.ref e)]) (by decide) (Nat.le_of_ble_eq_true rfl) rfl (fun X hC hB => ?_)
  have hC : zC X RX6 cX6_copyFrom 2 (d + 1) 0 0 := hC
  have hB : zB X none 0 0 "copyFrom" σ _ := hB
  show zV X 2 0 [some (.ref c), some (.ref e)] [] 0 0 σ
  refine v_aload_n (q := 1) hC dX6_copyFrom_0 rfl rfl rfl ?_
  refine v_getR (q := 4) (r := (e + 1)) hC dX6_copyFrom_1 rfl fX6_9 he.1 he.2.2 ?_
  refine v_iconst (q := 5) (v := 0) hC dX6_copyFrom_4 rfl (by decide) ?_
  refine v_aload_n (q := 6) hC dX6_copyFrom_5 rfl rfl rfl ?_
  refine v_getR (q := 9) (r := (c + 1)) hC dX6_copyFrom_6 rfl fX6_9 hp.1 hp.2.2 ?_
  refine v_iconst (q := 10) (v := 0) hC dX6_copyFrom_9 rfl (by decide) ?_
  refine v_aload_n (q := 11) hC dX6_copyFrom_10 rfl rfl rfl ?_
  refine v_getR (q := 14) (r := (c + 1)) hC dX6_copyFrom_11 rfl fX6_9 hp.1 hp.2.2 ?_
  refine v_alen (q := 15) hC dX6_copyFrom_14 rfl hp.2.1 rfl ?_
  refine zcopy (q := 18) 1 (Or.inr rfl) hC hB rfl dX6_copyFrom_15 rfl lX6_23 (by omega) he.2.1 hp.2.1 (by decide) rfl (fun _ => h01) (Nat.le_of_ble_eq_true rfl) ?_
  refine v_aload_n (q := 19) hC dX6_copyFrom_18 rfl rfl rfl ?_
  refine v_aload_n (q := 20) hC dX6_copyFrom_19 rfl rfl rfl ?_
  refine v_getI (q := 23) hC dX6_copyFrom_20 rfl fX6_19 he.1 ?_
  refine v_putI (q := 26) hC dX6_copyFrom_23 rfl fX6_19 hp.1 ?_
  refine v_return hC hB dX6_copyFrom_26 ⟨Nat.le_refl _, Nat.le_refl _⟩ ?_
  exact ⟨rfl, rfl⟩

theorem zbt {P : Bool} (h : P = true) : some (Value.int 1) = some (Value.int (zb P)) := by rw [h]; rfl
theorem zbf {P : Bool} (h : P = false) : some (Value.int 0) = some (Value.int (zb P)) := by rw [h]; rfl
def pIs (k own : Nat) : Bool := decide (k = 0) || decide (k = own) || (decide (k = 3) && decide (own = 4))
def pKn (kd : Nat → Nat) (kin met : Nat → Nat → Bool) (a b : Nat) : Bool := kin a b || met a b || pIs 3 (kd a) || pIs 3 (kd b)
/-- the class's law and people: n of them, of kinds kd, kin, met, the term t -/
def zFk (σ : zSt) (n : Nat) (kd : Nat → Nat) (kin met : Nat → Nat → Bool) (t : Nat) : Prop := zI σ 8 4 = nI n ∧ n ≤ 6 ∧ (∀ a, a < n → kd a ≤ 4 ∧ zI σ 13 a = nI (kd a)) ∧ (∀ a b, a < 6 → b < 6 → zI σ 10 (6 * a + b) = zb (kin a b) ∧ zI σ 12 (6 * a + b) = zb (met a b)) ∧ zI σ 8 3 = nI t ∧ t ≤ 9
theorem zFk.same {cs rs : List Nat} {σ σ' : zSt} {n : Nat} {kd : Nat → Nat} {kin met : Nat → Nat → Bool} {t : Nat} (h : zFk σ n kd kin met t) (hS : zSame cs rs σ σ') (hc : (cs.all fun c => !(c == 8) && !(c == 10) && !(c == 12) && !(c == 13)) = true) : zFk σ' n kd kin met t := by
  have hx : ∀ c, c = 8 ∨ c = 10 ∨ c = 12 ∨ c = 13 → c ∉ cs := by
    intro c hc1 hm
    have := List.all_eq_true.mp hc c hm
    rcases hc1 with rfl | rfl | rfl | rfl <;> simp at this
  obtain ⟨h1, h2, h3, h4, h5, h6⟩ := h
  have e := hS.2.2.2
  exact ⟨by rw [e 8 (hx 8 (by simp))]; exact h1, h2, fun a ha => ⟨(h3 a ha).1, by rw [e 13 (hx 13 (by simp))]; exact (h3 a ha).2⟩, fun a b ha hb => ⟨by rw [e 10 (hx 10 (by simp))]; exact (h4 a b ha hb).1, by rw [e 12 (hx 12 (by simp))]; exact (h4 a b ha hb).2⟩, by rw [e 8 (hx 8 (by simp))]; exact h5, h6⟩
theorem zPr.of {σ : zSt} (hL : zLay σ) {c : Nat} (hc : c = 4 ∨ c = 6 ∨ c = 9 ∨ c = 11) : zPr σ c := by
  rcases hc with rfl | rfl | rfl | rfl
  · exact ⟨hL.1 4 (by decide), hL.1 5 (by decide), hL.2 4 0 5 rfl⟩
  · exact ⟨hL.1 6 (by decide), hL.1 7 (by decide), hL.2 6 0 7 rfl⟩
  · exact ⟨hL.1 9 (by decide), hL.1 10 (by decide), hL.2 9 0 10 rfl⟩
  · exact ⟨hL.1 11 (by decide), hL.1 12 (by decide), hL.2 11 0 12 rfl⟩

set_option maxRecDepth 100000 in
set_option maxHeartbeats 4000000 in
theorem ct_X2_has (d : Nat) {σ : zSt} (hL : zLay σ) {n : Nat} (hn : zI σ 8 4 = nI n) (hn6 : n ≤ 6) (p : Int32) : zEv (d + 0) MX2_has [.ref 8, .int p] σ (some (.int (zb (zval n p)))) σ := by
  refine zCt.of (L := [some (.ref 8), some (.int p)]) (by decide) (Nat.le_of_ble_eq_true rfl) rfl (fun X hC hB => ?_)
  have hC : zC X RX2 cX2_has 2 (d + 0) 0 0 := hC
  have hB : zB X (some .boolean) 0 0 "has" σ _ := hB
  show zV X 2 0 [some (.ref 8), some (.int p)] [] 0 0 σ
  refine v_iload_n (q := 1) hC dX2_has_0 rfl rfl rfl ?_
  refine v_if_lt (q := 4) (tgt := 16) hC dX2_has_1 rfl (by decide) (fun h1 => ?_) (fun h1 => ?_)
  · refine v_iconst (q := 17) (v := 0) hC dX2_has_16 rfl (by decide) ?_
    refine v_zreturn hC hB dX2_has_17 ⟨Nat.le_refl _, Nat.le_refl _⟩ (by first | exact Or.inl rfl | exact Or.inr rfl | exact zb_01 _) ?_
    first
      | exact ⟨zbt (by have h9 : p < nI n := (by rw [← hn]; exact Int32.not_le.mp h9); rw [zltI (by omega)] at h9; rw [zlt0] at h1; exact decide_eq_true ⟨by omega, h9⟩), rfl⟩
      | exact ⟨zbf (by have h9 : ¬ p < nI n := (by rw [← hn]; exact Int32.not_lt.mpr h9); rw [zltI (by omega)] at h9; exact decide_eq_false (fun z => h9 z.2)), rfl⟩
      | exact ⟨zbf (by rw [zlt0] at h1; exact decide_eq_false (by omega)), rfl⟩
  · refine v_iload_n (q := 5) hC dX2_has_4 rfl rfl rfl ?_
    refine v_aload_n (q := 6) hC dX2_has_5 rfl rfl rfl ?_
    refine v_getI (q := 9) hC dX2_has_6 rfl fX2_38 (hL.1 8 (by decide)) ?_
    refine v_icmp_ge (q := 12) (tgt := 16) hC dX2_has_9 rfl (by decide) (fun h9 => ?_) (fun h9 => ?_)
    · refine v_iconst (q := 17) (v := 0) hC dX2_has_16 rfl (by decide) ?_
      refine v_zreturn hC hB dX2_has_17 ⟨Nat.le_refl _, Nat.le_refl _⟩ (by first | exact Or.inl rfl | exact Or.inr rfl | exact zb_01 _) ?_
      first
        | exact ⟨zbt (by have h9 : p < nI n := (by rw [← hn]; exact Int32.not_le.mp h9); rw [zltI (by omega)] at h9; rw [zlt0] at h1; exact decide_eq_true ⟨by omega, h9⟩), rfl⟩
        | exact ⟨zbf (by have h9 : ¬ p < nI n := (by rw [← hn]; exact Int32.not_lt.mpr h9); rw [zltI (by omega)] at h9; exact decide_eq_false (fun z => h9 z.2)), rfl⟩
        | exact ⟨zbf (by rw [zlt0] at h1; exact decide_eq_false (by omega)), rfl⟩
    · refine v_iconst (q := 13) (v := 1) hC dX2_has_12 rfl (by decide) ?_
      refine v_goto (q := 17) hC dX2_has_13 (by decide) ?_
      refine v_zreturn hC hB dX2_has_17 ⟨Nat.le_refl _, Nat.le_refl _⟩ (by first | exact Or.inl rfl | exact Or.inr rfl | exact zb_01 _) ?_
      first
        | exact ⟨zbt (by have h9 : p < nI n := (by rw [← hn]; exact Int32.not_le.mp h9); rw [zltI (by omega)] at h9; rw [zlt0] at h1; exact decide_eq_true ⟨by omega, h9⟩), rfl⟩
        | exact ⟨zbf (by have h9 : ¬ p < nI n := (by rw [← hn]; exact Int32.not_lt.mpr h9); rw [zltI (by omega)] at h9; exact decide_eq_false (fun z => h9 z.2)), rfl⟩
        | exact ⟨zbf (by rw [zlt0] at h1; exact decide_eq_false (by omega)), rfl⟩

set_option maxRecDepth 100000 in
set_option maxHeartbeats 4000000 in
theorem ct_X2_areTwo (d : Nat) {σ : zSt} (hL : zLay σ) {n : Nat} (hn : zI σ 8 4 = nI n) (hn6 : n ≤ 6) (a b : Int32) : zEv (d + 1) MX2_areTwo [.ref 8, .int a, .int b] σ (some (.int (zb (zval n a && zval n b && !decide (a = b))))) σ := by
  refine zCt.of (L := [some (.ref 8), some (.int a), some (.int b)]) (by decide) (Nat.le_of_ble_eq_true rfl) rfl (fun X hC hB => ?_)
  have hC : zC X RX2 cX2_areTwo 3 (d + 1) 0 0 := hC
  have hB : zB X (some .boolean) 0 0 "areTwo" σ _ := hB
  show zV X 3 0 [some (.ref 8), some (.int a), some (.int b)] [] 0 0 σ
  refine v_aload_n (q := 1) hC dX2_areTwo_0 rfl rfl rfl ?_
  refine v_iload_n (q := 2) hC dX2_areTwo_1 rfl rfl rfl ?_
  refine v_callV1 (q := 5) (As := [_]) hC dX2_areTwo_2 rfl lX2_41 mX2_has iX2_has eX2_has rfl (hL.1 8 (by decide)) (ct_X2_has d hL hn hn6 _) rfl rfl (by omega) rfl (Nat.le_of_ble_eq_true rfl) ?_
  refine v_if_eq (q := 8) (tgt := 25) hC dX2_areTwo_5 rfl (by decide) (fun h5 => ?_) (fun h5 => ?_)
  · refine v_iconst (q := 26) (v := 0) hC dX2_areTwo_25 rfl (by decide) ?_
    refine v_zreturn hC hB dX2_areTwo_26 ⟨Nat.le_refl _, Nat.le_refl _⟩ (by first | exact Or.inl rfl | exact Or.inr rfl | exact zb_01 _) ?_
    first | exact ⟨zbt (by simp_all [zb_eq0]), rfl⟩ | exact ⟨zbf (by simp_all [zb_eq0]), rfl⟩
  · refine v_aload_n (q := 9) hC dX2_areTwo_8 rfl rfl rfl ?_
    refine v_iload_n (q := 10) hC dX2_areTwo_9 rfl rfl rfl ?_
    refine v_callV1 (q := 13) (As := [_]) hC dX2_areTwo_10 rfl lX2_41 mX2_has iX2_has eX2_has rfl (hL.1 8 (by decide)) (ct_X2_has d hL hn hn6 _) rfl rfl (by omega) rfl (Nat.le_of_ble_eq_true rfl) ?_
    refine v_if_eq (q := 16) (tgt := 25) hC dX2_areTwo_13 rfl (by decide) (fun h13 => ?_) (fun h13 => ?_)
    · refine v_iconst (q := 26) (v := 0) hC dX2_areTwo_25 rfl (by decide) ?_
      refine v_zreturn hC hB dX2_areTwo_26 ⟨Nat.le_refl _, Nat.le_refl _⟩ (by first | exact Or.inl rfl | exact Or.inr rfl | exact zb_01 _) ?_
      first | exact ⟨zbt (by simp_all [zb_eq0]), rfl⟩ | exact ⟨zbf (by simp_all [zb_eq0]), rfl⟩
    · refine v_iload_n (q := 17) hC dX2_areTwo_16 rfl rfl rfl ?_
      refine v_iload_n (q := 18) hC dX2_areTwo_17 rfl rfl rfl ?_
      refine v_icmp_eq (q := 21) (tgt := 25) hC dX2_areTwo_18 rfl (by decide) (fun h18 => ?_) (fun h18 => ?_)
      · refine v_iconst (q := 26) (v := 0) hC dX2_areTwo_25 rfl (by decide) ?_
        refine v_zreturn hC hB dX2_areTwo_26 ⟨Nat.le_refl _, Nat.le_refl _⟩ (by first | exact Or.inl rfl | exact Or.inr rfl | exact zb_01 _) ?_
        first | exact ⟨zbt (by simp_all [zb_eq0]), rfl⟩ | exact ⟨zbf (by simp_all [zb_eq0]), rfl⟩
      · refine v_iconst (q := 22) (v := 1) hC dX2_areTwo_21 rfl (by decide) ?_
        refine v_goto (q := 26) hC dX2_areTwo_22 (by decide) ?_
        refine v_zreturn hC hB dX2_areTwo_26 ⟨Nat.le_refl _, Nat.le_refl _⟩ (by first | exact Or.inl rfl | exact Or.inr rfl | exact zb_01 _) ?_
        first | exact ⟨zbt (by simp_all [zb_eq0]), rfl⟩ | exact ⟨zbf (by simp_all [zb_eq0]), rfl⟩

set_option maxRecDepth 100000 in
set_option maxHeartbeats 4000000 in
theorem ct_X2_isA (d : Nat) {σ : zSt} (hL : zLay σ) {n : Nat} {kd : Nat → Nat} {kin met : Nat → Nat → Bool} {t : Nat} (hF : zFk σ n kd kin met t) {a k : Nat} (ha : a < n) (hk : k ≤ 4) : zEv (d + 0) MX2_isA [.ref 8, .int (nI a), .int (nI k)] σ (some (.int (zb (pIs k (kd a))))) σ := by
  refine zCt.of (L := [some (.ref 8), some (.int (nI a)), some (.int (nI k)), none]) (by decide) (Nat.le_of_ble_eq_true rfl) rfl (fun X hC hB => ?_)
  have hC : zC X RX2 cX2_isA 4 (d + 0) 0 0 := hC
  have hB : zB X (some .boolean) 0 0 "isA" σ _ := hB
  show zV X 4 0 [some (.ref 8), some (.int (nI a)), some (.int (nI k)), none] [] 0 0 σ
  have hka := hF.2.2.1 a ha
  have hn6 := hF.2.1
  refine v_aload_n (q := 1) hC dX2_isA_0 rfl rfl rfl ?_
  refine v_getR (q := 4) (r := 13) hC dX2_isA_1 rfl fX2_21 (hL.1 8 (by decide)) (hL.2 8 2 13 rfl) ?_
  refine v_iload_n (q := 5) hC dX2_isA_4 rfl rfl rfl ?_
  refine v_ialdN (q := 6) (j := a) hC dX2_isA_5 rfl (hL.1 13 (by decide)) rfl (by omega) (by decide) ?_
  rw [hka.2]
  refine v_istore_n (q := 7) (L' := [_, _, _, _]) hC dX2_isA_6 rfl rfl (by decide) rfl rfl ?_
  refine v_iload_n (q := 8) hC dX2_isA_7 rfl rfl rfl ?_
  refine v_if_eq (q := 11) (tgt := 26) hC dX2_isA_8 rfl (by decide) (fun h8 => ?_) (fun h8 => ?_)
  · refine v_iconst (q := 27) (v := 1) hC dX2_isA_26 rfl (by decide) ?_
    refine v_goto (q := 31) hC dX2_isA_27 (by decide) ?_
    refine v_zreturn hC hB dX2_isA_31 ⟨Nat.le_refl _, Nat.le_refl _⟩ (by first | exact Or.inl rfl | exact Or.inr rfl | exact zb_01 _) ?_
    have c0 : nI k = 0 ↔ k = 0 := by rw [← nI_0]; exact nI_eq (by omega) (by omega)
    have c1 : nI k = nI (kd a) ↔ k = kd a := nI_eq (by omega) (by omega)
    have c2 : nI k = 3 ↔ k = 3 := nI_eq (a := k) (b := 3) (by omega) (by omega)
    have c3 : nI (kd a) = 4 ↔ kd a = 4 := nI_eq (a := kd a) (b := 4) (by omega) (by omega)
    first | exact ⟨zbt (by simp_all [pIs]), rfl⟩ | exact ⟨zbf (by simp_all [pIs]), rfl⟩
  · refine v_iload_n (q := 12) hC dX2_isA_11 rfl rfl rfl ?_
    refine v_iload_n (q := 13) hC dX2_isA_12 rfl rfl rfl ?_
    refine v_icmp_eq (q := 16) (tgt := 26) hC dX2_isA_13 rfl (by decide) (fun h13 => ?_) (fun h13 => ?_)
    · refine v_iconst (q := 27) (v := 1) hC dX2_isA_26 rfl (by decide) ?_
      refine v_goto (q := 31) hC dX2_isA_27 (by decide) ?_
      refine v_zreturn hC hB dX2_isA_31 ⟨Nat.le_refl _, Nat.le_refl _⟩ (by first | exact Or.inl rfl | exact Or.inr rfl | exact zb_01 _) ?_
      have c0 : nI k = 0 ↔ k = 0 := by rw [← nI_0]; exact nI_eq (by omega) (by omega)
      have c1 : nI k = nI (kd a) ↔ k = kd a := nI_eq (by omega) (by omega)
      have c2 : nI k = 3 ↔ k = 3 := nI_eq (a := k) (b := 3) (by omega) (by omega)
      have c3 : nI (kd a) = 4 ↔ kd a = 4 := nI_eq (a := kd a) (b := 4) (by omega) (by omega)
      first | exact ⟨zbt (by simp_all [pIs]), rfl⟩ | exact ⟨zbf (by simp_all [pIs]), rfl⟩
    · refine v_iload_n (q := 17) hC dX2_isA_16 rfl rfl rfl ?_
      refine v_iconst (q := 18) (v := 3) hC dX2_isA_17 rfl (by decide) ?_
      refine v_icmp_ne (q := 21) (tgt := 30) hC dX2_isA_18 rfl (by decide) (fun h18 => ?_) (fun h18 => ?_)
      · refine v_iconst (q := 31) (v := 0) hC dX2_isA_30 rfl (by decide) ?_
        refine v_zreturn hC hB dX2_isA_31 ⟨Nat.le_refl _, Nat.le_refl _⟩ (by first | exact Or.inl rfl | exact Or.inr rfl | exact zb_01 _) ?_
        have c0 : nI k = 0 ↔ k = 0 := by rw [← nI_0]; exact nI_eq (by omega) (by omega)
        have c1 : nI k = nI (kd a) ↔ k = kd a := nI_eq (by omega) (by omega)
        have c2 : nI k = 3 ↔ k = 3 := nI_eq (a := k) (b := 3) (by omega) (by omega)
        have c3 : nI (kd a) = 4 ↔ kd a = 4 := nI_eq (a := kd a) (b := 4) (by omega) (by omega)
        first | exact ⟨zbt (by simp_all [pIs]), rfl⟩ | exact ⟨zbf (by simp_all [pIs]), rfl⟩
      · refine v_iload_n (q := 22) hC dX2_isA_21 rfl rfl rfl ?_
        refine v_iconst (q := 23) (v := 4) hC dX2_isA_22 rfl (by decide) ?_
        refine v_icmp_ne (q := 26) (tgt := 30) hC dX2_isA_23 rfl (by decide) (fun h23 => ?_) (fun h23 => ?_)
        · refine v_iconst (q := 31) (v := 0) hC dX2_isA_30 rfl (by decide) ?_
          refine v_zreturn hC hB dX2_isA_31 ⟨Nat.le_refl _, Nat.le_refl _⟩ (by first | exact Or.inl rfl | exact Or.inr rfl | exact zb_01 _) ?_
          have c0 : nI k = 0 ↔ k = 0 := by rw [← nI_0]; exact nI_eq (by omega) (by omega)
          have c1 : nI k = nI (kd a) ↔ k = kd a := nI_eq (by omega) (by omega)
          have c2 : nI k = 3 ↔ k = 3 := nI_eq (a := k) (b := 3) (by omega) (by omega)
          have c3 : nI (kd a) = 4 ↔ kd a = 4 := nI_eq (a := kd a) (b := 4) (by omega) (by omega)
          first | exact ⟨zbt (by simp_all [pIs]), rfl⟩ | exact ⟨zbf (by simp_all [pIs]), rfl⟩
        · refine v_iconst (q := 27) (v := 1) hC dX2_isA_26 rfl (by decide) ?_
          refine v_goto (q := 31) hC dX2_isA_27 (by decide) ?_
          refine v_zreturn hC hB dX2_isA_31 ⟨Nat.le_refl _, Nat.le_refl _⟩ (by first | exact Or.inl rfl | exact Or.inr rfl | exact zb_01 _) ?_
          have c0 : nI k = 0 ↔ k = 0 := by rw [← nI_0]; exact nI_eq (by omega) (by omega)
          have c1 : nI k = nI (kd a) ↔ k = kd a := nI_eq (by omega) (by omega)
          have c2 : nI k = 3 ↔ k = 3 := nI_eq (a := k) (b := 3) (by omega) (by omega)
          have c3 : nI (kd a) = 4 ↔ kd a = 4 := nI_eq (a := kd a) (b := 4) (by omega) (by omega)
          first | exact ⟨zbt (by simp_all [pIs]), rfl⟩ | exact ⟨zbf (by simp_all [pIs]), rfl⟩

set_option maxRecDepth 100000 in
set_option maxHeartbeats 4000000 in
theorem ct_X2_akin (d : Nat) {σ : zSt} (hL : zLay σ) {n : Nat} {kd : Nat → Nat} {kin met : Nat → Nat → Bool} {t : Nat} (hF : zFk σ n kd kin met t) {a b : Nat} (ha : a < 6) (hb : b < 6) : zEv (d + 1) MX2_akin [.ref 8, .int (nI a), .int (nI b)] σ (some (.int (zb (kin a b)))) σ := by
  refine zCt.of (L := [some (.ref 8), some (.int (nI a)), some (.int (nI b))]) (by decide) (Nat.le_of_ble_eq_true rfl) rfl (fun X hC hB => ?_)
  have hC : zC X RX2 cX2_akin 3 (d + 1) 0 0 := hC
  have hB : zB X (some .boolean) 0 0 "akin" σ _ := hB
  show zV X 3 0 [some (.ref 8), some (.int (nI a)), some (.int (nI b))] [] 0 0 σ
  refine v_aload_n (q := 1) hC dX2_akin_0 rfl rfl rfl ?_
  refine v_getR (q := 4) (r := 9) hC dX2_akin_1 rfl fX2_12 (hL.1 8 (by decide)) (hL.2 8 0 9 rfl) ?_
  refine v_iload_n (q := 5) hC dX2_akin_4 rfl rfl rfl ?_
  refine v_iload_n (q := 6) hC dX2_akin_5 rfl rfl rfl ?_
  refine v_callV1 (q := 9) (As := [_, _]) hC dX2_akin_6 rfl lX2_45 mX6_has iX6_has eX6_has rfl (hL.1 9 (by decide)) (ct_X6_has d (zPr.of hL (by simp)) ha hb (by rw [(hF.2.2.2.1 a b ha hb).1]; exact zb_01 _)) rfl rfl (by omega) rfl (Nat.le_of_ble_eq_true rfl) ?_
  rw [(hF.2.2.2.1 a b ha hb).1]
  refine v_zreturn hC hB dX2_akin_9 ⟨Nat.le_refl _, Nat.le_refl _⟩ (by first | exact Or.inl rfl | exact Or.inr rfl | exact zb_01 _) ?_
  exact ⟨rfl, rfl⟩

set_option maxRecDepth 100000 in
set_option maxHeartbeats 4000000 in
theorem ct_X2_know (d : Nat) {σ : zSt} (hL : zLay σ) {n : Nat} {kd : Nat → Nat} {kin met : Nat → Nat → Bool} {t : Nat} (hF : zFk σ n kd kin met t) {a b : Nat} (ha : a < n) (hb : b < n) : zEv (d + 1) MX2_know [.ref 8, .int (nI a), .int (nI b)] σ (some (.int (zb (pKn kd kin met a b)))) σ := by
  refine zCt.of (L := [some (.ref 8), some (.int (nI a)), some (.int (nI b))]) (by decide) (Nat.le_of_ble_eq_true rfl) rfl (fun X hC hB => ?_)
  have hC : zC X RX2 cX2_know 3 (d + 1) 0 0 := hC
  have hB : zB X (some .boolean) 0 0 "know" σ _ := hB
  show zV X 3 0 [some (.ref 8), some (.int (nI a)), some (.int (nI b))] [] 0 0 σ
  have hn6 := hF.2.1
  have ha6 : a < 6 := by omega
  have hb6 : b < 6 := by omega
  refine v_aload_n (q := 1) hC dX2_know_0 rfl rfl rfl ?_
  refine v_getR (q := 4) (r := 9) hC dX2_know_1 rfl fX2_12 (hL.1 8 (by decide)) (hL.2 8 0 9 rfl) ?_
  refine v_iload_n (q := 5) hC dX2_know_4 rfl rfl rfl ?_
  refine v_iload_n (q := 6) hC dX2_know_5 rfl rfl rfl ?_
  refine v_callV1 (q := 9) (As := [_, _]) hC dX2_know_6 rfl lX2_45 mX6_has iX6_has eX6_has rfl (hL.1 9 (by decide)) (ct_X6_has d (zPr.of hL (by simp)) ha6 hb6 (by rw [(hF.2.2.2.1 a b ha6 hb6).1]; exact zb_01 _)) rfl rfl (by omega) rfl (Nat.le_of_ble_eq_true rfl) ?_
  rw [(hF.2.2.2.1 a b ha6 hb6).1]
  refine v_if_ne (q := 12) (tgt := 42) hC dX2_know_9 rfl (by decide) (fun h9 => ?_) (fun h9 => ?_)
  · refine v_iconst (q := 43) (v := 1) hC dX2_know_42 rfl (by decide) ?_
    refine v_goto (q := 47) hC dX2_know_43 (by decide) ?_
    refine v_zreturn hC hB dX2_know_47 ⟨Nat.le_refl _, Nat.le_refl _⟩ (by first | exact Or.inl rfl | exact Or.inr rfl | exact zb_01 _) ?_
    first | exact ⟨zbt (by simp_all [zb_eq0, pKn]), rfl⟩ | exact ⟨zbf (by simp_all [zb_eq0, pKn]), rfl⟩
  · refine v_aload_n (q := 13) hC dX2_know_12 rfl rfl rfl ?_
    refine v_getR (q := 16) (r := 11) hC dX2_know_13 rfl fX2_18 (hL.1 8 (by decide)) (hL.2 8 1 11 rfl) ?_
    refine v_iload_n (q := 17) hC dX2_know_16 rfl rfl rfl ?_
    refine v_iload_n (q := 18) hC dX2_know_17 rfl rfl rfl ?_
    refine v_callV1 (q := 21) (As := [_, _]) hC dX2_know_18 rfl lX2_45 mX6_has iX6_has eX6_has rfl (hL.1 11 (by decide)) (ct_X6_has d (c := 11) (zPr.of hL (by simp)) ha6 hb6 (by rw [(hF.2.2.2.1 a b ha6 hb6).2]; exact zb_01 _)) rfl rfl (by omega) rfl (Nat.le_of_ble_eq_true rfl) ?_
    rw [(hF.2.2.2.1 a b ha6 hb6).2]
    refine v_if_ne (q := 24) (tgt := 42) hC dX2_know_21 rfl (by decide) (fun h21 => ?_) (fun h21 => ?_)
    · refine v_iconst (q := 43) (v := 1) hC dX2_know_42 rfl (by decide) ?_
      refine v_goto (q := 47) hC dX2_know_43 (by decide) ?_
      refine v_zreturn hC hB dX2_know_47 ⟨Nat.le_refl _, Nat.le_refl _⟩ (by first | exact Or.inl rfl | exact Or.inr rfl | exact zb_01 _) ?_
      first | exact ⟨zbt (by simp_all [zb_eq0, pKn]), rfl⟩ | exact ⟨zbf (by simp_all [zb_eq0, pKn]), rfl⟩
    · refine v_aload_n (q := 25) hC dX2_know_24 rfl rfl rfl ?_
      refine v_iload_n (q := 26) hC dX2_know_25 rfl rfl rfl ?_
      refine v_iconst (q := 27) (v := 3) hC dX2_know_26 rfl (by decide) ?_
      refine v_callV1 (q := 30) (As := [_, _]) hC dX2_know_27 rfl lX2_48 mX2_isA iX2_isA eX2_isA rfl (hL.1 8 (by decide)) (ct_X2_isA d hL hF (k := 3) ha (by decide)) rfl rfl (by omega) rfl (Nat.le_of_ble_eq_true rfl) ?_
      refine v_if_ne (q := 33) (tgt := 42) hC dX2_know_30 rfl (by decide) (fun h30 => ?_) (fun h30 => ?_)
      · refine v_iconst (q := 43) (v := 1) hC dX2_know_42 rfl (by decide) ?_
        refine v_goto (q := 47) hC dX2_know_43 (by decide) ?_
        refine v_zreturn hC hB dX2_know_47 ⟨Nat.le_refl _, Nat.le_refl _⟩ (by first | exact Or.inl rfl | exact Or.inr rfl | exact zb_01 _) ?_
        first | exact ⟨zbt (by simp_all [zb_eq0, pKn]), rfl⟩ | exact ⟨zbf (by simp_all [zb_eq0, pKn]), rfl⟩
      · refine v_aload_n (q := 34) hC dX2_know_33 rfl rfl rfl ?_
        refine v_iload_n (q := 35) hC dX2_know_34 rfl rfl rfl ?_
        refine v_iconst (q := 36) (v := 3) hC dX2_know_35 rfl (by decide) ?_
        refine v_callV1 (q := 39) (As := [_, _]) hC dX2_know_36 rfl lX2_48 mX2_isA iX2_isA eX2_isA rfl (hL.1 8 (by decide)) (ct_X2_isA d hL hF (k := 3) hb (by decide)) rfl rfl (by omega) rfl (Nat.le_of_ble_eq_true rfl) ?_
        refine v_if_eq (q := 42) (tgt := 46) hC dX2_know_39 rfl (by decide) (fun h39 => ?_) (fun h39 => ?_)
        · refine v_iconst (q := 47) (v := 0) hC dX2_know_46 rfl (by decide) ?_
          refine v_zreturn hC hB dX2_know_47 ⟨Nat.le_refl _, Nat.le_refl _⟩ (by first | exact Or.inl rfl | exact Or.inr rfl | exact zb_01 _) ?_
          first | exact ⟨zbt (by simp_all [zb_eq0, pKn]), rfl⟩ | exact ⟨zbf (by simp_all [zb_eq0, pKn]), rfl⟩
        · refine v_iconst (q := 43) (v := 1) hC dX2_know_42 rfl (by decide) ?_
          refine v_goto (q := 47) hC dX2_know_43 (by decide) ?_
          refine v_zreturn hC hB dX2_know_47 ⟨Nat.le_refl _, Nat.le_refl _⟩ (by first | exact Or.inl rfl | exact Or.inr rfl | exact zb_01 _) ?_
          first | exact ⟨zbt (by simp_all [zb_eq0, pKn]), rfl⟩ | exact ⟨zbf (by simp_all [zb_eq0, pKn]), rfl⟩

def pTm (kd : Nat → Nat) (t a : Nat) : Nat := if kd a = 4 then 2 * t else t
set_option maxRecDepth 100000 in
set_option maxHeartbeats 4000000 in
theorem ct_X2_termOf (d : Nat) {σ : zSt} (hL : zLay σ) {n : Nat} {kd : Nat → Nat} {kin met : Nat → Nat → Bool} {t : Nat} (hF : zFk σ n kd kin met t) {a : Nat} (ha : a < n) : zEv (d + 1) MX2_termOf [.ref 8, .int (nI a)] σ (some (.int (nI (pTm kd t a)))) σ := by
  refine zCt.of (L := [some (.ref 8), some (.int (nI a))]) (by decide) (Nat.le_of_ble_eq_true rfl) rfl (fun X hC hB => ?_)
  have hC : zC X RX2 cX2_termOf 2 (d + 1) 0 0 := hC
  have hB : zB X (some .int) 0 0 "termOf" σ _ := hB
  show zV X 2 0 [some (.ref 8), some (.int (nI a))] [] 0 0 σ
  refine v_aload_n (q := 1) hC dX2_termOf_0 rfl rfl rfl ?_
  refine v_iload_n (q := 2) hC dX2_termOf_1 rfl rfl rfl ?_
  refine v_iconst (q := 3) (v := 4) hC dX2_termOf_2 rfl (by decide) ?_
  refine v_callV1 (q := 6) (As := [_, _]) hC dX2_termOf_3 rfl lX2_48 mX2_isA iX2_isA eX2_isA rfl (hL.1 8 (by decide)) (ct_X2_isA d hL hF (k := 4) ha (by decide)) rfl rfl (by omega) rfl (Nat.le_of_ble_eq_true rfl) ?_
  refine v_if_eq (q := 9) (tgt := 18) hC dX2_termOf_6 rfl (by decide) (fun h6 => ?_) (fun h6 => ?_)
  · refine v_aload_n (q := 19) hC dX2_termOf_18 rfl rfl rfl ?_
    refine v_getI (q := 22) hC dX2_termOf_19 rfl fX2_37 (hL.1 8 (by decide)) ?_
    try rw [hF.2.2.2.2.1]
    refine v_ireturn hC hB dX2_termOf_22 ⟨Nat.le_refl _, Nat.le_refl _⟩ ?_
    refine ⟨?_, rfl⟩
    congr 2
    rw [zb_eq0] at h6
    unfold pTm
    first
      | (rw [if_pos (by have := hF.2.2.1 a ha; simp [pIs] at h6; omega)]; exact pk_mul 2 t)
      | (rw [if_neg (by have := hF.2.2.1 a ha; simp [pIs] at h6; omega)])
  · refine v_iconst (q := 10) (v := 2) hC dX2_termOf_9 rfl (by decide) ?_
    refine v_aload_n (q := 11) hC dX2_termOf_10 rfl rfl rfl ?_
    refine v_getI (q := 14) hC dX2_termOf_11 rfl fX2_37 (hL.1 8 (by decide)) ?_
    rw [hF.2.2.2.2.1]
    refine v_imul (q := 15) hC dX2_termOf_14 rfl ?_
    refine v_goto (q := 22) hC dX2_termOf_15 (by decide) ?_
    try rw [hF.2.2.2.2.1]
    refine v_ireturn hC hB dX2_termOf_22 ⟨Nat.le_refl _, Nat.le_refl _⟩ ?_
    refine ⟨?_, rfl⟩
    congr 2
    rw [zb_eq0] at h6
    unfold pTm
    first
      | (rw [if_pos (by have := hF.2.2.1 a ha; simp [pIs] at h6; omega)]; exact pk_mul 2 t)
      | (rw [if_neg (by have := hF.2.2.1 a ha; simp [pIs] at h6; omega)])

set_option maxRecDepth 100000 in
set_option maxHeartbeats 4000000 in
theorem ct_X2_leastWorthBy (d : Nat) {σ : zSt} (hL : zLay σ) {n : Nat} {kd : Nat → Nat} {kin met : Nat → Nat → Bool} {t : Nat} (hF : zFk σ n kd kin met t) {a : Nat} (ha : a < n) (w : Int32) : zEv (d + 1) MX2_leastWorthBy [.ref 8, .int (nI a), .int w] σ (some (.int (if kd a = 2 then w - 1 else w))) σ := by
  refine zCt.of (L := [some (.ref 8), some (.int (nI a)), some (.int w)]) (by decide) (Nat.le_of_ble_eq_true rfl) rfl (fun X hC hB => ?_)
  have hC : zC X RX2 cX2_leastWorthBy 3 (d + 1) 0 0 := hC
  have hB : zB X (some .int) 0 0 "leastWorthBy" σ _ := hB
  show zV X 3 0 [some (.ref 8), some (.int (nI a)), some (.int w)] [] 0 0 σ
  refine v_aload_n (q := 1) hC dX2_leastWorthBy_0 rfl rfl rfl ?_
  refine v_iload_n (q := 2) hC dX2_leastWorthBy_1 rfl rfl rfl ?_
  refine v_iconst (q := 3) (v := 2) hC dX2_leastWorthBy_2 rfl (by decide) ?_
  refine v_callV1 (q := 6) (As := [_, _]) hC dX2_leastWorthBy_3 rfl lX2_48 mX2_isA iX2_isA eX2_isA rfl (hL.1 8 (by decide)) (ct_X2_isA d hL hF (k := 2) ha (by decide)) rfl rfl (by omega) rfl (Nat.le_of_ble_eq_true rfl) ?_
  refine v_if_eq (q := 9) (tgt := 15) hC dX2_leastWorthBy_6 rfl (by decide) (fun h6 => ?_) (fun h6 => ?_)
  · refine v_iload_n (q := 16) hC dX2_leastWorthBy_15 rfl rfl rfl ?_
    refine v_ireturn hC hB dX2_leastWorthBy_16 ⟨Nat.le_refl _, Nat.le_refl _⟩ ?_
    refine ⟨?_, rfl⟩
    congr 2
    rw [zb_eq0] at h6
    first
      | rw [if_pos (by have := hF.2.2.1 a ha; simp [pIs] at h6; omega)]
      | rw [if_neg (by have := hF.2.2.1 a ha; simp [pIs] at h6; omega)]
  · refine v_iload_n (q := 10) hC dX2_leastWorthBy_9 rfl rfl rfl ?_
    refine v_iconst (q := 11) (v := 1) hC dX2_leastWorthBy_10 rfl (by decide) ?_
    refine v_isub (q := 12) hC dX2_leastWorthBy_11 rfl ?_
    refine v_goto (q := 16) hC dX2_leastWorthBy_12 (by decide) ?_
    refine v_ireturn hC hB dX2_leastWorthBy_16 ⟨Nat.le_refl _, Nat.le_refl _⟩ ?_
    refine ⟨?_, rfl⟩
    congr 2
    rw [zb_eq0] at h6
    first
      | rw [if_pos (by have := hF.2.2.1 a ha; simp [pIs] at h6; omega)]
      | rw [if_neg (by have := hF.2.2.1 a ha; simp [pIs] at h6; omega)]

set_option maxRecDepth 100000 in
set_option maxHeartbeats 4000000 in
theorem ct_X2_add (d : Nat) {σ : zSt} (hL : zLay σ) {n : Nat} (hn : zI σ 8 4 = nI n) (hn6 : n < 6) (k : Int32) : zEv (d + 0) MX2_add [.ref 8, .int k] σ (some (.int (nI n))) (zsI (zsI σ 13 n k) 8 4 (nI (n + 1))) := by
  refine zCt.of (L := [some (.ref 8), some (.int k)]) (by decide) (Nat.le_of_ble_eq_true rfl) rfl (fun X hC hB => ?_)
  have hC : zC X RX2 cX2_add 2 (d + 0) 0 0 := hC
  have hB : zB X (some .int) 0 0 "add" σ _ := hB
  show zV X 2 0 [some (.ref 8), some (.int k)] [] 0 0 σ
  refine v_aload_n (q := 1) hC dX2_add_0 rfl rfl rfl ?_
  refine v_getR (q := 4) (r := 13) hC dX2_add_1 rfl fX2_21 (hL.1 8 (by decide)) (hL.2 8 2 13 rfl) ?_
  refine v_aload_n (q := 5) hC dX2_add_4 rfl rfl rfl ?_
  refine v_getI (q := 8) hC dX2_add_5 rfl fX2_38 (hL.1 8 (by decide)) ?_
  refine v_iload_n (q := 9) hC dX2_add_8 rfl rfl rfl ?_
  refine v_iastN (q := 10) (j := n) hC dX2_add_9 rfl (hL.1 13 (by decide)) hn (by omega) (by decide) ?_
  refine v_aload_n (q := 11) hC dX2_add_10 rfl rfl rfl ?_
  refine v_dup (q := 12) hC dX2_add_11 rfl rfl ?_
  refine v_getI (q := 15) hC dX2_add_12 rfl fX2_38 (hL.1 8 (by decide)) ?_
  refine v_iconst (q := 16) (v := 1) hC dX2_add_15 rfl (by decide) ?_
  refine v_iadd (q := 17) hC dX2_add_16 rfl ?_
  refine v_putI (q := 20) hC dX2_add_17 rfl fX2_38 (hL.1 8 (by decide)) ?_
  refine v_aload_n (q := 21) hC dX2_add_20 rfl rfl rfl ?_
  refine v_getI (q := 24) hC dX2_add_21 rfl fX2_38 (hL.1 8 (by decide)) ?_
  refine v_iconst (q := 25) (v := 1) hC dX2_add_24 rfl (by decide) ?_
  refine v_isub (q := 26) hC dX2_add_25 rfl ?_
  refine v_ireturn hC hB dX2_add_26 ⟨Nat.le_refl _, Nat.le_refl _⟩ ?_
  have e1 : zI (zsI σ 13 n k) 8 4 = nI n := by rw [zI_sI, if_neg (by omega)]; exact hn
  rw [e1, nI_1]
  refine ⟨?_, rfl⟩
  rw [zI_sI, if_pos (by simp)]
  rw [nI_pred]

