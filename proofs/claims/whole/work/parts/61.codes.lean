/-! ===== ways by codes ===== -/
theorem pMin2_le {a b : Option Nat} {x : Nat} (h : a = some x ∨ b = some x) : ∃ z, pMin2 a b = some z ∧ z ≤ x := by
  cases a with
  | none =>
    rcases h with h | h
    · cases h
    · exact ⟨x, h, Nat.le_refl x⟩
  | some u =>
    cases b with
    | none =>
      rcases h with h | h
      · cases h; exact ⟨x, rfl, Nat.le_refl x⟩
      · cases h
    | some v =>
      refine ⟨if v < u then v else u, rfl, ?_⟩
      rcases h with h | h
      · cases h; split <;> omega
      · cases h; split <;> omega
theorem pMin2_ex {a b : Option Nat} {z : Nat} (h : pMin2 a b = some z) : a = some z ∨ b = some z := by
  cases a with
  | none => exact Or.inr h
  | some u =>
    cases b with
    | none => exact Or.inl h
    | some v =>
      simp only [pMin2, Option.some.injEq] at h
      split at h
      · exact Or.inr (by rw [h])
      · exact Or.inl (by rw [h])
theorem pMinR_le {f : Nat → Option Nat} : ∀ {k d x : Nat}, d < k → f d = some x → ∃ z, pMinR f k = some z ∧ z ≤ x
  | 0, d, x, hd, h => absurd hd (Nat.not_lt_zero d)
  | k + 1, d, x, hd, h => by
    by_cases e : d = k
    · subst e
      exact pMin2_le (Or.inr h)
    · obtain ⟨z, hz, hzx⟩ := pMinR_le (f := f) (k := k) (show d < k by omega) h
      obtain ⟨y, hy, hyz⟩ := pMin2_le (a := pMinR f k) (b := f k) (Or.inl hz)
      exact ⟨y, hy, by omega⟩
theorem pMinR_ex {f : Nat → Option Nat} : ∀ {k z : Nat}, pMinR f k = some z → ∃ d, d < k ∧ f d = some z
  | 0, z, h => by cases h
  | k + 1, z, h => by
    rcases pMin2_ex (show pMin2 (pMinR f k) (f k) = some z from h) with h | h
    · obtain ⟨d, hd, e⟩ := pMinR_ex h
      exact ⟨d, by omega, e⟩
    · exact ⟨k, by omega, h⟩
theorem pMinR_iff {f : Nat → Option Nat} {k y : Nat} : pMinR f k = some y ↔ (∃ d, d < k ∧ f d = some y) ∧ ∀ d, d < k → ∀ x, f d = some x → y ≤ x := by
  constructor
  · intro h
    refine ⟨pMinR_ex h, fun d hd x hx => ?_⟩
    obtain ⟨z, hz, hzx⟩ := pMinR_le hd hx
    rw [h] at hz
    cases hz
    exact hzx
  · rintro ⟨⟨d, hd, e⟩, hm⟩
    obtain ⟨z, hz, hzx⟩ := pMinR_le hd e
    obtain ⟨d', hd', e'⟩ := pMinR_ex hz
    have := hm d' hd' z e'
    rw [hz, show z = y by omega]
theorem pMinR_none {f : Nat → Option Nat} {k : Nat} : pMinR f k = none ↔ ∀ d, d < k → f d = none := by
  constructor
  · intro h d hd
    cases e : f d with
    | none => rfl
    | some x =>
      obtain ⟨z, hz, -⟩ := pMinR_le hd e
      rw [h] at hz
      cases hz
  · intro h
    cases e : pMinR f k with
    | none => rfl
    | some z =>
      obtain ⟨d, hd, e'⟩ := pMinR_ex e
      rw [h d hd] at e'
      cases e'
theorem pMinR_congr {f g : Nat → Option Nat} : ∀ {k : Nat}, (∀ d, d < k → f d = g d) → pMinR f k = pMinR g k
  | 0, _ => rfl
  | k + 1, h => by
    show pMin2 _ _ = pMin2 _ _
    rw [pMinR_congr (fun d hd => h d (by omega)), h k (by omega)]
theorem pMinR_ext {f : Nat → Option Nat} {n : Nat} : ∀ (k : Nat), (∀ d, n ≤ d → f d = none) → pMinR f (n + k) = pMinR f n
  | 0, _ => rfl
  | k + 1, h => by
    show pMin2 (pMinR f (n + k)) (f (n + k)) = _
    rw [h (n + k) (by omega), pMin2_none, pMinR_ext k h]
theorem pMinR_map {f : Nat → Option Nat} {c : Nat} : ∀ (k : Nat), (pMinR f k).map (fun g => c + g) = pMinR (fun d => (f d).map (fun g => c + g)) k
  | 0 => rfl
  | k + 1 => by
    show (pMin2 (pMinR f k) (f k)).map (fun g => c + g) = pMin2 (pMinR (fun d => (f d).map (fun g => c + g)) k) ((f k).map (fun g => c + g))
    rw [← pMinR_map k]
    cases pMinR f k with
    | none => rfl
    | some u =>
      cases f k with
      | none => rfl
      | some v =>
        simp only [pMin2, Option.map_some, Option.some.injEq]
        by_cases e : v < u
        · rw [if_pos e, if_pos (by omega)]
        · rw [if_neg e, if_neg (by omega)]
theorem pMin2_as (a b c : Option Nat) : pMin2 a (pMin2 b c) = pMin2 (pMin2 a b) c := by
  cases a with
  | none => rfl
  | some u =>
    cases b with
    | none => rfl
    | some v =>
      cases c with
      | none => rw [pMin2_none, pMin2_none]
      | some w =>
        simp only [pMin2, Option.some.injEq]
        by_cases h1 : w < v <;> by_cases h2 : v < u <;> by_cases h3 : w < u <;> simp only [h1, h2, h3, if_true, if_false] <;> first | rfl | omega
theorem pFst_least {P : Nat → Bool} : ∀ {m k : Nat}, pFst P m = some k → ∀ j, j < k → P j = false
  | 0, k, h => by cases h
  | m + 1, k, h => by
    intro j hj
    cases e : pFst P m with
    | some g =>
      simp only [pFst, e, Option.some.injEq] at h
      subst h
      exact pFst_least e j hj
    | none =>
      simp only [pFst, e] at h
      split at h
      · cases h
        cases e2 : P j with
        | false => rfl
        | true =>
          have h1 := (pCnt_fst (P := P) m).mp e
          have h2 : pCnt P (j + 1) ≤ pCnt P (j + 1 + (m - (j + 1))) := pCnt_mono (j + 1) _
          rw [show j + 1 + (m - (j + 1)) = m by omega, h1] at h2
          simp [pCnt, e2] at h2
      · cases h
theorem pFst_no {P : Nat → Bool} {m : Nat} (h : pFst P m = none) : ∀ j, j < m → P j = false := by
  intro j hj
  cases e2 : P j with
  | false => rfl
  | true =>
    have h1 := (pCnt_fst (P := P) m).mp h
    have h2 : pCnt P (j + 1) ≤ pCnt P (j + 1 + (m - (j + 1))) := pCnt_mono (j + 1) _
    rw [show j + 1 + (m - (j + 1)) = m by omega, h1] at h2
    simp [pCnt, e2] at h2
/-- the least code of a way that ends so, of at most M favours -/
def pCd (n : Nat) (gv sn : Nat → Nat → Bool) (i h0 : Nat) (M h w : Nat) : Option Nat := pMinR (fun j => (pRow n gv sn i h0 j h w).map (fun g => 6 * (j + 1) + g)) M
def pMk (n : Nat) (C : Nat → Nat → Option Nat) (h w : Nat) : Option Nat := if h < n ∧ w < n then C h w else none
def pLv (M : Nat) (x : Option Nat) : Option Nat := match x with
  | none => none
  | some x => if x / 6 = M then some (x + 6) else none
def pT (M : Nat) (C : Nat → Nat → Option Nat) (gv sn : Nat → Nat → Bool) (h w d : Nat) : Option Nat := if sn d w = false ∧ gv h w = true then pLv M (C d h) else none
theorem pLv_lv {M : Nat} {x : Option Nat} {z : Nat} (h : pLv M x = some z) : z / 6 = M + 1 := by
  unfold pLv at h
  split at h
  · cases h
  · split at h
    · cases h; omega
    · cases h
theorem pT_lv {M : Nat} {C : Nat → Nat → Option Nat} {gv sn : Nat → Nat → Bool} {h w d z : Nat} (e : pT M C gv sn h w d = some z) : z / 6 = M + 1 := by
  unfold pT at e
  split at e
  · exact pLv_lv e
  · cases e
theorem pCd_lv {n : Nat} {gv sn : Nat → Nat → Bool} {i h0 M h w z : Nat} (hn : n ≤ 6) (hh : h < n) (hw : w < n) (e : pCd n gv sn i h0 M h w = some z) : ∃ j g, j < M ∧ g < 6 ∧ pRow n gv sn i h0 j h w = some g ∧ z = 6 * (j + 1) + g := by
  obtain ⟨j, hj, e1⟩ := pMinR_ex e
  cases e2 : pRow n gv sn i h0 j h w with
  | none => simp only [e2, Option.map_none] at e1; cases e1
  | some g =>
    simp only [e2, Option.map_some, Option.some.injEq] at e1
    have := pRow_lt j h w hh hw g e2
    exact ⟨j, g, hj, by omega, e2, e1.symm⟩
theorem pMin2_lo {y : Nat} {b : Option Nat} (h : ∀ z, b = some z → y ≤ z) : pMin2 (some y) b = some y := by
  cases b with
  | none => rfl
  | some v =>
    simp only [pMin2, Option.some.injEq]
    rw [if_neg (by have := h v rfl; omega)]
/-- a stage -/
theorem pCd_step {n : Nat} {gv sn : Nat → Nat → Bool} {i h0 M h w : Nat} (hn : n ≤ 6) (hM : 1 ≤ M) (hh : h < n) (hw : w < n) : pMin2 (pCd n gv sn i h0 M h w) (pMinR (pT M (pMk n (pCd n gv sn i h0 M)) gv sn h w) 6) = pCd n gv sn i h0 (M + 1) h w := by
  show _ = pMin2 (pCd n gv sn i h0 M h w) ((pRow n gv sn i h0 M h w).map (fun g => 6 * (M + 1) + g))
  cases e : pCd n gv sn i h0 M h w with
  | some y =>
    obtain ⟨j, g, hj, hg, -, ey⟩ := pCd_lv hn hh hw e
    rw [pMin2_lo, pMin2_lo]
    · intro z hz
      cases e2 : pRow n gv sn i h0 M h w with
      | none => rw [e2] at hz; cases hz
      | some g2 => rw [e2] at hz; simp only [Option.map_some, Option.some.injEq] at hz; omega
    · intro z hz
      obtain ⟨d, hd, e3⟩ := pMinR_ex hz
      have := pT_lv e3
      omega
  | none =>
    show pMinR _ 6 = (pRow n gv sn i h0 M h w).map _
    obtain ⟨M, rfl⟩ : ∃ M', M = M' + 1 := ⟨M - 1, by omega⟩
    show _ = (pMinR (pTrm gv sn (pRow n gv sn i h0 M) h w) n).map _
    rw [pMinR_map]
    have e6 : pMinR (pT (M + 1) (pMk n (pCd n gv sn i h0 (M + 1))) gv sn h w) 6 = pMinR (pT (M + 1) (pMk n (pCd n gv sn i h0 (M + 1))) gv sn h w) n := by
      have := pMinR_ext (f := pT (M + 1) (pMk n (pCd n gv sn i h0 (M + 1))) gv sn h w) (n := n) (6 - n) (fun d hd => by
        unfold pT
        split
        · unfold pMk
          rw [if_neg (by omega)]
          rfl
        · rfl)
      rw [show n + (6 - n) = 6 by omega] at this
      exact this
    rw [e6]
    apply pMinR_congr
    intro d hd
    unfold pT pTrm
    by_cases hp : sn d w = false ∧ gv h w = true
    · rw [if_pos hp, if_pos hp]
      unfold pMk
      rw [if_pos ⟨hd, hh⟩]
      have hno : pCd n gv sn i h0 M d h = none := by
        apply pMinR_none.mpr
        intro j hj
        cases e2 : pRow n gv sn i h0 j d h with
        | none => rfl
        | some g =>
          exfalso
          have e3 : pTrm gv sn (pRow n gv sn i h0 j) h w d = some g := by unfold pTrm; rw [if_pos hp, e2]
          obtain ⟨z, hz, -⟩ := pMinR_le (k := n) hd e3
          have e4 : pRow n gv sn i h0 (j + 1) h w = some z := hz
          have e5 := pMinR_none.mp e (j + 1) (by omega)
          rw [e4] at e5
          cases e5
      have e7 : pCd n gv sn i h0 (M + 1) d h = (pRow n gv sn i h0 M d h).map (fun g => 6 * (M + 1) + g) := by
        show pMin2 (pCd n gv sn i h0 M d h) _ = _
        rw [hno]
        rfl
      rw [e7]
      cases e8 : pRow n gv sn i h0 M d h with
      | none => rfl
      | some g =>
        have := pRow_lt M d h hd hh g e8
        show (if (6 * (M + 1) + g) / 6 = M + 1 then some (6 * (M + 1) + g + 6) else none) = some (6 * (M + 1 + 1) + g)
        rw [if_pos (by omega)]
        congr 1
        omega
    · rw [if_neg hp, if_neg hp]
      rfl
/-- what stands there when the pairs ahead of k, and of k those FOR less than b, have been passed on -/
def pV (n M : Nat) (C : Nat → Nat → Option Nat) (gv sn : Nat → Nat → Bool) (k b h w : Nat) : Option Nat := if h < n ∧ w < n then pMin2 (C h w) (pMinR (pT M C gv sn h w) ((k + 5 - h) / 6 + if h = k % 6 ∧ w < b then 1 else 0)) else none
theorem pV_0 {n M : Nat} {C : Nat → Nat → Option Nat} {gv sn : Nat → Nat → Bool} {h w : Nat} (hh : h < 6) : pV n M (pMk n C) gv sn 0 0 h w = pMk n C h w := by
  unfold pV pMk
  split
  · rw [show (0 + 5 - h) / 6 = 0 by omega]
    rw [if_neg (by omega)]
    show pMin2 _ none = _
    rw [pMin2_none]
  · rfl
theorem pV_b {n M : Nat} {C : Nat → Nat → Option Nat} {gv sn : Nat → Nat → Bool} {k b h w : Nat} (hh : h < 6) (hb : b < n) (hk : k % 6 < n) : pV n M C gv sn k (b + 1) h w = if h = k % 6 ∧ w = b then pMin2 (pV n M C gv sn k b h w) (pT M C gv sn (k % 6) b (k / 6)) else pV n M C gv sn k b h w := by
  by_cases e : h = k % 6 ∧ w = b
  · rw [if_pos e]
    obtain ⟨rfl, e2⟩ := e
    rw [e2]
    unfold pV
    have hkb : k % 6 < n ∧ b < n := ⟨hk, hb⟩
    rw [if_pos hkb, if_pos hkb, if_pos (show k % 6 = k % 6 ∧ b < b + 1 by omega), if_neg (show ¬ (k % 6 = k % 6 ∧ b < b) by omega), ← pMin2_as]
    congr 1
    rw [show (k + 5 - k % 6) / 6 + 1 = k / 6 + 1 by omega, show (k + 5 - k % 6) / 6 + 0 = k / 6 by omega]
    rfl
  · rw [if_neg e]
    unfold pV
    by_cases e1 : h = k % 6 ∧ w < b
    · rw [if_pos (show h = k % 6 ∧ w < b + 1 by omega), if_pos e1]
    · rw [if_neg (show ¬ (h = k % 6 ∧ w < b + 1) by omega), if_neg e1]
theorem pV_k {n M : Nat} {C : Nat → Nat → Option Nat} {gv sn : Nat → Nat → Bool} {k h w : Nat} (hh : h < 6) : pV n M C gv sn (k + 1) 0 h w = pV n M C gv sn k n h w := by
  unfold pV
  by_cases hm : h < n ∧ w < n
  · rw [if_pos hm, if_pos hm]
    congr 2
    by_cases e : h = k % 6
    · rw [if_neg (by omega), if_pos ⟨e, hm.2⟩]
      omega
    · rw [if_neg (by omega), if_neg (by omega)]
      omega
  · rw [if_neg hm, if_neg hm]
theorem pV_x {n M : Nat} {C : Nat → Nat → Option Nat} {gv sn : Nat → Nat → Bool} {k b h w : Nat} (hh : h < 6) (hx : pLv M (C (k / 6) (k % 6)) = none) : pV n M C gv sn (k + 1) 0 h w = pV n M C gv sn k b h w := by
  unfold pV
  by_cases hm : h < n ∧ w < n
  · rw [if_pos hm, if_pos hm]
    congr 1
    by_cases e : h = k % 6
    · rw [if_neg (show ¬ (h = (k + 1) % 6 ∧ w < 0) by omega), show (k + 1 + 5 - h) / 6 + 0 = k / 6 + 1 by omega]
      have e2 : pT M C gv sn h w (k / 6) = none := by
        unfold pT
        rw [e, hx]
        simp
      have e3 : pMinR (pT M C gv sn h w) (k / 6 + 1) = pMinR (pT M C gv sn h w) (k / 6) := by
        show pMin2 _ (pT M C gv sn h w (k / 6)) = _
        rw [e2, pMin2_none]
      by_cases e4 : w < b
      · rw [if_pos ⟨e, e4⟩, show (k + 5 - h) / 6 + 1 = k / 6 + 1 by omega]
      · rw [if_neg (fun z => e4 z.2), show (k + 5 - h) / 6 + 0 = k / 6 by omega, e3]
    · rw [if_neg (by omega), if_neg (by omega)]
      congr 1
      omega
  · rw [if_neg hm, if_neg hm]
theorem pV_36 {n M : Nat} {gv sn : Nat → Nat → Bool} {i h0 h w : Nat} (hn : n ≤ 6) (hM : 1 ≤ M) (hh : h < 6) : pV n M (pMk n (pCd n gv sn i h0 M)) gv sn 36 0 h w = pMk n (pCd n gv sn i h0 (M + 1)) h w := by
  unfold pV
  by_cases hm : h < n ∧ w < n
  · rw [if_pos hm, if_neg (by omega), show (36 + 5 - h) / 6 + 0 = 6 by omega]
    have := pCd_step (gv := gv) (sn := sn) (i := i) (h0 := h0) hn hM hm.1 hm.2
    unfold pMk at this ⊢
    rw [if_pos hm, if_pos hm]
    exact this
  · rw [if_neg hm]
    unfold pMk
    rw [if_neg hm]
/-- levels -/
def pBd (M : Nat) (C : Nat → Nat → Option Nat) : Prop := ∀ h w z, C h w = some z → z / 6 ≤ M
theorem pBd_Cd {n M : Nat} {gv sn : Nat → Nat → Bool} {i h0 : Nat} (hn : n ≤ 6) : pBd M (pMk n (pCd n gv sn i h0 M)) := by
  intro h w z e
  unfold pMk at e
  split at e
  · rename_i hm
    obtain ⟨j, g, hj, hg, -, ez⟩ := pCd_lv hn hm.1 hm.2 e
    omega
  · cases e
theorem pV_up {n M : Nat} {C : Nat → Nat → Option Nat} {gv sn : Nat → Nat → Bool} {k b h w z : Nat} (hC : pBd M C) (e : pV n M C gv sn k b h w = some z) : z / 6 ≤ M + 1 := by
  unfold pV at e
  split at e
  · rcases pMin2_ex e with e | e
    · have := hC h w z e; omega
    · obtain ⟨d, -, e2⟩ := pMinR_ex e
      have := pT_lv e2
      omega
  · cases e
theorem pV_of {n M : Nat} {C : Nat → Nat → Option Nat} {gv sn : Nat → Nat → Bool} {k b h w z : Nat} (hC : pBd M C) (hh : h < n) (hw : w < n) (e : C h w = some z) : pV n M C gv sn k b h w = some z := by
  unfold pV
  rw [if_pos ⟨hh, hw⟩, e]
  apply pMin2_lo
  intro y hy
  obtain ⟨d, -, e2⟩ := pMinR_ex hy
  have h1 := pT_lv e2
  have h2 := hC h w z e
  omega
theorem pV_at {n M : Nat} {C : Nat → Nat → Option Nat} {gv sn : Nat → Nat → Bool} {k b h w z : Nat} (hC : pBd M C) (e : pV n M C gv sn k b h w = some z) (hz : z / 6 = M) : h < n ∧ w < n ∧ C h w = some z := by
  have e0 := e
  unfold pV at e
  split at e
  · rename_i hm
    rcases pMin2_ex e with e1 | e1
    · exact ⟨hm.1, hm.2, e1⟩
    · obtain ⟨d, -, e2⟩ := pMinR_ex e1
      have := pT_lv e2
      omega
  · cases e
/-- a place's two numbers -/
def zFa (x y : Int32) (o : Option Nat) : Prop := match o with
  | none => x = -1
  | some z => z < 60 ∧ x = nI (z / 6) ∧ y = nI (z % 6)
theorem zFa.n1 {x y : Int32} {o : Option Nat} (h : zFa x y o) (e : x = -1) : o = none := by
  cases o with
  | none => rfl
  | some z => obtain ⟨h1, h2, -⟩ := h; rw [h2] at e; exact absurd e (nI_m1 (by omega))
theorem zFa.n0 {x y : Int32} {o : Option Nat} (h : zFa x y o) (e : ¬ x = -1) : ∃ z, o = some z ∧ z < 60 ∧ x = nI (z / 6) ∧ y = nI (z % 6) := by
  cases o with
  | none => exact absurd h e
  | some z => exact ⟨z, rfl, h⟩
theorem zFa.lv {x y : Int32} {o : Option Nat} {M : Nat} (hM : M < 100) (h : zFa x y o) (e : x = nI M) : ∃ z, o = some z ∧ z < 60 ∧ z / 6 = M ∧ y = nI (z % 6) := by
  obtain ⟨z, e1, h1, h2, h3⟩ := h.n0 (by rw [e]; exact nI_m1 (by omega))
  exact ⟨z, e1, h1, (nI_eq (by omega) (by omega)).mp (h2.symm.trans e), h3⟩
theorem zbet1 {x y : Int32} {o : Option Nat} {c : Nat} (h : zFa x y o) (e : x = -1) : pMin2 o (some c) = some c := by rw [h.n1 e]; rfl
theorem zbet2 {x y : Int32} {o : Option Nat} {c M : Nat} (h : zFa x y o) (hc : c / 6 = M) (hM : M < 60) (hu : ∀ z, o = some z → z / 6 ≤ M + 1) (e : ¬ x = -1) (e2 : ¬ x = nI (M + 1)) : pMin2 o (some (c + 6)) = o := by
  obtain ⟨z, rfl, h1, h2, h3⟩ := h.n0 e
  have h4 := hu z rfl
  have h5 : ¬ z / 6 = M + 1 := fun q => e2 (by rw [h2, q])
  apply pMin2_lo
  intro v hv
  cases hv
  omega
theorem zbet3 {x y : Int32} {o : Option Nat} {c M : Nat} (h : zFa x y o) (hc : c / 6 = M) (hM : M < 60) (e2 : x = nI (M + 1)) (e3 : y ≤ nI (c % 6)) : pMin2 o (some (c + 6)) = o := by
  obtain ⟨z, rfl, h1, h2, h3⟩ := h.lv (by omega) e2
  rw [h3, nI_leI (by omega) (by omega)] at e3
  apply pMin2_lo
  intro v hv
  cases hv
  omega
theorem zbet4 {x y : Int32} {o : Option Nat} {c M : Nat} (h : zFa x y o) (hc : c / 6 = M) (hM : M < 60) (e2 : x = nI (M + 1)) (e3 : ¬ y ≤ nI (c % 6)) : pMin2 o (some (c + 6)) = some (c + 6) := by
  obtain ⟨z, rfl, h1, h2, h3⟩ := h.lv (by omega) e2
  rw [h3, nI_leI (by omega) (by omega)] at e3
  simp only [pMin2, Option.some.injEq]
  rw [if_pos (by omega)]
/-- what the model's far and firsts hold -/
def zFar (σ : zSt) (C : Nat → Nat → Option Nat) : Prop := ∀ h w, h < 6 → w < 6 → zFa (zI σ 61 (6 * h + w)) (zI σ 62 (6 * h + w)) (C h w)
theorem zFar.eq {σ : zSt} {C D : Nat → Nat → Option Nat} (h : zFar σ C) (e : ∀ a b, a < 6 → b < 6 → D a b = C a b) : zFar σ D := fun a b ha hb => by rw [e a b ha hb]; exact h a b ha hb
theorem zFar.set {σ σ' : zSt} {C D : Nat → Nat → Option Nat} {a b : Nat} {x y : Int32} {o : Option Nat} (h : zFar σ C) (hb : b < 6) (e1 : ∀ q, zI σ' 61 q = if q = 6 * a + b then x else zI σ 61 q) (e2 : ∀ q, zI σ' 62 q = if q = 6 * a + b then y else zI σ 62 q) (ho : zFa x y o) (hD : ∀ h w, h < 6 → w < 6 → D h w = if h = a ∧ w = b then o else C h w) : zFar σ' D := by
  intro p q hp hq
  rw [e1, e2, hD p q hp hq]
  by_cases e : p = a ∧ q = b
  · rw [if_pos e, if_pos (by omega), if_pos (by omega)]
    exact ho
  · rw [if_neg e, if_neg (by omega), if_neg (by omega)]
    exact h p q hp hq
/-- the least code to one -/
def pK (n : Nat) (C : Nat → Nat → Option Nat) (p : Nat) : Option Nat := pMinR (fun a => pMk n C a p) 6
theorem pK_sh {n : Nat} {gv sn : Nat → Nat → Bool} {i h0 p : Nat} (hn : n ≤ 6) (hp : p < n) : pK n (pCd n gv sn i h0 8) p = match pSh n gv sn i h0 p with
  | none => none
  | some k => (pLst n (pRow n gv sn i h0 k) p).map (fun g => 6 * (k + 1) + g) := by
  have hrow : ∀ j, (pLst n (pRow n gv sn i h0 j) p).isSome = false → ∀ d, d < n → pRow n gv sn i h0 j d p = none := by
    intro j hj d hd
    have : pLst n (pRow n gv sn i h0 j) p = none := by
      cases e : pLst n (pRow n gv sn i h0 j) p with
      | none => rfl
      | some z => rw [e] at hj; cases hj
    exact pMinR_none.mp this d hd
  cases e : pSh n gv sn i h0 p with
  | none =>
    dsimp only
    apply pMinR_none.mpr
    intro a ha
    unfold pMk
    by_cases hm : a < n ∧ p < n
    · rw [if_pos hm]
      apply pMinR_none.mpr
      intro j hj
      have h1 := pFst_no e j hj
      simp only [hrow j h1 a hm.1, Option.map_none]
    · rw [if_neg hm]
  | some k =>
    dsimp only
    obtain ⟨hk, hk2⟩ := pFst_some e
    obtain ⟨g, eg⟩ := Option.isSome_iff_exists.mp hk2
    rw [eg]
    have hg6 : g < 6 := by have := pLst_lt (pRow_lt (n := n) (gv := gv) (sn := sn) (d := i) (h0 := h0) k) hp hn g eg; omega
    have hlo : ∀ j a g', j < 8 → a < n → pRow n gv sn i h0 j a p = some g' → k ≤ j := by
      intro j a g' hj ha e1
      by_cases hjk : j < k
      · have h1 := pFst_least e j hjk
        have := hrow j h1 a ha
        rw [this] at e1
        cases e1
      · omega
    have hg := pMinR_iff.mp (show pMinR (fun d => pRow n gv sn i h0 k d p) n = some g from eg)
    obtain ⟨d, hd, ed⟩ := hg.1
    have ed : pRow n gv sn i h0 k d p = some g := ed
    apply pMinR_iff.mpr
    have key : ∀ a, a < n → ∀ x, pCd n gv sn i h0 8 a p = some x → 6 * (k + 1) + g ≤ x := by
      intro a ha x ex
      obtain ⟨j, g', hj, hg', er, ez⟩ := pCd_lv hn ha hp ex
      have h1 := hlo j a g' hj ha er
      by_cases hjk : j = k
      · subst hjk
        have := hg.2 a ha g' er
        omega
      · omega
    refine ⟨⟨d, by omega, ?_⟩, ?_⟩
    · show pMk n _ d p = _
      unfold pMk
      rw [if_pos ⟨hd, hp⟩]
      obtain ⟨z, hz, hzx⟩ := pMinR_le (f := fun j => (pRow n gv sn i h0 j d p).map (fun g => 6 * (j + 1) + g)) (k := 8) hk (show (pRow n gv sn i h0 k d p).map (fun g => 6 * (k + 1) + g) = some (6 * (k + 1) + g) by rw [ed]; rfl)
      have h1 := key d hd z hz
      show pMinR _ 8 = _
      rw [hz, show z = 6 * (k + 1) + g by omega]
    · intro a ha x ex
      have ex : pMk n _ a p = some x := ex
      unfold pMk at ex
      split at ex
      · rename_i hm
        exact key a hm.1 x ex
      · cases ex
/-- its length, its first -/
theorem pK_len {n : Nat} {gv sn : Nat → Nat → Bool} {i h0 p : Nat} (hn : n ≤ 6) (hp : p < n) : (pK n (pCd n gv sn i h0 8) p).map (fun z => z / 6) = (pSh n gv sn i h0 p).map (· + 1) := by
  rw [pK_sh hn hp]
  cases e : pSh n gv sn i h0 p with
  | none => rfl
  | some k =>
    obtain ⟨hk, hk2⟩ := pFst_some e
    obtain ⟨g, eg⟩ := Option.isSome_iff_exists.mp hk2
    have hg6 : g < 6 := by have := pLst_lt (pRow_lt (n := n) (gv := gv) (sn := sn) (d := i) (h0 := h0) k) hp hn g eg; omega
    dsimp only
    rw [eg]
    simp only [Option.map_some, Option.some.injEq]
    omega
theorem pK_fst {n : Nat} {gv sn : Nat → Nat → Bool} {i h0 p : Nat} (hn : n ≤ 6) (hp : p < n) : (pK n (pCd n gv sn i h0 8) p).map (fun z => z % 6) = match pSh n gv sn i h0 p with
  | none => none
  | some k => pLst n (pRow n gv sn i h0 k) p := by
  rw [pK_sh hn hp]
  cases e : pSh n gv sn i h0 p with
  | none => rfl
  | some k =>
    obtain ⟨hk, hk2⟩ := pFst_some e
    obtain ⟨g, eg⟩ := Option.isSome_iff_exists.mp hk2
    have hg6 : g < 6 := by have := pLst_lt (pRow_lt (n := n) (gv := gv) (sn := sn) (d := i) (h0 := h0) k) hp hn g eg; omega
    dsimp only
    rw [eg]
    simp only [Option.map_some, Option.some.injEq]
    omega

