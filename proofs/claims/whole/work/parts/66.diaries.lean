/-! ===== diaries: trying all ===== -/
def zuN (x : Nat → Nat) (i p : Nat) (k : Nat) : Nat := if k = i then p else x k
/-- may p stand at place i, behind x -/
def pFl (gv sn : Nat → Nat → Bool) (x : Nat → Nat) (i p : Nat) : Bool := match i with
  | 0 => true
  | 1 => gv (x 0) p
  | i + 2 => gv (x (i + 1)) p && !sn (x i) p
def pFa (gv sn : Nat → Nat → Bool) (W : Nat → Int32) (x : Nat → Nat) (i p : Nat) : Bool := pCb p (W i) && pFl gv sn x i p
/-- in how many ways j places more, from i on, can be filled -/
def pDf (n : Nat) (gv sn : Nat → Nat → Bool) (W : Nat → Int32) : Nat → Nat → (Nat → Nat) → Nat
  | 0, _, _ => 1
  | j + 1, i, x => pSum (fun p => if pFa gv sn W x i p then pDf n gv sn W j (i + 1) (zuN x i p) else 0) n
def pAny (f : Nat → Bool) : Nat → Bool
  | 0 => false
  | k + 1 => pAny f k || f k
/-- whether one of these ways has w at place q -/
def pDe (n : Nat) (gv sn : Nat → Nat → Bool) (W : Nat → Int32) (q w : Nat) : Nat → Nat → (Nat → Nat) → Bool
  | 0, _, x => decide (x q = w)
  | j + 1, i, x => pAny (fun p => pFa gv sn W x i p && pDe n gv sn W q w j (i + 1) (zuN x i p)) n
theorem pAny_iff {f : Nat → Bool} : ∀ {k : Nat}, pAny f k = true ↔ ∃ d, d < k ∧ f d = true
  | 0 => ⟨fun h => (by cases h), fun ⟨d, hd, _⟩ => absurd hd (Nat.not_lt_zero d)⟩
  | k + 1 => by
    show (pAny f k || f k) = true ↔ _
    rw [Bool.or_eq_true, pAny_iff]
    constructor
    · rintro (⟨d, hd, e⟩ | e)
      · exact ⟨d, by omega, e⟩
      · exact ⟨k, by omega, e⟩
    · rintro ⟨d, hd, e⟩
      by_cases h : d = k
      · subst h; exact Or.inr e
      · exact Or.inl ⟨d, by omega, e⟩
theorem pAny_congr {f g : Nat → Bool} {k : Nat} (h : ∀ d, d < k → f d = g d) : pAny f k = pAny g k := by
  rw [Bool.eq_iff_iff, pAny_iff, pAny_iff]
  exact ⟨fun ⟨d, hd, e⟩ => ⟨d, hd, (h d hd) ▸ e⟩, fun ⟨d, hd, e⟩ => ⟨d, hd, (h d hd).symm ▸ e⟩⟩
theorem pSum_pos {f : Nat → Nat} : ∀ {k : Nat}, 0 < pSum f k ↔ ∃ d, d < k ∧ 0 < f d
  | 0 => ⟨fun h => absurd h (Nat.lt_irrefl 0), fun ⟨d, hd, _⟩ => absurd hd (Nat.not_lt_zero d)⟩
  | k + 1 => by
    show 0 < pSum f k + f k ↔ _
    constructor
    · intro h
      by_cases e : 0 < f k
      · exact ⟨k, by omega, e⟩
      · obtain ⟨d, hd, e2⟩ := pSum_pos.mp (show 0 < pSum f k by omega)
        exact ⟨d, by omega, e2⟩
    · rintro ⟨d, hd, e⟩
      by_cases h : d = k
      · subst h; omega
      · have := pSum_pos.mpr ⟨d, show d < k by omega, e⟩
        omega
theorem pFl_congr {gv sn : Nat → Nat → Bool} {x y : Nat → Nat} {i p : Nat} (h : ∀ k, k < i → i ≤ k + 2 → x k = y k) : pFl gv sn x i p = pFl gv sn y i p := by
  match i, h with
  | 0, _ => rfl
  | 1, h => show gv (x 0) p = gv (y 0) p; rw [h 0 (by omega) (by omega)]
  | i + 2, h => show (gv (x (i + 1)) p && !sn (x i) p) = (gv (y (i + 1)) p && !sn (y i) p); rw [h (i + 1) (by omega) (by omega), h i (by omega) (by omega)]
theorem pDf_congr {n : Nat} {gv sn : Nat → Nat → Bool} {W W' : Nat → Int32} : ∀ (j i : Nat) (x y : Nat → Nat), (∀ k, k < i → i ≤ k + 2 → x k = y k) → (∀ k, i ≤ k → W k = W' k) → pDf n gv sn W j i x = pDf n gv sn W' j i y
  | 0, _, _, _, _, _ => rfl
  | j + 1, i, x, y, h, hW => by
    show pSum _ n = pSum _ n
    apply pSum_congr
    intro p _
    have e1 : pFa gv sn W x i p = pFa gv sn W' y i p := by
      unfold pFa
      rw [pFl_congr h, hW i (Nat.le_refl i)]
    rw [e1, pDf_congr j (i + 1) (zuN x i p) (zuN y i p) (fun k h1 h2 => by
      unfold zuN
      by_cases e : k = i
      · rw [if_pos e, if_pos e]
      · rw [if_neg e, if_neg e]
        exact h k (by omega) (by omega)) (fun k hk => hW k (by omega))]
theorem pSum_if {f : Nat → Nat} {P : Nat → Bool} {n : Nat} : 0 < pSum (fun p => if P p then f p else 0) n ↔ ∃ p, p < n ∧ P p = true ∧ 0 < f p := by
  rw [pSum_pos]
  constructor
  · rintro ⟨d, hd, e⟩
    by_cases h : P d = true
    · rw [if_pos h] at e; exact ⟨d, hd, h, e⟩
    · rw [if_neg h] at e; omega
  · rintro ⟨d, hd, h, e⟩
    exact ⟨d, hd, by rw [if_pos h]; exact e⟩
/-- places that are filled already -/
theorem pDe_old {n : Nat} {gv sn : Nat → Nat → Bool} {W : Nat → Int32} {q w : Nat} : ∀ (j i : Nat) (x : Nat → Nat), q < i → (pDe n gv sn W q w j i x = true ↔ x q = w ∧ 0 < pDf n gv sn W j i x)
  | 0, i, x, hq => by
    show decide (x q = w) = true ↔ _ ∧ 0 < 1
    simp
  | j + 1, i, x, hq => by
    show pAny _ n = true ↔ _ ∧ 0 < pSum _ n
    rw [pAny_iff, pSum_if]
    constructor
    · rintro ⟨p, hp, e⟩
      rw [Bool.and_eq_true, pDe_old j (i + 1) (zuN x i p) (by omega)] at e
      refine ⟨?_, p, hp, e.1, e.2.2⟩
      have := e.2.1
      unfold zuN at this
      rw [if_neg (by omega)] at this
      exact this
    · rintro ⟨e0, p, hp, e1, e2⟩
      refine ⟨p, hp, ?_⟩
      rw [Bool.and_eq_true, pDe_old j (i + 1) (zuN x i p) (by omega)]
      refine ⟨e1, ?_, e2⟩
      unfold zuN
      rw [if_neg (by omega)]
      exact e0
theorem pCb_nI {p w : Nat} (hp : p < 6) (hw : w < 6) : pCb p (nI w) = true ↔ p = w := by
  unfold pCb
  have a1 : ¬ nI w = -1 := nI_m1 (by omega)
  have a2 : nI w = nI p ↔ w = p := nI_eq (by omega) (by omega)
  simp [a1, a2, eq_comm]
/-- places that are to be filled yet -/
theorem pDe_new {n : Nat} {gv sn : Nat → Nat → Bool} {W : Nat → Int32} {q w : Nat} (hn : n ≤ 6) (hw : w < n) : ∀ (j i : Nat) (x : Nat → Nat), i ≤ q → q < i + j → (pDe n gv sn W q w j i x = true ↔ pCb w (W q) = true ∧ 0 < pDf n gv sn (zup W q (nI w)) j i x)
  | 0, i, x, h1, h2 => by omega
  | j + 1, i, x, h1, h2 => by
    show pAny _ n = true ↔ _ ∧ 0 < pSum _ n
    rw [pAny_iff, pSum_if]
    by_cases e : i = q
    · subst e
      constructor
      · rintro ⟨p, hp, e⟩
        rw [Bool.and_eq_true, pDe_old j (i + 1) (zuN x i p) (by omega)] at e
        have e1 : p = w := by have := e.2.1; unfold zuN at this; rw [if_pos rfl] at this; exact this
        subst e1
        have e3 : pCb p (W i) = true ∧ pFl gv sn x i p = true := by have := e.1; unfold pFa at this; exact Bool.and_eq_true_iff.mp this
        refine ⟨e3.1, p, hp, ?_, ?_⟩
        · unfold pFa zup
          rw [if_pos rfl, (pCb_nI (by omega) (by omega)).mpr rfl, e3.2]
          rfl
        · rw [pDf_congr (W' := W) j (i + 1) _ (zuN x i p) (fun _ _ _ => rfl) (fun k hk => by unfold zup; rw [if_neg (by omega)])]
          exact e.2.2
      · rintro ⟨e1, p, hp, e2, e3⟩
        have e4 : pCb p (zup W i (nI w) i) = true ∧ pFl gv sn x i p = true := by unfold pFa at e2; exact Bool.and_eq_true_iff.mp e2
        have e5 : p = w := by have := e4.1; unfold zup at this; rw [if_pos rfl] at this; exact (pCb_nI (by omega) (by omega)).mp this
        subst e5
        refine ⟨p, hp, ?_⟩
        rw [Bool.and_eq_true, pDe_old j (i + 1) (zuN x i p) (by omega)]
        refine ⟨by unfold pFa; rw [e1, e4.2]; rfl, by unfold zuN; rw [if_pos rfl], ?_⟩
        rw [pDf_congr (W' := W) j (i + 1) _ (zuN x i p) (fun _ _ _ => rfl) (fun k hk => by unfold zup; rw [if_neg (by omega)])] at e3
        exact e3
    · have e0 : ∀ p, pFa gv sn (zup W q (nI w)) x i p = pFa gv sn W x i p := fun p => by unfold pFa zup; rw [if_neg e]
      constructor
      · rintro ⟨p, hp, e⟩
        rw [Bool.and_eq_true, pDe_new hn hw j (i + 1) (zuN x i p) (by omega) (by omega)] at e
        exact ⟨e.2.1, p, hp, by rw [e0]; exact e.1, e.2.2⟩
      · rintro ⟨e1, p, hp, e2, e3⟩
        refine ⟨p, hp, ?_⟩
        rw [Bool.and_eq_true, pDe_new hn hw j (i + 1) (zuN x i p) (by omega) (by omega)]
        exact ⟨by rw [← e0]; exact e2, e1, e3⟩
theorem pDe_hi {n : Nat} {gv sn : Nat → Nat → Bool} {W : Nat → Int32} {q w : Nat} (hw : n ≤ w) : ∀ (j i : Nat) (x : Nat → Nat), i ≤ q → q < i + j → pDe n gv sn W q w j i x = false
  | 0, i, x, h1, h2 => by omega
  | j + 1, i, x, h1, h2 => by
    cases e : pDe n gv sn W q w (j + 1) i x with
    | false => rfl
    | true =>
      exfalso
      obtain ⟨p, hp, e⟩ := pAny_iff.mp (show pAny _ n = true from e)
      have e := Bool.and_eq_true_iff.mp e
      by_cases h : i = q
      · have e2 := ((pDe_old j (i + 1) (zuN x i p) (by omega)).mp e.2).1
        unfold zuN at e2
        rw [if_pos h.symm] at e2
        omega
      · have e2 := e.2
        rw [pDe_hi hw j (i + 1) (zuN x i p) (by omega) (by omega)] at e2
        cases e2
/-! the rows count the same -/
theorem pSum_add {f g : Nat → Nat} : ∀ (k : Nat), pSum (fun d => f d + g d) k = pSum f k + pSum g k
  | 0 => rfl
  | k + 1 => by
    show pSum (fun d => f d + g d) k + (f k + g k) = (pSum f k + f k) + (pSum g k + g k)
    rw [pSum_add k]
    omega
theorem pSum_zero (k : Nat) : pSum (fun _ => 0) k = 0 := pSum_z k (fun _ _ => rfl)
theorem pSum_swap {G : Nat → Nat → Nat} (b : Nat) : ∀ (a : Nat), pSum (fun h => pSum (fun w => G h w) b) a = pSum (fun w => pSum (fun h => G h w) a) b
  | 0 => (pSum_zero b).symm
  | a + 1 => by
    show pSum (fun h => pSum (fun w => G h w) b) a + pSum (fun w => G a w) b = pSum (fun w => pSum (fun h => G h w) a + G a w) b
    rw [pSum_swap b a, pSum_add]
theorem pSum_mulL {f : Nat → Nat} (c : Nat) : ∀ (k : Nat), c * pSum f k = pSum (fun d => c * f d) k
  | 0 => rfl
  | k + 1 => by
    show c * (pSum f k + f k) = pSum (fun d => c * f d) k + c * f k
    rw [Nat.mul_add, pSum_mulL c k]
theorem pSum_mulR {f : Nat → Nat} (c : Nat) (k : Nat) : pSum f k * c = pSum (fun d => f d * c) k := by
  rw [Nat.mul_comm, pSum_mulL]
  exact pSum_congr (fun d _ => Nat.mul_comm _ _)
def pPr (a b i k : Nat) : Nat := if k = i then a else b
/-- in how many ways j places more can be filled behind a, b, which stand at i and i + 1 -/
def pRr (n : Nat) (gv sn : Nat → Nat → Bool) (W : Nat → Int32) (j i a b : Nat) : Nat := pDf n gv sn W j (i + 2) (pPr a b i)
theorem pRr_s {n : Nat} {gv sn : Nat → Nat → Bool} {W : Nat → Int32} {j i a b : Nat} : pRr n gv sn W (j + 1) i a b = pSum (fun p => if pCb p (W (i + 2)) = true ∧ sn a p = false ∧ gv b p = true then pRr n gv sn W j (i + 1) b p else 0) n := by
  show pSum _ n = _
  apply pSum_congr
  intro p _
  have e1 : pFa gv sn W (pPr a b i) (i + 2) p = true ↔ pCb p (W (i + 2)) = true ∧ sn a p = false ∧ gv b p = true := by
    unfold pFa
    show (pCb p (W (i + 2)) && (gv (pPr a b i (i + 1)) p && !sn (pPr a b i i) p)) = true ↔ _
    unfold pPr
    rw [if_neg (by omega), if_pos rfl]
    cases pCb p (W (i + 2)) <;> cases sn a p <;> cases gv b p <;> simp
  by_cases e : pCb p (W (i + 2)) = true ∧ sn a p = false ∧ gv b p = true
  · rw [if_pos e, if_pos (e1.mpr e)]
    refine pDf_congr j (i + 3) _ _ (fun k h1 h2 => ?_) (fun _ _ => rfl)
    unfold zuN pPr
    by_cases h3 : k = i + 2
    · rw [if_pos h3, if_neg (by omega)]
    · rw [if_neg h3, if_neg (by omega), if_pos (by omega)]
  · rw [if_neg e, if_neg (fun z => e (e1.mp z))]
def pZ (n : Nat) (gv sn : Nat → Nat → Bool) (W : Nat → Int32) (k j : Nat) : Nat := pSum (fun h => pSum (fun w => pFtT n gv sn W k h w * pRr n gv sn W j k h w) n) n
theorem pZ_s {n : Nat} {gv sn : Nat → Nat → Bool} {W : Nat → Int32} {k j : Nat} : pZ n gv sn W k (j + 1) = pZ n gv sn W (k + 1) j := by
  unfold pZ
  have e1 : pSum (fun h => pSum (fun w => pFtT n gv sn W k h w * pRr n gv sn W (j + 1) k h w) n) n = pSum (fun w => pSum (fun x => pSum (fun h => pFtT n gv sn W k h w * (if pCb x (W (k + 2)) = true ∧ sn h x = false ∧ gv w x = true then pRr n gv sn W j (k + 1) w x else 0)) n) n) n := by
    rw [pSum_swap n n]
    apply pSum_congr
    intro w _
    rw [← pSum_swap n n]
    apply pSum_congr
    intro h _
    rw [pRr_s, pSum_mulL]
  rw [e1]
  apply pSum_congr
  intro w hw
  apply pSum_congr
  intro x hx
  show _ = pSum (tM n gv sn (W (k + 2)) (pFtT n gv sn W k) w x) n * _
  rw [pSum_mulR]
  apply pSum_congr
  intro h _
  unfold tM
  by_cases e : pCb x (W (k + 2)) = true ∧ sn h x = false ∧ gv w x = true
  · rw [if_pos e, if_pos ⟨hw, hx, e⟩]
  · rw [if_neg e, if_neg (fun z => e z.2.2)]
    simp
theorem pZ_end {n : Nat} {gv sn : Nat → Nat → Bool} {W : Nat → Int32} : ∀ (j k : Nat), pZ n gv sn W k j = pZ n gv sn W (k + j) 0
  | 0, k => rfl
  | j + 1, k => by rw [pZ_s, pZ_end j (k + 1), show k + 1 + j = k + (j + 1) by omega]
theorem pFtT_z {n : Nat} {gv sn : Nat → Nat → Bool} {W : Nat → Int32} : ∀ (k h w : Nat), (n ≤ h ∨ n ≤ w) → pFtT n gv sn W k h w = 0
  | 0, h, w, hh => by show tB _ _ _ _ _ _ = 0; unfold tB; rw [if_neg (by omega)]
  | k + 1, h, w, hh => pSum_z n (fun d _ => by unfold tM; rw [if_neg (by omega)])
theorem pZ_t {n : Nat} {gv sn : Nat → Nat → Bool} {W : Nat → Int32} {k : Nat} (hn : n ≤ 6) : pZ n gv sn W k 0 = tS (pFtT n gv sn W k) := by
  rw [tS_2]
  unfold pZ
  have h6 : ∀ f : Nat → Nat, (∀ d, n ≤ d → f d = 0) → pSum f 6 = pSum f n := fun f hf => by
    have := pSum_ext (f := f) (n := n) (6 - n) hf
    rw [show n + (6 - n) = 6 by omega] at this
    exact this
  rw [h6 _ (fun d hd => pSum_z 6 (fun w _ => pFtT_z k d w (Or.inl hd)))]
  apply pSum_congr
  intro h _
  rw [h6 _ (fun w hw => pFtT_z k h w (Or.inr hw))]
  apply pSum_congr
  intro w _
  exact Nat.mul_one _
theorem pDf_2 {n : Nat} {gv sn : Nat → Nat → Bool} {W : Nat → Int32} {j : Nat} {x : Nat → Nat} : pDf n gv sn W (j + 2) 0 x = pZ n gv sn W 0 j := by
  show pSum (fun p => if pFa gv sn W x 0 p then pSum (fun p2 => if pFa gv sn W (zuN x 0 p) 1 p2 then pDf n gv sn W j 2 (zuN (zuN x 0 p) 1 p2) else 0) n else 0) n = _
  unfold pZ
  apply pSum_congr
  intro h hh
  by_cases e : pFa gv sn W x 0 h = true
  · rw [if_pos e]
    apply pSum_congr
    intro w hw
    have e1 : pCb h (W 0) = true := by unfold pFa at e; exact (Bool.and_eq_true_iff.mp e).1
    have e2 : pFa gv sn W (zuN x 0 h) 1 w = true ↔ pCb w (W 1) = true ∧ gv h w = true := by
      unfold pFa
      show (pCb w (W 1) && gv (zuN x 0 h 0) w) = true ↔ _
      unfold zuN
      rw [if_pos rfl, Bool.and_eq_true]
    show _ = tB n gv (W 0) (W 1) h w * _
    unfold tB
    by_cases e3 : pCb w (W 1) = true ∧ gv h w = true
    · rw [if_pos (e2.mpr e3), if_pos ⟨hh, hw, e1, e3⟩, Nat.one_mul]
      refine pDf_congr j 2 _ _ (fun k h1 h2 => ?_) (fun _ _ => rfl)
      unfold zuN pPr
      by_cases h3 : k = 1
      · rw [if_pos h3, if_neg (by omega)]
      · rw [if_neg h3, if_pos (by omega), if_pos (by omega)]
    · rw [if_neg (fun z => e3 (e2.mp z)), if_neg (fun z => e3 z.2.2.2), Nat.zero_mul]
  · rw [if_neg e]
    refine (pSum_z n (fun w _ => ?_)).symm
    show tB n gv (W 0) (W 1) h w * _ = 0
    unfold tB
    rw [if_neg, Nat.zero_mul]
    intro z
    exact e (by unfold pFa; rw [z.2.2.1]; rfl)
theorem pSum_cnt (k : Nat) : pSum (fun _ => 1) k = k := by
  induction k with
  | zero => rfl
  | succ k ih => show pSum (fun _ => 1) k + 1 = _; rw [ih]
theorem pDf_ft {n : Nat} {gv sn : Nat → Nat → Bool} {W : Nat → Int32} {m : Nat} {x : Nat → Nat} (hn : n ≤ 6) (hW : pDo m W n) : pDf n gv sn W m 0 x = pFt n gv sn m W := by
  unfold pFt
  match m, hW with
  | 0, _ => rw [if_pos rfl]; rfl
  | 1, hW =>
    rw [if_neg (by omega), if_pos rfl]
    show pSum (fun p => if pFa gv sn W x 0 p then 1 else 0) n = _
    rcases hW 0 (by omega) with e | ⟨k, hk, e⟩
    · rw [if_pos e]
      rw [pSum_congr (g := fun _ => 1) (fun p _ => by rw [if_pos]; unfold pFa pCb; rw [e]; rfl), pSum_cnt]
    · rw [if_neg (by rw [e]; exact nI_m1 (by omega)), pSum_one (p := k) n (fun p hp hne => ?_), if_pos hk, if_pos]
      · unfold pFa
        rw [e, (pCb_nI (by omega) (by omega)).mpr rfl]
        rfl
      · rw [if_neg]
        intro z
        unfold pFa at z
        rw [e] at z
        exact hne ((pCb_nI (by omega) (by omega)).mp (Bool.and_eq_true_iff.mp z).1)
  | m + 2, _ =>
    rw [if_neg (by omega), if_neg (by omega), pDf_2, pZ_end, pZ_t hn, Nat.zero_add]
    rfl
theorem pDe_on {n : Nat} {gv sn : Nat → Nat → Bool} {W : Nat → Int32} {m q w : Nat} {x : Nat → Nat} (hn : n ≤ 6) (hW : pDo m W n) (hq : q < m) (hw : w < n) : pDe n gv sn W q w m 0 x = pOn n gv sn m W q w := by
  rw [Bool.eq_iff_iff, pDe_new hn hw m 0 x (Nat.zero_le q) (by omega)]
  have hW2 : pDo m (zup W q (nI w)) n := by
    intro i hi
    unfold zup
    by_cases e : i = q
    · rw [if_pos e]; exact Or.inr ⟨w, hw, rfl⟩
    · rw [if_neg e]; exact hW i hi
  rw [pDf_ft hn hW2]
  unfold pOn
  rw [Bool.and_eq_true, decide_eq_true_eq]

