/-! ===== the state of the whole; the class's hold of it ===== -/
/-- the page; kin, how many, met, how many, term; people and kinds; favours, their columns, the week; the diary; how often a law was read; the image: of which reading, of how many people, favours, diary -/
abbrev pS : Type := (Nat × (Nat → Int32)) × ((Nat → Nat → Bool) × Nat × (Nat → Nat → Bool) × Nat × Nat) × (Nat × (Nat → Nat)) × (Nat × (Nat → Nat → Int32) × Nat) × (Nat × (Nat → Int32)) × Nat × (Nat × Nat × (Nat × (Nat → Nat → Int32) × Nat) × (Nat × (Nat → Int32)))
abbrev qPl (S : pS) : Nat := S.1.1
abbrev qPc (S : pS) : Nat → Int32 := S.1.2
abbrev qKin (S : pS) : Nat → Nat → Bool := S.2.1.1
abbrev qKm (S : pS) : Nat := S.2.1.2.1
abbrev qMet (S : pS) : Nat → Nat → Bool := S.2.1.2.2.1
abbrev qMm (S : pS) : Nat := S.2.1.2.2.2.1
abbrev qT (S : pS) : Nat := S.2.1.2.2.2.2
abbrev qN (S : pS) : Nat := S.2.2.1.1
abbrev qKd (S : pS) : Nat → Nat := S.2.2.1.2
abbrev qM (S : pS) : Nat := S.2.2.2.1.1
abbrev qF (S : pS) : Nat → Nat → Int32 := S.2.2.2.1.2.1
abbrev qW (S : pS) : Nat := S.2.2.2.1.2.2
abbrev qDl (S : pS) : Nat := S.2.2.2.2.1.1
abbrev qDw (S : pS) : Nat → Int32 := S.2.2.2.2.1.2
abbrev qQ (S : pS) : Nat := S.2.2.2.2.2.1
abbrev qKr (S : pS) : Nat := S.2.2.2.2.2.2.1
abbrev qKp (S : pS) : Nat := S.2.2.2.2.2.2.2.1
abbrev qM2 (S : pS) : Nat := S.2.2.2.2.2.2.2.2.1.1
abbrev qF2 (S : pS) : Nat → Nat → Int32 := S.2.2.2.2.2.2.2.2.1.2.1
abbrev qW2 (S : pS) : Nat := S.2.2.2.2.2.2.2.2.1.2.2
abbrev qD2 (S : pS) : Nat := S.2.2.2.2.2.2.2.2.2.1
abbrev qV2 (S : pS) : Nat → Int32 := S.2.2.2.2.2.2.2.2.2.2
def pDo (l : Nat) (W : Nat → Int32) (n : Nat) : Prop := ∀ i, i < l → W i = -1 ∨ ∃ k, k < n ∧ W i = nI k
/-- what holds of every state that can come about in B calls -/
def pOk (B : Nat) (S : pS) : Prop := B ≤ 100000 ∧ qQ S ≤ B ∧ qW S ≤ B ∧ (qQ S = 0 ↔ qT S = 0) ∧ qT S ≤ 9 ∧ qKm S ≤ 5 ∧ qMm S ≤ 12 ∧ (qQ S = 0 → qN S = 0 ∧ qM S = 0) ∧ pLw (qM S) (qF S) (qN S) (qW S) ∧ pDo (qDl S) (qDw S) (qN S) ∧ qKr S ≤ qQ S ∧ (qKr S = qQ S → qKp S ≤ qN S) ∧ (qKr S ≠ 0 → qKr S = qQ S → qKp S = qN S → pLw (qM2 S) (qF2 S) (qN S) (qW2 S) ∧ qW2 S ≤ B ∧ pDo (qD2 S) (qV2 S) (qN S)) ∧ (∀ a b, a < 6 → b < 6 → qKin S a b = qKin S b a ∧ qMet S a b = qMet S b a) ∧ qKp S ≤ 6 ∧ ∀ a, a < qN S → qKd S a ≤ 4
def zPg (σ : zSt) (pl : Nat) (pc : Nat → Int32) : Prop := zI σ 1 1 = nI pl ∧ pl ≤ 54 ∧ ∀ i, i < pl → zI σ 2 i = pc i
def zDy (σ : zSt) (c l : Nat) (W : Nat → Int32) : Prop := zI σ c 1 = nI l ∧ l ≤ 7 ∧ ∀ i, i < l → zI σ (c + 1) i = W i
def zKm (σ : zSt) (km mm : Nat) : Prop := zI σ 9 1 = nI km ∧ zI σ 11 1 = nI mm
def zRq (σ : zSt) (q kr kp : Nat) : Prop := zI σ 0 11 = nI q ∧ zI σ 0 12 = nI kr ∧ zI σ 0 13 = nI kp
theorem zno {cs ds : List Nat} (h : (cs.all fun c => ds.all fun e => !(c == e)) = true) : ∀ e ∈ ds, e ∉ cs := by
  intro e he hm
  have h1 := List.all_eq_true.mp (List.all_eq_true.mp h e hm) e he
  simp at h1
theorem zPg.same {cs rs : List Nat} {σ σ' : zSt} {pl : Nat} {pc : Nat → Int32} (h : zPg σ pl pc) (hS : zSame cs rs σ σ') (hc : (cs.all fun c => [1, 2].all fun e => !(c == e)) = true) : zPg σ' pl pc := by
  have hx := zno hc
  exact ⟨by rw [hS.2.2.2 1 (hx 1 (by simp))]; exact h.1, h.2.1, fun i hi => by rw [hS.2.2.2 2 (hx 2 (by simp))]; exact h.2.2 i hi⟩
theorem zDy.same {cs rs : List Nat} {σ σ' : zSt} {c l : Nat} {W : Nat → Int32} (h : zDy σ c l W) (hS : zSame cs rs σ σ') (hc : (cs.all fun x => [c, c + 1].all fun e => !(x == e)) = true) : zDy σ' c l W := by
  have hx := zno hc
  exact ⟨by rw [hS.2.2.2 c (hx c (by simp))]; exact h.1, h.2.1, fun i hi => by rw [hS.2.2.2 (c + 1) (hx (c + 1) (by simp))]; exact h.2.2 i hi⟩
theorem zKm.same {cs rs : List Nat} {σ σ' : zSt} {km mm : Nat} (h : zKm σ km mm) (hS : zSame cs rs σ σ') (hc : (cs.all fun c => [9, 11].all fun e => !(c == e)) = true) : zKm σ' km mm := by
  have hx := zno hc
  exact ⟨by rw [hS.2.2.2 9 (hx 9 (by simp))]; exact h.1, by rw [hS.2.2.2 11 (hx 11 (by simp))]; exact h.2⟩
theorem zRq.same {cs rs : List Nat} {σ σ' : zSt} {q kr kp : Nat} (h : zRq σ q kr kp) (hS : zSame cs rs σ σ') (hc : (cs.all fun c => [0].all fun e => !(c == e)) = true) : zRq σ' q kr kp := by
  have hx := zno hc
  exact ⟨by rw [hS.2.2.2 0 (hx 0 (by simp))]; exact h.1, by rw [hS.2.2.2 0 (hx 0 (by simp))]; exact h.2.1, by rw [hS.2.2.2 0 (hx 0 (by simp))]; exact h.2.2⟩
theorem zLd.same {cs rs : List Nat} {σ σ' : zSt} {c m : Nat} {F : Nat → Nat → Int32} {w : Nat} (h : zLd σ c m F w) (hS : zSame cs rs σ σ') (hc : (cs.all fun x => (zlc c).all fun e => !(x == e)) = true) : zLd σ' c m F w := by
  have hx := zno hc
  exact ⟨by rw [hS.2.2.2 c (hx c (zlc_in (by omega)))]; exact h.1, h.2.1, by rw [hS.2.2.2 c (hx c (zlc_in (by omega)))]; exact h.2.2.1, fun j f hj hf => by rw [hS.2.2.2 (c + 1 + j) (hx _ (zlc_in (by omega)))]; exact h.2.2.2 j f hj hf⟩
/-- rows of a Rows, in some order -/
def zRx (σ : zSt) (c : Nat) : Prop := ∃ a b, zRb σ c a b
theorem zRx.same {cs rs : List Nat} {σ σ' : zSt} {c : Nat} (h : zRx σ c) (hS : zSame cs rs σ σ') (hc : (rs.all fun x => !(x == c)) = true) : zRx σ' c := by
  obtain ⟨a, b, h⟩ := h
  refine ⟨a, b, h.same hS (fun hm => ?_)⟩
  have := List.all_eq_true.mp hc c hm
  simp at this
/-- THE CLASS HOLDS S -/
def zCl (σ : zSt) (S : pS) : Prop := zLay σ ∧ zPg σ (qPl S) (qPc S) ∧ zFk σ (qN S) (qKd S) (qKin S) (qMet S) (qT S) ∧ zKm σ (qKm S) (qMm S) ∧ zSp σ (qN S) (pGv (qKd S) (qKin S) (qMet S)) (pSn (qKin S)) ∧ zRx σ 18 ∧ zRx σ 23 ∧ zLd σ 28 (qM S) (qF S) (qW S) ∧ zDy σ 42 (qDl S) (qDw S) ∧ zLd σ 44 (qM2 S) (qF2 S) (qW2 S) ∧ zDy σ 51 (qD2 S) (qV2 S) ∧ zRq σ (qQ S) (qKr S) (qKp S)
/-- a call of the class leaves the model's cells -/
def zFc (σ σ' : zSt) : Prop := (∀ c, c < 71 → σ'.1[c]? = σ.1[c]?) ∧ (σ'.1.length ≤ σ.1.length + 1 ∧ σ.1.length ≤ σ'.1.length) ∧ ∀ c, 53 ≤ c → c < 71 → (∀ i, zI σ' c i = zI σ c i) ∧ (∀ i, zJ σ' c i = zJ σ c i) ∧ ∀ i, zR σ' c i = zR σ c i
theorem zFc.of {cs rs : List Nat} {σ σ' : zSt} (h : zSame cs rs σ σ') (hc : (cs.all fun c => decide (c < 53)) = true) (hr : (rs.all fun c => decide (c < 53)) = true) : zFc σ σ' := by
  have h1 : ∀ c, 53 ≤ c → c ∉ cs := fun c hc1 hm => by have := List.all_eq_true.mp hc c hm; simp at this; omega
  have h2 : ∀ c, 53 ≤ c → c ∉ rs := fun c hc1 hm => by have := List.all_eq_true.mp hr c hm; simp at this; omega
  exact ⟨fun c _ => by rw [h.1], by rw [h.1]; omega, fun c hc1 _ => ⟨h.2.2.2 c (h1 c hc1), fun i => by rw [h.2.1], h.2.2.1 c (h2 c hc1)⟩⟩
/-- a call's end: the answer, the state -/
def zQs (I : zSt → pS → Prop) (Fr : zSt → zSt → Prop) (σ : zSt) (a : Int32 × pS) : Option Value → zSt → Prop := fun r σ' => r = some (.int a.1) ∧ I σ' a.2 ∧ Fr σ σ'
theorem zQs.mk {I : zSt → pS → Prop} {Fr : zSt → zSt → Prop} {σ σ' : zSt} {a : Int32 × pS} {v : Int32} {S' : pS} (e : a = (v, S')) (h1 : I σ' S') (h2 : Fr σ σ') : zQs I Fr σ a (some (.int v)) σ' := by subst e; exact ⟨rfl, h1, h2⟩
/-- searches: nothing of the state changes -/
theorem zCl.sc {cs rs : List Nat} {σ σ' : zSt} {S : pS} (h : zCl σ S) (hS : zSame cs rs σ σ') (hc : (cs.all fun x => [0, 1, 2, 8, 9, 10, 11, 12, 13, 15, 16, 28, 29, 30, 31, 32, 33, 34, 42, 43, 44, 45, 46, 47, 48, 49, 50, 51, 52].all fun e => !(x == e)) = true) (hr : rs.all (fun c => (zrl.getD c []).all (fun r => r.isNone)) = true) (h18 : zRx σ' 18) (h23 : zRx σ' 23) : zCl σ' S := by
  obtain ⟨hL, hPg, hF, hK, hp, -, -, hd, hy, hd2, hy2, hq⟩ := h
  have hx := zno hc
  have e : ∀ c ∈ [0, 1, 2, 8, 9, 10, 11, 12, 13, 15, 16, 28, 29, 30, 31, 32, 33, 34, 42, 43, 44, 45, 46, 47, 48, 49, 50, 51, 52], ∀ i, zI σ' c i = zI σ c i := fun c hc1 => hS.2.2.2 c (hx c hc1)
  have sub : ∀ ds : List Nat, (∀ e ∈ ds, e ∈ [0, 1, 2, 8, 9, 10, 11, 12, 13, 15, 16, 28, 29, 30, 31, 32, 33, 34, 42, 43, 44, 45, 46, 47, 48, 49, 50, 51, 52]) → (cs.all fun c => ds.all fun e => !(c == e)) = true := by
    intro ds hds
    rw [List.all_eq_true]
    intro c hcc
    rw [List.all_eq_true]
    intro e he
    have := hx e (hds e he)
    simp
    rintro rfl
    exact this hcc
  have sF : (cs.all fun c => !(c == 8) && !(c == 10) && !(c == 12) && !(c == 13)) = true := by
    have := sub [8, 10, 12, 13] (by decide)
    simpa [List.all_eq_true, and_assoc] using this
  have sP : (cs.all fun c => !(c == 15) && !(c == 16)) = true := by
    have := sub [15, 16] (by decide)
    simpa [List.all_eq_true, and_assoc] using this
  exact ⟨hL.same hS hr, hPg.same hS (sub _ (by decide)), hF.same hS sF, hK.same hS (sub _ (by decide)), hp.same hS sP, h18, h23, hd.same hS (sub _ (by decide)), hy.same hS (sub _ (by decide)), hd2.same hS (sub _ (by decide)), hy2.same hS (sub _ (by decide)), hq.same hS (sub _ (by decide))⟩

