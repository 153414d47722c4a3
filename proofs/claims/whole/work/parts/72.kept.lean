/-! ===== what holds of every state is kept ===== -/
theorem pOk.up {B : Nat} {S : pS} (h : pOk B S) (hB : B + 1 ≤ 100000) : pOk (B + 1) S := by
  obtain ⟨oB, oq, ow, oqt, ot, okm, omm, oq0, oL, oD, okr, okp, oK, osym, okp6, okd⟩ := h
  exact ⟨hB, by omega, by omega, oqt, ot, okm, omm, oq0, oL, oD, okr, okp, fun h1 h2 h3 => ⟨(oK h1 h2 h3).1, by have := (oK h1 h2 h3).2.1; omega, (oK h1 h2 h3).2.2⟩, osym, okp6, okd⟩
def pSy (K : Nat → Nat → Bool) : Prop := ∀ a b, K a b = K b a
theorem pSy_ad {K : Nat → Nat → Bool} (h : pSy K) (x y : Nat) : pSy (pAd K x y) := by
  intro a b
  unfold pAd
  rw [h a b]
  cases K b a <;> cases decide (a = x) <;> cases decide (a = y) <;> cases decide (b = x) <;> cases decide (b = y) <;> rfl
/-- a reading that can be -/
def pRI (S : pRs) : Prop := pRok S ∧ pSy S.2.2.1 ∧ pSy S.2.2.2.2.1
theorem pGo_ok {c : Int32} {S S' : pRs} (h : pRI S) (e : pGo c S = some S') : pRI S' := by
  obtain ⟨st, fd, kin, km, met, mm, tm⟩ := S
  obtain ⟨hk, h1, h2⟩ := h
  have h1 : pSy kin := h1
  have h2 : pSy met := h2
  simp only [pRok] at hk
  have hd : ∀ k, pDg c = some k → k < 6 := fun k hk => (pDg_some hk).1
  unfold pGo at e
  dsimp only at e
  split at e
  · split at e
    · cases e; exact ⟨by simp only [pRok]; omega, h1, h2⟩
    · split at e
      · cases e
      · rename_i k ek
        have := hd k ek
        cases e; exact ⟨by simp only [pRok]; omega, h1, h2⟩
  · split at e
    · split at e
      · cases e
      · rename_i k ek
        have := hd k ek
        cases e; exact ⟨by simp only [pRok]; omega, h1, h2⟩
    · split at e
      · split at e
        · cases e
        · split at e
          · cases e
          · cases e; exact ⟨by simp only [pRok]; omega, pSy_ad h1 _ _, h2⟩
      · split at e
        · split at e
          · split at e
            · cases e; exact ⟨by simp only [pRok]; omega, h1, h2⟩
            · cases e
          · split at e
            · cases e; exact ⟨by simp only [pRok]; omega, h1, h2⟩
            · cases e
        · split at e
          · split at e
            · cases e
            · rename_i k ek
              have := hd k ek
              cases e; exact ⟨by simp only [pRok]; omega, h1, h2⟩
          · split at e
            · split at e
              · cases e
              · split at e
                · cases e
                · cases e; exact ⟨by simp only [pRok]; omega, h1, pSy_ad h2 _ _⟩
            · split at e
              · split at e
                · split at e
                  · cases e; exact ⟨by simp only [pRok]; omega, h1, h2⟩
                  · cases e
                · split at e
                  · cases e; exact ⟨by simp only [pRok]; omega, h1, h2⟩
                  · cases e
              · split at e
                · split at e
                  · cases e; exact ⟨by simp only [pRok]; omega, h1, h2⟩
                  · cases e
                · split at e
                  · split at e
                    · cases e; exact ⟨by simp only [pRok]; omega, h1, h2⟩
                    · cases e
                  · cases e
theorem pRead_ok {pg : Nat → Int32} : ∀ (k i : Nat) (S S' : pRs), pRI S → (pRead pg k i S).2 = some S' → pRI S'
  | 0, i, S, S', h, e => by simp only [pRead] at e; cases e; exact h
  | k + 1, i, S, S', h, e => by
    simp only [pRead] at e
    cases e1 : pGo (pg i) S with
    | none => rw [e1] at e; cases e
    | some S1 =>
      rw [e1] at e
      exact pRead_ok k (i + 1) S1 S' (pGo_ok h e1) e
theorem pRI_0 : pRI pR0 := ⟨by simp only [pRok, pR0]; omega, fun _ _ => rfl, fun _ _ => rfl⟩
theorem pDo_mono {l : Nat} {W : Nat → Int32} {n n' : Nat} (h : pDo l W n) (hn : n ≤ n') : pDo l W n' := fun i hi => (h i hi).elim Or.inl (fun ⟨k, hk, e⟩ => Or.inr ⟨k, by omega, e⟩)
theorem ok_letter {B : Nat} {S : pS} (h : pOk B S) (c : Int32) : pOk B (sLetter S c).2 := by
  unfold sLetter
  split
  · exact h
  · split
    · exact h
    · exact h
theorem ok_blank {B : Nat} {S : pS} (h : pOk B S) : pOk B (sBlank S).2 := h
theorem ok_law {B : Nat} {S : pS} (h : pOk B S) (hB : B + 1 ≤ 100000) : pOk (B + 1) (sLaw S).2 := by
  have h0 := h
  obtain ⟨oB, oq, ow, oqt, ot, okm, omm, oq0, oL, oD, okr, okp, oK, osym, okp6, okd⟩ := h
  unfold sLaw
  cases e : (pRead (qPc S) (qPl S) 0 pR0).2 with
  | none => exact h0.up hB
  | some S1 =>
    have hI := pRead_ok _ _ _ _ pRI_0 e
    obtain ⟨st, fd, kin, km, met, mm, tm⟩ := S1
    dsimp only
    split
    · rename_i hst
      obtain ⟨hk, h1, h2⟩ := hI
      have h1 : pSy kin := h1
      have h2 : pSy met := h2
      simp only [pRok] at hk
      have h8 := hk.2.2.2.2.2.2 hst
      refine ⟨hB, by show qQ S + 1 ≤ B + 1; omega, Nat.zero_le _, ⟨fun z => ?_, fun z => ?_⟩, h8.2, hk.2.2.1, hk.2.2.2.1, fun z => ?_, ⟨by show 0 < 1000000; omega, fun f hf => absurd hf (Nat.not_lt_zero f)⟩, fun i hi => absurd hi (Nat.not_lt_zero i), by show qKr S ≤ qQ S + 1; omega, fun z => ?_, fun _ z => ?_, fun a b _ _ => ⟨h1 a b, h2 a b⟩, okp6, fun a ha => absurd ha (Nat.not_lt_zero a)⟩
      · have z : qQ S + 1 = 0 := z
        omega
      · have z : tm = 0 := z
        omega
      · have z : qQ S + 1 = 0 := z
        omega
      · have z : qKr S = qQ S + 1 := z
        omega
      · have z : qKr S = qQ S + 1 := z
        omega
    · exact h0.up hB
theorem ok_person {B : Nat} {S : pS} (h : pOk B S) (k : Int32) : pOk B (sPerson S k).2 := by
  have h0 := h
  obtain ⟨oB, oq, ow, oqt, ot, okm, omm, oq0, oL, oD, okr, okp, oK, osym, okp6, okd⟩ := h
  unfold sPerson
  split
  · exact h0
  · rename_i hk
    split
    · exact h0
    · rename_i hq
      split
      · exact h0
      · obtain ⟨j, -, hj4, ej⟩ := zbw (x := k) 0 4 (by omega) (by omega) (fun z => hk (Or.inl z)) (fun z => hk (Or.inr z))
        refine ⟨oB, oq, ow, oqt, ot, okm, omm, fun z => absurd z hq, pLw_mono oL (show qN S ≤ qN S + 1 by omega) (Nat.le_refl _) oL.1, pDo_mono oD (show qN S ≤ qN S + 1 by omega), okr, fun z => ?_, fun _ z1 z2 => ?_, osym, okp6, fun a ha => ?_⟩
        · have := okp z
          show qKp S ≤ qN S + 1
          omega
        · have h1 := okp z1
          have z2 : qKp S = qN S + 1 := z2
          omega
        · have ha : a < qN S + 1 := ha
          show (if a = qN S then dN k else qKd S a) ≤ 4
          split
          · rw [ej, dN_nI (by omega)]; exact hj4
          · exact okd a (by omega)
theorem ok_favour {B : Nat} {S : pS} (h : pOk B S) (hn6 : qN S ≤ 6) (hm12 : qM S ≤ 12) (a b v r : Int32) : pOk B (sFavour S a b v r).2 := by
  have h0 := h
  obtain ⟨oB, oq, ow, oqt, ot, okm, omm, oq0, oL, oD, okr, okp, oK, osym, okp6, okd⟩ := h
  unfold sFavour
  split
  · exact h0
  · rename_i h1
    split
    · exact h0
    · rename_i h2
      split
      · exact h0
      · have hc : (pTwo S a b && (decide (r = -1) || zval (qM S) r)) = true := by
          cases e : (pTwo S a b && (decide (r = -1) || zval (qM S) r)) with
          | true => rfl
          | false =>
            exfalso
            unfold pMay at h1
            rw [e, if_neg (by decide)] at h1
            exact h1 (by decide)
        have hv : ¬ (v < 1 ∨ 99 < v) := by
          intro e
          unfold pMay at h1
          rw [if_pos hc, if_pos e] at h1
          exact h1 (by decide)
        have hc2 := Bool.and_eq_true_iff.mp hc
        have ht := hc2.1
        unfold pTwo at ht
        rw [Bool.and_eq_true, Bool.and_eq_true] at ht
        obtain ⟨a, ha, rfl⟩ := zval_of (by omega) ht.1.1
        obtain ⟨b, hb, rfl⟩ := zval_of (by omega) ht.1.2
        obtain ⟨v, hv1, hv99, rfl⟩ := zbw (x := v) 1 99 (by omega) (by omega) (fun z => hv (Or.inl z)) (fun z => hv (Or.inr z))
        have ho : ∀ g, pOld r = some g → g < qM S := by
          intro g hg
          unfold pOld at hg
          split at hg
          · cases hg
          · rename_i hr
            cases hg
            have h3 : zval (qM S) r = true := by
              have := hc2.2
              rw [decide_eq_false hr, Bool.false_or] at this
              exact this
            obtain ⟨g, hg, rfl⟩ := zval_of (by omega) h3
            rw [dN_nI (by omega)]
            exact hg
        refine ⟨oB, oq, ow, oqt, ot, okm, omm, fun z => ?_, pLw_add oL ha hb hv1 hv99 ho, oD, okr, okp, oK, osym, okp6, okd⟩
        have := (oq0 z).1
        omega
theorem ok_week {B : Nat} {S : pS} (h : pOk B S) (hB : B + 1 ≤ 100000) : pOk (B + 1) (sWeek S).2 := by
  have h0 := h.up hB
  obtain ⟨oB, oq, ow, oqt, ot, okm, omm, oq0, oL, oD, okr, okp, oK, osym, okp6, okd⟩ := h
  unfold sWeek
  split
  · exact h0
  · exact ⟨hB, by show qQ S ≤ B + 1; omega, by show qW S + 1 ≤ B + 1; omega, oqt, ot, okm, omm, oq0, pLw_mono oL (Nat.le_refl _) (show qW S ≤ qW S + 1 by omega) (show qW S + 1 < 1000000 by omega), oD, okr, okp, fun h1 h2 h3 => ⟨(oK h1 h2 h3).1, by have := (oK h1 h2 h3).2.1; show qW2 S ≤ B + 1; omega, (oK h1 h2 h3).2.2⟩, osym, okp6, okd⟩
theorem ok_thanks {B : Nat} {S : pS} (h : pOk B S) (hn6 : qN S ≤ 6) (p : Int32) : pOk B (sThanks S p).2 := by
  have h0 := h
  obtain ⟨oB, oq, ow, oqt, ot, okm, omm, oq0, oL, oD, okr, okp, oK, osym, okp6, okd⟩ := h
  unfold sThanks
  split
  · rename_i hp
    split
    · exact h0
    · refine ⟨oB, oq, ow, oqt, ot, okm, omm, oq0, oL, fun i hi => ?_, okr, okp, oK, osym, okp6, okd⟩
      have hi : i < qDl S + 1 := hi
      show zup (qDw S) (qDl S) p i = -1 ∨ ∃ k, k < qN S ∧ zup (qDw S) (qDl S) p i = nI k
      unfold zup
      by_cases e : i = qDl S
      · rw [if_pos e]
        rcases hp with hp | hp
        · exact Or.inl hp
        · exact Or.inr (zval_of (by omega) hp)
      · rw [if_neg e]
        exact oD i (by omega)
  · exact h0
theorem ok_forget {B : Nat} {S : pS} (h : pOk B S) : pOk B (sForget S).2 := by
  obtain ⟨oB, oq, ow, oqt, ot, okm, omm, oq0, oL, oD, okr, okp, oK, osym, okp6, okd⟩ := h
  exact ⟨oB, oq, ow, oqt, ot, okm, omm, oq0, oL, fun i hi => absurd hi (Nat.not_lt_zero i), okr, okp, oK, osym, okp6, okd⟩
theorem ok_image {B : Nat} {S : pS} (h : pOk B S) (hn6 : qN S ≤ 6) : pOk B (sImage S).2 := by
  have h0 := h
  obtain ⟨oB, oq, ow, oqt, ot, okm, omm, oq0, oL, oD, okr, okp, oK, osym, okp6, okd⟩ := h
  unfold sImage
  split
  · exact h0
  · exact ⟨oB, oq, ow, oqt, ot, okm, omm, oq0, oL, oD, Nat.le_refl _, fun _ => Nat.le_refl _, fun _ _ _ => ⟨oL, ow, oD⟩, osym, hn6, okd⟩
theorem ok_restore {B : Nat} {S : pS} (h : pOk B S) : pOk B (sRestore S).2 := by
  have h0 := h
  obtain ⟨oB, oq, ow, oqt, ot, okm, omm, oq0, oL, oD, okr, okp, oK, osym, okp6, okd⟩ := h
  unfold sRestore
  split
  · exact h0
  · rename_i hx
    have h1 : ¬ qKr S = 0 := fun z => hx (Or.inl z)
    have h2 : qKr S = qQ S := Decidable.not_not.mp (fun z => hx (Or.inr (Or.inl z)))
    have h3 : qKp S = qN S := Decidable.not_not.mp (fun z => hx (Or.inr (Or.inr z)))
    obtain ⟨k1, k2, k3⟩ := oK h1 h2 h3
    exact ⟨oB, oq, k2, oqt, ot, okm, omm, fun z => absurd (h2.trans z) h1, k1, k3, okr, okp, oK, osym, okp6, okd⟩
def pS0 : pS := ((0, fun _ => 0), ((fun _ _ => false), 0, (fun _ _ => false), 0, 0), (0, fun _ => 0), (0, (fun _ _ => 0), 0), (0, fun _ => 0), 0, (0, 0, (0, (fun _ _ => 0), 0), (0, fun _ => 0)))
theorem ok_0 : pOk 0 pS0 := by
  refine ⟨by omega, Nat.le_refl _, Nat.le_refl _, ⟨fun _ => rfl, fun _ => rfl⟩, Nat.zero_le _, Nat.zero_le _, Nat.zero_le _, fun _ => ⟨rfl, rfl⟩, ⟨by show 0 < 1000000; omega, fun f hf => absurd hf (Nat.not_lt_zero f)⟩, fun i hi => absurd hi (Nat.not_lt_zero i), Nat.le_refl _, fun _ => Nat.le_refl _, fun z => absurd rfl z, fun _ _ _ _ => ⟨rfl, rfl⟩, Nat.zero_le _, fun a ha => absurd ha (Nat.not_lt_zero a)⟩

