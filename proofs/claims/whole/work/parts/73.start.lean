/-! ===== the start; what a call of the one leaves of the other ===== -/
def zZr (σ : zSt) : Prop := ∀ c i, zI σ c i = 0
theorem zZr.n {σ : zSt} {q : Nat × Nat} (h : zZr σ) : zZr (zN σ q) := by
  intro c i
  show (if c = σ.1.length then 0 else zI σ c i) = 0
  split
  · rfl
  · exact h c i
theorem zZr.r {σ : zSt} {c j : Nat} {v : Option Nat} (h : zZr σ) : zZr (zsR σ c j v) := fun c' i => h c' i
theorem zZr.a {σ : zSt} {c j : Nat} {q : Nat × Nat} (h : zZr σ) : zZr (zA σ c j q) := by unfold zA; exact zZr.r (zZr.n h)
theorem zZr.o {F : zSt → Nat → zSt} {σ : zSt} {c j ci : Nat} (hF : ∀ σ c, zZr σ → zZr (F σ c)) (h : zZr σ) : zZr (zO F σ c j ci) := by unfold zO; exact zZr.r (hF _ _ (zZr.n h))
theorem rPg (σ : zSt) (c : Nat) (h : zZr σ) : zZr (zPgI σ c) := by unfold zPgI; exact zZr.a h
theorem rPa (σ : zSt) (c : Nat) (h : zZr σ) : zZr (zPaI σ c) := by unfold zPaI; exact zZr.a h
theorem rDi (σ : zSt) (c : Nat) (h : zZr σ) : zZr (zDiI σ c) := by unfold zDiI; exact zZr.a h
theorem rRo (σ : zSt) (c : Nat) (h : zZr σ) : zZr (zRoI σ c) := by unfold zRoI; exact zZr.a (zZr.a h)
theorem rLe (σ : zSt) (c : Nat) (h : zZr σ) : zZr (zLeI σ c) := by unfold zLeI; exact zZr.a (zZr.a (zZr.a (zZr.a (zZr.a (zZr.a h)))))
theorem rRd (σ : zSt) (c : Nat) (h : zZr σ) : zZr (zRdI σ c) := by unfold zRdI; exact zZr.o rPa (zZr.o rPa h)
theorem rFo (σ : zSt) (c : Nat) (h : zZr σ) : zZr (zFoI σ c) := by unfold zFoI; exact zZr.a (zZr.o rPa (zZr.o rPa h))
theorem rSt (fo : Nat) (σ : zSt) (c : Nat) (h : zZr σ) : zZr (zStI fo σ c) := by unfold zStI; exact zZr.r (zZr.a (zZr.a h))
theorem rWa (fo st : Nat) (σ : zSt) (c : Nat) (h : zZr σ) : zZr (zWaI fo st σ c) := by unfold zWaI; exact zZr.r (zZr.r (zZr.a (zZr.o rRo h)))
theorem rTa (fo st : Nat) (σ : zSt) (c : Nat) (h : zZr σ) : zZr (zTaI fo st σ c) := by unfold zTaI; exact zZr.r (zZr.r (zZr.o rDi (zZr.o rRo h)))
theorem zE0_r : zZr zE0 := fun _ _ => rfl
theorem rMa : zZr zMaI := by
  unfold zMaI
  exact zZr.o rDi (zZr.o rLe (zZr.o rDi (zZr.o rLe (zZr.o rLe (zZr.o (rTa 8 14) (zZr.o (rWa 8 14) (zZr.o (rSt 8) (zZr.o rFo (zZr.o rRd (zZr.o rPg (zZr.n zE0_r)))))))))))
/-- the memory when both are made -/
def zFin : zSt := zMoI (zN zMaI (0, 12)) 53
theorem zFin_I (c i : Nat) : zI zFin c i = if c = 53 ∧ i = 18 then -1 else if c = 53 ∧ i = 34 then -1 else 0 := by
  have h : ∀ c i, zI (zA (zA (zA (zA (zA (zA (zA (zA (zA (zA (zA (zA (zA (zA (zA (zA (zA (zN zMaI (0, 12)) 53 0 (1, 54)) 53 2 (1, 6)) 53 3 (1, 6)) 53 14 (1, 6)) 53 15 (1, 6)) 53 17 (1, 6)) 53 23 (1, 72)) 53 24 (1, 36)) 53 25 (1, 36)) 53 26 (1, 36)) 53 27 (1, 36)) 53 29 (1, 7)) 53 30 (1, 7)) 53 31 (1, 7)) 53 33 (1, 72)) 53 39 (1, 72)) 53 40 (1, 7)) c i = 0 := zZr.a (zZr.a (zZr.a (zZr.a (zZr.a (zZr.a (zZr.a (zZr.a (zZr.a (zZr.a (zZr.a (zZr.a (zZr.a (zZr.a (zZr.a (zZr.a (zZr.a (zZr.n rMa)))))))))))))))))
  unfold zFin zMoI
  rw [zI_sI, zI_sI, h]
theorem zFin_sh : zFin.1 = zsh := by decide +kernel
theorem zFin_len : zMaI.1.length = 53 := by decide +kernel
theorem zFin_rb : ((List.range 71).all fun c => (List.range 42).all fun j => match zrf c j with
    | none => true
    | some r => decide (zR zFin c j = some r)) = true := by decide +kernel
theorem zrf_lt2 {c j r : Nat} (h : zrf c j = some r) : j < 42 := by
  have h42 : (zrl.all fun row => decide (row.length ≤ 42)) = true := by decide +kernel
  unfold zrf at h
  by_cases e : j < (zrl.getD c []).length
  · have hl : (zrl.getD c []).length ≤ 42 := by
      by_cases e2 : c < zrl.length
      · have hm : zrl.getD c [] ∈ zrl := by
          rw [List.getD_eq_getElem?_getD, List.getElem?_eq_getElem e2]
          exact List.getElem_mem e2
        exact of_decide_eq_true (List.all_eq_true.mp h42 _ hm)
      · rw [List.getD_eq_getElem?_getD, List.getElem?_eq_none (by omega)]
        exact Nat.zero_le _
    omega
  · rw [List.getD_eq_getElem?_getD, List.getElem?_eq_none (by omega)] at h
    cases h
theorem zFin_lay : zLay zFin := by
  refine ⟨fun c hc => by rw [zFin_sh], fun c j r h => ?_⟩
  have h1 := List.all_eq_true.mp zFin_rb c (List.mem_range.mpr (zrf_lt h))
  have h2 := List.all_eq_true.mp h1 j (List.mem_range.mpr (zrf_lt2 h))
  rw [h] at h2
  exact of_decide_eq_true h2
theorem zFin_0 {c i : Nat} (h : ¬ c = 53) : zI zFin c i = 0 := by rw [zFin_I, if_neg (fun z => h z.1), if_neg (fun z => h z.1)]
theorem zFin_m {i : Nat} (h : ¬ i = 18) (h' : ¬ i = 34) : zI zFin 53 i = 0 := by rw [zFin_I, if_neg (fun z => h z.2), if_neg (fun z => h' z.2)]
theorem zFin_cl : zCl zFin pS0 := by
  have e : ∀ c i, ¬ c = 53 → zI zFin c i = 0 := fun c i h => zFin_0 h
  refine ⟨zFin_lay, ⟨e 1 1 (by decide), Nat.zero_le _, fun i hi => absurd hi (Nat.not_lt_zero i)⟩, ⟨e 8 4 (by decide), Nat.zero_le _, fun a ha => absurd ha (Nat.not_lt_zero a), fun a b _ _ => ⟨e 10 _ (by decide), e 12 _ (by decide)⟩, e 8 3 (by decide), Nat.zero_le _⟩, ⟨e 9 1 (by decide), e 11 1 (by decide)⟩, fun a b ha => absurd ha (Nat.not_lt_zero a), ⟨19, 20, ⟨?_, Or.inl ⟨rfl, rfl⟩⟩⟩, ⟨24, 25, ⟨?_, Or.inl ⟨rfl, rfl⟩⟩⟩, ⟨e 28 6 (by decide), Nat.zero_le _, e 28 7 (by decide), fun j f _ hf => absurd hf (Nat.not_lt_zero f)⟩, ⟨e 42 1 (by decide), Nat.zero_le _, fun i hi => absurd hi (Nat.not_lt_zero i)⟩, ⟨e 44 6 (by decide), Nat.zero_le _, e 44 7 (by decide), fun j f _ hf => absurd hf (Nat.not_lt_zero f)⟩, ⟨e 51 1 (by decide), Nat.zero_le _, fun i hi => absurd hi (Nat.not_lt_zero i)⟩, ⟨e 0 11 (by decide), e 0 12 (by decide), e 0 13 (by decide)⟩⟩
  · refine ⟨zFin_lay.1 18 (by decide), by decide +kernel, by decide +kernel, zFin_lay.1 19 (by decide), zFin_lay.1 20 (by decide), by decide⟩
  · refine ⟨zFin_lay.1 23 (by decide), by decide +kernel, by decide +kernel, zFin_lay.1 24 (by decide), zFin_lay.1 25 (by decide), by decide⟩
theorem zFin_md : zMd zFin pS0 := by
  have e : ∀ c i, ¬ c = 53 → zI zFin c i = 0 := fun c i h => zFin_0 h
  have m : ∀ i, ¬ i = 18 → ¬ i = 34 → zI zFin 53 i = 0 := fun i h h' => zFin_m h h'
  refine ⟨zFin_lay, ⟨m 1 (by decide) (by decide), Nat.zero_le _, fun i hi => absurd hi (Nat.not_lt_zero i)⟩, ⟨m 16 (by decide) (by decide), Nat.zero_le _, fun a ha => absurd ha (Nat.not_lt_zero a), fun a _ => ⟨by rw [e 57 a (by decide)]; exact zMb.zero, by rw [e 58 a (by decide)]; exact zMb.zero⟩, m 9 (by decide) (by decide), Nat.zero_le _⟩, ⟨m 22 (by decide) (by decide), Nat.zero_le _, m 12 (by decide) (by decide), fun j f _ hf => absurd hf (Nat.not_lt_zero f)⟩, ⟨by rw [zFin_I]; rfl, m 21 (by decide) (by decide)⟩, ⟨m 10 (by decide) (by decide), m 11 (by decide) (by decide), m 13 (by decide) (by decide)⟩, ⟨m 28 (by decide) (by decide), Nat.zero_le _, fun i hi => absurd hi (Nat.not_lt_zero i)⟩, ⟨by rw [zFin_I]; rfl, m 35 (by decide) (by decide), m 36 (by decide) (by decide), Nat.zero_le _, m 37 (by decide) (by decide), fun j f _ hf => absurd hf (Nat.not_lt_zero f), m 38 (by decide) (by decide), Nat.zero_le _, fun i hi => absurd hi (Nat.not_lt_zero i)⟩⟩
/-- what the class does leaves the model's state -/
theorem zMd.fc {σ σ' : zSt} {S : pS} (h : zMd σ S) (hL : zLay σ') (hf : zFc σ σ') : zMd σ' S := by
  obtain ⟨-, hp, hF, hd, hs, hk, hy, he⟩ := h
  have e : ∀ c, 53 ≤ c → c < 71 → ∀ i, zI σ' c i = zI σ c i := fun c h1 h2 => (hf.2.2 c h1 h2).1
  have e3 : ∀ i, zI σ' 53 i = zI σ 53 i := e 53 (by decide) (by decide)
  refine ⟨hL, ?_, ?_, ?_, ?_, ?_, ?_, ?_⟩
  · exact ⟨by rw [e3]; exact hp.1, hp.2.1, fun i hi => by rw [e 54 (by decide) (by decide)]; exact hp.2.2 i hi⟩
  · exact ⟨by rw [e3]; exact hF.1, hF.2.1, fun a ha => by rw [e 59 (by decide) (by decide)]; exact hF.2.2.1 a ha, fun a ha => by rw [e 57 (by decide) (by decide), e 58 (by decide) (by decide)]; exact hF.2.2.2.1 a ha, by rw [e3]; exact hF.2.2.2.2.1, hF.2.2.2.2.2⟩
  · exact ⟨by rw [e3]; exact hd.1, hd.2.1, by rw [e3]; exact hd.2.2.1, fun j f hj hf => by rw [e 60 (by decide) (by decide)]; exact hd.2.2.2 j f hj hf⟩
  · unfold zMs; rw [e3, e3, e3, e3]; exact hs
  · unfold zMm; rw [e3, e3, e3]; exact hk
  · exact ⟨by rw [e3]; exact hy.1, hy.2.1, fun i hi => by rw [e 65 (by decide) (by decide)]; exact hy.2.2 i hi⟩
  · obtain ⟨h1, h2, h3, h4, h5, h6, h7, h8, h9⟩ := he
    exact ⟨by rw [e3]; exact h1, by rw [e3]; exact h2, by rw [e3]; exact h3, h4, by rw [e3]; exact h5, fun j f hj hf => by rw [e 69 (by decide) (by decide)]; exact h6 j f hj hf, by rw [e3]; exact h7, h8, fun i hi => by rw [e 70 (by decide) (by decide)]; exact h9 i hi⟩
/-- what the model does leaves the class's state -/
theorem zCl.fm {σ σ' : zSt} {S : pS} (h : zCl σ S) (hf : zFm σ σ') : zCl σ' S := h.agr (fun c _ => by rw [hf.1]) (fun c hc _ => hf.2.1 c hc) (fun c _ => by rw [hf.2.2.2]) (fun _ _ _ z => zrf_lt z)

