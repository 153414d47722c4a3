/-! ===== the model: fewest, first, reach ===== -/
theorem zfw1 {v y : Int32} {m x : Option Nat} (h : zFa v y x) (e : v = -1) : zo (m.map (fun z => z / 6)) = zo ((pMin2 m x).map (fun z => z / 6)) := by rw [h.n1 e, pMin2_none]
theorem zm1 {m : Option Nat} (hm : ∀ z, m = some z → z < 60) (e : zo (m.map (fun z => z / 6)) = -1) : m = none := by
  cases m with
  | none => rfl
  | some z => have := hm z rfl; exact absurd e (nI_m1 (k := z / 6) (by omega))
theorem zfw2 {v y : Int32} {m x : Option Nat} (h : zFa v y x) (hm : ∀ z, m = some z → z < 60) (e0 : ¬ v = -1) (e : zo (m.map (fun z => z / 6)) = -1) : v = zo ((pMin2 m x).map (fun z => z / 6)) := by
  obtain ⟨z, rfl, h1, h2, -⟩ := h.n0 e0
  rw [zm1 hm e, h2]
  rfl
theorem zfw3 {v y : Int32} {m x : Option Nat} (h : zFa v y x) (hm : ∀ z, m = some z → z < 60) (e0 : ¬ v = -1) (e1 : ¬ zo (m.map (fun z => z / 6)) = -1) (e : ¬ zo (m.map (fun z => z / 6)) ≤ v) : v = zo ((pMin2 m x).map (fun z => z / 6)) := by
  obtain ⟨z, rfl, h1, h2, -⟩ := h.n0 e0
  cases m with
  | none => exact absurd rfl e1
  | some u =>
    have hu := hm u rfl
    rw [h2] at e ⊢
    have e : ¬ nI (u / 6) ≤ nI (z / 6) := e
    rw [nI_leI (by omega) (by omega)] at e
    simp only [pMin2]
    rw [if_pos (by omega)]
    rfl
theorem zfw4 {v y : Int32} {m x : Option Nat} (h : zFa v y x) (hm : ∀ z, m = some z → z < 60) (e0 : ¬ v = -1) (e1 : ¬ zo (m.map (fun z => z / 6)) = -1) (e : zo (m.map (fun z => z / 6)) ≤ v) : zo (m.map (fun z => z / 6)) = zo ((pMin2 m x).map (fun z => z / 6)) := by
  obtain ⟨z, rfl, h1, h2, -⟩ := h.n0 e0
  cases m with
  | none => exact absurd rfl e1
  | some u =>
    have hu := hm u rfl
    rw [h2] at e
    have e : nI (u / 6) ≤ nI (z / 6) := e
    rw [nI_leI (by omega) (by omega)] at e
    simp only [pMin2, Option.map_some]
    congr 2
    split <;> omega
theorem zFar.lt {σ : zSt} {C : Nat → Nat → Option Nat} (hz : zFar σ C) {p : Nat} (hp : p < 6) : ∀ k, k ≤ 6 → ∀ z, pMinR (fun a => C a p) k = some z → z < 60 := by
  intro k hk z hz2
  obtain ⟨d, hd, e⟩ := pMinR_ex hz2
  have h1 := hz d p (by omega) hp
  have e : C d p = some z := e
  rw [e] at h1
  exact h1.1
def pGf (K x : Option Nat) : Option Nat := match K, x with
  | some y, some z => if z / 6 = y / 6 then some (z % 6) else none
  | _, _ => none
theorem pGf_lt {K x : Option Nat} : ∀ g, pGf K x = some g → g < 6 := by
  intro g h
  unfold pGf at h
  split at h
  · split at h
    · cases h; omega
    · cases h
  · cases h
theorem zgf1 {K x : Option Nat} (hK : ∀ z, K = some z → z < 60) (e : zo (K.map (fun z => z / 6)) = -1) : pGf K x = none := by rw [zm1 hK e]; rfl
theorem zgf2 {K x : Option Nat} {v y : Int32} (h : zFa v y x) (e : ¬ v = zo (K.map (fun z => z / 6))) : pGf K x = none := by
  cases K with
  | none => rfl
  | some u =>
    cases x with
    | none => rfl
    | some z =>
      refine if_neg (fun q => e ?_)
      rw [h.2.1, q]
      rfl
theorem zgf3 {K x : Option Nat} {v y : Int32} (h : zFa v y x) (hK : ∀ z, K = some z → z < 60) (e0 : ¬ zo (K.map (fun z => z / 6)) = -1) (e : v = zo (K.map (fun z => z / 6))) : y = zo (pGf K x) ∧ ¬ zo (pGf K x) = -1 := by
  cases K with
  | none => exact absurd rfl e0
  | some u =>
    have hu := hK u rfl
    obtain ⟨z, rfl, h1, h2, h3⟩ := h.n0 (by rw [e]; exact e0)
    have q : z / 6 = u / 6 := (nI_eq (by omega) (by omega)).mp (h2.symm.trans e)
    have : pGf (some u) (some z) = some (z % 6) := if_pos q
    rw [this, h3]
    exact ⟨rfl, nI_m1 (by omega)⟩
theorem pGf_end {f : Nat → Option Nat} {k : Nat} : pMinR (fun a => pGf (pMinR f k) (f a)) k = (pMinR f k).map (fun z => z % 6) := by
  cases e : pMinR f k with
  | none => exact pMinR_none.mpr (fun d _ => rfl)
  | some y =>
    have h := pMinR_iff.mp e
    apply pMinR_iff.mpr
    obtain ⟨d, hd, ed⟩ := h.1
    refine ⟨⟨d, hd, by rw [ed]; exact if_pos rfl⟩, fun a ha x hx => ?_⟩
    cases ea : f a with
    | none => simp only [ea] at hx; cases hx
    | some z =>
      simp only [ea] at hx
      have h2 := h.2 a ha z ea
      have hx : (if z / 6 = y / 6 then some (z % 6) else none) = some x := hx
      split at hx
      · cases hx; show y % 6 ≤ z % 6; omega
      · cases hx

set_option maxRecDepth 100000 in
set_option maxHeartbeats 4000000 in
theorem ct_X12_fewest (d : Nat) {σ : zSt} (hL : zLay σ) {n : Nat} {C : Nat → Nat → Option Nat} (hz : zFar σ (pMk n C)) {p : Nat} (hp : p < 6) : zEv (d + 0) MX12_fewest [.ref 53, .int (nI p)] σ (some (.int (zo ((pK n C p).map (fun z => z / 6))))) σ := by
  refine zCt.of (L := [some (.ref 53), some (.int (nI p)), none, none, none]) (by decide) (Nat.le_of_ble_eq_true rfl) rfl (fun X hC hB => ?_)
  have hC : zC X RX12 cX12_fewest 5 (d + 0) 0 0 := hC
  have hB : zB X (some .int) 0 0 "fewest" σ _ := hB
  show zV X 5 0 [some (.ref 53), some (.int (nI p)), none, none, none] [] 0 0 σ
  have lp : ∀ (r : Nat) (a : Nat) (o4 : Option Value), a + r = 6 → zV X 5 4 [some (.ref 53), some (.int (nI p)), some (.int (zo ((pMinR (fun a => pMk n C a p) a).map (fun z => z / 6)))), some (.int (nI a)), o4] [] 0 0 σ := by
    intro r
    induction r with
    | zero =>
      intro a o4 ha
      refine v_iload_n (q := 5) hC dX12_fewest_4 rfl rfl rfl ?_
      refine v_bipush (q := 7) (v := 6) hC dX12_fewest_5 rfl (by decide) ?_
      refine v_icmp_ge (q := 10) (tgt := 53) hC dX12_fewest_7 rfl (by decide) (fun h7 => ?_) (fun h7 => ?_)
      · refine v_iload_n (q := 54) hC dX12_fewest_53 rfl rfl rfl ?_
        refine v_ireturn hC hB dX12_fewest_54 ⟨Nat.le_refl _, Nat.le_refl _⟩ ?_
        have e : a = 6 := by omega
        subst e
        exact ⟨rfl, rfl⟩
      · exact absurd (nI_le (a := 6) (b := a) (by omega) (by omega)) h7
    | succ r ih =>
      intro a o4 ha
      refine v_iload_n (q := 5) hC dX12_fewest_4 rfl rfl rfl ?_
      refine v_bipush (q := 7) (v := 6) hC dX12_fewest_5 rfl (by decide) ?_
      refine v_icmp_ge (q := 10) (tgt := 53) hC dX12_fewest_7 rfl (by decide) (fun h7 => ?_) (fun h7 => ?_)
      · exact absurd h7 (nI_ge (a := a) (b := 6) (by omega) (by omega))
      · have hza := hz a p (by omega) hp
        have hlt := hz.lt hp a (by omega)
        refine v_aload_n (q := 11) hC dX12_fewest_10 rfl rfl rfl ?_
        refine v_getR (q := 14) (r := 61) hC dX12_fewest_11 rfl fX12_31 (hL.1 53 (by decide)) (hL.2 53 24 61 rfl) ?_
        refine v_bipush (q := 16) (v := 6) hC dX12_fewest_14 rfl (by decide) ?_
        refine v_iload_n (q := 17) hC dX12_fewest_16 rfl rfl rfl ?_
        refine v_imul (q := 18) hC dX12_fewest_17 rfl ?_
        refine v_iload_n (q := 19) hC dX12_fewest_18 rfl rfl rfl ?_
        refine v_iadd (q := 20) hC dX12_fewest_19 rfl ?_
        refine v_ialdN (q := 21) (j := 6 * a + p) hC dX12_fewest_20 rfl (hL.1 61 (by decide)) (z6' a p) (by omega) (by decide) ?_
        refine v_istore (q := 23) (L' := [_, _, _, _, _]) hC dX12_fewest_21 rfl (by decide) rfl rfl ?_
        refine v_iload (q := 25) hC dX12_fewest_23 rfl rfl ?_
        refine v_iconst (q := 26) (v := -1) hC dX12_fewest_25 rfl (by decide) ?_
        refine v_icmp_eq (q := 29) (tgt := 45) hC dX12_fewest_26 rfl (by decide) (fun h26 => ?_) (fun h26 => ?_)
        · refine v_iload_n (q := 46) hC dX12_fewest_45 rfl rfl rfl ?_
          refine v_istore_n (q := 47) (L' := [_, _, _, _, _]) hC dX12_fewest_46 rfl rfl (by decide) rfl rfl ?_
          refine v_iinc (q := 50) (v := 1) (L' := [_, _, _, _, _]) hC dX12_fewest_47 rfl rfl (by decide) (by decide) rfl rfl ?_
          refine v_goto (q := 4) hC dX12_fewest_50 (by decide) ?_
          rw [nI_1 a]
          first
            | (rw [zfw1 (m := pMinR (fun a => pMk n C a p) a) hza h26]; exact ih (a + 1) _ (by omega))
            | (rw [zfw2 hza hlt h26 h31]; exact ih (a + 1) _ (by omega))
            | (rw [zfw4 hza hlt h26 h31 h37]; exact ih (a + 1) _ (by omega))
            | (rw [zfw3 hza hlt h26 h31 h37]; exact ih (a + 1) _ (by omega))
        · refine v_iload_n (q := 30) hC dX12_fewest_29 rfl rfl rfl ?_
          refine v_iconst (q := 31) (v := -1) hC dX12_fewest_30 rfl (by decide) ?_
          refine v_icmp_eq (q := 34) (tgt := 40) hC dX12_fewest_31 rfl (by decide) (fun h31 => ?_) (fun h31 => ?_)
          · refine v_iload (q := 42) hC dX12_fewest_40 rfl rfl ?_
            refine v_goto (q := 46) hC dX12_fewest_42 (by decide) ?_
            refine v_istore_n (q := 47) (L' := [_, _, _, _, _]) hC dX12_fewest_46 rfl rfl (by decide) rfl rfl ?_
            refine v_iinc (q := 50) (v := 1) (L' := [_, _, _, _, _]) hC dX12_fewest_47 rfl rfl (by decide) (by decide) rfl rfl ?_
            refine v_goto (q := 4) hC dX12_fewest_50 (by decide) ?_
            rw [nI_1 a]
            first
              | (rw [zfw1 (m := pMinR (fun a => pMk n C a p) a) hza h26]; exact ih (a + 1) _ (by omega))
              | (rw [zfw2 hza hlt h26 h31]; exact ih (a + 1) _ (by omega))
              | (rw [zfw4 hza hlt h26 h31 h37]; exact ih (a + 1) _ (by omega))
              | (rw [zfw3 hza hlt h26 h31 h37]; exact ih (a + 1) _ (by omega))
          · refine v_iload (q := 36) hC dX12_fewest_34 rfl rfl ?_
            refine v_iload_n (q := 37) hC dX12_fewest_36 rfl rfl rfl ?_
            refine v_icmp_ge (q := 40) (tgt := 45) hC dX12_fewest_37 rfl (by decide) (fun h37 => ?_) (fun h37 => ?_)
            · refine v_iload_n (q := 46) hC dX12_fewest_45 rfl rfl rfl ?_
              refine v_istore_n (q := 47) (L' := [_, _, _, _, _]) hC dX12_fewest_46 rfl rfl (by decide) rfl rfl ?_
              refine v_iinc (q := 50) (v := 1) (L' := [_, _, _, _, _]) hC dX12_fewest_47 rfl rfl (by decide) (by decide) rfl rfl ?_
              refine v_goto (q := 4) hC dX12_fewest_50 (by decide) ?_
              rw [nI_1 a]
              first
                | (rw [zfw1 (m := pMinR (fun a => pMk n C a p) a) hza h26]; exact ih (a + 1) _ (by omega))
                | (rw [zfw2 hza hlt h26 h31]; exact ih (a + 1) _ (by omega))
                | (rw [zfw4 hza hlt h26 h31 h37]; exact ih (a + 1) _ (by omega))
                | (rw [zfw3 hza hlt h26 h31 h37]; exact ih (a + 1) _ (by omega))
            · refine v_iload (q := 42) hC dX12_fewest_40 rfl rfl ?_
              refine v_goto (q := 46) hC dX12_fewest_42 (by decide) ?_
              refine v_istore_n (q := 47) (L' := [_, _, _, _, _]) hC dX12_fewest_46 rfl rfl (by decide) rfl rfl ?_
              refine v_iinc (q := 50) (v := 1) (L' := [_, _, _, _, _]) hC dX12_fewest_47 rfl rfl (by decide) (by decide) rfl rfl ?_
              refine v_goto (q := 4) hC dX12_fewest_50 (by decide) ?_
              rw [nI_1 a]
              first
                | (rw [zfw1 (m := pMinR (fun a => pMk n C a p) a) hza h26]; exact ih (a + 1) _ (by omega))
                | (rw [zfw2 hza hlt h26 h31]; exact ih (a + 1) _ (by omega))
                | (rw [zfw4 hza hlt h26 h31 h37]; exact ih (a + 1) _ (by omega))
                | (rw [zfw3 hza hlt h26 h31 h37]; exact ih (a + 1) _ (by omega))
  refine v_iconst (q := 1) (v := -1) hC dX12_fewest_0 rfl (by decide) ?_
  refine v_istore_n (q := 2) (L' := [_, _, _, _, _]) hC dX12_fewest_1 rfl rfl (by decide) rfl rfl ?_
  refine v_iconst (q := 3) (v := 0) hC dX12_fewest_2 rfl (by decide) ?_
  refine v_istore_n (q := 4) (L' := [_, _, _, _, _]) hC dX12_fewest_3 rfl rfl (by decide) rfl rfl ?_
  exact lp 6 0 _ (by omega)

set_option maxRecDepth 100000 in
set_option maxHeartbeats 4000000 in
theorem ct_X12_firstTo (d : Nat) {σ : zSt} (hL : zLay σ) {n : Nat} {C : Nat → Nat → Option Nat} (hz : zFar σ (pMk n C)) {p : Nat} (hp : p < 6) : zEv (d + 1) MX12_firstTo [.ref 53, .int (nI p)] σ (some (.int (zo ((pK n C p).map (fun z => z % 6))))) σ := by
  refine zCt.of (L := [some (.ref 53), some (.int (nI p)), none, none, none, none]) (by decide) (Nat.le_of_ble_eq_true rfl) rfl (fun X hC hB => ?_)
  have hC : zC X RX12 cX12_firstTo 6 (d + 1) 0 0 := hC
  have hB : zB X (some .int) 0 0 "firstTo" σ _ := hB
  show zV X 6 0 [some (.ref 53), some (.int (nI p)), none, none, none, none] [] 0 0 σ
  have lp : ∀ (r : Nat) (a : Nat) (o5 : Option Value), a + r = 6 → zV X 6 11 [some (.ref 53), some (.int (nI p)), some (.int (zo ((pK n C p).map (fun z => z / 6)))), some (.int (zo (pMinR (fun a => pGf (pK n C p) (pMk n C a p)) a))), some (.int (nI a)), o5] [] 0 0 σ := by
    intro r
    induction r with
    | zero =>
      intro a o5 ha
      refine v_iload (q := 13) hC dX12_firstTo_11 rfl rfl ?_
      refine v_bipush (q := 15) (v := 6) hC dX12_firstTo_13 rfl (by decide) ?_
      refine v_icmp_ge (q := 18) (tgt := 77) hC dX12_firstTo_15 rfl (by decide) (fun h15 => ?_) (fun h15 => ?_)
      · refine v_iload_n (q := 78) hC dX12_firstTo_77 rfl rfl rfl ?_
        refine v_ireturn hC hB dX12_firstTo_78 ⟨Nat.le_refl _, Nat.le_refl _⟩ ?_
        have e : a = 6 := by omega
        subst e
        exact ⟨by rw [show pMinR (fun a => pGf (pK n C p) (pMk n C a p)) 6 = (pK n C p).map (fun z => z % 6) from pGf_end], rfl⟩
      · exact absurd (nI_le (a := 6) (b := a) (by omega) (by omega)) h15
    | succ r ih =>
      intro a o5 ha
      refine v_iload (q := 13) hC dX12_firstTo_11 rfl rfl ?_
      refine v_bipush (q := 15) (v := 6) hC dX12_firstTo_13 rfl (by decide) ?_
      refine v_icmp_ge (q := 18) (tgt := 77) hC dX12_firstTo_15 rfl (by decide) (fun h15 => ?_) (fun h15 => ?_)
      · exact absurd h15 (nI_ge (a := a) (b := 6) (by omega) (by omega))
      · have hza := hz a p (by omega) hp
        have hlt : ∀ z, pK n C p = some z → z < 60 := hz.lt hp 6 (by omega)
        have hg := fun g (h : pMinR (fun a => pGf (pK n C p) (pMk n C a p)) a = some g) => pMinR_lt (n := 6) a (fun d _ g hg => pGf_lt g hg) g h
        refine v_bipush (q := 20) (v := 6) hC dX12_firstTo_18 rfl (by decide) ?_
        refine v_iload (q := 22) hC dX12_firstTo_20 rfl rfl ?_
        refine v_imul (q := 23) hC dX12_firstTo_22 rfl ?_
        refine v_iload_n (q := 24) hC dX12_firstTo_23 rfl rfl rfl ?_
        refine v_iadd (q := 25) hC dX12_firstTo_24 rfl ?_
        rw [z6' a p]
        refine v_istore (q := 27) (L' := [_, _, _, _, _, _]) hC dX12_firstTo_25 rfl (by decide) rfl rfl ?_
        refine v_iload_n (q := 28) hC dX12_firstTo_27 rfl rfl rfl ?_
        refine v_iconst (q := 29) (v := -1) hC dX12_firstTo_28 rfl (by decide) ?_
        refine v_icmp_eq (q := 32) (tgt := 69) hC dX12_firstTo_29 rfl (by decide) (fun h29 => ?_) (fun h29 => ?_)
        · refine v_iload_n (q := 70) hC dX12_firstTo_69 rfl rfl rfl ?_
          refine v_istore_n (q := 71) (L' := [_, _, _, _, _, _]) hC dX12_firstTo_70 rfl rfl (by decide) rfl rfl ?_
          refine v_iinc (q := 74) (v := 1) (L' := [_, _, _, _, _, _]) hC dX12_firstTo_71 rfl rfl (by decide) (by decide) rfl rfl ?_
          refine v_goto (q := 11) hC dX12_firstTo_74 (by decide) ?_
          rw [nI_1 a]
          first
            | (rw [zle0 (f := (fun a => pGf (pK n C p) (pMk n C a p))) (k := a) (by show zo (pGf _ _) = -1; rw [zgf1 hlt h29]; rfl) pGf_lt]; exact ih (a + 1) _ (by omega))
            | (rw [zle0 (f := (fun a => pGf (pK n C p) (pMk n C a p))) (k := a) (by show zo (pGf _ _) = -1; rw [zgf2 hza h40]; rfl) pGf_lt]; exact ih (a + 1) _ (by omega))
            | (have hy := zgf3 hza hlt h29 h40; rw [hy.1, zle1 (f := (fun a => pGf (pK n C p) (pMk n C a p))) (k := a) h45 hg]; exact ih (a + 1) _ (by omega))
            | (have hy := zgf3 hza hlt h29 h40; rw [hy.1] at h56; rw [zle3 (f := (fun a => pGf (pK n C p) (pMk n C a p))) (k := a) hy.2 h45 h56 pGf_lt hg]; exact ih (a + 1) _ (by omega))
            | (have hy := zgf3 hza hlt h29 h40; rw [hy.1] at h56; rw [hy.1, zle2 (f := (fun a => pGf (pK n C p) (pMk n C a p))) (k := a) hy.2 h56 pGf_lt hg]; exact ih (a + 1) _ (by omega))
        · refine v_aload_n (q := 33) hC dX12_firstTo_32 rfl rfl rfl ?_
          refine v_getR (q := 36) (r := 61) hC dX12_firstTo_33 rfl fX12_31 (hL.1 53 (by decide)) (hL.2 53 24 61 rfl) ?_
          refine v_iload (q := 38) hC dX12_firstTo_36 rfl rfl ?_
          refine v_ialdN (q := 39) (j := 6 * a + p) hC dX12_firstTo_38 rfl (hL.1 61 (by decide)) rfl (by omega) (by decide) ?_
          refine v_iload_n (q := 40) hC dX12_firstTo_39 rfl rfl rfl ?_
          refine v_icmp_ne (q := 43) (tgt := 69) hC dX12_firstTo_40 rfl (by decide) (fun h40 => ?_) (fun h40 => ?_)
          · refine v_iload_n (q := 70) hC dX12_firstTo_69 rfl rfl rfl ?_
            refine v_istore_n (q := 71) (L' := [_, _, _, _, _, _]) hC dX12_firstTo_70 rfl rfl (by decide) rfl rfl ?_
            refine v_iinc (q := 74) (v := 1) (L' := [_, _, _, _, _, _]) hC dX12_firstTo_71 rfl rfl (by decide) (by decide) rfl rfl ?_
            refine v_goto (q := 11) hC dX12_firstTo_74 (by decide) ?_
            rw [nI_1 a]
            first
              | (rw [zle0 (f := (fun a => pGf (pK n C p) (pMk n C a p))) (k := a) (by show zo (pGf _ _) = -1; rw [zgf1 hlt h29]; rfl) pGf_lt]; exact ih (a + 1) _ (by omega))
              | (rw [zle0 (f := (fun a => pGf (pK n C p) (pMk n C a p))) (k := a) (by show zo (pGf _ _) = -1; rw [zgf2 hza h40]; rfl) pGf_lt]; exact ih (a + 1) _ (by omega))
              | (have hy := zgf3 hza hlt h29 h40; rw [hy.1, zle1 (f := (fun a => pGf (pK n C p) (pMk n C a p))) (k := a) h45 hg]; exact ih (a + 1) _ (by omega))
              | (have hy := zgf3 hza hlt h29 h40; rw [hy.1] at h56; rw [zle3 (f := (fun a => pGf (pK n C p) (pMk n C a p))) (k := a) hy.2 h45 h56 pGf_lt hg]; exact ih (a + 1) _ (by omega))
              | (have hy := zgf3 hza hlt h29 h40; rw [hy.1] at h56; rw [hy.1, zle2 (f := (fun a => pGf (pK n C p) (pMk n C a p))) (k := a) hy.2 h56 pGf_lt hg]; exact ih (a + 1) _ (by omega))
          · refine v_iload_n (q := 44) hC dX12_firstTo_43 rfl rfl rfl ?_
            refine v_iconst (q := 45) (v := -1) hC dX12_firstTo_44 rfl (by decide) ?_
            refine v_icmp_eq (q := 48) (tgt := 59) hC dX12_firstTo_45 rfl (by decide) (fun h45 => ?_) (fun h45 => ?_)
            · refine v_aload_n (q := 60) hC dX12_firstTo_59 rfl rfl rfl ?_
              refine v_getR (q := 63) (r := 62) hC dX12_firstTo_60 rfl fX12_34 (hL.1 53 (by decide)) (hL.2 53 25 62 rfl) ?_
              refine v_iload (q := 65) hC dX12_firstTo_63 rfl rfl ?_
              refine v_ialdN (q := 66) (j := 6 * a + p) hC dX12_firstTo_65 rfl (hL.1 62 (by decide)) rfl (by omega) (by decide) ?_
              refine v_goto (q := 70) hC dX12_firstTo_66 (by decide) ?_
              refine v_istore_n (q := 71) (L' := [_, _, _, _, _, _]) hC dX12_firstTo_70 rfl rfl (by decide) rfl rfl ?_
              refine v_iinc (q := 74) (v := 1) (L' := [_, _, _, _, _, _]) hC dX12_firstTo_71 rfl rfl (by decide) (by decide) rfl rfl ?_
              refine v_goto (q := 11) hC dX12_firstTo_74 (by decide) ?_
              rw [nI_1 a]
              first
                | (rw [zle0 (f := (fun a => pGf (pK n C p) (pMk n C a p))) (k := a) (by show zo (pGf _ _) = -1; rw [zgf1 hlt h29]; rfl) pGf_lt]; exact ih (a + 1) _ (by omega))
                | (rw [zle0 (f := (fun a => pGf (pK n C p) (pMk n C a p))) (k := a) (by show zo (pGf _ _) = -1; rw [zgf2 hza h40]; rfl) pGf_lt]; exact ih (a + 1) _ (by omega))
                | (have hy := zgf3 hza hlt h29 h40; rw [hy.1, zle1 (f := (fun a => pGf (pK n C p) (pMk n C a p))) (k := a) h45 hg]; exact ih (a + 1) _ (by omega))
                | (have hy := zgf3 hza hlt h29 h40; rw [hy.1] at h56; rw [zle3 (f := (fun a => pGf (pK n C p) (pMk n C a p))) (k := a) hy.2 h45 h56 pGf_lt hg]; exact ih (a + 1) _ (by omega))
                | (have hy := zgf3 hza hlt h29 h40; rw [hy.1] at h56; rw [hy.1, zle2 (f := (fun a => pGf (pK n C p) (pMk n C a p))) (k := a) hy.2 h56 pGf_lt hg]; exact ih (a + 1) _ (by omega))
            · refine v_aload_n (q := 49) hC dX12_firstTo_48 rfl rfl rfl ?_
              refine v_getR (q := 52) (r := 62) hC dX12_firstTo_49 rfl fX12_34 (hL.1 53 (by decide)) (hL.2 53 25 62 rfl) ?_
              refine v_iload (q := 54) hC dX12_firstTo_52 rfl rfl ?_
              refine v_ialdN (q := 55) (j := 6 * a + p) hC dX12_firstTo_54 rfl (hL.1 62 (by decide)) rfl (by omega) (by decide) ?_
              refine v_iload_n (q := 56) hC dX12_firstTo_55 rfl rfl rfl ?_
              refine v_icmp_ge (q := 59) (tgt := 69) hC dX12_firstTo_56 rfl (by decide) (fun h56 => ?_) (fun h56 => ?_)
              · refine v_iload_n (q := 70) hC dX12_firstTo_69 rfl rfl rfl ?_
                refine v_istore_n (q := 71) (L' := [_, _, _, _, _, _]) hC dX12_firstTo_70 rfl rfl (by decide) rfl rfl ?_
                refine v_iinc (q := 74) (v := 1) (L' := [_, _, _, _, _, _]) hC dX12_firstTo_71 rfl rfl (by decide) (by decide) rfl rfl ?_
                refine v_goto (q := 11) hC dX12_firstTo_74 (by decide) ?_
                rw [nI_1 a]
                first
                  | (rw [zle0 (f := (fun a => pGf (pK n C p) (pMk n C a p))) (k := a) (by show zo (pGf _ _) = -1; rw [zgf1 hlt h29]; rfl) pGf_lt]; exact ih (a + 1) _ (by omega))
                  | (rw [zle0 (f := (fun a => pGf (pK n C p) (pMk n C a p))) (k := a) (by show zo (pGf _ _) = -1; rw [zgf2 hza h40]; rfl) pGf_lt]; exact ih (a + 1) _ (by omega))
                  | (have hy := zgf3 hza hlt h29 h40; rw [hy.1, zle1 (f := (fun a => pGf (pK n C p) (pMk n C a p))) (k := a) h45 hg]; exact ih (a + 1) _ (by omega))
                  | (have hy := zgf3 hza hlt h29 h40; rw [hy.1] at h56; rw [zle3 (f := (fun a => pGf (pK n C p) (pMk n C a p))) (k := a) hy.2 h45 h56 pGf_lt hg]; exact ih (a + 1) _ (by omega))
                  | (have hy := zgf3 hza hlt h29 h40; rw [hy.1] at h56; rw [hy.1, zle2 (f := (fun a => pGf (pK n C p) (pMk n C a p))) (k := a) hy.2 h56 pGf_lt hg]; exact ih (a + 1) _ (by omega))
              · refine v_aload_n (q := 60) hC dX12_firstTo_59 rfl rfl rfl ?_
                refine v_getR (q := 63) (r := 62) hC dX12_firstTo_60 rfl fX12_34 (hL.1 53 (by decide)) (hL.2 53 25 62 rfl) ?_
                refine v_iload (q := 65) hC dX12_firstTo_63 rfl rfl ?_
                refine v_ialdN (q := 66) (j := 6 * a + p) hC dX12_firstTo_65 rfl (hL.1 62 (by decide)) rfl (by omega) (by decide) ?_
                refine v_goto (q := 70) hC dX12_firstTo_66 (by decide) ?_
                refine v_istore_n (q := 71) (L' := [_, _, _, _, _, _]) hC dX12_firstTo_70 rfl rfl (by decide) rfl rfl ?_
                refine v_iinc (q := 74) (v := 1) (L' := [_, _, _, _, _, _]) hC dX12_firstTo_71 rfl rfl (by decide) (by decide) rfl rfl ?_
                refine v_goto (q := 11) hC dX12_firstTo_74 (by decide) ?_
                rw [nI_1 a]
                first
                  | (rw [zle0 (f := (fun a => pGf (pK n C p) (pMk n C a p))) (k := a) (by show zo (pGf _ _) = -1; rw [zgf1 hlt h29]; rfl) pGf_lt]; exact ih (a + 1) _ (by omega))
                  | (rw [zle0 (f := (fun a => pGf (pK n C p) (pMk n C a p))) (k := a) (by show zo (pGf _ _) = -1; rw [zgf2 hza h40]; rfl) pGf_lt]; exact ih (a + 1) _ (by omega))
                  | (have hy := zgf3 hza hlt h29 h40; rw [hy.1, zle1 (f := (fun a => pGf (pK n C p) (pMk n C a p))) (k := a) h45 hg]; exact ih (a + 1) _ (by omega))
                  | (have hy := zgf3 hza hlt h29 h40; rw [hy.1] at h56; rw [zle3 (f := (fun a => pGf (pK n C p) (pMk n C a p))) (k := a) hy.2 h45 h56 pGf_lt hg]; exact ih (a + 1) _ (by omega))
                  | (have hy := zgf3 hza hlt h29 h40; rw [hy.1] at h56; rw [hy.1, zle2 (f := (fun a => pGf (pK n C p) (pMk n C a p))) (k := a) hy.2 h56 pGf_lt hg]; exact ih (a + 1) _ (by omega))
  refine v_aload_n (q := 1) hC dX12_firstTo_0 rfl rfl rfl ?_
  refine v_iload_n (q := 2) hC dX12_firstTo_1 rfl rfl rfl ?_
  refine v_callV1 (q := 5) (As := [_]) hC dX12_firstTo_2 rfl lX12_221 mX12_fewest iX12_fewest eX12_fewest rfl (hL.1 53 (by decide)) (ct_X12_fewest d hL hz hp) rfl rfl (by omega) rfl (Nat.le_of_ble_eq_true rfl) ?_
  refine v_istore_n (q := 6) (L' := [_, _, _, _, _, _]) hC dX12_firstTo_5 rfl rfl (by decide) rfl rfl ?_
  refine v_iconst (q := 7) (v := -1) hC dX12_firstTo_6 rfl (by decide) ?_
  refine v_istore_n (q := 8) (L' := [_, _, _, _, _, _]) hC dX12_firstTo_7 rfl rfl (by decide) rfl rfl ?_
  refine v_iconst (q := 9) (v := 0) hC dX12_firstTo_8 rfl (by decide) ?_
  refine v_istore (q := 11) (L' := [_, _, _, _, _, _]) hC dX12_firstTo_9 rfl (by decide) rfl rfl ?_
  exact lp 6 0 _ (by omega)

theorem pCnt_ext {P : Nat → Bool} {n : Nat} : ∀ (k : Nat), (∀ d, n ≤ d → P d = false) → pCnt P (n + k) = pCnt P n
  | 0, _ => rfl
  | k + 1, h => by
    have h1 := h (n + k) (by omega)
    have h2 := pCnt_ext k h
    show pCnt P (n + k + 1) = _
    simp [pCnt, h1, h2]
theorem pRch_eq {n : Nat} {gv sn : Nat → Nat → Bool} {i h0 : Nat} (hn : n ≤ 6) : pRch n gv sn i h0 = pCnt (fun p => (pSh n gv sn i h0 p).isSome) n := by
  unfold pRch
  have h1 := pCnt_ext (P := pTc n gv sn i h0 8) (n := n) (6 - n) (fun d hd => by
    unfold pTc
    have : pFst (fun k => decide (d < n) && (pLst n (pRow n gv sn i h0 k) d).isSome) 8 = none := (pCnt_fst 8).mpr (by simp [pCnt, show ¬ d < n by omega])
    rw [this]
    rfl)
  rw [show n + (6 - n) = 6 by omega] at h1
  rw [h1]
  apply pCnt_congr
  intro p hp
  unfold pTc pSh
  simp [hp]

set_option maxRecDepth 100000 in
set_option maxHeartbeats 4000000 in
theorem ct_X12_reachOf (d : Nat) {σ : zSt} (hL : zLay σ) {n : Nat} {kd : Nat → Nat} {kin met : Nat → Nat → Bool} {t : Nat} (hF : zMf σ n kd kin met t) {m : Nat} {F : Nat → Nat → Int32} {w : Nat} (hd : zMr σ m F w) {mb : Option Nat} {pr : Option (Nat × Nat)} (hs : zMs σ mb pr) (hmb : ∀ g, mb = some g → g < 6) (hsy : ∀ a b, a < 6 → b < 6 → kin a b = kin b a) {f i h0 : Nat} (hf : f < m) (e0 : F 0 f = nI i) (e1 : F 1 f = nI h0) (hi : i < n) (hh0 : h0 < n) : zCt (d + 4) MX12_reachOf [.ref 53, .int (nI f)] σ (fun r σ' => r = some (.int (nI (pRch n (gvS kd kin met mb pr) (pSn kin) i h0))) ∧ zSm [61, 62] [] σ σ' ∧ zFar σ' (pMk n (pCd n (gvS kd kin met mb pr) (pSn kin) i h0 8))) := by
  refine zCt.of (L := [some (.ref 53), some (.int (nI f)), none, none]) (by decide) (Nat.le_of_ble_eq_true rfl) rfl (fun X hC hB => ?_)
  have hC : zC X RX12 cX12_reachOf 4 (d + 4) 0 0 := hC
  have hB : zB X (some .int) 0 0 "reachOf" σ _ := hB
  show zV X 4 0 [some (.ref 53), some (.int (nI f)), none, none] [] 0 0 σ
  have hn6 := hF.2.1
  refine v_aload_n (q := 1) hC dX12_reachOf_0 rfl rfl rfl ?_
  refine v_iload_n (q := 2) hC dX12_reachOf_1 rfl rfl rfl ?_
  refine v_callVQ (q := 5) (As := [_]) hC dX12_reachOf_2 rfl lX12_224 mX12_layWays iX12_layWays eX12_layWays rfl (hL.1 53 (by decide)) (ct_X12_layWays d hL hF hd hs hmb hsy hf e0 e1 hi hh0) rfl rfl (by omega) (by decide) (Nat.le_of_ble_eq_true rfl) ?_
  rintro _ σ1 ⟨rfl, hS, hz⟩
  have hL1 := hS.lay hL
  have hF1 := hF.sm hS rfl rfl
  refine v_iconst (q := 6) (v := 0) hC dX12_reachOf_5 rfl (by decide) ?_
  refine v_istore_n (q := 7) (L' := [_, _, _, _]) hC dX12_reachOf_6 rfl rfl (by decide) rfl rfl ?_
  refine v_iconst (q := 8) (v := 0) hC dX12_reachOf_7 rfl (by decide) ?_
  refine v_istore_n (q := 9) (L' := [_, _, _, _]) hC dX12_reachOf_8 rfl rfl (by decide) rfl rfl ?_
  have lp : ∀ (r : Nat) (p : Nat), p + r = n → zV X 4 9 [some (.ref 53), some (.int (nI f)), some (.int (nI (pCnt (fun p => (pSh n (gvS kd kin met mb pr) (pSn kin) i h0 p).isSome) p))), some (.int (nI p))] [] 0 0 σ1 := by
    intro r
    induction r with
    | zero =>
      intro p hp
      refine v_iload_n (q := 10) hC dX12_reachOf_9 rfl rfl rfl ?_
      refine v_aload_n (q := 11) hC dX12_reachOf_10 rfl rfl rfl ?_
      refine v_getI (q := 14) hC dX12_reachOf_11 rfl fX12_126 (hL1.1 53 (by decide)) ?_
      rw [hF1.1]
      refine v_icmp_ge (q := 17) (tgt := 40) hC dX12_reachOf_14 rfl (by decide) (fun h14 => ?_) (fun h14 => ?_)
      · refine v_iload_n (q := 41) hC dX12_reachOf_40 rfl rfl rfl ?_
        refine v_ireturn hC hB dX12_reachOf_41 ⟨Nat.le_refl _, Nat.le_refl _⟩ ?_
        have e : p = n := by omega
        subst e
        exact ⟨by rw [pRch_eq hn6], hS, hz⟩
      · exact absurd (nI_le (a := n) (b := p) (by omega) (by omega)) h14
    | succ r ih =>
      intro p hp
      refine v_iload_n (q := 10) hC dX12_reachOf_9 rfl rfl rfl ?_
      refine v_aload_n (q := 11) hC dX12_reachOf_10 rfl rfl rfl ?_
      refine v_getI (q := 14) hC dX12_reachOf_11 rfl fX12_126 (hL1.1 53 (by decide)) ?_
      rw [hF1.1]
      refine v_icmp_ge (q := 17) (tgt := 40) hC dX12_reachOf_14 rfl (by decide) (fun h14 => ?_) (fun h14 => ?_)
      · exact absurd h14 (nI_ge (a := p) (b := n) (by omega) (by omega))
      · have hpn : p < n := by omega
        refine v_iload_n (q := 18) hC dX12_reachOf_17 rfl rfl rfl ?_
        refine v_aload_n (q := 19) hC dX12_reachOf_18 rfl rfl rfl ?_
        refine v_iload_n (q := 20) hC dX12_reachOf_19 rfl rfl rfl ?_
        refine v_callV1 (q := 23) (As := [_]) hC dX12_reachOf_20 rfl lX12_221 mX12_fewest iX12_fewest eX12_fewest rfl (hL1.1 53 (by decide)) (ct_X12_fewest (d + 3) hL1 hz (by omega)) rfl rfl (by omega) rfl (Nat.le_of_ble_eq_true rfl) ?_
        rw [pK_len hn6 hpn]
        refine v_iconst (q := 24) (v := -1) hC dX12_reachOf_23 rfl (by decide) ?_
        refine v_icmp_ne (q := 27) (tgt := 31) hC dX12_reachOf_24 rfl (by decide) (fun h24 => ?_) (fun h24 => ?_)
        · refine v_iconst (q := 32) (v := 1) hC dX12_reachOf_31 rfl (by decide) ?_
          refine v_iadd (q := 33) hC dX12_reachOf_32 rfl ?_
          refine v_istore_n (q := 34) (L' := [_, _, _, _]) hC dX12_reachOf_33 rfl rfl (by decide) rfl rfl ?_
          refine v_iinc (q := 37) (v := 1) (L' := [_, _, _, _]) hC dX12_reachOf_34 rfl rfl (by decide) (by decide) rfl rfl ?_
          refine v_goto (q := 9) hC dX12_reachOf_37 (by decide) ?_
          rw [nI_1 p]
          first
            | (rw [pCnt_t (P := fun p => (pSh n (gvS kd kin met mb pr) (pSn kin) i h0 p).isSome) (Option.isSome_iff_ne_none.mpr (fun z => h24 (zsh1.mpr z)))]; exact ih (p + 1) (by omega))
            | (rw [show (0 : Int32) = nI 0 from rfl, nI_add, Nat.add_zero, pCnt_f (P := fun p => (pSh n (gvS kd kin met mb pr) (pSn kin) i h0 p).isSome) (by rw [zsh1.mp h24]; rfl)]; exact ih (p + 1) (by omega))
        · refine v_iconst (q := 28) (v := 0) hC dX12_reachOf_27 rfl (by decide) ?_
          refine v_goto (q := 32) hC dX12_reachOf_28 (by decide) ?_
          refine v_iadd (q := 33) hC dX12_reachOf_32 rfl ?_
          refine v_istore_n (q := 34) (L' := [_, _, _, _]) hC dX12_reachOf_33 rfl rfl (by decide) rfl rfl ?_
          refine v_iinc (q := 37) (v := 1) (L' := [_, _, _, _]) hC dX12_reachOf_34 rfl rfl (by decide) (by decide) rfl rfl ?_
          refine v_goto (q := 9) hC dX12_reachOf_37 (by decide) ?_
          rw [nI_1 p]
          first
            | (rw [pCnt_t (P := fun p => (pSh n (gvS kd kin met mb pr) (pSn kin) i h0 p).isSome) (Option.isSome_iff_ne_none.mpr (fun z => h24 (zsh1.mpr z)))]; exact ih (p + 1) (by omega))
            | (rw [show (0 : Int32) = nI 0 from rfl, nI_add, Nat.add_zero, pCnt_f (P := fun p => (pSh n (gvS kd kin met mb pr) (pSn kin) i h0 p).isSome) (by rw [zsh1.mp h24]; rfl)]; exact ih (p + 1) (by omega))
  exact lp n 0 (by omega)

set_option maxRecDepth 100000 in
set_option maxHeartbeats 4000000 in
theorem md_way (d : Nat) {σ : zSt} {S : pS} {B : Nat} (h : zMd σ S) (ok : pOk B S) (f : Int32) (p : Int32) (k : Int32) : zCt (d + 4) MX12_way [.ref 53, .int f, .int p, .int k] σ (zQs zMd zFm σ (sWay S f p k)) := by
  refine zCt.of (L := [some (.ref 53), some (.int f), some (.int p), some (.int k)]) (by decide) (Nat.le_of_ble_eq_true rfl) rfl (fun X hC hB => ?_)
  have hC : zC X RX12 cX12_way 4 (d + 4) 0 0 := hC
  have hB : zB X (some .int) 0 0 "way" σ _ := hB
  show zV X 4 0 [some (.ref 53), some (.int f), some (.int p), some (.int k)] [] 0 0 σ
  have h0 := h
  obtain ⟨hL, hp, hF, hd, hs, hk, hy, he⟩ := h
  obtain ⟨oB, oq, ow, oqt, ot, okm, omm, oq0, oL, oD, okr, okp, oK, osym, okp6, okd⟩ := ok
  have hn6 := hF.2.1
  have hm12 := hd.2.1
  have hsy : ∀ a b, a < 6 → b < 6 → qKin S a b = qKin S b a := fun a b ha hb => (osym a b ha hb).1
  have gv0 : gvS (qKd S) (qKin S) (qMet S) none none = pGS S := funext fun a => funext fun b => gvS_0
  refine v_aload_n (q := 1) hC dX12_way_0 rfl rfl rfl ?_
  refine v_iload_n (q := 2) hC dX12_way_1 rfl rfl rfl ?_
  refine v_callV1 (q := 5) (As := [_]) hC dX12_way_2 rfl lX12_193 mX12_isFavour iX12_isFavour eX12_isFavour rfl (hL.1 53 (by decide)) (ct_X12_isFavour (d + 2) hL hd.1 (by omega) f) rfl rfl (by omega) rfl (Nat.le_of_ble_eq_true rfl) ?_
  refine v_if_eq (q := 8) (tgt := 16) hC dX12_way_5 rfl (by decide) (fun h5 => ?_) (fun h5 => ?_)
  · refine v_bipush (q := 18) (v := -101) hC dX12_way_16 rfl (by decide) ?_
    refine v_ireturn hC hB dX12_way_18 ⟨Nat.le_refl _, Nat.le_refl _⟩ ?_
    first | exact zQs.mk (if_neg (by rw [zb_eq0.mp h5]; simp)) h0 zFm.rf | exact zQs.mk (if_neg (by rw [zb_eq0.mp h13]; simp)) h0 zFm.rf
  · refine v_aload_n (q := 9) hC dX12_way_8 rfl rfl rfl ?_
    refine v_iload_n (q := 10) hC dX12_way_9 rfl rfl rfl ?_
    refine v_callV1 (q := 13) (As := [_]) hC dX12_way_10 rfl lX12_138 mX12_isPerson iX12_isPerson eX12_isPerson rfl (hL.1 53 (by decide)) (ct_X12_isPerson (d + 2) hL hF.1 (by omega) p) rfl rfl (by omega) rfl (Nat.le_of_ble_eq_true rfl) ?_
    refine v_if_ne (q := 16) (tgt := 19) hC dX12_way_13 rfl (by decide) (fun h13 => ?_) (fun h13 => ?_)
    · have hz := zb_ne h5
      have hz2 := zb_ne h13
      obtain ⟨f, hf, rfl⟩ := zval_of (by omega) hz
      obtain ⟨p, hpp, rfl⟩ := zval_of (by omega) hz2
      obtain ⟨e0, hi, e1, hh0⟩ := pFn oL hn6 hf
      have edf := dN_nI (show f < 2 ^ 31 by omega)
      have edp := dN_nI (show p < 2 ^ 31 by omega)
      refine v_iload_n (q := 20) hC dX12_way_19 rfl rfl rfl ?_
      refine v_i2l (q := 21) hC dX12_way_20 rfl ?_
      refine v_lconst (q := 22) (v := 0) hC dX12_way_21 rfl (by decide) ?_
      refine v_lconst (q := 23) (v := 1) hC dX12_way_22 rfl (by decide) ?_
      refine v_callS1 (q := 26) (As := [_, _, _]) hC dX12_way_23 rfl lX12_70 mX12_in sX12_in (ct_X12_inI (d + 3) k 0 1) rfl rfl (by omega) rfl (Nat.le_of_ble_eq_true rfl) ?_
      refine v_if_ne (q := 29) (tgt := 32) hC dX12_way_26 rfl (by decide) (fun h26 => ?_) (fun h26 => ?_)
      · have hr := of_decide_eq_true (zb_ne h26)
        refine v_aload_n (q := 33) hC dX12_way_32 rfl rfl rfl ?_
        refine v_iload_n (q := 34) hC dX12_way_33 rfl rfl rfl ?_
        refine v_callV1 (q := 37) (As := [_]) hC dX12_way_34 rfl lX12_174 mX12_isOwed iX12_isOwed eX12_isOwed rfl (hL.1 53 (by decide)) (ct_X12_isOwed (d + 3) hL hd hf) rfl rfl (by omega) rfl (Nat.le_of_ble_eq_true rfl) ?_
        refine v_if_ne (q := 40) (tgt := 43) hC dX12_way_37 rfl (by decide) (fun h37 => ?_) (fun h37 => ?_)
        · have ho := of_decide_eq_true (zb_ne h37)
          refine v_aload_n (q := 44) hC dX12_way_43 rfl rfl rfl ?_
          refine v_iload_n (q := 45) hC dX12_way_44 rfl rfl rfl ?_
          refine v_callVQ (q := 48) (As := [_]) hC dX12_way_45 rfl lX12_224 mX12_layWays iX12_layWays eX12_layWays rfl (hL.1 53 (by decide)) (ct_X12_layWays (d + 0) hL hF hd hs (fun g hg => by cases hg) hsy hf e0 e1 hi hh0) rfl rfl (by omega) (by decide) (Nat.le_of_ble_eq_true rfl) ?_
          rintro _ σ1 ⟨rfl, hS, hz9⟩
          rw [gv0] at hz9
          refine v_iload_n (q := 49) hC dX12_way_48 rfl rfl rfl ?_
          refine v_if_ne (q := 52) (tgt := 60) hC dX12_way_49 rfl (by decide) (fun h49 => ?_) (fun h49 => ?_)
          · refine v_aload_n (q := 61) hC dX12_way_60 rfl rfl rfl ?_
            refine v_iload_n (q := 62) hC dX12_way_61 rfl rfl rfl ?_
            refine v_callV1 (q := 65) (As := [_]) hC dX12_way_62 rfl lX12_228 mX12_firstTo iX12_firstTo eX12_firstTo rfl ((hS.lay hL).1 53 (by decide)) (ct_X12_firstTo (d + 2) (hS.lay hL) hz9 (show p < 6 by omega)) rfl rfl (by omega) rfl (Nat.le_of_ble_eq_true rfl) ?_
            refine v_ireturn hC hB dX12_way_65 ⟨Nat.le_refl _, Nat.le_refl _⟩ ?_
            have eW : sWay S (nI f) (nI p) k = (match pSh (qN S) (pGS S) (pNS S) (dN (qF S 0 f)) (dN (qF S 1 f)) p with | none => (-1, S) | some j => (if k = 0 then nI (j + 1) else zo (pLst (qN S) (pRow (qN S) (pGS S) (pNS S) (dN (qF S 0 f)) (dN (qF S 1 f)) j) p), S)) := by unfold sWay pWay; rw [hz, hz2, Bool.and_self, if_pos rfl, if_neg hr, edf, edp, if_pos ho]; cases pSh (qN S) (pGS S) (pNS S) (dN (qF S 0 f)) (dN (qF S 1 f)) p <;> rfl
            try rw [pK_fst hn6 hpp]
            refine zQs.mk (S' := S) (eW.trans ?_) ⟨hS.lay hL, hp.sm hS rfl rfl, hF.sm hS rfl rfl, hd.sm hS rfl rfl, hs.sm hS rfl, hk.sm hS rfl, hy.sm hS rfl rfl, he.sm hS rfl rfl⟩ (hS.fm rfl)
            cases e9 : pSh (qN S) (pGS S) (pNS S) (dN (qF S 0 f)) (dN (qF S 1 f)) p with
            | none => rfl
            | some j => first | (dsimp only; rw [if_pos h49]; rfl) | (dsimp only; rw [if_neg h49])
          · refine v_aload_n (q := 53) hC dX12_way_52 rfl rfl rfl ?_
            refine v_iload_n (q := 54) hC dX12_way_53 rfl rfl rfl ?_
            refine v_callV1 (q := 57) (As := [_]) hC dX12_way_54 rfl lX12_221 mX12_fewest iX12_fewest eX12_fewest rfl ((hS.lay hL).1 53 (by decide)) (ct_X12_fewest (d + 3) (hS.lay hL) hz9 (show p < 6 by omega)) rfl rfl (by omega) rfl (Nat.le_of_ble_eq_true rfl) ?_
            rw [pK_len hn6 hpp]
            refine v_goto (q := 65) hC dX12_way_57 (by decide) ?_
            refine v_ireturn hC hB dX12_way_65 ⟨Nat.le_refl _, Nat.le_refl _⟩ ?_
            have eW : sWay S (nI f) (nI p) k = (match pSh (qN S) (pGS S) (pNS S) (dN (qF S 0 f)) (dN (qF S 1 f)) p with | none => (-1, S) | some j => (if k = 0 then nI (j + 1) else zo (pLst (qN S) (pRow (qN S) (pGS S) (pNS S) (dN (qF S 0 f)) (dN (qF S 1 f)) j) p), S)) := by unfold sWay pWay; rw [hz, hz2, Bool.and_self, if_pos rfl, if_neg hr, edf, edp, if_pos ho]; cases pSh (qN S) (pGS S) (pNS S) (dN (qF S 0 f)) (dN (qF S 1 f)) p <;> rfl
            try rw [pK_fst hn6 hpp]
            refine zQs.mk (S' := S) (eW.trans ?_) ⟨hS.lay hL, hp.sm hS rfl rfl, hF.sm hS rfl rfl, hd.sm hS rfl rfl, hs.sm hS rfl, hk.sm hS rfl, hy.sm hS rfl rfl, he.sm hS rfl rfl⟩ (hS.fm rfl)
            cases e9 : pSh (qN S) (pGS S) (pNS S) (dN (qF S 0 f)) (dN (qF S 1 f)) p with
            | none => rfl
            | some j => first | (dsimp only; rw [if_pos h49]; rfl) | (dsimp only; rw [if_neg h49])
        · refine v_bipush (q := 42) (v := -103) hC dX12_way_40 rfl (by decide) ?_
          refine v_ireturn hC hB dX12_way_42 ⟨Nat.le_refl _, Nat.le_refl _⟩ ?_
          exact zQs.mk (by unfold sWay; rw [hz, hz2, Bool.and_self, if_pos rfl, if_neg hr, edf]; exact if_neg (of_decide_eq_false (zb_eq0.mp h37))) h0 zFm.rf
      · refine v_bipush (q := 31) (v := -102) hC dX12_way_29 rfl (by decide) ?_
        refine v_ireturn hC hB dX12_way_31 ⟨Nat.le_refl _, Nat.le_refl _⟩ ?_
        exact zQs.mk (by unfold sWay; rw [hz, hz2, Bool.and_self, if_pos rfl]; exact if_pos (Decidable.not_not.mp (of_decide_eq_false (zb_eq0.mp h26)))) h0 zFm.rf
    · refine v_bipush (q := 18) (v := -101) hC dX12_way_16 rfl (by decide) ?_
      refine v_ireturn hC hB dX12_way_18 ⟨Nat.le_refl _, Nat.le_refl _⟩ ?_
      first | exact zQs.mk (if_neg (by rw [zb_eq0.mp h5]; simp)) h0 zFm.rf | exact zQs.mk (if_neg (by rw [zb_eq0.mp h13]; simp)) h0 zFm.rf

set_option maxRecDepth 100000 in
set_option maxHeartbeats 4000000 in
theorem md_reach (d : Nat) {σ : zSt} {S : pS} {B : Nat} (h : zMd σ S) (ok : pOk B S) (f : Int32) : zCt (d + 5) MX12_reach [.ref 53, .int f] σ (zQs zMd zFm σ (sReach S f)) := by
  refine zCt.of (L := [some (.ref 53), some (.int f)]) (by decide) (Nat.le_of_ble_eq_true rfl) rfl (fun X hC hB => ?_)
  have hC : zC X RX12 cX12_reach 2 (d + 5) 0 0 := hC
  have hB : zB X (some .int) 0 0 "reach" σ _ := hB
  show zV X 2 0 [some (.ref 53), some (.int f)] [] 0 0 σ
  have h0 := h
  obtain ⟨hL, hp, hF, hd, hs, hk, hy, he⟩ := h
  obtain ⟨oB, oq, ow, oqt, ot, okm, omm, oq0, oL, oD, okr, okp, oK, osym, okp6, okd⟩ := ok
  have hn6 := hF.2.1
  have hm12 := hd.2.1
  have hsy : ∀ a b, a < 6 → b < 6 → qKin S a b = qKin S b a := fun a b ha hb => (osym a b ha hb).1
  have gv0 : gvS (qKd S) (qKin S) (qMet S) none none = pGS S := funext fun a => funext fun b => gvS_0
  refine v_aload_n (q := 1) hC dX12_reach_0 rfl rfl rfl ?_
  refine v_iload_n (q := 2) hC dX12_reach_1 rfl rfl rfl ?_
  refine v_callV1 (q := 5) (As := [_]) hC dX12_reach_2 rfl lX12_193 mX12_isFavour iX12_isFavour eX12_isFavour rfl (hL.1 53 (by decide)) (ct_X12_isFavour (d + 3) hL hd.1 (by omega) f) rfl rfl (by omega) rfl (Nat.le_of_ble_eq_true rfl) ?_
  refine v_if_ne (q := 8) (tgt := 11) hC dX12_reach_5 rfl (by decide) (fun h5 => ?_) (fun h5 => ?_)
  · have hz := zb_ne h5
    obtain ⟨f, hf, rfl⟩ := zval_of (by omega) hz
    obtain ⟨e0, hi, e1, hh0⟩ := pFn oL hn6 hf
    have edf := dN_nI (show f < 2 ^ 31 by omega)
    refine v_aload_n (q := 12) hC dX12_reach_11 rfl rfl rfl ?_
    refine v_iload_n (q := 13) hC dX12_reach_12 rfl rfl rfl ?_
    refine v_callV1 (q := 16) (As := [_]) hC dX12_reach_13 rfl lX12_174 mX12_isOwed iX12_isOwed eX12_isOwed rfl (hL.1 53 (by decide)) (ct_X12_isOwed (d + 4) hL hd hf) rfl rfl (by omega) rfl (Nat.le_of_ble_eq_true rfl) ?_
    refine v_if_eq (q := 19) (tgt := 27) hC dX12_reach_16 rfl (by decide) (fun h16 => ?_) (fun h16 => ?_)
    · refine v_bipush (q := 29) (v := -103) hC dX12_reach_27 rfl (by decide) ?_
      refine v_ireturn hC hB dX12_reach_29 ⟨Nat.le_refl _, Nat.le_refl _⟩ ?_
      first
        | exact zQs.mk (S' := S) (by unfold sReach; rw [hz, if_pos rfl, edf, if_pos (of_decide_eq_true (zb_ne h16))]) ⟨hS.lay hL, hp.sm hS rfl rfl, hF.sm hS rfl rfl, hd.sm hS rfl rfl, hs.sm hS rfl, hk.sm hS rfl, hy.sm hS rfl rfl, he.sm hS rfl rfl⟩ (hS.fm rfl)
        | exact zQs.mk (by unfold sReach; rw [hz, if_pos rfl, edf]; exact if_neg (of_decide_eq_false (zb_eq0.mp h16))) h0 zFm.rf
    · refine v_aload_n (q := 20) hC dX12_reach_19 rfl rfl rfl ?_
      refine v_iload_n (q := 21) hC dX12_reach_20 rfl rfl rfl ?_
      refine v_callVQ (q := 24) (As := [_]) hC dX12_reach_21 rfl lX12_231 mX12_reachOf iX12_reachOf eX12_reachOf rfl (hL.1 53 (by decide)) (ct_X12_reachOf d hL hF hd hs (fun g hg => by cases hg) hsy hf e0 e1 hi hh0) rfl rfl (by omega) (by decide) (Nat.le_of_ble_eq_true rfl) ?_
      rintro _ σ1 ⟨rfl, hS, hz9⟩
      rw [gv0]
      refine v_goto (q := 29) hC dX12_reach_24 (by decide) ?_
      refine v_ireturn hC hB dX12_reach_29 ⟨Nat.le_refl _, Nat.le_refl _⟩ ?_
      first
        | exact zQs.mk (S' := S) (by unfold sReach; rw [hz, if_pos rfl, edf, if_pos (of_decide_eq_true (zb_ne h16))]) ⟨hS.lay hL, hp.sm hS rfl rfl, hF.sm hS rfl rfl, hd.sm hS rfl rfl, hs.sm hS rfl, hk.sm hS rfl, hy.sm hS rfl rfl, he.sm hS rfl rfl⟩ (hS.fm rfl)
        | exact zQs.mk (by unfold sReach; rw [hz, if_pos rfl, edf]; exact if_neg (of_decide_eq_false (zb_eq0.mp h16))) h0 zFm.rf
  · refine v_bipush (q := 10) (v := -101) hC dX12_reach_8 rfl (by decide) ?_
    refine v_ireturn hC hB dX12_reach_10 ⟨Nat.le_refl _, Nat.le_refl _⟩ ?_
    exact zQs.mk (if_neg (by rw [zb_eq0.mp h5]; simp)) h0 zFm.rf

