/-! ===== the model: counts and chains ===== -/
set_option maxRecDepth 100000 in
set_option maxHeartbeats 4000000 in
theorem ct_X12_aheadOf (d : Nat) {σ : zSt} (hL : zLay σ) {m : Nat} {F : Nat → Nat → Int32} {w : Nat} (hd : zMr σ m F w) {n : Nat} (hw : pLw m F n w) {f : Nat} (hf : f < m) : zEv (d + 0) MX12_aheadOf [.ref 53, .int (nI f)] σ (some (.int (nI (pAh F 12 f)))) σ := by
  refine zCt.of (L := [some (.ref 53), some (.int (nI f)), none, none]) (by decide) (Nat.le_of_ble_eq_true rfl) rfl (fun X hC hB => ?_)
  have hC : zC X RX12 cX12_aheadOf 4 (d + 0) 0 0 := hC
  have hB : zB X (some .int) 0 0 "aheadOf" σ _ := hB
  show zV X 4 0 [some (.ref 53), some (.int (nI f)), none, none] [] 0 0 σ
  have hm := hd.2.1
  obtain ⟨v, hv0⟩ : ∃ v, v = pAh F 12 f := ⟨_, rfl⟩
  rw [← hv0] at hB
  generalize hp : nI f = p
  have lp : ∀ (r : Nat) (i f : Nat), f < r → f < m → i + pAh F r f = v → zV X 4 4 [some (.ref 53), some (.int p), some (.int (nI i)), some (.int (nI f))] [] 0 0 σ := by
    intro r
    induction r with
    | zero =>
      intro i f hr hf hv
      exact absurd hr (Nat.not_lt_zero f)
    | succ r ih =>
      intro i f hr hf hv
      refine v_aload_n (q := 5) hC dX12_aheadOf_4 rfl rfl rfl ?_
      refine v_getR (q := 8) (r := 60) hC dX12_aheadOf_5 rfl fX12_28 (hL.1 53 (by decide)) (hL.2 53 23 60 rfl) ?_
      refine v_bipush (q := 10) (v := 6) hC dX12_aheadOf_8 rfl (by decide) ?_
      refine v_iload_n (q := 11) hC dX12_aheadOf_10 rfl rfl rfl ?_
      refine v_imul (q := 12) hC dX12_aheadOf_11 rfl ?_
      refine v_iconst (q := 13) (v := 4) hC dX12_aheadOf_12 rfl (by decide) ?_
      refine v_iadd (q := 14) hC dX12_aheadOf_13 rfl ?_
      refine v_ialdN (q := 15) (j := 6 * f + 4) hC dX12_aheadOf_14 rfl (hL.1 60 (by decide)) (z6' f 4) (by omega) (by decide) ?_
      rw [hd.2.2.2 4 f (by decide) hf]
      refine v_iconst (q := 16) (v := -1) hC dX12_aheadOf_15 rfl (by decide) ?_
      refine v_icmp_eq (q := 19) (tgt := 37) hC dX12_aheadOf_16 rfl (by decide) (fun h16 => ?_) (fun h16 => ?_)
      · refine v_iload_n (q := 38) hC dX12_aheadOf_37 rfl rfl rfl ?_
        refine v_ireturn hC hB dX12_aheadOf_38 ⟨Nat.le_refl _, Nat.le_refl _⟩ ?_
        simp only [pAh] at hv
        rw [if_pos h16] at hv
        have e : i = v := by omega
        subst e
        exact ⟨rfl, rfl⟩
      · obtain ⟨g, hgf, e4⟩ := ((hw.2 f hf).2.2.2.2.1).resolve_left h16
        have eD : dN (F 4 f) = g := by rw [e4]; exact dN_nI (by omega)
        refine v_aload_n (q := 20) hC dX12_aheadOf_19 rfl rfl rfl ?_
        refine v_getR (q := 23) (r := 60) hC dX12_aheadOf_20 rfl fX12_28 (hL.1 53 (by decide)) (hL.2 53 23 60 rfl) ?_
        refine v_bipush (q := 25) (v := 6) hC dX12_aheadOf_23 rfl (by decide) ?_
        refine v_iload_n (q := 26) hC dX12_aheadOf_25 rfl rfl rfl ?_
        refine v_imul (q := 27) hC dX12_aheadOf_26 rfl ?_
        refine v_iconst (q := 28) (v := 4) hC dX12_aheadOf_27 rfl (by decide) ?_
        refine v_iadd (q := 29) hC dX12_aheadOf_28 rfl ?_
        refine v_ialdN (q := 30) (j := 6 * f + 4) hC dX12_aheadOf_29 rfl (hL.1 60 (by decide)) (z6' f 4) (by omega) (by decide) ?_
        rw [hd.2.2.2 4 f (by decide) hf]
        refine v_istore_n (q := 31) (L' := [_, _, _, _]) hC dX12_aheadOf_30 rfl rfl (by decide) rfl rfl ?_
        refine v_iinc (q := 34) (v := 1) (L' := [_, _, _, _]) hC dX12_aheadOf_31 rfl rfl (by decide) (by decide) rfl rfl ?_
        refine v_goto (q := 4) hC dX12_aheadOf_34 (by decide) ?_
        rw [nI_1 i, e4]
        exact ih (i + 1) g (by omega) (by omega) (by simp only [pAh] at hv; rw [if_neg h16, eD] at hv; omega)
  refine v_iconst (q := 1) (v := 0) hC dX12_aheadOf_0 rfl (by decide) ?_
  refine v_istore_n (q := 2) (L' := [_, _, _, _]) hC dX12_aheadOf_1 rfl rfl (by decide) rfl rfl ?_
  refine v_iload_n (q := 3) hC dX12_aheadOf_2 rfl rfl rfl ?_
  refine v_istore_n (q := 4) (L' := [_, _, _, _]) hC dX12_aheadOf_3 rfl rfl (by decide) rfl rfl ?_
  subst hp
  exact lp 12 0 f (by omega) hf (by omega)

set_option maxRecDepth 100000 in
set_option maxHeartbeats 4000000 in
theorem ct_X12_firstOf (d : Nat) {σ : zSt} (hL : zLay σ) {m : Nat} {F : Nat → Nat → Int32} {w : Nat} (hd : zMr σ m F w) {n : Nat} (hw : pLw m F n w) {f : Nat} (hf : f < m) : zEv (d + 0) MX12_firstOf [.ref 53, .int (nI f)] σ (some (.int (nI (pFo F 12 f)))) σ := by
  refine zCt.of (L := [some (.ref 53), some (.int (nI f)), none]) (by decide) (Nat.le_of_ble_eq_true rfl) rfl (fun X hC hB => ?_)
  have hC : zC X RX12 cX12_firstOf 3 (d + 0) 0 0 := hC
  have hB : zB X (some .int) 0 0 "firstOf" σ _ := hB
  show zV X 3 0 [some (.ref 53), some (.int (nI f)), none] [] 0 0 σ
  have hm := hd.2.1
  obtain ⟨v, hv0⟩ : ∃ v, v = pFo F 12 f := ⟨_, rfl⟩
  rw [← hv0] at hB
  generalize hp : nI f = p
  have lp : ∀ (r : Nat) (f : Nat), f < r → f < m → pFo F r f = v → zV X 3 2 [some (.ref 53), some (.int p), some (.int (nI f))] [] 0 0 σ := by
    intro r
    induction r with
    | zero =>
      intro f hr hf hv
      exact absurd hr (Nat.not_lt_zero f)
    | succ r ih =>
      intro f hr hf hv
      refine v_aload_n (q := 3) hC dX12_firstOf_2 rfl rfl rfl ?_
      refine v_getR (q := 6) (r := 60) hC dX12_firstOf_3 rfl fX12_28 (hL.1 53 (by decide)) (hL.2 53 23 60 rfl) ?_
      refine v_bipush (q := 8) (v := 6) hC dX12_firstOf_6 rfl (by decide) ?_
      refine v_iload_n (q := 9) hC dX12_firstOf_8 rfl rfl rfl ?_
      refine v_imul (q := 10) hC dX12_firstOf_9 rfl ?_
      refine v_iconst (q := 11) (v := 4) hC dX12_firstOf_10 rfl (by decide) ?_
      refine v_iadd (q := 12) hC dX12_firstOf_11 rfl ?_
      refine v_ialdN (q := 13) (j := 6 * f + 4) hC dX12_firstOf_12 rfl (hL.1 60 (by decide)) (z6' f 4) (by omega) (by decide) ?_
      rw [hd.2.2.2 4 f (by decide) hf]
      refine v_iconst (q := 14) (v := -1) hC dX12_firstOf_13 rfl (by decide) ?_
      refine v_icmp_eq (q := 17) (tgt := 32) hC dX12_firstOf_14 rfl (by decide) (fun h14 => ?_) (fun h14 => ?_)
      · refine v_iload_n (q := 33) hC dX12_firstOf_32 rfl rfl rfl ?_
        refine v_ireturn hC hB dX12_firstOf_33 ⟨Nat.le_refl _, Nat.le_refl _⟩ ?_
        simp only [pFo] at hv
        rw [if_pos h14] at hv
        subst hv
        exact ⟨rfl, rfl⟩
      · obtain ⟨g, hgf, e4⟩ := ((hw.2 f hf).2.2.2.2.1).resolve_left h14
        have eD : dN (F 4 f) = g := by rw [e4]; exact dN_nI (by omega)
        refine v_aload_n (q := 18) hC dX12_firstOf_17 rfl rfl rfl ?_
        refine v_getR (q := 21) (r := 60) hC dX12_firstOf_18 rfl fX12_28 (hL.1 53 (by decide)) (hL.2 53 23 60 rfl) ?_
        refine v_bipush (q := 23) (v := 6) hC dX12_firstOf_21 rfl (by decide) ?_
        refine v_iload_n (q := 24) hC dX12_firstOf_23 rfl rfl rfl ?_
        refine v_imul (q := 25) hC dX12_firstOf_24 rfl ?_
        refine v_iconst (q := 26) (v := 4) hC dX12_firstOf_25 rfl (by decide) ?_
        refine v_iadd (q := 27) hC dX12_firstOf_26 rfl ?_
        refine v_ialdN (q := 28) (j := 6 * f + 4) hC dX12_firstOf_27 rfl (hL.1 60 (by decide)) (z6' f 4) (by omega) (by decide) ?_
        rw [hd.2.2.2 4 f (by decide) hf]
        refine v_istore_n (q := 29) (L' := [_, _, _]) hC dX12_firstOf_28 rfl rfl (by decide) rfl rfl ?_
        refine v_goto (q := 2) hC dX12_firstOf_29 (by decide) ?_
        rw [e4]
        exact ih g (by omega) (by omega) (by simp only [pFo] at hv; rw [if_neg h14, eD] at hv; exact hv)
  refine v_iload_n (q := 1) hC dX12_firstOf_0 rfl rfl rfl ?_
  refine v_istore_n (q := 2) (L' := [_, _, _]) hC dX12_firstOf_1 rfl rfl (by decide) rfl rfl ?_
  subst hp
  exact lp 12 f (by omega) hf hv0.symm

set_option maxRecDepth 100000 in
set_option maxHeartbeats 4000000 in
theorem ct_X12_isHome (d : Nat) {σ : zSt} (hL : zLay σ) {m : Nat} {F : Nat → Nat → Int32} {w : Nat} (hd : zMr σ m F w) {n : Nat} (hw : pLw m F n w) {f : Nat} (hf : f < m) : zEv (d + 0) MX12_isHome [.ref 53, .int (nI f)] σ (some (.int (zb (pHm F (F 0 f) 12 (F 5 f))))) σ := by
  refine zCt.of (L := [some (.ref 53), some (.int (nI f)), none, none]) (by decide) (Nat.le_of_ble_eq_true rfl) rfl (fun X hC hB => ?_)
  have hC : zC X RX12 cX12_isHome 4 (d + 0) 0 0 := hC
  have hB : zB X (some .boolean) 0 0 "isHome" σ _ := hB
  show zV X 4 0 [some (.ref 53), some (.int (nI f)), none, none] [] 0 0 σ
  have hm := hd.2.1
  obtain ⟨v, hv0⟩ : ∃ v, v = pHm F (F 0 f) 12 (F 5 f) := ⟨_, rfl⟩
  rw [← hv0] at hB
  have lp : ∀ (r : Nat) (acc : Bool) (x a : Int32), x = zb acc → (a = -1 ∨ ∃ g, g < m ∧ a = nI g ∧ m ≤ g + r) → (acc || pHm F (F 0 f) r a) = v → zV X 4 14 [some (.ref 53), some (.int (nI f)), some (.int x), some (.int a)] [] 0 0 σ := by
    intro r
    induction r with
    | zero =>
      intro acc x a hx ha hv
      refine v_iload_n (q := 15) hC dX12_isHome_14 rfl rfl rfl ?_
      refine v_iconst (q := 16) (v := -1) hC dX12_isHome_15 rfl (by decide) ?_
      refine v_icmp_eq (q := 19) (tgt := 67) hC dX12_isHome_16 rfl (by decide) (fun h16 => ?_) (fun h16 => ?_)
      · refine v_iload_n (q := 68) hC dX12_isHome_67 rfl rfl rfl ?_
        refine v_zreturn hC hB dX12_isHome_68 ⟨Nat.le_refl _, Nat.le_refl _⟩ (by rw [hx]; exact zb_01 _) ?_
        simp only [pHm, Bool.or_false] at hv
        rw [hx, hv]
        exact ⟨rfl, rfl⟩
      · exact absurd ha (by rintro (z | ⟨g, h1, -, h2⟩); exact h16 z; omega)
    | succ r ih =>
      intro acc x a hx ha hv
      refine v_iload_n (q := 15) hC dX12_isHome_14 rfl rfl rfl ?_
      refine v_iconst (q := 16) (v := -1) hC dX12_isHome_15 rfl (by decide) ?_
      refine v_icmp_eq (q := 19) (tgt := 67) hC dX12_isHome_16 rfl (by decide) (fun h16 => ?_) (fun h16 => ?_)
      · refine v_iload_n (q := 68) hC dX12_isHome_67 rfl rfl rfl ?_
        refine v_zreturn hC hB dX12_isHome_68 ⟨Nat.le_refl _, Nat.le_refl _⟩ (by rw [hx]; exact zb_01 _) ?_
        simp only [pHm] at hv
        rw [if_pos h16, Bool.or_false] at hv
        rw [hx, hv]
        exact ⟨rfl, rfl⟩
      · obtain ⟨g, hgm, rfl, hgr⟩ := ha.resolve_left h16
        have eD : dN (nI g) = g := dN_nI (by omega)
        refine v_iload_n (q := 20) hC dX12_isHome_19 rfl rfl rfl ?_
        refine v_if_ne (q := 23) (tgt := 46) hC dX12_isHome_20 rfl (by decide) (fun h20 => ?_) (fun h20 => ?_)
        · refine v_iconst (q := 47) (v := 1) hC dX12_isHome_46 rfl (by decide) ?_
          refine v_goto (q := 51) hC dX12_isHome_47 (by decide) ?_
          refine v_istore_n (q := 52) (L' := [_, _, _, _]) hC dX12_isHome_51 rfl rfl (by decide) rfl rfl ?_
          refine v_aload_n (q := 53) hC dX12_isHome_52 rfl rfl rfl ?_
          refine v_getR (q := 56) (r := 60) hC dX12_isHome_53 rfl fX12_28 (hL.1 53 (by decide)) (hL.2 53 23 60 rfl) ?_
          refine v_bipush (q := 58) (v := 6) hC dX12_isHome_56 rfl (by decide) ?_
          refine v_iload_n (q := 59) hC dX12_isHome_58 rfl rfl rfl ?_
          refine v_imul (q := 60) hC dX12_isHome_59 rfl ?_
          refine v_iconst (q := 61) (v := 5) hC dX12_isHome_60 rfl (by decide) ?_
          refine v_iadd (q := 62) hC dX12_isHome_61 rfl ?_
          refine v_ialdN (q := 63) (j := 6 * g + 5) hC dX12_isHome_62 rfl (hL.1 60 (by decide)) (z6' g 5) (by omega) (by decide) ?_
          rw [hd.2.2.2 5 g (by decide) hgm]
          refine v_istore_n (q := 64) (L' := [_, _, _, _]) hC dX12_isHome_63 rfl rfl (by decide) rfl rfl ?_
          refine v_goto (q := 14) hC dX12_isHome_64 (by decide) ?_
          refine ih (acc || decide (F 1 g = F 0 f)) _ _ ?_ ?_ ?_
          · first | (rw [hx] at h20; rw [zb_ne h20]; rfl) | (rw [h43, decide_eq_true rfl, Bool.or_true]; rfl) | (rw [hx] at h20; rw [zb_eq0.mp h20, decide_eq_false h43]; rfl)
          · rcases (hw.2 g hgm).2.2.2.2.2 with e | ⟨g2, h1, h2, e⟩
            · exact Or.inl e
            · exact Or.inr ⟨g2, h2, e, by omega⟩
          · rw [← hv]
            simp only [pHm]
            rw [if_neg h16, eD]
            by_cases e : F 1 g = F 0 f
            · rw [if_pos e, decide_eq_true e]; simp
            · rw [if_neg e, decide_eq_false e]; simp
        · refine v_aload_n (q := 24) hC dX12_isHome_23 rfl rfl rfl ?_
          refine v_getR (q := 27) (r := 60) hC dX12_isHome_24 rfl fX12_28 (hL.1 53 (by decide)) (hL.2 53 23 60 rfl) ?_
          refine v_bipush (q := 29) (v := 6) hC dX12_isHome_27 rfl (by decide) ?_
          refine v_iload_n (q := 30) hC dX12_isHome_29 rfl rfl rfl ?_
          refine v_imul (q := 31) hC dX12_isHome_30 rfl ?_
          refine v_iconst (q := 32) (v := 1) hC dX12_isHome_31 rfl (by decide) ?_
          refine v_iadd (q := 33) hC dX12_isHome_32 rfl ?_
          refine v_ialdN (q := 34) (j := 6 * g + 1) hC dX12_isHome_33 rfl (hL.1 60 (by decide)) (z6' g 1) (by omega) (by decide) ?_
          rw [hd.2.2.2 1 g (by decide) hgm]
          refine v_aload_n (q := 35) hC dX12_isHome_34 rfl rfl rfl ?_
          refine v_getR (q := 38) (r := 60) hC dX12_isHome_35 rfl fX12_28 (hL.1 53 (by decide)) (hL.2 53 23 60 rfl) ?_
          refine v_bipush (q := 40) (v := 6) hC dX12_isHome_38 rfl (by decide) ?_
          refine v_iload_n (q := 41) hC dX12_isHome_40 rfl rfl rfl ?_
          refine v_imul (q := 42) hC dX12_isHome_41 rfl ?_
          refine v_ialdN (q := 43) (j := 6 * f) hC dX12_isHome_42 rfl (hL.1 60 (by decide)) (by rw [show (6 : Int32) = nI 6 from rfl, pk_mul]) (by omega) (by decide) ?_
          rw [show zI σ 60 (6 * f) = F 0 f from hd.2.2.2 0 f (by decide) hf]
          refine v_icmp_ne (q := 46) (tgt := 50) hC dX12_isHome_43 rfl (by decide) (fun h43 => ?_) (fun h43 => ?_)
          · refine v_iconst (q := 51) (v := 0) hC dX12_isHome_50 rfl (by decide) ?_
            refine v_istore_n (q := 52) (L' := [_, _, _, _]) hC dX12_isHome_51 rfl rfl (by decide) rfl rfl ?_
            refine v_aload_n (q := 53) hC dX12_isHome_52 rfl rfl rfl ?_
            refine v_getR (q := 56) (r := 60) hC dX12_isHome_53 rfl fX12_28 (hL.1 53 (by decide)) (hL.2 53 23 60 rfl) ?_
            refine v_bipush (q := 58) (v := 6) hC dX12_isHome_56 rfl (by decide) ?_
            refine v_iload_n (q := 59) hC dX12_isHome_58 rfl rfl rfl ?_
            refine v_imul (q := 60) hC dX12_isHome_59 rfl ?_
            refine v_iconst (q := 61) (v := 5) hC dX12_isHome_60 rfl (by decide) ?_
            refine v_iadd (q := 62) hC dX12_isHome_61 rfl ?_
            refine v_ialdN (q := 63) (j := 6 * g + 5) hC dX12_isHome_62 rfl (hL.1 60 (by decide)) (z6' g 5) (by omega) (by decide) ?_
            rw [hd.2.2.2 5 g (by decide) hgm]
            refine v_istore_n (q := 64) (L' := [_, _, _, _]) hC dX12_isHome_63 rfl rfl (by decide) rfl rfl ?_
            refine v_goto (q := 14) hC dX12_isHome_64 (by decide) ?_
            refine ih (acc || decide (F 1 g = F 0 f)) _ _ ?_ ?_ ?_
            · first | (rw [hx] at h20; rw [zb_ne h20]; rfl) | (rw [h43, decide_eq_true rfl, Bool.or_true]; rfl) | (rw [hx] at h20; rw [zb_eq0.mp h20, decide_eq_false h43]; rfl)
            · rcases (hw.2 g hgm).2.2.2.2.2 with e | ⟨g2, h1, h2, e⟩
              · exact Or.inl e
              · exact Or.inr ⟨g2, h2, e, by omega⟩
            · rw [← hv]
              simp only [pHm]
              rw [if_neg h16, eD]
              by_cases e : F 1 g = F 0 f
              · rw [if_pos e, decide_eq_true e]; simp
              · rw [if_neg e, decide_eq_false e]; simp
          · refine v_iconst (q := 47) (v := 1) hC dX12_isHome_46 rfl (by decide) ?_
            refine v_goto (q := 51) hC dX12_isHome_47 (by decide) ?_
            refine v_istore_n (q := 52) (L' := [_, _, _, _]) hC dX12_isHome_51 rfl rfl (by decide) rfl rfl ?_
            refine v_aload_n (q := 53) hC dX12_isHome_52 rfl rfl rfl ?_
            refine v_getR (q := 56) (r := 60) hC dX12_isHome_53 rfl fX12_28 (hL.1 53 (by decide)) (hL.2 53 23 60 rfl) ?_
            refine v_bipush (q := 58) (v := 6) hC dX12_isHome_56 rfl (by decide) ?_
            refine v_iload_n (q := 59) hC dX12_isHome_58 rfl rfl rfl ?_
            refine v_imul (q := 60) hC dX12_isHome_59 rfl ?_
            refine v_iconst (q := 61) (v := 5) hC dX12_isHome_60 rfl (by decide) ?_
            refine v_iadd (q := 62) hC dX12_isHome_61 rfl ?_
            refine v_ialdN (q := 63) (j := 6 * g + 5) hC dX12_isHome_62 rfl (hL.1 60 (by decide)) (z6' g 5) (by omega) (by decide) ?_
            rw [hd.2.2.2 5 g (by decide) hgm]
            refine v_istore_n (q := 64) (L' := [_, _, _, _]) hC dX12_isHome_63 rfl rfl (by decide) rfl rfl ?_
            refine v_goto (q := 14) hC dX12_isHome_64 (by decide) ?_
            refine ih (acc || decide (F 1 g = F 0 f)) _ _ ?_ ?_ ?_
            · first | (rw [hx] at h20; rw [zb_ne h20]; rfl) | (rw [h43, decide_eq_true rfl, Bool.or_true]; rfl) | (rw [hx] at h20; rw [zb_eq0.mp h20, decide_eq_false h43]; rfl)
            · rcases (hw.2 g hgm).2.2.2.2.2 with e | ⟨g2, h1, h2, e⟩
              · exact Or.inl e
              · exact Or.inr ⟨g2, h2, e, by omega⟩
            · rw [← hv]
              simp only [pHm]
              rw [if_neg h16, eD]
              by_cases e : F 1 g = F 0 f
              · rw [if_pos e, decide_eq_true e]; simp
              · rw [if_neg e, decide_eq_false e]; simp
  refine v_iconst (q := 1) (v := 0) hC dX12_isHome_0 rfl (by decide) ?_
  refine v_istore_n (q := 2) (L' := [_, _, _, _]) hC dX12_isHome_1 rfl rfl (by decide) rfl rfl ?_
  refine v_aload_n (q := 3) hC dX12_isHome_2 rfl rfl rfl ?_
  refine v_getR (q := 6) (r := 60) hC dX12_isHome_3 rfl fX12_28 (hL.1 53 (by decide)) (hL.2 53 23 60 rfl) ?_
  refine v_bipush (q := 8) (v := 6) hC dX12_isHome_6 rfl (by decide) ?_
  refine v_iload_n (q := 9) hC dX12_isHome_8 rfl rfl rfl ?_
  refine v_imul (q := 10) hC dX12_isHome_9 rfl ?_
  refine v_iconst (q := 11) (v := 5) hC dX12_isHome_10 rfl (by decide) ?_
  refine v_iadd (q := 12) hC dX12_isHome_11 rfl ?_
  refine v_ialdN (q := 13) (j := 6 * f + 5) hC dX12_isHome_12 rfl (hL.1 60 (by decide)) (z6' f 5) (by omega) (by decide) ?_
  rw [hd.2.2.2 5 f (by decide) hf]
  refine v_istore_n (q := 14) (L' := [_, _, _, _]) hC dX12_isHome_13 rfl rfl (by decide) rfl rfl ?_
  refine lp 12 false 0 _ rfl ?_ (by rw [hv0]; rfl)
  rcases (hw.2 f hf).2.2.2.2.2 with e | ⟨g2, h1, h2, e⟩
  · exact Or.inl e
  · exact Or.inr ⟨g2, h2, e, by omega⟩

set_option maxRecDepth 100000 in
set_option maxHeartbeats 4000000 in
theorem ct_X12_owedMany (d : Nat) {σ : zSt} (hL : zLay σ) {m : Nat} {F : Nat → Nat → Int32} {w : Nat} (hd : zMr σ m F w) : zEv (d + 1) MX12_owedMany [.ref 53] σ (some (.int (nI (pCnt (fun f => decide (F 5 f = -1)) m)))) σ := by
  refine zCt.of (L := [some (.ref 53), none, none]) (by decide) (Nat.le_of_ble_eq_true rfl) rfl (fun X hC hB => ?_)
  have hC : zC X RX12 cX12_owedMany 3 (d + 1) 0 0 := hC
  have hB : zB X (some .int) 0 0 "owedMany" σ _ := hB
  show zV X 3 0 [some (.ref 53), none, none] [] 0 0 σ
  have hm := hd.2.1
  have lp : ∀ (r : Nat) (i : Nat) (x : Int32), x = nI (pCnt (fun f => decide (F 5 f = -1)) i) → i + r = m → zV X 3 4 [some (.ref 53), some (.int x), some (.int (nI i))] [] 0 0 σ := by
    intro r
    induction r with
    | zero =>
      intro i x hx hi
      subst hx
      refine v_iload_n (q := 5) hC dX12_owedMany_4 rfl rfl rfl ?_
      refine v_aload_n (q := 6) hC dX12_owedMany_5 rfl rfl rfl ?_
      refine v_getI (q := 9) hC dX12_owedMany_6 rfl fX12_129 (hL.1 53 (by decide)) ?_
      rw [hd.1]
      refine v_icmp_ge (q := 12) (tgt := 34) hC dX12_owedMany_9 rfl (by decide) (fun h9 => ?_) (fun h9 => ?_)
      · refine v_iload_n (q := 35) hC dX12_owedMany_34 rfl rfl rfl ?_
        refine v_ireturn hC hB dX12_owedMany_35 ⟨Nat.le_refl _, Nat.le_refl _⟩ ?_
        have e : i = m := by omega
        subst e
        exact ⟨rfl, rfl⟩
      · exact absurd (nI_le (a := m) (b := i) (by omega) (by omega)) h9
    | succ r ih =>
      intro i x hx hi
      subst hx
      have him : i < m := by omega
      refine v_iload_n (q := 5) hC dX12_owedMany_4 rfl rfl rfl ?_
      refine v_aload_n (q := 6) hC dX12_owedMany_5 rfl rfl rfl ?_
      refine v_getI (q := 9) hC dX12_owedMany_6 rfl fX12_129 (hL.1 53 (by decide)) ?_
      rw [hd.1]
      refine v_icmp_ge (q := 12) (tgt := 34) hC dX12_owedMany_9 rfl (by decide) (fun h9 => ?_) (fun h9 => ?_)
      · exact absurd h9 (nI_ge (a := i) (b := m) (by omega) (by omega))
      · refine v_iload_n (q := 13) hC dX12_owedMany_12 rfl rfl rfl ?_
        refine v_aload_n (q := 14) hC dX12_owedMany_13 rfl rfl rfl ?_
        refine v_iload_n (q := 15) hC dX12_owedMany_14 rfl rfl rfl ?_
        refine v_callV1 (q := 18) (As := [_]) hC dX12_owedMany_15 rfl lX12_174 mX12_isOwed iX12_isOwed eX12_isOwed rfl (hL.1 53 (by decide)) (ct_X12_isOwed d hL hd him) rfl rfl (by omega) rfl (Nat.le_of_ble_eq_true rfl) ?_
        refine v_if_eq (q := 21) (tgt := 25) hC dX12_owedMany_18 rfl (by decide) (fun h18 => ?_) (fun h18 => ?_)
        · refine v_iconst (q := 26) (v := 0) hC dX12_owedMany_25 rfl (by decide) ?_
          refine v_iadd (q := 27) hC dX12_owedMany_26 rfl ?_
          refine v_istore_n (q := 28) (L' := [_, _, _]) hC dX12_owedMany_27 rfl rfl (by decide) rfl rfl ?_
          refine v_iinc (q := 31) (v := 1) (L' := [_, _, _]) hC dX12_owedMany_28 rfl rfl (by decide) (by decide) rfl rfl ?_
          refine v_goto (q := 4) hC dX12_owedMany_31 (by decide) ?_
          rw [nI_1 i]
          exact ih (i + 1) _ (by first | exact pCnt_t (by simp_all [zb_eq0]) | (rw [Int32.add_zero]; exact pCnt_f (by simp_all [zb_eq0]))) (by omega)
        · refine v_iconst (q := 22) (v := 1) hC dX12_owedMany_21 rfl (by decide) ?_
          refine v_goto (q := 26) hC dX12_owedMany_22 (by decide) ?_
          refine v_iadd (q := 27) hC dX12_owedMany_26 rfl ?_
          refine v_istore_n (q := 28) (L' := [_, _, _]) hC dX12_owedMany_27 rfl rfl (by decide) rfl rfl ?_
          refine v_iinc (q := 31) (v := 1) (L' := [_, _, _]) hC dX12_owedMany_28 rfl rfl (by decide) (by decide) rfl rfl ?_
          refine v_goto (q := 4) hC dX12_owedMany_31 (by decide) ?_
          rw [nI_1 i]
          exact ih (i + 1) _ (by first | exact pCnt_t (by simp_all [zb_eq0]) | (rw [Int32.add_zero]; exact pCnt_f (by simp_all [zb_eq0]))) (by omega)
  refine v_iconst (q := 1) (v := 0) hC dX12_owedMany_0 rfl (by decide) ?_
  refine v_istore_n (q := 2) (L' := [_, _, _]) hC dX12_owedMany_1 rfl rfl (by decide) rfl rfl ?_
  refine v_iconst (q := 3) (v := 0) hC dX12_owedMany_2 rfl (by decide) ?_
  refine v_istore_n (q := 4) (L' := [_, _, _]) hC dX12_owedMany_3 rfl rfl (by decide) rfl rfl ?_
  exact lp m 0 _ rfl (by omega)

set_option maxRecDepth 100000 in
set_option maxHeartbeats 4000000 in
theorem ct_X12_homeMany (d : Nat) {σ : zSt} (hL : zLay σ) {m : Nat} {F : Nat → Nat → Int32} {w : Nat} (hd : zMr σ m F w) {n : Nat} (hw : pLw m F n w) : zEv (d + 1) MX12_homeMany [.ref 53] σ (some (.int (nI (pCnt (fun f => decide (F 4 f = -1) && pHm F (F 0 f) 12 (F 5 f)) m)))) σ := by
  refine zCt.of (L := [some (.ref 53), none, none]) (by decide) (Nat.le_of_ble_eq_true rfl) rfl (fun X hC hB => ?_)
  have hC : zC X RX12 cX12_homeMany 3 (d + 1) 0 0 := hC
  have hB : zB X (some .int) 0 0 "homeMany" σ _ := hB
  show zV X 3 0 [some (.ref 53), none, none] [] 0 0 σ
  have hm := hd.2.1
  have lp : ∀ (r : Nat) (i : Nat) (x : Int32), x = nI (pCnt (fun f => decide (F 4 f = -1) && pHm F (F 0 f) 12 (F 5 f)) i) → i + r = m → zV X 3 4 [some (.ref 53), some (.int x), some (.int (nI i))] [] 0 0 σ := by
    intro r
    induction r with
    | zero =>
      intro i x hx hi
      subst hx
      refine v_iload_n (q := 5) hC dX12_homeMany_4 rfl rfl rfl ?_
      refine v_aload_n (q := 6) hC dX12_homeMany_5 rfl rfl rfl ?_
      refine v_getI (q := 9) hC dX12_homeMany_6 rfl fX12_129 (hL.1 53 (by decide)) ?_
      rw [hd.1]
      refine v_icmp_ge (q := 12) (tgt := 49) hC dX12_homeMany_9 rfl (by decide) (fun h9 => ?_) (fun h9 => ?_)
      · refine v_iload_n (q := 50) hC dX12_homeMany_49 rfl rfl rfl ?_
        refine v_ireturn hC hB dX12_homeMany_50 ⟨Nat.le_refl _, Nat.le_refl _⟩ ?_
        have e : i = m := by omega
        subst e
        exact ⟨rfl, rfl⟩
      · exact absurd (nI_le (a := m) (b := i) (by omega) (by omega)) h9
    | succ r ih =>
      intro i x hx hi
      subst hx
      have him : i < m := by omega
      refine v_iload_n (q := 5) hC dX12_homeMany_4 rfl rfl rfl ?_
      refine v_aload_n (q := 6) hC dX12_homeMany_5 rfl rfl rfl ?_
      refine v_getI (q := 9) hC dX12_homeMany_6 rfl fX12_129 (hL.1 53 (by decide)) ?_
      rw [hd.1]
      refine v_icmp_ge (q := 12) (tgt := 49) hC dX12_homeMany_9 rfl (by decide) (fun h9 => ?_) (fun h9 => ?_)
      · exact absurd h9 (nI_ge (a := i) (b := m) (by omega) (by omega))
      · refine v_iload_n (q := 13) hC dX12_homeMany_12 rfl rfl rfl ?_
        refine v_aload_n (q := 14) hC dX12_homeMany_13 rfl rfl rfl ?_
        refine v_getR (q := 17) (r := 60) hC dX12_homeMany_14 rfl fX12_28 (hL.1 53 (by decide)) (hL.2 53 23 60 rfl) ?_
        refine v_bipush (q := 19) (v := 6) hC dX12_homeMany_17 rfl (by decide) ?_
        refine v_iload_n (q := 20) hC dX12_homeMany_19 rfl rfl rfl ?_
        refine v_imul (q := 21) hC dX12_homeMany_20 rfl ?_
        refine v_iconst (q := 22) (v := 4) hC dX12_homeMany_21 rfl (by decide) ?_
        refine v_iadd (q := 23) hC dX12_homeMany_22 rfl ?_
        refine v_ialdN (q := 24) (j := 6 * i + 4) hC dX12_homeMany_23 rfl (hL.1 60 (by decide)) (z6' i 4) (by omega) (by decide) ?_
        rw [hd.2.2.2 4 i (by decide) him]
        refine v_iconst (q := 25) (v := -1) hC dX12_homeMany_24 rfl (by decide) ?_
        refine v_icmp_ne (q := 28) (tgt := 40) hC dX12_homeMany_25 rfl (by decide) (fun h25 => ?_) (fun h25 => ?_)
        · refine v_iconst (q := 41) (v := 0) hC dX12_homeMany_40 rfl (by decide) ?_
          refine v_iadd (q := 42) hC dX12_homeMany_41 rfl ?_
          refine v_istore_n (q := 43) (L' := [_, _, _]) hC dX12_homeMany_42 rfl rfl (by decide) rfl rfl ?_
          refine v_iinc (q := 46) (v := 1) (L' := [_, _, _]) hC dX12_homeMany_43 rfl rfl (by decide) (by decide) rfl rfl ?_
          refine v_goto (q := 4) hC dX12_homeMany_46 (by decide) ?_
          rw [nI_1 i]
          exact ih (i + 1) _ (by first | exact pCnt_t (by simp_all [zb_eq0]) | (rw [Int32.add_zero]; exact pCnt_f (by simp_all [zb_eq0]))) (by omega)
        · refine v_aload_n (q := 29) hC dX12_homeMany_28 rfl rfl rfl ?_
          refine v_iload_n (q := 30) hC dX12_homeMany_29 rfl rfl rfl ?_
          refine v_callV1 (q := 33) (As := [_]) hC dX12_homeMany_30 rfl lX12_215 mX12_isHome iX12_isHome eX12_isHome rfl (hL.1 53 (by decide)) (ct_X12_isHome d hL hd hw him) rfl rfl (by omega) rfl (Nat.le_of_ble_eq_true rfl) ?_
          refine v_if_eq (q := 36) (tgt := 40) hC dX12_homeMany_33 rfl (by decide) (fun h33 => ?_) (fun h33 => ?_)
          · refine v_iconst (q := 41) (v := 0) hC dX12_homeMany_40 rfl (by decide) ?_
            refine v_iadd (q := 42) hC dX12_homeMany_41 rfl ?_
            refine v_istore_n (q := 43) (L' := [_, _, _]) hC dX12_homeMany_42 rfl rfl (by decide) rfl rfl ?_
            refine v_iinc (q := 46) (v := 1) (L' := [_, _, _]) hC dX12_homeMany_43 rfl rfl (by decide) (by decide) rfl rfl ?_
            refine v_goto (q := 4) hC dX12_homeMany_46 (by decide) ?_
            rw [nI_1 i]
            exact ih (i + 1) _ (by first | exact pCnt_t (by simp_all [zb_eq0]) | (rw [Int32.add_zero]; exact pCnt_f (by simp_all [zb_eq0]))) (by omega)
          · refine v_iconst (q := 37) (v := 1) hC dX12_homeMany_36 rfl (by decide) ?_
            refine v_goto (q := 41) hC dX12_homeMany_37 (by decide) ?_
            refine v_iadd (q := 42) hC dX12_homeMany_41 rfl ?_
            refine v_istore_n (q := 43) (L' := [_, _, _]) hC dX12_homeMany_42 rfl rfl (by decide) rfl rfl ?_
            refine v_iinc (q := 46) (v := 1) (L' := [_, _, _]) hC dX12_homeMany_43 rfl rfl (by decide) (by decide) rfl rfl ?_
            refine v_goto (q := 4) hC dX12_homeMany_46 (by decide) ?_
            rw [nI_1 i]
            exact ih (i + 1) _ (by first | exact pCnt_t (by simp_all [zb_eq0]) | (rw [Int32.add_zero]; exact pCnt_f (by simp_all [zb_eq0]))) (by omega)
  refine v_iconst (q := 1) (v := 0) hC dX12_homeMany_0 rfl (by decide) ?_
  refine v_istore_n (q := 2) (L' := [_, _, _]) hC dX12_homeMany_1 rfl rfl (by decide) rfl rfl ?_
  refine v_iconst (q := 3) (v := 0) hC dX12_homeMany_2 rfl (by decide) ?_
  refine v_istore_n (q := 4) (L' := [_, _, _]) hC dX12_homeMany_3 rfl rfl (by decide) rfl rfl ?_
  exact lp m 0 _ rfl (by omega)

set_option maxRecDepth 100000 in
set_option maxHeartbeats 4000000 in
theorem ct_X12_leastOwed (d : Nat) {σ : zSt} (hL : zLay σ) {m : Nat} {F : Nat → Nat → Int32} {w : Nat} (hd : zMr σ m F w) (p : Int32) : zEv (d + 1) MX12_leastOwed [.ref 53, .int p] σ (some (.int (zo (pFst (pOw F p) m)))) σ := by
  refine zCt.of (L := [some (.ref 53), some (.int p), none]) (by decide) (Nat.le_of_ble_eq_true rfl) rfl (fun X hC hB => ?_)
  have hC : zC X RX12 cX12_leastOwed 3 (d + 1) 0 0 := hC
  have hB : zB X (some .int) 0 0 "leastOwed" σ _ := hB
  show zV X 3 0 [some (.ref 53), some (.int p), none] [] 0 0 σ
  have hm := hd.2.1
  have lp : ∀ (r : Nat) (i : Nat), pFst (pOw F p) i = none → i + r = m → zV X 3 2 [some (.ref 53), some (.int p), some (.int (nI i))] [] 0 0 σ := by
    intro r
    induction r with
    | zero =>
      intro i hx hi
      refine v_iload_n (q := 3) hC dX12_leastOwed_2 rfl rfl rfl ?_
      refine v_aload_n (q := 4) hC dX12_leastOwed_3 rfl rfl rfl ?_
      refine v_getI (q := 7) hC dX12_leastOwed_4 rfl fX12_129 (hL.1 53 (by decide)) ?_
      rw [hd.1]
      refine v_icmp_ge (q := 10) (tgt := 41) hC dX12_leastOwed_7 rfl (by decide) (fun h7 => ?_) (fun h7 => ?_)
      · refine v_iconst (q := 42) (v := -1) hC dX12_leastOwed_41 rfl (by decide) ?_
        refine v_ireturn hC hB dX12_leastOwed_42 ⟨Nat.le_refl _, Nat.le_refl _⟩ ?_
        have e : i = m := by omega
        subst e
        rw [hx]
        exact ⟨rfl, rfl⟩
      · exact absurd (nI_le (a := m) (b := i) (by omega) (by omega)) h7
    | succ r ih =>
      intro i hx hi
      have him : i < m := by omega
      refine v_iload_n (q := 3) hC dX12_leastOwed_2 rfl rfl rfl ?_
      refine v_aload_n (q := 4) hC dX12_leastOwed_3 rfl rfl rfl ?_
      refine v_getI (q := 7) hC dX12_leastOwed_4 rfl fX12_129 (hL.1 53 (by decide)) ?_
      rw [hd.1]
      refine v_icmp_ge (q := 10) (tgt := 41) hC dX12_leastOwed_7 rfl (by decide) (fun h7 => ?_) (fun h7 => ?_)
      · exact absurd h7 (nI_ge (a := i) (b := m) (by omega) (by omega))
      · refine v_aload_n (q := 11) hC dX12_leastOwed_10 rfl rfl rfl ?_
        refine v_getR (q := 14) (r := 60) hC dX12_leastOwed_11 rfl fX12_28 (hL.1 53 (by decide)) (hL.2 53 23 60 rfl) ?_
        refine v_bipush (q := 16) (v := 6) hC dX12_leastOwed_14 rfl (by decide) ?_
        refine v_iload_n (q := 17) hC dX12_leastOwed_16 rfl rfl rfl ?_
        refine v_imul (q := 18) hC dX12_leastOwed_17 rfl ?_
        refine v_iconst (q := 19) (v := 1) hC dX12_leastOwed_18 rfl (by decide) ?_
        refine v_iadd (q := 20) hC dX12_leastOwed_19 rfl ?_
        refine v_ialdN (q := 21) (j := 6 * i + 1) hC dX12_leastOwed_20 rfl (hL.1 60 (by decide)) (z6' i 1) (by omega) (by decide) ?_
        rw [hd.2.2.2 1 i (by decide) him]
        refine v_iload_n (q := 22) hC dX12_leastOwed_21 rfl rfl rfl ?_
        refine v_icmp_ne (q := 25) (tgt := 35) hC dX12_leastOwed_22 rfl (by decide) (fun h22 => ?_) (fun h22 => ?_)
        · refine v_iinc (q := 38) (v := 1) (L' := [_, _, _]) hC dX12_leastOwed_35 rfl rfl (by decide) (by decide) rfl rfl ?_
          refine v_goto (q := 2) hC dX12_leastOwed_38 (by decide) ?_
          rw [nI_1 i]
          exact ih (i + 1) (pFst_f hx (by simp_all [zb_eq0, pOw])) (by omega)
        · refine v_aload_n (q := 26) hC dX12_leastOwed_25 rfl rfl rfl ?_
          refine v_iload_n (q := 27) hC dX12_leastOwed_26 rfl rfl rfl ?_
          refine v_callV1 (q := 30) (As := [_]) hC dX12_leastOwed_27 rfl lX12_174 mX12_isOwed iX12_isOwed eX12_isOwed rfl (hL.1 53 (by decide)) (ct_X12_isOwed d hL hd him) rfl rfl (by omega) rfl (Nat.le_of_ble_eq_true rfl) ?_
          refine v_if_eq (q := 33) (tgt := 35) hC dX12_leastOwed_30 rfl (by decide) (fun h30 => ?_) (fun h30 => ?_)
          · refine v_iinc (q := 38) (v := 1) (L' := [_, _, _]) hC dX12_leastOwed_35 rfl rfl (by decide) (by decide) rfl rfl ?_
            refine v_goto (q := 2) hC dX12_leastOwed_38 (by decide) ?_
            rw [nI_1 i]
            exact ih (i + 1) (pFst_f hx (by simp_all [zb_eq0, pOw])) (by omega)
          · refine v_iload_n (q := 34) hC dX12_leastOwed_33 rfl rfl rfl ?_
            refine v_ireturn hC hB dX12_leastOwed_34 ⟨Nat.le_refl _, Nat.le_refl _⟩ ?_
            rw [pFst_at hx (by simp_all [zb_eq0, pOw]) him]
            exact ⟨rfl, rfl⟩
  refine v_iconst (q := 1) (v := 0) hC dX12_leastOwed_0 rfl (by decide) ?_
  refine v_istore_n (q := 2) (L' := [_, _, _]) hC dX12_leastOwed_1 rfl rfl (by decide) rfl rfl ?_
  exact lp m 0 rfl (by omega)

