/-! ===== the model: a new favour ===== -/
theorem zlay {σ σ' : zSt} {m w : Nat} {F : Nat → Nat → Int32} (hd : zMr σ m F w) (hm : m < 12) {a b price : Int32} {old : Option Nat} (ho : ∀ g, old = some g → g < m) (e : σ' = zsI (match old with
  | none => zsI (zsI (zsI (zsI (zsI (zsI σ 60 (6 * m) a) 60 (6 * m + 1) b) 60 (6 * m + 2) price) 60 (6 * m + 3) (nI w)) 60 (6 * m + 4) (zo old)) 60 (6 * m + 5) (-1)
  | some g => zsI (zsI (zsI (zsI (zsI (zsI (zsI σ 60 (6 * m) a) 60 (6 * m + 1) b) 60 (6 * m + 2) price) 60 (6 * m + 3) (nI w)) 60 (6 * m + 4) (zo old)) 60 (6 * m + 5) (-1)) 60 (6 * g + 5) (nI m)) 53 22 (nI (m + 1))) : zSm [60] [22] σ σ' ∧ zMr σ' (m + 1) (pAdd m F a b price (nI w) old) w := by
  have h6 : zSm [60] [22] σ (zsI (zsI (zsI (zsI (zsI (zsI σ 60 (6 * m) a) 60 (6 * m + 1) b) 60 (6 * m + 2) price) 60 (6 * m + 3) (nI w)) 60 (6 * m + 4) (zo old)) 60 (6 * m + 5) (-1)) := (((((zSm.rf.c (by simp) (by decide)).c (by simp) (by decide)).c (by simp) (by decide)).c (by simp) (by decide)).c (by simp) (by decide)).c (by simp) (by decide)
  have g6 : ∀ j f, j < 6 → f < m → zI (zsI (zsI (zsI (zsI (zsI (zsI σ 60 (6 * m) a) 60 (6 * m + 1) b) 60 (6 * m + 2) price) 60 (6 * m + 3) (nI w)) 60 (6 * m + 4) (zo old)) 60 (6 * m + 5) (-1)) 60 (6 * f + j) = F j f := fun j f hj hf => by
    rw [zI_ne (by omega), zI_ne (by omega), zI_ne (by omega), zI_ne (by omega), zI_ne (by omega), zI_ne (by omega)]
    exact hd.2.2.2 j f hj hf
  have g7 : ∀ j, j < 6 → zI (zsI (zsI (zsI (zsI (zsI (zsI σ 60 (6 * m) a) 60 (6 * m + 1) b) 60 (6 * m + 2) price) 60 (6 * m + 3) (nI w)) 60 (6 * m + 4) (zo old)) 60 (6 * m + 5) (-1)) 60 (6 * m + j) = pAdd m F a b price (nI w) old j m := fun j hj => by
    have : j = 0 ∨ j = 1 ∨ j = 2 ∨ j = 3 ∨ j = 4 ∨ j = 5 := by omega
    rcases this with rfl | rfl | rfl | rfl | rfl | rfl
    · rw [zI_ne (by omega), zI_ne (by omega), zI_ne (by omega), zI_ne (by omega), zI_ne (by omega)]; simp [zI_eq, pAdd]
    · rw [zI_ne (by omega), zI_ne (by omega), zI_ne (by omega), zI_ne (by omega), zI_eq]; simp [pAdd]
    · rw [zI_ne (by omega), zI_ne (by omega), zI_ne (by omega), zI_eq]; simp [pAdd]
    · rw [zI_ne (by omega), zI_ne (by omega), zI_eq]; simp [pAdd]
    · rw [zI_ne (by omega), zI_eq]; simp [pAdd]
    · rw [zI_eq]; simp [pAdd]
  have g12 : zI (zsI (zsI (zsI (zsI (zsI (zsI σ 60 (6 * m) a) 60 (6 * m + 1) b) 60 (6 * m + 2) price) 60 (6 * m + 3) (nI w)) 60 (6 * m + 4) (zo old)) 60 (6 * m + 5) (-1)) 53 12 = nI w := by rw [h6.2 12 (by simp)]; exact hd.2.2.1
  generalize zsI (zsI (zsI (zsI (zsI (zsI σ 60 (6 * m) a) 60 (6 * m + 1) b) 60 (6 * m + 2) price) 60 (6 * m + 3) (nI w)) 60 (6 * m + 4) (zo old)) 60 (6 * m + 5) (-1) = σ6 at *
  cases old with
  | none =>
    subst e
    refine ⟨h6.o (by simp), zI_eq, by omega, by rw [zI_ne (by omega)]; exact g12, fun j f hj hf => ?_⟩
    rw [zI_ne (by omega)]
    by_cases e : f = m
    · subst e; exact g7 j hj
    · rw [g6 j f hj (by omega)]; simp [pAdd, e]
  | some g =>
    subst e
    have hg := ho g rfl
    refine ⟨(h6.c (by simp) (by decide)).o (by simp), zI_eq, by omega, by rw [zI_ne (by omega), zI_ne (by omega)]; exact g12, fun j f hj hf => ?_⟩
    rw [zI_ne (by omega)]
    by_cases e : f = m
    · subst e; rw [zI_ne (by omega)]; exact g7 j hj
    · by_cases e2 : j = 5 ∧ g = f
      · obtain ⟨rfl, rfl⟩ := e2
        rw [zI_eq]; simp [pAdd, e]
      · rw [zI_ne (by omega), g6 j f hj (by omega)]
        unfold pAdd
        rw [if_neg e, if_neg (fun z => e2 ⟨z.1, by have := z.2; cases this; rfl⟩)]

set_option maxRecDepth 100000 in
set_option maxHeartbeats 4000000 in
theorem ct_X12_lay (d : Nat) {σ : zSt} (hL : zLay σ) {m : Nat} {F : Nat → Nat → Int32} {w : Nat} (hd : zMr σ m F w) (hm12 : m < 12) (a b price : Int32) {old : Option Nat} (ho : ∀ g, old = some g → g < m) : zCt (d + 0) MX12_lay [.ref 53, .int a, .int b, .int price, .int (zo old)] σ (fun r σ' => r = none ∧ zSm [60] [22] σ σ' ∧ zMr σ' (m + 1) (pAdd m F a b price (nI w) old) w) := by
  refine zCt.of (L := [some (.ref 53), some (.int a), some (.int b), some (.int price), some (.int (zo old)), none]) (by decide) (Nat.le_of_ble_eq_true rfl) rfl (fun X hC hB => ?_)
  have hC : zC X RX12 cX12_lay 6 (d + 0) 0 0 := hC
  have hB : zB X none 0 0 "lay" σ _ := hB
  show zV X 6 0 [some (.ref 53), some (.int a), some (.int b), some (.int price), some (.int (zo old)), none] [] 0 0 σ
  have c1 := zo_m (o := old) (m := 12) (fun g hg => by have := ho g hg; omega) (by omega)
  refine v_bipush (q := 2) (v := 6) hC dX12_lay_0 rfl (by decide) ?_
  refine v_aload_n (q := 3) hC dX12_lay_2 rfl rfl rfl ?_
  refine v_getI (q := 6) hC dX12_lay_3 rfl fX12_129 (hL.1 53 (by decide)) ?_
  rw [hd.1]
  refine v_imul (q := 7) hC dX12_lay_6 rfl ?_
  refine v_istore (q := 9) (L' := [_, _, _, _, _, _]) hC dX12_lay_7 rfl (by decide) rfl rfl ?_
  refine v_aload_n (q := 10) hC dX12_lay_9 rfl rfl rfl ?_
  refine v_getR (q := 13) (r := 60) hC dX12_lay_10 rfl fX12_28 (hL.1 53 (by decide)) (hL.2 53 23 60 rfl) ?_
  refine v_iload (q := 15) hC dX12_lay_13 rfl rfl ?_
  refine v_iload_n (q := 16) hC dX12_lay_15 rfl rfl rfl ?_
  refine v_iastN (q := 17) (j := 6 * m) hC dX12_lay_16 rfl (hL.1 60 (by decide)) (by rw [show (6 : Int32) = nI 6 from rfl, pk_mul]) (by omega) (by decide) ?_
  refine v_aload_n (q := 18) hC dX12_lay_17 rfl rfl rfl ?_
  refine v_getR (q := 21) (r := 60) hC dX12_lay_18 rfl fX12_28 (hL.1 53 (by decide)) (hL.2 53 23 60 rfl) ?_
  refine v_iload (q := 23) hC dX12_lay_21 rfl rfl ?_
  refine v_iconst (q := 24) (v := 1) hC dX12_lay_23 rfl (by decide) ?_
  refine v_iadd (q := 25) hC dX12_lay_24 rfl ?_
  refine v_iload_n (q := 26) hC dX12_lay_25 rfl rfl rfl ?_
  refine v_iastN (q := 27) (j := 6 * m + 1) hC dX12_lay_26 rfl (hL.1 60 (by decide)) (z6' m 1) (by omega) (by decide) ?_
  refine v_aload_n (q := 28) hC dX12_lay_27 rfl rfl rfl ?_
  refine v_getR (q := 31) (r := 60) hC dX12_lay_28 rfl fX12_28 (hL.1 53 (by decide)) (hL.2 53 23 60 rfl) ?_
  refine v_iload (q := 33) hC dX12_lay_31 rfl rfl ?_
  refine v_iconst (q := 34) (v := 2) hC dX12_lay_33 rfl (by decide) ?_
  refine v_iadd (q := 35) hC dX12_lay_34 rfl ?_
  refine v_iload_n (q := 36) hC dX12_lay_35 rfl rfl rfl ?_
  refine v_iastN (q := 37) (j := 6 * m + 2) hC dX12_lay_36 rfl (hL.1 60 (by decide)) (z6' m 2) (by omega) (by decide) ?_
  refine v_aload_n (q := 38) hC dX12_lay_37 rfl rfl rfl ?_
  refine v_getR (q := 41) (r := 60) hC dX12_lay_38 rfl fX12_28 (hL.1 53 (by decide)) (hL.2 53 23 60 rfl) ?_
  refine v_iload (q := 43) hC dX12_lay_41 rfl rfl ?_
  refine v_iconst (q := 44) (v := 3) hC dX12_lay_43 rfl (by decide) ?_
  refine v_iadd (q := 45) hC dX12_lay_44 rfl ?_
  refine v_aload_n (q := 46) hC dX12_lay_45 rfl rfl rfl ?_
  refine v_getI (q := 49) hC dX12_lay_46 rfl fX12_123 (hL.1 53 (by decide)) ?_
  repeat rw [zI_ne (by omega)]
  rw [hd.2.2.1]
  refine v_iastN (q := 50) (j := 6 * m + 3) hC dX12_lay_49 rfl (hL.1 60 (by decide)) (z6' m 3) (by omega) (by decide) ?_
  refine v_aload_n (q := 51) hC dX12_lay_50 rfl rfl rfl ?_
  refine v_getR (q := 54) (r := 60) hC dX12_lay_51 rfl fX12_28 (hL.1 53 (by decide)) (hL.2 53 23 60 rfl) ?_
  refine v_iload (q := 56) hC dX12_lay_54 rfl rfl ?_
  refine v_iconst (q := 57) (v := 4) hC dX12_lay_56 rfl (by decide) ?_
  refine v_iadd (q := 58) hC dX12_lay_57 rfl ?_
  refine v_iload (q := 60) hC dX12_lay_58 rfl rfl ?_
  refine v_iastN (q := 61) (j := 6 * m + 4) hC dX12_lay_60 rfl (hL.1 60 (by decide)) (z6' m 4) (by omega) (by decide) ?_
  refine v_aload_n (q := 62) hC dX12_lay_61 rfl rfl rfl ?_
  refine v_getR (q := 65) (r := 60) hC dX12_lay_62 rfl fX12_28 (hL.1 53 (by decide)) (hL.2 53 23 60 rfl) ?_
  refine v_iload (q := 67) hC dX12_lay_65 rfl rfl ?_
  refine v_iconst (q := 68) (v := 5) hC dX12_lay_67 rfl (by decide) ?_
  refine v_iadd (q := 69) hC dX12_lay_68 rfl ?_
  refine v_iconst (q := 70) (v := -1) hC dX12_lay_69 rfl (by decide) ?_
  refine v_iastN (q := 71) (j := 6 * m + 5) hC dX12_lay_70 rfl (hL.1 60 (by decide)) (z6' m 5) (by omega) (by decide) ?_
  refine v_iload (q := 73) hC dX12_lay_71 rfl rfl ?_
  refine v_iconst (q := 74) (v := -1) hC dX12_lay_73 rfl (by decide) ?_
  refine v_icmp_eq (q := 77) (tgt := 93) hC dX12_lay_74 rfl (by decide) (fun h74 => ?_) (fun h74 => ?_)
  · have e := c1.mp h74
    subst e
    refine v_aload_n (q := 94) hC dX12_lay_93 rfl rfl rfl ?_
    refine v_dup (q := 95) hC dX12_lay_94 rfl rfl ?_
    refine v_getI (q := 98) hC dX12_lay_95 rfl fX12_129 (hL.1 53 (by decide)) ?_
    repeat rw [zI_ne (by omega)]
    rw [hd.1]
    refine v_iconst (q := 99) (v := 1) hC dX12_lay_98 rfl (by decide) ?_
    refine v_iadd (q := 100) hC dX12_lay_99 rfl ?_
    refine v_putI (q := 103) hC dX12_lay_100 rfl fX12_129 (hL.1 53 (by decide)) ?_
    refine v_return hC hB dX12_lay_103 ⟨Nat.le_refl _, Nat.le_refl _⟩ ?_
    rw [nI_1]
    refine ⟨rfl, ?_⟩
    exact zlay hd hm12 ho rfl
  · obtain ⟨g, rfl⟩ : ∃ g, old = some g := by cases old with | none => exact absurd rfl h74 | some g => exact ⟨g, rfl⟩
    have hg := ho g rfl
    refine v_aload_n (q := 78) hC dX12_lay_77 rfl rfl rfl ?_
    refine v_getR (q := 81) (r := 60) hC dX12_lay_78 rfl fX12_28 (hL.1 53 (by decide)) (hL.2 53 23 60 rfl) ?_
    refine v_bipush (q := 83) (v := 6) hC dX12_lay_81 rfl (by decide) ?_
    refine v_iload (q := 85) hC dX12_lay_83 rfl rfl ?_
    refine v_imul (q := 86) hC dX12_lay_85 rfl ?_
    refine v_iconst (q := 87) (v := 5) hC dX12_lay_86 rfl (by decide) ?_
    refine v_iadd (q := 88) hC dX12_lay_87 rfl ?_
    refine v_aload_n (q := 89) hC dX12_lay_88 rfl rfl rfl ?_
    refine v_getI (q := 92) hC dX12_lay_89 rfl fX12_129 (hL.1 53 (by decide)) ?_
    repeat rw [zI_ne (by omega)]
    rw [hd.1]
    refine v_iastN (q := 93) (j := 6 * g + 5) hC dX12_lay_92 rfl (hL.1 60 (by decide)) (z6' g 5) (by omega) (by decide) ?_
    refine v_aload_n (q := 94) hC dX12_lay_93 rfl rfl rfl ?_
    refine v_dup (q := 95) hC dX12_lay_94 rfl rfl ?_
    refine v_getI (q := 98) hC dX12_lay_95 rfl fX12_129 (hL.1 53 (by decide)) ?_
    repeat rw [zI_ne (by omega)]
    rw [hd.1]
    refine v_iconst (q := 99) (v := 1) hC dX12_lay_98 rfl (by decide) ?_
    refine v_iadd (q := 100) hC dX12_lay_99 rfl ?_
    refine v_putI (q := 103) hC dX12_lay_100 rfl fX12_129 (hL.1 53 (by decide)) ?_
    refine v_return hC hB dX12_lay_103 ⟨Nat.le_refl _, Nat.le_refl _⟩ ?_
    rw [nI_1]
    refine ⟨rfl, ?_⟩
    exact zlay hd hm12 ho rfl

set_option maxRecDepth 100000 in
set_option maxHeartbeats 4000000 in
theorem md_favour (d : Nat) {σ : zSt} {S : pS} {B : Nat} (h : zMd σ S) (ok : pOk B S) (a : Int32) (b : Int32) (v : Int32) (r : Int32) : zCt (d + 4) MX12_favour [.ref 53, .int a, .int b, .int v, .int r] σ (zQs zMd zFm σ (sFavour S a b v r)) := by
  refine zCt.of (L := [some (.ref 53), some (.int a), some (.int b), some (.int v), some (.int r)]) (by decide) (Nat.le_of_ble_eq_true rfl) rfl (fun X hC hB => ?_)
  have hC : zC X RX12 cX12_favour 5 (d + 4) 0 0 := hC
  have hB : zB X (some .int) 0 0 "favour" σ _ := hB
  show zV X 5 0 [some (.ref 53), some (.int a), some (.int b), some (.int v), some (.int r)] [] 0 0 σ
  have h0 := h
  obtain ⟨hL, hp, hF, hd, hs, hk, hy, he⟩ := h
  obtain ⟨oB, oq, ow, oqt, ot, okm, omm, oq0, oL, oD, okr, okp, oK, osym, okp6, okd⟩ := ok
  have hn6 := hF.2.1
  have hm12 := hd.2.1
  have hsy : ∀ a b, a < 6 → b < 6 → qKin S a b = qKin S b a := fun a b ha hb => (osym a b ha hb).1
  have c12 : nI (qM S) = 12 ↔ qM S = 12 := nI_eq (a := qM S) (b := 12) (by omega) (by omega)
  refine v_aload_n (q := 1) hC dX12_favour_0 rfl rfl rfl ?_
  refine v_iload_n (q := 2) hC dX12_favour_1 rfl rfl rfl ?_
  refine v_iload_n (q := 3) hC dX12_favour_2 rfl rfl rfl ?_
  refine v_iload (q := 5) hC dX12_favour_3 rfl rfl ?_
  refine v_callV1 (q := 8) (As := [_, _, _]) hC dX12_favour_5 rfl lX12_196 mX12_areNamed iX12_areNamed eX12_areNamed rfl (hL.1 53 (by decide)) (ct_X12_areNamed d hL hF hd a b r) rfl rfl (by omega) rfl (Nat.le_of_ble_eq_true rfl) ?_
  refine v_if_ne (q := 11) (tgt := 14) hC dX12_favour_8 rfl (by decide) (fun h8 => ?_) (fun h8 => ?_)
  · have hz := zb_ne h8
    have hz2 := hz
    rw [Bool.and_eq_true, Bool.and_eq_true, Bool.and_eq_true] at hz2
    obtain ⟨a, ha, rfl⟩ := zval_of (by omega) hz2.1.1.1
    obtain ⟨b, hb, rfl⟩ := zval_of (by omega) hz2.1.1.2
    have hr : r = -1 ∨ zval (qM S) r = true := by rcases Bool.or_eq_true _ _ ▸ hz2.2 with z | z; exact Or.inl (of_decide_eq_true z); exact Or.inr z
    have hro : r = zo (pOld r) := by unfold pOld; exact if h9 : r = -1 then (by rw [if_pos h9, h9]; rfl) else (by rw [if_neg h9]; obtain ⟨g, hg, rfl⟩ := zval_of (by omega) (hr.resolve_left h9); rw [dN_nI (by omega)]; rfl)
    have hold : ∀ g, pOld r = some g → g < qM S := by intro g hg; unfold pOld at hg; exact if e : r = -1 then (by rw [if_pos e] at hg; cases hg) else (by rw [if_neg e] at hg; cases hg; obtain ⟨g, hg, rfl⟩ := zval_of (by omega) (hr.resolve_left e); rw [dN_nI (by omega)]; exact hg)
    refine v_iload_n (q := 15) hC dX12_favour_14 rfl rfl rfl ?_
    refine v_i2l (q := 16) hC dX12_favour_15 rfl ?_
    refine v_lconst (q := 17) (v := 1) hC dX12_favour_16 rfl (by decide) ?_
    refine v_ldc2 (q := 20) hC dX12_favour_17 rfl kX12_199 ?_
    refine v_callS1 (q := 23) (As := [_, _, _]) hC dX12_favour_20 rfl lX12_70 mX12_in sX12_in (ct_X12_inI (d + 3) v 1 99) rfl rfl (by omega) rfl (Nat.le_of_ble_eq_true rfl) ?_
    refine v_if_ne (q := 26) (tgt := 29) hC dX12_favour_23 rfl (by decide) (fun h23 => ?_) (fun h23 => ?_)
    · refine v_aload_n (q := 30) hC dX12_favour_29 rfl rfl rfl ?_
      refine v_iload_n (q := 31) hC dX12_favour_30 rfl rfl rfl ?_
      refine v_iload_n (q := 32) hC dX12_favour_31 rfl rfl rfl ?_
      refine v_iload_n (q := 33) hC dX12_favour_32 rfl rfl rfl ?_
      refine v_iload (q := 35) hC dX12_favour_33 rfl rfl ?_
      refine v_callV1 (q := 38) (As := [_, _, _, _]) hC dX12_favour_35 rfl lX12_201 mX12_mayDo iX12_mayDo eX12_mayDo rfl (hL.1 53 (by decide)) (by rw [hro]; exact ct_X12_mayDo d hL hF hd oL hs hsy ha hb v hold) rfl rfl (by omega) rfl (Nat.le_of_ble_eq_true rfl) ?_
      refine v_if_ne (q := 41) (tgt := 44) hC dX12_favour_38 rfl (by decide) (fun h38 => ?_) (fun h38 => ?_)
      · refine v_aload_n (q := 45) hC dX12_favour_44 rfl rfl rfl ?_
        refine v_getI (q := 48) hC dX12_favour_45 rfl fX12_129 (hL.1 53 (by decide)) ?_
        rw [hd.1]
        refine v_bipush (q := 50) (v := 12) hC dX12_favour_48 rfl (by decide) ?_
        refine v_icmp_ne (q := 53) (tgt := 56) hC dX12_favour_50 rfl (by decide) (fun h50 => ?_) (fun h50 => ?_)
        · have hne : ¬ qM S = 12 := fun z => h50 (c12.mpr z)
          have hm11 : qM S < 12 := by omega
          refine v_aload_n (q := 57) hC dX12_favour_56 rfl rfl rfl ?_
          refine v_iload_n (q := 58) hC dX12_favour_57 rfl rfl rfl ?_
          refine v_iload_n (q := 59) hC dX12_favour_58 rfl rfl rfl ?_
          refine v_iload_n (q := 60) hC dX12_favour_59 rfl rfl rfl ?_
          refine v_iload (q := 62) hC dX12_favour_60 rfl rfl ?_
          refine v_callVQ (q := 65) (As := [_, _, _, _]) hC dX12_favour_62 rfl lX12_205 mX12_lay iX12_lay eX12_lay rfl (hL.1 53 (by decide)) (by rw [hro]; exact ct_X12_lay (d + 3) hL hd hm11 (nI a) (nI b) v hold) rfl rfl (by omega) (by decide) (Nat.le_of_ble_eq_true rfl) ?_
          rintro _ σ1 ⟨rfl, hS, hd1⟩
          have hL := hS.lay hL
          refine v_aload_n (q := 66) hC dX12_favour_65 rfl rfl rfl ?_
          refine v_getI (q := 69) hC dX12_favour_66 rfl fX12_129 (hL.1 53 (by decide)) ?_
          refine v_iconst (q := 70) (v := 1) hC dX12_favour_69 rfl (by decide) ?_
          refine v_isub (q := 71) hC dX12_favour_70 rfl ?_
          refine v_ireturn hC hB dX12_favour_71 ⟨Nat.le_refl _, Nat.le_refl _⟩ ?_
          have em : pMay S (nI a) (nI b) v r = zb (pLf (qKd S) (qKin S) (qMet S) (qT S) (qF S) (qW S) a b v (pOld r)) := by unfold pMay pTwo; rw [if_pos hz, if_neg (of_decide_eq_true (zb_ne h23)), dN_nI (by omega), dN_nI (by omega)]
          rw [zb_ne h38] at em
          rw [hd1.1, nI_pred]
          exact zQs.mk (S' := (S.1, S.2.1, S.2.2.1, (qM S + 1, pAdd (qM S) (qF S) (nI a) (nI b) v (nI (qW S)) (pOld r), qW S), S.2.2.2.2)) (by unfold sFavour; rw [em, if_neg (by decide), if_neg (by decide), if_neg hne]) ⟨hL, hp.sm hS rfl rfl, hF.sm hS rfl rfl, hd1, hs.sm hS rfl, hk.sm hS rfl, hy.sm hS rfl rfl, he.sm hS rfl rfl⟩ (hS.fm rfl)
        · refine v_bipush (q := 55) (v := -104) hC dX12_favour_53 rfl (by decide) ?_
          refine v_ireturn hC hB dX12_favour_55 ⟨Nat.le_refl _, Nat.le_refl _⟩ ?_
          have em : pMay S (nI a) (nI b) v r = zb (pLf (qKd S) (qKin S) (qMet S) (qT S) (qF S) (qW S) a b v (pOld r)) := by unfold pMay pTwo; rw [if_pos hz, if_neg (of_decide_eq_true (zb_ne h23)), dN_nI (by omega), dN_nI (by omega)]
          rw [zb_ne h38] at em
          exact zQs.mk (by unfold sFavour; rw [em, if_neg (by decide), if_neg (by decide)]; exact if_pos (c12.mp h50)) h0 zFm.rf
      · refine v_bipush (q := 43) (v := -103) hC dX12_favour_41 rfl (by decide) ?_
        refine v_ireturn hC hB dX12_favour_43 ⟨Nat.le_refl _, Nat.le_refl _⟩ ?_
        have em : pMay S (nI a) (nI b) v r = zb (pLf (qKd S) (qKin S) (qMet S) (qT S) (qF S) (qW S) a b v (pOld r)) := by unfold pMay pTwo; rw [if_pos hz, if_neg (of_decide_eq_true (zb_ne h23)), dN_nI (by omega), dN_nI (by omega)]
        rw [zb_eq0.mp h38] at em
        exact zQs.mk (by unfold sFavour; rw [em, if_neg (by decide)]; exact if_pos rfl) h0 zFm.rf
    · refine v_bipush (q := 28) (v := -102) hC dX12_favour_26 rfl (by decide) ?_
      refine v_ireturn hC hB dX12_favour_28 ⟨Nat.le_refl _, Nat.le_refl _⟩ ?_
      have em : pMay S (nI a) (nI b) v r = -102 := by unfold pMay pTwo; rw [if_pos hz]; exact if_pos (Decidable.not_not.mp (of_decide_eq_false (zb_eq0.mp h23)))
      exact zQs.mk (by unfold sFavour; rw [em]; exact if_pos (by decide)) h0 zFm.rf
  · refine v_bipush (q := 13) (v := -101) hC dX12_favour_11 rfl (by decide) ?_
    refine v_ireturn hC hB dX12_favour_13 ⟨Nat.le_refl _, Nat.le_refl _⟩ ?_
    have em : pMay S a b v r = -101 := if_neg (by unfold pTwo; rw [zb_eq0.mp h8]; decide)
    exact zQs.mk (by unfold sFavour; rw [em]; exact if_pos (by decide)) h0 zFm.rf

