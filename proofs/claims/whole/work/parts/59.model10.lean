/-! ===== the model: its reader ===== -/
/-- v is a digit less 48 -/
def zDv (v : Int32) (o : Option Nat) : Prop := (o = none ∧ zval 6 v = false) ∨ ∃ k, o = some k ∧ k < 6 ∧ v = nI k
theorem zDv_of (c : Int32) : zDv (c - 48) (pDg c) := by
  cases e : pDg c with
  | some k => exact Or.inr ⟨k, rfl, (pDg_some e).1, (pDg_some e).2.2⟩
  | none =>
    refine Or.inl ⟨rfl, ?_⟩
    cases e2 : zval 6 (c - 48) with
    | false => rfl
    | true =>
      obtain ⟨k, hk, e3⟩ := zval_of (by omega) e2
      have e4 : c = nI (k + 48) := by
        rw [← nI_add, ← e3]
        exact (Int32.sub_add_cancel c 48).symm
      have e5 : c.toInt = ((k + 48 : Nat) : Int) := by rw [e4, nI_toInt (by omega)]
      have e6 := pDg_iff (c := c)
      rw [e, e5] at e6
      simp at e6
      omega
theorem zinD (v : Int32) : decide (¬ (v < 0 ∨ 5 < v)) = zval 6 v := zinN v (n := 6) (by omega)
theorem zTmv (c : Int32) : (¬ (c - 48 < 1 ∨ 9 < c - 48)) ↔ (49 ≤ c.toInt ∧ c.toInt ≤ 57) := by
  constructor
  · intro h
    obtain ⟨k, h1, h2, e3⟩ := zbw (x := c - 48) 1 9 (by omega) (by omega) (fun z => h (Or.inl z)) (fun z => h (Or.inr z))
    have e4 : c = nI (k + 48) := by
      rw [← nI_add, ← e3]
      exact (Int32.sub_add_cancel c 48).symm
    rw [e4, nI_toInt (by omega)]
    omega
  · intro h
    have e1 : c = nI ((c.toInt - 48).toNat + 48) := by
      apply Int32.toInt_inj.mp
      rw [nI_toInt (by omega)]
      omega
    have e2 : c - 48 = nI (c.toInt - 48).toNat := by
      have := pk_sub (a := (c.toInt - 48).toNat + 48) (b := 48) (by omega)
      rw [← e1] at this
      rw [show (48 : Int32) = nI 48 from rfl, this]
      congr 1
    rw [e2, show (1 : Int32) = nI 1 from rfl, show (9 : Int32) = nI 9 from rfl, nI_ltI (by omega) (by omega), nI_ltI (by omega) (by omega)]
    omega
theorem zTme {c : Int32} (h : 49 ≤ c.toInt ∧ c.toInt ≤ 57) : c - 48 = nI (c.toInt - 48).toNat := by
  have e1 : c = nI ((c.toInt - 48).toNat + 48) := by
    apply Int32.toInt_inj.mp
    rw [nI_toInt (by omega)]
    omega
  have := pk_sub (a := (c.toInt - 48).toNat + 48) (b := 48) (by omega)
  rw [← e1] at this
  rw [show (48 : Int32) = nI 48 from rfl, this]
  congr 1

set_option maxRecDepth 100000 in
set_option maxHeartbeats 4000000 in
theorem ct_X12_isNew (d : Nat) {σ : zSt} {e : Nat} (hs : σ.1[e]? = some (1, 6)) {a : Nat} (ha : a < 6) {K : Nat → Bool} (hK : zMb (zI σ e a) K) (v : Int32) : zEv (d + 1) MX12_isNew [.ref e, .int (nI a), .int v] σ (some (.int (zb (zval 6 v && !decide (nI a = v) && !K (dN v))))) σ := by
  refine zCt.of (L := [some (.ref e), some (.int (nI a)), some (.int v)]) (by decide) (Nat.le_of_ble_eq_true rfl) rfl (fun X hC hB => ?_)
  have hC : zC X RX12 cX12_isNew 3 (d + 1) 0 0 := hC
  have hB : zB X (some .boolean) 0 0 "isNew" σ _ := hB
  show zV X 3 0 [some (.ref e), some (.int (nI a)), some (.int v)] [] 0 0 σ
  refine v_iload_n (q := 1) hC dX12_isNew_0 rfl rfl rfl ?_
  refine v_i2l (q := 2) hC dX12_isNew_1 rfl ?_
  refine v_lconst (q := 3) (v := 0) hC dX12_isNew_2 rfl (by decide) ?_
  refine v_ldc2 (q := 6) hC dX12_isNew_3 rfl kX12_77 ?_
  refine v_callS1 (q := 9) (As := [_, _, _]) hC dX12_isNew_6 rfl lX12_70 mX12_in sX12_in (ct_X12_inI d v 0 5) rfl rfl (by omega) rfl (Nat.le_of_ble_eq_true rfl) ?_
  rw [zinD v]
  refine v_if_eq (q := 12) (tgt := 31) hC dX12_isNew_9 rfl (by decide) (fun h9 => ?_) (fun h9 => ?_)
  · refine v_iconst (q := 32) (v := 0) hC dX12_isNew_31 rfl (by decide) ?_
    refine v_zreturn hC hB dX12_isNew_32 ⟨Nat.le_refl _, Nat.le_refl _⟩ (by first | exact Or.inl rfl | exact Or.inr rfl | exact zb_01 _) ?_
    first
      | exact ⟨zbf (by rw [zb_eq0.mp h9]; rfl), rfl⟩
      | exact ⟨zbf (by rw [decide_eq_true h14]; simp), rfl⟩
      | exact ⟨zbf (by rw [edn, zb_ne h24]; simp), rfl⟩
      | exact ⟨zbt (by rw [edn, hz, zb_eq0.mp h24]; simp [h14]), rfl⟩
  · have hz := zb_ne h9
    obtain ⟨k, hk, rfl⟩ := zval_of (by omega) hz
    have edn := dN_nI (show k < 2 ^ 31 by omega)
    refine v_iload_n (q := 13) hC dX12_isNew_12 rfl rfl rfl ?_
    refine v_iload_n (q := 14) hC dX12_isNew_13 rfl rfl rfl ?_
    refine v_icmp_eq (q := 17) (tgt := 31) hC dX12_isNew_14 rfl (by decide) (fun h14 => ?_) (fun h14 => ?_)
    · refine v_iconst (q := 32) (v := 0) hC dX12_isNew_31 rfl (by decide) ?_
      refine v_zreturn hC hB dX12_isNew_32 ⟨Nat.le_refl _, Nat.le_refl _⟩ (by first | exact Or.inl rfl | exact Or.inr rfl | exact zb_01 _) ?_
      first
        | exact ⟨zbf (by rw [zb_eq0.mp h9]; rfl), rfl⟩
        | exact ⟨zbf (by rw [decide_eq_true h14]; simp), rfl⟩
        | exact ⟨zbf (by rw [edn, zb_ne h24]; simp), rfl⟩
        | exact ⟨zbt (by rw [edn, hz, zb_eq0.mp h24]; simp [h14]), rfl⟩
    · refine v_aload_n (q := 18) hC dX12_isNew_17 rfl rfl rfl ?_
      refine v_iload_n (q := 19) hC dX12_isNew_18 rfl rfl rfl ?_
      refine v_ialdN (q := 20) (j := a) hC dX12_isNew_19 rfl hs rfl ha (by decide) ?_
      refine v_iload_n (q := 21) hC dX12_isNew_20 rfl rfl rfl ?_
      refine v_ishr (q := 22) hC dX12_isNew_21 rfl ?_
      refine v_iconst (q := 23) (v := 1) hC dX12_isNew_22 rfl (by decide) ?_
      refine v_iand (q := 24) hC dX12_isNew_23 rfl ?_
      rw [hK.sh hk]
      refine v_if_ne (q := 27) (tgt := 31) hC dX12_isNew_24 rfl (by decide) (fun h24 => ?_) (fun h24 => ?_)
      · refine v_iconst (q := 32) (v := 0) hC dX12_isNew_31 rfl (by decide) ?_
        refine v_zreturn hC hB dX12_isNew_32 ⟨Nat.le_refl _, Nat.le_refl _⟩ (by first | exact Or.inl rfl | exact Or.inr rfl | exact zb_01 _) ?_
        first
          | exact ⟨zbf (by rw [zb_eq0.mp h9]; rfl), rfl⟩
          | exact ⟨zbf (by rw [decide_eq_true h14]; simp), rfl⟩
          | exact ⟨zbf (by rw [edn, zb_ne h24]; simp), rfl⟩
          | exact ⟨zbt (by rw [edn, hz, zb_eq0.mp h24]; simp [h14]), rfl⟩
      · refine v_iconst (q := 28) (v := 1) hC dX12_isNew_27 rfl (by decide) ?_
        refine v_goto (q := 32) hC dX12_isNew_28 (by decide) ?_
        refine v_zreturn hC hB dX12_isNew_32 ⟨Nat.le_refl _, Nat.le_refl _⟩ (by first | exact Or.inl rfl | exact Or.inr rfl | exact zb_01 _) ?_
        first
          | exact ⟨zbf (by rw [zb_eq0.mp h9]; rfl), rfl⟩
          | exact ⟨zbf (by rw [decide_eq_true h14]; simp), rfl⟩
          | exact ⟨zbf (by rw [edn, zb_ne h24]; simp), rfl⟩
          | exact ⟨zbt (by rw [edn, hz, zb_eq0.mp h24]; simp [h14]), rfl⟩

/-- what a second digit does -/
def zGn (cell sl : Nat) (σ : zSt) (fd : Nat) (K : Nat → Nat → Bool) (km : Nat) (x : Option Nat) (r : Bool) (σ' : zSt) : Prop := match x with
  | none => r = false ∧ σ' = σ
  | some k => if k = fd ∨ K fd k = true then r = false ∧ σ' = σ else r = true ∧ zSm [cell] [sl] σ σ' ∧ (∀ a, a < 6 → zMb (zI σ' cell a) (pAd K fd k a)) ∧ zI σ' 53 sl = nI (km + 1)

set_option maxRecDepth 100000 in
set_option maxHeartbeats 4000000 in
theorem ct_X12_goKin (d : Nat) {σ : zSt} (hL : zLay σ) {fd : Nat} (hfd : fd < 6) (h7 : zI σ 53 7 = nI fd) {K : Nat → Nat → Bool} (hK : ∀ a, a < 6 → zMb (zI σ 55 a) (K a)) {km : Nat} (hkm : zI σ 53 4 = nI km) {v : Int32} {x : Option Nat} (hv : zDv v x) : zCt (d + 2) MX12_goKin [.ref 53, .int v] σ (zQb (zGn 55 4 σ fd K km x)) := by
  refine zCt.of (L := [some (.ref 53), some (.int v), none]) (by decide) (Nat.le_of_ble_eq_true rfl) rfl (fun X hC hB => ?_)
  have hC : zC X RX12 cX12_goKin 3 (d + 2) 0 0 := hC
  have hB : zB X (some .boolean) 0 0 "goKin" σ _ := hB
  show zV X 3 0 [some (.ref 53), some (.int v), none] [] 0 0 σ
  refine v_aload_n (q := 1) hC dX12_goKin_0 rfl rfl rfl ?_
  refine v_getR (q := 4) (r := 55) hC dX12_goKin_1 rfl fX12_13 (hL.1 53 (by decide)) (hL.2 53 2 55 rfl) ?_
  refine v_aload_n (q := 5) hC dX12_goKin_4 rfl rfl rfl ?_
  refine v_getI (q := 8) hC dX12_goKin_5 rfl fX12_79 (hL.1 53 (by decide)) ?_
  rw [h7]
  refine v_iload_n (q := 9) hC dX12_goKin_8 rfl rfl rfl ?_
  refine v_callS1 (q := 12) (As := [_, _, _]) hC dX12_goKin_9 rfl lX12_82 mX12_isNew sX12_isNew (ct_X12_isNew d (hL.1 55 (by decide)) hfd (hK fd hfd) v) rfl rfl (by omega) rfl (Nat.le_of_ble_eq_true rfl) ?_
  refine v_istore_n (q := 13) (L' := [_, _, _]) hC dX12_goKin_12 rfl rfl (by decide) rfl rfl ?_
  refine v_iload_n (q := 14) hC dX12_goKin_13 rfl rfl rfl ?_
  refine v_if_eq (q := 17) (tgt := 57) hC dX12_goKin_14 rfl (by decide) (fun h14 => ?_) (fun h14 => ?_)
  · have hz := zb_eq0.mp h14
    refine v_iload_n (q := 58) hC dX12_goKin_57 rfl rfl rfl ?_
    refine v_zreturn hC hB dX12_goKin_58 ⟨Nat.le_refl _, Nat.le_refl _⟩ (by first | exact Or.inl rfl | exact Or.inr rfl | exact zb_01 _) ?_
    first
      | (refine ⟨false, by rw [hz], ?_⟩
         rcases hv with ⟨rfl, z⟩ | ⟨k, rfl, hk, rfl⟩
         · exact ⟨rfl, rfl⟩
         · show (if _ then _ else _)
           rw [if_pos ?_]
           · exact ⟨rfl, rfl⟩
           · rw [zval_nI (by omega), dN_nI (by omega)] at hz
             by_cases e1 : k = fd
             · exact Or.inl e1
             · refine Or.inr ?_
               have e2 : ¬ nI fd = nI k := fun z => e1 ((nI_eq (by omega) (by omega)).mp z).symm
               simpa [hk, e2] using hz)
      | (refine ⟨true, by rw [hz], ?_⟩
         show (if _ then _ else _)
         rw [if_neg hz3]
         refine ⟨rfl, ((zSm.rf.c (by simp) (by decide)).c (by simp) (by decide)).o (by simp), fun a ha => ?_, ?_⟩
         · rw [zI_ne (by omega), zI_sI]
           by_cases e1 : a = k
           · subst e1
             rw [if_pos ⟨rfl, rfl⟩, zI_ne (by omega)]
             refine ((hK a ha).or hfd).congr (fun b hb => ?_)
             unfold pAd
             simp [show ¬ a = fd by omega]
           · rw [if_neg (fun z => e1 z.2), zI_sI]
             by_cases e2 : a = fd
             · subst e2
               rw [if_pos ⟨rfl, rfl⟩]
               refine ((hK a ha).or hk).congr (fun b hb => ?_)
               unfold pAd
               simp [e1]
             · rw [if_neg (fun z => e2 z.2)]
               refine (hK a ha).congr (fun b hb => ?_)
               unfold pAd
               simp [e1, e2]
         · rw [zI_eq, zI_ne (by omega), zI_ne (by omega), hkm, nI_1])
  · have hz := zb_ne h14
    rcases hv with ⟨-, z⟩ | ⟨k, rfl, hk, rfl⟩
    · rw [z] at hz; simp at hz
    have hz2 : (!decide (fd = k) && !K fd k) = true := by
      rw [zval_nI (by omega), dN_nI (by omega)] at hz
      simpa [hk, nI_eq (show fd < 2 ^ 31 by omega) (show k < 2 ^ 31 by omega)] using hz
    have hz3 : ¬ (k = fd ∨ K fd k = true) := by intro z; rcases z with rfl | z; simp at hz2; rw [z] at hz2; simp at hz2
    have hne : ¬ fd = k := fun z => hz3 (Or.inl z.symm)
    refine v_aload_n (q := 18) hC dX12_goKin_17 rfl rfl rfl ?_
    refine v_getR (q := 21) (r := 55) hC dX12_goKin_18 rfl fX12_13 (hL.1 53 (by decide)) (hL.2 53 2 55 rfl) ?_
    refine v_aload_n (q := 22) hC dX12_goKin_21 rfl rfl rfl ?_
    refine v_getI (q := 25) hC dX12_goKin_22 rfl fX12_79 (hL.1 53 (by decide)) ?_
    rw [h7]
    refine v_dup2 (q := 26) hC dX12_goKin_25 rfl rfl rfl ?_
    refine v_ialdN (q := 27) (j := fd) hC dX12_goKin_26 rfl (hL.1 55 (by decide)) rfl hfd (by decide) ?_
    refine v_iconst (q := 28) (v := 1) hC dX12_goKin_27 rfl (by decide) ?_
    refine v_iload_n (q := 29) hC dX12_goKin_28 rfl rfl rfl ?_
    refine v_ishl (q := 30) hC dX12_goKin_29 rfl ?_
    refine v_ior (q := 31) hC dX12_goKin_30 rfl ?_
    refine v_iastN (q := 32) (j := fd) hC dX12_goKin_31 rfl (hL.1 55 (by decide)) rfl hfd (by decide) ?_
    refine v_aload_n (q := 33) hC dX12_goKin_32 rfl rfl rfl ?_
    refine v_getR (q := 36) (r := 55) hC dX12_goKin_33 rfl fX12_13 (hL.1 53 (by decide)) (hL.2 53 2 55 rfl) ?_
    refine v_iload_n (q := 37) hC dX12_goKin_36 rfl rfl rfl ?_
    refine v_dup2 (q := 38) hC dX12_goKin_37 rfl rfl rfl ?_
    refine v_ialdN (q := 39) (j := k) hC dX12_goKin_38 rfl (hL.1 55 (by decide)) rfl hk (by decide) ?_
    refine v_iconst (q := 40) (v := 1) hC dX12_goKin_39 rfl (by decide) ?_
    refine v_aload_n (q := 41) hC dX12_goKin_40 rfl rfl rfl ?_
    refine v_getI (q := 44) hC dX12_goKin_41 rfl fX12_79 (hL.1 53 (by decide)) ?_
    rw [zI_ne (by omega), h7]
    refine v_ishl (q := 45) hC dX12_goKin_44 rfl ?_
    refine v_ior (q := 46) hC dX12_goKin_45 rfl ?_
    refine v_iastN (q := 47) (j := k) hC dX12_goKin_46 rfl (hL.1 55 (by decide)) rfl hk (by decide) ?_
    refine v_aload_n (q := 48) hC dX12_goKin_47 rfl rfl rfl ?_
    refine v_dup (q := 49) hC dX12_goKin_48 rfl rfl ?_
    refine v_getI (q := 52) hC dX12_goKin_49 rfl fX12_86 (hL.1 53 (by decide)) ?_
    refine v_iconst (q := 53) (v := 1) hC dX12_goKin_52 rfl (by decide) ?_
    refine v_iadd (q := 54) hC dX12_goKin_53 rfl ?_
    refine v_putI (q := 57) hC dX12_goKin_54 rfl fX12_86 (hL.1 53 (by decide)) ?_
    refine v_iload_n (q := 58) hC dX12_goKin_57 rfl rfl rfl ?_
    refine v_zreturn hC hB dX12_goKin_58 ⟨Nat.le_refl _, Nat.le_refl _⟩ (by first | exact Or.inl rfl | exact Or.inr rfl | exact zb_01 _) ?_
    first
      | (refine ⟨false, by rw [hz], ?_⟩
         rcases hv with ⟨rfl, z⟩ | ⟨k, rfl, hk, rfl⟩
         · exact ⟨rfl, rfl⟩
         · show (if _ then _ else _)
           rw [if_pos ?_]
           · exact ⟨rfl, rfl⟩
           · rw [zval_nI (by omega), dN_nI (by omega)] at hz
             by_cases e1 : k = fd
             · exact Or.inl e1
             · refine Or.inr ?_
               have e2 : ¬ nI fd = nI k := fun z => e1 ((nI_eq (by omega) (by omega)).mp z).symm
               simpa [hk, e2] using hz)
      | (refine ⟨true, by rw [hz], ?_⟩
         show (if _ then _ else _)
         rw [if_neg hz3]
         refine ⟨rfl, ((zSm.rf.c (by simp) (by decide)).c (by simp) (by decide)).o (by simp), fun a ha => ?_, ?_⟩
         · rw [zI_ne (by omega), zI_sI]
           by_cases e1 : a = k
           · subst e1
             rw [if_pos ⟨rfl, rfl⟩, zI_ne (by omega)]
             refine ((hK a ha).or hfd).congr (fun b hb => ?_)
             unfold pAd
             simp [show ¬ a = fd by omega]
           · rw [if_neg (fun z => e1 z.2), zI_sI]
             by_cases e2 : a = fd
             · subst e2
               rw [if_pos ⟨rfl, rfl⟩]
               refine ((hK a ha).or hk).congr (fun b hb => ?_)
               unfold pAd
               simp [e1]
             · rw [if_neg (fun z => e2 z.2)]
               refine (hK a ha).congr (fun b hb => ?_)
               unfold pAd
               simp [e1, e2]
         · rw [zI_eq, zI_ne (by omega), zI_ne (by omega), hkm, nI_1])

set_option maxRecDepth 100000 in
set_option maxHeartbeats 4000000 in
theorem ct_X12_goMet (d : Nat) {σ : zSt} (hL : zLay σ) {fd : Nat} (hfd : fd < 6) (h7 : zI σ 53 7 = nI fd) {K : Nat → Nat → Bool} (hK : ∀ a, a < 6 → zMb (zI σ 56 a) (K a)) {km : Nat} (hkm : zI σ 53 5 = nI km) {v : Int32} {x : Option Nat} (hv : zDv v x) : zCt (d + 2) MX12_goMet [.ref 53, .int v] σ (zQb (zGn 56 5 σ fd K km x)) := by
  refine zCt.of (L := [some (.ref 53), some (.int v), none]) (by decide) (Nat.le_of_ble_eq_true rfl) rfl (fun X hC hB => ?_)
  have hC : zC X RX12 cX12_goMet 3 (d + 2) 0 0 := hC
  have hB : zB X (some .boolean) 0 0 "goMet" σ _ := hB
  show zV X 3 0 [some (.ref 53), some (.int v), none] [] 0 0 σ
  refine v_aload_n (q := 1) hC dX12_goMet_0 rfl rfl rfl ?_
  refine v_getR (q := 4) (r := 56) hC dX12_goMet_1 rfl fX12_16 (hL.1 53 (by decide)) (hL.2 53 3 56 rfl) ?_
  refine v_aload_n (q := 5) hC dX12_goMet_4 rfl rfl rfl ?_
  refine v_getI (q := 8) hC dX12_goMet_5 rfl fX12_79 (hL.1 53 (by decide)) ?_
  rw [h7]
  refine v_iload_n (q := 9) hC dX12_goMet_8 rfl rfl rfl ?_
  refine v_callS1 (q := 12) (As := [_, _, _]) hC dX12_goMet_9 rfl lX12_82 mX12_isNew sX12_isNew (ct_X12_isNew d (hL.1 56 (by decide)) hfd (hK fd hfd) v) rfl rfl (by omega) rfl (Nat.le_of_ble_eq_true rfl) ?_
  refine v_istore_n (q := 13) (L' := [_, _, _]) hC dX12_goMet_12 rfl rfl (by decide) rfl rfl ?_
  refine v_iload_n (q := 14) hC dX12_goMet_13 rfl rfl rfl ?_
  refine v_if_eq (q := 17) (tgt := 57) hC dX12_goMet_14 rfl (by decide) (fun h14 => ?_) (fun h14 => ?_)
  · have hz := zb_eq0.mp h14
    refine v_iload_n (q := 58) hC dX12_goMet_57 rfl rfl rfl ?_
    refine v_zreturn hC hB dX12_goMet_58 ⟨Nat.le_refl _, Nat.le_refl _⟩ (by first | exact Or.inl rfl | exact Or.inr rfl | exact zb_01 _) ?_
    first
      | (refine ⟨false, by rw [hz], ?_⟩
         rcases hv with ⟨rfl, z⟩ | ⟨k, rfl, hk, rfl⟩
         · exact ⟨rfl, rfl⟩
         · show (if _ then _ else _)
           rw [if_pos ?_]
           · exact ⟨rfl, rfl⟩
           · rw [zval_nI (by omega), dN_nI (by omega)] at hz
             by_cases e1 : k = fd
             · exact Or.inl e1
             · refine Or.inr ?_
               have e2 : ¬ nI fd = nI k := fun z => e1 ((nI_eq (by omega) (by omega)).mp z).symm
               simpa [hk, e2] using hz)
      | (refine ⟨true, by rw [hz], ?_⟩
         show (if _ then _ else _)
         rw [if_neg hz3]
         refine ⟨rfl, ((zSm.rf.c (by simp) (by decide)).c (by simp) (by decide)).o (by simp), fun a ha => ?_, ?_⟩
         · rw [zI_ne (by omega), zI_sI]
           by_cases e1 : a = k
           · subst e1
             rw [if_pos ⟨rfl, rfl⟩, zI_ne (by omega)]
             refine ((hK a ha).or hfd).congr (fun b hb => ?_)
             unfold pAd
             simp [show ¬ a = fd by omega]
           · rw [if_neg (fun z => e1 z.2), zI_sI]
             by_cases e2 : a = fd
             · subst e2
               rw [if_pos ⟨rfl, rfl⟩]
               refine ((hK a ha).or hk).congr (fun b hb => ?_)
               unfold pAd
               simp [e1]
             · rw [if_neg (fun z => e2 z.2)]
               refine (hK a ha).congr (fun b hb => ?_)
               unfold pAd
               simp [e1, e2]
         · rw [zI_eq, zI_ne (by omega), zI_ne (by omega), hkm, nI_1])
  · have hz := zb_ne h14
    rcases hv with ⟨-, z⟩ | ⟨k, rfl, hk, rfl⟩
    · rw [z] at hz; simp at hz
    have hz2 : (!decide (fd = k) && !K fd k) = true := by
      rw [zval_nI (by omega), dN_nI (by omega)] at hz
      simpa [hk, nI_eq (show fd < 2 ^ 31 by omega) (show k < 2 ^ 31 by omega)] using hz
    have hz3 : ¬ (k = fd ∨ K fd k = true) := by intro z; rcases z with rfl | z; simp at hz2; rw [z] at hz2; simp at hz2
    have hne : ¬ fd = k := fun z => hz3 (Or.inl z.symm)
    refine v_aload_n (q := 18) hC dX12_goMet_17 rfl rfl rfl ?_
    refine v_getR (q := 21) (r := 56) hC dX12_goMet_18 rfl fX12_16 (hL.1 53 (by decide)) (hL.2 53 3 56 rfl) ?_
    refine v_aload_n (q := 22) hC dX12_goMet_21 rfl rfl rfl ?_
    refine v_getI (q := 25) hC dX12_goMet_22 rfl fX12_79 (hL.1 53 (by decide)) ?_
    rw [h7]
    refine v_dup2 (q := 26) hC dX12_goMet_25 rfl rfl rfl ?_
    refine v_ialdN (q := 27) (j := fd) hC dX12_goMet_26 rfl (hL.1 56 (by decide)) rfl hfd (by decide) ?_
    refine v_iconst (q := 28) (v := 1) hC dX12_goMet_27 rfl (by decide) ?_
    refine v_iload_n (q := 29) hC dX12_goMet_28 rfl rfl rfl ?_
    refine v_ishl (q := 30) hC dX12_goMet_29 rfl ?_
    refine v_ior (q := 31) hC dX12_goMet_30 rfl ?_
    refine v_iastN (q := 32) (j := fd) hC dX12_goMet_31 rfl (hL.1 56 (by decide)) rfl hfd (by decide) ?_
    refine v_aload_n (q := 33) hC dX12_goMet_32 rfl rfl rfl ?_
    refine v_getR (q := 36) (r := 56) hC dX12_goMet_33 rfl fX12_16 (hL.1 53 (by decide)) (hL.2 53 3 56 rfl) ?_
    refine v_iload_n (q := 37) hC dX12_goMet_36 rfl rfl rfl ?_
    refine v_dup2 (q := 38) hC dX12_goMet_37 rfl rfl rfl ?_
    refine v_ialdN (q := 39) (j := k) hC dX12_goMet_38 rfl (hL.1 56 (by decide)) rfl hk (by decide) ?_
    refine v_iconst (q := 40) (v := 1) hC dX12_goMet_39 rfl (by decide) ?_
    refine v_aload_n (q := 41) hC dX12_goMet_40 rfl rfl rfl ?_
    refine v_getI (q := 44) hC dX12_goMet_41 rfl fX12_79 (hL.1 53 (by decide)) ?_
    rw [zI_ne (by omega), h7]
    refine v_ishl (q := 45) hC dX12_goMet_44 rfl ?_
    refine v_ior (q := 46) hC dX12_goMet_45 rfl ?_
    refine v_iastN (q := 47) (j := k) hC dX12_goMet_46 rfl (hL.1 56 (by decide)) rfl hk (by decide) ?_
    refine v_aload_n (q := 48) hC dX12_goMet_47 rfl rfl rfl ?_
    refine v_dup (q := 49) hC dX12_goMet_48 rfl rfl ?_
    refine v_getI (q := 52) hC dX12_goMet_49 rfl fX12_89 (hL.1 53 (by decide)) ?_
    refine v_iconst (q := 53) (v := 1) hC dX12_goMet_52 rfl (by decide) ?_
    refine v_iadd (q := 54) hC dX12_goMet_53 rfl ?_
    refine v_putI (q := 57) hC dX12_goMet_54 rfl fX12_89 (hL.1 53 (by decide)) ?_
    refine v_iload_n (q := 58) hC dX12_goMet_57 rfl rfl rfl ?_
    refine v_zreturn hC hB dX12_goMet_58 ⟨Nat.le_refl _, Nat.le_refl _⟩ (by first | exact Or.inl rfl | exact Or.inr rfl | exact zb_01 _) ?_
    first
      | (refine ⟨false, by rw [hz], ?_⟩
         rcases hv with ⟨rfl, z⟩ | ⟨k, rfl, hk, rfl⟩
         · exact ⟨rfl, rfl⟩
         · show (if _ then _ else _)
           rw [if_pos ?_]
           · exact ⟨rfl, rfl⟩
           · rw [zval_nI (by omega), dN_nI (by omega)] at hz
             by_cases e1 : k = fd
             · exact Or.inl e1
             · refine Or.inr ?_
               have e2 : ¬ nI fd = nI k := fun z => e1 ((nI_eq (by omega) (by omega)).mp z).symm
               simpa [hk, e2] using hz)
      | (refine ⟨true, by rw [hz], ?_⟩
         show (if _ then _ else _)
         rw [if_neg hz3]
         refine ⟨rfl, ((zSm.rf.c (by simp) (by decide)).c (by simp) (by decide)).o (by simp), fun a ha => ?_, ?_⟩
         · rw [zI_ne (by omega), zI_sI]
           by_cases e1 : a = k
           · subst e1
             rw [if_pos ⟨rfl, rfl⟩, zI_ne (by omega)]
             refine ((hK a ha).or hfd).congr (fun b hb => ?_)
             unfold pAd
             simp [show ¬ a = fd by omega]
           · rw [if_neg (fun z => e1 z.2), zI_sI]
             by_cases e2 : a = fd
             · subst e2
               rw [if_pos ⟨rfl, rfl⟩]
               refine ((hK a ha).or hk).congr (fun b hb => ?_)
               unfold pAd
               simp [e1]
             · rw [if_neg (fun z => e2 z.2)]
               refine (hK a ha).congr (fun b hb => ?_)
               unfold pAd
               simp [e1, e2]
         · rw [zI_eq, zI_ne (by omega), zI_ne (by omega), hkm, nI_1])

/-- the model's reader stands at S -/
def zGd (σ : zSt) : pRs → Prop
  | (st, fd, kin, km, met, mm, tm) => zI σ 53 8 = nI st ∧ (st = 2 ∨ st = 5 → zI σ 53 7 = nI fd) ∧ (∀ a, a < 6 → zMb (zI σ 55 a) (kin a)) ∧ (∀ a, a < 6 → zMb (zI σ 56 a) (met a)) ∧ zI σ 53 4 = nI km ∧ zI σ 53 5 = nI mm ∧ (st = 8 → zI σ 53 6 = nI tm) ∧ pRok (st, fd, kin, km, met, mm, tm)
/-- what a letter does to the model's reader -/
def zGk (σ : zSt) (c : Int32) (S : pRs) (b : Bool) (σ' : zSt) : Prop := zSm [55, 56] [4, 5, 6, 7, 8] σ σ' ∧ match pGo c S with
  | none => b = false
  | some S' => b = true ∧ zGd σ' S'
theorem zGk.no {σ σ' : zSt} {c : Int32} {S : pRs} (hS : zSm [55, 56] [4, 5, 6, 7, 8] σ σ') (h : pGo c S = none) : zGk σ c S false σ' := ⟨hS, by rw [h]⟩
theorem zGk.yes {σ σ' : zSt} {c : Int32} {S S' : pRs} (hS : zSm [55, 56] [4, 5, 6, 7, 8] σ σ') (h : pGo c S = some S') (h' : zGd σ' S') : zGk σ c S true σ' := ⟨hS, by rw [h]; exact ⟨rfl, h'⟩⟩

set_option maxRecDepth 100000 in
set_option maxHeartbeats 4000000 in
theorem ct_X12_go_0 (d : Nat) {σ : zSt} (hL : zLay σ) {fd : Nat} {kin : Nat → Nat → Bool} {km : Nat} {met : Nat → Nat → Bool} {mm tm : Nat} (hR : zGd σ (0, fd, kin, km, met, mm, tm)) (c : Int32) : zCt (d + 3) MX12_go [.ref 53, .int c] σ (zQb (zGk σ c (0, fd, kin, km, met, mm, tm))) := by
  refine zCt.of (L := [some (.ref 53), some (.int c), none, none]) (by decide) (Nat.le_of_ble_eq_true rfl) rfl (fun X hC hB => ?_)
  have hC : zC X RX12 cX12_go 4 (d + 3) 0 0 := hC
  have hB : zB X (some .boolean) 0 0 "go" σ _ := hB
  show zV X 4 0 [some (.ref 53), some (.int c), none, none] [] 0 0 σ
  obtain ⟨h8, h7, hK, hM, hkm, hmm, h6, hok⟩ := hR
  have hok0 := hok
  have hmx := hok.2.2.2.2.2.1
  have hmm9 : _ = 9 → mm ≤ 11 := fun z => hmx (Or.inr z)
  simp only [pRok] at hok
  have hv0 := zDv_of c
  have j82 : ∀ b : Bool, (b = true ↔ c = 45) → zV X 4 82 [some (.ref 53), some (.int c), some (.int (c - 48)), none] [.int (zb b)] 0 0 σ := by
    intro b hb
    refine v_istore_n (q := 83) (L' := [_, _, _, _]) hC dX12_go_82 rfl rfl (by decide) rfl rfl ?_
    refine v_aload_n (q := 84) hC dX12_go_83 rfl rfl rfl ?_
    refine v_iload_n (q := 85) hC dX12_go_84 rfl rfl rfl ?_
    refine v_if_eq (q := 88) (tgt := 93) hC dX12_go_85 rfl (by decide) (fun h85 => ?_) (fun h85 => ?_)
    · refine v_iconst (q := 94) (v := 2) hC dX12_go_93 rfl (by decide) ?_
      refine v_putI (q := 97) hC dX12_go_94 rfl fX12_92 (hL.1 53 (by decide)) ?_
      refine v_aload_n (q := 98) hC dX12_go_97 rfl rfl rfl ?_
      refine v_iload_n (q := 99) hC dX12_go_98 rfl rfl rfl ?_
      refine v_putI (q := 102) hC dX12_go_99 rfl fX12_79 (hL.1 53 (by decide)) ?_
      refine v_iload_n (q := 103) hC dX12_go_102 rfl rfl rfl ?_
      refine v_if_ne (q := 106) (tgt := 118) hC dX12_go_103 rfl (by decide) (fun h103 => ?_) (fun h103 => ?_)
      · refine v_iconst (q := 119) (v := 1) hC dX12_go_118 rfl (by decide) ?_
        refine v_goto (q := 123) hC dX12_go_119 (by decide) ?_
        refine v_zreturn hC hB dX12_go_123 ⟨Nat.le_refl _, Nat.le_refl _⟩ (by first | exact Or.inl rfl | exact Or.inr rfl | exact zb_01 _) ?_
        first
          | exact absurd h85 h103
          | exact absurd h103 h85
          | (have hc := hb.mp (zb_ne h85)
             exact ⟨true, rfl, zGk.yes (S' := (9, fd, kin, km, met, mm, tm)) (by first | exact (zSm.rf.o (by simp)).o (by simp) | exact zSm.rf.o (by simp)) (by simp [pGo, hc]) ⟨by rw [zI_ne (by omega), zI_eq]; rfl, fun z => absurd z (by decide), fun a ha => by rw [zI_ne (by omega), zI_ne (by omega)]; exact hK a ha, fun a ha => by rw [zI_ne (by omega), zI_ne (by omega)]; exact hM a ha, by rw [zI_ne (by omega), zI_ne (by omega)]; exact hkm, by rw [zI_ne (by omega), zI_ne (by omega)]; exact hmm, fun z => absurd z (by decide), by simp only [pRok]; omega⟩⟩)
          | (have hc : ¬ (c = 45) := fun z => absurd (hb.mpr z) (by rw [zb_eq0.mp h85]; decide)
             rcases zDv_of c with ⟨e, z⟩ | ⟨k, e, hk, ev⟩
             · first | exact ⟨false, rfl, zGk.no (by first | exact (zSm.rf.o (by simp)).o (by simp) | exact zSm.rf.o (by simp)) (by simp [pGo, e, hc])⟩ | exact absurd z (by rw [zb_ne h115]; decide)
             · first | exact ⟨true, rfl, zGk.yes (S' := (2, k, kin, km, met, mm, tm)) (by first | exact (zSm.rf.o (by simp)).o (by simp) | exact zSm.rf.o (by simp)) (by simp [pGo, e, hc]) ⟨by rw [zI_ne (by omega), zI_eq]; rfl, fun _ => by rw [zI_eq]; exact ev, fun a ha => by rw [zI_ne (by omega), zI_ne (by omega)]; exact hK a ha, fun a ha => by rw [zI_ne (by omega), zI_ne (by omega)]; exact hM a ha, by rw [zI_ne (by omega), zI_ne (by omega)]; exact hkm, by rw [zI_ne (by omega), zI_ne (by omega)]; exact hmm, fun z => absurd z (by decide), by simp only [pRok]; omega⟩⟩ | exact absurd (zb_eq0.mp h115) (by rw [ev, zval_nI (by omega)]; simp [hk]))
      · refine v_iload_n (q := 107) hC dX12_go_106 rfl rfl rfl ?_
        refine v_i2l (q := 108) hC dX12_go_107 rfl ?_
        refine v_lconst (q := 109) (v := 0) hC dX12_go_108 rfl (by decide) ?_
        refine v_ldc2 (q := 112) hC dX12_go_109 rfl kX12_77 ?_
        refine v_callS1 (q := 115) (As := [_, _, _]) hC dX12_go_112 rfl lX12_70 mX12_in sX12_in (ct_X12_inI (d + 2) (c - 48) 0 5) rfl rfl (by omega) rfl (Nat.le_of_ble_eq_true rfl) ?_
        rw [zinD]
        refine v_if_eq (q := 118) (tgt := 122) hC dX12_go_115 rfl (by decide) (fun h115 => ?_) (fun h115 => ?_)
        · refine v_iconst (q := 123) (v := 0) hC dX12_go_122 rfl (by decide) ?_
          refine v_zreturn hC hB dX12_go_123 ⟨Nat.le_refl _, Nat.le_refl _⟩ (by first | exact Or.inl rfl | exact Or.inr rfl | exact zb_01 _) ?_
          first
            | exact absurd h85 h103
            | exact absurd h103 h85
            | (have hc := hb.mp (zb_ne h85)
               exact ⟨true, rfl, zGk.yes (S' := (9, fd, kin, km, met, mm, tm)) (by first | exact (zSm.rf.o (by simp)).o (by simp) | exact zSm.rf.o (by simp)) (by simp [pGo, hc]) ⟨by rw [zI_ne (by omega), zI_eq]; rfl, fun z => absurd z (by decide), fun a ha => by rw [zI_ne (by omega), zI_ne (by omega)]; exact hK a ha, fun a ha => by rw [zI_ne (by omega), zI_ne (by omega)]; exact hM a ha, by rw [zI_ne (by omega), zI_ne (by omega)]; exact hkm, by rw [zI_ne (by omega), zI_ne (by omega)]; exact hmm, fun z => absurd z (by decide), by simp only [pRok]; omega⟩⟩)
            | (have hc : ¬ (c = 45) := fun z => absurd (hb.mpr z) (by rw [zb_eq0.mp h85]; decide)
               rcases zDv_of c with ⟨e, z⟩ | ⟨k, e, hk, ev⟩
               · first | exact ⟨false, rfl, zGk.no (by first | exact (zSm.rf.o (by simp)).o (by simp) | exact zSm.rf.o (by simp)) (by simp [pGo, e, hc])⟩ | exact absurd z (by rw [zb_ne h115]; decide)
               · first | exact ⟨true, rfl, zGk.yes (S' := (2, k, kin, km, met, mm, tm)) (by first | exact (zSm.rf.o (by simp)).o (by simp) | exact zSm.rf.o (by simp)) (by simp [pGo, e, hc]) ⟨by rw [zI_ne (by omega), zI_eq]; rfl, fun _ => by rw [zI_eq]; exact ev, fun a ha => by rw [zI_ne (by omega), zI_ne (by omega)]; exact hK a ha, fun a ha => by rw [zI_ne (by omega), zI_ne (by omega)]; exact hM a ha, by rw [zI_ne (by omega), zI_ne (by omega)]; exact hkm, by rw [zI_ne (by omega), zI_ne (by omega)]; exact hmm, fun z => absurd z (by decide), by simp only [pRok]; omega⟩⟩ | exact absurd (zb_eq0.mp h115) (by rw [ev, zval_nI (by omega)]; simp [hk]))
        · refine v_iconst (q := 119) (v := 1) hC dX12_go_118 rfl (by decide) ?_
          refine v_goto (q := 123) hC dX12_go_119 (by decide) ?_
          refine v_zreturn hC hB dX12_go_123 ⟨Nat.le_refl _, Nat.le_refl _⟩ (by first | exact Or.inl rfl | exact Or.inr rfl | exact zb_01 _) ?_
          first
            | exact absurd h85 h103
            | exact absurd h103 h85
            | (have hc := hb.mp (zb_ne h85)
               exact ⟨true, rfl, zGk.yes (S' := (9, fd, kin, km, met, mm, tm)) (by first | exact (zSm.rf.o (by simp)).o (by simp) | exact zSm.rf.o (by simp)) (by simp [pGo, hc]) ⟨by rw [zI_ne (by omega), zI_eq]; rfl, fun z => absurd z (by decide), fun a ha => by rw [zI_ne (by omega), zI_ne (by omega)]; exact hK a ha, fun a ha => by rw [zI_ne (by omega), zI_ne (by omega)]; exact hM a ha, by rw [zI_ne (by omega), zI_ne (by omega)]; exact hkm, by rw [zI_ne (by omega), zI_ne (by omega)]; exact hmm, fun z => absurd z (by decide), by simp only [pRok]; omega⟩⟩)
            | (have hc : ¬ (c = 45) := fun z => absurd (hb.mpr z) (by rw [zb_eq0.mp h85]; decide)
               rcases zDv_of c with ⟨e, z⟩ | ⟨k, e, hk, ev⟩
               · first | exact ⟨false, rfl, zGk.no (by first | exact (zSm.rf.o (by simp)).o (by simp) | exact zSm.rf.o (by simp)) (by simp [pGo, e, hc])⟩ | exact absurd z (by rw [zb_ne h115]; decide)
               · first | exact ⟨true, rfl, zGk.yes (S' := (2, k, kin, km, met, mm, tm)) (by first | exact (zSm.rf.o (by simp)).o (by simp) | exact zSm.rf.o (by simp)) (by simp [pGo, e, hc]) ⟨by rw [zI_ne (by omega), zI_eq]; rfl, fun _ => by rw [zI_eq]; exact ev, fun a ha => by rw [zI_ne (by omega), zI_ne (by omega)]; exact hK a ha, fun a ha => by rw [zI_ne (by omega), zI_ne (by omega)]; exact hM a ha, by rw [zI_ne (by omega), zI_ne (by omega)]; exact hkm, by rw [zI_ne (by omega), zI_ne (by omega)]; exact hmm, fun z => absurd z (by decide), by simp only [pRok]; omega⟩⟩ | exact absurd (zb_eq0.mp h115) (by rw [ev, zval_nI (by omega)]; simp [hk]))
    · refine v_bipush (q := 90) (v := 9) hC dX12_go_88 rfl (by decide) ?_
      refine v_goto (q := 94) hC dX12_go_90 (by decide) ?_
      refine v_putI (q := 97) hC dX12_go_94 rfl fX12_92 (hL.1 53 (by decide)) ?_
      refine v_aload_n (q := 98) hC dX12_go_97 rfl rfl rfl ?_
      refine v_iload_n (q := 99) hC dX12_go_98 rfl rfl rfl ?_
      refine v_putI (q := 102) hC dX12_go_99 rfl fX12_79 (hL.1 53 (by decide)) ?_
      refine v_iload_n (q := 103) hC dX12_go_102 rfl rfl rfl ?_
      refine v_if_ne (q := 106) (tgt := 118) hC dX12_go_103 rfl (by decide) (fun h103 => ?_) (fun h103 => ?_)
      · refine v_iconst (q := 119) (v := 1) hC dX12_go_118 rfl (by decide) ?_
        refine v_goto (q := 123) hC dX12_go_119 (by decide) ?_
        refine v_zreturn hC hB dX12_go_123 ⟨Nat.le_refl _, Nat.le_refl _⟩ (by first | exact Or.inl rfl | exact Or.inr rfl | exact zb_01 _) ?_
        first
          | exact absurd h85 h103
          | exact absurd h103 h85
          | (have hc := hb.mp (zb_ne h85)
             exact ⟨true, rfl, zGk.yes (S' := (9, fd, kin, km, met, mm, tm)) (by first | exact (zSm.rf.o (by simp)).o (by simp) | exact zSm.rf.o (by simp)) (by simp [pGo, hc]) ⟨by rw [zI_ne (by omega), zI_eq]; rfl, fun z => absurd z (by decide), fun a ha => by rw [zI_ne (by omega), zI_ne (by omega)]; exact hK a ha, fun a ha => by rw [zI_ne (by omega), zI_ne (by omega)]; exact hM a ha, by rw [zI_ne (by omega), zI_ne (by omega)]; exact hkm, by rw [zI_ne (by omega), zI_ne (by omega)]; exact hmm, fun z => absurd z (by decide), by simp only [pRok]; omega⟩⟩)
          | (have hc : ¬ (c = 45) := fun z => absurd (hb.mpr z) (by rw [zb_eq0.mp h85]; decide)
             rcases zDv_of c with ⟨e, z⟩ | ⟨k, e, hk, ev⟩
             · first | exact ⟨false, rfl, zGk.no (by first | exact (zSm.rf.o (by simp)).o (by simp) | exact zSm.rf.o (by simp)) (by simp [pGo, e, hc])⟩ | exact absurd z (by rw [zb_ne h115]; decide)
             · first | exact ⟨true, rfl, zGk.yes (S' := (2, k, kin, km, met, mm, tm)) (by first | exact (zSm.rf.o (by simp)).o (by simp) | exact zSm.rf.o (by simp)) (by simp [pGo, e, hc]) ⟨by rw [zI_ne (by omega), zI_eq]; rfl, fun _ => by rw [zI_eq]; exact ev, fun a ha => by rw [zI_ne (by omega), zI_ne (by omega)]; exact hK a ha, fun a ha => by rw [zI_ne (by omega), zI_ne (by omega)]; exact hM a ha, by rw [zI_ne (by omega), zI_ne (by omega)]; exact hkm, by rw [zI_ne (by omega), zI_ne (by omega)]; exact hmm, fun z => absurd z (by decide), by simp only [pRok]; omega⟩⟩ | exact absurd (zb_eq0.mp h115) (by rw [ev, zval_nI (by omega)]; simp [hk]))
      · refine v_iload_n (q := 107) hC dX12_go_106 rfl rfl rfl ?_
        refine v_i2l (q := 108) hC dX12_go_107 rfl ?_
        refine v_lconst (q := 109) (v := 0) hC dX12_go_108 rfl (by decide) ?_
        refine v_ldc2 (q := 112) hC dX12_go_109 rfl kX12_77 ?_
        refine v_callS1 (q := 115) (As := [_, _, _]) hC dX12_go_112 rfl lX12_70 mX12_in sX12_in (ct_X12_inI (d + 2) (c - 48) 0 5) rfl rfl (by omega) rfl (Nat.le_of_ble_eq_true rfl) ?_
        rw [zinD]
        refine v_if_eq (q := 118) (tgt := 122) hC dX12_go_115 rfl (by decide) (fun h115 => ?_) (fun h115 => ?_)
        · refine v_iconst (q := 123) (v := 0) hC dX12_go_122 rfl (by decide) ?_
          refine v_zreturn hC hB dX12_go_123 ⟨Nat.le_refl _, Nat.le_refl _⟩ (by first | exact Or.inl rfl | exact Or.inr rfl | exact zb_01 _) ?_
          first
            | exact absurd h85 h103
            | exact absurd h103 h85
            | (have hc := hb.mp (zb_ne h85)
               exact ⟨true, rfl, zGk.yes (S' := (9, fd, kin, km, met, mm, tm)) (by first | exact (zSm.rf.o (by simp)).o (by simp) | exact zSm.rf.o (by simp)) (by simp [pGo, hc]) ⟨by rw [zI_ne (by omega), zI_eq]; rfl, fun z => absurd z (by decide), fun a ha => by rw [zI_ne (by omega), zI_ne (by omega)]; exact hK a ha, fun a ha => by rw [zI_ne (by omega), zI_ne (by omega)]; exact hM a ha, by rw [zI_ne (by omega), zI_ne (by omega)]; exact hkm, by rw [zI_ne (by omega), zI_ne (by omega)]; exact hmm, fun z => absurd z (by decide), by simp only [pRok]; omega⟩⟩)
            | (have hc : ¬ (c = 45) := fun z => absurd (hb.mpr z) (by rw [zb_eq0.mp h85]; decide)
               rcases zDv_of c with ⟨e, z⟩ | ⟨k, e, hk, ev⟩
               · first | exact ⟨false, rfl, zGk.no (by first | exact (zSm.rf.o (by simp)).o (by simp) | exact zSm.rf.o (by simp)) (by simp [pGo, e, hc])⟩ | exact absurd z (by rw [zb_ne h115]; decide)
               · first | exact ⟨true, rfl, zGk.yes (S' := (2, k, kin, km, met, mm, tm)) (by first | exact (zSm.rf.o (by simp)).o (by simp) | exact zSm.rf.o (by simp)) (by simp [pGo, e, hc]) ⟨by rw [zI_ne (by omega), zI_eq]; rfl, fun _ => by rw [zI_eq]; exact ev, fun a ha => by rw [zI_ne (by omega), zI_ne (by omega)]; exact hK a ha, fun a ha => by rw [zI_ne (by omega), zI_ne (by omega)]; exact hM a ha, by rw [zI_ne (by omega), zI_ne (by omega)]; exact hkm, by rw [zI_ne (by omega), zI_ne (by omega)]; exact hmm, fun z => absurd z (by decide), by simp only [pRok]; omega⟩⟩ | exact absurd (zb_eq0.mp h115) (by rw [ev, zval_nI (by omega)]; simp [hk]))
        · refine v_iconst (q := 119) (v := 1) hC dX12_go_118 rfl (by decide) ?_
          refine v_goto (q := 123) hC dX12_go_119 (by decide) ?_
          refine v_zreturn hC hB dX12_go_123 ⟨Nat.le_refl _, Nat.le_refl _⟩ (by first | exact Or.inl rfl | exact Or.inr rfl | exact zb_01 _) ?_
          first
            | exact absurd h85 h103
            | exact absurd h103 h85
            | (have hc := hb.mp (zb_ne h85)
               exact ⟨true, rfl, zGk.yes (S' := (9, fd, kin, km, met, mm, tm)) (by first | exact (zSm.rf.o (by simp)).o (by simp) | exact zSm.rf.o (by simp)) (by simp [pGo, hc]) ⟨by rw [zI_ne (by omega), zI_eq]; rfl, fun z => absurd z (by decide), fun a ha => by rw [zI_ne (by omega), zI_ne (by omega)]; exact hK a ha, fun a ha => by rw [zI_ne (by omega), zI_ne (by omega)]; exact hM a ha, by rw [zI_ne (by omega), zI_ne (by omega)]; exact hkm, by rw [zI_ne (by omega), zI_ne (by omega)]; exact hmm, fun z => absurd z (by decide), by simp only [pRok]; omega⟩⟩)
            | (have hc : ¬ (c = 45) := fun z => absurd (hb.mpr z) (by rw [zb_eq0.mp h85]; decide)
               rcases zDv_of c with ⟨e, z⟩ | ⟨k, e, hk, ev⟩
               · first | exact ⟨false, rfl, zGk.no (by first | exact (zSm.rf.o (by simp)).o (by simp) | exact zSm.rf.o (by simp)) (by simp [pGo, e, hc])⟩ | exact absurd z (by rw [zb_ne h115]; decide)
               · first | exact ⟨true, rfl, zGk.yes (S' := (2, k, kin, km, met, mm, tm)) (by first | exact (zSm.rf.o (by simp)).o (by simp) | exact zSm.rf.o (by simp)) (by simp [pGo, e, hc]) ⟨by rw [zI_ne (by omega), zI_eq]; rfl, fun _ => by rw [zI_eq]; exact ev, fun a ha => by rw [zI_ne (by omega), zI_ne (by omega)]; exact hK a ha, fun a ha => by rw [zI_ne (by omega), zI_ne (by omega)]; exact hM a ha, by rw [zI_ne (by omega), zI_ne (by omega)]; exact hkm, by rw [zI_ne (by omega), zI_ne (by omega)]; exact hmm, fun z => absurd z (by decide), by simp only [pRok]; omega⟩⟩ | exact absurd (zb_eq0.mp h115) (by rw [ev, zval_nI (by omega)]; simp [hk]))
  refine v_iload_n (q := 1) hC dX12_go_0 rfl rfl rfl ?_
  refine v_bipush (q := 3) (v := 48) hC dX12_go_1 rfl (by decide) ?_
  refine v_isub (q := 4) hC dX12_go_3 rfl ?_
  refine v_istore_n (q := 5) (L' := [_, _, _, _]) hC dX12_go_4 rfl rfl (by decide) rfl rfl ?_
  refine v_aload_n (q := 6) hC dX12_go_5 rfl rfl rfl ?_
  refine v_getI (q := 9) hC dX12_go_6 rfl fX12_92 (hL.1 53 (by decide)) ?_
  rw [show zI σ 53 8 = 0 from h8]
  refine v_tableIn (q := 64) (off := 55) hC dX12_go_9 (by decide) (by decide) rfl (by decide) ?_
  refine v_aload_n (q := 65) hC dX12_go_64 rfl rfl rfl ?_
  refine v_getI (q := 68) hC dX12_go_65 rfl fX12_92 (hL.1 53 (by decide)) ?_
  rw [show zI σ 53 8 = 0 from h8]
  refine v_if_ne (q := 71) (tgt := 81) hC dX12_go_68 rfl (by decide) (fun h68 => ?_) (fun h68 => ?_)
  · exact absurd rfl h68
  · refine v_iload_n (q := 72) hC dX12_go_71 rfl rfl rfl ?_
    refine v_bipush (q := 74) (v := 45) hC dX12_go_72 rfl (by decide) ?_
    refine v_icmp_ne (q := 77) (tgt := 81) hC dX12_go_74 rfl (by decide) (fun h74 => ?_) (fun h74 => ?_)
    · refine v_iconst (q := 82) (v := 0) hC dX12_go_81 rfl (by decide) ?_
      first
        | exact j82 true ⟨fun _ => h74, fun _ => rfl⟩
        | exact j82 false ⟨fun z => (by cases z), fun z => absurd z h74⟩
    · refine v_iconst (q := 78) (v := 1) hC dX12_go_77 rfl (by decide) ?_
      refine v_goto (q := 82) hC dX12_go_78 (by decide) ?_
      first
        | exact j82 true ⟨fun _ => h74, fun _ => rfl⟩
        | exact j82 false ⟨fun z => (by cases z), fun z => absurd z h74⟩

set_option maxRecDepth 100000 in
set_option maxHeartbeats 4000000 in
theorem ct_X12_go_1 (d : Nat) {σ : zSt} (hL : zLay σ) {fd : Nat} {kin : Nat → Nat → Bool} {km : Nat} {met : Nat → Nat → Bool} {mm tm : Nat} (hR : zGd σ (1, fd, kin, km, met, mm, tm)) (c : Int32) : zCt (d + 3) MX12_go [.ref 53, .int c] σ (zQb (zGk σ c (1, fd, kin, km, met, mm, tm))) := by
  refine zCt.of (L := [some (.ref 53), some (.int c), none, none]) (by decide) (Nat.le_of_ble_eq_true rfl) rfl (fun X hC hB => ?_)
  have hC : zC X RX12 cX12_go 4 (d + 3) 0 0 := hC
  have hB : zB X (some .boolean) 0 0 "go" σ _ := hB
  show zV X 4 0 [some (.ref 53), some (.int c), none, none] [] 0 0 σ
  obtain ⟨h8, h7, hK, hM, hkm, hmm, h6, hok⟩ := hR
  have hok0 := hok
  have hmx := hok.2.2.2.2.2.1
  have hmm9 : _ = 9 → mm ≤ 11 := fun z => hmx (Or.inr z)
  simp only [pRok] at hok
  have hv0 := zDv_of c
  have j82 : ∀ b : Bool, (b = true ↔ False) → zV X 4 82 [some (.ref 53), some (.int c), some (.int (c - 48)), none] [.int (zb b)] 0 0 σ := by
    intro b hb
    refine v_istore_n (q := 83) (L' := [_, _, _, _]) hC dX12_go_82 rfl rfl (by decide) rfl rfl ?_
    refine v_aload_n (q := 84) hC dX12_go_83 rfl rfl rfl ?_
    refine v_iload_n (q := 85) hC dX12_go_84 rfl rfl rfl ?_
    refine v_if_eq (q := 88) (tgt := 93) hC dX12_go_85 rfl (by decide) (fun h85 => ?_) (fun h85 => ?_)
    · refine v_iconst (q := 94) (v := 2) hC dX12_go_93 rfl (by decide) ?_
      refine v_putI (q := 97) hC dX12_go_94 rfl fX12_92 (hL.1 53 (by decide)) ?_
      refine v_aload_n (q := 98) hC dX12_go_97 rfl rfl rfl ?_
      refine v_iload_n (q := 99) hC dX12_go_98 rfl rfl rfl ?_
      refine v_putI (q := 102) hC dX12_go_99 rfl fX12_79 (hL.1 53 (by decide)) ?_
      refine v_iload_n (q := 103) hC dX12_go_102 rfl rfl rfl ?_
      refine v_if_ne (q := 106) (tgt := 118) hC dX12_go_103 rfl (by decide) (fun h103 => ?_) (fun h103 => ?_)
      · refine v_iconst (q := 119) (v := 1) hC dX12_go_118 rfl (by decide) ?_
        refine v_goto (q := 123) hC dX12_go_119 (by decide) ?_
        refine v_zreturn hC hB dX12_go_123 ⟨Nat.le_refl _, Nat.le_refl _⟩ (by first | exact Or.inl rfl | exact Or.inr rfl | exact zb_01 _) ?_
        first
          | exact absurd h85 h103
          | exact absurd h103 h85
          | exact absurd (hb.mp (zb_ne h85)) not_false
          | (have hc : ¬ (False) := fun z => absurd (hb.mpr z) (by rw [zb_eq0.mp h85]; decide)
             rcases zDv_of c with ⟨e, z⟩ | ⟨k, e, hk, ev⟩
             · first | exact ⟨false, rfl, zGk.no (by first | exact (zSm.rf.o (by simp)).o (by simp) | exact zSm.rf.o (by simp)) (by simp [pGo, e])⟩ | exact absurd z (by rw [zb_ne h115]; decide)
             · first | exact ⟨true, rfl, zGk.yes (S' := (2, k, kin, km, met, mm, tm)) (by first | exact (zSm.rf.o (by simp)).o (by simp) | exact zSm.rf.o (by simp)) (by simp [pGo, e]) ⟨by rw [zI_ne (by omega), zI_eq]; rfl, fun _ => by rw [zI_eq]; exact ev, fun a ha => by rw [zI_ne (by omega), zI_ne (by omega)]; exact hK a ha, fun a ha => by rw [zI_ne (by omega), zI_ne (by omega)]; exact hM a ha, by rw [zI_ne (by omega), zI_ne (by omega)]; exact hkm, by rw [zI_ne (by omega), zI_ne (by omega)]; exact hmm, fun z => absurd z (by decide), by simp only [pRok]; omega⟩⟩ | exact absurd (zb_eq0.mp h115) (by rw [ev, zval_nI (by omega)]; simp [hk]))
      · refine v_iload_n (q := 107) hC dX12_go_106 rfl rfl rfl ?_
        refine v_i2l (q := 108) hC dX12_go_107 rfl ?_
        refine v_lconst (q := 109) (v := 0) hC dX12_go_108 rfl (by decide) ?_
        refine v_ldc2 (q := 112) hC dX12_go_109 rfl kX12_77 ?_
        refine v_callS1 (q := 115) (As := [_, _, _]) hC dX12_go_112 rfl lX12_70 mX12_in sX12_in (ct_X12_inI (d + 2) (c - 48) 0 5) rfl rfl (by omega) rfl (Nat.le_of_ble_eq_true rfl) ?_
        rw [zinD]
        refine v_if_eq (q := 118) (tgt := 122) hC dX12_go_115 rfl (by decide) (fun h115 => ?_) (fun h115 => ?_)
        · refine v_iconst (q := 123) (v := 0) hC dX12_go_122 rfl (by decide) ?_
          refine v_zreturn hC hB dX12_go_123 ⟨Nat.le_refl _, Nat.le_refl _⟩ (by first | exact Or.inl rfl | exact Or.inr rfl | exact zb_01 _) ?_
          first
            | exact absurd h85 h103
            | exact absurd h103 h85
            | exact absurd (hb.mp (zb_ne h85)) not_false
            | (have hc : ¬ (False) := fun z => absurd (hb.mpr z) (by rw [zb_eq0.mp h85]; decide)
               rcases zDv_of c with ⟨e, z⟩ | ⟨k, e, hk, ev⟩
               · first | exact ⟨false, rfl, zGk.no (by first | exact (zSm.rf.o (by simp)).o (by simp) | exact zSm.rf.o (by simp)) (by simp [pGo, e])⟩ | exact absurd z (by rw [zb_ne h115]; decide)
               · first | exact ⟨true, rfl, zGk.yes (S' := (2, k, kin, km, met, mm, tm)) (by first | exact (zSm.rf.o (by simp)).o (by simp) | exact zSm.rf.o (by simp)) (by simp [pGo, e]) ⟨by rw [zI_ne (by omega), zI_eq]; rfl, fun _ => by rw [zI_eq]; exact ev, fun a ha => by rw [zI_ne (by omega), zI_ne (by omega)]; exact hK a ha, fun a ha => by rw [zI_ne (by omega), zI_ne (by omega)]; exact hM a ha, by rw [zI_ne (by omega), zI_ne (by omega)]; exact hkm, by rw [zI_ne (by omega), zI_ne (by omega)]; exact hmm, fun z => absurd z (by decide), by simp only [pRok]; omega⟩⟩ | exact absurd (zb_eq0.mp h115) (by rw [ev, zval_nI (by omega)]; simp [hk]))
        · refine v_iconst (q := 119) (v := 1) hC dX12_go_118 rfl (by decide) ?_
          refine v_goto (q := 123) hC dX12_go_119 (by decide) ?_
          refine v_zreturn hC hB dX12_go_123 ⟨Nat.le_refl _, Nat.le_refl _⟩ (by first | exact Or.inl rfl | exact Or.inr rfl | exact zb_01 _) ?_
          first
            | exact absurd h85 h103
            | exact absurd h103 h85
            | exact absurd (hb.mp (zb_ne h85)) not_false
            | (have hc : ¬ (False) := fun z => absurd (hb.mpr z) (by rw [zb_eq0.mp h85]; decide)
               rcases zDv_of c with ⟨e, z⟩ | ⟨k, e, hk, ev⟩
               · first | exact ⟨false, rfl, zGk.no (by first | exact (zSm.rf.o (by simp)).o (by simp) | exact zSm.rf.o (by simp)) (by simp [pGo, e])⟩ | exact absurd z (by rw [zb_ne h115]; decide)
               · first | exact ⟨true, rfl, zGk.yes (S' := (2, k, kin, km, met, mm, tm)) (by first | exact (zSm.rf.o (by simp)).o (by simp) | exact zSm.rf.o (by simp)) (by simp [pGo, e]) ⟨by rw [zI_ne (by omega), zI_eq]; rfl, fun _ => by rw [zI_eq]; exact ev, fun a ha => by rw [zI_ne (by omega), zI_ne (by omega)]; exact hK a ha, fun a ha => by rw [zI_ne (by omega), zI_ne (by omega)]; exact hM a ha, by rw [zI_ne (by omega), zI_ne (by omega)]; exact hkm, by rw [zI_ne (by omega), zI_ne (by omega)]; exact hmm, fun z => absurd z (by decide), by simp only [pRok]; omega⟩⟩ | exact absurd (zb_eq0.mp h115) (by rw [ev, zval_nI (by omega)]; simp [hk]))
    · refine v_bipush (q := 90) (v := 9) hC dX12_go_88 rfl (by decide) ?_
      refine v_goto (q := 94) hC dX12_go_90 (by decide) ?_
      refine v_putI (q := 97) hC dX12_go_94 rfl fX12_92 (hL.1 53 (by decide)) ?_
      refine v_aload_n (q := 98) hC dX12_go_97 rfl rfl rfl ?_
      refine v_iload_n (q := 99) hC dX12_go_98 rfl rfl rfl ?_
      refine v_putI (q := 102) hC dX12_go_99 rfl fX12_79 (hL.1 53 (by decide)) ?_
      refine v_iload_n (q := 103) hC dX12_go_102 rfl rfl rfl ?_
      refine v_if_ne (q := 106) (tgt := 118) hC dX12_go_103 rfl (by decide) (fun h103 => ?_) (fun h103 => ?_)
      · refine v_iconst (q := 119) (v := 1) hC dX12_go_118 rfl (by decide) ?_
        refine v_goto (q := 123) hC dX12_go_119 (by decide) ?_
        refine v_zreturn hC hB dX12_go_123 ⟨Nat.le_refl _, Nat.le_refl _⟩ (by first | exact Or.inl rfl | exact Or.inr rfl | exact zb_01 _) ?_
        first
          | exact absurd h85 h103
          | exact absurd h103 h85
          | exact absurd (hb.mp (zb_ne h85)) not_false
          | (have hc : ¬ (False) := fun z => absurd (hb.mpr z) (by rw [zb_eq0.mp h85]; decide)
             rcases zDv_of c with ⟨e, z⟩ | ⟨k, e, hk, ev⟩
             · first | exact ⟨false, rfl, zGk.no (by first | exact (zSm.rf.o (by simp)).o (by simp) | exact zSm.rf.o (by simp)) (by simp [pGo, e])⟩ | exact absurd z (by rw [zb_ne h115]; decide)
             · first | exact ⟨true, rfl, zGk.yes (S' := (2, k, kin, km, met, mm, tm)) (by first | exact (zSm.rf.o (by simp)).o (by simp) | exact zSm.rf.o (by simp)) (by simp [pGo, e]) ⟨by rw [zI_ne (by omega), zI_eq]; rfl, fun _ => by rw [zI_eq]; exact ev, fun a ha => by rw [zI_ne (by omega), zI_ne (by omega)]; exact hK a ha, fun a ha => by rw [zI_ne (by omega), zI_ne (by omega)]; exact hM a ha, by rw [zI_ne (by omega), zI_ne (by omega)]; exact hkm, by rw [zI_ne (by omega), zI_ne (by omega)]; exact hmm, fun z => absurd z (by decide), by simp only [pRok]; omega⟩⟩ | exact absurd (zb_eq0.mp h115) (by rw [ev, zval_nI (by omega)]; simp [hk]))
      · refine v_iload_n (q := 107) hC dX12_go_106 rfl rfl rfl ?_
        refine v_i2l (q := 108) hC dX12_go_107 rfl ?_
        refine v_lconst (q := 109) (v := 0) hC dX12_go_108 rfl (by decide) ?_
        refine v_ldc2 (q := 112) hC dX12_go_109 rfl kX12_77 ?_
        refine v_callS1 (q := 115) (As := [_, _, _]) hC dX12_go_112 rfl lX12_70 mX12_in sX12_in (ct_X12_inI (d + 2) (c - 48) 0 5) rfl rfl (by omega) rfl (Nat.le_of_ble_eq_true rfl) ?_
        rw [zinD]
        refine v_if_eq (q := 118) (tgt := 122) hC dX12_go_115 rfl (by decide) (fun h115 => ?_) (fun h115 => ?_)
        · refine v_iconst (q := 123) (v := 0) hC dX12_go_122 rfl (by decide) ?_
          refine v_zreturn hC hB dX12_go_123 ⟨Nat.le_refl _, Nat.le_refl _⟩ (by first | exact Or.inl rfl | exact Or.inr rfl | exact zb_01 _) ?_
          first
            | exact absurd h85 h103
            | exact absurd h103 h85
            | exact absurd (hb.mp (zb_ne h85)) not_false
            | (have hc : ¬ (False) := fun z => absurd (hb.mpr z) (by rw [zb_eq0.mp h85]; decide)
               rcases zDv_of c with ⟨e, z⟩ | ⟨k, e, hk, ev⟩
               · first | exact ⟨false, rfl, zGk.no (by first | exact (zSm.rf.o (by simp)).o (by simp) | exact zSm.rf.o (by simp)) (by simp [pGo, e])⟩ | exact absurd z (by rw [zb_ne h115]; decide)
               · first | exact ⟨true, rfl, zGk.yes (S' := (2, k, kin, km, met, mm, tm)) (by first | exact (zSm.rf.o (by simp)).o (by simp) | exact zSm.rf.o (by simp)) (by simp [pGo, e]) ⟨by rw [zI_ne (by omega), zI_eq]; rfl, fun _ => by rw [zI_eq]; exact ev, fun a ha => by rw [zI_ne (by omega), zI_ne (by omega)]; exact hK a ha, fun a ha => by rw [zI_ne (by omega), zI_ne (by omega)]; exact hM a ha, by rw [zI_ne (by omega), zI_ne (by omega)]; exact hkm, by rw [zI_ne (by omega), zI_ne (by omega)]; exact hmm, fun z => absurd z (by decide), by simp only [pRok]; omega⟩⟩ | exact absurd (zb_eq0.mp h115) (by rw [ev, zval_nI (by omega)]; simp [hk]))
        · refine v_iconst (q := 119) (v := 1) hC dX12_go_118 rfl (by decide) ?_
          refine v_goto (q := 123) hC dX12_go_119 (by decide) ?_
          refine v_zreturn hC hB dX12_go_123 ⟨Nat.le_refl _, Nat.le_refl _⟩ (by first | exact Or.inl rfl | exact Or.inr rfl | exact zb_01 _) ?_
          first
            | exact absurd h85 h103
            | exact absurd h103 h85
            | exact absurd (hb.mp (zb_ne h85)) not_false
            | (have hc : ¬ (False) := fun z => absurd (hb.mpr z) (by rw [zb_eq0.mp h85]; decide)
               rcases zDv_of c with ⟨e, z⟩ | ⟨k, e, hk, ev⟩
               · first | exact ⟨false, rfl, zGk.no (by first | exact (zSm.rf.o (by simp)).o (by simp) | exact zSm.rf.o (by simp)) (by simp [pGo, e])⟩ | exact absurd z (by rw [zb_ne h115]; decide)
               · first | exact ⟨true, rfl, zGk.yes (S' := (2, k, kin, km, met, mm, tm)) (by first | exact (zSm.rf.o (by simp)).o (by simp) | exact zSm.rf.o (by simp)) (by simp [pGo, e]) ⟨by rw [zI_ne (by omega), zI_eq]; rfl, fun _ => by rw [zI_eq]; exact ev, fun a ha => by rw [zI_ne (by omega), zI_ne (by omega)]; exact hK a ha, fun a ha => by rw [zI_ne (by omega), zI_ne (by omega)]; exact hM a ha, by rw [zI_ne (by omega), zI_ne (by omega)]; exact hkm, by rw [zI_ne (by omega), zI_ne (by omega)]; exact hmm, fun z => absurd z (by decide), by simp only [pRok]; omega⟩⟩ | exact absurd (zb_eq0.mp h115) (by rw [ev, zval_nI (by omega)]; simp [hk]))
  refine v_iload_n (q := 1) hC dX12_go_0 rfl rfl rfl ?_
  refine v_bipush (q := 3) (v := 48) hC dX12_go_1 rfl (by decide) ?_
  refine v_isub (q := 4) hC dX12_go_3 rfl ?_
  refine v_istore_n (q := 5) (L' := [_, _, _, _]) hC dX12_go_4 rfl rfl (by decide) rfl rfl ?_
  refine v_aload_n (q := 6) hC dX12_go_5 rfl rfl rfl ?_
  refine v_getI (q := 9) hC dX12_go_6 rfl fX12_92 (hL.1 53 (by decide)) ?_
  rw [show zI σ 53 8 = 1 from h8]
  refine v_tableIn (q := 64) (off := 55) hC dX12_go_9 (by decide) (by decide) rfl (by decide) ?_
  refine v_aload_n (q := 65) hC dX12_go_64 rfl rfl rfl ?_
  refine v_getI (q := 68) hC dX12_go_65 rfl fX12_92 (hL.1 53 (by decide)) ?_
  rw [show zI σ 53 8 = 1 from h8]
  refine v_if_ne (q := 71) (tgt := 81) hC dX12_go_68 rfl (by decide) (fun h68 => ?_) (fun h68 => ?_)
  · refine v_iconst (q := 82) (v := 0) hC dX12_go_81 rfl (by decide) ?_
    exact j82 false ⟨fun z => (by cases z), fun z => z.elim⟩
  · exact absurd h68 (by decide)

set_option maxRecDepth 100000 in
set_option maxHeartbeats 4000000 in
theorem ct_X12_go_4 (d : Nat) {σ : zSt} (hL : zLay σ) {fd : Nat} {kin : Nat → Nat → Bool} {km : Nat} {met : Nat → Nat → Bool} {mm tm : Nat} (hR : zGd σ (4, fd, kin, km, met, mm, tm)) (c : Int32) : zCt (d + 3) MX12_go [.ref 53, .int c] σ (zQb (zGk σ c (4, fd, kin, km, met, mm, tm))) := by
  refine zCt.of (L := [some (.ref 53), some (.int c), none, none]) (by decide) (Nat.le_of_ble_eq_true rfl) rfl (fun X hC hB => ?_)
  have hC : zC X RX12 cX12_go 4 (d + 3) 0 0 := hC
  have hB : zB X (some .boolean) 0 0 "go" σ _ := hB
  show zV X 4 0 [some (.ref 53), some (.int c), none, none] [] 0 0 σ
  obtain ⟨h8, h7, hK, hM, hkm, hmm, h6, hok⟩ := hR
  have hok0 := hok
  have hmx := hok.2.2.2.2.2.1
  have hmm9 : _ = 9 → mm ≤ 11 := fun z => hmx (Or.inr z)
  simp only [pRok] at hok
  refine v_iload_n (q := 1) hC dX12_go_0 rfl rfl rfl ?_
  refine v_bipush (q := 3) (v := 48) hC dX12_go_1 rfl (by decide) ?_
  refine v_isub (q := 4) hC dX12_go_3 rfl ?_
  refine v_istore_n (q := 5) (L' := [_, _, _, _]) hC dX12_go_4 rfl rfl (by decide) rfl rfl ?_
  refine v_aload_n (q := 6) hC dX12_go_5 rfl rfl rfl ?_
  refine v_getI (q := 9) hC dX12_go_6 rfl fX12_92 (hL.1 53 (by decide)) ?_
  rw [show zI σ 53 8 = 4 from h8]
  refine v_tableIn (q := 184) (off := 175) hC dX12_go_9 (by decide) (by decide) rfl (by decide) ?_
  refine v_aload_n (q := 185) hC dX12_go_184 rfl rfl rfl ?_
  refine v_iconst (q := 186) (v := 5) hC dX12_go_185 rfl (by decide) ?_
  refine v_putI (q := 189) hC dX12_go_186 rfl fX12_92 (hL.1 53 (by decide)) ?_
  refine v_aload_n (q := 190) hC dX12_go_189 rfl rfl rfl ?_
  refine v_iload_n (q := 191) hC dX12_go_190 rfl rfl rfl ?_
  refine v_putI (q := 194) hC dX12_go_191 rfl fX12_79 (hL.1 53 (by decide)) ?_
  refine v_iload_n (q := 195) hC dX12_go_194 rfl rfl rfl ?_
  refine v_i2l (q := 196) hC dX12_go_195 rfl ?_
  refine v_lconst (q := 197) (v := 0) hC dX12_go_196 rfl (by decide) ?_
  refine v_ldc2 (q := 200) hC dX12_go_197 rfl kX12_77 ?_
  refine v_callS1 (q := 203) (As := [_, _, _]) hC dX12_go_200 rfl lX12_70 mX12_in sX12_in (ct_X12_inI (d + 2) (c - 48) 0 5) rfl rfl (by omega) rfl (Nat.le_of_ble_eq_true rfl) ?_
  refine v_zreturn hC hB dX12_go_203 ⟨Nat.le_refl _, Nat.le_refl _⟩ (by first | exact Or.inl rfl | exact Or.inr rfl | exact zb_01 _) ?_
  rw [zinD]
  rcases zDv_of c with ⟨e, z⟩ | ⟨k, e, hk, ev⟩
  · exact ⟨false, by rw [z], zGk.no (by first | exact (zSm.rf.o (by simp)).o (by simp) | exact zSm.rf.o (by simp)) (by simp [pGo, e])⟩
  · exact ⟨true, by rw [ev, zval_nI (by omega)]; simp [hk], zGk.yes (S' := (5, k, kin, km, met, mm, tm)) (by first | exact (zSm.rf.o (by simp)).o (by simp) | exact zSm.rf.o (by simp)) (by simp [pGo, e]) ⟨by rw [zI_ne (by omega), zI_eq]; rfl, fun _ => by rw [zI_eq]; exact ev, fun a ha => by rw [zI_ne (by omega), zI_ne (by omega)]; exact hK a ha, fun a ha => by rw [zI_ne (by omega), zI_ne (by omega)]; exact hM a ha, by rw [zI_ne (by omega), zI_ne (by omega)]; exact hkm, by rw [zI_ne (by omega), zI_ne (by omega)]; exact hmm, fun z => absurd z (by decide), by simp only [pRok]; omega⟩⟩

set_option maxRecDepth 100000 in
set_option maxHeartbeats 4000000 in
theorem ct_X12_go_2 (d : Nat) {σ : zSt} (hL : zLay σ) {fd : Nat} {kin : Nat → Nat → Bool} {km : Nat} {met : Nat → Nat → Bool} {mm tm : Nat} (hR : zGd σ (2, fd, kin, km, met, mm, tm)) (c : Int32) : zCt (d + 3) MX12_go [.ref 53, .int c] σ (zQb (zGk σ c (2, fd, kin, km, met, mm, tm))) := by
  refine zCt.of (L := [some (.ref 53), some (.int c), none, none]) (by decide) (Nat.le_of_ble_eq_true rfl) rfl (fun X hC hB => ?_)
  have hC : zC X RX12 cX12_go 4 (d + 3) 0 0 := hC
  have hB : zB X (some .boolean) 0 0 "go" σ _ := hB
  show zV X 4 0 [some (.ref 53), some (.int c), none, none] [] 0 0 σ
  obtain ⟨h8, h7, hK, hM, hkm, hmm, h6, hok⟩ := hR
  have hok0 := hok
  have hmx := hok.2.2.2.2.2.1
  have hmm9 : _ = 9 → mm ≤ 11 := fun z => hmx (Or.inr z)
  simp only [pRok] at hok
  have hS1 : zSm [] [8] σ (zsI σ 53 8 3) := zSm.rf.o (by simp)
  refine v_iload_n (q := 1) hC dX12_go_0 rfl rfl rfl ?_
  refine v_bipush (q := 3) (v := 48) hC dX12_go_1 rfl (by decide) ?_
  refine v_isub (q := 4) hC dX12_go_3 rfl ?_
  refine v_istore_n (q := 5) (L' := [_, _, _, _]) hC dX12_go_4 rfl rfl (by decide) rfl rfl ?_
  refine v_aload_n (q := 6) hC dX12_go_5 rfl rfl rfl ?_
  refine v_getI (q := 9) hC dX12_go_6 rfl fX12_92 (hL.1 53 (by decide)) ?_
  rw [show zI σ 53 8 = 2 from h8]
  refine v_tableIn (q := 124) (off := 115) hC dX12_go_9 (by decide) (by decide) rfl (by decide) ?_
  refine v_aload_n (q := 125) hC dX12_go_124 rfl rfl rfl ?_
  refine v_iconst (q := 126) (v := 3) hC dX12_go_125 rfl (by decide) ?_
  refine v_putI (q := 129) hC dX12_go_126 rfl fX12_92 (hL.1 53 (by decide)) ?_
  refine v_aload_n (q := 130) hC dX12_go_129 rfl rfl rfl ?_
  refine v_iload_n (q := 131) hC dX12_go_130 rfl rfl rfl ?_
  refine v_callVQ (q := 134) (As := [_]) hC dX12_go_131 rfl lX12_95 mX12_goKin iX12_goKin eX12_goKin rfl (hL.1 53 (by decide)) (ct_X12_goKin d (hS1.lay hL) hok.2.1 (by rw [zI_ne (by omega)]; exact h7 (by simp)) (K := kin) (fun a ha => by rw [zI_ne (by omega)]; exact hK a ha) (by rw [zI_ne (by omega)]; exact hkm) (zDv_of c)) rfl rfl (by omega) (by decide) (Nat.le_of_ble_eq_true rfl) ?_
  rintro _ σ1 ⟨b, rfl, hQ⟩
  refine v_zreturn hC hB dX12_go_134 ⟨Nat.le_refl _, Nat.le_refl _⟩ (by first | exact Or.inl rfl | exact Or.inr rfl | exact zb_01 _) ?_
  refine ⟨b, rfl, ?_⟩
  cases e : pDg c with
  | none =>
    simp only [zGn, e] at hQ
    obtain ⟨rfl, rfl⟩ := hQ
    exact zGk.no (hS1.mono (by simp) (by simp)) (by simp [pGo, e])
  | some k =>
    simp only [zGn, e] at hQ
    have hk6 := (pDg_some e).1
    by_cases hx : k = fd ∨ kin fd k = true
    · rw [if_pos hx] at hQ; obtain ⟨rfl, rfl⟩ := hQ
      exact zGk.no (hS1.mono (by simp) (by simp)) (by simp [pGo, e, hx])
    · rw [if_neg hx] at hQ; obtain ⟨rfl, g1, g2, g3⟩ := hQ
      exact zGk.yes (S' := (3, fd, pAd kin fd k, km + 1, met, mm, tm)) ((hS1.mono (by simp) (by simp)).tr (g1.mono (by simp) (by simp))) (by simp [pGo, e, hx]) ⟨by rw [g1.2 8 (by simp), zI_eq]; rfl, fun z => absurd z (by decide), fun a ha => g2 a ha, fun a ha => by rw [g1.cell (by simp) (by decide), zI_ne (by omega)]; exact hM a ha, g3, by rw [g1.2 5 (by simp), zI_ne (by omega)]; exact hmm, fun z => absurd z (by decide), by simp only [pRok]; omega⟩

set_option maxRecDepth 100000 in
set_option maxHeartbeats 4000000 in
theorem ct_X12_go_5 (d : Nat) {σ : zSt} (hL : zLay σ) {fd : Nat} {kin : Nat → Nat → Bool} {km : Nat} {met : Nat → Nat → Bool} {mm tm : Nat} (hR : zGd σ (5, fd, kin, km, met, mm, tm)) (c : Int32) : zCt (d + 3) MX12_go [.ref 53, .int c] σ (zQb (zGk σ c (5, fd, kin, km, met, mm, tm))) := by
  refine zCt.of (L := [some (.ref 53), some (.int c), none, none]) (by decide) (Nat.le_of_ble_eq_true rfl) rfl (fun X hC hB => ?_)
  have hC : zC X RX12 cX12_go 4 (d + 3) 0 0 := hC
  have hB : zB X (some .boolean) 0 0 "go" σ _ := hB
  show zV X 4 0 [some (.ref 53), some (.int c), none, none] [] 0 0 σ
  obtain ⟨h8, h7, hK, hM, hkm, hmm, h6, hok⟩ := hR
  have hok0 := hok
  have hmx := hok.2.2.2.2.2.1
  have hmm9 : _ = 9 → mm ≤ 11 := fun z => hmx (Or.inr z)
  simp only [pRok] at hok
  have hS1 : zSm [] [8] σ (zsI σ 53 8 6) := zSm.rf.o (by simp)
  refine v_iload_n (q := 1) hC dX12_go_0 rfl rfl rfl ?_
  refine v_bipush (q := 3) (v := 48) hC dX12_go_1 rfl (by decide) ?_
  refine v_isub (q := 4) hC dX12_go_3 rfl ?_
  refine v_istore_n (q := 5) (L' := [_, _, _, _]) hC dX12_go_4 rfl rfl (by decide) rfl rfl ?_
  refine v_aload_n (q := 6) hC dX12_go_5 rfl rfl rfl ?_
  refine v_getI (q := 9) hC dX12_go_6 rfl fX12_92 (hL.1 53 (by decide)) ?_
  rw [show zI σ 53 8 = 5 from h8]
  refine v_tableIn (q := 204) (off := 195) hC dX12_go_9 (by decide) (by decide) rfl (by decide) ?_
  refine v_aload_n (q := 205) hC dX12_go_204 rfl rfl rfl ?_
  refine v_bipush (q := 207) (v := 6) hC dX12_go_205 rfl (by decide) ?_
  refine v_putI (q := 210) hC dX12_go_207 rfl fX12_92 (hL.1 53 (by decide)) ?_
  refine v_aload_n (q := 211) hC dX12_go_210 rfl rfl rfl ?_
  refine v_iload_n (q := 212) hC dX12_go_211 rfl rfl rfl ?_
  refine v_callVQ (q := 215) (As := [_]) hC dX12_go_212 rfl lX12_99 mX12_goMet iX12_goMet eX12_goMet rfl (hL.1 53 (by decide)) (ct_X12_goMet d (hS1.lay hL) hok.2.1 (by rw [zI_ne (by omega)]; exact h7 (by simp)) (K := met) (fun a ha => by rw [zI_ne (by omega)]; exact hM a ha) (by rw [zI_ne (by omega)]; exact hmm) (zDv_of c)) rfl rfl (by omega) (by decide) (Nat.le_of_ble_eq_true rfl) ?_
  rintro _ σ1 ⟨b, rfl, hQ⟩
  refine v_zreturn hC hB dX12_go_215 ⟨Nat.le_refl _, Nat.le_refl _⟩ (by first | exact Or.inl rfl | exact Or.inr rfl | exact zb_01 _) ?_
  refine ⟨b, rfl, ?_⟩
  cases e : pDg c with
  | none =>
    simp only [zGn, e] at hQ
    obtain ⟨rfl, rfl⟩ := hQ
    exact zGk.no (hS1.mono (by simp) (by simp)) (by simp [pGo, e])
  | some k =>
    simp only [zGn, e] at hQ
    have hk6 := (pDg_some e).1
    by_cases hx : k = fd ∨ met fd k = true
    · rw [if_pos hx] at hQ; obtain ⟨rfl, rfl⟩ := hQ
      exact zGk.no (hS1.mono (by simp) (by simp)) (by simp [pGo, e, hx])
    · rw [if_neg hx] at hQ; obtain ⟨rfl, g1, g2, g3⟩ := hQ
      exact zGk.yes (S' := (6, fd, kin, km, pAd met fd k, mm + 1, tm)) ((hS1.mono (by simp) (by simp)).tr (g1.mono (by simp) (by simp))) (by simp [pGo, e, hx]) ⟨by rw [g1.2 8 (by simp), zI_eq]; rfl, fun z => absurd z (by decide), fun a ha => by rw [g1.cell (by simp) (by decide), zI_ne (by omega)]; exact hK a ha, fun a ha => g2 a ha, by rw [g1.2 4 (by simp), zI_ne (by omega)]; exact hkm, g3, fun z => absurd z (by decide), by simp only [pRok]; omega⟩

set_option maxRecDepth 100000 in
set_option maxHeartbeats 4000000 in
theorem ct_X12_go_3 (d : Nat) {σ : zSt} (hL : zLay σ) {fd : Nat} {kin : Nat → Nat → Bool} {km : Nat} {met : Nat → Nat → Bool} {mm tm : Nat} (hR : zGd σ (3, fd, kin, km, met, mm, tm)) (c : Int32) : zCt (d + 3) MX12_go [.ref 53, .int c] σ (zQb (zGk σ c (3, fd, kin, km, met, mm, tm))) := by
  refine zCt.of (L := [some (.ref 53), some (.int c), none, none]) (by decide) (Nat.le_of_ble_eq_true rfl) rfl (fun X hC hB => ?_)
  have hC : zC X RX12 cX12_go 4 (d + 3) 0 0 := hC
  have hB : zB X (some .boolean) 0 0 "go" σ _ := hB
  show zV X 4 0 [some (.ref 53), some (.int c), none, none] [] 0 0 σ
  obtain ⟨h8, h7, hK, hM, hkm, hmm, h6, hok⟩ := hR
  have hok0 := hok
  have hmx := hok.2.2.2.2.2.1
  have hmm9 : _ = 9 → mm ≤ 11 := fun z => hmx (Or.inr z)
  simp only [pRok] at hok
  have cm : (5 : Int32) ≤ nI km ↔ 5 ≤ km := nI_leI (a := 5) (b := km) (by omega) (by omega)
  refine v_iload_n (q := 1) hC dX12_go_0 rfl rfl rfl ?_
  refine v_bipush (q := 3) (v := 48) hC dX12_go_1 rfl (by decide) ?_
  refine v_isub (q := 4) hC dX12_go_3 rfl ?_
  refine v_istore_n (q := 5) (L' := [_, _, _, _]) hC dX12_go_4 rfl rfl (by decide) rfl rfl ?_
  refine v_aload_n (q := 6) hC dX12_go_5 rfl rfl rfl ?_
  refine v_getI (q := 9) hC dX12_go_6 rfl fX12_92 (hL.1 53 (by decide)) ?_
  rw [show zI σ 53 8 = 3 from h8]
  refine v_tableIn (q := 135) (off := 126) hC dX12_go_9 (by decide) (by decide) rfl (by decide) ?_
  refine v_aload_n (q := 136) hC dX12_go_135 rfl rfl rfl ?_
  refine v_iload_n (q := 137) hC dX12_go_136 rfl rfl rfl ?_
  refine v_bipush (q := 139) (v := 44) hC dX12_go_137 rfl (by decide) ?_
  refine v_icmp_ne (q := 142) (tgt := 146) hC dX12_go_139 rfl (by decide) (fun h139 => ?_) (fun h139 => ?_)
  · refine v_iconst (q := 147) (v := 4) hC dX12_go_146 rfl (by decide) ?_
    refine v_putI (q := 150) hC dX12_go_147 rfl fX12_92 (hL.1 53 (by decide)) ?_
    refine v_iload_n (q := 151) hC dX12_go_150 rfl rfl rfl ?_
    refine v_bipush (q := 153) (v := 44) hC dX12_go_151 rfl (by decide) ?_
    refine v_icmp_ne (q := 156) (tgt := 172) hC dX12_go_153 rfl (by decide) (fun h153 => ?_) (fun h153 => ?_)
    · refine v_iload_n (q := 173) hC dX12_go_172 rfl rfl rfl ?_
      refine v_bipush (q := 175) (v := 59) hC dX12_go_173 rfl (by decide) ?_
      refine v_icmp_ne (q := 178) (tgt := 182) hC dX12_go_175 rfl (by decide) (fun h175 => ?_) (fun h175 => ?_)
      · refine v_iconst (q := 183) (v := 0) hC dX12_go_182 rfl (by decide) ?_
        refine v_zreturn hC hB dX12_go_183 ⟨Nat.le_refl _, Nat.le_refl _⟩ (by first | exact Or.inl rfl | exact Or.inr rfl | exact zb_01 _) ?_
        first
          | exact absurd h139 h153
          | exact absurd h153 h139
          | (have q1 := h139; have q2 := Nat.not_le.mp (fun z => h161 (cm.mpr z)); exact ⟨true, rfl, zGk.yes (S' := (1, fd, kin, km, met, mm, tm)) (by first | exact (zSm.rf.o (by simp)).o (by simp) | exact zSm.rf.o (by simp)) (by simp [pGo, q1, q2]) ⟨by rw [zI_eq]; rfl, fun z => absurd z (by decide), fun a ha => by rw [zI_ne (by omega)]; exact hK a ha, fun a ha => by rw [zI_ne (by omega)]; exact hM a ha, by rw [zI_ne (by omega)]; exact hkm, by rw [zI_ne (by omega)]; exact hmm, fun z => absurd z (by decide), by simp only [pRok]; omega⟩⟩)
          | (have q1 := h139; have q2 := Nat.not_lt.mpr (cm.mp h161); exact ⟨false, rfl, zGk.no (by first | exact (zSm.rf.o (by simp)).o (by simp) | exact zSm.rf.o (by simp)) (by simp [pGo, q1, q2])⟩)
          | (have q1 : ¬ c = 44 := h139; have q2 : c = 59 := h175; exact ⟨true, rfl, zGk.yes (S' := (4, fd, kin, km, met, mm, tm)) (by first | exact (zSm.rf.o (by simp)).o (by simp) | exact zSm.rf.o (by simp)) (by simp [pGo, q2]) ⟨by rw [zI_eq]; rfl, fun z => absurd z (by decide), fun a ha => by rw [zI_ne (by omega)]; exact hK a ha, fun a ha => by rw [zI_ne (by omega)]; exact hM a ha, by rw [zI_ne (by omega)]; exact hkm, by rw [zI_ne (by omega)]; exact hmm, fun z => absurd z (by decide), by simp only [pRok]; omega⟩⟩)
          | (have q1 : ¬ c = 44 := h139; have q2 : ¬ c = 59 := h175; exact ⟨false, rfl, zGk.no (by first | exact (zSm.rf.o (by simp)).o (by simp) | exact zSm.rf.o (by simp)) (by simp [pGo, q1, q2])⟩)
      · refine v_iconst (q := 179) (v := 1) hC dX12_go_178 rfl (by decide) ?_
        refine v_goto (q := 183) hC dX12_go_179 (by decide) ?_
        refine v_zreturn hC hB dX12_go_183 ⟨Nat.le_refl _, Nat.le_refl _⟩ (by first | exact Or.inl rfl | exact Or.inr rfl | exact zb_01 _) ?_
        first
          | exact absurd h139 h153
          | exact absurd h153 h139
          | (have q1 := h139; have q2 := Nat.not_le.mp (fun z => h161 (cm.mpr z)); exact ⟨true, rfl, zGk.yes (S' := (1, fd, kin, km, met, mm, tm)) (by first | exact (zSm.rf.o (by simp)).o (by simp) | exact zSm.rf.o (by simp)) (by simp [pGo, q1, q2]) ⟨by rw [zI_eq]; rfl, fun z => absurd z (by decide), fun a ha => by rw [zI_ne (by omega)]; exact hK a ha, fun a ha => by rw [zI_ne (by omega)]; exact hM a ha, by rw [zI_ne (by omega)]; exact hkm, by rw [zI_ne (by omega)]; exact hmm, fun z => absurd z (by decide), by simp only [pRok]; omega⟩⟩)
          | (have q1 := h139; have q2 := Nat.not_lt.mpr (cm.mp h161); exact ⟨false, rfl, zGk.no (by first | exact (zSm.rf.o (by simp)).o (by simp) | exact zSm.rf.o (by simp)) (by simp [pGo, q1, q2])⟩)
          | (have q1 : ¬ c = 44 := h139; have q2 : c = 59 := h175; exact ⟨true, rfl, zGk.yes (S' := (4, fd, kin, km, met, mm, tm)) (by first | exact (zSm.rf.o (by simp)).o (by simp) | exact zSm.rf.o (by simp)) (by simp [pGo, q2]) ⟨by rw [zI_eq]; rfl, fun z => absurd z (by decide), fun a ha => by rw [zI_ne (by omega)]; exact hK a ha, fun a ha => by rw [zI_ne (by omega)]; exact hM a ha, by rw [zI_ne (by omega)]; exact hkm, by rw [zI_ne (by omega)]; exact hmm, fun z => absurd z (by decide), by simp only [pRok]; omega⟩⟩)
          | (have q1 : ¬ c = 44 := h139; have q2 : ¬ c = 59 := h175; exact ⟨false, rfl, zGk.no (by first | exact (zSm.rf.o (by simp)).o (by simp) | exact zSm.rf.o (by simp)) (by simp [pGo, q1, q2])⟩)
    · refine v_aload_n (q := 157) hC dX12_go_156 rfl rfl rfl ?_
      refine v_getI (q := 160) hC dX12_go_157 rfl fX12_86 (hL.1 53 (by decide)) ?_
      rw [zI_ne (by omega), hkm]
      refine v_iconst (q := 161) (v := 5) hC dX12_go_160 rfl (by decide) ?_
      refine v_icmp_ge (q := 164) (tgt := 168) hC dX12_go_161 rfl (by decide) (fun h161 => ?_) (fun h161 => ?_)
      · refine v_iconst (q := 169) (v := 0) hC dX12_go_168 rfl (by decide) ?_
        refine v_goto (q := 183) hC dX12_go_169 (by decide) ?_
        refine v_zreturn hC hB dX12_go_183 ⟨Nat.le_refl _, Nat.le_refl _⟩ (by first | exact Or.inl rfl | exact Or.inr rfl | exact zb_01 _) ?_
        first
          | exact absurd h139 h153
          | exact absurd h153 h139
          | (have q1 := h139; have q2 := Nat.not_le.mp (fun z => h161 (cm.mpr z)); exact ⟨true, rfl, zGk.yes (S' := (1, fd, kin, km, met, mm, tm)) (by first | exact (zSm.rf.o (by simp)).o (by simp) | exact zSm.rf.o (by simp)) (by simp [pGo, q1, q2]) ⟨by rw [zI_eq]; rfl, fun z => absurd z (by decide), fun a ha => by rw [zI_ne (by omega)]; exact hK a ha, fun a ha => by rw [zI_ne (by omega)]; exact hM a ha, by rw [zI_ne (by omega)]; exact hkm, by rw [zI_ne (by omega)]; exact hmm, fun z => absurd z (by decide), by simp only [pRok]; omega⟩⟩)
          | (have q1 := h139; have q2 := Nat.not_lt.mpr (cm.mp h161); exact ⟨false, rfl, zGk.no (by first | exact (zSm.rf.o (by simp)).o (by simp) | exact zSm.rf.o (by simp)) (by simp [pGo, q1, q2])⟩)
          | (have q1 : ¬ c = 44 := h139; have q2 : c = 59 := h175; exact ⟨true, rfl, zGk.yes (S' := (4, fd, kin, km, met, mm, tm)) (by first | exact (zSm.rf.o (by simp)).o (by simp) | exact zSm.rf.o (by simp)) (by simp [pGo, q2]) ⟨by rw [zI_eq]; rfl, fun z => absurd z (by decide), fun a ha => by rw [zI_ne (by omega)]; exact hK a ha, fun a ha => by rw [zI_ne (by omega)]; exact hM a ha, by rw [zI_ne (by omega)]; exact hkm, by rw [zI_ne (by omega)]; exact hmm, fun z => absurd z (by decide), by simp only [pRok]; omega⟩⟩)
          | (have q1 : ¬ c = 44 := h139; have q2 : ¬ c = 59 := h175; exact ⟨false, rfl, zGk.no (by first | exact (zSm.rf.o (by simp)).o (by simp) | exact zSm.rf.o (by simp)) (by simp [pGo, q1, q2])⟩)
      · refine v_iconst (q := 165) (v := 1) hC dX12_go_164 rfl (by decide) ?_
        refine v_goto (q := 183) hC dX12_go_165 (by decide) ?_
        refine v_zreturn hC hB dX12_go_183 ⟨Nat.le_refl _, Nat.le_refl _⟩ (by first | exact Or.inl rfl | exact Or.inr rfl | exact zb_01 _) ?_
        first
          | exact absurd h139 h153
          | exact absurd h153 h139
          | (have q1 := h139; have q2 := Nat.not_le.mp (fun z => h161 (cm.mpr z)); exact ⟨true, rfl, zGk.yes (S' := (1, fd, kin, km, met, mm, tm)) (by first | exact (zSm.rf.o (by simp)).o (by simp) | exact zSm.rf.o (by simp)) (by simp [pGo, q1, q2]) ⟨by rw [zI_eq]; rfl, fun z => absurd z (by decide), fun a ha => by rw [zI_ne (by omega)]; exact hK a ha, fun a ha => by rw [zI_ne (by omega)]; exact hM a ha, by rw [zI_ne (by omega)]; exact hkm, by rw [zI_ne (by omega)]; exact hmm, fun z => absurd z (by decide), by simp only [pRok]; omega⟩⟩)
          | (have q1 := h139; have q2 := Nat.not_lt.mpr (cm.mp h161); exact ⟨false, rfl, zGk.no (by first | exact (zSm.rf.o (by simp)).o (by simp) | exact zSm.rf.o (by simp)) (by simp [pGo, q1, q2])⟩)
          | (have q1 : ¬ c = 44 := h139; have q2 : c = 59 := h175; exact ⟨true, rfl, zGk.yes (S' := (4, fd, kin, km, met, mm, tm)) (by first | exact (zSm.rf.o (by simp)).o (by simp) | exact zSm.rf.o (by simp)) (by simp [pGo, q2]) ⟨by rw [zI_eq]; rfl, fun z => absurd z (by decide), fun a ha => by rw [zI_ne (by omega)]; exact hK a ha, fun a ha => by rw [zI_ne (by omega)]; exact hM a ha, by rw [zI_ne (by omega)]; exact hkm, by rw [zI_ne (by omega)]; exact hmm, fun z => absurd z (by decide), by simp only [pRok]; omega⟩⟩)
          | (have q1 : ¬ c = 44 := h139; have q2 : ¬ c = 59 := h175; exact ⟨false, rfl, zGk.no (by first | exact (zSm.rf.o (by simp)).o (by simp) | exact zSm.rf.o (by simp)) (by simp [pGo, q1, q2])⟩)
  · refine v_iconst (q := 143) (v := 1) hC dX12_go_142 rfl (by decide) ?_
    refine v_goto (q := 147) hC dX12_go_143 (by decide) ?_
    refine v_putI (q := 150) hC dX12_go_147 rfl fX12_92 (hL.1 53 (by decide)) ?_
    refine v_iload_n (q := 151) hC dX12_go_150 rfl rfl rfl ?_
    refine v_bipush (q := 153) (v := 44) hC dX12_go_151 rfl (by decide) ?_
    refine v_icmp_ne (q := 156) (tgt := 172) hC dX12_go_153 rfl (by decide) (fun h153 => ?_) (fun h153 => ?_)
    · refine v_iload_n (q := 173) hC dX12_go_172 rfl rfl rfl ?_
      refine v_bipush (q := 175) (v := 59) hC dX12_go_173 rfl (by decide) ?_
      refine v_icmp_ne (q := 178) (tgt := 182) hC dX12_go_175 rfl (by decide) (fun h175 => ?_) (fun h175 => ?_)
      · refine v_iconst (q := 183) (v := 0) hC dX12_go_182 rfl (by decide) ?_
        refine v_zreturn hC hB dX12_go_183 ⟨Nat.le_refl _, Nat.le_refl _⟩ (by first | exact Or.inl rfl | exact Or.inr rfl | exact zb_01 _) ?_
        first
          | exact absurd h139 h153
          | exact absurd h153 h139
          | (have q1 := h139; have q2 := Nat.not_le.mp (fun z => h161 (cm.mpr z)); exact ⟨true, rfl, zGk.yes (S' := (1, fd, kin, km, met, mm, tm)) (by first | exact (zSm.rf.o (by simp)).o (by simp) | exact zSm.rf.o (by simp)) (by simp [pGo, q1, q2]) ⟨by rw [zI_eq]; rfl, fun z => absurd z (by decide), fun a ha => by rw [zI_ne (by omega)]; exact hK a ha, fun a ha => by rw [zI_ne (by omega)]; exact hM a ha, by rw [zI_ne (by omega)]; exact hkm, by rw [zI_ne (by omega)]; exact hmm, fun z => absurd z (by decide), by simp only [pRok]; omega⟩⟩)
          | (have q1 := h139; have q2 := Nat.not_lt.mpr (cm.mp h161); exact ⟨false, rfl, zGk.no (by first | exact (zSm.rf.o (by simp)).o (by simp) | exact zSm.rf.o (by simp)) (by simp [pGo, q1, q2])⟩)
          | (have q1 : ¬ c = 44 := h139; have q2 : c = 59 := h175; exact ⟨true, rfl, zGk.yes (S' := (4, fd, kin, km, met, mm, tm)) (by first | exact (zSm.rf.o (by simp)).o (by simp) | exact zSm.rf.o (by simp)) (by simp [pGo, q2]) ⟨by rw [zI_eq]; rfl, fun z => absurd z (by decide), fun a ha => by rw [zI_ne (by omega)]; exact hK a ha, fun a ha => by rw [zI_ne (by omega)]; exact hM a ha, by rw [zI_ne (by omega)]; exact hkm, by rw [zI_ne (by omega)]; exact hmm, fun z => absurd z (by decide), by simp only [pRok]; omega⟩⟩)
          | (have q1 : ¬ c = 44 := h139; have q2 : ¬ c = 59 := h175; exact ⟨false, rfl, zGk.no (by first | exact (zSm.rf.o (by simp)).o (by simp) | exact zSm.rf.o (by simp)) (by simp [pGo, q1, q2])⟩)
      · refine v_iconst (q := 179) (v := 1) hC dX12_go_178 rfl (by decide) ?_
        refine v_goto (q := 183) hC dX12_go_179 (by decide) ?_
        refine v_zreturn hC hB dX12_go_183 ⟨Nat.le_refl _, Nat.le_refl _⟩ (by first | exact Or.inl rfl | exact Or.inr rfl | exact zb_01 _) ?_
        first
          | exact absurd h139 h153
          | exact absurd h153 h139
          | (have q1 := h139; have q2 := Nat.not_le.mp (fun z => h161 (cm.mpr z)); exact ⟨true, rfl, zGk.yes (S' := (1, fd, kin, km, met, mm, tm)) (by first | exact (zSm.rf.o (by simp)).o (by simp) | exact zSm.rf.o (by simp)) (by simp [pGo, q1, q2]) ⟨by rw [zI_eq]; rfl, fun z => absurd z (by decide), fun a ha => by rw [zI_ne (by omega)]; exact hK a ha, fun a ha => by rw [zI_ne (by omega)]; exact hM a ha, by rw [zI_ne (by omega)]; exact hkm, by rw [zI_ne (by omega)]; exact hmm, fun z => absurd z (by decide), by simp only [pRok]; omega⟩⟩)
          | (have q1 := h139; have q2 := Nat.not_lt.mpr (cm.mp h161); exact ⟨false, rfl, zGk.no (by first | exact (zSm.rf.o (by simp)).o (by simp) | exact zSm.rf.o (by simp)) (by simp [pGo, q1, q2])⟩)
          | (have q1 : ¬ c = 44 := h139; have q2 : c = 59 := h175; exact ⟨true, rfl, zGk.yes (S' := (4, fd, kin, km, met, mm, tm)) (by first | exact (zSm.rf.o (by simp)).o (by simp) | exact zSm.rf.o (by simp)) (by simp [pGo, q2]) ⟨by rw [zI_eq]; rfl, fun z => absurd z (by decide), fun a ha => by rw [zI_ne (by omega)]; exact hK a ha, fun a ha => by rw [zI_ne (by omega)]; exact hM a ha, by rw [zI_ne (by omega)]; exact hkm, by rw [zI_ne (by omega)]; exact hmm, fun z => absurd z (by decide), by simp only [pRok]; omega⟩⟩)
          | (have q1 : ¬ c = 44 := h139; have q2 : ¬ c = 59 := h175; exact ⟨false, rfl, zGk.no (by first | exact (zSm.rf.o (by simp)).o (by simp) | exact zSm.rf.o (by simp)) (by simp [pGo, q1, q2])⟩)
    · refine v_aload_n (q := 157) hC dX12_go_156 rfl rfl rfl ?_
      refine v_getI (q := 160) hC dX12_go_157 rfl fX12_86 (hL.1 53 (by decide)) ?_
      rw [zI_ne (by omega), hkm]
      refine v_iconst (q := 161) (v := 5) hC dX12_go_160 rfl (by decide) ?_
      refine v_icmp_ge (q := 164) (tgt := 168) hC dX12_go_161 rfl (by decide) (fun h161 => ?_) (fun h161 => ?_)
      · refine v_iconst (q := 169) (v := 0) hC dX12_go_168 rfl (by decide) ?_
        refine v_goto (q := 183) hC dX12_go_169 (by decide) ?_
        refine v_zreturn hC hB dX12_go_183 ⟨Nat.le_refl _, Nat.le_refl _⟩ (by first | exact Or.inl rfl | exact Or.inr rfl | exact zb_01 _) ?_
        first
          | exact absurd h139 h153
          | exact absurd h153 h139
          | (have q1 := h139; have q2 := Nat.not_le.mp (fun z => h161 (cm.mpr z)); exact ⟨true, rfl, zGk.yes (S' := (1, fd, kin, km, met, mm, tm)) (by first | exact (zSm.rf.o (by simp)).o (by simp) | exact zSm.rf.o (by simp)) (by simp [pGo, q1, q2]) ⟨by rw [zI_eq]; rfl, fun z => absurd z (by decide), fun a ha => by rw [zI_ne (by omega)]; exact hK a ha, fun a ha => by rw [zI_ne (by omega)]; exact hM a ha, by rw [zI_ne (by omega)]; exact hkm, by rw [zI_ne (by omega)]; exact hmm, fun z => absurd z (by decide), by simp only [pRok]; omega⟩⟩)
          | (have q1 := h139; have q2 := Nat.not_lt.mpr (cm.mp h161); exact ⟨false, rfl, zGk.no (by first | exact (zSm.rf.o (by simp)).o (by simp) | exact zSm.rf.o (by simp)) (by simp [pGo, q1, q2])⟩)
          | (have q1 : ¬ c = 44 := h139; have q2 : c = 59 := h175; exact ⟨true, rfl, zGk.yes (S' := (4, fd, kin, km, met, mm, tm)) (by first | exact (zSm.rf.o (by simp)).o (by simp) | exact zSm.rf.o (by simp)) (by simp [pGo, q2]) ⟨by rw [zI_eq]; rfl, fun z => absurd z (by decide), fun a ha => by rw [zI_ne (by omega)]; exact hK a ha, fun a ha => by rw [zI_ne (by omega)]; exact hM a ha, by rw [zI_ne (by omega)]; exact hkm, by rw [zI_ne (by omega)]; exact hmm, fun z => absurd z (by decide), by simp only [pRok]; omega⟩⟩)
          | (have q1 : ¬ c = 44 := h139; have q2 : ¬ c = 59 := h175; exact ⟨false, rfl, zGk.no (by first | exact (zSm.rf.o (by simp)).o (by simp) | exact zSm.rf.o (by simp)) (by simp [pGo, q1, q2])⟩)
      · refine v_iconst (q := 165) (v := 1) hC dX12_go_164 rfl (by decide) ?_
        refine v_goto (q := 183) hC dX12_go_165 (by decide) ?_
        refine v_zreturn hC hB dX12_go_183 ⟨Nat.le_refl _, Nat.le_refl _⟩ (by first | exact Or.inl rfl | exact Or.inr rfl | exact zb_01 _) ?_
        first
          | exact absurd h139 h153
          | exact absurd h153 h139
          | (have q1 := h139; have q2 := Nat.not_le.mp (fun z => h161 (cm.mpr z)); exact ⟨true, rfl, zGk.yes (S' := (1, fd, kin, km, met, mm, tm)) (by first | exact (zSm.rf.o (by simp)).o (by simp) | exact zSm.rf.o (by simp)) (by simp [pGo, q1, q2]) ⟨by rw [zI_eq]; rfl, fun z => absurd z (by decide), fun a ha => by rw [zI_ne (by omega)]; exact hK a ha, fun a ha => by rw [zI_ne (by omega)]; exact hM a ha, by rw [zI_ne (by omega)]; exact hkm, by rw [zI_ne (by omega)]; exact hmm, fun z => absurd z (by decide), by simp only [pRok]; omega⟩⟩)
          | (have q1 := h139; have q2 := Nat.not_lt.mpr (cm.mp h161); exact ⟨false, rfl, zGk.no (by first | exact (zSm.rf.o (by simp)).o (by simp) | exact zSm.rf.o (by simp)) (by simp [pGo, q1, q2])⟩)
          | (have q1 : ¬ c = 44 := h139; have q2 : c = 59 := h175; exact ⟨true, rfl, zGk.yes (S' := (4, fd, kin, km, met, mm, tm)) (by first | exact (zSm.rf.o (by simp)).o (by simp) | exact zSm.rf.o (by simp)) (by simp [pGo, q2]) ⟨by rw [zI_eq]; rfl, fun z => absurd z (by decide), fun a ha => by rw [zI_ne (by omega)]; exact hK a ha, fun a ha => by rw [zI_ne (by omega)]; exact hM a ha, by rw [zI_ne (by omega)]; exact hkm, by rw [zI_ne (by omega)]; exact hmm, fun z => absurd z (by decide), by simp only [pRok]; omega⟩⟩)
          | (have q1 : ¬ c = 44 := h139; have q2 : ¬ c = 59 := h175; exact ⟨false, rfl, zGk.no (by first | exact (zSm.rf.o (by simp)).o (by simp) | exact zSm.rf.o (by simp)) (by simp [pGo, q1, q2])⟩)

set_option maxRecDepth 100000 in
set_option maxHeartbeats 4000000 in
theorem ct_X12_go_6 (d : Nat) {σ : zSt} (hL : zLay σ) {fd : Nat} {kin : Nat → Nat → Bool} {km : Nat} {met : Nat → Nat → Bool} {mm tm : Nat} (hR : zGd σ (6, fd, kin, km, met, mm, tm)) (c : Int32) : zCt (d + 3) MX12_go [.ref 53, .int c] σ (zQb (zGk σ c (6, fd, kin, km, met, mm, tm))) := by
  refine zCt.of (L := [some (.ref 53), some (.int c), none, none]) (by decide) (Nat.le_of_ble_eq_true rfl) rfl (fun X hC hB => ?_)
  have hC : zC X RX12 cX12_go 4 (d + 3) 0 0 := hC
  have hB : zB X (some .boolean) 0 0 "go" σ _ := hB
  show zV X 4 0 [some (.ref 53), some (.int c), none, none] [] 0 0 σ
  obtain ⟨h8, h7, hK, hM, hkm, hmm, h6, hok⟩ := hR
  have hok0 := hok
  have hmx := hok.2.2.2.2.2.1
  have hmm9 : _ = 9 → mm ≤ 11 := fun z => hmx (Or.inr z)
  simp only [pRok] at hok
  have cm : (12 : Int32) ≤ nI mm ↔ 12 ≤ mm := nI_leI (a := 12) (b := mm) (by omega) (by omega)
  refine v_iload_n (q := 1) hC dX12_go_0 rfl rfl rfl ?_
  refine v_bipush (q := 3) (v := 48) hC dX12_go_1 rfl (by decide) ?_
  refine v_isub (q := 4) hC dX12_go_3 rfl ?_
  refine v_istore_n (q := 5) (L' := [_, _, _, _]) hC dX12_go_4 rfl rfl (by decide) rfl rfl ?_
  refine v_aload_n (q := 6) hC dX12_go_5 rfl rfl rfl ?_
  refine v_getI (q := 9) hC dX12_go_6 rfl fX12_92 (hL.1 53 (by decide)) ?_
  rw [show zI σ 53 8 = 6 from h8]
  refine v_tableIn (q := 216) (off := 207) hC dX12_go_9 (by decide) (by decide) rfl (by decide) ?_
  refine v_aload_n (q := 217) hC dX12_go_216 rfl rfl rfl ?_
  refine v_iload_n (q := 218) hC dX12_go_217 rfl rfl rfl ?_
  refine v_bipush (q := 220) (v := 44) hC dX12_go_218 rfl (by decide) ?_
  refine v_icmp_ne (q := 223) (tgt := 227) hC dX12_go_220 rfl (by decide) (fun h220 => ?_) (fun h220 => ?_)
  · refine v_bipush (q := 229) (v := 7) hC dX12_go_227 rfl (by decide) ?_
    refine v_putI (q := 232) hC dX12_go_229 rfl fX12_92 (hL.1 53 (by decide)) ?_
    refine v_iload_n (q := 233) hC dX12_go_232 rfl rfl rfl ?_
    refine v_bipush (q := 235) (v := 44) hC dX12_go_233 rfl (by decide) ?_
    refine v_icmp_ne (q := 238) (tgt := 255) hC dX12_go_235 rfl (by decide) (fun h235 => ?_) (fun h235 => ?_)
    · refine v_iload_n (q := 256) hC dX12_go_255 rfl rfl rfl ?_
      refine v_bipush (q := 258) (v := 59) hC dX12_go_256 rfl (by decide) ?_
      refine v_icmp_ne (q := 261) (tgt := 265) hC dX12_go_258 rfl (by decide) (fun h258 => ?_) (fun h258 => ?_)
      · refine v_iconst (q := 266) (v := 0) hC dX12_go_265 rfl (by decide) ?_
        refine v_zreturn hC hB dX12_go_266 ⟨Nat.le_refl _, Nat.le_refl _⟩ (by first | exact Or.inl rfl | exact Or.inr rfl | exact zb_01 _) ?_
        first
          | exact absurd h220 h235
          | exact absurd h235 h220
          | (have q1 := h220; have q2 := Nat.not_le.mp (fun z => h244 (cm.mpr z)); exact ⟨true, rfl, zGk.yes (S' := (4, fd, kin, km, met, mm, tm)) (by first | exact (zSm.rf.o (by simp)).o (by simp) | exact zSm.rf.o (by simp)) (by simp [pGo, q1, q2]) ⟨by rw [zI_eq]; rfl, fun z => absurd z (by decide), fun a ha => by rw [zI_ne (by omega)]; exact hK a ha, fun a ha => by rw [zI_ne (by omega)]; exact hM a ha, by rw [zI_ne (by omega)]; exact hkm, by rw [zI_ne (by omega)]; exact hmm, fun z => absurd z (by decide), by simp only [pRok]; omega⟩⟩)
          | (have q1 := h220; have q2 := Nat.not_lt.mpr (cm.mp h244); exact ⟨false, rfl, zGk.no (by first | exact (zSm.rf.o (by simp)).o (by simp) | exact zSm.rf.o (by simp)) (by simp [pGo, q1, q2])⟩)
          | (have q1 : ¬ c = 44 := h220; have q2 : c = 59 := h258; exact ⟨true, rfl, zGk.yes (S' := (7, fd, kin, km, met, mm, tm)) (by first | exact (zSm.rf.o (by simp)).o (by simp) | exact zSm.rf.o (by simp)) (by simp [pGo, q2]) ⟨by rw [zI_eq]; rfl, fun z => absurd z (by decide), fun a ha => by rw [zI_ne (by omega)]; exact hK a ha, fun a ha => by rw [zI_ne (by omega)]; exact hM a ha, by rw [zI_ne (by omega)]; exact hkm, by rw [zI_ne (by omega)]; exact hmm, fun z => absurd z (by decide), by simp only [pRok]; omega⟩⟩)
          | (have q1 : ¬ c = 44 := h220; have q2 : ¬ c = 59 := h258; exact ⟨false, rfl, zGk.no (by first | exact (zSm.rf.o (by simp)).o (by simp) | exact zSm.rf.o (by simp)) (by simp [pGo, q1, q2])⟩)
      · refine v_iconst (q := 262) (v := 1) hC dX12_go_261 rfl (by decide) ?_
        refine v_goto (q := 266) hC dX12_go_262 (by decide) ?_
        refine v_zreturn hC hB dX12_go_266 ⟨Nat.le_refl _, Nat.le_refl _⟩ (by first | exact Or.inl rfl | exact Or.inr rfl | exact zb_01 _) ?_
        first
          | exact absurd h220 h235
          | exact absurd h235 h220
          | (have q1 := h220; have q2 := Nat.not_le.mp (fun z => h244 (cm.mpr z)); exact ⟨true, rfl, zGk.yes (S' := (4, fd, kin, km, met, mm, tm)) (by first | exact (zSm.rf.o (by simp)).o (by simp) | exact zSm.rf.o (by simp)) (by simp [pGo, q1, q2]) ⟨by rw [zI_eq]; rfl, fun z => absurd z (by decide), fun a ha => by rw [zI_ne (by omega)]; exact hK a ha, fun a ha => by rw [zI_ne (by omega)]; exact hM a ha, by rw [zI_ne (by omega)]; exact hkm, by rw [zI_ne (by omega)]; exact hmm, fun z => absurd z (by decide), by simp only [pRok]; omega⟩⟩)
          | (have q1 := h220; have q2 := Nat.not_lt.mpr (cm.mp h244); exact ⟨false, rfl, zGk.no (by first | exact (zSm.rf.o (by simp)).o (by simp) | exact zSm.rf.o (by simp)) (by simp [pGo, q1, q2])⟩)
          | (have q1 : ¬ c = 44 := h220; have q2 : c = 59 := h258; exact ⟨true, rfl, zGk.yes (S' := (7, fd, kin, km, met, mm, tm)) (by first | exact (zSm.rf.o (by simp)).o (by simp) | exact zSm.rf.o (by simp)) (by simp [pGo, q2]) ⟨by rw [zI_eq]; rfl, fun z => absurd z (by decide), fun a ha => by rw [zI_ne (by omega)]; exact hK a ha, fun a ha => by rw [zI_ne (by omega)]; exact hM a ha, by rw [zI_ne (by omega)]; exact hkm, by rw [zI_ne (by omega)]; exact hmm, fun z => absurd z (by decide), by simp only [pRok]; omega⟩⟩)
          | (have q1 : ¬ c = 44 := h220; have q2 : ¬ c = 59 := h258; exact ⟨false, rfl, zGk.no (by first | exact (zSm.rf.o (by simp)).o (by simp) | exact zSm.rf.o (by simp)) (by simp [pGo, q1, q2])⟩)
    · refine v_aload_n (q := 239) hC dX12_go_238 rfl rfl rfl ?_
      refine v_getI (q := 242) hC dX12_go_239 rfl fX12_89 (hL.1 53 (by decide)) ?_
      rw [zI_ne (by omega), hmm]
      refine v_bipush (q := 244) (v := 12) hC dX12_go_242 rfl (by decide) ?_
      refine v_icmp_ge (q := 247) (tgt := 251) hC dX12_go_244 rfl (by decide) (fun h244 => ?_) (fun h244 => ?_)
      · refine v_iconst (q := 252) (v := 0) hC dX12_go_251 rfl (by decide) ?_
        refine v_goto (q := 266) hC dX12_go_252 (by decide) ?_
        refine v_zreturn hC hB dX12_go_266 ⟨Nat.le_refl _, Nat.le_refl _⟩ (by first | exact Or.inl rfl | exact Or.inr rfl | exact zb_01 _) ?_
        first
          | exact absurd h220 h235
          | exact absurd h235 h220
          | (have q1 := h220; have q2 := Nat.not_le.mp (fun z => h244 (cm.mpr z)); exact ⟨true, rfl, zGk.yes (S' := (4, fd, kin, km, met, mm, tm)) (by first | exact (zSm.rf.o (by simp)).o (by simp) | exact zSm.rf.o (by simp)) (by simp [pGo, q1, q2]) ⟨by rw [zI_eq]; rfl, fun z => absurd z (by decide), fun a ha => by rw [zI_ne (by omega)]; exact hK a ha, fun a ha => by rw [zI_ne (by omega)]; exact hM a ha, by rw [zI_ne (by omega)]; exact hkm, by rw [zI_ne (by omega)]; exact hmm, fun z => absurd z (by decide), by simp only [pRok]; omega⟩⟩)
          | (have q1 := h220; have q2 := Nat.not_lt.mpr (cm.mp h244); exact ⟨false, rfl, zGk.no (by first | exact (zSm.rf.o (by simp)).o (by simp) | exact zSm.rf.o (by simp)) (by simp [pGo, q1, q2])⟩)
          | (have q1 : ¬ c = 44 := h220; have q2 : c = 59 := h258; exact ⟨true, rfl, zGk.yes (S' := (7, fd, kin, km, met, mm, tm)) (by first | exact (zSm.rf.o (by simp)).o (by simp) | exact zSm.rf.o (by simp)) (by simp [pGo, q2]) ⟨by rw [zI_eq]; rfl, fun z => absurd z (by decide), fun a ha => by rw [zI_ne (by omega)]; exact hK a ha, fun a ha => by rw [zI_ne (by omega)]; exact hM a ha, by rw [zI_ne (by omega)]; exact hkm, by rw [zI_ne (by omega)]; exact hmm, fun z => absurd z (by decide), by simp only [pRok]; omega⟩⟩)
          | (have q1 : ¬ c = 44 := h220; have q2 : ¬ c = 59 := h258; exact ⟨false, rfl, zGk.no (by first | exact (zSm.rf.o (by simp)).o (by simp) | exact zSm.rf.o (by simp)) (by simp [pGo, q1, q2])⟩)
      · refine v_iconst (q := 248) (v := 1) hC dX12_go_247 rfl (by decide) ?_
        refine v_goto (q := 266) hC dX12_go_248 (by decide) ?_
        refine v_zreturn hC hB dX12_go_266 ⟨Nat.le_refl _, Nat.le_refl _⟩ (by first | exact Or.inl rfl | exact Or.inr rfl | exact zb_01 _) ?_
        first
          | exact absurd h220 h235
          | exact absurd h235 h220
          | (have q1 := h220; have q2 := Nat.not_le.mp (fun z => h244 (cm.mpr z)); exact ⟨true, rfl, zGk.yes (S' := (4, fd, kin, km, met, mm, tm)) (by first | exact (zSm.rf.o (by simp)).o (by simp) | exact zSm.rf.o (by simp)) (by simp [pGo, q1, q2]) ⟨by rw [zI_eq]; rfl, fun z => absurd z (by decide), fun a ha => by rw [zI_ne (by omega)]; exact hK a ha, fun a ha => by rw [zI_ne (by omega)]; exact hM a ha, by rw [zI_ne (by omega)]; exact hkm, by rw [zI_ne (by omega)]; exact hmm, fun z => absurd z (by decide), by simp only [pRok]; omega⟩⟩)
          | (have q1 := h220; have q2 := Nat.not_lt.mpr (cm.mp h244); exact ⟨false, rfl, zGk.no (by first | exact (zSm.rf.o (by simp)).o (by simp) | exact zSm.rf.o (by simp)) (by simp [pGo, q1, q2])⟩)
          | (have q1 : ¬ c = 44 := h220; have q2 : c = 59 := h258; exact ⟨true, rfl, zGk.yes (S' := (7, fd, kin, km, met, mm, tm)) (by first | exact (zSm.rf.o (by simp)).o (by simp) | exact zSm.rf.o (by simp)) (by simp [pGo, q2]) ⟨by rw [zI_eq]; rfl, fun z => absurd z (by decide), fun a ha => by rw [zI_ne (by omega)]; exact hK a ha, fun a ha => by rw [zI_ne (by omega)]; exact hM a ha, by rw [zI_ne (by omega)]; exact hkm, by rw [zI_ne (by omega)]; exact hmm, fun z => absurd z (by decide), by simp only [pRok]; omega⟩⟩)
          | (have q1 : ¬ c = 44 := h220; have q2 : ¬ c = 59 := h258; exact ⟨false, rfl, zGk.no (by first | exact (zSm.rf.o (by simp)).o (by simp) | exact zSm.rf.o (by simp)) (by simp [pGo, q1, q2])⟩)
  · refine v_iconst (q := 224) (v := 4) hC dX12_go_223 rfl (by decide) ?_
    refine v_goto (q := 229) hC dX12_go_224 (by decide) ?_
    refine v_putI (q := 232) hC dX12_go_229 rfl fX12_92 (hL.1 53 (by decide)) ?_
    refine v_iload_n (q := 233) hC dX12_go_232 rfl rfl rfl ?_
    refine v_bipush (q := 235) (v := 44) hC dX12_go_233 rfl (by decide) ?_
    refine v_icmp_ne (q := 238) (tgt := 255) hC dX12_go_235 rfl (by decide) (fun h235 => ?_) (fun h235 => ?_)
    · refine v_iload_n (q := 256) hC dX12_go_255 rfl rfl rfl ?_
      refine v_bipush (q := 258) (v := 59) hC dX12_go_256 rfl (by decide) ?_
      refine v_icmp_ne (q := 261) (tgt := 265) hC dX12_go_258 rfl (by decide) (fun h258 => ?_) (fun h258 => ?_)
      · refine v_iconst (q := 266) (v := 0) hC dX12_go_265 rfl (by decide) ?_
        refine v_zreturn hC hB dX12_go_266 ⟨Nat.le_refl _, Nat.le_refl _⟩ (by first | exact Or.inl rfl | exact Or.inr rfl | exact zb_01 _) ?_
        first
          | exact absurd h220 h235
          | exact absurd h235 h220
          | (have q1 := h220; have q2 := Nat.not_le.mp (fun z => h244 (cm.mpr z)); exact ⟨true, rfl, zGk.yes (S' := (4, fd, kin, km, met, mm, tm)) (by first | exact (zSm.rf.o (by simp)).o (by simp) | exact zSm.rf.o (by simp)) (by simp [pGo, q1, q2]) ⟨by rw [zI_eq]; rfl, fun z => absurd z (by decide), fun a ha => by rw [zI_ne (by omega)]; exact hK a ha, fun a ha => by rw [zI_ne (by omega)]; exact hM a ha, by rw [zI_ne (by omega)]; exact hkm, by rw [zI_ne (by omega)]; exact hmm, fun z => absurd z (by decide), by simp only [pRok]; omega⟩⟩)
          | (have q1 := h220; have q2 := Nat.not_lt.mpr (cm.mp h244); exact ⟨false, rfl, zGk.no (by first | exact (zSm.rf.o (by simp)).o (by simp) | exact zSm.rf.o (by simp)) (by simp [pGo, q1, q2])⟩)
          | (have q1 : ¬ c = 44 := h220; have q2 : c = 59 := h258; exact ⟨true, rfl, zGk.yes (S' := (7, fd, kin, km, met, mm, tm)) (by first | exact (zSm.rf.o (by simp)).o (by simp) | exact zSm.rf.o (by simp)) (by simp [pGo, q2]) ⟨by rw [zI_eq]; rfl, fun z => absurd z (by decide), fun a ha => by rw [zI_ne (by omega)]; exact hK a ha, fun a ha => by rw [zI_ne (by omega)]; exact hM a ha, by rw [zI_ne (by omega)]; exact hkm, by rw [zI_ne (by omega)]; exact hmm, fun z => absurd z (by decide), by simp only [pRok]; omega⟩⟩)
          | (have q1 : ¬ c = 44 := h220; have q2 : ¬ c = 59 := h258; exact ⟨false, rfl, zGk.no (by first | exact (zSm.rf.o (by simp)).o (by simp) | exact zSm.rf.o (by simp)) (by simp [pGo, q1, q2])⟩)
      · refine v_iconst (q := 262) (v := 1) hC dX12_go_261 rfl (by decide) ?_
        refine v_goto (q := 266) hC dX12_go_262 (by decide) ?_
        refine v_zreturn hC hB dX12_go_266 ⟨Nat.le_refl _, Nat.le_refl _⟩ (by first | exact Or.inl rfl | exact Or.inr rfl | exact zb_01 _) ?_
        first
          | exact absurd h220 h235
          | exact absurd h235 h220
          | (have q1 := h220; have q2 := Nat.not_le.mp (fun z => h244 (cm.mpr z)); exact ⟨true, rfl, zGk.yes (S' := (4, fd, kin, km, met, mm, tm)) (by first | exact (zSm.rf.o (by simp)).o (by simp) | exact zSm.rf.o (by simp)) (by simp [pGo, q1, q2]) ⟨by rw [zI_eq]; rfl, fun z => absurd z (by decide), fun a ha => by rw [zI_ne (by omega)]; exact hK a ha, fun a ha => by rw [zI_ne (by omega)]; exact hM a ha, by rw [zI_ne (by omega)]; exact hkm, by rw [zI_ne (by omega)]; exact hmm, fun z => absurd z (by decide), by simp only [pRok]; omega⟩⟩)
          | (have q1 := h220; have q2 := Nat.not_lt.mpr (cm.mp h244); exact ⟨false, rfl, zGk.no (by first | exact (zSm.rf.o (by simp)).o (by simp) | exact zSm.rf.o (by simp)) (by simp [pGo, q1, q2])⟩)
          | (have q1 : ¬ c = 44 := h220; have q2 : c = 59 := h258; exact ⟨true, rfl, zGk.yes (S' := (7, fd, kin, km, met, mm, tm)) (by first | exact (zSm.rf.o (by simp)).o (by simp) | exact zSm.rf.o (by simp)) (by simp [pGo, q2]) ⟨by rw [zI_eq]; rfl, fun z => absurd z (by decide), fun a ha => by rw [zI_ne (by omega)]; exact hK a ha, fun a ha => by rw [zI_ne (by omega)]; exact hM a ha, by rw [zI_ne (by omega)]; exact hkm, by rw [zI_ne (by omega)]; exact hmm, fun z => absurd z (by decide), by simp only [pRok]; omega⟩⟩)
          | (have q1 : ¬ c = 44 := h220; have q2 : ¬ c = 59 := h258; exact ⟨false, rfl, zGk.no (by first | exact (zSm.rf.o (by simp)).o (by simp) | exact zSm.rf.o (by simp)) (by simp [pGo, q1, q2])⟩)
    · refine v_aload_n (q := 239) hC dX12_go_238 rfl rfl rfl ?_
      refine v_getI (q := 242) hC dX12_go_239 rfl fX12_89 (hL.1 53 (by decide)) ?_
      rw [zI_ne (by omega), hmm]
      refine v_bipush (q := 244) (v := 12) hC dX12_go_242 rfl (by decide) ?_
      refine v_icmp_ge (q := 247) (tgt := 251) hC dX12_go_244 rfl (by decide) (fun h244 => ?_) (fun h244 => ?_)
      · refine v_iconst (q := 252) (v := 0) hC dX12_go_251 rfl (by decide) ?_
        refine v_goto (q := 266) hC dX12_go_252 (by decide) ?_
        refine v_zreturn hC hB dX12_go_266 ⟨Nat.le_refl _, Nat.le_refl _⟩ (by first | exact Or.inl rfl | exact Or.inr rfl | exact zb_01 _) ?_
        first
          | exact absurd h220 h235
          | exact absurd h235 h220
          | (have q1 := h220; have q2 := Nat.not_le.mp (fun z => h244 (cm.mpr z)); exact ⟨true, rfl, zGk.yes (S' := (4, fd, kin, km, met, mm, tm)) (by first | exact (zSm.rf.o (by simp)).o (by simp) | exact zSm.rf.o (by simp)) (by simp [pGo, q1, q2]) ⟨by rw [zI_eq]; rfl, fun z => absurd z (by decide), fun a ha => by rw [zI_ne (by omega)]; exact hK a ha, fun a ha => by rw [zI_ne (by omega)]; exact hM a ha, by rw [zI_ne (by omega)]; exact hkm, by rw [zI_ne (by omega)]; exact hmm, fun z => absurd z (by decide), by simp only [pRok]; omega⟩⟩)
          | (have q1 := h220; have q2 := Nat.not_lt.mpr (cm.mp h244); exact ⟨false, rfl, zGk.no (by first | exact (zSm.rf.o (by simp)).o (by simp) | exact zSm.rf.o (by simp)) (by simp [pGo, q1, q2])⟩)
          | (have q1 : ¬ c = 44 := h220; have q2 : c = 59 := h258; exact ⟨true, rfl, zGk.yes (S' := (7, fd, kin, km, met, mm, tm)) (by first | exact (zSm.rf.o (by simp)).o (by simp) | exact zSm.rf.o (by simp)) (by simp [pGo, q2]) ⟨by rw [zI_eq]; rfl, fun z => absurd z (by decide), fun a ha => by rw [zI_ne (by omega)]; exact hK a ha, fun a ha => by rw [zI_ne (by omega)]; exact hM a ha, by rw [zI_ne (by omega)]; exact hkm, by rw [zI_ne (by omega)]; exact hmm, fun z => absurd z (by decide), by simp only [pRok]; omega⟩⟩)
          | (have q1 : ¬ c = 44 := h220; have q2 : ¬ c = 59 := h258; exact ⟨false, rfl, zGk.no (by first | exact (zSm.rf.o (by simp)).o (by simp) | exact zSm.rf.o (by simp)) (by simp [pGo, q1, q2])⟩)
      · refine v_iconst (q := 248) (v := 1) hC dX12_go_247 rfl (by decide) ?_
        refine v_goto (q := 266) hC dX12_go_248 (by decide) ?_
        refine v_zreturn hC hB dX12_go_266 ⟨Nat.le_refl _, Nat.le_refl _⟩ (by first | exact Or.inl rfl | exact Or.inr rfl | exact zb_01 _) ?_
        first
          | exact absurd h220 h235
          | exact absurd h235 h220
          | (have q1 := h220; have q2 := Nat.not_le.mp (fun z => h244 (cm.mpr z)); exact ⟨true, rfl, zGk.yes (S' := (4, fd, kin, km, met, mm, tm)) (by first | exact (zSm.rf.o (by simp)).o (by simp) | exact zSm.rf.o (by simp)) (by simp [pGo, q1, q2]) ⟨by rw [zI_eq]; rfl, fun z => absurd z (by decide), fun a ha => by rw [zI_ne (by omega)]; exact hK a ha, fun a ha => by rw [zI_ne (by omega)]; exact hM a ha, by rw [zI_ne (by omega)]; exact hkm, by rw [zI_ne (by omega)]; exact hmm, fun z => absurd z (by decide), by simp only [pRok]; omega⟩⟩)
          | (have q1 := h220; have q2 := Nat.not_lt.mpr (cm.mp h244); exact ⟨false, rfl, zGk.no (by first | exact (zSm.rf.o (by simp)).o (by simp) | exact zSm.rf.o (by simp)) (by simp [pGo, q1, q2])⟩)
          | (have q1 : ¬ c = 44 := h220; have q2 : c = 59 := h258; exact ⟨true, rfl, zGk.yes (S' := (7, fd, kin, km, met, mm, tm)) (by first | exact (zSm.rf.o (by simp)).o (by simp) | exact zSm.rf.o (by simp)) (by simp [pGo, q2]) ⟨by rw [zI_eq]; rfl, fun z => absurd z (by decide), fun a ha => by rw [zI_ne (by omega)]; exact hK a ha, fun a ha => by rw [zI_ne (by omega)]; exact hM a ha, by rw [zI_ne (by omega)]; exact hkm, by rw [zI_ne (by omega)]; exact hmm, fun z => absurd z (by decide), by simp only [pRok]; omega⟩⟩)
          | (have q1 : ¬ c = 44 := h220; have q2 : ¬ c = 59 := h258; exact ⟨false, rfl, zGk.no (by first | exact (zSm.rf.o (by simp)).o (by simp) | exact zSm.rf.o (by simp)) (by simp [pGo, q1, q2])⟩)

set_option maxRecDepth 100000 in
set_option maxHeartbeats 4000000 in
theorem ct_X12_go_7 (d : Nat) {σ : zSt} (hL : zLay σ) {fd : Nat} {kin : Nat → Nat → Bool} {km : Nat} {met : Nat → Nat → Bool} {mm tm : Nat} (hR : zGd σ (7, fd, kin, km, met, mm, tm)) (c : Int32) : zCt (d + 3) MX12_go [.ref 53, .int c] σ (zQb (zGk σ c (7, fd, kin, km, met, mm, tm))) := by
  refine zCt.of (L := [some (.ref 53), some (.int c), none, none]) (by decide) (Nat.le_of_ble_eq_true rfl) rfl (fun X hC hB => ?_)
  have hC : zC X RX12 cX12_go 4 (d + 3) 0 0 := hC
  have hB : zB X (some .boolean) 0 0 "go" σ _ := hB
  show zV X 4 0 [some (.ref 53), some (.int c), none, none] [] 0 0 σ
  obtain ⟨h8, h7, hK, hM, hkm, hmm, h6, hok⟩ := hR
  have hok0 := hok
  have hmx := hok.2.2.2.2.2.1
  have hmm9 : _ = 9 → mm ≤ 11 := fun z => hmx (Or.inr z)
  simp only [pRok] at hok
  refine v_iload_n (q := 1) hC dX12_go_0 rfl rfl rfl ?_
  refine v_bipush (q := 3) (v := 48) hC dX12_go_1 rfl (by decide) ?_
  refine v_isub (q := 4) hC dX12_go_3 rfl ?_
  refine v_istore_n (q := 5) (L' := [_, _, _, _]) hC dX12_go_4 rfl rfl (by decide) rfl rfl ?_
  refine v_aload_n (q := 6) hC dX12_go_5 rfl rfl rfl ?_
  refine v_getI (q := 9) hC dX12_go_6 rfl fX12_92 (hL.1 53 (by decide)) ?_
  rw [show zI σ 53 8 = 7 from h8]
  refine v_tableIn (q := 267) (off := 258) hC dX12_go_9 (by decide) (by decide) rfl (by decide) ?_
  refine v_aload_n (q := 268) hC dX12_go_267 rfl rfl rfl ?_
  refine v_bipush (q := 270) (v := 8) hC dX12_go_268 rfl (by decide) ?_
  refine v_putI (q := 273) hC dX12_go_270 rfl fX12_92 (hL.1 53 (by decide)) ?_
  refine v_aload_n (q := 274) hC dX12_go_273 rfl rfl rfl ?_
  refine v_iload_n (q := 275) hC dX12_go_274 rfl rfl rfl ?_
  refine v_putI (q := 278) hC dX12_go_275 rfl fX12_102 (hL.1 53 (by decide)) ?_
  refine v_iload_n (q := 279) hC dX12_go_278 rfl rfl rfl ?_
  refine v_i2l (q := 280) hC dX12_go_279 rfl ?_
  refine v_lconst (q := 281) (v := 1) hC dX12_go_280 rfl (by decide) ?_
  refine v_ldc2 (q := 284) hC dX12_go_281 rfl kX12_105 ?_
  refine v_callS1 (q := 287) (As := [_, _, _]) hC dX12_go_284 rfl lX12_70 mX12_in sX12_in (ct_X12_inI (d + 2) (c - 48) 1 9) rfl rfl (by omega) rfl (Nat.le_of_ble_eq_true rfl) ?_
  refine v_zreturn hC hB dX12_go_287 ⟨Nat.le_refl _, Nat.le_refl _⟩ (by first | exact Or.inl rfl | exact Or.inr rfl | exact zb_01 _) ?_
  by_cases hx : 49 ≤ c.toInt ∧ c.toInt ≤ 57
  · exact ⟨true, by rw [decide_eq_true ((zTmv c).mpr hx)], zGk.yes (S' := (8, fd, kin, km, met, mm, (c.toInt - 48).toNat)) (by first | exact (zSm.rf.o (by simp)).o (by simp) | exact zSm.rf.o (by simp)) (by simp [pGo, hx]) ⟨by rw [zI_ne (by omega), zI_eq]; rfl, fun z => absurd z (by decide), fun a ha => by rw [zI_ne (by omega), zI_ne (by omega)]; exact hK a ha, fun a ha => by rw [zI_ne (by omega), zI_ne (by omega)]; exact hM a ha, by rw [zI_ne (by omega), zI_ne (by omega)]; exact hkm, by rw [zI_ne (by omega), zI_ne (by omega)]; exact hmm, fun _ => by rw [zI_eq]; exact zTme hx, by simp only [pRok]; omega⟩⟩
  · exact ⟨false, by rw [decide_eq_false (fun z => hx ((zTmv c).mp z))], zGk.no (by first | exact (zSm.rf.o (by simp)).o (by simp) | exact zSm.rf.o (by simp)) (by simp [pGo, hx])⟩

set_option maxRecDepth 100000 in
set_option maxHeartbeats 4000000 in
theorem ct_X12_go_9 (d : Nat) {σ : zSt} (hL : zLay σ) {fd : Nat} {kin : Nat → Nat → Bool} {km : Nat} {met : Nat → Nat → Bool} {mm tm : Nat} (hR : zGd σ (9, fd, kin, km, met, mm, tm)) (c : Int32) : zCt (d + 3) MX12_go [.ref 53, .int c] σ (zQb (zGk σ c (9, fd, kin, km, met, mm, tm))) := by
  refine zCt.of (L := [some (.ref 53), some (.int c), none, none]) (by decide) (Nat.le_of_ble_eq_true rfl) rfl (fun X hC hB => ?_)
  have hC : zC X RX12 cX12_go 4 (d + 3) 0 0 := hC
  have hB : zB X (some .boolean) 0 0 "go" σ _ := hB
  show zV X 4 0 [some (.ref 53), some (.int c), none, none] [] 0 0 σ
  obtain ⟨h8, h7, hK, hM, hkm, hmm, h6, hok⟩ := hR
  have hok0 := hok
  have hmx := hok.2.2.2.2.2.1
  have hmm9 : _ = 9 → mm ≤ 11 := fun z => hmx (Or.inr z)
  simp only [pRok] at hok
  refine v_iload_n (q := 1) hC dX12_go_0 rfl rfl rfl ?_
  refine v_bipush (q := 3) (v := 48) hC dX12_go_1 rfl (by decide) ?_
  refine v_isub (q := 4) hC dX12_go_3 rfl ?_
  refine v_istore_n (q := 5) (L' := [_, _, _, _]) hC dX12_go_4 rfl rfl (by decide) rfl rfl ?_
  refine v_aload_n (q := 6) hC dX12_go_5 rfl rfl rfl ?_
  refine v_getI (q := 9) hC dX12_go_6 rfl fX12_92 (hL.1 53 (by decide)) ?_
  rw [show zI σ 53 8 = 9 from h8]
  refine v_tableIn (q := 288) (off := 279) hC dX12_go_9 (by decide) (by decide) rfl (by decide) ?_
  refine v_aload_n (q := 289) hC dX12_go_288 rfl rfl rfl ?_
  refine v_iconst (q := 290) (v := 4) hC dX12_go_289 rfl (by decide) ?_
  refine v_putI (q := 293) hC dX12_go_290 rfl fX12_92 (hL.1 53 (by decide)) ?_
  refine v_iload_n (q := 294) hC dX12_go_293 rfl rfl rfl ?_
  refine v_bipush (q := 296) (v := 59) hC dX12_go_294 rfl (by decide) ?_
  refine v_icmp_ne (q := 299) (tgt := 303) hC dX12_go_296 rfl (by decide) (fun h296 => ?_) (fun h296 => ?_)
  · refine v_iconst (q := 304) (v := 0) hC dX12_go_303 rfl (by decide) ?_
    refine v_zreturn hC hB dX12_go_304 ⟨Nat.le_refl _, Nat.le_refl _⟩ (by first | exact Or.inl rfl | exact Or.inr rfl | exact zb_01 _) ?_
    have hm11 := hmm9 rfl
    first
      | exact ⟨true, rfl, zGk.yes (S' := (4, fd, kin, km, met, mm, tm)) (by first | exact (zSm.rf.o (by simp)).o (by simp) | exact zSm.rf.o (by simp)) (by simp [pGo, h296]) ⟨by rw [zI_eq]; rfl, fun z => absurd z (by decide), fun a ha => by rw [zI_ne (by omega)]; exact hK a ha, fun a ha => by rw [zI_ne (by omega)]; exact hM a ha, by rw [zI_ne (by omega)]; exact hkm, by rw [zI_ne (by omega)]; exact hmm, fun z => absurd z (by decide), by simp only [pRok]; omega⟩⟩
      | exact ⟨false, rfl, zGk.no (by first | exact (zSm.rf.o (by simp)).o (by simp) | exact zSm.rf.o (by simp)) (by simp [pGo, h296])⟩
  · refine v_iconst (q := 300) (v := 1) hC dX12_go_299 rfl (by decide) ?_
    refine v_goto (q := 304) hC dX12_go_300 (by decide) ?_
    refine v_zreturn hC hB dX12_go_304 ⟨Nat.le_refl _, Nat.le_refl _⟩ (by first | exact Or.inl rfl | exact Or.inr rfl | exact zb_01 _) ?_
    have hm11 := hmm9 rfl
    first
      | exact ⟨true, rfl, zGk.yes (S' := (4, fd, kin, km, met, mm, tm)) (by first | exact (zSm.rf.o (by simp)).o (by simp) | exact zSm.rf.o (by simp)) (by simp [pGo, h296]) ⟨by rw [zI_eq]; rfl, fun z => absurd z (by decide), fun a ha => by rw [zI_ne (by omega)]; exact hK a ha, fun a ha => by rw [zI_ne (by omega)]; exact hM a ha, by rw [zI_ne (by omega)]; exact hkm, by rw [zI_ne (by omega)]; exact hmm, fun z => absurd z (by decide), by simp only [pRok]; omega⟩⟩
      | exact ⟨false, rfl, zGk.no (by first | exact (zSm.rf.o (by simp)).o (by simp) | exact zSm.rf.o (by simp)) (by simp [pGo, h296])⟩

set_option maxRecDepth 100000 in
set_option maxHeartbeats 4000000 in
theorem ct_X12_go_8 (d : Nat) {σ : zSt} (hL : zLay σ) {fd : Nat} {kin : Nat → Nat → Bool} {km : Nat} {met : Nat → Nat → Bool} {mm tm : Nat} (hR : zGd σ (8, fd, kin, km, met, mm, tm)) (c : Int32) : zCt (d + 3) MX12_go [.ref 53, .int c] σ (zQb (zGk σ c (8, fd, kin, km, met, mm, tm))) := by
  refine zCt.of (L := [some (.ref 53), some (.int c), none, none]) (by decide) (Nat.le_of_ble_eq_true rfl) rfl (fun X hC hB => ?_)
  have hC : zC X RX12 cX12_go 4 (d + 3) 0 0 := hC
  have hB : zB X (some .boolean) 0 0 "go" σ _ := hB
  show zV X 4 0 [some (.ref 53), some (.int c), none, none] [] 0 0 σ
  obtain ⟨h8, h7, hK, hM, hkm, hmm, h6, hok⟩ := hR
  have hok0 := hok
  have hmx := hok.2.2.2.2.2.1
  have hmm9 : _ = 9 → mm ≤ 11 := fun z => hmx (Or.inr z)
  simp only [pRok] at hok
  refine v_iload_n (q := 1) hC dX12_go_0 rfl rfl rfl ?_
  refine v_bipush (q := 3) (v := 48) hC dX12_go_1 rfl (by decide) ?_
  refine v_isub (q := 4) hC dX12_go_3 rfl ?_
  refine v_istore_n (q := 5) (L' := [_, _, _, _]) hC dX12_go_4 rfl rfl (by decide) rfl rfl ?_
  refine v_aload_n (q := 6) hC dX12_go_5 rfl rfl rfl ?_
  refine v_getI (q := 9) hC dX12_go_6 rfl fX12_92 (hL.1 53 (by decide)) ?_
  rw [show zI σ 53 8 = 8 from h8]
  refine v_tableIn (q := 305) (off := 296) hC dX12_go_9 (by decide) (by decide) rfl (by decide) ?_
  refine v_iconst (q := 306) (v := 0) hC dX12_go_305 rfl (by decide) ?_
  refine v_zreturn hC hB dX12_go_306 ⟨Nat.le_refl _, Nat.le_refl _⟩ (by first | exact Or.inl rfl | exact Or.inr rfl | exact zb_01 _) ?_
  exact ⟨false, rfl, zGk.no zSm.rf (by simp [pGo])⟩

theorem ct_X12_go (d : Nat) {σ : zSt} (hL : zLay σ) {S : pRs} (hR : zGd σ S) (c : Int32) : zCt (d + 3) MX12_go [.ref 53, .int c] σ (zQb (zGk σ c S)) := by
  obtain ⟨st, fd, kin, km, met, mm, tm⟩ := S
  have h9 : st ≤ 9 := hR.2.2.2.2.2.2.2.1
  match st, h9, hR with
  | 0, _, hR => exact ct_X12_go_0 d hL hR c
  | 1, _, hR => exact ct_X12_go_1 d hL hR c
  | 2, _, hR => exact ct_X12_go_2 d hL hR c
  | 3, _, hR => exact ct_X12_go_3 d hL hR c
  | 4, _, hR => exact ct_X12_go_4 d hL hR c
  | 5, _, hR => exact ct_X12_go_5 d hL hR c
  | 6, _, hR => exact ct_X12_go_6 d hL hR c
  | 7, _, hR => exact ct_X12_go_7 d hL hR c
  | 8, _, hR => exact ct_X12_go_8 d hL hR c
  | 9, _, hR => exact ct_X12_go_9 d hL hR c
  | st + 10, h, _ => exact absurd h (by omega)

