/-! ===== Ledger: counts, chains, a new favour, copies ===== -/
set_option maxRecDepth 100000 in
set_option maxHeartbeats 4000000 in
theorem ct_X4_doneBy (d : Nat) {σ : zSt} {c : Nat} (hg : zLg σ c) {m : Nat} {F : Nat → Nat → Int32} {w : Nat} (hd : zLd σ c m F w) (p : Int32) : zEv (d + 0) MX4_doneBy [.ref c, .int p] σ (some (.int (nI (pCnt (fun f => decide (F 0 f = p)) m)))) σ := by
  refine zCt.of (L := [some (.ref c), some (.int p), none, none]) (by decide) (Nat.le_of_ble_eq_true rfl) rfl (fun X hC hB => ?_)
  have hC : zC X RX4 cX4_doneBy 4 (d + 0) 0 0 := hC
  have hB : zB X (some .int) 0 0 "doneBy" σ _ := hB
  show zV X 4 0 [some (.ref c), some (.int p), none, none] [] 0 0 σ
  have hm := hd.2.1
  have lp : ∀ (r : Nat) (i : Nat) (x : Int32), x = nI (pCnt (fun f => decide (F 0 f = p)) i) → i + r = m → zV X 4 4 [some (.ref c), some (.int p), some (.int x), some (.int (nI i))] [] 0 0 σ := by
    intro r
    induction r with
    | zero =>
      intro i x hx hi
      subst hx
      refine v_iload_n (q := 5) hC dX4_doneBy_4 rfl rfl rfl ?_
      refine v_aload_n (q := 6) hC dX4_doneBy_5 rfl rfl rfl ?_
      refine v_getI (q := 9) hC dX4_doneBy_6 rfl fX4_30 hg.1 ?_
      rw [hd.1]
      refine v_icmp_ge (q := 12) (tgt := 31) hC dX4_doneBy_9 rfl (by decide) (fun h9 => ?_) (fun h9 => ?_)
      · refine v_iload_n (q := 32) hC dX4_doneBy_31 rfl rfl rfl ?_
        refine v_ireturn hC hB dX4_doneBy_32 ⟨Nat.le_refl _, Nat.le_refl _⟩ ?_
        have e : i = m := by omega
        subst e
        exact ⟨rfl, rfl⟩
      · exact absurd (nI_le (a := m) (b := i) (by omega) (by omega)) h9
    | succ r ih =>
      intro i x hx hi
      subst hx
      have him : i < m := by omega
      refine v_iload_n (q := 5) hC dX4_doneBy_4 rfl rfl rfl ?_
      refine v_aload_n (q := 6) hC dX4_doneBy_5 rfl rfl rfl ?_
      refine v_getI (q := 9) hC dX4_doneBy_6 rfl fX4_30 hg.1 ?_
      rw [hd.1]
      refine v_icmp_ge (q := 12) (tgt := 31) hC dX4_doneBy_9 rfl (by decide) (fun h9 => ?_) (fun h9 => ?_)
      · exact absurd h9 (nI_ge (a := i) (b := m) (by omega) (by omega))
      · refine v_aload_n (q := 13) hC dX4_doneBy_12 rfl rfl rfl ?_
        refine v_getR (q := 16) (r := (c + 1 + 0)) hC dX4_doneBy_13 rfl fX4_9 hg.1 (hg.2 0 (by decide)).2 ?_
        refine v_iload_n (q := 17) hC dX4_doneBy_16 rfl rfl rfl ?_
        refine v_ialdN (q := 18) (j := i) hC dX4_doneBy_17 rfl (hg.2 0 (by decide)).1 rfl (by omega) (by decide) ?_
        rw [hd.2.2.2 0 i (by decide) him]
        refine v_iload_n (q := 19) hC dX4_doneBy_18 rfl rfl rfl ?_
        refine v_icmp_ne (q := 22) (tgt := 25) hC dX4_doneBy_19 rfl (by decide) (fun h19 => ?_) (fun h19 => ?_)
        · refine v_iinc (q := 28) (v := 1) (L' := [_, _, _, _]) hC dX4_doneBy_25 rfl rfl (by decide) (by decide) rfl rfl ?_
          refine v_goto (q := 4) hC dX4_doneBy_28 (by decide) ?_
          rw [nI_1 i]
          exact ih (i + 1) _ (by first | exact pCnt_t (by simp_all [zb_eq0]) | exact pCnt_f (by simp_all [zb_eq0])) (by omega)
        · refine v_iinc (q := 25) (v := 1) (L' := [_, _, _, _]) hC dX4_doneBy_22 rfl rfl (by decide) (by decide) rfl rfl ?_
          refine v_iinc (q := 28) (v := 1) (L' := [_, _, _, _]) hC dX4_doneBy_25 rfl rfl (by decide) (by decide) rfl rfl ?_
          refine v_goto (q := 4) hC dX4_doneBy_28 (by decide) ?_
          rw [nI_1 i]
          exact ih (i + 1) _ (by first | exact pCnt_t (by simp_all [zb_eq0]) | exact pCnt_f (by simp_all [zb_eq0])) (by omega)
  refine v_iconst (q := 1) (v := 0) hC dX4_doneBy_0 rfl (by decide) ?_
  refine v_istore_n (q := 2) (L' := [_, _, _, _]) hC dX4_doneBy_1 rfl rfl (by decide) rfl rfl ?_
  refine v_iconst (q := 3) (v := 0) hC dX4_doneBy_2 rfl (by decide) ?_
  refine v_istore_n (q := 4) (L' := [_, _, _, _]) hC dX4_doneBy_3 rfl rfl (by decide) rfl rfl ?_
  exact lp m 0 _ rfl (by omega)

set_option maxRecDepth 100000 in
set_option maxHeartbeats 4000000 in
theorem ct_X4_doneFor (d : Nat) {σ : zSt} {c : Nat} (hg : zLg σ c) {m : Nat} {F : Nat → Nat → Int32} {w : Nat} (hd : zLd σ c m F w) (p : Int32) : zEv (d + 0) MX4_doneFor [.ref c, .int p] σ (some (.int (nI (pCnt (fun f => decide (F 1 f = p)) m)))) σ := by
  refine zCt.of (L := [some (.ref c), some (.int p), none, none]) (by decide) (Nat.le_of_ble_eq_true rfl) rfl (fun X hC hB => ?_)
  have hC : zC X RX4 cX4_doneFor 4 (d + 0) 0 0 := hC
  have hB : zB X (some .int) 0 0 "doneFor" σ _ := hB
  show zV X 4 0 [some (.ref c), some (.int p), none, none] [] 0 0 σ
  have hm := hd.2.1
  have lp : ∀ (r : Nat) (i : Nat) (x : Int32), x = nI (pCnt (fun f => decide (F 1 f = p)) i) → i + r = m → zV X 4 4 [some (.ref c), some (.int p), some (.int x), some (.int (nI i))] [] 0 0 σ := by
    intro r
    induction r with
    | zero =>
      intro i x hx hi
      subst hx
      refine v_iload_n (q := 5) hC dX4_doneFor_4 rfl rfl rfl ?_
      refine v_aload_n (q := 6) hC dX4_doneFor_5 rfl rfl rfl ?_
      refine v_getI (q := 9) hC dX4_doneFor_6 rfl fX4_30 hg.1 ?_
      rw [hd.1]
      refine v_icmp_ge (q := 12) (tgt := 31) hC dX4_doneFor_9 rfl (by decide) (fun h9 => ?_) (fun h9 => ?_)
      · refine v_iload_n (q := 32) hC dX4_doneFor_31 rfl rfl rfl ?_
        refine v_ireturn hC hB dX4_doneFor_32 ⟨Nat.le_refl _, Nat.le_refl _⟩ ?_
        have e : i = m := by omega
        subst e
        exact ⟨rfl, rfl⟩
      · exact absurd (nI_le (a := m) (b := i) (by omega) (by omega)) h9
    | succ r ih =>
      intro i x hx hi
      subst hx
      have him : i < m := by omega
      refine v_iload_n (q := 5) hC dX4_doneFor_4 rfl rfl rfl ?_
      refine v_aload_n (q := 6) hC dX4_doneFor_5 rfl rfl rfl ?_
      refine v_getI (q := 9) hC dX4_doneFor_6 rfl fX4_30 hg.1 ?_
      rw [hd.1]
      refine v_icmp_ge (q := 12) (tgt := 31) hC dX4_doneFor_9 rfl (by decide) (fun h9 => ?_) (fun h9 => ?_)
      · exact absurd h9 (nI_ge (a := i) (b := m) (by omega) (by omega))
      · refine v_aload_n (q := 13) hC dX4_doneFor_12 rfl rfl rfl ?_
        refine v_getR (q := 16) (r := (c + 1 + 1)) hC dX4_doneFor_13 rfl fX4_15 hg.1 (hg.2 1 (by decide)).2 ?_
        refine v_iload_n (q := 17) hC dX4_doneFor_16 rfl rfl rfl ?_
        refine v_ialdN (q := 18) (j := i) hC dX4_doneFor_17 rfl (hg.2 1 (by decide)).1 rfl (by omega) (by decide) ?_
        rw [hd.2.2.2 1 i (by decide) him]
        refine v_iload_n (q := 19) hC dX4_doneFor_18 rfl rfl rfl ?_
        refine v_icmp_ne (q := 22) (tgt := 25) hC dX4_doneFor_19 rfl (by decide) (fun h19 => ?_) (fun h19 => ?_)
        · refine v_iinc (q := 28) (v := 1) (L' := [_, _, _, _]) hC dX4_doneFor_25 rfl rfl (by decide) (by decide) rfl rfl ?_
          refine v_goto (q := 4) hC dX4_doneFor_28 (by decide) ?_
          rw [nI_1 i]
          exact ih (i + 1) _ (by first | exact pCnt_t (by simp_all [zb_eq0]) | exact pCnt_f (by simp_all [zb_eq0])) (by omega)
        · refine v_iinc (q := 25) (v := 1) (L' := [_, _, _, _]) hC dX4_doneFor_22 rfl rfl (by decide) (by decide) rfl rfl ?_
          refine v_iinc (q := 28) (v := 1) (L' := [_, _, _, _]) hC dX4_doneFor_25 rfl rfl (by decide) (by decide) rfl rfl ?_
          refine v_goto (q := 4) hC dX4_doneFor_28 (by decide) ?_
          rw [nI_1 i]
          exact ih (i + 1) _ (by first | exact pCnt_t (by simp_all [zb_eq0]) | exact pCnt_f (by simp_all [zb_eq0])) (by omega)
  refine v_iconst (q := 1) (v := 0) hC dX4_doneFor_0 rfl (by decide) ?_
  refine v_istore_n (q := 2) (L' := [_, _, _, _]) hC dX4_doneFor_1 rfl rfl (by decide) rfl rfl ?_
  refine v_iconst (q := 3) (v := 0) hC dX4_doneFor_2 rfl (by decide) ?_
  refine v_istore_n (q := 4) (L' := [_, _, _, _]) hC dX4_doneFor_3 rfl rfl (by decide) rfl rfl ?_
  exact lp m 0 _ rfl (by omega)

def pOw (F : Nat → Nat → Int32) (p : Int32) (f : Nat) : Bool := decide (F 1 f = p) && decide (F 5 f = -1)

set_option maxRecDepth 100000 in
set_option maxHeartbeats 4000000 in
theorem ct_X4_owes (d : Nat) {σ : zSt} {c : Nat} (hg : zLg σ c) {m : Nat} {F : Nat → Nat → Int32} {w : Nat} (hd : zLd σ c m F w) {f : Nat} (hf : f < m) (p : Int32) : zEv (d + 1) MX4_owes [.ref c, .int p, .int (nI f)] σ (some (.int (zb (pOw F p f)))) σ := by
  refine zCt.of (L := [some (.ref c), some (.int p), some (.int (nI f))]) (by decide) (Nat.le_of_ble_eq_true rfl) rfl (fun X hC hB => ?_)
  have hC : zC X RX4 cX4_owes 3 (d + 1) 0 0 := hC
  have hB : zB X (some .boolean) 0 0 "owes" σ _ := hB
  show zV X 3 0 [some (.ref c), some (.int p), some (.int (nI f))] [] 0 0 σ
  have hm := hd.2.1
  refine v_aload_n (q := 1) hC dX4_owes_0 rfl rfl rfl ?_
  refine v_getR (q := 4) (r := (c + 1 + 1)) hC dX4_owes_1 rfl fX4_15 hg.1 (hg.2 1 (by decide)).2 ?_
  refine v_iload_n (q := 5) hC dX4_owes_4 rfl rfl rfl ?_
  refine v_ialdN (q := 6) (j := f) hC dX4_owes_5 rfl (hg.2 1 (by decide)).1 rfl (by omega) (by decide) ?_
  rw [hd.2.2.2 1 f (by decide) hf]
  refine v_iload_n (q := 7) hC dX4_owes_6 rfl rfl rfl ?_
  refine v_icmp_ne (q := 10) (tgt := 22) hC dX4_owes_7 rfl (by decide) (fun h7 => ?_) (fun h7 => ?_)
  · refine v_iconst (q := 23) (v := 0) hC dX4_owes_22 rfl (by decide) ?_
    refine v_zreturn hC hB dX4_owes_23 ⟨Nat.le_refl _, Nat.le_refl _⟩ (by first | exact Or.inl rfl | exact Or.inr rfl | exact zb_01 _) ?_
    first | exact ⟨zbt (by simp_all [zb_eq0, pOw]), rfl⟩ | exact ⟨zbf (by simp_all [zb_eq0, pOw]), rfl⟩
  · refine v_aload_n (q := 11) hC dX4_owes_10 rfl rfl rfl ?_
    refine v_iload_n (q := 12) hC dX4_owes_11 rfl rfl rfl ?_
    refine v_callV1 (q := 15) (As := [_]) hC dX4_owes_12 rfl lX4_56 mX4_isOpen iX4_isOpen eX4_isOpen rfl hg.1 (ct_X4_isOpen d hg hd hf) rfl rfl (by omega) rfl (Nat.le_of_ble_eq_true rfl) ?_
    refine v_if_eq (q := 18) (tgt := 22) hC dX4_owes_15 rfl (by decide) (fun h15 => ?_) (fun h15 => ?_)
    · refine v_iconst (q := 23) (v := 0) hC dX4_owes_22 rfl (by decide) ?_
      refine v_zreturn hC hB dX4_owes_23 ⟨Nat.le_refl _, Nat.le_refl _⟩ (by first | exact Or.inl rfl | exact Or.inr rfl | exact zb_01 _) ?_
      first | exact ⟨zbt (by simp_all [zb_eq0, pOw]), rfl⟩ | exact ⟨zbf (by simp_all [zb_eq0, pOw]), rfl⟩
    · refine v_iconst (q := 19) (v := 1) hC dX4_owes_18 rfl (by decide) ?_
      refine v_goto (q := 23) hC dX4_owes_19 (by decide) ?_
      refine v_zreturn hC hB dX4_owes_23 ⟨Nat.le_refl _, Nat.le_refl _⟩ (by first | exact Or.inl rfl | exact Or.inr rfl | exact zb_01 _) ?_
      first | exact ⟨zbt (by simp_all [zb_eq0, pOw]), rfl⟩ | exact ⟨zbf (by simp_all [zb_eq0, pOw]), rfl⟩

set_option maxRecDepth 100000 in
set_option maxHeartbeats 4000000 in
theorem ct_X4_owedBy (d : Nat) {σ : zSt} {c : Nat} (hg : zLg σ c) {m : Nat} {F : Nat → Nat → Int32} {w : Nat} (hd : zLd σ c m F w) (p : Int32) : zEv (d + 2) MX4_owedBy [.ref c, .int p] σ (some (.int (nI (pCnt (fun f => pOw F p f) m)))) σ := by
  refine zCt.of (L := [some (.ref c), some (.int p), none, none]) (by decide) (Nat.le_of_ble_eq_true rfl) rfl (fun X hC hB => ?_)
  have hC : zC X RX4 cX4_owedBy 4 (d + 2) 0 0 := hC
  have hB : zB X (some .int) 0 0 "owedBy" σ _ := hB
  show zV X 4 0 [some (.ref c), some (.int p), none, none] [] 0 0 σ
  have hm := hd.2.1
  have lp : ∀ (r : Nat) (i : Nat) (x : Int32), x = nI (pCnt (fun f => pOw F p f) i) → i + r = m → zV X 4 4 [some (.ref c), some (.int p), some (.int x), some (.int (nI i))] [] 0 0 σ := by
    intro r
    induction r with
    | zero =>
      intro i x hx hi
      subst hx
      refine v_iload_n (q := 5) hC dX4_owedBy_4 rfl rfl rfl ?_
      refine v_aload_n (q := 6) hC dX4_owedBy_5 rfl rfl rfl ?_
      refine v_getI (q := 9) hC dX4_owedBy_6 rfl fX4_30 hg.1 ?_
      rw [hd.1]
      refine v_icmp_ge (q := 12) (tgt := 30) hC dX4_owedBy_9 rfl (by decide) (fun h9 => ?_) (fun h9 => ?_)
      · refine v_iload_n (q := 31) hC dX4_owedBy_30 rfl rfl rfl ?_
        refine v_ireturn hC hB dX4_owedBy_31 ⟨Nat.le_refl _, Nat.le_refl _⟩ ?_
        have e : i = m := by omega
        subst e
        exact ⟨rfl, rfl⟩
      · exact absurd (nI_le (a := m) (b := i) (by omega) (by omega)) h9
    | succ r ih =>
      intro i x hx hi
      subst hx
      have him : i < m := by omega
      refine v_iload_n (q := 5) hC dX4_owedBy_4 rfl rfl rfl ?_
      refine v_aload_n (q := 6) hC dX4_owedBy_5 rfl rfl rfl ?_
      refine v_getI (q := 9) hC dX4_owedBy_6 rfl fX4_30 hg.1 ?_
      rw [hd.1]
      refine v_icmp_ge (q := 12) (tgt := 30) hC dX4_owedBy_9 rfl (by decide) (fun h9 => ?_) (fun h9 => ?_)
      · exact absurd h9 (nI_ge (a := i) (b := m) (by omega) (by omega))
      · refine v_aload_n (q := 13) hC dX4_owedBy_12 rfl rfl rfl ?_
        refine v_iload_n (q := 14) hC dX4_owedBy_13 rfl rfl rfl ?_
        refine v_iload_n (q := 15) hC dX4_owedBy_14 rfl rfl rfl ?_
        refine v_callV1 (q := 18) (As := [_, _]) hC dX4_owedBy_15 rfl lX4_71 mX4_owes iX4_owes eX4_owes rfl hg.1 (ct_X4_owes d hg hd him p) rfl rfl (by omega) rfl (Nat.le_of_ble_eq_true rfl) ?_
        refine v_if_eq (q := 21) (tgt := 24) hC dX4_owedBy_18 rfl (by decide) (fun h18 => ?_) (fun h18 => ?_)
        · refine v_iinc (q := 27) (v := 1) (L' := [_, _, _, _]) hC dX4_owedBy_24 rfl rfl (by decide) (by decide) rfl rfl ?_
          refine v_goto (q := 4) hC dX4_owedBy_27 (by decide) ?_
          rw [nI_1 i]
          exact ih (i + 1) _ (by first | exact pCnt_t (by simp_all [zb_eq0]) | exact pCnt_f (by simp_all [zb_eq0])) (by omega)
        · refine v_iinc (q := 24) (v := 1) (L' := [_, _, _, _]) hC dX4_owedBy_21 rfl rfl (by decide) (by decide) rfl rfl ?_
          refine v_iinc (q := 27) (v := 1) (L' := [_, _, _, _]) hC dX4_owedBy_24 rfl rfl (by decide) (by decide) rfl rfl ?_
          refine v_goto (q := 4) hC dX4_owedBy_27 (by decide) ?_
          rw [nI_1 i]
          exact ih (i + 1) _ (by first | exact pCnt_t (by simp_all [zb_eq0]) | exact pCnt_f (by simp_all [zb_eq0])) (by omega)
  refine v_iconst (q := 1) (v := 0) hC dX4_owedBy_0 rfl (by decide) ?_
  refine v_istore_n (q := 2) (L' := [_, _, _, _]) hC dX4_owedBy_1 rfl rfl (by decide) rfl rfl ?_
  refine v_iconst (q := 3) (v := 0) hC dX4_owedBy_2 rfl (by decide) ?_
  refine v_istore_n (q := 4) (L' := [_, _, _, _]) hC dX4_owedBy_3 rfl rfl (by decide) rfl rfl ?_
  exact lp m 0 _ rfl (by omega)

set_option maxRecDepth 100000 in
set_option maxHeartbeats 4000000 in
theorem ct_X4_lateOf (d : Nat) {σ : zSt} {c : Nat} (hg : zLg σ c) {m : Nat} {F : Nat → Nat → Int32} {w : Nat} (hd : zLd σ c m F w) (p q : Int32) : zEv (d + 2) MX4_lateOf [.ref c, .int p, .int q] σ (some (.int (nI (pCnt (fun f => pOw F p f && decide (nI w - F 3 f > q)) m)))) σ := by
  refine zCt.of (L := [some (.ref c), some (.int p), some (.int q), none, none]) (by decide) (Nat.le_of_ble_eq_true rfl) rfl (fun X hC hB => ?_)
  have hC : zC X RX4 cX4_lateOf 5 (d + 2) 0 0 := hC
  have hB : zB X (some .int) 0 0 "lateOf" σ _ := hB
  show zV X 5 0 [some (.ref c), some (.int p), some (.int q), none, none] [] 0 0 σ
  have hm := hd.2.1
  have lp : ∀ (r : Nat) (i : Nat) (x : Int32), x = nI (pCnt (fun f => pOw F p f && decide (nI w - F 3 f > q)) i) → i + r = m → zV X 5 5 [some (.ref c), some (.int p), some (.int q), some (.int x), some (.int (nI i))] [] 0 0 σ := by
    intro r
    induction r with
    | zero =>
      intro i x hx hi
      subst hx
      refine v_iload (q := 7) hC dX4_lateOf_5 rfl rfl ?_
      refine v_aload_n (q := 8) hC dX4_lateOf_7 rfl rfl rfl ?_
      refine v_getI (q := 11) hC dX4_lateOf_8 rfl fX4_30 hg.1 ?_
      rw [hd.1]
      refine v_icmp_ge (q := 14) (tgt := 49) hC dX4_lateOf_11 rfl (by decide) (fun h11 => ?_) (fun h11 => ?_)
      · refine v_iload_n (q := 50) hC dX4_lateOf_49 rfl rfl rfl ?_
        refine v_ireturn hC hB dX4_lateOf_50 ⟨Nat.le_refl _, Nat.le_refl _⟩ ?_
        have e : i = m := by omega
        subst e
        exact ⟨rfl, rfl⟩
      · exact absurd (nI_le (a := m) (b := i) (by omega) (by omega)) h11
    | succ r ih =>
      intro i x hx hi
      subst hx
      have him : i < m := by omega
      refine v_iload (q := 7) hC dX4_lateOf_5 rfl rfl ?_
      refine v_aload_n (q := 8) hC dX4_lateOf_7 rfl rfl rfl ?_
      refine v_getI (q := 11) hC dX4_lateOf_8 rfl fX4_30 hg.1 ?_
      rw [hd.1]
      refine v_icmp_ge (q := 14) (tgt := 49) hC dX4_lateOf_11 rfl (by decide) (fun h11 => ?_) (fun h11 => ?_)
      · exact absurd h11 (nI_ge (a := i) (b := m) (by omega) (by omega))
      · refine v_aload_n (q := 15) hC dX4_lateOf_14 rfl rfl rfl ?_
        refine v_iload_n (q := 16) hC dX4_lateOf_15 rfl rfl rfl ?_
        refine v_iload (q := 18) hC dX4_lateOf_16 rfl rfl ?_
        refine v_callV1 (q := 21) (As := [_, _]) hC dX4_lateOf_18 rfl lX4_71 mX4_owes iX4_owes eX4_owes rfl hg.1 (ct_X4_owes d hg hd him p) rfl rfl (by omega) rfl (Nat.le_of_ble_eq_true rfl) ?_
        refine v_if_eq (q := 24) (tgt := 43) hC dX4_lateOf_21 rfl (by decide) (fun h21 => ?_) (fun h21 => ?_)
        · refine v_iinc (q := 46) (v := 1) (L' := [_, _, _, _, _]) hC dX4_lateOf_43 rfl rfl (by decide) (by decide) rfl rfl ?_
          refine v_goto (q := 5) hC dX4_lateOf_46 (by decide) ?_
          rw [nI_1 i]
          exact ih (i + 1) _ (by first | exact pCnt_t (by simp_all [zb_eq0]) | exact pCnt_f (by simp_all [zb_eq0])) (by omega)
        · refine v_aload_n (q := 25) hC dX4_lateOf_24 rfl rfl rfl ?_
          refine v_getI (q := 28) hC dX4_lateOf_25 rfl fX4_34 hg.1 ?_
          refine v_aload_n (q := 29) hC dX4_lateOf_28 rfl rfl rfl ?_
          refine v_getR (q := 32) (r := (c + 1 + 3)) hC dX4_lateOf_29 rfl fX4_21 hg.1 (hg.2 3 (by decide)).2 ?_
          refine v_iload (q := 34) hC dX4_lateOf_32 rfl rfl ?_
          refine v_ialdN (q := 35) (j := i) hC dX4_lateOf_34 rfl (hg.2 3 (by decide)).1 rfl (by omega) (by decide) ?_
          rw [hd.2.2.2 3 i (by decide) him, hd.2.2.1]
          refine v_isub (q := 36) hC dX4_lateOf_35 rfl ?_
          refine v_iload_n (q := 37) hC dX4_lateOf_36 rfl rfl rfl ?_
          refine v_icmp_le (q := 40) (tgt := 43) hC dX4_lateOf_37 rfl (by decide) (fun h37 => ?_) (fun h37 => ?_)
          · refine v_iinc (q := 46) (v := 1) (L' := [_, _, _, _, _]) hC dX4_lateOf_43 rfl rfl (by decide) (by decide) rfl rfl ?_
            refine v_goto (q := 5) hC dX4_lateOf_46 (by decide) ?_
            rw [nI_1 i]
            exact ih (i + 1) _ (by first | exact pCnt_t (by simp_all [zb_eq0]) | exact pCnt_f (by simp_all [zb_eq0])) (by omega)
          · refine v_iinc (q := 43) (v := 1) (L' := [_, _, _, _, _]) hC dX4_lateOf_40 rfl rfl (by decide) (by decide) rfl rfl ?_
            refine v_iinc (q := 46) (v := 1) (L' := [_, _, _, _, _]) hC dX4_lateOf_43 rfl rfl (by decide) (by decide) rfl rfl ?_
            refine v_goto (q := 5) hC dX4_lateOf_46 (by decide) ?_
            rw [nI_1 i]
            exact ih (i + 1) _ (by first | exact pCnt_t (by simp_all [zb_eq0]) | exact pCnt_f (by simp_all [zb_eq0])) (by omega)
  refine v_iconst (q := 1) (v := 0) hC dX4_lateOf_0 rfl (by decide) ?_
  refine v_istore_n (q := 2) (L' := [_, _, _, _, _]) hC dX4_lateOf_1 rfl rfl (by decide) rfl rfl ?_
  refine v_iconst (q := 3) (v := 0) hC dX4_lateOf_2 rfl (by decide) ?_
  refine v_istore (q := 5) (L' := [_, _, _, _, _]) hC dX4_lateOf_3 rfl (by decide) rfl rfl ?_
  exact lp m 0 _ rfl (by omega)

set_option maxRecDepth 100000 in
set_option maxHeartbeats 4000000 in
theorem ct_X4_openOnes (d : Nat) {σ : zSt} {c : Nat} (hg : zLg σ c) {m : Nat} {F : Nat → Nat → Int32} {w : Nat} (hd : zLd σ c m F w)  : zEv (d + 1) MX4_openOnes [.ref c] σ (some (.int (nI (pCnt (fun f => decide (F 5 f = -1)) m)))) σ := by
  refine zCt.of (L := [some (.ref c), none, none]) (by decide) (Nat.le_of_ble_eq_true rfl) rfl (fun X hC hB => ?_)
  have hC : zC X RX4 cX4_openOnes 3 (d + 1) 0 0 := hC
  have hB : zB X (some .int) 0 0 "openOnes" σ _ := hB
  show zV X 3 0 [some (.ref c), none, none] [] 0 0 σ
  have hm := hd.2.1
  have lp : ∀ (r : Nat) (i : Nat) (x : Int32), x = nI (pCnt (fun f => decide (F 5 f = -1)) i) → i + r = m → zV X 3 4 [some (.ref c), some (.int x), some (.int (nI i))] [] 0 0 σ := by
    intro r
    induction r with
    | zero =>
      intro i x hx hi
      subst hx
      refine v_iload_n (q := 5) hC dX4_openOnes_4 rfl rfl rfl ?_
      refine v_aload_n (q := 6) hC dX4_openOnes_5 rfl rfl rfl ?_
      refine v_getI (q := 9) hC dX4_openOnes_6 rfl fX4_30 hg.1 ?_
      rw [hd.1]
      refine v_icmp_ge (q := 12) (tgt := 29) hC dX4_openOnes_9 rfl (by decide) (fun h9 => ?_) (fun h9 => ?_)
      · refine v_iload_n (q := 30) hC dX4_openOnes_29 rfl rfl rfl ?_
        refine v_ireturn hC hB dX4_openOnes_30 ⟨Nat.le_refl _, Nat.le_refl _⟩ ?_
        have e : i = m := by omega
        subst e
        exact ⟨rfl, rfl⟩
      · exact absurd (nI_le (a := m) (b := i) (by omega) (by omega)) h9
    | succ r ih =>
      intro i x hx hi
      subst hx
      have him : i < m := by omega
      refine v_iload_n (q := 5) hC dX4_openOnes_4 rfl rfl rfl ?_
      refine v_aload_n (q := 6) hC dX4_openOnes_5 rfl rfl rfl ?_
      refine v_getI (q := 9) hC dX4_openOnes_6 rfl fX4_30 hg.1 ?_
      rw [hd.1]
      refine v_icmp_ge (q := 12) (tgt := 29) hC dX4_openOnes_9 rfl (by decide) (fun h9 => ?_) (fun h9 => ?_)
      · exact absurd h9 (nI_ge (a := i) (b := m) (by omega) (by omega))
      · refine v_aload_n (q := 13) hC dX4_openOnes_12 rfl rfl rfl ?_
        refine v_iload_n (q := 14) hC dX4_openOnes_13 rfl rfl rfl ?_
        refine v_callV1 (q := 17) (As := [_]) hC dX4_openOnes_14 rfl lX4_56 mX4_isOpen iX4_isOpen eX4_isOpen rfl hg.1 (ct_X4_isOpen d hg hd him) rfl rfl (by omega) rfl (Nat.le_of_ble_eq_true rfl) ?_
        refine v_if_eq (q := 20) (tgt := 23) hC dX4_openOnes_17 rfl (by decide) (fun h17 => ?_) (fun h17 => ?_)
        · refine v_iinc (q := 26) (v := 1) (L' := [_, _, _]) hC dX4_openOnes_23 rfl rfl (by decide) (by decide) rfl rfl ?_
          refine v_goto (q := 4) hC dX4_openOnes_26 (by decide) ?_
          rw [nI_1 i]
          exact ih (i + 1) _ (by first | exact pCnt_t (by simp_all [zb_eq0]) | exact pCnt_f (by simp_all [zb_eq0])) (by omega)
        · refine v_iinc (q := 23) (v := 1) (L' := [_, _, _]) hC dX4_openOnes_20 rfl rfl (by decide) (by decide) rfl rfl ?_
          refine v_iinc (q := 26) (v := 1) (L' := [_, _, _]) hC dX4_openOnes_23 rfl rfl (by decide) (by decide) rfl rfl ?_
          refine v_goto (q := 4) hC dX4_openOnes_26 (by decide) ?_
          rw [nI_1 i]
          exact ih (i + 1) _ (by first | exact pCnt_t (by simp_all [zb_eq0]) | exact pCnt_f (by simp_all [zb_eq0])) (by omega)
  refine v_iconst (q := 1) (v := 0) hC dX4_openOnes_0 rfl (by decide) ?_
  refine v_istore_n (q := 2) (L' := [_, _, _]) hC dX4_openOnes_1 rfl rfl (by decide) rfl rfl ?_
  refine v_iconst (q := 3) (v := 0) hC dX4_openOnes_2 rfl (by decide) ?_
  refine v_istore_n (q := 4) (L' := [_, _, _]) hC dX4_openOnes_3 rfl rfl (by decide) rfl rfl ?_
  exact lp m 0 _ rfl (by omega)

set_option maxRecDepth 100000 in
set_option maxHeartbeats 4000000 in
theorem ct_X4_leastOwedBy (d : Nat) {σ : zSt} {c : Nat} (hg : zLg σ c) {m : Nat} {F : Nat → Nat → Int32} {w : Nat} (hd : zLd σ c m F w) (p : Int32) : zEv (d + 2) MX4_leastOwedBy [.ref c, .int p] σ (some (.int (zo (pFst (pOw F p) m)))) σ := by
  refine zCt.of (L := [some (.ref c), some (.int p), none]) (by decide) (Nat.le_of_ble_eq_true rfl) rfl (fun X hC hB => ?_)
  have hC : zC X RX4 cX4_leastOwedBy 3 (d + 2) 0 0 := hC
  have hB : zB X (some .int) 0 0 "leastOwedBy" σ _ := hB
  show zV X 3 0 [some (.ref c), some (.int p), none] [] 0 0 σ
  have hm := hd.2.1
  have lp : ∀ (r : Nat) (i : Nat), pFst (pOw F p) i = none → i + r = m → zV X 3 2 [some (.ref c), some (.int p), some (.int (nI i))] [] 0 0 σ := by
    intro r
    induction r with
    | zero =>
      intro i hx hi
      refine v_iload_n (q := 3) hC dX4_leastOwedBy_2 rfl rfl rfl ?_
      refine v_aload_n (q := 4) hC dX4_leastOwedBy_3 rfl rfl rfl ?_
      refine v_getI (q := 7) hC dX4_leastOwedBy_4 rfl fX4_30 hg.1 ?_
      rw [hd.1]
      refine v_icmp_ge (q := 10) (tgt := 27) hC dX4_leastOwedBy_7 rfl (by decide) (fun h7 => ?_) (fun h7 => ?_)
      · refine v_iconst (q := 28) (v := -1) hC dX4_leastOwedBy_27 rfl (by decide) ?_
        refine v_ireturn hC hB dX4_leastOwedBy_28 ⟨Nat.le_refl _, Nat.le_refl _⟩ ?_
        have e : i = m := by omega
        subst e
        rw [hx]
        exact ⟨rfl, rfl⟩
      · exact absurd (nI_le (a := m) (b := i) (by omega) (by omega)) h7
    | succ r ih =>
      intro i hx hi
      have him : i < m := by omega
      refine v_iload_n (q := 3) hC dX4_leastOwedBy_2 rfl rfl rfl ?_
      refine v_aload_n (q := 4) hC dX4_leastOwedBy_3 rfl rfl rfl ?_
      refine v_getI (q := 7) hC dX4_leastOwedBy_4 rfl fX4_30 hg.1 ?_
      rw [hd.1]
      refine v_icmp_ge (q := 10) (tgt := 27) hC dX4_leastOwedBy_7 rfl (by decide) (fun h7 => ?_) (fun h7 => ?_)
      · exact absurd h7 (nI_ge (a := i) (b := m) (by omega) (by omega))
      · refine v_aload_n (q := 11) hC dX4_leastOwedBy_10 rfl rfl rfl ?_
        refine v_iload_n (q := 12) hC dX4_leastOwedBy_11 rfl rfl rfl ?_
        refine v_iload_n (q := 13) hC dX4_leastOwedBy_12 rfl rfl rfl ?_
        refine v_callV1 (q := 16) (As := [_, _]) hC dX4_leastOwedBy_13 rfl lX4_71 mX4_owes iX4_owes eX4_owes rfl hg.1 (ct_X4_owes d hg hd him p) rfl rfl (by omega) rfl (Nat.le_of_ble_eq_true rfl) ?_
        refine v_if_eq (q := 19) (tgt := 21) hC dX4_leastOwedBy_16 rfl (by decide) (fun h16 => ?_) (fun h16 => ?_)
        · refine v_iinc (q := 24) (v := 1) (L' := [_, _, _]) hC dX4_leastOwedBy_21 rfl rfl (by decide) (by decide) rfl rfl ?_
          refine v_goto (q := 2) hC dX4_leastOwedBy_24 (by decide) ?_
          rw [nI_1 i]
          exact ih (i + 1) (pFst_f hx (by simpa [zb_eq0] using h16)) (by omega)
        · refine v_iload_n (q := 20) hC dX4_leastOwedBy_19 rfl rfl rfl ?_
          refine v_ireturn hC hB dX4_leastOwedBy_20 ⟨Nat.le_refl _, Nat.le_refl _⟩ ?_
          rw [pFst_at hx (by simpa [zb_eq0] using h16) him]
          exact ⟨rfl, rfl⟩
  refine v_iconst (q := 1) (v := 0) hC dX4_leastOwedBy_0 rfl (by decide) ?_
  refine v_istore_n (q := 2) (L' := [_, _, _]) hC dX4_leastOwedBy_1 rfl rfl (by decide) rfl rfl ?_
  exact lp m 0 rfl (by omega)

def pAh (F : Nat → Nat → Int32) : Nat → Nat → Nat
  | 0, _ => 0
  | k + 1, f => if F 4 f = -1 then 0 else pAh F k (dN (F 4 f)) + 1
def pFo (F : Nat → Nat → Int32) : Nat → Nat → Nat
  | 0, f => f
  | k + 1, f => if F 4 f = -1 then f else pFo F k (dN (F 4 f))
def pHm (F : Nat → Nat → Int32) (x : Int32) : Nat → Int32 → Bool
  | 0, _ => false
  | k + 1, a => if a = -1 then false else if F 1 (dN a) = x then true else pHm F x k (F 5 (dN a))

set_option maxRecDepth 100000 in
set_option maxHeartbeats 4000000 in
theorem ct_X4_aheadOf (d : Nat) {σ : zSt} {c : Nat} (hg : zLg σ c) {m : Nat} {F : Nat → Nat → Int32} {w : Nat} (hd : zLd σ c m F w) {n : Nat} (hw : pLw m F n w) {f : Nat} (hf : f < m) : zEv (d + 0) MX4_aheadOf [.ref c, .int (nI f)] σ (some (.int (nI (pAh F 12 f)))) σ := by
  refine zCt.of (L := [some (.ref c), some (.int (nI f)), none, none]) (by decide) (Nat.le_of_ble_eq_true rfl) rfl (fun X hC hB => ?_)
  have hC : zC X RX4 cX4_aheadOf 4 (d + 0) 0 0 := hC
  have hB : zB X (some .int) 0 0 "aheadOf" σ _ := hB
  show zV X 4 0 [some (.ref c), some (.int (nI f)), none, none] [] 0 0 σ
  have hm := hd.2.1
  obtain ⟨v, hv0⟩ : ∃ v, v = pAh F 12 f := ⟨_, rfl⟩
  rw [← hv0] at hB
  generalize hp : nI f = p
  have lp : ∀ (r : Nat) (i f : Nat), f < m → i + r = 12 → i + pAh F r f = v → zV X 4 4 [some (.ref c), some (.int p), some (.int (nI i)), some (.int (nI f))] [] 0 0 σ := by
    intro r
    induction r with
    | zero =>
      intro i f hf hi hv
      refine v_iload_n (q := 5) hC dX4_aheadOf_4 rfl rfl rfl ?_
      refine v_bipush (q := 7) (v := 12) hC dX4_aheadOf_5 rfl (by decide) ?_
      refine v_icmp_ge (q := 10) (tgt := 33) hC dX4_aheadOf_7 rfl (by decide) (fun h7 => ?_) (fun h7 => ?_)
      · refine v_iload_n (q := 34) hC dX4_aheadOf_33 rfl rfl rfl ?_
        refine v_ireturn hC hB dX4_aheadOf_34 ⟨Nat.le_refl _, Nat.le_refl _⟩ ?_
        simp only [pAh] at hv
        have e : i = v := by omega
        subst e
        exact ⟨rfl, rfl⟩
      · exact absurd (nI_le (a := 12) (b := i) (by omega) (by omega)) h7
    | succ r ih =>
      intro i f hf hi hv
      refine v_iload_n (q := 5) hC dX4_aheadOf_4 rfl rfl rfl ?_
      refine v_bipush (q := 7) (v := 12) hC dX4_aheadOf_5 rfl (by decide) ?_
      refine v_icmp_ge (q := 10) (tgt := 33) hC dX4_aheadOf_7 rfl (by decide) (fun h7 => ?_) (fun h7 => ?_)
      · exact absurd h7 (nI_ge (a := i) (b := 12) (by omega) (by omega))
      · refine v_aload_n (q := 11) hC dX4_aheadOf_10 rfl rfl rfl ?_
        refine v_getR (q := 14) (r := (c + 1 + 4)) hC dX4_aheadOf_11 rfl fX4_24 hg.1 (hg.2 4 (by decide)).2 ?_
        refine v_iload_n (q := 15) hC dX4_aheadOf_14 rfl rfl rfl ?_
        refine v_ialdN (q := 16) (j := f) hC dX4_aheadOf_15 rfl (hg.2 4 (by decide)).1 rfl (by omega) (by decide) ?_
        rw [hd.2.2.2 4 f (by decide) hf]
        refine v_iconst (q := 17) (v := -1) hC dX4_aheadOf_16 rfl (by decide) ?_
        refine v_icmp_eq (q := 20) (tgt := 33) hC dX4_aheadOf_17 rfl (by decide) (fun h17 => ?_) (fun h17 => ?_)
        · refine v_iload_n (q := 34) hC dX4_aheadOf_33 rfl rfl rfl ?_
          refine v_ireturn hC hB dX4_aheadOf_34 ⟨Nat.le_refl _, Nat.le_refl _⟩ ?_
          simp only [pAh] at hv
          rw [if_pos h17] at hv
          have e : i = v := by omega
          subst e
          exact ⟨rfl, rfl⟩
        · obtain ⟨g, hgf, e4⟩ := ((hw.2 f hf).2.2.2.2.1).resolve_left h17
          have eD : dN (F 4 f) = g := by rw [e4]; exact dN_nI (by omega)
          refine v_aload_n (q := 21) hC dX4_aheadOf_20 rfl rfl rfl ?_
          refine v_getR (q := 24) (r := (c + 1 + 4)) hC dX4_aheadOf_21 rfl fX4_24 hg.1 (hg.2 4 (by decide)).2 ?_
          refine v_iload_n (q := 25) hC dX4_aheadOf_24 rfl rfl rfl ?_
          refine v_ialdN (q := 26) (j := f) hC dX4_aheadOf_25 rfl (hg.2 4 (by decide)).1 rfl (by omega) (by decide) ?_
          rw [hd.2.2.2 4 f (by decide) hf]
          refine v_istore_n (q := 27) (L' := [_, _, _, _]) hC dX4_aheadOf_26 rfl rfl (by decide) rfl rfl ?_
          refine v_iinc (q := 30) (v := 1) (L' := [_, _, _, _]) hC dX4_aheadOf_27 rfl rfl (by decide) (by decide) rfl rfl ?_
          refine v_goto (q := 4) hC dX4_aheadOf_30 (by decide) ?_
          rw [nI_1 i, e4]
          exact ih (i + 1) g (by omega) (by omega) (by simp only [pAh] at hv; rw [if_neg h17, eD] at hv; omega)
  refine v_iconst (q := 1) (v := 0) hC dX4_aheadOf_0 rfl (by decide) ?_
  refine v_istore_n (q := 2) (L' := [_, _, _, _]) hC dX4_aheadOf_1 rfl rfl (by decide) rfl rfl ?_
  refine v_iload_n (q := 3) hC dX4_aheadOf_2 rfl rfl rfl ?_
  refine v_istore_n (q := 4) (L' := [_, _, _, _]) hC dX4_aheadOf_3 rfl rfl (by decide) rfl rfl ?_
  subst hp
  exact lp 12 0 f hf (by omega) (by omega)

set_option maxRecDepth 100000 in
set_option maxHeartbeats 4000000 in
theorem ct_X4_firstOf (d : Nat) {σ : zSt} {c : Nat} (hg : zLg σ c) {m : Nat} {F : Nat → Nat → Int32} {w : Nat} (hd : zLd σ c m F w) {n : Nat} (hw : pLw m F n w) {f : Nat} (hf : f < m) : zEv (d + 0) MX4_firstOf [.ref c, .int (nI f)] σ (some (.int (nI (pFo F 12 f)))) σ := by
  refine zCt.of (L := [some (.ref c), some (.int (nI f)), none, none]) (by decide) (Nat.le_of_ble_eq_true rfl) rfl (fun X hC hB => ?_)
  have hC : zC X RX4 cX4_firstOf 4 (d + 0) 0 0 := hC
  have hB : zB X (some .int) 0 0 "firstOf" σ _ := hB
  show zV X 4 0 [some (.ref c), some (.int (nI f)), none, none] [] 0 0 σ
  have hm := hd.2.1
  obtain ⟨v, hv0⟩ : ∃ v, v = pFo F 12 f := ⟨_, rfl⟩
  rw [← hv0] at hB
  generalize hp : nI f = p
  have lp : ∀ (r : Nat) (i f : Nat), f < m → i + r = 12 → pFo F r f = v → zV X 4 4 [some (.ref c), some (.int p), some (.int (nI f)), some (.int (nI i))] [] 0 0 σ := by
    intro r
    induction r with
    | zero =>
      intro i f hf hi hv
      refine v_iload_n (q := 5) hC dX4_firstOf_4 rfl rfl rfl ?_
      refine v_bipush (q := 7) (v := 12) hC dX4_firstOf_5 rfl (by decide) ?_
      refine v_icmp_ge (q := 10) (tgt := 33) hC dX4_firstOf_7 rfl (by decide) (fun h7 => ?_) (fun h7 => ?_)
      · refine v_iload_n (q := 34) hC dX4_firstOf_33 rfl rfl rfl ?_
        refine v_ireturn hC hB dX4_firstOf_34 ⟨Nat.le_refl _, Nat.le_refl _⟩ ?_
        simp only [pFo] at hv
        subst hv
        exact ⟨rfl, rfl⟩
      · exact absurd (nI_le (a := 12) (b := i) (by omega) (by omega)) h7
    | succ r ih =>
      intro i f hf hi hv
      refine v_iload_n (q := 5) hC dX4_firstOf_4 rfl rfl rfl ?_
      refine v_bipush (q := 7) (v := 12) hC dX4_firstOf_5 rfl (by decide) ?_
      refine v_icmp_ge (q := 10) (tgt := 33) hC dX4_firstOf_7 rfl (by decide) (fun h7 => ?_) (fun h7 => ?_)
      · exact absurd h7 (nI_ge (a := i) (b := 12) (by omega) (by omega))
      · refine v_aload_n (q := 11) hC dX4_firstOf_10 rfl rfl rfl ?_
        refine v_getR (q := 14) (r := (c + 1 + 4)) hC dX4_firstOf_11 rfl fX4_24 hg.1 (hg.2 4 (by decide)).2 ?_
        refine v_iload_n (q := 15) hC dX4_firstOf_14 rfl rfl rfl ?_
        refine v_ialdN (q := 16) (j := f) hC dX4_firstOf_15 rfl (hg.2 4 (by decide)).1 rfl (by omega) (by decide) ?_
        rw [hd.2.2.2 4 f (by decide) hf]
        refine v_iconst (q := 17) (v := -1) hC dX4_firstOf_16 rfl (by decide) ?_
        refine v_icmp_eq (q := 20) (tgt := 33) hC dX4_firstOf_17 rfl (by decide) (fun h17 => ?_) (fun h17 => ?_)
        · refine v_iload_n (q := 34) hC dX4_firstOf_33 rfl rfl rfl ?_
          refine v_ireturn hC hB dX4_firstOf_34 ⟨Nat.le_refl _, Nat.le_refl _⟩ ?_
          simp only [pFo] at hv
          rw [if_pos h17] at hv
          subst hv
          exact ⟨rfl, rfl⟩
        · obtain ⟨g, hgf, e4⟩ := ((hw.2 f hf).2.2.2.2.1).resolve_left h17
          have eD : dN (F 4 f) = g := by rw [e4]; exact dN_nI (by omega)
          refine v_aload_n (q := 21) hC dX4_firstOf_20 rfl rfl rfl ?_
          refine v_getR (q := 24) (r := (c + 1 + 4)) hC dX4_firstOf_21 rfl fX4_24 hg.1 (hg.2 4 (by decide)).2 ?_
          refine v_iload_n (q := 25) hC dX4_firstOf_24 rfl rfl rfl ?_
          refine v_ialdN (q := 26) (j := f) hC dX4_firstOf_25 rfl (hg.2 4 (by decide)).1 rfl (by omega) (by decide) ?_
          rw [hd.2.2.2 4 f (by decide) hf]
          refine v_istore_n (q := 27) (L' := [_, _, _, _]) hC dX4_firstOf_26 rfl rfl (by decide) rfl rfl ?_
          refine v_iinc (q := 30) (v := 1) (L' := [_, _, _, _]) hC dX4_firstOf_27 rfl rfl (by decide) (by decide) rfl rfl ?_
          refine v_goto (q := 4) hC dX4_firstOf_30 (by decide) ?_
          rw [nI_1 i, e4]
          exact ih (i + 1) g (by omega) (by omega) (by simp only [pFo] at hv; rw [if_neg h17, eD] at hv; exact hv)
  refine v_iload_n (q := 1) hC dX4_firstOf_0 rfl rfl rfl ?_
  refine v_istore_n (q := 2) (L' := [_, _, _, _]) hC dX4_firstOf_1 rfl rfl (by decide) rfl rfl ?_
  refine v_iconst (q := 3) (v := 0) hC dX4_firstOf_2 rfl (by decide) ?_
  refine v_istore_n (q := 4) (L' := [_, _, _, _]) hC dX4_firstOf_3 rfl rfl (by decide) rfl rfl ?_
  subst hp
  exact lp 12 0 f hf (by omega) hv0.symm

set_option maxRecDepth 100000 in
set_option maxHeartbeats 4000000 in
theorem ct_X4_isHome (d : Nat) {σ : zSt} {c : Nat} (hg : zLg σ c) {m : Nat} {F : Nat → Nat → Int32} {w : Nat} (hd : zLd σ c m F w) {n : Nat} (hw : pLw m F n w) {f : Nat} (hf : f < m) : zEv (d + 0) MX4_isHome [.ref c, .int (nI f)] σ (some (.int (zb (pHm F (F 0 f) 12 (F 5 f))))) σ := by
  refine zCt.of (L := [some (.ref c), some (.int (nI f)), none, none]) (by decide) (Nat.le_of_ble_eq_true rfl) rfl (fun X hC hB => ?_)
  have hC : zC X RX4 cX4_isHome 4 (d + 0) 0 0 := hC
  have hB : zB X (some .boolean) 0 0 "isHome" σ _ := hB
  show zV X 4 0 [some (.ref c), some (.int (nI f)), none, none] [] 0 0 σ
  have hm := hd.2.1
  obtain ⟨v, hv0⟩ : ∃ v, v = pHm F (F 0 f) 12 (F 5 f) := ⟨_, rfl⟩
  rw [← hv0] at hB
  have lp : ∀ (r : Nat) (i : Nat) (a : Int32), (a = -1 ∨ ∃ g, g < m ∧ a = nI g) → i + r = 12 → pHm F (F 0 f) r a = v → zV X 4 9 [some (.ref c), some (.int (nI f)), some (.int a), some (.int (nI i))] [] 0 0 σ := by
    intro r
    induction r with
    | zero =>
      intro i a ha hi hv
      refine v_iload_n (q := 10) hC dX4_isHome_9 rfl rfl rfl ?_
      refine v_bipush (q := 12) (v := 12) hC dX4_isHome_10 rfl (by decide) ?_
      refine v_icmp_ge (q := 15) (tgt := 50) hC dX4_isHome_12 rfl (by decide) (fun h12 => ?_) (fun h12 => ?_)
      · refine v_iconst (q := 51) (v := 0) hC dX4_isHome_50 rfl (by decide) ?_
        refine v_zreturn hC hB dX4_isHome_51 ⟨Nat.le_refl _, Nat.le_refl _⟩ (by first | exact Or.inl rfl | exact Or.inr rfl | exact zb_01 _) ?_
        simp only [pHm] at hv
        subst hv
        exact ⟨rfl, rfl⟩
      · exact absurd (nI_le (a := 12) (b := i) (by omega) (by omega)) h12
    | succ r ih =>
      intro i a ha hi hv
      refine v_iload_n (q := 10) hC dX4_isHome_9 rfl rfl rfl ?_
      refine v_bipush (q := 12) (v := 12) hC dX4_isHome_10 rfl (by decide) ?_
      refine v_icmp_ge (q := 15) (tgt := 50) hC dX4_isHome_12 rfl (by decide) (fun h12 => ?_) (fun h12 => ?_)
      · exact absurd h12 (nI_ge (a := i) (b := 12) (by omega) (by omega))
      · refine v_iload_n (q := 16) hC dX4_isHome_15 rfl rfl rfl ?_
        refine v_iconst (q := 17) (v := -1) hC dX4_isHome_16 rfl (by decide) ?_
        refine v_icmp_eq (q := 20) (tgt := 50) hC dX4_isHome_17 rfl (by decide) (fun h17 => ?_) (fun h17 => ?_)
        · refine v_iconst (q := 51) (v := 0) hC dX4_isHome_50 rfl (by decide) ?_
          refine v_zreturn hC hB dX4_isHome_51 ⟨Nat.le_refl _, Nat.le_refl _⟩ (by first | exact Or.inl rfl | exact Or.inr rfl | exact zb_01 _) ?_
          simp only [pHm] at hv
          rw [if_pos h17] at hv
          subst hv
          exact ⟨rfl, rfl⟩
        · obtain ⟨g, hgm, rfl⟩ := ha.resolve_left h17
          have eD : dN (nI g) = g := dN_nI (by omega)
          refine v_aload_n (q := 21) hC dX4_isHome_20 rfl rfl rfl ?_
          refine v_getR (q := 24) (r := (c + 1 + 1)) hC dX4_isHome_21 rfl fX4_15 hg.1 (hg.2 1 (by decide)).2 ?_
          refine v_iload_n (q := 25) hC dX4_isHome_24 rfl rfl rfl ?_
          refine v_ialdN (q := 26) (j := g) hC dX4_isHome_25 rfl (hg.2 1 (by decide)).1 rfl (by omega) (by decide) ?_
          rw [hd.2.2.2 1 g (by decide) hgm]
          refine v_aload_n (q := 27) hC dX4_isHome_26 rfl rfl rfl ?_
          refine v_getR (q := 30) (r := (c + 1 + 0)) hC dX4_isHome_27 rfl fX4_9 hg.1 (hg.2 0 (by decide)).2 ?_
          refine v_iload_n (q := 31) hC dX4_isHome_30 rfl rfl rfl ?_
          refine v_ialdN (q := 32) (j := f) hC dX4_isHome_31 rfl (hg.2 0 (by decide)).1 rfl (by omega) (by decide) ?_
          rw [hd.2.2.2 0 f (by decide) hf]
          refine v_icmp_ne (q := 35) (tgt := 37) hC dX4_isHome_32 rfl (by decide) (fun h32 => ?_) (fun h32 => ?_)
          · refine v_aload_n (q := 38) hC dX4_isHome_37 rfl rfl rfl ?_
            refine v_getR (q := 41) (r := (c + 1 + 5)) hC dX4_isHome_38 rfl fX4_27 hg.1 (hg.2 5 (by decide)).2 ?_
            refine v_iload_n (q := 42) hC dX4_isHome_41 rfl rfl rfl ?_
            refine v_ialdN (q := 43) (j := g) hC dX4_isHome_42 rfl (hg.2 5 (by decide)).1 rfl (by omega) (by decide) ?_
            rw [hd.2.2.2 5 g (by decide) hgm]
            refine v_istore_n (q := 44) (L' := [_, _, _, _]) hC dX4_isHome_43 rfl rfl (by decide) rfl rfl ?_
            refine v_iinc (q := 47) (v := 1) (L' := [_, _, _, _]) hC dX4_isHome_44 rfl rfl (by decide) (by decide) rfl rfl ?_
            refine v_goto (q := 9) hC dX4_isHome_47 (by decide) ?_
            rw [nI_1 i]
            refine ih (i + 1) _ ?_ (by omega) (by simp only [pHm] at hv; rw [if_neg h17, eD, if_neg h32] at hv; exact hv)
            rcases (hw.2 g hgm).2.2.2.2.2 with e | ⟨g2, h1, h2, e⟩
            · exact Or.inl e
            · exact Or.inr ⟨g2, h2, e⟩
          · refine v_iconst (q := 36) (v := 1) hC dX4_isHome_35 rfl (by decide) ?_
            refine v_zreturn hC hB dX4_isHome_36 ⟨Nat.le_refl _, Nat.le_refl _⟩ (by first | exact Or.inl rfl | exact Or.inr rfl | exact zb_01 _) ?_
            simp only [pHm] at hv
            rw [if_neg h17, eD, if_pos h32] at hv
            subst hv
            exact ⟨rfl, rfl⟩
  refine v_aload_n (q := 1) hC dX4_isHome_0 rfl rfl rfl ?_
  refine v_getR (q := 4) (r := (c + 1 + 5)) hC dX4_isHome_1 rfl fX4_27 hg.1 (hg.2 5 (by decide)).2 ?_
  refine v_iload_n (q := 5) hC dX4_isHome_4 rfl rfl rfl ?_
  refine v_ialdN (q := 6) (j := f) hC dX4_isHome_5 rfl (hg.2 5 (by decide)).1 rfl (by omega) (by decide) ?_
  rw [hd.2.2.2 5 f (by decide) hf]
  refine v_istore_n (q := 7) (L' := [_, _, _, _]) hC dX4_isHome_6 rfl rfl (by decide) rfl rfl ?_
  refine v_iconst (q := 8) (v := 0) hC dX4_isHome_7 rfl (by decide) ?_
  refine v_istore_n (q := 9) (L' := [_, _, _, _]) hC dX4_isHome_8 rfl rfl (by decide) rfl rfl ?_
  refine lp 12 0 _ ?_ (by omega) hv0.symm
  rcases (hw.2 f hf).2.2.2.2.2 with e | ⟨g2, h1, h2, e⟩
  · exact Or.inl e
  · exact Or.inr ⟨g2, h2, e⟩

set_option maxRecDepth 100000 in
set_option maxHeartbeats 4000000 in
theorem ct_X4_homeChains (d : Nat) {σ : zSt} {c : Nat} (hg : zLg σ c) {m : Nat} {F : Nat → Nat → Int32} {w : Nat} (hd : zLd σ c m F w) {n : Nat} (hw : pLw m F n w) : zEv (d + 1) MX4_homeChains [.ref c] σ (some (.int (nI (pCnt (fun f => decide (F 4 f = -1) && pHm F (F 0 f) 12 (F 5 f)) m)))) σ := by
  refine zCt.of (L := [some (.ref c), none, none]) (by decide) (Nat.le_of_ble_eq_true rfl) rfl (fun X hC hB => ?_)
  have hC : zC X RX4 cX4_homeChains 3 (d + 1) 0 0 := hC
  have hB : zB X (some .int) 0 0 "homeChains" σ _ := hB
  show zV X 3 0 [some (.ref c), none, none] [] 0 0 σ
  have hm := hd.2.1
  have lp : ∀ (r : Nat) (i : Nat) (x : Int32), x = nI (pCnt (fun f => decide (F 4 f = -1) && pHm F (F 0 f) 12 (F 5 f)) i) → i + r = m → zV X 3 4 [some (.ref c), some (.int x), some (.int (nI i))] [] 0 0 σ := by
    intro r
    induction r with
    | zero =>
      intro i x hx hi
      subst hx
      refine v_iload_n (q := 5) hC dX4_homeChains_4 rfl rfl rfl ?_
      refine v_aload_n (q := 6) hC dX4_homeChains_5 rfl rfl rfl ?_
      refine v_getI (q := 9) hC dX4_homeChains_6 rfl fX4_30 hg.1 ?_
      rw [hd.1]
      refine v_icmp_ge (q := 12) (tgt := 39) hC dX4_homeChains_9 rfl (by decide) (fun h9 => ?_) (fun h9 => ?_)
      · refine v_iload_n (q := 40) hC dX4_homeChains_39 rfl rfl rfl ?_
        refine v_ireturn hC hB dX4_homeChains_40 ⟨Nat.le_refl _, Nat.le_refl _⟩ ?_
        have e : i = m := by omega
        subst e
        exact ⟨rfl, rfl⟩
      · exact absurd (nI_le (a := m) (b := i) (by omega) (by omega)) h9
    | succ r ih =>
      intro i x hx hi
      subst hx
      have him : i < m := by omega
      refine v_iload_n (q := 5) hC dX4_homeChains_4 rfl rfl rfl ?_
      refine v_aload_n (q := 6) hC dX4_homeChains_5 rfl rfl rfl ?_
      refine v_getI (q := 9) hC dX4_homeChains_6 rfl fX4_30 hg.1 ?_
      rw [hd.1]
      refine v_icmp_ge (q := 12) (tgt := 39) hC dX4_homeChains_9 rfl (by decide) (fun h9 => ?_) (fun h9 => ?_)
      · exact absurd h9 (nI_ge (a := i) (b := m) (by omega) (by omega))
      · refine v_aload_n (q := 13) hC dX4_homeChains_12 rfl rfl rfl ?_
        refine v_getR (q := 16) (r := (c + 1 + 4)) hC dX4_homeChains_13 rfl fX4_24 hg.1 (hg.2 4 (by decide)).2 ?_
        refine v_iload_n (q := 17) hC dX4_homeChains_16 rfl rfl rfl ?_
        refine v_ialdN (q := 18) (j := i) hC dX4_homeChains_17 rfl (hg.2 4 (by decide)).1 rfl (by omega) (by decide) ?_
        rw [hd.2.2.2 4 i (by decide) him]
        refine v_iconst (q := 19) (v := -1) hC dX4_homeChains_18 rfl (by decide) ?_
        refine v_icmp_ne (q := 22) (tgt := 33) hC dX4_homeChains_19 rfl (by decide) (fun h19 => ?_) (fun h19 => ?_)
        · refine v_iinc (q := 36) (v := 1) (L' := [_, _, _]) hC dX4_homeChains_33 rfl rfl (by decide) (by decide) rfl rfl ?_
          refine v_goto (q := 4) hC dX4_homeChains_36 (by decide) ?_
          rw [nI_1 i]
          exact ih (i + 1) _ (by first | exact pCnt_t (by simp_all [zb_eq0]) | exact pCnt_f (by simp_all [zb_eq0])) (by omega)
        · refine v_aload_n (q := 23) hC dX4_homeChains_22 rfl rfl rfl ?_
          refine v_iload_n (q := 24) hC dX4_homeChains_23 rfl rfl rfl ?_
          refine v_callV1 (q := 27) (As := [_]) hC dX4_homeChains_24 rfl lX4_74 mX4_isHome iX4_isHome eX4_isHome rfl hg.1 (ct_X4_isHome d hg hd hw him) rfl rfl (by omega) rfl (Nat.le_of_ble_eq_true rfl) ?_
          refine v_if_eq (q := 30) (tgt := 33) hC dX4_homeChains_27 rfl (by decide) (fun h27 => ?_) (fun h27 => ?_)
          · refine v_iinc (q := 36) (v := 1) (L' := [_, _, _]) hC dX4_homeChains_33 rfl rfl (by decide) (by decide) rfl rfl ?_
            refine v_goto (q := 4) hC dX4_homeChains_36 (by decide) ?_
            rw [nI_1 i]
            exact ih (i + 1) _ (by first | exact pCnt_t (by simp_all [zb_eq0]) | exact pCnt_f (by simp_all [zb_eq0])) (by omega)
          · refine v_iinc (q := 33) (v := 1) (L' := [_, _, _]) hC dX4_homeChains_30 rfl rfl (by decide) (by decide) rfl rfl ?_
            refine v_iinc (q := 36) (v := 1) (L' := [_, _, _]) hC dX4_homeChains_33 rfl rfl (by decide) (by decide) rfl rfl ?_
            refine v_goto (q := 4) hC dX4_homeChains_36 (by decide) ?_
            rw [nI_1 i]
            exact ih (i + 1) _ (by first | exact pCnt_t (by simp_all [zb_eq0]) | exact pCnt_f (by simp_all [zb_eq0])) (by omega)
  refine v_iconst (q := 1) (v := 0) hC dX4_homeChains_0 rfl (by decide) ?_
  refine v_istore_n (q := 2) (L' := [_, _, _]) hC dX4_homeChains_1 rfl rfl (by decide) rfl rfl ?_
  refine v_iconst (q := 3) (v := 0) hC dX4_homeChains_2 rfl (by decide) ?_
  refine v_istore_n (q := 4) (L' := [_, _, _]) hC dX4_homeChains_3 rfl rfl (by decide) rfl rfl ?_
  exact lp m 0 _ rfl (by omega)

