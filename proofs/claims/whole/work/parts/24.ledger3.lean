/-! ===== Ledger: a new favour, copies ===== -/
def zlc (c : Nat) : List Nat := [c, c + 1, c + 2, c + 3, c + 4, c + 5, c + 6]
theorem zlc_in {c k : Nat} (h : k = c ∨ k = c + 1 ∨ k = c + 2 ∨ k = c + 3 ∨ k = c + 4 ∨ k = c + 5 ∨ k = c + 6) : k ∈ zlc c := by simp only [zlc, List.mem_cons]; omega
/-- the favours, with one more -/
def pAdd (m : Nat) (F : Nat → Nat → Int32) (a b price week : Int32) (old : Option Nat) (j f : Nat) : Int32 := if f = m then (match j with
  | 0 => a
  | 1 => b
  | 2 => price
  | 3 => week
  | 4 => zo old
  | _ => -1) else if j = 5 ∧ old = some f then nI m else F j f

theorem zI_ne {σ : zSt} {c i c' i' : Nat} {v : Int32} (h : c' ≠ c ∨ i' ≠ i) : zI (zsI σ c i v) c' i' = zI σ c' i' := by rw [zI_sI, if_neg (by omega)]
theorem zI_eq {σ : zSt} {c i : Nat} {v : Int32} : zI (zsI σ c i v) c i = v := by rw [zI_sI, if_pos ⟨rfl, rfl⟩]

set_option maxRecDepth 100000 in
set_option maxHeartbeats 4000000 in
theorem zadd6 {σ : zSt} {c m : Nat} {F : Nat → Nat → Int32} {w : Nat} (hd : zLd σ c m F w) (hm12 : m < 12) (a b price : Int32) : (some (Value.int (nI m)) = some (Value.int (nI m))) ∧ zSame (zlc c) [] σ (zsI (zsI (zsI (zsI (zsI (zsI (zsI σ (c + 1 + 0) m a) (c + 1 + 1) m b) (c + 1 + 2) m price) (c + 1 + 3) m (zI (zsI (zsI (zsI σ (c + 1 + 0) m a) (c + 1 + 1) m b) (c + 1 + 2) m price) c 7)) (c + 1 + 4) m (zo none)) (c + 1 + 5) m (-1)) c 6 (zI (zsI (zsI (zsI (zsI (zsI (zsI σ (c + 1 + 0) m a) (c + 1 + 1) m b) (c + 1 + 2) m price) (c + 1 + 3) m (zI (zsI (zsI (zsI σ (c + 1 + 0) m a) (c + 1 + 1) m b) (c + 1 + 2) m price) c 7)) (c + 1 + 4) m (zo none)) (c + 1 + 5) m (-1)) c 6 + 1)) ∧ zLd (zsI (zsI (zsI (zsI (zsI (zsI (zsI σ (c + 1 + 0) m a) (c + 1 + 1) m b) (c + 1 + 2) m price) (c + 1 + 3) m (zI (zsI (zsI (zsI σ (c + 1 + 0) m a) (c + 1 + 1) m b) (c + 1 + 2) m price) c 7)) (c + 1 + 4) m (zo none)) (c + 1 + 5) m (-1)) c 6 (zI (zsI (zsI (zsI (zsI (zsI (zsI σ (c + 1 + 0) m a) (c + 1 + 1) m b) (c + 1 + 2) m price) (c + 1 + 3) m (zI (zsI (zsI (zsI σ (c + 1 + 0) m a) (c + 1 + 1) m b) (c + 1 + 2) m price) c 7)) (c + 1 + 4) m (zo none)) (c + 1 + 5) m (-1)) c 6 + 1)) c (m + 1) (pAdd m F a b price (nI w) none) w := by
  skip
  refine ⟨rfl, ?_, ?_⟩
  · exact ((((((zSame.sI (zlc_in (by omega))).addI (zlc_in (by omega))).addI (zlc_in (by omega))).addI (zlc_in (by omega))).addI (zlc_in (by omega))).addI (zlc_in (by omega))).addI (zlc_in (by omega))
  · refine ⟨?_, by omega, ?_, ?_⟩
    · rw [zI_eq]; (repeat rw [zI_ne (by omega)]); rw [hd.1, nI_1]
    · (repeat rw [zI_ne (by omega)]); exact hd.2.2.1
    · intro j f hj hf
      by_cases e : f = m
      · subst e; have hj2 : j = 0 ∨ j = 1 ∨ j = 2 ∨ j = 3 ∨ j = 4 ∨ j = 5 := by omega
        unfold pAdd; rw [if_pos rfl]
        rcases hj2 with rfl | rfl | rfl | rfl | rfl | rfl <;> (repeat rw [zI_ne (by omega)]) <;> rw [zI_eq] <;> (repeat rw [zI_ne (by omega)]) <;> first | rfl | exact hd.2.2.1
      · unfold pAdd; rw [if_neg e, if_neg (by simp)]
        repeat rw [zI_ne (by omega)]
        exact hd.2.2.2 j f hj (by omega)

set_option maxRecDepth 100000 in
set_option maxHeartbeats 4000000 in
theorem zadd7 {σ : zSt} {c m : Nat} {F : Nat → Nat → Int32} {w : Nat} (hd : zLd σ c m F w) (hm12 : m < 12) (a b price : Int32) {g : Nat} (hgm : g < m) : (some (Value.int (nI m)) = some (Value.int (nI m))) ∧ zSame (zlc c) [] σ (zsI (zsI (zsI (zsI (zsI (zsI (zsI (zsI σ (c + 1 + 0) m a) (c + 1 + 1) m b) (c + 1 + 2) m price) (c + 1 + 3) m (zI (zsI (zsI (zsI σ (c + 1 + 0) m a) (c + 1 + 1) m b) (c + 1 + 2) m price) c 7)) (c + 1 + 4) m (zo (some g))) (c + 1 + 5) m (-1)) (c + 1 + 5) g (nI m)) c 6 (zI (zsI (zsI (zsI (zsI (zsI (zsI (zsI σ (c + 1 + 0) m a) (c + 1 + 1) m b) (c + 1 + 2) m price) (c + 1 + 3) m (zI (zsI (zsI (zsI σ (c + 1 + 0) m a) (c + 1 + 1) m b) (c + 1 + 2) m price) c 7)) (c + 1 + 4) m (zo (some g))) (c + 1 + 5) m (-1)) (c + 1 + 5) g (nI m)) c 6 + 1)) ∧ zLd (zsI (zsI (zsI (zsI (zsI (zsI (zsI (zsI σ (c + 1 + 0) m a) (c + 1 + 1) m b) (c + 1 + 2) m price) (c + 1 + 3) m (zI (zsI (zsI (zsI σ (c + 1 + 0) m a) (c + 1 + 1) m b) (c + 1 + 2) m price) c 7)) (c + 1 + 4) m (zo (some g))) (c + 1 + 5) m (-1)) (c + 1 + 5) g (nI m)) c 6 (zI (zsI (zsI (zsI (zsI (zsI (zsI (zsI σ (c + 1 + 0) m a) (c + 1 + 1) m b) (c + 1 + 2) m price) (c + 1 + 3) m (zI (zsI (zsI (zsI σ (c + 1 + 0) m a) (c + 1 + 1) m b) (c + 1 + 2) m price) c 7)) (c + 1 + 4) m (zo (some g))) (c + 1 + 5) m (-1)) (c + 1 + 5) g (nI m)) c 6 + 1)) c (m + 1) (pAdd m F a b price (nI w) (some g)) w := by
  skip
  refine ⟨rfl, ?_, ?_⟩
  · exact (((((((zSame.sI (zlc_in (by omega))).addI (zlc_in (by omega))).addI (zlc_in (by omega))).addI (zlc_in (by omega))).addI (zlc_in (by omega))).addI (zlc_in (by omega))).addI (zlc_in (by omega))).addI (zlc_in (by omega))
  · refine ⟨?_, by omega, ?_, ?_⟩
    · rw [zI_eq]; (repeat rw [zI_ne (by omega)]); rw [hd.1, nI_1]
    · (repeat rw [zI_ne (by omega)]); exact hd.2.2.1
    · intro j f hj hf
      by_cases e : f = m
      · subst e; have hj2 : j = 0 ∨ j = 1 ∨ j = 2 ∨ j = 3 ∨ j = 4 ∨ j = 5 := by omega
        unfold pAdd; rw [if_pos rfl]
        rcases hj2 with rfl | rfl | rfl | rfl | rfl | rfl <;> (repeat rw [zI_ne (by omega)]) <;> rw [zI_eq] <;> (repeat rw [zI_ne (by omega)]) <;> first | rfl | exact hd.2.2.1
      · by_cases e2 : j = 5 ∧ g = f
        · obtain ⟨rfl, rfl⟩ := e2; unfold pAdd; rw [if_neg e, if_pos (by simp), zI_ne (by omega), zI_eq]
        · unfold pAdd; rw [if_neg e, if_neg (by simp; omega)]
          repeat rw [zI_ne (by omega)]
          exact hd.2.2.2 j f hj (by omega)

set_option maxRecDepth 100000 in
set_option maxHeartbeats 4000000 in
theorem ct_X4_add (d : Nat) {σ : zSt} {c : Nat} (hg : zLg σ c) {m : Nat} {F : Nat → Nat → Int32} {w : Nat} (hd : zLd σ c m F w) (hm12 : m < 12) (a b price : Int32) {old : Option Nat} (ho : ∀ g, old = some g → g < m) : zCt (d + 0) MX4_add [.ref c, .int a, .int b, .int price, .int (zo old)] σ (fun r σ' => r = some (.int (nI m)) ∧ zSame (zlc c) [] σ σ' ∧ zLd σ' c (m + 1) (pAdd m F a b price (nI w) old) w) := by
  refine zCt.of (L := [some (.ref c), some (.int a), some (.int b), some (.int price), some (.int (zo old)), none]) (by decide) (Nat.le_of_ble_eq_true rfl) rfl (fun X hC hB => ?_)
  have hC : zC X RX4 cX4_add 6 (d + 0) 0 0 := hC
  have hB : zB X (some .int) 0 0 "add" σ _ := hB
  show zV X 6 0 [some (.ref c), some (.int a), some (.int b), some (.int price), some (.int (zo old)), none] [] 0 0 σ
  refine v_aload_n (q := 1) hC dX4_add_0 rfl rfl rfl ?_
  refine v_getI (q := 4) hC dX4_add_1 rfl fX4_30 hg.1 ?_
  refine v_istore (q := 6) (L' := [_, _, _, _, _, _]) hC dX4_add_4 rfl (by decide) rfl rfl ?_
  refine v_aload_n (q := 7) hC dX4_add_6 rfl rfl rfl ?_
  refine v_getR (q := 10) (r := (c + 1 + 0)) hC dX4_add_7 rfl fX4_9 hg.1 (hg.2 0 (by decide)).2 ?_
  refine v_iload (q := 12) hC dX4_add_10 rfl rfl ?_
  refine v_iload_n (q := 13) hC dX4_add_12 rfl rfl rfl ?_
  refine v_iastN (q := 14) (j := m) hC dX4_add_13 rfl (hg.2 0 (by decide)).1 hd.1 (by omega) (by decide) ?_
  refine v_aload_n (q := 15) hC dX4_add_14 rfl rfl rfl ?_
  refine v_getR (q := 18) (r := (c + 1 + 1)) hC dX4_add_15 rfl fX4_15 hg.1 (hg.2 1 (by decide)).2 ?_
  refine v_iload (q := 20) hC dX4_add_18 rfl rfl ?_
  refine v_iload_n (q := 21) hC dX4_add_20 rfl rfl rfl ?_
  refine v_iastN (q := 22) (j := m) hC dX4_add_21 rfl (hg.2 1 (by decide)).1 hd.1 (by omega) (by decide) ?_
  refine v_aload_n (q := 23) hC dX4_add_22 rfl rfl rfl ?_
  refine v_getR (q := 26) (r := (c + 1 + 2)) hC dX4_add_23 rfl fX4_18 hg.1 (hg.2 2 (by decide)).2 ?_
  refine v_iload (q := 28) hC dX4_add_26 rfl rfl ?_
  refine v_iload_n (q := 29) hC dX4_add_28 rfl rfl rfl ?_
  refine v_iastN (q := 30) (j := m) hC dX4_add_29 rfl (hg.2 2 (by decide)).1 hd.1 (by omega) (by decide) ?_
  refine v_aload_n (q := 31) hC dX4_add_30 rfl rfl rfl ?_
  refine v_getR (q := 34) (r := (c + 1 + 3)) hC dX4_add_31 rfl fX4_21 hg.1 (hg.2 3 (by decide)).2 ?_
  refine v_iload (q := 36) hC dX4_add_34 rfl rfl ?_
  refine v_aload_n (q := 37) hC dX4_add_36 rfl rfl rfl ?_
  refine v_getI (q := 40) hC dX4_add_37 rfl fX4_34 hg.1 ?_
  refine v_iastN (q := 41) (j := m) hC dX4_add_40 rfl (hg.2 3 (by decide)).1 hd.1 (by omega) (by decide) ?_
  refine v_aload_n (q := 42) hC dX4_add_41 rfl rfl rfl ?_
  refine v_getR (q := 45) (r := (c + 1 + 4)) hC dX4_add_42 rfl fX4_24 hg.1 (hg.2 4 (by decide)).2 ?_
  refine v_iload (q := 47) hC dX4_add_45 rfl rfl ?_
  refine v_iload (q := 49) hC dX4_add_47 rfl rfl ?_
  refine v_iastN (q := 50) (j := m) hC dX4_add_49 rfl (hg.2 4 (by decide)).1 hd.1 (by omega) (by decide) ?_
  refine v_aload_n (q := 51) hC dX4_add_50 rfl rfl rfl ?_
  refine v_getR (q := 54) (r := (c + 1 + 5)) hC dX4_add_51 rfl fX4_27 hg.1 (hg.2 5 (by decide)).2 ?_
  refine v_iload (q := 56) hC dX4_add_54 rfl rfl ?_
  refine v_iconst (q := 57) (v := -1) hC dX4_add_56 rfl (by decide) ?_
  refine v_iastN (q := 58) (j := m) hC dX4_add_57 rfl (hg.2 5 (by decide)).1 hd.1 (by omega) (by decide) ?_
  refine v_iload (q := 60) hC dX4_add_58 rfl rfl ?_
  refine v_iconst (q := 61) (v := -1) hC dX4_add_60 rfl (by decide) ?_
  refine v_icmp_eq (q := 64) (tgt := 73) hC dX4_add_61 rfl (by decide) (fun h61 => ?_) (fun h61 => ?_)
  · cases old with
    | some g => exact absurd h61 (nI_m1 (by have := ho g rfl; omega))
    | none =>
    refine v_aload_n (q := 74) hC dX4_add_73 rfl rfl rfl ?_
    refine v_dup (q := 75) hC dX4_add_74 rfl rfl ?_
    refine v_getI (q := 78) hC dX4_add_75 rfl fX4_30 hg.1 ?_
    refine v_iconst (q := 79) (v := 1) hC dX4_add_78 rfl (by decide) ?_
    refine v_iadd (q := 80) hC dX4_add_79 rfl ?_
    refine v_putI (q := 83) hC dX4_add_80 rfl fX4_30 hg.1 ?_
    refine v_iload (q := 85) hC dX4_add_83 rfl rfl ?_
    refine v_ireturn hC hB dX4_add_85 ⟨Nat.le_refl _, Nat.le_refl _⟩ ?_
    rw [hd.1]
    first
      | exact zadd6 hd hm12 a b price
      | exact zadd7 hd hm12 a b price hgm
  · cases old with
    | none => exact absurd rfl h61
    | some g =>
    have hgm := ho g rfl
    refine v_aload_n (q := 65) hC dX4_add_64 rfl rfl rfl ?_
    refine v_getR (q := 68) (r := (c + 1 + 5)) hC dX4_add_65 rfl fX4_27 hg.1 (hg.2 5 (by decide)).2 ?_
    refine v_iload (q := 70) hC dX4_add_68 rfl rfl ?_
    refine v_iload (q := 72) hC dX4_add_70 rfl rfl ?_
    refine v_iastN (q := 73) (j := g) hC dX4_add_72 rfl (hg.2 5 (by decide)).1 rfl (by have := ho g rfl; omega) (by decide) ?_
    refine v_aload_n (q := 74) hC dX4_add_73 rfl rfl rfl ?_
    refine v_dup (q := 75) hC dX4_add_74 rfl rfl ?_
    refine v_getI (q := 78) hC dX4_add_75 rfl fX4_30 hg.1 ?_
    refine v_iconst (q := 79) (v := 1) hC dX4_add_78 rfl (by decide) ?_
    refine v_iadd (q := 80) hC dX4_add_79 rfl ?_
    refine v_putI (q := 83) hC dX4_add_80 rfl fX4_30 hg.1 ?_
    refine v_iload (q := 85) hC dX4_add_83 rfl rfl ?_
    refine v_ireturn hC hB dX4_add_85 ⟨Nat.le_refl _, Nat.le_refl _⟩ ?_
    rw [hd.1]
    first
      | exact zadd6 hd hm12 a b price
      | exact zadd7 hd hm12 a b price hgm

/-- what of the six rows has been copied -/
def zcq (σ σ' : zSt) (c e J : Nat) : Prop := ∀ j i, j < J → i < 12 → zI σ' (c + 1 + j) i = zI σ (e + 1 + j) i
theorem zcp {σ σ1 : zSt} {c e j : Nat} (hj : j < 6) (hce : c + 6 < e ∨ e + 6 < c) (k : zSame (zlc c) [] σ σ1) (g : zcq σ σ1 c e j) : zSame (zlc c) [] σ (zsA σ1 (c + 1 + j) (fun i => if i < 12 then zI σ1 (e + 1 + j) i else zI σ1 (c + 1 + j) i)) ∧ zcq σ (zsA σ1 (c + 1 + j) (fun i => if i < 12 then zI σ1 (e + 1 + j) i else zI σ1 (c + 1 + j) i)) c e (j + 1) := by
  refine ⟨k.addA (zlc_in (by omega)), fun j' i hj' hi => ?_⟩
  rw [zI_sA]
  by_cases h : j' = j
  · subst h; rw [if_pos rfl, if_pos hi]; exact k.2.2.2 _ (by simp only [zlc, List.mem_cons, List.not_mem_nil, or_false]; omega) i
  · rw [if_neg (by omega)]; exact g j' i (by omega) hi

set_option maxRecDepth 100000 in
set_option maxHeartbeats 4000000 in
theorem ct_X4_copyFrom (d : Nat) {σ : zSt} {c e : Nat} (hg : zLg σ c) (he : zLg σ e) (hce : c + 6 < e ∨ e + 6 < c) : zCt (d + 1) MX4_copyFrom [.ref c, .ref e] σ (fun r σ' => r = none ∧ zSame (zlc c) [] σ σ' ∧ zcq σ σ' c e 6 ∧ zI σ' c 6 = zI σ e 6 ∧ zI σ' c 7 = zI σ e 7) := by
  refine zCt.of (L := [some (.ref c), some (.ref e)]) (by decide) (Nat.le_of_ble_eq_true rfl) rfl (fun X hC hB => ?_)
  have hC : zC X RX4 cX4_copyFrom 2 (d + 1) 0 0 := hC
  have hB : zB X none 0 0 "copyFrom" σ _ := hB
  show zV X 2 0 [some (.ref c), some (.ref e)] [] 0 0 σ
  have k0 : zSame (zlc c) [] σ σ := zSame.rf
  have g0 : zcq σ σ c e 0 := fun j i hj => absurd hj (by omega)
  refine v_aload_n (q := 1) hC dX4_copyFrom_0 rfl rfl rfl ?_
  refine v_getR (q := 4) (r := (e + 1 + 0)) hC dX4_copyFrom_1 rfl fX4_9 (by rw [k0.1]; exact he.1) (by rw [k0.2.2.1 _ (by simp)]; exact (he.2 0 (by decide)).2) ?_
  refine v_iconst (q := 5) (v := 0) hC dX4_copyFrom_4 rfl (by decide) ?_
  refine v_aload_n (q := 6) hC dX4_copyFrom_5 rfl rfl rfl ?_
  refine v_getR (q := 9) (r := (c + 1 + 0)) hC dX4_copyFrom_6 rfl fX4_9 (by rw [k0.1]; exact hg.1) (by rw [k0.2.2.1 _ (by simp)]; exact (hg.2 0 (by decide)).2) ?_
  refine v_iconst (q := 10) (v := 0) hC dX4_copyFrom_9 rfl (by decide) ?_
  refine v_bipush (q := 12) (v := 12) hC dX4_copyFrom_10 rfl (by decide) ?_
  refine zcopy (q := 15) 0 (Or.inl rfl) hC hB k0.1.symm dX4_copyFrom_12 rfl lX4_37 (by omega) (by rw [k0.1]; exact (he.2 0 (by decide)).1) (by rw [k0.1]; exact (hg.2 0 (by decide)).1) (by decide) rfl (fun z => absurd z (by decide)) (Nat.le_of_ble_eq_true rfl) ?_
  obtain ⟨k1, g1⟩ := zcp (j := 0) (by decide) hce k0 g0
  generalize zsA _ (c + 1 + 0) _ = τ1 at k1 g1 ⊢
  refine v_aload_n (q := 16) hC dX4_copyFrom_15 rfl rfl rfl ?_
  refine v_getR (q := 19) (r := (e + 1 + 1)) hC dX4_copyFrom_16 rfl fX4_15 (by rw [k1.1]; exact he.1) (by rw [k1.2.2.1 _ (by simp)]; exact (he.2 1 (by decide)).2) ?_
  refine v_iconst (q := 20) (v := 0) hC dX4_copyFrom_19 rfl (by decide) ?_
  refine v_aload_n (q := 21) hC dX4_copyFrom_20 rfl rfl rfl ?_
  refine v_getR (q := 24) (r := (c + 1 + 1)) hC dX4_copyFrom_21 rfl fX4_15 (by rw [k1.1]; exact hg.1) (by rw [k1.2.2.1 _ (by simp)]; exact (hg.2 1 (by decide)).2) ?_
  refine v_iconst (q := 25) (v := 0) hC dX4_copyFrom_24 rfl (by decide) ?_
  refine v_bipush (q := 27) (v := 12) hC dX4_copyFrom_25 rfl (by decide) ?_
  refine zcopy (q := 30) 0 (Or.inl rfl) hC hB k1.1.symm dX4_copyFrom_27 rfl lX4_37 (by omega) (by rw [k1.1]; exact (he.2 1 (by decide)).1) (by rw [k1.1]; exact (hg.2 1 (by decide)).1) (by decide) rfl (fun z => absurd z (by decide)) (Nat.le_of_ble_eq_true rfl) ?_
  obtain ⟨k2, g2⟩ := zcp (j := 1) (by decide) hce k1 g1
  generalize zsA _ (c + 1 + 1) _ = τ2 at k2 g2 ⊢
  refine v_aload_n (q := 31) hC dX4_copyFrom_30 rfl rfl rfl ?_
  refine v_getR (q := 34) (r := (e + 1 + 2)) hC dX4_copyFrom_31 rfl fX4_18 (by rw [k2.1]; exact he.1) (by rw [k2.2.2.1 _ (by simp)]; exact (he.2 2 (by decide)).2) ?_
  refine v_iconst (q := 35) (v := 0) hC dX4_copyFrom_34 rfl (by decide) ?_
  refine v_aload_n (q := 36) hC dX4_copyFrom_35 rfl rfl rfl ?_
  refine v_getR (q := 39) (r := (c + 1 + 2)) hC dX4_copyFrom_36 rfl fX4_18 (by rw [k2.1]; exact hg.1) (by rw [k2.2.2.1 _ (by simp)]; exact (hg.2 2 (by decide)).2) ?_
  refine v_iconst (q := 40) (v := 0) hC dX4_copyFrom_39 rfl (by decide) ?_
  refine v_bipush (q := 42) (v := 12) hC dX4_copyFrom_40 rfl (by decide) ?_
  refine zcopy (q := 45) 0 (Or.inl rfl) hC hB k2.1.symm dX4_copyFrom_42 rfl lX4_37 (by omega) (by rw [k2.1]; exact (he.2 2 (by decide)).1) (by rw [k2.1]; exact (hg.2 2 (by decide)).1) (by decide) rfl (fun z => absurd z (by decide)) (Nat.le_of_ble_eq_true rfl) ?_
  obtain ⟨k3, g3⟩ := zcp (j := 2) (by decide) hce k2 g2
  generalize zsA _ (c + 1 + 2) _ = τ3 at k3 g3 ⊢
  refine v_aload_n (q := 46) hC dX4_copyFrom_45 rfl rfl rfl ?_
  refine v_getR (q := 49) (r := (e + 1 + 3)) hC dX4_copyFrom_46 rfl fX4_21 (by rw [k3.1]; exact he.1) (by rw [k3.2.2.1 _ (by simp)]; exact (he.2 3 (by decide)).2) ?_
  refine v_iconst (q := 50) (v := 0) hC dX4_copyFrom_49 rfl (by decide) ?_
  refine v_aload_n (q := 51) hC dX4_copyFrom_50 rfl rfl rfl ?_
  refine v_getR (q := 54) (r := (c + 1 + 3)) hC dX4_copyFrom_51 rfl fX4_21 (by rw [k3.1]; exact hg.1) (by rw [k3.2.2.1 _ (by simp)]; exact (hg.2 3 (by decide)).2) ?_
  refine v_iconst (q := 55) (v := 0) hC dX4_copyFrom_54 rfl (by decide) ?_
  refine v_bipush (q := 57) (v := 12) hC dX4_copyFrom_55 rfl (by decide) ?_
  refine zcopy (q := 60) 0 (Or.inl rfl) hC hB k3.1.symm dX4_copyFrom_57 rfl lX4_37 (by omega) (by rw [k3.1]; exact (he.2 3 (by decide)).1) (by rw [k3.1]; exact (hg.2 3 (by decide)).1) (by decide) rfl (fun z => absurd z (by decide)) (Nat.le_of_ble_eq_true rfl) ?_
  obtain ⟨k4, g4⟩ := zcp (j := 3) (by decide) hce k3 g3
  generalize zsA _ (c + 1 + 3) _ = τ4 at k4 g4 ⊢
  refine v_aload_n (q := 61) hC dX4_copyFrom_60 rfl rfl rfl ?_
  refine v_getR (q := 64) (r := (e + 1 + 4)) hC dX4_copyFrom_61 rfl fX4_24 (by rw [k4.1]; exact he.1) (by rw [k4.2.2.1 _ (by simp)]; exact (he.2 4 (by decide)).2) ?_
  refine v_iconst (q := 65) (v := 0) hC dX4_copyFrom_64 rfl (by decide) ?_
  refine v_aload_n (q := 66) hC dX4_copyFrom_65 rfl rfl rfl ?_
  refine v_getR (q := 69) (r := (c + 1 + 4)) hC dX4_copyFrom_66 rfl fX4_24 (by rw [k4.1]; exact hg.1) (by rw [k4.2.2.1 _ (by simp)]; exact (hg.2 4 (by decide)).2) ?_
  refine v_iconst (q := 70) (v := 0) hC dX4_copyFrom_69 rfl (by decide) ?_
  refine v_bipush (q := 72) (v := 12) hC dX4_copyFrom_70 rfl (by decide) ?_
  refine zcopy (q := 75) 0 (Or.inl rfl) hC hB k4.1.symm dX4_copyFrom_72 rfl lX4_37 (by omega) (by rw [k4.1]; exact (he.2 4 (by decide)).1) (by rw [k4.1]; exact (hg.2 4 (by decide)).1) (by decide) rfl (fun z => absurd z (by decide)) (Nat.le_of_ble_eq_true rfl) ?_
  obtain ⟨k5, g5⟩ := zcp (j := 4) (by decide) hce k4 g4
  generalize zsA _ (c + 1 + 4) _ = τ5 at k5 g5 ⊢
  refine v_aload_n (q := 76) hC dX4_copyFrom_75 rfl rfl rfl ?_
  refine v_getR (q := 79) (r := (e + 1 + 5)) hC dX4_copyFrom_76 rfl fX4_27 (by rw [k5.1]; exact he.1) (by rw [k5.2.2.1 _ (by simp)]; exact (he.2 5 (by decide)).2) ?_
  refine v_iconst (q := 80) (v := 0) hC dX4_copyFrom_79 rfl (by decide) ?_
  refine v_aload_n (q := 81) hC dX4_copyFrom_80 rfl rfl rfl ?_
  refine v_getR (q := 84) (r := (c + 1 + 5)) hC dX4_copyFrom_81 rfl fX4_27 (by rw [k5.1]; exact hg.1) (by rw [k5.2.2.1 _ (by simp)]; exact (hg.2 5 (by decide)).2) ?_
  refine v_iconst (q := 85) (v := 0) hC dX4_copyFrom_84 rfl (by decide) ?_
  refine v_bipush (q := 87) (v := 12) hC dX4_copyFrom_85 rfl (by decide) ?_
  refine zcopy (q := 90) 0 (Or.inl rfl) hC hB k5.1.symm dX4_copyFrom_87 rfl lX4_37 (by omega) (by rw [k5.1]; exact (he.2 5 (by decide)).1) (by rw [k5.1]; exact (hg.2 5 (by decide)).1) (by decide) rfl (fun z => absurd z (by decide)) (Nat.le_of_ble_eq_true rfl) ?_
  obtain ⟨k6, g6⟩ := zcp (j := 5) (by decide) hce k5 g5
  generalize zsA _ (c + 1 + 5) _ = τ6 at k6 g6 ⊢
  refine v_aload_n (q := 91) hC dX4_copyFrom_90 rfl rfl rfl ?_
  refine v_aload_n (q := 92) hC dX4_copyFrom_91 rfl rfl rfl ?_
  refine v_getI (q := 95) hC dX4_copyFrom_92 rfl fX4_30 (by first | (rw [k6.1]; exact he.1) | (show (zsI _ _ _ _).1[_]? = _; rw [z1_sI, k6.1]; exact he.1)) ?_
  refine v_putI (q := 98) hC dX4_copyFrom_95 rfl fX4_30 (by first | (rw [k6.1]; exact hg.1) | (show (zsI _ _ _ _).1[_]? = _; rw [z1_sI, k6.1]; exact hg.1)) ?_
  refine v_aload_n (q := 99) hC dX4_copyFrom_98 rfl rfl rfl ?_
  refine v_aload_n (q := 100) hC dX4_copyFrom_99 rfl rfl rfl ?_
  refine v_getI (q := 103) hC dX4_copyFrom_100 rfl fX4_34 (by first | (rw [k6.1]; exact he.1) | (show (zsI _ _ _ _).1[_]? = _; rw [z1_sI, k6.1]; exact he.1)) ?_
  refine v_putI (q := 106) hC dX4_copyFrom_103 rfl fX4_34 (by first | (rw [k6.1]; exact hg.1) | (show (zsI _ _ _ _).1[_]? = _; rw [z1_sI, k6.1]; exact hg.1)) ?_
  refine v_return hC hB dX4_copyFrom_106 ⟨Nat.le_refl _, Nat.le_refl _⟩ ?_
  have e6 : zI τ6 e 6 = zI σ e 6 := k6.2.2.2 e (by simp only [zlc, List.mem_cons, List.not_mem_nil, or_false]; omega) 6
  have e7 : zI τ6 e 7 = zI σ e 7 := k6.2.2.2 e (by simp only [zlc, List.mem_cons, List.not_mem_nil, or_false]; omega) 7
  refine ⟨rfl, (k6.addI (zlc_in (by omega))).addI (zlc_in (by omega)), fun j i hj hi => ?_, ?_, ?_⟩
  · rw [zI_sI, if_neg (by omega), zI_sI, if_neg (by omega)]; exact g6 j i hj hi
  · rw [zI_sI, if_neg (by omega), zI_sI, if_pos ⟨rfl, rfl⟩]; exact e6
  · rw [zI_sI, if_pos ⟨rfl, rfl⟩, zI_sI, if_neg (by omega)]; exact e7

