/-! ===== the constructors ===== -/
theorem zN_at {σ : zSt} {q r : Nat × Nat} {c : Nat} (h : σ.1[c]? = some r) : (zN σ q).1[c]? = some r := by
  show (σ.1 ++ [q])[c]? = _
  rw [List.getElem?_append_left (List.getElem?_eq_some_iff.mp h).1]
  exact h
theorem zN_new {σ : zSt} {q : Nat × Nat} : (zN σ q).1[σ.1.length]? = some q := by
  show (σ.1 ++ [q])[_]? = _
  simp
/-- an array made for a field; an object made for a field -/
def zA (σ : zSt) (c j : Nat) (q : Nat × Nat) : zSt := zsR (zN σ q) c j (some σ.1.length)
def zO (F : zSt → Nat → zSt) (σ : zSt) (c j ci : Nat) : zSt := zsR (F (zN σ (0, ci)) σ.1.length) c j (some σ.1.length)
def zKp (F : zSt → Nat → zSt) : Prop := ∀ (σ : zSt) (c c' : Nat) (r : Nat × Nat), σ.1[c']? = some r → (F σ c).1[c']? = some r
theorem zA_at {σ : zSt} {c j c' : Nat} {q r : Nat × Nat} (h : σ.1[c']? = some r) : (zA σ c j q).1[c']? = some r := zN_at h
theorem zO_at {F : zSt → Nat → zSt} {σ : zSt} {c j ci c' : Nat} {r : Nat × Nat} (hF : zKp F) (h : σ.1[c']? = some r) : (zO F σ c j ci).1[c']? = some r := hF _ _ _ _ (zN_at h)
def zPgI (σ : zSt) (c : Nat) : zSt := zA σ c 0 (1, 54)
def zPaI (σ : zSt) (c : Nat) : zSt := zA σ c 0 (2, 36)
def zDiI (σ : zSt) (c : Nat) : zSt := zA σ c 0 (1, 7)
def zRoI (σ : zSt) (c : Nat) : zSt := zA (zA σ c 0 (1, 36)) c 1 (1, 36)
def zLeI (σ : zSt) (c : Nat) : zSt := zA (zA (zA (zA (zA (zA σ c 0 (1, 12)) c 1 (1, 12)) c 2 (1, 12)) c 3 (1, 12)) c 4 (1, 12)) c 5 (1, 12)
def zRdI (σ : zSt) (c : Nat) : zSt := zO zPaI (zO zPaI σ c 0 6) c 1 6
def zFoI (σ : zSt) (c : Nat) : zSt := zA (zO zPaI (zO zPaI σ c 0 6) c 1 6) c 2 (1, 6)
def zStI (fo : Nat) (σ : zSt) (c : Nat) : zSt := zsR (zA (zA σ c 1 (2, 36)) c 2 (2, 36)) c 0 (some fo)
def zWaI (fo st : Nat) (σ : zSt) (c : Nat) : zSt := zsR (zsR (zA (zO zRoI σ c 2 7) c 3 (2, 6)) c 0 (some fo)) c 1 (some st)
def zTaI (fo st : Nat) (σ : zSt) (c : Nat) : zSt := zsR (zsR (zO zDiI (zO zRoI σ c 2 7) c 3 0) c 0 (some fo)) c 1 (some st)
theorem kPg : zKp zPgI := fun _ _ _ _ h => zA_at h
theorem kPa : zKp zPaI := fun _ _ _ _ h => zA_at h
theorem kDi : zKp zDiI := fun _ _ _ _ h => zA_at h
theorem kRo : zKp zRoI := fun _ _ _ _ h => zA_at (zA_at h)
theorem kLe : zKp zLeI := fun _ _ _ _ h => zA_at (zA_at (zA_at (zA_at (zA_at (zA_at h)))))
theorem kRd : zKp zRdI := fun _ _ _ _ h => zO_at kPa (zO_at kPa h)
theorem kFo : zKp zFoI := fun _ _ _ _ h => zA_at (zO_at kPa (zO_at kPa h))
theorem kSt {fo : Nat} : zKp (zStI fo) := fun _ c _ _ h => zA_at (c := c) (j := 2) (q := (2, 36)) (zA_at (c := c) (j := 1) (q := (2, 36)) h)
theorem kWa {fo st : Nat} : zKp (zWaI fo st) := fun _ c _ _ h => zA_at (c := c) (j := 3) (q := (2, 6)) (zO_at (c := c) (j := 2) (ci := 7) kRo h)
theorem kTa {fo st : Nat} : zKp (zTaI fo st) := fun _ c _ _ h => zO_at (c := c) (j := 3) (ci := 0) kDi (zO_at (c := c) (j := 2) (ci := 7) kRo h)

set_option maxRecDepth 100000 in
set_option maxHeartbeats 4000000 in
theorem ct_X5_init (d : Nat) {σ : zSt} {c : Nat} (hs : σ.1[c]? = some (0, 5)) : zEv (d + 1) MX5_init [.ref c] σ none (zPgI σ c) := by
  refine zCt.of (L := [some (.ref c)]) (by decide) (Nat.le_of_ble_eq_true rfl) rfl (fun X hC hB => ?_)
  have hC : zC X RX5 cX5_init 1 (d + 1) 1 54 := hC
  have hB : zB X none 1 54 "<init>" σ _ := hB
  show zV X 1 0 [some (.ref c)] [] 0 0 σ
  refine v_aload_n (q := 1) hC dX5_init_0 rfl rfl rfl ?_
  refine v_obj (q := 4) hC dX5_init_1 rfl lX5_3 (by omega) (Nat.le_of_ble_eq_true rfl) ?_
  refine v_aload_n (q := 5) hC dX5_init_4 rfl rfl rfl ?_
  refine v_bipush (q := 7) (v := 54) hC dX5_init_5 rfl (by decide) ?_
  refine v_newI (q := 9) hC dX5_init_7 rfl zac_int (by decide) rfl (by decide) (by decide) ?_
  refine v_putF (q := 12) hC hB dX5_init_9 rfl fX5_9 (fun _ => ⟨rfl, rfl⟩) rfl (zN_at hs) ?_
  show zV X 1 12 [some (.ref c)] [] _ _ (zA σ c 0 (1, 54))
  have h_1 : ((zA σ c 0 (1, 54))).1[c]? = some (0, 5) := zA_at hs
  refine v_return hC hB dX5_init_12 (by decide) ?_
  exact ⟨rfl, rfl⟩

set_option maxRecDepth 100000 in
set_option maxHeartbeats 4000000 in
theorem ct_X6_init (d : Nat) {σ : zSt} {c : Nat} (hs : σ.1[c]? = some (0, 6)) : zEv (d + 1) MX6_init [.ref c] σ none (zPaI σ c) := by
  refine zCt.of (L := [some (.ref c)]) (by decide) (Nat.le_of_ble_eq_true rfl) rfl (fun X hC hB => ?_)
  have hC : zC X RX6 cX6_init 1 (d + 1) 1 36 := hC
  have hB : zB X none 1 36 "<init>" σ _ := hB
  show zV X 1 0 [some (.ref c)] [] 0 0 σ
  refine v_aload_n (q := 1) hC dX6_init_0 rfl rfl rfl ?_
  refine v_obj (q := 4) hC dX6_init_1 rfl lX6_3 (by omega) (Nat.le_of_ble_eq_true rfl) ?_
  refine v_aload_n (q := 5) hC dX6_init_4 rfl rfl rfl ?_
  refine v_bipush (q := 7) (v := 36) hC dX6_init_5 rfl (by decide) ?_
  refine v_newZ (q := 9) hC dX6_init_7 rfl zac_boolean (by decide) rfl (by decide) (by decide) ?_
  refine v_putF (q := 12) hC hB dX6_init_9 rfl fX6_9 (fun _ => ⟨rfl, rfl⟩) rfl (zN_at hs) ?_
  show zV X 1 12 [some (.ref c)] [] _ _ (zA σ c 0 (2, 36))
  have h_1 : ((zA σ c 0 (2, 36))).1[c]? = some (0, 6) := zA_at hs
  refine v_return hC hB dX6_init_12 (by decide) ?_
  exact ⟨rfl, rfl⟩

set_option maxRecDepth 100000 in
set_option maxHeartbeats 4000000 in
theorem ct_X0_init (d : Nat) {σ : zSt} {c : Nat} (hs : σ.1[c]? = some (0, 0)) : zEv (d + 1) MX0_init [.ref c] σ none (zDiI σ c) := by
  refine zCt.of (L := [some (.ref c)]) (by decide) (Nat.le_of_ble_eq_true rfl) rfl (fun X hC hB => ?_)
  have hC : zC X RX0 cX0_init 1 (d + 1) 1 7 := hC
  have hB : zB X none 1 7 "<init>" σ _ := hB
  show zV X 1 0 [some (.ref c)] [] 0 0 σ
  refine v_aload_n (q := 1) hC dX0_init_0 rfl rfl rfl ?_
  refine v_obj (q := 4) hC dX0_init_1 rfl lX0_3 (by omega) (Nat.le_of_ble_eq_true rfl) ?_
  refine v_aload_n (q := 5) hC dX0_init_4 rfl rfl rfl ?_
  refine v_bipush (q := 7) (v := 7) hC dX0_init_5 rfl (by decide) ?_
  refine v_newI (q := 9) hC dX0_init_7 rfl zac_int (by decide) rfl (by decide) (by decide) ?_
  refine v_putF (q := 12) hC hB dX0_init_9 rfl fX0_9 (fun _ => ⟨rfl, rfl⟩) rfl (zN_at hs) ?_
  show zV X 1 12 [some (.ref c)] [] _ _ (zA σ c 0 (1, 7))
  have h_1 : ((zA σ c 0 (1, 7))).1[c]? = some (0, 0) := zA_at hs
  refine v_return hC hB dX0_init_12 (by decide) ?_
  exact ⟨rfl, rfl⟩

set_option maxRecDepth 100000 in
set_option maxHeartbeats 4000000 in
theorem ct_X7_init (d : Nat) {σ : zSt} {c : Nat} (hs : σ.1[c]? = some (0, 7)) : zEv (d + 1) MX7_init [.ref c] σ none (zRoI σ c) := by
  refine zCt.of (L := [some (.ref c)]) (by decide) (Nat.le_of_ble_eq_true rfl) rfl (fun X hC hB => ?_)
  have hC : zC X RX7 cX7_init 1 (d + 1) 2 72 := hC
  have hB : zB X none 2 72 "<init>" σ _ := hB
  show zV X 1 0 [some (.ref c)] [] 0 0 σ
  refine v_aload_n (q := 1) hC dX7_init_0 rfl rfl rfl ?_
  refine v_obj (q := 4) hC dX7_init_1 rfl lX7_3 (by omega) (Nat.le_of_ble_eq_true rfl) ?_
  refine v_aload_n (q := 5) hC dX7_init_4 rfl rfl rfl ?_
  refine v_bipush (q := 7) (v := 36) hC dX7_init_5 rfl (by decide) ?_
  refine v_newI (q := 9) hC dX7_init_7 rfl zac_int (by decide) rfl (by decide) (by decide) ?_
  refine v_putR (q := 12) hC dX7_init_9 rfl fX7_9 (fun _ => ⟨rfl, rfl⟩) (zN_at hs) ?_
  show zV X 1 12 [some (.ref c)] [] _ _ (zA σ c 0 (1, 36))
  have h_1 : ((zA σ c 0 (1, 36))).1[c]? = some (0, 7) := zA_at hs
  refine v_aload_n (q := 13) hC dX7_init_12 rfl rfl rfl ?_
  refine v_bipush (q := 15) (v := 36) hC dX7_init_13 rfl (by decide) ?_
  refine v_newI (q := 17) hC dX7_init_15 rfl zac_int (by decide) rfl (by decide) (by decide) ?_
  refine v_putR (q := 20) hC dX7_init_17 rfl fX7_15 (fun _ => ⟨rfl, rfl⟩) (zN_at h_1) ?_
  show zV X 1 20 [some (.ref c)] [] _ _ (zA (zA σ c 0 (1, 36)) c 1 (1, 36))
  have h_2 : ((zA (zA σ c 0 (1, 36)) c 1 (1, 36))).1[c]? = some (0, 7) := zA_at h_1
  refine v_return hC hB dX7_init_20 (by decide) ?_
  exact ⟨rfl, rfl⟩

set_option maxRecDepth 100000 in
set_option maxHeartbeats 4000000 in
theorem ct_X4_init (d : Nat) {σ : zSt} {c : Nat} (hs : σ.1[c]? = some (0, 4)) : zEv (d + 1) MX4_init [.ref c] σ none (zLeI σ c) := by
  refine zCt.of (L := [some (.ref c)]) (by decide) (Nat.le_of_ble_eq_true rfl) rfl (fun X hC hB => ?_)
  have hC : zC X RX4 cX4_init 1 (d + 1) 6 72 := hC
  have hB : zB X none 6 72 "<init>" σ _ := hB
  show zV X 1 0 [some (.ref c)] [] 0 0 σ
  refine v_aload_n (q := 1) hC dX4_init_0 rfl rfl rfl ?_
  refine v_obj (q := 4) hC dX4_init_1 rfl lX4_3 (by omega) (Nat.le_of_ble_eq_true rfl) ?_
  refine v_aload_n (q := 5) hC dX4_init_4 rfl rfl rfl ?_
  refine v_bipush (q := 7) (v := 12) hC dX4_init_5 rfl (by decide) ?_
  refine v_newI (q := 9) hC dX4_init_7 rfl zac_int (by decide) rfl (by decide) (by decide) ?_
  refine v_putF (q := 12) hC hB dX4_init_9 rfl fX4_9 (fun _ => ⟨rfl, rfl⟩) rfl (zN_at hs) ?_
  show zV X 1 12 [some (.ref c)] [] _ _ (zA σ c 0 (1, 12))
  have h_1 : ((zA σ c 0 (1, 12))).1[c]? = some (0, 4) := zA_at hs
  refine v_aload_n (q := 13) hC dX4_init_12 rfl rfl rfl ?_
  refine v_bipush (q := 15) (v := 12) hC dX4_init_13 rfl (by decide) ?_
  refine v_newI (q := 17) hC dX4_init_15 rfl zac_int (by decide) rfl (by decide) (by decide) ?_
  refine v_putF (q := 20) hC hB dX4_init_17 rfl fX4_15 (fun _ => ⟨rfl, rfl⟩) rfl (zN_at h_1) ?_
  show zV X 1 20 [some (.ref c)] [] _ _ (zA (zA σ c 0 (1, 12)) c 1 (1, 12))
  have h_2 : ((zA (zA σ c 0 (1, 12)) c 1 (1, 12))).1[c]? = some (0, 4) := zA_at h_1
  refine v_aload_n (q := 21) hC dX4_init_20 rfl rfl rfl ?_
  refine v_bipush (q := 23) (v := 12) hC dX4_init_21 rfl (by decide) ?_
  refine v_newI (q := 25) hC dX4_init_23 rfl zac_int (by decide) rfl (by decide) (by decide) ?_
  refine v_putF (q := 28) hC hB dX4_init_25 rfl fX4_18 (fun _ => ⟨rfl, rfl⟩) rfl (zN_at h_2) ?_
  show zV X 1 28 [some (.ref c)] [] _ _ (zA (zA (zA σ c 0 (1, 12)) c 1 (1, 12)) c 2 (1, 12))
  have h_3 : ((zA (zA (zA σ c 0 (1, 12)) c 1 (1, 12)) c 2 (1, 12))).1[c]? = some (0, 4) := zA_at h_2
  refine v_aload_n (q := 29) hC dX4_init_28 rfl rfl rfl ?_
  refine v_bipush (q := 31) (v := 12) hC dX4_init_29 rfl (by decide) ?_
  refine v_newI (q := 33) hC dX4_init_31 rfl zac_int (by decide) rfl (by decide) (by decide) ?_
  refine v_putF (q := 36) hC hB dX4_init_33 rfl fX4_21 (fun _ => ⟨rfl, rfl⟩) rfl (zN_at h_3) ?_
  show zV X 1 36 [some (.ref c)] [] _ _ (zA (zA (zA (zA σ c 0 (1, 12)) c 1 (1, 12)) c 2 (1, 12)) c 3 (1, 12))
  have h_4 : ((zA (zA (zA (zA σ c 0 (1, 12)) c 1 (1, 12)) c 2 (1, 12)) c 3 (1, 12))).1[c]? = some (0, 4) := zA_at h_3
  refine v_aload_n (q := 37) hC dX4_init_36 rfl rfl rfl ?_
  refine v_bipush (q := 39) (v := 12) hC dX4_init_37 rfl (by decide) ?_
  refine v_newI (q := 41) hC dX4_init_39 rfl zac_int (by decide) rfl (by decide) (by decide) ?_
  refine v_putF (q := 44) hC hB dX4_init_41 rfl fX4_24 (fun _ => ⟨rfl, rfl⟩) rfl (zN_at h_4) ?_
  show zV X 1 44 [some (.ref c)] [] _ _ (zA (zA (zA (zA (zA σ c 0 (1, 12)) c 1 (1, 12)) c 2 (1, 12)) c 3 (1, 12)) c 4 (1, 12))
  have h_5 : ((zA (zA (zA (zA (zA σ c 0 (1, 12)) c 1 (1, 12)) c 2 (1, 12)) c 3 (1, 12)) c 4 (1, 12))).1[c]? = some (0, 4) := zA_at h_4
  refine v_aload_n (q := 45) hC dX4_init_44 rfl rfl rfl ?_
  refine v_bipush (q := 47) (v := 12) hC dX4_init_45 rfl (by decide) ?_
  refine v_newI (q := 49) hC dX4_init_47 rfl zac_int (by decide) rfl (by decide) (by decide) ?_
  refine v_putF (q := 52) hC hB dX4_init_49 rfl fX4_27 (fun _ => ⟨rfl, rfl⟩) rfl (zN_at h_5) ?_
  show zV X 1 52 [some (.ref c)] [] _ _ (zA (zA (zA (zA (zA (zA σ c 0 (1, 12)) c 1 (1, 12)) c 2 (1, 12)) c 3 (1, 12)) c 4 (1, 12)) c 5 (1, 12))
  have h_6 : ((zA (zA (zA (zA (zA (zA σ c 0 (1, 12)) c 1 (1, 12)) c 2 (1, 12)) c 3 (1, 12)) c 4 (1, 12)) c 5 (1, 12))).1[c]? = some (0, 4) := zA_at h_5
  refine v_return hC hB dX4_init_52 (by decide) ?_
  exact ⟨rfl, rfl⟩

set_option maxRecDepth 100000 in
set_option maxHeartbeats 4000000 in
theorem ct_X3_init (d : Nat) {σ : zSt} {c : Nat} (hs : σ.1[c]? = some (0, 3)) : zEv (d + 2) MX3_init [.ref c] σ none (zRdI σ c) := by
  refine zCt.of (L := [some (.ref c)]) (by decide) (Nat.le_of_ble_eq_true rfl) rfl (fun X hC hB => ?_)
  have hC : zC X RX3 cX3_init 1 (d + 2) 4 76 := hC
  have hB : zB X none 4 76 "<init>" σ _ := hB
  show zV X 1 0 [some (.ref c)] [] 0 0 σ
  refine v_aload_n (q := 1) hC dX3_init_0 rfl rfl rfl ?_
  refine v_obj (q := 4) hC dX3_init_1 rfl lX3_3 (by omega) (Nat.le_of_ble_eq_true rfl) ?_
  refine v_aload_n (q := 5) hC dX3_init_4 rfl rfl rfl ?_
  refine v_new (q := 8) hC dX3_init_5 rfl nX3_9 (by decide) ?_
  refine v_dup (q := 9) hC dX3_init_8 rfl rfl ?_
  refine v_callIN (q := 12) (As := []) hC dX3_init_9 rfl lX3_11 mX6_init iX6_init rfl (ct_X6_init (d + 0) zN_new) rfl rfl (by omega) (by decide) (Nat.le_of_ble_eq_true rfl) ?_
  rintro _ _ ⟨rfl, rfl⟩
  refine v_putF (q := 15) hC hB dX3_init_12 rfl fX3_12 (fun _ => ⟨rfl, rfl⟩) rfl (kPa _ _ _ _ (zN_at hs)) ?_
  show zV X 1 15 [some (.ref c)] [] _ _ (zO zPaI σ c 0 6)
  have h_1 : ((zO zPaI σ c 0 6)).1[c]? = some (0, 3) := zO_at kPa hs
  refine v_aload_n (q := 16) hC dX3_init_15 rfl rfl rfl ?_
  refine v_new (q := 19) hC dX3_init_16 rfl nX3_9 (by decide) ?_
  refine v_dup (q := 20) hC dX3_init_19 rfl rfl ?_
  refine v_callIN (q := 23) (As := []) hC dX3_init_20 rfl lX3_11 mX6_init iX6_init rfl (ct_X6_init (d + 0) zN_new) rfl rfl (by omega) (by decide) (Nat.le_of_ble_eq_true rfl) ?_
  rintro _ _ ⟨rfl, rfl⟩
  refine v_putF (q := 26) hC hB dX3_init_23 rfl fX3_18 (fun _ => ⟨rfl, rfl⟩) rfl (kPa _ _ _ _ (zN_at h_1)) ?_
  show zV X 1 26 [some (.ref c)] [] _ _ (zO zPaI (zO zPaI σ c 0 6) c 1 6)
  have h_2 : ((zO zPaI (zO zPaI σ c 0 6) c 1 6)).1[c]? = some (0, 3) := zO_at kPa h_1
  refine v_return hC hB dX3_init_26 (by decide) ?_
  exact ⟨rfl, rfl⟩

set_option maxRecDepth 100000 in
set_option maxHeartbeats 4000000 in
theorem ct_X2_init (d : Nat) {σ : zSt} {c : Nat} (hs : σ.1[c]? = some (0, 2)) : zEv (d + 2) MX2_init [.ref c] σ none (zFoI σ c) := by
  refine zCt.of (L := [some (.ref c)]) (by decide) (Nat.le_of_ble_eq_true rfl) rfl (fun X hC hB => ?_)
  have hC : zC X RX2 cX2_init 1 (d + 2) 5 82 := hC
  have hB : zB X none 5 82 "<init>" σ _ := hB
  show zV X 1 0 [some (.ref c)] [] 0 0 σ
  refine v_aload_n (q := 1) hC dX2_init_0 rfl rfl rfl ?_
  refine v_obj (q := 4) hC dX2_init_1 rfl lX2_3 (by omega) (Nat.le_of_ble_eq_true rfl) ?_
  refine v_aload_n (q := 5) hC dX2_init_4 rfl rfl rfl ?_
  refine v_new (q := 8) hC dX2_init_5 rfl nX2_9 (by decide) ?_
  refine v_dup (q := 9) hC dX2_init_8 rfl rfl ?_
  refine v_callIN (q := 12) (As := []) hC dX2_init_9 rfl lX2_11 mX6_init iX6_init rfl (ct_X6_init (d + 0) zN_new) rfl rfl (by omega) (by decide) (Nat.le_of_ble_eq_true rfl) ?_
  rintro _ _ ⟨rfl, rfl⟩
  refine v_putF (q := 15) hC hB dX2_init_12 rfl fX2_12 (fun _ => ⟨rfl, rfl⟩) rfl (kPa _ _ _ _ (zN_at hs)) ?_
  show zV X 1 15 [some (.ref c)] [] _ _ (zO zPaI σ c 0 6)
  have h_1 : ((zO zPaI σ c 0 6)).1[c]? = some (0, 2) := zO_at kPa hs
  refine v_aload_n (q := 16) hC dX2_init_15 rfl rfl rfl ?_
  refine v_new (q := 19) hC dX2_init_16 rfl nX2_9 (by decide) ?_
  refine v_dup (q := 20) hC dX2_init_19 rfl rfl ?_
  refine v_callIN (q := 23) (As := []) hC dX2_init_20 rfl lX2_11 mX6_init iX6_init rfl (ct_X6_init (d + 0) zN_new) rfl rfl (by omega) (by decide) (Nat.le_of_ble_eq_true rfl) ?_
  rintro _ _ ⟨rfl, rfl⟩
  refine v_putF (q := 26) hC hB dX2_init_23 rfl fX2_18 (fun _ => ⟨rfl, rfl⟩) rfl (kPa _ _ _ _ (zN_at h_1)) ?_
  show zV X 1 26 [some (.ref c)] [] _ _ (zO zPaI (zO zPaI σ c 0 6) c 1 6)
  have h_2 : ((zO zPaI (zO zPaI σ c 0 6) c 1 6)).1[c]? = some (0, 2) := zO_at kPa h_1
  refine v_aload_n (q := 27) hC dX2_init_26 rfl rfl rfl ?_
  refine v_bipush (q := 29) (v := 6) hC dX2_init_27 rfl (by decide) ?_
  refine v_newI (q := 31) hC dX2_init_29 rfl zac_int (by decide) rfl (by decide) (by decide) ?_
  refine v_putF (q := 34) hC hB dX2_init_31 rfl fX2_21 (fun _ => ⟨rfl, rfl⟩) rfl (zN_at h_2) ?_
  show zV X 1 34 [some (.ref c)] [] _ _ (zA (zO zPaI (zO zPaI σ c 0 6) c 1 6) c 2 (1, 6))
  have h_3 : ((zA (zO zPaI (zO zPaI σ c 0 6) c 1 6) c 2 (1, 6))).1[c]? = some (0, 2) := zA_at h_2
  refine v_return hC hB dX2_init_34 (by decide) ?_
  exact ⟨rfl, rfl⟩

set_option maxRecDepth 100000 in
set_option maxHeartbeats 4000000 in
theorem ct_X8_init (d : Nat) {σ : zSt} {c : Nat} (hs : σ.1[c]? = some (0, 8)) (fo : Nat) : zEv (d + 1) MX8_init [.ref c, .ref fo] σ none (zStI fo σ c) := by
  refine zCt.of (L := [some (.ref c), some (.ref fo)]) (by decide) (Nat.le_of_ble_eq_true rfl) rfl (fun X hC hB => ?_)
  have hC : zC X RX8 cX8_init 2 (d + 1) 2 72 := hC
  have hB : zB X none 2 72 "<init>" σ _ := hB
  show zV X 2 0 [some (.ref c), some (.ref fo)] [] 0 0 σ
  refine v_aload_n (q := 1) hC dX8_init_0 rfl rfl rfl ?_
  refine v_obj (q := 4) hC dX8_init_1 rfl lX8_3 (by omega) (Nat.le_of_ble_eq_true rfl) ?_
  refine v_aload_n (q := 5) hC dX8_init_4 rfl rfl rfl ?_
  refine v_bipush (q := 7) (v := 36) hC dX8_init_5 rfl (by decide) ?_
  refine v_newZ (q := 9) hC dX8_init_7 rfl zac_boolean (by decide) rfl (by decide) (by decide) ?_
  refine v_putF (q := 12) hC hB dX8_init_9 rfl fX8_9 (fun _ => ⟨rfl, rfl⟩) rfl (zN_at hs) ?_
  show zV X 2 12 [some (.ref c), some (.ref fo)] [] _ _ (zA σ c 1 (2, 36))
  have h_1 : ((zA σ c 1 (2, 36))).1[c]? = some (0, 8) := zA_at hs
  refine v_aload_n (q := 13) hC dX8_init_12 rfl rfl rfl ?_
  refine v_bipush (q := 15) (v := 36) hC dX8_init_13 rfl (by decide) ?_
  refine v_newZ (q := 17) hC dX8_init_15 rfl zac_boolean (by decide) rfl (by decide) (by decide) ?_
  refine v_putF (q := 20) hC hB dX8_init_17 rfl fX8_15 (fun _ => ⟨rfl, rfl⟩) rfl (zN_at h_1) ?_
  show zV X 2 20 [some (.ref c), some (.ref fo)] [] _ _ (zA (zA σ c 1 (2, 36)) c 2 (2, 36))
  have h_2 : ((zA (zA σ c 1 (2, 36)) c 2 (2, 36))).1[c]? = some (0, 8) := zA_at h_1
  refine v_aload_n (q := 21) hC dX8_init_20 rfl rfl rfl ?_
  refine v_aload_n (q := 22) hC dX8_init_21 rfl rfl rfl ?_
  refine v_putF (q := 25) hC hB dX8_init_22 rfl fX8_18 (fun _ => ⟨rfl, rfl⟩) rfl h_2 ?_
  have h_3 := h_2
  refine v_return hC hB dX8_init_25 (by decide) ?_
  exact ⟨rfl, rfl⟩

set_option maxRecDepth 100000 in
set_option maxHeartbeats 4000000 in
theorem ct_X10_init (d : Nat) {σ : zSt} {c : Nat} (hs : σ.1[c]? = some (0, 10)) (fo st : Nat) : zEv (d + 2) MX10_init [.ref c, .ref fo, .ref st] σ none (zWaI fo st σ c) := by
  refine zCt.of (L := [some (.ref c), some (.ref fo), some (.ref st)]) (by decide) (Nat.le_of_ble_eq_true rfl) rfl (fun X hC hB => ?_)
  have hC : zC X RX10 cX10_init 3 (d + 2) 4 80 := hC
  have hB : zB X none 4 80 "<init>" σ _ := hB
  show zV X 3 0 [some (.ref c), some (.ref fo), some (.ref st)] [] 0 0 σ
  refine v_aload_n (q := 1) hC dX10_init_0 rfl rfl rfl ?_
  refine v_obj (q := 4) hC dX10_init_1 rfl lX10_3 (by omega) (Nat.le_of_ble_eq_true rfl) ?_
  refine v_aload_n (q := 5) hC dX10_init_4 rfl rfl rfl ?_
  refine v_new (q := 8) hC dX10_init_5 rfl nX10_9 (by decide) ?_
  refine v_dup (q := 9) hC dX10_init_8 rfl rfl ?_
  refine v_callIN (q := 12) (As := []) hC dX10_init_9 rfl lX10_11 mX7_init iX7_init rfl (ct_X7_init (d + 0) zN_new) rfl rfl (by omega) (by decide) (Nat.le_of_ble_eq_true rfl) ?_
  rintro _ _ ⟨rfl, rfl⟩
  refine v_putF (q := 15) hC hB dX10_init_12 rfl fX10_12 (fun _ => ⟨rfl, rfl⟩) rfl (kRo _ _ _ _ (zN_at hs)) ?_
  show zV X 3 15 [some (.ref c), some (.ref fo), some (.ref st)] [] _ _ (zO zRoI σ c 2 7)
  have h_1 : ((zO zRoI σ c 2 7)).1[c]? = some (0, 10) := zO_at kRo hs
  refine v_aload_n (q := 16) hC dX10_init_15 rfl rfl rfl ?_
  refine v_bipush (q := 18) (v := 6) hC dX10_init_16 rfl (by decide) ?_
  refine v_newZ (q := 20) hC dX10_init_18 rfl zac_boolean (by decide) rfl (by decide) (by decide) ?_
  refine v_putF (q := 23) hC hB dX10_init_20 rfl fX10_18 (fun _ => ⟨rfl, rfl⟩) rfl (zN_at h_1) ?_
  show zV X 3 23 [some (.ref c), some (.ref fo), some (.ref st)] [] _ _ (zA (zO zRoI σ c 2 7) c 3 (2, 6))
  have h_2 : ((zA (zO zRoI σ c 2 7) c 3 (2, 6))).1[c]? = some (0, 10) := zA_at h_1
  refine v_aload_n (q := 24) hC dX10_init_23 rfl rfl rfl ?_
  refine v_aload_n (q := 25) hC dX10_init_24 rfl rfl rfl ?_
  refine v_putF (q := 28) hC hB dX10_init_25 rfl fX10_22 (fun _ => ⟨rfl, rfl⟩) rfl h_2 ?_
  have h_3 := h_2
  refine v_aload_n (q := 29) hC dX10_init_28 rfl rfl rfl ?_
  refine v_aload_n (q := 30) hC dX10_init_29 rfl rfl rfl ?_
  refine v_putF (q := 33) hC hB dX10_init_30 rfl fX10_26 (fun _ => ⟨rfl, rfl⟩) rfl h_2 ?_
  have h_4 := h_2
  refine v_return hC hB dX10_init_33 (by decide) ?_
  exact ⟨rfl, rfl⟩

set_option maxRecDepth 100000 in
set_option maxHeartbeats 4000000 in
theorem ct_X9_init (d : Nat) {σ : zSt} {c : Nat} (hs : σ.1[c]? = some (0, 9)) (fo st : Nat) : zEv (d + 2) MX9_init [.ref c, .ref fo, .ref st] σ none (zTaI fo st σ c) := by
  refine zCt.of (L := [some (.ref c), some (.ref fo), some (.ref st)]) (by decide) (Nat.le_of_ble_eq_true rfl) rfl (fun X hC hB => ?_)
  have hC : zC X RX9 cX9_init 3 (d + 2) 5 83 := hC
  have hB : zB X none 5 83 "<init>" σ _ := hB
  show zV X 3 0 [some (.ref c), some (.ref fo), some (.ref st)] [] 0 0 σ
  refine v_aload_n (q := 1) hC dX9_init_0 rfl rfl rfl ?_
  refine v_obj (q := 4) hC dX9_init_1 rfl lX9_3 (by omega) (Nat.le_of_ble_eq_true rfl) ?_
  refine v_aload_n (q := 5) hC dX9_init_4 rfl rfl rfl ?_
  refine v_new (q := 8) hC dX9_init_5 rfl nX9_9 (by decide) ?_
  refine v_dup (q := 9) hC dX9_init_8 rfl rfl ?_
  refine v_callIN (q := 12) (As := []) hC dX9_init_9 rfl lX9_11 mX7_init iX7_init rfl (ct_X7_init (d + 0) zN_new) rfl rfl (by omega) (by decide) (Nat.le_of_ble_eq_true rfl) ?_
  rintro _ _ ⟨rfl, rfl⟩
  refine v_putF (q := 15) hC hB dX9_init_12 rfl fX9_12 (fun _ => ⟨rfl, rfl⟩) rfl (kRo _ _ _ _ (zN_at hs)) ?_
  show zV X 3 15 [some (.ref c), some (.ref fo), some (.ref st)] [] _ _ (zO zRoI σ c 2 7)
  have h_1 : ((zO zRoI σ c 2 7)).1[c]? = some (0, 9) := zO_at kRo hs
  refine v_aload_n (q := 16) hC dX9_init_15 rfl rfl rfl ?_
  refine v_new (q := 19) hC dX9_init_16 rfl nX9_18 (by decide) ?_
  refine v_dup (q := 20) hC dX9_init_19 rfl rfl ?_
  refine v_callIN (q := 23) (As := []) hC dX9_init_20 rfl lX9_20 mX0_init iX0_init rfl (ct_X0_init (d + 0) zN_new) rfl rfl (by omega) (by decide) (Nat.le_of_ble_eq_true rfl) ?_
  rintro _ _ ⟨rfl, rfl⟩
  refine v_putF (q := 26) hC hB dX9_init_23 rfl fX9_21 (fun _ => ⟨rfl, rfl⟩) rfl (kDi _ _ _ _ (zN_at h_1)) ?_
  show zV X 3 26 [some (.ref c), some (.ref fo), some (.ref st)] [] _ _ (zO zDiI (zO zRoI σ c 2 7) c 3 0)
  have h_2 : ((zO zDiI (zO zRoI σ c 2 7) c 3 0)).1[c]? = some (0, 9) := zO_at kDi h_1
  refine v_aload_n (q := 27) hC dX9_init_26 rfl rfl rfl ?_
  refine v_aload_n (q := 28) hC dX9_init_27 rfl rfl rfl ?_
  refine v_putF (q := 31) hC hB dX9_init_28 rfl fX9_25 (fun _ => ⟨rfl, rfl⟩) rfl h_2 ?_
  have h_3 := h_2
  refine v_aload_n (q := 32) hC dX9_init_31 rfl rfl rfl ?_
  refine v_aload_n (q := 33) hC dX9_init_32 rfl rfl rfl ?_
  refine v_putF (q := 36) hC hB dX9_init_33 rfl fX9_29 (fun _ => ⟨rfl, rfl⟩) rfl h_2 ?_
  have h_4 := h_2
  refine v_return hC hB dX9_init_36 (by decide) ?_
  exact ⟨rfl, rfl⟩

