/-! ===== the constructors of the class and of the model ===== -/
def zE0 : zSt := ([], fun _ _ => 0, fun _ _ => 0, fun _ _ => none)
/-- the memory when the class's object is made -/
def zMaI : zSt := (zO zDiI (zO zLeI (zO zDiI (zO zLeI (zO zLeI (zO (zTaI 8 14) (zO (zWaI 8 14) (zO (zStI 8) (zO zFoI (zO zRdI (zO zPgI (zN zE0 (0, 11)) 0 0 5) 0 1 3) 0 2 2) 0 3 8) 0 4 10) 0 5 9) 0 6 4) 0 7 4) 0 8 0) 0 9 4) 0 10 0)
set_option maxRecDepth 100000 in
set_option maxHeartbeats 4000000 in
theorem ct_X11_init (d : Nat)  : zEv (d + 3) MX11_init [.ref 0] (zN zE0 (0, 11)) none zMaI := by
  refine zCt.of (L := [some (.ref 0)]) (by decide) (Nat.le_of_ble_eq_true rfl) rfl (fun X hC hB => ?_)
  have hC : zC X RX11 cX11_init 1 (d + 3) 52 729 := hC
  have hB : zB X none 52 729 "<init>" (zN zE0 (0, 11)) _ := hB
  show zV X 1 0 [some (.ref 0)] [] 0 0 (zN zE0 (0, 11))
  have hs0 : (zN zE0 (0, 11)).1[0]? = some (0, 11) := rfl
  refine v_aload_n (q := 1) hC dX11_init_0 rfl rfl rfl ?_
  refine v_obj (q := 4) hC dX11_init_1 rfl lX11_1 (by omega) (Nat.le_of_ble_eq_true rfl) ?_
  refine v_aload_n (q := 5) hC dX11_init_4 rfl rfl rfl ?_
  refine v_new (q := 8) hC dX11_init_5 rfl nX11_7 (by decide) ?_
  refine v_dup (q := 9) hC dX11_init_8 rfl rfl ?_
  refine v_callIN (q := 12) (As := []) hC dX11_init_9 rfl lX11_9 mX5_init iX5_init rfl (ct_X5_init (d + 1) zN_new) rfl rfl (by omega) (by decide) (Nat.le_of_ble_eq_true rfl) ?_
  rintro _ _ ⟨rfl, rfl⟩
  refine v_putF (q := 15) hC hB dX11_init_12 rfl fX11_10 (fun _ => ⟨rfl, rfl⟩) rfl (kPg _ _ _ _ (zN_at hs0)) ?_
  show zV X 1 15 [some (.ref 0)] [] _ _ (zO zPgI (zN zE0 (0, 11)) 0 0 5)
  have h_1 : ((zO zPgI (zN zE0 (0, 11)) 0 0 5)).1[0]? = some (0, 11) := zO_at kPg hs0
  refine v_aload_n (q := 16) hC dX11_init_15 rfl rfl rfl ?_
  refine v_new (q := 19) hC dX11_init_16 rfl nX11_16 (by decide) ?_
  refine v_dup (q := 20) hC dX11_init_19 rfl rfl ?_
  refine v_callIN (q := 23) (As := []) hC dX11_init_20 rfl lX11_18 mX3_init iX3_init rfl (ct_X3_init (d + 0) zN_new) rfl rfl (by omega) (by decide) (Nat.le_of_ble_eq_true rfl) ?_
  rintro _ _ ⟨rfl, rfl⟩
  refine v_putF (q := 26) hC hB dX11_init_23 rfl fX11_19 (fun _ => ⟨rfl, rfl⟩) rfl (kRd _ _ _ _ (zN_at h_1)) ?_
  show zV X 1 26 [some (.ref 0)] [] _ _ (zO zRdI (zO zPgI (zN zE0 (0, 11)) 0 0 5) 0 1 3)
  have h_2 : ((zO zRdI (zO zPgI (zN zE0 (0, 11)) 0 0 5) 0 1 3)).1[0]? = some (0, 11) := zO_at kRd h_1
  refine v_aload_n (q := 27) hC dX11_init_26 rfl rfl rfl ?_
  refine v_new (q := 30) hC dX11_init_27 rfl nX11_23 (by decide) ?_
  refine v_dup (q := 31) hC dX11_init_30 rfl rfl ?_
  refine v_callIN (q := 34) (As := []) hC dX11_init_31 rfl lX11_25 mX2_init iX2_init rfl (ct_X2_init (d + 0) zN_new) rfl rfl (by omega) (by decide) (Nat.le_of_ble_eq_true rfl) ?_
  rintro _ _ ⟨rfl, rfl⟩
  refine v_putF (q := 37) hC hB dX11_init_34 rfl fX11_26 (fun _ => ⟨rfl, rfl⟩) rfl (kFo _ _ _ _ (zN_at h_2)) ?_
  show zV X 1 37 [some (.ref 0)] [] _ _ (zO zFoI (zO zRdI (zO zPgI (zN zE0 (0, 11)) 0 0 5) 0 1 3) 0 2 2)
  have h_3 : ((zO zFoI (zO zRdI (zO zPgI (zN zE0 (0, 11)) 0 0 5) 0 1 3) 0 2 2)).1[0]? = some (0, 11) := zO_at kFo h_2
  refine v_aload_n (q := 38) hC dX11_init_37 rfl rfl rfl ?_
  refine v_new (q := 41) hC dX11_init_38 rfl nX11_30 (by decide) ?_
  refine v_dup (q := 42) hC dX11_init_41 rfl rfl ?_
  refine v_aload_n (q := 43) hC dX11_init_42 rfl rfl rfl ?_
  refine v_getR (q := 46) (r := 8) hC dX11_init_43 rfl fX11_26 (zN_at h_3) (by decide +kernel) ?_
  refine v_callI (q := 49) (As := [_]) hC dX11_init_46 rfl lX11_32 mX8_init iX8_init rfl (ct_X8_init (d + 1) zN_new 8) rfl rfl (by omega) (by decide) (Nat.le_of_ble_eq_true rfl) ?_
  rintro _ _ ⟨rfl, rfl⟩
  refine v_putF (q := 52) hC hB dX11_init_49 rfl fX11_35 (fun _ => ⟨rfl, rfl⟩) rfl (kSt _ _ _ _ (zN_at h_3)) ?_
  show zV X 1 52 [some (.ref 0)] [] _ _ (zO (zStI 8) (zO zFoI (zO zRdI (zO zPgI (zN zE0 (0, 11)) 0 0 5) 0 1 3) 0 2 2) 0 3 8)
  have h_4 : ((zO (zStI 8) (zO zFoI (zO zRdI (zO zPgI (zN zE0 (0, 11)) 0 0 5) 0 1 3) 0 2 2) 0 3 8)).1[0]? = some (0, 11) := zO_at kSt h_3
  refine v_aload_n (q := 53) hC dX11_init_52 rfl rfl rfl ?_
  refine v_new (q := 56) hC dX11_init_53 rfl nX11_39 (by decide) ?_
  refine v_dup (q := 57) hC dX11_init_56 rfl rfl ?_
  refine v_aload_n (q := 58) hC dX11_init_57 rfl rfl rfl ?_
  refine v_getR (q := 61) (r := 8) hC dX11_init_58 rfl fX11_26 (zN_at h_4) (by decide +kernel) ?_
  refine v_aload_n (q := 62) hC dX11_init_61 rfl rfl rfl ?_
  refine v_getR (q := 65) (r := 14) hC dX11_init_62 rfl fX11_35 (zN_at h_4) (by decide +kernel) ?_
  refine v_callI (q := 68) (As := [_, _]) hC dX11_init_65 rfl lX11_41 mX10_init iX10_init rfl (ct_X10_init (d + 0) zN_new 8 14) rfl rfl (by omega) (by decide) (Nat.le_of_ble_eq_true rfl) ?_
  rintro _ _ ⟨rfl, rfl⟩
  refine v_putF (q := 71) hC hB dX11_init_68 rfl fX11_44 (fun _ => ⟨rfl, rfl⟩) rfl (kWa _ _ _ _ (zN_at h_4)) ?_
  show zV X 1 71 [some (.ref 0)] [] _ _ (zO (zWaI 8 14) (zO (zStI 8) (zO zFoI (zO zRdI (zO zPgI (zN zE0 (0, 11)) 0 0 5) 0 1 3) 0 2 2) 0 3 8) 0 4 10)
  have h_5 : ((zO (zWaI 8 14) (zO (zStI 8) (zO zFoI (zO zRdI (zO zPgI (zN zE0 (0, 11)) 0 0 5) 0 1 3) 0 2 2) 0 3 8) 0 4 10)).1[0]? = some (0, 11) := zO_at kWa h_4
  refine v_aload_n (q := 72) hC dX11_init_71 rfl rfl rfl ?_
  refine v_new (q := 75) hC dX11_init_72 rfl nX11_48 (by decide) ?_
  refine v_dup (q := 76) hC dX11_init_75 rfl rfl ?_
  refine v_aload_n (q := 77) hC dX11_init_76 rfl rfl rfl ?_
  refine v_getR (q := 80) (r := 8) hC dX11_init_77 rfl fX11_26 (zN_at h_5) (by decide +kernel) ?_
  refine v_aload_n (q := 81) hC dX11_init_80 rfl rfl rfl ?_
  refine v_getR (q := 84) (r := 14) hC dX11_init_81 rfl fX11_35 (zN_at h_5) (by decide +kernel) ?_
  refine v_callI (q := 87) (As := [_, _]) hC dX11_init_84 rfl lX11_50 mX9_init iX9_init rfl (ct_X9_init (d + 0) zN_new 8 14) rfl rfl (by omega) (by decide) (Nat.le_of_ble_eq_true rfl) ?_
  rintro _ _ ⟨rfl, rfl⟩
  refine v_putF (q := 90) hC hB dX11_init_87 rfl fX11_51 (fun _ => ⟨rfl, rfl⟩) rfl (kTa _ _ _ _ (zN_at h_5)) ?_
  show zV X 1 90 [some (.ref 0)] [] _ _ (zO (zTaI 8 14) (zO (zWaI 8 14) (zO (zStI 8) (zO zFoI (zO zRdI (zO zPgI (zN zE0 (0, 11)) 0 0 5) 0 1 3) 0 2 2) 0 3 8) 0 4 10) 0 5 9)
  have h_6 : ((zO (zTaI 8 14) (zO (zWaI 8 14) (zO (zStI 8) (zO zFoI (zO zRdI (zO zPgI (zN zE0 (0, 11)) 0 0 5) 0 1 3) 0 2 2) 0 3 8) 0 4 10) 0 5 9)).1[0]? = some (0, 11) := zO_at kTa h_5
  refine v_aload_n (q := 91) hC dX11_init_90 rfl rfl rfl ?_
  refine v_new (q := 94) hC dX11_init_91 rfl nX11_55 (by decide) ?_
  refine v_dup (q := 95) hC dX11_init_94 rfl rfl ?_
  refine v_callIN (q := 98) (As := []) hC dX11_init_95 rfl lX11_57 mX4_init iX4_init rfl (ct_X4_init (d + 1) zN_new) rfl rfl (by omega) (by decide) (Nat.le_of_ble_eq_true rfl) ?_
  rintro _ _ ⟨rfl, rfl⟩
  refine v_putF (q := 101) hC hB dX11_init_98 rfl fX11_58 (fun _ => ⟨rfl, rfl⟩) rfl (kLe _ _ _ _ (zN_at h_6)) ?_
  show zV X 1 101 [some (.ref 0)] [] _ _ (zO zLeI (zO (zTaI 8 14) (zO (zWaI 8 14) (zO (zStI 8) (zO zFoI (zO zRdI (zO zPgI (zN zE0 (0, 11)) 0 0 5) 0 1 3) 0 2 2) 0 3 8) 0 4 10) 0 5 9) 0 6 4)
  have h_7 : ((zO zLeI (zO (zTaI 8 14) (zO (zWaI 8 14) (zO (zStI 8) (zO zFoI (zO zRdI (zO zPgI (zN zE0 (0, 11)) 0 0 5) 0 1 3) 0 2 2) 0 3 8) 0 4 10) 0 5 9) 0 6 4)).1[0]? = some (0, 11) := zO_at kLe h_6
  refine v_aload_n (q := 102) hC dX11_init_101 rfl rfl rfl ?_
  refine v_new (q := 105) hC dX11_init_102 rfl nX11_55 (by decide) ?_
  refine v_dup (q := 106) hC dX11_init_105 rfl rfl ?_
  refine v_callIN (q := 109) (As := []) hC dX11_init_106 rfl lX11_57 mX4_init iX4_init rfl (ct_X4_init (d + 1) zN_new) rfl rfl (by omega) (by decide) (Nat.le_of_ble_eq_true rfl) ?_
  rintro _ _ ⟨rfl, rfl⟩
  refine v_putF (q := 112) hC hB dX11_init_109 rfl fX11_62 (fun _ => ⟨rfl, rfl⟩) rfl (kLe _ _ _ _ (zN_at h_7)) ?_
  show zV X 1 112 [some (.ref 0)] [] _ _ (zO zLeI (zO zLeI (zO (zTaI 8 14) (zO (zWaI 8 14) (zO (zStI 8) (zO zFoI (zO zRdI (zO zPgI (zN zE0 (0, 11)) 0 0 5) 0 1 3) 0 2 2) 0 3 8) 0 4 10) 0 5 9) 0 6 4) 0 7 4)
  have h_8 : ((zO zLeI (zO zLeI (zO (zTaI 8 14) (zO (zWaI 8 14) (zO (zStI 8) (zO zFoI (zO zRdI (zO zPgI (zN zE0 (0, 11)) 0 0 5) 0 1 3) 0 2 2) 0 3 8) 0 4 10) 0 5 9) 0 6 4) 0 7 4)).1[0]? = some (0, 11) := zO_at kLe h_7
  refine v_aload_n (q := 113) hC dX11_init_112 rfl rfl rfl ?_
  refine v_new (q := 116) hC dX11_init_113 rfl nX11_65 (by decide) ?_
  refine v_dup (q := 117) hC dX11_init_116 rfl rfl ?_
  refine v_callIN (q := 120) (As := []) hC dX11_init_117 rfl lX11_67 mX0_init iX0_init rfl (ct_X0_init (d + 1) zN_new) rfl rfl (by omega) (by decide) (Nat.le_of_ble_eq_true rfl) ?_
  rintro _ _ ⟨rfl, rfl⟩
  refine v_putF (q := 123) hC hB dX11_init_120 rfl fX11_68 (fun _ => ⟨rfl, rfl⟩) rfl (kDi _ _ _ _ (zN_at h_8)) ?_
  show zV X 1 123 [some (.ref 0)] [] _ _ (zO zDiI (zO zLeI (zO zLeI (zO (zTaI 8 14) (zO (zWaI 8 14) (zO (zStI 8) (zO zFoI (zO zRdI (zO zPgI (zN zE0 (0, 11)) 0 0 5) 0 1 3) 0 2 2) 0 3 8) 0 4 10) 0 5 9) 0 6 4) 0 7 4) 0 8 0)
  have h_9 : ((zO zDiI (zO zLeI (zO zLeI (zO (zTaI 8 14) (zO (zWaI 8 14) (zO (zStI 8) (zO zFoI (zO zRdI (zO zPgI (zN zE0 (0, 11)) 0 0 5) 0 1 3) 0 2 2) 0 3 8) 0 4 10) 0 5 9) 0 6 4) 0 7 4) 0 8 0)).1[0]? = some (0, 11) := zO_at kDi h_8
  refine v_aload_n (q := 124) hC dX11_init_123 rfl rfl rfl ?_
  refine v_new (q := 127) hC dX11_init_124 rfl nX11_55 (by decide) ?_
  refine v_dup (q := 128) hC dX11_init_127 rfl rfl ?_
  refine v_callIN (q := 131) (As := []) hC dX11_init_128 rfl lX11_57 mX4_init iX4_init rfl (ct_X4_init (d + 1) zN_new) rfl rfl (by omega) (by decide) (Nat.le_of_ble_eq_true rfl) ?_
  rintro _ _ ⟨rfl, rfl⟩
  refine v_putF (q := 134) hC hB dX11_init_131 rfl fX11_72 (fun _ => ⟨rfl, rfl⟩) rfl (kLe _ _ _ _ (zN_at h_9)) ?_
  show zV X 1 134 [some (.ref 0)] [] _ _ (zO zLeI (zO zDiI (zO zLeI (zO zLeI (zO (zTaI 8 14) (zO (zWaI 8 14) (zO (zStI 8) (zO zFoI (zO zRdI (zO zPgI (zN zE0 (0, 11)) 0 0 5) 0 1 3) 0 2 2) 0 3 8) 0 4 10) 0 5 9) 0 6 4) 0 7 4) 0 8 0) 0 9 4)
  have h_10 : ((zO zLeI (zO zDiI (zO zLeI (zO zLeI (zO (zTaI 8 14) (zO (zWaI 8 14) (zO (zStI 8) (zO zFoI (zO zRdI (zO zPgI (zN zE0 (0, 11)) 0 0 5) 0 1 3) 0 2 2) 0 3 8) 0 4 10) 0 5 9) 0 6 4) 0 7 4) 0 8 0) 0 9 4)).1[0]? = some (0, 11) := zO_at kLe h_9
  refine v_aload_n (q := 135) hC dX11_init_134 rfl rfl rfl ?_
  refine v_new (q := 138) hC dX11_init_135 rfl nX11_65 (by decide) ?_
  refine v_dup (q := 139) hC dX11_init_138 rfl rfl ?_
  refine v_callIN (q := 142) (As := []) hC dX11_init_139 rfl lX11_67 mX0_init iX0_init rfl (ct_X0_init (d + 1) zN_new) rfl rfl (by omega) (by decide) (Nat.le_of_ble_eq_true rfl) ?_
  rintro _ _ ⟨rfl, rfl⟩
  refine v_putF (q := 145) hC hB dX11_init_142 rfl fX11_75 (fun _ => ⟨rfl, rfl⟩) rfl (kDi _ _ _ _ (zN_at h_10)) ?_
  show zV X 1 145 [some (.ref 0)] [] _ _ (zO zDiI (zO zLeI (zO zDiI (zO zLeI (zO zLeI (zO (zTaI 8 14) (zO (zWaI 8 14) (zO (zStI 8) (zO zFoI (zO zRdI (zO zPgI (zN zE0 (0, 11)) 0 0 5) 0 1 3) 0 2 2) 0 3 8) 0 4 10) 0 5 9) 0 6 4) 0 7 4) 0 8 0) 0 9 4) 0 10 0)
  have h_11 : ((zO zDiI (zO zLeI (zO zDiI (zO zLeI (zO zLeI (zO (zTaI 8 14) (zO (zWaI 8 14) (zO (zStI 8) (zO zFoI (zO zRdI (zO zPgI (zN zE0 (0, 11)) 0 0 5) 0 1 3) 0 2 2) 0 3 8) 0 4 10) 0 5 9) 0 6 4) 0 7 4) 0 8 0) 0 9 4) 0 10 0)).1[0]? = some (0, 11) := zO_at kDi h_10
  refine v_return hC hB dX11_init_145 (by decide) ?_
  exact ⟨rfl, rfl⟩

def zMoI (σ : zSt) (c : Nat) : zSt := zsI (zsI (zA (zA (zA (zA (zA (zA (zA (zA (zA (zA (zA (zA (zA (zA (zA (zA (zA σ c 0 (1, 54)) c 2 (1, 6)) c 3 (1, 6)) c 14 (1, 6)) c 15 (1, 6)) c 17 (1, 6)) c 23 (1, 72)) c 24 (1, 36)) c 25 (1, 36)) c 26 (1, 36)) c 27 (1, 36)) c 29 (1, 7)) c 30 (1, 7)) c 31 (1, 7)) c 33 (1, 72)) c 39 (1, 72)) c 40 (1, 7)) c 34 (-1)) c 18 (-1)
set_option maxRecDepth 100000 in
set_option maxHeartbeats 4000000 in
theorem ct_X12_init (d : Nat) {σ : zSt} {c : Nat} (hs : σ.1[c]? = some (0, 12)) : zEv (d + 1) MX12_init [.ref c] σ none (zMoI σ c) := by
  refine zCt.of (L := [some (.ref c)]) (by decide) (Nat.le_of_ble_eq_true rfl) rfl (fun X hC hB => ?_)
  have hC : zC X RX12 cX12_init 1 (d + 1) 17 472 := hC
  have hB : zB X none 17 472 "<init>" σ _ := hB
  show zV X 1 0 [some (.ref c)] [] 0 0 σ
  refine v_aload_n (q := 1) hC dX12_init_0 rfl rfl rfl ?_
  refine v_obj (q := 4) hC dX12_init_1 rfl lX12_1 (by omega) (Nat.le_of_ble_eq_true rfl) ?_
  refine v_aload_n (q := 5) hC dX12_init_4 rfl rfl rfl ?_
  refine v_bipush (q := 7) (v := 54) hC dX12_init_5 rfl (by decide) ?_
  refine v_newI (q := 9) hC dX12_init_7 rfl zac_int (by decide) rfl (by decide) (by decide) ?_
  refine v_putF (q := 12) hC hB dX12_init_9 rfl fX12_7 (fun _ => ⟨rfl, rfl⟩) rfl (zN_at hs) ?_
  show zV X 1 12 [some (.ref c)] [] _ _ (zA σ c 0 (1, 54))
  have h_1 : ((zA σ c 0 (1, 54))).1[c]? = some (0, 12) := zA_at hs
  refine v_aload_n (q := 13) hC dX12_init_12 rfl rfl rfl ?_
  refine v_bipush (q := 15) (v := 6) hC dX12_init_13 rfl (by decide) ?_
  refine v_newI (q := 17) hC dX12_init_15 rfl zac_int (by decide) rfl (by decide) (by decide) ?_
  refine v_putF (q := 20) hC hB dX12_init_17 rfl fX12_13 (fun _ => ⟨rfl, rfl⟩) rfl (zN_at h_1) ?_
  show zV X 1 20 [some (.ref c)] [] _ _ (zA (zA σ c 0 (1, 54)) c 2 (1, 6))
  have h_2 : ((zA (zA σ c 0 (1, 54)) c 2 (1, 6))).1[c]? = some (0, 12) := zA_at h_1
  refine v_aload_n (q := 21) hC dX12_init_20 rfl rfl rfl ?_
  refine v_bipush (q := 23) (v := 6) hC dX12_init_21 rfl (by decide) ?_
  refine v_newI (q := 25) hC dX12_init_23 rfl zac_int (by decide) rfl (by decide) (by decide) ?_
  refine v_putF (q := 28) hC hB dX12_init_25 rfl fX12_16 (fun _ => ⟨rfl, rfl⟩) rfl (zN_at h_2) ?_
  show zV X 1 28 [some (.ref c)] [] _ _ (zA (zA (zA σ c 0 (1, 54)) c 2 (1, 6)) c 3 (1, 6))
  have h_3 : ((zA (zA (zA σ c 0 (1, 54)) c 2 (1, 6)) c 3 (1, 6))).1[c]? = some (0, 12) := zA_at h_2
  refine v_aload_n (q := 29) hC dX12_init_28 rfl rfl rfl ?_
  refine v_bipush (q := 31) (v := 6) hC dX12_init_29 rfl (by decide) ?_
  refine v_newI (q := 33) hC dX12_init_31 rfl zac_int (by decide) rfl (by decide) (by decide) ?_
  refine v_putF (q := 36) hC hB dX12_init_33 rfl fX12_19 (fun _ => ⟨rfl, rfl⟩) rfl (zN_at h_3) ?_
  show zV X 1 36 [some (.ref c)] [] _ _ (zA (zA (zA (zA σ c 0 (1, 54)) c 2 (1, 6)) c 3 (1, 6)) c 14 (1, 6))
  have h_4 : ((zA (zA (zA (zA σ c 0 (1, 54)) c 2 (1, 6)) c 3 (1, 6)) c 14 (1, 6))).1[c]? = some (0, 12) := zA_at h_3
  refine v_aload_n (q := 37) hC dX12_init_36 rfl rfl rfl ?_
  refine v_bipush (q := 39) (v := 6) hC dX12_init_37 rfl (by decide) ?_
  refine v_newI (q := 41) hC dX12_init_39 rfl zac_int (by decide) rfl (by decide) (by decide) ?_
  refine v_putF (q := 44) hC hB dX12_init_41 rfl fX12_22 (fun _ => ⟨rfl, rfl⟩) rfl (zN_at h_4) ?_
  show zV X 1 44 [some (.ref c)] [] _ _ (zA (zA (zA (zA (zA σ c 0 (1, 54)) c 2 (1, 6)) c 3 (1, 6)) c 14 (1, 6)) c 15 (1, 6))
  have h_5 : ((zA (zA (zA (zA (zA σ c 0 (1, 54)) c 2 (1, 6)) c 3 (1, 6)) c 14 (1, 6)) c 15 (1, 6))).1[c]? = some (0, 12) := zA_at h_4
  refine v_aload_n (q := 45) hC dX12_init_44 rfl rfl rfl ?_
  refine v_bipush (q := 47) (v := 6) hC dX12_init_45 rfl (by decide) ?_
  refine v_newI (q := 49) hC dX12_init_47 rfl zac_int (by decide) rfl (by decide) (by decide) ?_
  refine v_putF (q := 52) hC hB dX12_init_49 rfl fX12_25 (fun _ => ⟨rfl, rfl⟩) rfl (zN_at h_5) ?_
  show zV X 1 52 [some (.ref c)] [] _ _ (zA (zA (zA (zA (zA (zA σ c 0 (1, 54)) c 2 (1, 6)) c 3 (1, 6)) c 14 (1, 6)) c 15 (1, 6)) c 17 (1, 6))
  have h_6 : ((zA (zA (zA (zA (zA (zA σ c 0 (1, 54)) c 2 (1, 6)) c 3 (1, 6)) c 14 (1, 6)) c 15 (1, 6)) c 17 (1, 6))).1[c]? = some (0, 12) := zA_at h_5
  refine v_aload_n (q := 53) hC dX12_init_52 rfl rfl rfl ?_
  refine v_bipush (q := 55) (v := 72) hC dX12_init_53 rfl (by decide) ?_
  refine v_newI (q := 57) hC dX12_init_55 rfl zac_int (by decide) rfl (by decide) (by decide) ?_
  refine v_putF (q := 60) hC hB dX12_init_57 rfl fX12_28 (fun _ => ⟨rfl, rfl⟩) rfl (zN_at h_6) ?_
  show zV X 1 60 [some (.ref c)] [] _ _ (zA (zA (zA (zA (zA (zA (zA σ c 0 (1, 54)) c 2 (1, 6)) c 3 (1, 6)) c 14 (1, 6)) c 15 (1, 6)) c 17 (1, 6)) c 23 (1, 72))
  have h_7 : ((zA (zA (zA (zA (zA (zA (zA σ c 0 (1, 54)) c 2 (1, 6)) c 3 (1, 6)) c 14 (1, 6)) c 15 (1, 6)) c 17 (1, 6)) c 23 (1, 72))).1[c]? = some (0, 12) := zA_at h_6
  refine v_aload_n (q := 61) hC dX12_init_60 rfl rfl rfl ?_
  refine v_bipush (q := 63) (v := 36) hC dX12_init_61 rfl (by decide) ?_
  refine v_newI (q := 65) hC dX12_init_63 rfl zac_int (by decide) rfl (by decide) (by decide) ?_
  refine v_putF (q := 68) hC hB dX12_init_65 rfl fX12_31 (fun _ => ⟨rfl, rfl⟩) rfl (zN_at h_7) ?_
  show zV X 1 68 [some (.ref c)] [] _ _ (zA (zA (zA (zA (zA (zA (zA (zA σ c 0 (1, 54)) c 2 (1, 6)) c 3 (1, 6)) c 14 (1, 6)) c 15 (1, 6)) c 17 (1, 6)) c 23 (1, 72)) c 24 (1, 36))
  have h_8 : ((zA (zA (zA (zA (zA (zA (zA (zA σ c 0 (1, 54)) c 2 (1, 6)) c 3 (1, 6)) c 14 (1, 6)) c 15 (1, 6)) c 17 (1, 6)) c 23 (1, 72)) c 24 (1, 36))).1[c]? = some (0, 12) := zA_at h_7
  refine v_aload_n (q := 69) hC dX12_init_68 rfl rfl rfl ?_
  refine v_bipush (q := 71) (v := 36) hC dX12_init_69 rfl (by decide) ?_
  refine v_newI (q := 73) hC dX12_init_71 rfl zac_int (by decide) rfl (by decide) (by decide) ?_
  refine v_putF (q := 76) hC hB dX12_init_73 rfl fX12_34 (fun _ => ⟨rfl, rfl⟩) rfl (zN_at h_8) ?_
  show zV X 1 76 [some (.ref c)] [] _ _ (zA (zA (zA (zA (zA (zA (zA (zA (zA σ c 0 (1, 54)) c 2 (1, 6)) c 3 (1, 6)) c 14 (1, 6)) c 15 (1, 6)) c 17 (1, 6)) c 23 (1, 72)) c 24 (1, 36)) c 25 (1, 36))
  have h_9 : ((zA (zA (zA (zA (zA (zA (zA (zA (zA σ c 0 (1, 54)) c 2 (1, 6)) c 3 (1, 6)) c 14 (1, 6)) c 15 (1, 6)) c 17 (1, 6)) c 23 (1, 72)) c 24 (1, 36)) c 25 (1, 36))).1[c]? = some (0, 12) := zA_at h_8
  refine v_aload_n (q := 77) hC dX12_init_76 rfl rfl rfl ?_
  refine v_bipush (q := 79) (v := 36) hC dX12_init_77 rfl (by decide) ?_
  refine v_newI (q := 81) hC dX12_init_79 rfl zac_int (by decide) rfl (by decide) (by decide) ?_
  refine v_putF (q := 84) hC hB dX12_init_81 rfl fX12_37 (fun _ => ⟨rfl, rfl⟩) rfl (zN_at h_9) ?_
  show zV X 1 84 [some (.ref c)] [] _ _ (zA (zA (zA (zA (zA (zA (zA (zA (zA (zA σ c 0 (1, 54)) c 2 (1, 6)) c 3 (1, 6)) c 14 (1, 6)) c 15 (1, 6)) c 17 (1, 6)) c 23 (1, 72)) c 24 (1, 36)) c 25 (1, 36)) c 26 (1, 36))
  have h_10 : ((zA (zA (zA (zA (zA (zA (zA (zA (zA (zA σ c 0 (1, 54)) c 2 (1, 6)) c 3 (1, 6)) c 14 (1, 6)) c 15 (1, 6)) c 17 (1, 6)) c 23 (1, 72)) c 24 (1, 36)) c 25 (1, 36)) c 26 (1, 36))).1[c]? = some (0, 12) := zA_at h_9
  refine v_aload_n (q := 85) hC dX12_init_84 rfl rfl rfl ?_
  refine v_bipush (q := 87) (v := 36) hC dX12_init_85 rfl (by decide) ?_
  refine v_newI (q := 89) hC dX12_init_87 rfl zac_int (by decide) rfl (by decide) (by decide) ?_
  refine v_putF (q := 92) hC hB dX12_init_89 rfl fX12_40 (fun _ => ⟨rfl, rfl⟩) rfl (zN_at h_10) ?_
  show zV X 1 92 [some (.ref c)] [] _ _ (zA (zA (zA (zA (zA (zA (zA (zA (zA (zA (zA σ c 0 (1, 54)) c 2 (1, 6)) c 3 (1, 6)) c 14 (1, 6)) c 15 (1, 6)) c 17 (1, 6)) c 23 (1, 72)) c 24 (1, 36)) c 25 (1, 36)) c 26 (1, 36)) c 27 (1, 36))
  have h_11 : ((zA (zA (zA (zA (zA (zA (zA (zA (zA (zA (zA σ c 0 (1, 54)) c 2 (1, 6)) c 3 (1, 6)) c 14 (1, 6)) c 15 (1, 6)) c 17 (1, 6)) c 23 (1, 72)) c 24 (1, 36)) c 25 (1, 36)) c 26 (1, 36)) c 27 (1, 36))).1[c]? = some (0, 12) := zA_at h_10
  refine v_aload_n (q := 93) hC dX12_init_92 rfl rfl rfl ?_
  refine v_bipush (q := 95) (v := 7) hC dX12_init_93 rfl (by decide) ?_
  refine v_newI (q := 97) hC dX12_init_95 rfl zac_int (by decide) rfl (by decide) (by decide) ?_
  refine v_putF (q := 100) hC hB dX12_init_97 rfl fX12_43 (fun _ => ⟨rfl, rfl⟩) rfl (zN_at h_11) ?_
  show zV X 1 100 [some (.ref c)] [] _ _ (zA (zA (zA (zA (zA (zA (zA (zA (zA (zA (zA (zA σ c 0 (1, 54)) c 2 (1, 6)) c 3 (1, 6)) c 14 (1, 6)) c 15 (1, 6)) c 17 (1, 6)) c 23 (1, 72)) c 24 (1, 36)) c 25 (1, 36)) c 26 (1, 36)) c 27 (1, 36)) c 29 (1, 7))
  have h_12 : ((zA (zA (zA (zA (zA (zA (zA (zA (zA (zA (zA (zA σ c 0 (1, 54)) c 2 (1, 6)) c 3 (1, 6)) c 14 (1, 6)) c 15 (1, 6)) c 17 (1, 6)) c 23 (1, 72)) c 24 (1, 36)) c 25 (1, 36)) c 26 (1, 36)) c 27 (1, 36)) c 29 (1, 7))).1[c]? = some (0, 12) := zA_at h_11
  refine v_aload_n (q := 101) hC dX12_init_100 rfl rfl rfl ?_
  refine v_bipush (q := 103) (v := 7) hC dX12_init_101 rfl (by decide) ?_
  refine v_newI (q := 105) hC dX12_init_103 rfl zac_int (by decide) rfl (by decide) (by decide) ?_
  refine v_putF (q := 108) hC hB dX12_init_105 rfl fX12_46 (fun _ => ⟨rfl, rfl⟩) rfl (zN_at h_12) ?_
  show zV X 1 108 [some (.ref c)] [] _ _ (zA (zA (zA (zA (zA (zA (zA (zA (zA (zA (zA (zA (zA σ c 0 (1, 54)) c 2 (1, 6)) c 3 (1, 6)) c 14 (1, 6)) c 15 (1, 6)) c 17 (1, 6)) c 23 (1, 72)) c 24 (1, 36)) c 25 (1, 36)) c 26 (1, 36)) c 27 (1, 36)) c 29 (1, 7)) c 30 (1, 7))
  have h_13 : ((zA (zA (zA (zA (zA (zA (zA (zA (zA (zA (zA (zA (zA σ c 0 (1, 54)) c 2 (1, 6)) c 3 (1, 6)) c 14 (1, 6)) c 15 (1, 6)) c 17 (1, 6)) c 23 (1, 72)) c 24 (1, 36)) c 25 (1, 36)) c 26 (1, 36)) c 27 (1, 36)) c 29 (1, 7)) c 30 (1, 7))).1[c]? = some (0, 12) := zA_at h_12
  refine v_aload_n (q := 109) hC dX12_init_108 rfl rfl rfl ?_
  refine v_bipush (q := 111) (v := 7) hC dX12_init_109 rfl (by decide) ?_
  refine v_newI (q := 113) hC dX12_init_111 rfl zac_int (by decide) rfl (by decide) (by decide) ?_
  refine v_putF (q := 116) hC hB dX12_init_113 rfl fX12_49 (fun _ => ⟨rfl, rfl⟩) rfl (zN_at h_13) ?_
  show zV X 1 116 [some (.ref c)] [] _ _ (zA (zA (zA (zA (zA (zA (zA (zA (zA (zA (zA (zA (zA (zA σ c 0 (1, 54)) c 2 (1, 6)) c 3 (1, 6)) c 14 (1, 6)) c 15 (1, 6)) c 17 (1, 6)) c 23 (1, 72)) c 24 (1, 36)) c 25 (1, 36)) c 26 (1, 36)) c 27 (1, 36)) c 29 (1, 7)) c 30 (1, 7)) c 31 (1, 7))
  have h_14 : ((zA (zA (zA (zA (zA (zA (zA (zA (zA (zA (zA (zA (zA (zA σ c 0 (1, 54)) c 2 (1, 6)) c 3 (1, 6)) c 14 (1, 6)) c 15 (1, 6)) c 17 (1, 6)) c 23 (1, 72)) c 24 (1, 36)) c 25 (1, 36)) c 26 (1, 36)) c 27 (1, 36)) c 29 (1, 7)) c 30 (1, 7)) c 31 (1, 7))).1[c]? = some (0, 12) := zA_at h_13
  refine v_aload_n (q := 117) hC dX12_init_116 rfl rfl rfl ?_
  refine v_bipush (q := 119) (v := 72) hC dX12_init_117 rfl (by decide) ?_
  refine v_newI (q := 121) hC dX12_init_119 rfl zac_int (by decide) rfl (by decide) (by decide) ?_
  refine v_putF (q := 124) hC hB dX12_init_121 rfl fX12_52 (fun _ => ⟨rfl, rfl⟩) rfl (zN_at h_14) ?_
  show zV X 1 124 [some (.ref c)] [] _ _ (zA (zA (zA (zA (zA (zA (zA (zA (zA (zA (zA (zA (zA (zA (zA σ c 0 (1, 54)) c 2 (1, 6)) c 3 (1, 6)) c 14 (1, 6)) c 15 (1, 6)) c 17 (1, 6)) c 23 (1, 72)) c 24 (1, 36)) c 25 (1, 36)) c 26 (1, 36)) c 27 (1, 36)) c 29 (1, 7)) c 30 (1, 7)) c 31 (1, 7)) c 33 (1, 72))
  have h_15 : ((zA (zA (zA (zA (zA (zA (zA (zA (zA (zA (zA (zA (zA (zA (zA σ c 0 (1, 54)) c 2 (1, 6)) c 3 (1, 6)) c 14 (1, 6)) c 15 (1, 6)) c 17 (1, 6)) c 23 (1, 72)) c 24 (1, 36)) c 25 (1, 36)) c 26 (1, 36)) c 27 (1, 36)) c 29 (1, 7)) c 30 (1, 7)) c 31 (1, 7)) c 33 (1, 72))).1[c]? = some (0, 12) := zA_at h_14
  refine v_aload_n (q := 125) hC dX12_init_124 rfl rfl rfl ?_
  refine v_bipush (q := 127) (v := 72) hC dX12_init_125 rfl (by decide) ?_
  refine v_newI (q := 129) hC dX12_init_127 rfl zac_int (by decide) rfl (by decide) (by decide) ?_
  refine v_putF (q := 132) hC hB dX12_init_129 rfl fX12_55 (fun _ => ⟨rfl, rfl⟩) rfl (zN_at h_15) ?_
  show zV X 1 132 [some (.ref c)] [] _ _ (zA (zA (zA (zA (zA (zA (zA (zA (zA (zA (zA (zA (zA (zA (zA (zA σ c 0 (1, 54)) c 2 (1, 6)) c 3 (1, 6)) c 14 (1, 6)) c 15 (1, 6)) c 17 (1, 6)) c 23 (1, 72)) c 24 (1, 36)) c 25 (1, 36)) c 26 (1, 36)) c 27 (1, 36)) c 29 (1, 7)) c 30 (1, 7)) c 31 (1, 7)) c 33 (1, 72)) c 39 (1, 72))
  have h_16 : ((zA (zA (zA (zA (zA (zA (zA (zA (zA (zA (zA (zA (zA (zA (zA (zA σ c 0 (1, 54)) c 2 (1, 6)) c 3 (1, 6)) c 14 (1, 6)) c 15 (1, 6)) c 17 (1, 6)) c 23 (1, 72)) c 24 (1, 36)) c 25 (1, 36)) c 26 (1, 36)) c 27 (1, 36)) c 29 (1, 7)) c 30 (1, 7)) c 31 (1, 7)) c 33 (1, 72)) c 39 (1, 72))).1[c]? = some (0, 12) := zA_at h_15
  refine v_aload_n (q := 133) hC dX12_init_132 rfl rfl rfl ?_
  refine v_bipush (q := 135) (v := 7) hC dX12_init_133 rfl (by decide) ?_
  refine v_newI (q := 137) hC dX12_init_135 rfl zac_int (by decide) rfl (by decide) (by decide) ?_
  refine v_putF (q := 140) hC hB dX12_init_137 rfl fX12_58 (fun _ => ⟨rfl, rfl⟩) rfl (zN_at h_16) ?_
  show zV X 1 140 [some (.ref c)] [] _ _ (zA (zA (zA (zA (zA (zA (zA (zA (zA (zA (zA (zA (zA (zA (zA (zA (zA σ c 0 (1, 54)) c 2 (1, 6)) c 3 (1, 6)) c 14 (1, 6)) c 15 (1, 6)) c 17 (1, 6)) c 23 (1, 72)) c 24 (1, 36)) c 25 (1, 36)) c 26 (1, 36)) c 27 (1, 36)) c 29 (1, 7)) c 30 (1, 7)) c 31 (1, 7)) c 33 (1, 72)) c 39 (1, 72)) c 40 (1, 7))
  have h_17 : ((zA (zA (zA (zA (zA (zA (zA (zA (zA (zA (zA (zA (zA (zA (zA (zA (zA σ c 0 (1, 54)) c 2 (1, 6)) c 3 (1, 6)) c 14 (1, 6)) c 15 (1, 6)) c 17 (1, 6)) c 23 (1, 72)) c 24 (1, 36)) c 25 (1, 36)) c 26 (1, 36)) c 27 (1, 36)) c 29 (1, 7)) c 30 (1, 7)) c 31 (1, 7)) c 33 (1, 72)) c 39 (1, 72)) c 40 (1, 7))).1[c]? = some (0, 12) := zA_at h_16
  refine v_aload_n (q := 141) hC dX12_init_140 rfl rfl rfl ?_
  refine v_iconst (q := 142) (v := -1) hC dX12_init_141 rfl (by decide) ?_
  refine v_putI (q := 145) hC dX12_init_142 rfl fX12_61 h_17 ?_
  refine v_aload_n (q := 146) hC dX12_init_145 rfl rfl rfl ?_
  refine v_iconst (q := 147) (v := -1) hC dX12_init_146 rfl (by decide) ?_
  refine v_putI (q := 150) hC dX12_init_147 rfl fX12_65 h_17 ?_
  refine v_return hC hB dX12_init_150 (by decide) ?_
  exact ⟨rfl, rfl⟩

