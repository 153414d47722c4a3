/-! ===== rules: boolean arrays, copies, new cells ===== -/
section zRules2
variable {X : zX} {own : String} {cc : ByteArray} {nL dd mc ms pc q : Nat} {L : List (Option Value)} {st : List Value} {k n : Nat} {σ : zSt} {idx ci j kd c : Nat} {fin : Bool} {ty : FieldType}
theorem v_zast {i x : Int32} {N : Nat} (h : zC X own cc nL dd mc ms) (hd : decode cc pc = .ok (.bastore, 1)) (hq : q = pc + 1) (hs : σ.1[c]? = some (2, N)) (hi : vp_in i N) (hx : x = 0 ∨ x = 1) (kk : zV X nL q L st k n (zsI σ c i.toNatClampNeg x)) : zV X nL pc L (.int x :: .int i :: .ref c :: st) k n σ := by
  obtain ⟨p, l, e, R, s, m, args, below, meth, c0, D, cI, cZ, base, Z⟩ := X
  subst hq
  intro H locs ls hR hS hl
  have hK := h.2.2.2.2.2.1
  have ha := zW_of (cI := cI) (cZ := cZ) (base := base) hs
  refine W.zast h.1 h.2.1 (hR.2 c _ ha) ((hK.2 1 _ rfl).1 N (fun j => .int (zI σ c j))) (fun q => by cases q) (by show ¬ (i < 0 ∨ (arrV _ _ _).slots.size ≤ _); rw [arrV_size]; exact hi) rfl rfl hd fun H1 e z oq => ?_
  refine kk H1 _ ls ⟨by rw [z]; exact hR.1, ?_⟩ (hS.put z oq (by show base ≤ base + c; omega)) hl
  have hP := hR.2.set (zW_D cI cZ base σ) ha (e := .inl (cZ, N, .inl (upd (zI σ c) i.toNatClampNeg x))) (H1 := H1) ?_ oq
  · rw [zW_set (σ' := zsI σ c i.toNatClampNeg x) hs rfl (fun c' hc' r => zE_sI hc' r) (by show (Sum.inl (cZ, N, .inl (zI (zsI σ c i.toNatClampNeg x) c)) : va_E) = _; rw [zI_row])] at hP
    exact hP
  · show H1[base + c]? = some (vp_cell _ _)
    rw [e]
    show some ((vp_cell cZ (N, .inl (zI σ c))).setSlot _ _) = _
    rw [vp_cell_i, vp_cell_i, arrV_store]
    congr 2
    funext q
    by_cases hq : q = i.toNatClampNeg
    · subst hq
      rcases hx with rfl | rfl <;> simp [updV, upd, narrow]
    · simp [updV, upd, hq]
theorem zsized {p : Program} {l : Launch} {e : Env} {R : Room} {s : State} {m : MethodId} {args : Array Value} {below : List Frame} {meth : Method} {c : Code} {H : Heap} {locs : List Loc} {cells slots : Nat} {Q : State → Prop} {g : JFrame} (h : H.size ≤ s.heap.size + cells → W p l e R s m args below meth c H locs cells slots Q g) : W p l e R s m args below meth c H locs cells slots Q g :=
  fun T hT X => h (by rw [← hT]; exact X.heapSize) T hT X
/-- System.arraycopy of a whole array of N numbers over another, in a method that makes no cells -/
theorem zcopy {a b : Nat} {N : Nat} {v : Int32} {ret : Option FieldType} {mc' ms' : Nat} {nm : String} {σ0 : zSt} {Q : Option Value → zSt → Prop} (t : Nat) (ht : t = 0 ∨ t = 1) (h : zC X own cc nL dd mc ms) (hB : zB X ret mc' ms' nm σ0 Q) (h0 : σ0.1 = σ.1) (hd : decode cc pc = .ok (.invokestatic idx, 3)) (hq : q = pc + 3)
    (hw : Cond.methodLink own idx arraycopyName ∈ ztb ∧ Cond.native arraycopyName ∈ ztb ∧ Cond.static arraycopyName ∈ ztb ∧ Cond.initialized "java/lang/System" ∈ ztb) (hdd : 1 ≤ dd)
    (hs : σ.1[a]? = some (t + 1, N)) (hs2 : σ.1[b]? = some (t + 1, N)) (hN : N ≤ 1000) (hv : v = Int32.ofNat N) (hz : t = 1 → ∀ i, i < N → zI σ a i = 0 ∨ zI σ a i = 1) (hst : (st.map fun v => v.category).sum ≤ 8)
    (kk : zV X nL q L st 0 n (zsA σ b (fun i => if i < N then zI σ a i else zI σ b i))) : zV X nL pc L (.int v :: .int 0 :: .ref b :: .int 0 :: .ref a :: st) 0 n σ := by
  obtain ⟨p, l, e, R, s, m, args, below, meth, c0, D, cI, cZ, base, Z⟩ := X
  subst hq
  intro H locs ls hR hS hl
  obtain ⟨hx, hb, hml, hown, hts, hK, hbs, hdf, hdl, -⟩ := h
  obtain ⟨-, -, -, -, hsz0⟩ := hB
  have hvN : v.toNatClampNeg = N := by
    subst hv
    have e1 : (Int32.ofNat N).toInt = N := by
      rw [Int32.toInt_ofNat_of_lt (by omega)]
    show (Int32.ofNat N).toInt.toNat = N
    rw [e1]; rfl
  have hv0 : ¬ v < 0 := by
    subst hv
    intro hlt
    have := Int32.lt_iff_toInt_lt.mp hlt
    rw [Int32.toInt_ofNat_of_lt (by omega)] at this
    have h00 : (0 : Int32).toInt = 0 := rfl
    rw [h00] at this
    omega
  have key : ∀ (cA : ClassId) (ty : FieldType) (t0 : Nat), [(cI, FieldType.int), (cZ, FieldType.boolean)][t0]? = some (cA, ty) → refKind ty = false → zE cI cZ base σ a (t + 1, N) = .inl (cA, N, .inl (zI σ a)) → zE cI cZ base σ b (t + 1, N) = .inl (cA, N, .inl (zI σ b)) →
      (∀ f, zE cI cZ base (zsA σ b f) b (t + 1, N) = .inl (cA, N, .inl f)) → (∀ i, i < N → fits ty (.int (zI σ a i)) = true) → W p l e R s m args below meth c0 H locs 0 n Z (F0 m pc ls (.int v :: .int 0 :: .ref (base + b) :: .int 0 :: .ref (base + a) :: st.map (zc base))) := by
    intro cA ty t0 ht0 hpr ea eb ef hfit
    refine va_copyi hx hb (by rw [hml, hl.1]) hown (hts _ hw.1) (hts _ hw.2.1) (hts _ hw.2.2.1) (hts _ hw.2.2.2) hK hR.2 (zW_D cI cZ base σ) hS a b t0 t0 (by rw [zW_of hs, ea]) (by rw [zW_of hs2, eb]) ht0 ht0 hpr (sp := 0) (dp := 0) (n := v) (by decide) (by decide) hv0 (by rw [hvN]; show 0 + N ≤ N; omega) (by rw [hvN]; show 0 + N ≤ N; omega) (fun i hi => ?_) (by omega) ?_ hd (fun H1 locs1 hP1 hD1 hS1 => ?_)
    · rw [hvN] at hi
      show fits ty (.int (zI σ a (0 + i))) = true
      rw [Nat.zero_add]; exact hfit i hi
    · have e9 : ((st.map (zc base)).map fun v => v.category).sum = (st.map fun v => v.category).sum := by
        rw [List.map_map]; congr 1; apply List.map_congr_left; intro x _; exact zc_cat base x
      rw [e9]
      have : nativeFrameWords "java/lang/System" "arraycopy" 5 + 11 ≤ 30 := by decide
      omega
    · refine zsized fun hub => ?_
      have hset : (zW cI cZ base σ).set b (base + b, .inl (cA, N, .inl (va_cpy (zI σ a) (zI σ b) (0 : Int32).toNatClampNeg (0 : Int32).toNatClampNeg v.toNatClampNeg))) = zW cI cZ base (zsA σ b (fun i => if i < N then zI σ a i else zI σ b i)) := by
        refine zW_set (σ' := zsA σ b (fun i => if i < N then zI σ a i else zI σ b i)) hs2 rfl (fun c' hc' r => zE_sA hc' r) ?_
        rw [ef, hvN]
        congr 4
        funext i
        show _ = if 0 ≤ i ∧ i < 0 + N then zI σ a (0 + (i - 0)) else zI σ b i
        simp
      rw [hset] at hP1
      refine kk H1 locs1 ls ⟨?_, hP1⟩ hS1 hl
      have hlen : (zsA σ b (fun i => if i < N then zI σ a i else zI σ b i)).1.length = σ.1.length := rfl
      rw [hlen]
      have hub' : H1.size ≤ base + σ.1.length := by rw [hsz0, h0] at hub; omega
      have hlast : 0 < σ.1.length := by
        have := (List.getElem?_eq_some_iff.mp hs).1
        omega
      have hl2 := zW_of (cI := cI) (cZ := cZ) (base := base) (σ := zsA σ b (fun i => if i < N then zI σ a i else zI σ b i)) (c := σ.1.length - 1) (q := σ.1[σ.1.length - 1]'(by omega)) (List.getElem?_eq_getElem (by omega))
      have := (hP1 _ _ hl2).lt
      simp at this
      omega
  rcases ht with rfl | rfl
  · exact key cI .int 0 rfl rfl rfl rfl (fun f => by show (Sum.inl (cI, N, .inl (zI (zsA σ b f) b)) : va_E) = _; rw [show zI (zsA σ b f) b = f from by funext i; simp [zI_sA]]) (fun i hi => rfl)
  · exact key cZ .boolean 1 rfl rfl rfl rfl (fun f => by show (Sum.inl (cZ, N, .inl (zI (zsA σ b f) b)) : va_E) = _; rw [show zI (zsA σ b f) b = f from by funext i; simp [zI_sA]]) (fun i hi => by rcases hz rfl i hi with e | e <;> rw [e] <;> rfl)
/-! new cells -/
theorem zW_new {cI cZ : ClassId} {base : Nat} {σ : zSt} {r : Nat × Nat} : zW cI cZ base (zN σ r) = zW cI cZ base σ ++ [(base + σ.1.length, zE cI cZ base (zN σ r) σ.1.length r)] := by
  apply List.ext_getElem?
  intro i
  have hlen : (zW cI cZ base σ).length = σ.1.length := by simp [zW]
  have h1 : (zN σ r).1 = σ.1 ++ [r] := rfl
  rw [zW_at, h1]
  by_cases hi : i < σ.1.length
  · rw [List.getElem?_append_left hi, List.getElem?_append_left (by rw [hlen]; exact hi), zW_at]
    cases σ.1[i]? with
    | none => rfl
    | some x =>
      have hne : ¬ i = σ.1.length := by omega
      simp only [Option.map_some]
      rw [zE_ne (σ := σ) (σ' := zN σ r) (fun j => by show (if i = σ.1.length then (0 : Int32) else zI σ i j) = _; rw [if_neg hne]) (fun j => by show (if i = σ.1.length then (0 : Int64) else zJ σ i j) = _; rw [if_neg hne]) (fun j => by show (if i = σ.1.length then (none : Option Nat) else zR σ i j) = _; rw [if_neg hne])]
  · rw [List.getElem?_append_right (by omega), List.getElem?_append_right (by omega), hlen]
    by_cases he : i = σ.1.length
    · subst he; simp
    · rw [List.getElem?_eq_none (by simp; omega), List.getElem?_eq_none (by simp; omega)]; rfl
/-- the default of a kind -/
def zdf : Nat → Value
  | 0 => .int 0
  | 1 => .long 0
  | _ => .null
/-- a class that is made: its words, its fields' kinds -/
def zcd (own : String) (idx ci N : Nat) : Prop := ∃ (C : String) (T : u_T) (ty : Nat → FieldType), zcl[ci]? = some (C, T, N) ∧ Cond.classLink own idx C ∈ ztb ∧ Cond.instantiable C N ∈ ztb ∧ Cond.initialized C ∈ ztb ∧ (∀ w ∈ u_ws C T N, w ∈ ztb) ∧ (∀ k, k < N → parseFieldDescriptor (T k).2.2.1 = some (ty k)) ∧ (∀ j, j < N → ∃ kd, (zfk.getD ci [])[j]? = some kd ∧ defaultValue (ty j) = zdf kd)
theorem zF_new {base : Nat} {σ : zSt} {r : Nat × Nat} {j kd : Nat} : zF base (zN σ r) σ.1.length j kd = zdf kd := by
  match kd with
  | 0 => show Value.int (if σ.1.length = σ.1.length then (0 : Int32) else _) = Value.int 0; simp
  | 1 => show Value.long (if σ.1.length = σ.1.length then (0 : Int64) else _) = Value.long 0; simp
  | kd + 2 =>
    have : zR (zN σ r) σ.1.length j = none := by show (if σ.1.length = σ.1.length then (none : Option Nat) else _) = _; simp
    show zv base (zR (zN σ r) σ.1.length j) = Value.null
    rw [this]; rfl
theorem zRl_new {D : va_G} {cI cZ : ClassId} {base : Nat} {σ : zSt} {r : Nat × Nat} {H H1 : Heap} (hR : zRl D cI cZ base σ H) (z1 : H1.size = H.size + 1) (o1 : ∀ q, q < H.size → H1[q]? = H[q]?) (ha : va_at D zcl (H.size, zE cI cZ base (zN σ r) σ.1.length r) H1) : zRl D cI cZ base (zN σ r) H1 := by
  have hlen : (zN σ r).1.length = σ.1.length + 1 := by show (σ.1 ++ [r]).length = _; simp
  refine ⟨by rw [z1, hR.1, hlen]; omega, ?_⟩
  rw [zW_new]
  refine (hR.2.kept (fun k x hx => o1 x.1 ((hR.2 k x hx).lt))).app (fun k x hx => ?_)
  have hz : k < 1 := (List.getElem?_eq_some_iff.mp hx).1
  rw [show k = 0 by omega] at hx
  cases hx
  rw [← hR.1]
  exact ha
theorem v_new {N : Nat} (h : zC X own cc nL dd mc ms) (hd : decode cc pc = .ok (.new idx, 3)) (hq : q = pc + 3) (hcd : zcd own idx ci N) (hk : k + 1 ≤ mc ∧ n + N ≤ ms) (kk : zV X nL q L (.ref σ.1.length :: st) (k + 1) (n + N) (zN σ (0, ci))) : zV X nL pc L st k n σ := by
  obtain ⟨p, l, e, R, s, m, args, below, meth, c0, D, cI, cZ, base, Z⟩ := X
  subst hq
  intro H locs ls hR hS hl
  obtain ⟨hx, hb, hml, hown, hts, hK, hbs, hdf, hdl, hc1, hc2, hns⟩ := h
  obtain ⟨C, T, ty, hc, hcl, hin, hini, hw, hty, hdef⟩ := hcd
  have hKn := hK.1 ci _ hc
  refine W.newcK hx hb hown (hts _ hcl) (hts _ hin) (hts _ hini) rfl hd (by omega) (by omega) hKn.2.1 rfl fun H1 kC hkC e1 z1 o1 => ?_
  have hR1 : zRl D cI cZ base (zN σ (0, ci)) H1 := by
    refine zRl_new hR z1 o1 ?_
    refine ⟨_, hc, (u_born ty hts hw hKn hkC e1 hty).to (fun j hj => ?_)⟩
    obtain ⟨kd, h1, h2⟩ := hdef j hj
    rw [h2]
    show zdf kd = (((zfk.getD ci []).mapIdx (fun j k => zF base (zN σ (0, ci)) σ.1.length j k)).getD j .null)
    rw [List.getD_eq_getElem?_getD, List.getElem?_mapIdx, h1]
    simp [zF_new]
  have := kk H1 locs ls hR1 ⟨Nat.le_trans hS.1 (by omega), fun x h1 h2 => (o1 x (Nat.lt_of_lt_of_le h1 hS.1)).trans (hS.2.1 x h1 h2), hS.2.2⟩ hl
  rw [hR.1]
  exact this
theorem zI_new {σ : zSt} {r : Nat × Nat} : zI (zN σ r) σ.1.length = fun _ => 0 := by
  funext i; show (if σ.1.length = σ.1.length then (0 : Int32) else _) = _; simp
theorem v_newI {x : Int32} {N : Nat} (h : zC X own cc nL dd mc ms) (hd : decode cc pc = .ok (.newarray .int, 2)) (hq : q = pc + 2) (hw : Cond.arrayClass .int ∈ ztb) (hx0 : ¬ x < 0) (hN : x.toNatClampNeg = N) (hN2 : N ≤ 1000) (hk : k + 1 ≤ mc ∧ n + N ≤ ms) (kk : zV X nL q L (.ref σ.1.length :: st) (k + 1) (n + N) (zN σ (1, N))) : zV X nL pc L (.int x :: st) k n σ := by
  obtain ⟨p, l, e, R, s, m, args, below, meth, c0, D, cI, cZ, base, Z⟩ := X
  subst hq
  intro H locs ls hR hS hl
  obtain ⟨hx, hb, hml, hown, hts, hK, hbs, hdf, hdl, hc1, hc2, hns⟩ := h
  refine va_newaK (atype := .int) hx hb (hts _ hw) rfl hd rfl hx0 hN (by show N * 4 ≤ _; omega) (by omega) (by omega) rfl fun H1 cA e1 z1 o1 hAr hNm => ?_
  have hcA : cA = cI := by
    have h2 : s.vm.findClass ("[" ++ FieldType.int.toString) = some cI := (hK.2 0 _ rfl).2
    exact Option.some.inj (hNm.symm.trans h2)
  subst hcA
  have hR1 : zRl D cA cZ base (zN σ (1, N)) H1 := by
    refine zRl_new hR z1 o1 ?_
    show H1[H.size]? = some (vp_cell cA (N, .inl (zI (zN σ (1, N)) σ.1.length)))
    rw [e1, zI_new]; rfl
  have := kk H1 locs ls hR1 ⟨Nat.le_trans hS.1 (by omega), fun x h1 h2 => (o1 x (Nat.lt_of_lt_of_le h1 hS.1)).trans (hS.2.1 x h1 h2), hS.2.2⟩ hl
  rw [hR.1]
  exact this
theorem v_newZ {x : Int32} {N : Nat} (h : zC X own cc nL dd mc ms) (hd : decode cc pc = .ok (.newarray .boolean, 2)) (hq : q = pc + 2) (hw : Cond.arrayClass .boolean ∈ ztb) (hx0 : ¬ x < 0) (hN : x.toNatClampNeg = N) (hN2 : N ≤ 1000) (hk : k + 1 ≤ mc ∧ n + N ≤ ms) (kk : zV X nL q L (.ref σ.1.length :: st) (k + 1) (n + N) (zN σ (2, N))) : zV X nL pc L (.int x :: st) k n σ := by
  obtain ⟨p, l, e, R, s, m, args, below, meth, c0, D, cI, cZ, base, Z⟩ := X
  subst hq
  intro H locs ls hR hS hl
  obtain ⟨hx, hb, hml, hown, hts, hK, hbs, hdf, hdl, hc1, hc2, hns⟩ := h
  refine va_newaK (atype := .boolean) hx hb (hts _ hw) rfl hd rfl hx0 hN (by show N * 1 ≤ _; omega) (by omega) (by omega) rfl fun H1 cA e1 z1 o1 hAr hNm => ?_
  have hcA : cA = cZ := by
    have h2 : s.vm.findClass ("[" ++ FieldType.boolean.toString) = some cZ := (hK.2 1 _ rfl).2
    exact Option.some.inj (hNm.symm.trans h2)
  subst hcA
  have hR1 : zRl D cI cA base (zN σ (2, N)) H1 := by
    refine zRl_new hR z1 o1 ?_
    show H1[H.size]? = some (vp_cell cA (N, .inl (zI (zN σ (2, N)) σ.1.length)))
    rw [e1, zI_new]; rfl
  have := kk H1 locs ls hR1 ⟨Nat.le_trans hS.1 (by omega), fun x h1 h2 => (o1 x (Nat.lt_of_lt_of_le h1 hS.1)).trans (hS.2.1 x h1 h2), hS.2.2⟩ hl
  rw [hR.1]
  exact this
/-- Object's constructor -/
theorem v_obj {c : Nat} (h : zC X own cc nL dd mc ms) (hd : decode cc pc = .ok (.invokespecial idx, 3)) (hq : q = pc + 3) (hw : Cond.methodLink own idx Lib.objectInit ∈ ztb ∧ Cond.instanceMethod Lib.objectInit ∈ ztb ∧ Cond.code Lib.objectInit ⟨#[0xb1]⟩ 1 none ∈ ztb) (hdd : 1 ≤ dd) (hst : (st.map fun v => v.category).sum ≤ 8) (kk : zV X nL q L st k n σ) : zV X nL pc L (.ref c :: st) k n σ := by
  obtain ⟨p, l, e, R, s, m, args, below, meth, c0, D, cI, cZ, base, Z⟩ := X
  subst hq
  intro H locs ls hR hS hl
  obtain ⟨hx, hb, hml, hown, hts, hK, hbs, hdf, hdl, hc1, hc2, hns⟩ := h
  refine W.objInit hx hb hown (hts _ hw.1) (hts _ hw.2.1) (hts _ hw.2.2) (rest := st.map (zc base)) rfl (by rw [hml]; exact hl.1) rfl hd (by omega) ?_ (kk H locs ls hR hS hl)
  have e9 : ((st.map (zc base)).map fun v => v.category).sum = (st.map fun v => v.category).sum := by
    rw [List.map_map]; congr 1; apply List.map_congr_left; intro x _; exact zc_cat base x
  rw [e9]
  show 2 * 0 + _ + 12 ≤ _
  omega
end zRules2
