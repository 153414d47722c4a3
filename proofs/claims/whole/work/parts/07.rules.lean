/-! ===== rules: fields, arrays, new cells, calls ===== -/
/-- the field that a class's pool number names: class ci, place k, of kind kd -/
def zfd (own : String) (idx ci k kd : Nat) (fin : Bool) (ty : FieldType) : Prop := ∃ (C : String) (T : u_T) (N : Nat) (ty0 : Nat → FieldType), zcl[ci]? = some (C, T, N) ∧ k < N ∧ (zfk.getD ci [])[k]? = some kd ∧ Cond.fieldLink own idx (T k).1 (T k).2.1 (T k).2.2.1 ∈ ztb ∧ (∀ w ∈ u_ws C T N, w ∈ ztb) ∧ (T k).2.2.2 = fin ∧ parseFieldDescriptor (T k).2.2.1 = some ty ∧ (∀ k, k < N → parseFieldDescriptor (T k).2.2.1 = some (ty0 k)) ∧ (∀ a, a < N → ∀ b, b < N → a ≠ b → (T a).2.1 ≠ (T b).2.1) ∧ (T k).1 = C
theorem zE_sI {cI cZ : ClassId} {base : Nat} {σ : zSt} {c i : Nat} {x : Int32} {c' : Nat} (h : c' ≠ c) (r : Nat × Nat) : zE cI cZ base (zsI σ c i x) c' r = zE cI cZ base σ c' r :=
  zE_ne (σ := σ) (σ' := zsI σ c i x) (fun i => by simp [zI_sI, h]) (fun _ => rfl) (fun _ => rfl) r
theorem zE_sJ {cI cZ : ClassId} {base : Nat} {σ : zSt} {c i : Nat} {x : Int64} {c' : Nat} (h : c' ≠ c) (r : Nat × Nat) : zE cI cZ base (zsJ σ c i x) c' r = zE cI cZ base σ c' r :=
  zE_ne (σ := σ) (σ' := zsJ σ c i x) (fun _ => rfl) (fun i => by simp [zJ_sJ, h]) (fun _ => rfl) r
theorem zE_sR {cI cZ : ClassId} {base : Nat} {σ : zSt} {c i : Nat} {x : Option Nat} {c' : Nat} (h : c' ≠ c) (r : Nat × Nat) : zE cI cZ base (zsR σ c i x) c' r = zE cI cZ base σ c' r :=
  zE_ne (σ := σ) (σ' := zsR σ c i x) (fun _ => rfl) (fun _ => rfl) (fun i => by simp [zR_sR, h]) r
theorem zE_sA {cI cZ : ClassId} {base : Nat} {σ : zSt} {c : Nat} {f : Nat → Int32} {c' : Nat} (h : c' ≠ c) (r : Nat × Nat) : zE cI cZ base (zsA σ c f) c' r = zE cI cZ base σ c' r :=
  zE_ne (σ := σ) (σ' := zsA σ c f) (fun i => by simp [zI_sA, h]) (fun _ => rfl) (fun _ => rfl) r
section zRules
variable {X : zX} {own : String} {cc : ByteArray} {nL dd mc ms pc q : Nat} {L : List (Option Value)} {st : List Value} {k n : Nat} {σ : zSt} {idx ci j kd c : Nat} {fin : Bool} {ty : FieldType}
theorem zgetf {p : Program} {l : Launch} {e : Env} {R : Room} {s : State} {m : MethodId} {args : Array Value} {below : List Frame} {meth : Method} {c0 : Code} {H : Heap} {locs : List Loc} {cells slots : Nat} {Q : State → Prop} {D : va_G} {cI cZ : ClassId} {base : Nat} {Z : State → Prop} {ls : Array Slot} {rest : List Value}
    (h : zC (p, l, e, R, s, m, args, below, meth, c0, D, cI, cZ, base, Z) own cc nL dd mc ms) (hf : zfd own idx ci j kd fin ty) (hs : σ.1[c]? = some (0, ci)) (hR : zRl D cI cZ base σ H) (hd : decode cc pc = .ok (.getfield idx, 3))
    (kk : W p l e R s m args below meth c0 H locs cells slots Q (F0 m (pc + 3) ls (zF base σ c j kd :: rest))) : W p l e R s m args below meth c0 H locs cells slots Q (F0 m pc ls (.ref (base + c) :: rest)) := by
  obtain ⟨C, T, N, ty0, hc, hk, hkd, hlk, hin, -, -, -, -, -⟩ := hf
  obtain ⟨hx, hb, hml, hown, hts, hK, -⟩ := h
  exact va_get hx hb hts hin hown hK hR.2 c (zW_of hs) hc j hk (hts _ hlk) (fun _ z => z) (by rw [List.getElem?_mapIdx, hkd]; rfl) hd kk
theorem v_getI (h : zC X own cc nL dd mc ms) (hd : decode cc pc = .ok (.getfield idx, 3)) (hq : q = pc + 3) (hf : zfd own idx ci j 0 fin ty) (hs : σ.1[c]? = some (0, ci)) (kk : zV X nL q L (.int (zI σ c j) :: st) k n σ) : zV X nL pc L (.ref c :: st) k n σ := by
  obtain ⟨p, l, e, R, s, m, args, below, meth, c0, D, cI, cZ, base, Z⟩ := X
  subst hq
  intro H locs ls hR hS hl
  exact zgetf h hf hs hR hd (kk H locs ls hR hS hl)
theorem v_getJ (h : zC X own cc nL dd mc ms) (hd : decode cc pc = .ok (.getfield idx, 3)) (hq : q = pc + 3) (hf : zfd own idx ci j 1 fin ty) (hs : σ.1[c]? = some (0, ci)) (kk : zV X nL q L (.long (zJ σ c j) :: st) k n σ) : zV X nL pc L (.ref c :: st) k n σ := by
  obtain ⟨p, l, e, R, s, m, args, below, meth, c0, D, cI, cZ, base, Z⟩ := X
  subst hq
  intro H locs ls hR hS hl
  exact zgetf h hf hs hR hd (kk H locs ls hR hS hl)
theorem v_getR {r : Nat} (h : zC X own cc nL dd mc ms) (hd : decode cc pc = .ok (.getfield idx, 3)) (hq : q = pc + 3) (hf : zfd own idx ci j 2 fin ty) (hs : σ.1[c]? = some (0, ci)) (hr : zR σ c j = some r) (kk : zV X nL q L (.ref r :: st) k n σ) : zV X nL pc L (.ref c :: st) k n σ := by
  obtain ⟨p, l, e, R, s, m, args, below, meth, c0, D, cI, cZ, base, Z⟩ := X
  subst hq
  intro H locs ls hR hS hl
  refine zgetf h hf hs hR hd ?_
  have : zF base σ c j 2 = .ref (base + r) := by show zv base (zR σ c j) = _; rw [hr]; rfl
  rw [this]
  exact kk H locs ls hR hS hl
/-- a store into a field: the world behind it, its size -/
theorem zputf {p : Program} {l : Launch} {e : Env} {R : Room} {s : State} {m : MethodId} {args : Array Value} {below : List Frame} {meth : Method} {c0 : Code} {H : Heap} {locs : List Loc} {cells slots : Nat} {Q : State → Prop} {D : va_G} {cI cZ : ClassId} {base : Nat} {Z : State → Prop} {ls : Array Slot} {rest : List Value} {v : Value} {σ' : zSt}
    (h : zC (p, l, e, R, s, m, args, below, meth, c0, D, cI, cZ, base, Z) own cc nL dd mc ms) (hf : zfd own idx ci j kd fin ty) (hs : σ.1[c]? = some (0, ci)) (hR : zRl D cI cZ base σ H) (hS : va_S (fun q => base ≤ q) s.heap H locs) (hd : decode cc pc = .ok (.putfield idx, 3))
    (hn : narrow ty v = v) (hfit : fits ty v = true) (hfin : fin = false ∨ (meth.name = "<init>" ∧ ∃ T N, zcl[ci]? = some (own, T, N)))
    (h1 : σ'.1 = σ.1) (h2 : ∀ c', c' ≠ c → ∀ r, zE cI cZ base σ' c' r = zE cI cZ base σ c' r) (h3 : ∀ j' kd', j' ≠ j → zF base σ' c j' kd' = zF base σ c j' kd') (h4 : zF base σ' c j kd = v)
    (kk : ∀ (H1 : Heap) (locs1 : List Loc), zRl D cI cZ base σ' H1 → va_S (fun q => base ≤ q) s.heap H1 locs1 → W p l e R s m args below meth c0 H1 locs1 cells slots Q (F0 m (pc + 3) ls rest)) : W p l e R s m args below meth c0 H locs cells slots Q (F0 m pc ls (v :: .ref (base + c) :: rest)) := by
  obtain ⟨C, T, N, ty0, hc, hk, hkd, hlk, hin, hfn, hty, hty0, hnm, hdecl⟩ := hf
  obtain ⟨hx, hb, hml, hown, hts, hK, -⟩ := h
  have he := zW_of (cI := cI) (cZ := cZ) (base := base) hs
  rw [zE_obj] at he
  have hD := zW_D cI cZ base σ
  have hap := va_apart (own := own) hts hin ty0 hty0 hnm hK hc
  obtain ⟨r, g1, cell, q1, q2, q3, q4⟩ := hR.2 c _ he
  have hr : r = (C, T, N) := Option.some.inj (g1.symm.trans hc)
  subst hr
  obtain ⟨hSl, hfc, kC, hkC, hkind⟩ := hK.1 ci _ hc
  obtain ⟨cf, kf, fi, f, hi, hsl⟩ := hSl j hk
  have hlay := hts _ (hin _ (u_in_lay hk))
  have hst := (u_facts hfc hkC (u_lays hts hin hk) hi).1
  have hl : j < ((zfk.getD ci []).mapIdx (fun j k => zF base σ c j k)).length := by
    rw [List.length_mapIdx]; exact (List.getElem?_eq_some_iff.mp hkd).1
  have fin' : ∀ H' : Heap, H'[base + c]? = some (cell.setSlot f.slot v) → H'.size = H.size → (∀ q, q ≠ base + c → H'[q]? = H[q]?) → W p l e R s m args below meth c0 H' (locs ++ [⟨base + c, f.slot⟩]) cells slots Q (F0 m (pc + 3) ls rest) := by
    intro H' e1 e2 e3
    rw [hsl] at e1 ⊢
    refine kk H' _ ⟨by rw [e2, h1]; exact hR.1, ?_⟩ (hS.put e2 e3 (by show base ≤ base + c; omega))
    have hP := hR.2.set hD he (e := .inr (ci, ((zfk.getD ci []).mapIdx (fun j k => zF base σ c j k)).set j v)) ⟨_, hc, t_OB.to (V := updV (vp_V _) j v) ⟨_, e1, q2, q3, t_set q4 hap hk v⟩ (fun i _ => vp_updV_set hl v i)⟩ e3
    rw [zW_set (σ' := σ') hs h1 h2 (by rw [zE_obj, zfs_set hkd h3 h4])] at hP
    exact hP
  unfold u_lay at hlay
  by_cases hfb : (T j).2.2.2 = true
  · rw [if_pos hfb] at hlay
    rcases hfin with hfin | ⟨hin2, T', N', hown2⟩
    · rw [hfn, hfin] at hfb; cases hfb
    have hC : C = own := by
      have := hc.symm.trans hown2
      simp at this
      exact this.1
    have hcf : m.cls = cf := by
      obtain ⟨_, _, c', _, _, _, -, -, hf', -, -, -, hown2, -⟩ := Cond.laysFinal_spec hlay
      have e1 : c' = cf := by have := hi.symm.trans hf'; simp at this; exact this.1.symm
      rw [hdecl, hC] at hown2
      rw [← e1]; exact Option.some.inj (hown.symm.trans hown2)
    have h6 := u_fits hfc hkC hkind (Or.inr hlay) hi hty hn hfit
    exact W.putFinK hx hb hown (hts _ hlk) hi hst hcf hin2 (by rw [q2]; exact h6) q1 q3 (by rw [hsl]; exact k2_hasslot (q4 j hk)) rfl rfl hd fin'
  · rw [if_neg hfb] at hlay
    have h6 := u_store hfc hkC hkind hlay hi hty hn hfit
    exact W.putK hx hb (f := f) ⟨hown, hts _ hlk, ⟨_, _, _, hi⟩, hst⟩ (by rw [q2]; exact h6) q1 q3 (by rw [hsl]; exact k2_hasslot (q4 j hk)) rfl rfl hd fin'
theorem v_putI {x : Int32} (h : zC X own cc nL dd mc ms) (hd : decode cc pc = .ok (.putfield idx, 3)) (hq : q = pc + 3) (hf : zfd own idx ci j 0 false .int) (hs : σ.1[c]? = some (0, ci)) (kk : zV X nL q L st k n (zsI σ c j x)) : zV X nL pc L (.int x :: .ref c :: st) k n σ := by
  obtain ⟨p, l, e, R, s, m, args, below, meth, c0, D, cI, cZ, base, Z⟩ := X
  subst hq
  intro H locs ls hR hS hl
  refine zputf (σ' := zsI σ c j x) h hf hs hR hS hd rfl rfl (Or.inl rfl) rfl (fun c' hc' r => zE_sI hc' r) (fun j' kd' hj => ?_) ?_ (fun H1 locs1 hR1 hS1 => kk H1 locs1 ls hR1 hS1 hl)
  · unfold zF; split
    · simp [zI_sI, hj]
    · rfl
    · rfl
  · simp [zF, zI_sI, zc]
theorem v_putZ {x : Int32} (h : zC X own cc nL dd mc ms) (hd : decode cc pc = .ok (.putfield idx, 3)) (hq : q = pc + 3) (hf : zfd own idx ci j 0 false .boolean) (hs : σ.1[c]? = some (0, ci)) (hx : x = 0 ∨ x = 1) (kk : zV X nL q L st k n (zsI σ c j x)) : zV X nL pc L (.int x :: .ref c :: st) k n σ := by
  obtain ⟨p, l, e, R, s, m, args, below, meth, c0, D, cI, cZ, base, Z⟩ := X
  subst hq
  intro H locs ls hR hS hl
  refine zputf (σ' := zsI σ c j x) h hf hs hR hS hd (by rcases hx with rfl | rfl <;> rfl) (by rcases hx with rfl | rfl <;> rfl) (Or.inl rfl) rfl (fun c' hc' r => zE_sI hc' r) (fun j' kd' hj => ?_) ?_ (fun H1 locs1 hR1 hS1 => kk H1 locs1 ls hR1 hS1 hl)
  · unfold zF; split
    · simp [zI_sI, hj]
    · rfl
    · rfl
  · simp [zF, zI_sI, zc]
theorem v_putJ {x : Int64} (h : zC X own cc nL dd mc ms) (hd : decode cc pc = .ok (.putfield idx, 3)) (hq : q = pc + 3) (hf : zfd own idx ci j 1 false .long) (hs : σ.1[c]? = some (0, ci)) (kk : zV X nL q L st k n (zsJ σ c j x)) : zV X nL pc L (.long x :: .ref c :: st) k n σ := by
  obtain ⟨p, l, e, R, s, m, args, below, meth, c0, D, cI, cZ, base, Z⟩ := X
  subst hq
  intro H locs ls hR hS hl
  refine zputf (σ' := zsJ σ c j x) h hf hs hR hS hd rfl rfl (Or.inl rfl) rfl (fun c' hc' r => zE_sJ hc' r) (fun j' kd' hj => ?_) ?_ (fun H1 locs1 hR1 hS1 => kk H1 locs1 ls hR1 hS1 hl)
  · unfold zF; split
    · rfl
    · simp [zJ_sJ, hj]
    · rfl
  · simp [zF, zJ_sJ, zc]
/-- a reference, into a field that isn't final -/
theorem v_putR {x : Nat} (h : zC X own cc nL dd mc ms) (hd : decode cc pc = .ok (.putfield idx, 3)) (hq : q = pc + 3) (hf : zfd own idx ci j 2 false ty) (hty : ∀ a : Nat, narrow ty (.ref a) = .ref a ∧ fits ty (.ref a) = true) (hs : σ.1[c]? = some (0, ci)) (kk : zV X nL q L st k n (zsR σ c j (some x))) : zV X nL pc L (.ref x :: .ref c :: st) k n σ := by
  obtain ⟨p, l, e, R, s, m, args, below, meth, c0, D, cI, cZ, base, Z⟩ := X
  subst hq
  intro H locs ls hR hS hl
  refine zputf (σ' := zsR σ c j (some x)) (v := .ref (base + x)) h hf hs hR hS hd (hty _).1 (hty _).2 (Or.inl rfl) rfl (fun c' hc' r => zE_sR hc' r) (fun j' kd' hj => ?_) ?_ (fun H1 locs1 hR1 hS1 => kk H1 locs1 ls hR1 hS1 hl)
  · unfold zF; split
    · rfl
    · rfl
    · simp [zR_sR, hj]
  · show zv base (zR (zsR σ c j (some x)) c j) = _
    simp [zR_sR, zv]
/-- a reference, into a final field, in its class's constructor -/
theorem v_putF {x : Nat} {ret : Option FieldType} {mc' ms' : Nat} {σ0 : zSt} {Q : Option Value → zSt → Prop} (h : zC X own cc nL dd mc ms) (hB : zB X ret mc' ms' "<init>" σ0 Q) (hd : decode cc pc = .ok (.putfield idx, 3)) (hq : q = pc + 3) (hf : zfd own idx ci j 2 true ty) (hty : ∀ a : Nat, narrow ty (.ref a) = .ref a ∧ fits ty (.ref a) = true) (hown : (zcl[ci]?).map (fun z => z.1) = some own) (hs : σ.1[c]? = some (0, ci)) (kk : zV X nL q L st k n (zsR σ c j (some x))) : zV X nL pc L (.ref x :: .ref c :: st) k n σ := by
  obtain ⟨p, l, e, R, s, m, args, below, meth, c0, D, cI, cZ, base, Z⟩ := X
  subst hq
  intro H locs ls hR hS hl
  obtain ⟨⟨C', T', N'⟩, ho1, ho2⟩ := Option.map_eq_some_iff.mp hown
  refine zputf (σ' := zsR σ c j (some x)) (v := .ref (base + x)) h hf hs hR hS hd (hty _).1 (hty _).2 (Or.inr ⟨hB.2.2.1, T', N', by rw [ho1, ← ho2]⟩) rfl (fun c' hc' r => zE_sR hc' r) (fun j' kd' hj => ?_) ?_ (fun H1 locs1 hR1 hS1 => kk H1 locs1 ls hR1 hS1 hl)
  · unfold zF; split
    · rfl
    · rfl
    · simp [zR_sR, hj]
  · show zv base (zR (zsR σ c j (some x)) c j) = _
    simp [zR_sR, zv]
/-! arrays -/
theorem v_iald {i : Int32} {N : Nat} (h : zC X own cc nL dd mc ms) (hd : decode cc pc = .ok (.iaload, 1)) (hq : q = pc + 1) (hs : σ.1[c]? = some (1, N)) (hi : vp_in i N) (kk : zV X nL q L (.int (zI σ c i.toNatClampNeg) :: st) k n σ) : zV X nL pc L (.int i :: .ref c :: st) k n σ := by
  obtain ⟨p, l, e, R, s, m, args, below, meth, c0, D, cI, cZ, base, Z⟩ := X
  subst hq
  intro H locs ls hR hS hl
  exact va_iald h.1 h.2.1 h.2.2.2.2.2.1 hR.2 c 0 (zW_of hs) rfl hi hd (kk H locs ls hR hS hl)
theorem v_zald {i : Int32} {N : Nat} (h : zC X own cc nL dd mc ms) (hd : decode cc pc = .ok (.baload, 1)) (hq : q = pc + 1) (hs : σ.1[c]? = some (2, N)) (hi : vp_in i N) (kk : zV X nL q L (.int (zI σ c i.toNatClampNeg) :: st) k n σ) : zV X nL pc L (.int i :: .ref c :: st) k n σ := by
  obtain ⟨p, l, e, R, s, m, args, below, meth, c0, D, cI, cZ, base, Z⟩ := X
  subst hq
  intro H locs ls hR hS hl
  exact va_zald h.1 h.2.1 h.2.2.2.2.2.1 hR.2 c 1 (zW_of hs) rfl hi hd (kk H locs ls hR hS hl)
theorem v_alen {N : Nat} {v : Int32} (h : zC X own cc nL dd mc ms) (hd : decode cc pc = .ok (.arraylength, 1)) (hq : q = pc + 1) {a : Nat} (hs : σ.1[c]? = some (a + 1, N)) (hv : Int32.ofNat N = v) (kk : zV X nL q L (.int v :: st) k n σ) : zV X nL pc L (.ref c :: st) k n σ := by
  obtain ⟨p, l, e, R, s, m, args, below, meth, c0, D, cI, cZ, base, Z⟩ := X
  subst hq
  intro H locs ls hR hS hl
  match a, hs with
  | 0, hs => exact va_alen h.1 h.2.1 h.2.2.2.2.2.1 hR.2 c 0 (zW_of hs) rfl hv hd (kk H locs ls hR hS hl)
  | a + 1, hs => exact va_alen h.1 h.2.1 h.2.2.2.2.2.1 hR.2 c 1 (zW_of hs) rfl hv hd (kk H locs ls hR hS hl)
theorem zI_row {σ : zSt} {c i : Nat} {x : Int32} : zI (zsI σ c i x) c = upd (zI σ c) i x := by
  funext i'
  simp only [zI_sI, upd]
  by_cases e : i' = i <;> simp [e]
theorem v_iast {i x : Int32} {N : Nat} (h : zC X own cc nL dd mc ms) (hd : decode cc pc = .ok (.iastore, 1)) (hq : q = pc + 1) (hs : σ.1[c]? = some (1, N)) (hi : vp_in i N) (kk : zV X nL q L st k n (zsI σ c i.toNatClampNeg x)) : zV X nL pc L (.int x :: .int i :: .ref c :: st) k n σ := by
  obtain ⟨p, l, e, R, s, m, args, below, meth, c0, D, cI, cZ, base, Z⟩ := X
  subst hq
  intro H locs ls hR hS hl
  have hK := h.2.2.2.2.2.1
  have ha := zW_of (cI := cI) (cZ := cZ) (base := base) hs
  refine W.iast h.1 h.2.1 (hR.2 c _ ha) ((hK.2 0 _ rfl).1 N (fun j => .int (zI σ c j))) (fun q => by cases q) (by show ¬ (i < 0 ∨ (arrV _ _ _).slots.size ≤ _); rw [arrV_size]; exact hi) rfl rfl hd fun H1 e z oq => ?_
  refine kk H1 _ ls ⟨by rw [z]; exact hR.1, ?_⟩ (hS.put z oq (by show base ≤ base + c; omega)) hl
  have hP := hR.2.set (zW_D cI cZ base σ) ha (e := .inl (cI, N, .inl (upd (zI σ c) i.toNatClampNeg x))) (H1 := H1) ?_ oq
  · rw [zW_set (σ' := zsI σ c i.toNatClampNeg x) hs rfl (fun c' hc' r => zE_sI hc' r) (by show (Sum.inl (cI, N, .inl (zI (zsI σ c i.toNatClampNeg x) c)) : va_E) = _; rw [zI_row])] at hP
    exact hP
  · show H1[base + c]? = some (vp_cell _ _)
    rw [e]
    show some ((vp_cell cI (N, .inl (zI σ c))).setSlot _ _) = _
    rw [vp_cell_i, vp_cell_i, arrV_store]
    congr 2
    funext q
    by_cases hq : q = i.toNatClampNeg
    · subst hq
      simp [updV, upd]
    · simp [updV, upd, hq]
end zRules
