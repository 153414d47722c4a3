/-! ===== a small machine over the kit: the heap as functions; a body's judgement zV; a method's contract zCt ===== -/
/-- cells in the order of their making: (0, number of a class) an object, (1, N) an int array, (2, N) a boolean array; what they hold: ints, longs, references (by the cell's number) -/
abbrev zSt : Type := List (Nat × Nat) × (Nat → Nat → Int32) × (Nat → Nat → Int64) × (Nat → Nat → Option Nat)
def zI (σ : zSt) : Nat → Nat → Int32 := σ.2.1
def zJ (σ : zSt) : Nat → Nat → Int64 := σ.2.2.1
def zR (σ : zSt) : Nat → Nat → Option Nat := σ.2.2.2
def z2 {α : Type} (f : Nat → Nat → α) (c i : Nat) (v : α) : Nat → Nat → α := fun c' i' => if c' = c ∧ i' = i then v else f c' i'
def zsI (σ : zSt) (c i : Nat) (v : Int32) : zSt := (σ.1, z2 (zI σ) c i v, zJ σ, zR σ)
def zsJ (σ : zSt) (c i : Nat) (v : Int64) : zSt := (σ.1, zI σ, z2 (zJ σ) c i v, zR σ)
def zsR (σ : zSt) (c i : Nat) (v : Option Nat) : zSt := (σ.1, zI σ, zJ σ, z2 (zR σ) c i v)
def zsA (σ : zSt) (c : Nat) (f : Nat → Int32) : zSt := (σ.1, (fun c' i' => if c' = c then f i' else zI σ c' i'), zJ σ, zR σ)
def zN (σ : zSt) (q : Nat × Nat) : zSt := (σ.1 ++ [q], (fun c i => if c = σ.1.length then 0 else zI σ c i), (fun c i => if c = σ.1.length then 0 else zJ σ c i), (fun c i => if c = σ.1.length then none else zR σ c i))
def zc (base : Nat) : Value → Value
  | .ref k => .ref (base + k)
  | .retAddr a => .ref a
  | v => v
def zv (base : Nat) : Option Nat → Value
  | none => .null
  | some k => .ref (base + k)
def zF (base : Nat) (σ : zSt) (c j : Nat) : Nat → Value
  | 0 => .int (zI σ c j)
  | 1 => .long (zJ σ c j)
  | _ => zv base (zR σ c j)
def zE (cI cZ : ClassId) (base : Nat) (σ : zSt) (c : Nat) (q : Nat × Nat) : va_E := match q.1 with
  | 0 => .inr (q.2, (zfk.getD q.2 []).mapIdx (fun j k => zF base σ c j k))
  | 1 => .inl (cI, q.2, .inl (zI σ c))
  | _ => .inl (cZ, q.2, .inl (zI σ c))
def zW (cI cZ : ClassId) (base : Nat) (σ : zSt) : va_W := σ.1.mapIdx (fun c q => (base + c, zE cI cZ base σ c q))
theorem zW_at (cI cZ : ClassId) (base : Nat) (σ : zSt) (c : Nat) : (zW cI cZ base σ)[c]? = (σ.1[c]?).map (fun q => (base + c, zE cI cZ base σ c q)) := by
  unfold zW; rw [List.getElem?_mapIdx]
theorem zW_of {cI cZ : ClassId} {base : Nat} {σ : zSt} {c : Nat} {q : Nat × Nat} (h : σ.1[c]? = some q) : (zW cI cZ base σ)[c]? = some (base + c, zE cI cZ base σ c q) := by
  rw [zW_at, h]; rfl
theorem zW_D (cI cZ : ClassId) (base : Nat) (σ : zSt) : va_D (fun q => base ≤ q) (zW cI cZ base σ) := by
  refine ⟨fun i j p q hi hj h => ?_, fun k q hk => ?_⟩
  · rw [zW_at] at hi hj
    obtain ⟨a, ha, rfl⟩ := Option.map_eq_some_iff.mp hi
    obtain ⟨b, hb, rfl⟩ := Option.map_eq_some_iff.mp hj
    simp at h
    exact h
  · rw [zW_at] at hk
    obtain ⟨a, ha, rfl⟩ := Option.map_eq_some_iff.mp hk
    simp
def zRl (D : va_G) (cI cZ : ClassId) (base : Nat) (σ : zSt) (H : Heap) : Prop := H.size = base + σ.1.length ∧ va_P D zcl (zW cI cZ base σ) H
/-- one cell changed -/
theorem zW_set {cI cZ : ClassId} {base : Nat} {σ σ' : zSt} {c : Nat} {q : Nat × Nat} (h : σ.1[c]? = some q) (h1 : σ'.1 = σ.1) (h2 : ∀ c', c' ≠ c → ∀ r, zE cI cZ base σ' c' r = zE cI cZ base σ c' r) {e : va_E} (he : zE cI cZ base σ' c q = e) : (zW cI cZ base σ).set c (base + c, e) = zW cI cZ base σ' := by
  apply List.ext_getElem?
  intro i
  have hl : c < (zW cI cZ base σ).length := (List.getElem?_eq_some_iff.mp (zW_of h)).1
  by_cases hi : i = c
  · subst hi
    rw [List.getElem?_set_self hl, zW_at, h1, h]
    simp [he]
  · rw [List.getElem?_set_ne (Ne.symm hi), zW_at, zW_at, h1]
    cases hs : σ.1[i]? with
    | none => rfl
    | some r => simp [h2 i hi r]
theorem zE_obj {cI cZ : ClassId} {base : Nat} {σ : zSt} {c ci : Nat} : zE cI cZ base σ c (0, ci) = .inr (ci, (zfk.getD ci []).mapIdx (fun j k => zF base σ c j k)) := rfl
theorem zE_ne {cI cZ : ClassId} {base : Nat} {σ σ' : zSt} {c : Nat} (h1 : ∀ i, zI σ' c i = zI σ c i) (h2 : ∀ i, zJ σ' c i = zJ σ c i) (h3 : ∀ i, zR σ' c i = zR σ c i) (r : Nat × Nat) : zE cI cZ base σ' c r = zE cI cZ base σ c r := by
  have hF : ∀ j k, zF base σ' c j k = zF base σ c j k := by
    intro j k
    unfold zF
    split
    · rw [h1]
    · rw [h2]
    · rw [h3]
  have hI : zI σ' c = zI σ c := funext h1
  unfold zE
  split
  · simp only [hF]
  · rw [hI]
  · rw [hI]
/-- an object's fields, one changed -/
theorem zfs_set {base : Nat} {σ σ' : zSt} {c k kd : Nat} {ks : List Nat} (hk : ks[k]? = some kd) (h : ∀ j kd', j ≠ k → zF base σ' c j kd' = zF base σ c j kd') {v : Value} (hv : zF base σ' c k kd = v) : (ks.mapIdx (fun j k => zF base σ c j k)).set k v = ks.mapIdx (fun j k => zF base σ' c j k) := by
  apply List.ext_getElem?
  intro i
  have hl : k < ks.length := (List.getElem?_eq_some_iff.mp hk).1
  by_cases hi : i = k
  · subst hi
    rw [List.getElem?_set_self (by simpa using hl), List.getElem?_mapIdx, hk]
    simp [hv]
  · rw [List.getElem?_set_ne (Ne.symm hi), List.getElem?_mapIdx, List.getElem?_mapIdx]
    cases ks[i]? with
    | none => rfl
    | some r => simp [h i r hi]
theorem zI_sI (σ : zSt) (c i : Nat) (v : Int32) (c' i' : Nat) : zI (zsI σ c i v) c' i' = if c' = c ∧ i' = i then v else zI σ c' i' := rfl
theorem zJ_sI (σ : zSt) (c i : Nat) (v : Int32) : zJ (zsI σ c i v) = zJ σ := rfl
theorem zR_sI (σ : zSt) (c i : Nat) (v : Int32) : zR (zsI σ c i v) = zR σ := rfl
theorem z1_sI (σ : zSt) (c i : Nat) (v : Int32) : (zsI σ c i v).1 = σ.1 := rfl
theorem zI_sJ (σ : zSt) (c i : Nat) (v : Int64) : zI (zsJ σ c i v) = zI σ := rfl
theorem zJ_sJ (σ : zSt) (c i : Nat) (v : Int64) (c' i' : Nat) : zJ (zsJ σ c i v) c' i' = if c' = c ∧ i' = i then v else zJ σ c' i' := rfl
theorem zR_sJ (σ : zSt) (c i : Nat) (v : Int64) : zR (zsJ σ c i v) = zR σ := rfl
theorem z1_sJ (σ : zSt) (c i : Nat) (v : Int64) : (zsJ σ c i v).1 = σ.1 := rfl
theorem zI_sR (σ : zSt) (c i : Nat) (v : Option Nat) : zI (zsR σ c i v) = zI σ := rfl
theorem zJ_sR (σ : zSt) (c i : Nat) (v : Option Nat) : zJ (zsR σ c i v) = zJ σ := rfl
theorem zR_sR (σ : zSt) (c i : Nat) (v : Option Nat) (c' i' : Nat) : zR (zsR σ c i v) c' i' = if c' = c ∧ i' = i then v else zR σ c' i' := rfl
theorem z1_sR (σ : zSt) (c i : Nat) (v : Option Nat) : (zsR σ c i v).1 = σ.1 := rfl
theorem zI_sA (σ : zSt) (c : Nat) (f : Nat → Int32) (c' i' : Nat) : zI (zsA σ c f) c' i' = if c' = c then f i' else zI σ c' i' := rfl
theorem zJ_sA (σ : zSt) (c : Nat) (f : Nat → Int32) : zJ (zsA σ c f) = zJ σ := rfl
theorem zR_sA (σ : zSt) (c : Nat) (f : Nat → Int32) : zR (zsA σ c f) = zR σ := rfl
theorem z1_sA (σ : zSt) (c : Nat) (f : Nat → Int32) : (zsA σ c f).1 = σ.1 := rfl
/-! locals -/
def zL (base : Nat) (ls : Array Slot) (nL : Nat) (L : List (Option Value)) : Prop := ls.size = nL ∧ lv_wf ls ∧ ∀ (i : Nat) (v : Value), L[i]? = some (some v) → ls[i]? = some (.val (zc base v))
theorem zc_cat (base : Nat) (v : Value) : (zc base v).category = v.category := by cases v <;> rfl
def zas (base : Nat) : Nat → List (Option Value) → List (Nat × Value)
  | _, [] => []
  | n, none :: L => zas base (n + 1) L
  | n, some v :: L => (n, zc base v) :: zas base (n + 1) L
theorem zas_mem {base : Nat} : ∀ (L : List (Option Value)) (n i : Nat) (v : Value), L[i]? = some (some v) → (n + i, zc base v) ∈ zas base n L
  | [], n, i, v, h => by simp at h
  | none :: L, n, i, v, h => by
    cases i with
    | zero => simp at h
    | succ i =>
      have := zas_mem (base := base) L (n + 1) i v (by simpa using h)
      rw [show n + (i + 1) = n + 1 + i by omega]
      exact this
  | some w :: L, n, i, v, h => by
    cases i with
    | zero =>
      simp at h
      subst h
      exact List.mem_cons_self
    | succ i =>
      have := zas_mem (base := base) L (n + 1) i v (by simpa using h)
      rw [show n + (i + 1) = n + 1 + i by omega]
      exact List.mem_cons_of_mem _ this
theorem zas_of {base : Nat} : ∀ (L : List (Option Value)) (n : Nat) (q : Nat × Value), q ∈ zas base n L → ∃ i v, q = (n + i, zc base v) ∧ L[i]? = some (some v)
  | [], n, q, h => by simp [zas] at h
  | none :: L, n, q, h => by
    obtain ⟨i, v, e1, e2⟩ := zas_of L (n + 1) q h
    exact ⟨i + 1, v, by rw [e1]; congr 1; omega, by simpa using e2⟩
  | some w :: L, n, q, h => by
    rcases List.mem_cons.mp h with rfl | h
    · exact ⟨0, w, rfl, rfl⟩
    · obtain ⟨i, v, e1, e2⟩ := zas_of L (n + 1) q h
      exact ⟨i + 1, v, by rw [e1]; congr 1; omega, by simpa using e2⟩
theorem zL.has {base : Nat} {ls : Array Slot} {nL : Nat} {L : List (Option Value)} (h : zL base ls nL L) : lv_has ls nL (zas base 0 L) := by
  refine ⟨h.1, h.2.1, fun q hq => ?_⟩
  obtain ⟨i, v, rfl, e⟩ := zas_of L 0 q hq
  rw [Nat.zero_add]
  exact h.2.2 i v e
/-- no long lies just ahead of a place -/
def zfr (L : List (Option Value)) : Nat → Bool
  | 0 => true
  | i + 1 => match L[i]? with
    | some (some v) => v.category == 1
    | _ => true
theorem zfr_ne {L : List (Option Value)} {i j : Nat} {v : Value} (h : zfr L i = true) (hv : L[j]? = some (some v)) (hj : j + 1 = i) : ¬ v.category = 2 := by
  subst hj
  simp only [zfr, hv, beq_iff_eq] at h
  omega
theorem zL.set1 {base : Nat} {ls' : Array Slot} {nL i : Nat} {L : List (Option Value)} {v : Value} (hf : zfr L i = true)
    (h' : lv_has ls' nL ((i, zc base v) :: (zas base 0 L).filter (fun q => !(q.1 == i) && !(q.1 + 1 == i && q.2.category == 2)))) : zL base ls' nL (L.set i (some v)) := by
  refine ⟨h'.1, h'.2.1, fun j w hj => ?_⟩
  by_cases hji : j = i
  · subst hji
    by_cases hl : j < L.length
    · rw [List.getElem?_set_self hl] at hj
      cases hj
      exact h'.2.2 _ List.mem_cons_self
    · rw [List.getElem?_eq_none (by simpa using hl)] at hj
      cases hj
  · rw [List.getElem?_set_ne (Ne.symm hji)] at hj
    refine h'.2.2 (j, zc base w) (List.mem_cons_of_mem _ (List.mem_filter.mpr ⟨?_, ?_⟩))
    · have := zas_mem (base := base) L 0 j w hj
      rwa [Nat.zero_add] at this
    · have h2 : j + 1 = i → ¬ w.category = 2 := fun e => zfr_ne hf hj e
      by_cases e : j + 1 = i
      · simp [hji, zc_cat, h2 e]
      · simp [hji, e]
theorem zL.set2 {base : Nat} {ls' : Array Slot} {nL i : Nat} {L : List (Option Value)} {v : Value} (hf : zfr L i = true)
    (h' : lv_has ls' nL ((i, zc base v) :: (zas base 0 L).filter (fun q => !(q.1 == i) && (!(q.1 == i + 1) && !(q.1 + 1 == i && q.2.category == 2))))) : zL base ls' nL ((L.set i (some v)).set (i + 1) none) := by
  refine ⟨h'.1, h'.2.1, fun j w hj => ?_⟩
  by_cases hj1 : j = i + 1
  · subst hj1
    by_cases hl : i + 1 < (L.set i (some v)).length
    · rw [List.getElem?_set_self hl] at hj
      cases hj
    · rw [List.getElem?_eq_none (by simpa using hl)] at hj
      cases hj
  rw [List.getElem?_set_ne (Ne.symm hj1)] at hj
  by_cases hji : j = i
  · subst hji
    by_cases hl : j < L.length
    · rw [List.getElem?_set_self hl] at hj
      cases hj
      exact h'.2.2 _ List.mem_cons_self
    · rw [List.getElem?_eq_none (by simpa using hl)] at hj
      cases hj
  · rw [List.getElem?_set_ne (Ne.symm hji)] at hj
    refine h'.2.2 (j, zc base w) (List.mem_cons_of_mem _ (List.mem_filter.mpr ⟨?_, ?_⟩))
    · have := zas_mem (base := base) L 0 j w hj
      rwa [Nat.zero_add] at this
    · have h2 : j + 1 = i → ¬ w.category = 2 := fun e => zfr_ne hf hj e
      by_cases e : j + 1 = i
      · simp [hji, hj1, zc_cat, h2 e]
      · simp [hji, hj1, e]
/-! a body -/
/-- the links between nest mates: words that warm -/
def zNs (U : State) : Prop := ∀ q ∈ znl, va_Nw (.methodLinkNest q.1 q.2.1 q.2.2.1 q.2.2.2) U
theorem zNs.warm {s U : State} (hW : s.WarmedH U.vm) (h : zNs s) : zNs U := fun q hq => va_Nw.warmM hW (h q hq)
theorem zNs.same {s U : State} (he : s.vm = U.vm) (h : zNs s) : zNs U := fun q hq => va_Nw.same rfl he (h q hq)
abbrev zX : Type := Program × Launch × Env × Room × State × MethodId × Array Value × List Frame × Method × Code × va_G × ClassId × ClassId × Nat × (State → Prop)
/-- from here, with these locals, this stack, k cells of n slots made, this memory: the body comes to its end -/
def zV (X : zX) (nL pc : Nat) (L : List (Option Value)) (st : List Value) (k n : Nat) (σ : zSt) : Prop :=
  match X with
  | (p, l, e, R, s, m, args, below, meth, c, D, cI, cZ, base, Z) => ∀ (H : Heap) (locs : List Loc) (ls : Array Slot), zRl D cI cZ base σ H → va_S (fun q => base ≤ q) s.heap H locs → zL base ls nL L → W p l e R s m args below meth c H locs k n Z (F0 m pc ls (st.map (zc base)))
/-- what a body stands on: its code, its class, the tables' words, the room below it -/
def zC (X : zX) (own : String) (cc : ByteArray) (nL dd mc ms : Nat) : Prop :=
  match X with
  | (p, _, _, R, s, m, args, _, _, c, D, cI, cZ, base, _) => p.tables.exec = Jvm.exec ∧ c.code = cc ∧ c.maxLocals = nL ∧ s.vm.findClass own = some m.cls ∧ (∀ w ∈ ztb, w.before args s = true) ∧ va_K D zcl [(cI, .int), (cZ, .boolean)] s ∧ base ≤ s.heap.size ∧ dd ≤ R.frames ∧ 38 * dd ≤ R.locals ∧ mc ≤ R.cells ∧ ms ≤ R.slots ∧ zNs s
def zQc (D : va_G) (cI cZ : ClassId) (base : Nat) (Q : Option Value → zSt → Prop) : Array Value → State → Outcome → State → Prop := fun _ st oc t => ∃ (r : Option Value) (σ : zSt), oc = .returned (r.map (zc base)) ∧ Q r σ ∧ zRl D cI cZ base σ t.heap ∧ va_F (fun q => base ≤ q) st t
/-- what a method's body must come to -/
def zB (X : zX) (ret : Option FieldType) (mc ms : Nat) (nm : String) (σ0 : zSt) (Q : Option Value → zSt → Prop) : Prop :=
  match X with
  | (_, _, _, _, s, _, args, below, meth, _, D, cI, cZ, base, Z) => meth.sig.returnType = ret ∧ meth.locks = false ∧ meth.name = nm ∧ Z = MQ below (zQc D cI cZ base Q) args s mc ms (fun q => base ≤ q) ∧ s.heap.size = base + σ0.1.length
/-- a method: its name, code, locals, answer's type, cells and slots that it makes -/
abbrev zM : Type := MethodName × ByteArray × Nat × Option FieldType × Nat × Nat
def zws (M : zM) : List Cond := .code M.1 M.2.1 M.2.2.1 M.2.2.2.1 :: ztb
def zrm (d : Nat) (M : zM) : Room := { frames := d, cells := M.2.2.2.2.1, slots := M.2.2.2.2.2, locals := 38 * d }
def zPc (av : List Value) (σ : zSt) (D : va_G) (cI cZ : ClassId) (base : Nat) : Array Value → State → Prop := va_Pc (av.map (zc base)) (fun U => zRl D cI cZ base σ U.heap ∧ va_K D zcl [(cI, .int), (cZ, .boolean)] U ∧ zNs U)
/-- THE CONTRACT: called with these arguments in this memory, d frames deep, it returns, and Q holds of its answer and the memory then -/
def zCt (d : Nat) (M : zM) (av : List Value) (σ : zSt) (Q : Option Value → zSt → Prop) : Prop := ∀ (l : Launch) (D : va_G) (cI cZ : ClassId) (base : Nat), Met l M.1 (zws M) (zrm d M) (zPc av σ D cI cZ base) (zQc D cI cZ base Q) M.2.2.2.2.1 M.2.2.2.2.2 (fun q => base ≤ q)
def zen : List Value → List (Option Value)
  | [] => []
  | v :: vs => if v.category = 2 then some v :: none :: zen vs else some v :: zen vs
theorem zen_in {base : Nat} : ∀ (av : List Value) (n i : Nat) (v : Value), (zen av)[i]? = some (some v) → (n + i, zc base v) ∈ lv_args n (av.map (zc base))
  | [], n, i, v, h => by simp [zen] at h
  | w :: av, n, i, v, h => by
    rw [List.map_cons, lv_args, zc_cat]
    unfold zen at h
    split at h
    · rename_i hc
      rw [if_pos hc]
      match i, h with
      | 0, h => simp at h; subst h; exact List.mem_cons_self
      | 1, h => simp at h
      | i + 2, h =>
        have := zen_in (base := base) av (n + 2) i v (by simpa using h)
        rw [show n + (i + 2) = n + 2 + i by omega]
        exact List.mem_cons_of_mem _ this
    · rename_i hc
      rw [if_neg hc]
      match i, h with
      | 0, h => simp at h; subst h; exact List.mem_cons_self
      | i + 1, h =>
        have := zen_in (base := base) av (n + 1) i v (by simpa using h)
        rw [show n + (i + 1) = n + 1 + i by omega]
        exact List.mem_cons_of_mem _ this
theorem zen_len {base : Nat} : ∀ (av : List Value), (lg_sl (av.map (zc base))).length = (zen av).length
  | [] => rfl
  | w :: av => by
    have ih := zen_len (base := base) av
    unfold zen
    simp only [lg_sl, List.map_cons, List.flatMap_cons, List.length_append, zc_cat] at ih ⊢
    split
    · simp [ih]; omega
    · simp [ih]; omega
theorem zL_entry {base : Nat} {av : List Value} {nL : Nat} (h : (zen av).length ≤ nL) : zL base ((lg_sl (av.map (zc base)) ++ List.replicate (nL - (lg_sl (av.map (zc base))).length) Slot.unset).toArray) nL (zen av ++ List.replicate (nL - (zen av).length) none) := by
  have hl := lv_entry (av.map (zc base)) (n := nL) (by rw [zen_len]; exact h)
  refine ⟨hl.1, hl.2.1, fun i v hi => ?_⟩
  have hi' : (zen av)[i]? = some (some v) := by
    by_cases hlt : i < (zen av).length
    · rwa [List.getElem?_append_left hlt] at hi
    · rw [List.getElem?_append_right (by omega)] at hi
      have := List.eq_of_mem_replicate (List.mem_of_getElem? hi)
      cases this
  have := zen_in (base := base) av 0 i v hi'
  rw [Nat.zero_add] at this
  exact hl.2.2 _ this
theorem zCt.of {d : Nat} {M : zM} {av : List Value} {σ : zSt} {Q : Option Value → zSt → Prop} (hy : plainName M.1.cls = true) (hlen : (zen av).length ≤ M.2.2.1) {L : List (Option Value)} (hL : zen av ++ List.replicate (M.2.2.1 - (zen av).length) none = L)
    (body : ∀ X : zX, zC X M.1.cls M.2.1 M.2.2.1 d M.2.2.2.2.1 M.2.2.2.2.2 → zB X M.2.2.2.1 M.2.2.2.2.1 M.2.2.2.2.2 M.1.name σ Q → zV X M.2.2.1 0 L [] 0 0 σ) : zCt d M av σ Q := by
  intro l D cI cZ base
  refine Met.ofW (cc := M.2.1) (maxL := M.2.2.1) (ret := M.2.2.2.1) hy rfl ?_
  intro p e s m args below meth c s₁ B hml hv
  obtain ⟨rfl, hRl, hK, hns⟩ := hv
  have hts := atoms_spec (ws := zws M) B.pre
  have hown : s.vm.findClass M.1.cls = some m.cls := findClass_of_methodNamed B.named
  have hnm : meth.name = M.1.name := (name_of_methodNamed B.named B.method).1
  have hb0 : base ≤ s.heap.size := by rw [hRl.1]; omega
  rw [lg_entry_eq]
  subst hL
  exact body (p, l, e, zrm d M, s, m, (av.map (zc base)).toArray, below, meth, c, D, cI, cZ, base, _)
    ⟨B.exec, B.bytes, hml, hown, fun w h => hts w (List.mem_cons_of_mem _ h), hK, hb0, Nat.le_refl _, Nat.le_refl _, Nat.le_refl _, Nat.le_refl _, hns⟩
    ⟨B.returns, B.notSynchronized, hnm, rfl, hRl.1⟩ s.heap [] _ hRl va_S.rf (zL_entry hlen)
