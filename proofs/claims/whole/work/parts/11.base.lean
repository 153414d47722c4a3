/-! ===== the layout of the cells; short forms ===== -/
def zsh : List (Nat × Nat) := [(0, 11), (0, 5), (1, 54), (0, 3), (0, 6), (2, 36), (0, 6), (2, 36), (0, 2), (0, 6), (2, 36), (0, 6), (2, 36), (1, 6), (0, 8), (2, 36), (2, 36), (0, 10), (0, 7), (1, 36), (1, 36), (2, 6), (0, 9), (0, 7), (1, 36), (1, 36), (0, 0), (1, 7), (0, 4), (1, 12), (1, 12), (1, 12), (1, 12), (1, 12), (1, 12), (0, 4), (1, 12), (1, 12), (1, 12), (1, 12), (1, 12), (1, 12), (0, 0), (1, 7), (0, 4), (1, 12), (1, 12), (1, 12), (1, 12), (1, 12), (1, 12), (0, 0), (1, 7), (0, 12), (1, 54), (1, 6), (1, 6), (1, 6), (1, 6), (1, 6), (1, 72), (1, 36), (1, 36), (1, 36), (1, 36), (1, 7), (1, 7), (1, 7), (1, 72), (1, 72), (1, 7)]
def zrl : List (List (Option Nat)) := [[some 1, some 3, some 8, some 14, some 17, some 22, some 28, some 35, some 42, some 44, some 51], [some 2], [], [some 4, some 6], [some 5], [], [some 7], [], [some 9, some 11, some 13], [some 10], [], [some 12], [], [], [some 8, some 15, some 16], [], [], [some 8, some 14, some 18, some 21], [], [], [], [], [some 8, some 14, some 23, some 26], [], [], [], [some 27], [], [some 29, some 30, some 31, some 32, some 33, some 34], [], [], [], [], [], [], [some 36, some 37, some 38, some 39, some 40, some 41], [], [], [], [], [], [], [some 43], [], [some 45, some 46, some 47, some 48, some 49, some 50], [], [], [], [], [], [], [some 52], [], [some 54, none, some 55, some 56, none, none, none, none, none, none, none, none, none, none, some 57, some 58, none, some 59, none, none, none, none, none, some 60, some 61, some 62, some 63, some 64, none, some 65, some 66, some 67, none, some 68, none, none, none, none, none, some 69, some 70], [], [], [], [], [], [], [], [], [], [], [], [], [], [], [], [], []]
def zrf (c j : Nat) : Option Nat := (zrl.getD c []).getD j none
/-- the cells of class and model lie as their constructors laid them -/
def zLay (σ : zSt) : Prop := (∀ c, c < 71 → σ.1[c]? = zsh[c]?) ∧ ∀ c j r, zrf c j = some r → zR σ c j = some r
/-- a method called so answers r, and leaves σ' -/
def zEv (d : Nat) (M : zM) (av : List Value) (σ : zSt) (r : Option Value) (σ' : zSt) : Prop := zCt d M av σ (fun r' s' => r' = r ∧ s' = σ')
def zb (b : Bool) : Int32 := if b then 1 else 0
theorem zb_01 (b : Bool) : zb b = 0 ∨ zb b = 1 := by cases b <;> simp [zb]
theorem zb_t : zb true = 1 := rfl
theorem zb_f : zb false = 0 := rfl
theorem zb_eq0 {b : Bool} : zb b = 0 ↔ b = false := by cases b <;> simp [zb]
theorem zb_eq1 {b : Bool} : zb b = 1 ↔ b = true := by cases b <;> simp [zb]
/-- an answer of a search: a number, or NONE -/
def zo : Option Nat → Int32
  | none => -1
  | some k => nI k
section zShort
variable {X : zX} {own : String} {cc : ByteArray} {nL dd mc ms pc q : Nat} {L : List (Option Value)} {st rest As : List Value} {k n : Nat} {σ σ' : zSt} {idx ci c d a : Nat} {y : MethodName} {by_ : ByteArray} {mL : Nat} {rt : Option FieldType} {v : Value}
theorem v_callV1 (h : zC X own cc nL dd mc ms) (hd : decode cc pc = .ok (.invokevirtual idx, 3)) (hq : q = pc + 3) {M : zM} (hl : Cond.methodLink own idx M.1 ∈ ztb) (hm : zmi M a) (hi : Cond.instanceMethod M.1 ∈ ztb) (hsel : Cond.selects M.1.cls M.1 M.1 ∈ ztb) (hci : (zcl[ci]?).map (fun z => z.1) = some M.1.cls) (hs : σ.1[c]? = some (0, ci)) (hc : zEv d M (.ref c :: As) σ (some v) σ') (hst : st = As.reverse ++ .ref c :: rest) (ha : As.length = a) (hdd : d + 1 ≤ dd) (hk : M.2.2.2.2 = (0, 0)) (hcat : (rest.map fun v => v.category).sum ≤ 8)
    (kk : zV X nL q L (v :: rest) k n σ') (hkn : k ≤ mc ∧ n ≤ ms := by first | exact ⟨Nat.le_refl _, Nat.le_refl _⟩ | decide) : zV X nL pc L st k n σ := by
  refine v_callV h hd hq hl hm hi hsel hci hs hc hst ha hdd (by rw [hk]; exact hkn) hcat ?_
  rintro _ _ ⟨rfl, rfl⟩
  rw [hk]
  exact kk
theorem v_callV0 (h : zC X own cc nL dd mc ms) (hd : decode cc pc = .ok (.invokevirtual idx, 3)) (hq : q = pc + 3) {M : zM} (hl : Cond.methodLink own idx M.1 ∈ ztb) (hm : zmi M a) (hi : Cond.instanceMethod M.1 ∈ ztb) (hsel : Cond.selects M.1.cls M.1 M.1 ∈ ztb) (hci : (zcl[ci]?).map (fun z => z.1) = some M.1.cls) (hs : σ.1[c]? = some (0, ci)) (hc : zEv d M (.ref c :: As) σ none σ') (hst : st = As.reverse ++ .ref c :: rest) (ha : As.length = a) (hdd : d + 1 ≤ dd) (hk : M.2.2.2.2 = (0, 0)) (hcat : (rest.map fun v => v.category).sum ≤ 8)
    (kk : zV X nL q L rest k n σ') (hkn : k ≤ mc ∧ n ≤ ms := by first | exact ⟨Nat.le_refl _, Nat.le_refl _⟩ | decide) : zV X nL pc L st k n σ := by
  refine v_callV h hd hq hl hm hi hsel hci hs hc hst ha hdd (by rw [hk]; exact hkn) hcat ?_
  rintro _ _ ⟨rfl, rfl⟩
  rw [hk]
  exact kk
theorem v_callS1 (h : zC X own cc nL dd mc ms) (hd : decode cc pc = .ok (.invokestatic idx, 3)) (hq : q = pc + 3) {M : zM} (hl : Cond.methodLink own idx M.1 ∈ ztb) (hm : zmi M a) (hi : Cond.static M.1 ∈ ztb) (hc : zEv d M As σ (some v) σ') (hst : st = As.reverse ++ rest) (ha : As.length = a) (hdd : d + 1 ≤ dd) (hk : M.2.2.2.2 = (0, 0)) (hcat : (rest.map fun v => v.category).sum ≤ 8)
    (kk : zV X nL q L (v :: rest) k n σ') (hkn : k ≤ mc ∧ n ≤ ms := by first | exact ⟨Nat.le_refl _, Nat.le_refl _⟩ | decide) : zV X nL pc L st k n σ := by
  refine v_callS h hd hq hl hm hi hc hst ha hdd (by rw [hk]; exact hkn) hcat ?_
  rintro _ _ ⟨rfl, rfl⟩
  rw [hk]
  exact kk
theorem v_callS0 (h : zC X own cc nL dd mc ms) (hd : decode cc pc = .ok (.invokestatic idx, 3)) (hq : q = pc + 3) {M : zM} (hl : Cond.methodLink own idx M.1 ∈ ztb) (hm : zmi M a) (hi : Cond.static M.1 ∈ ztb) (hc : zEv d M As σ none σ') (hst : st = As.reverse ++ rest) (ha : As.length = a) (hdd : d + 1 ≤ dd) (hk : M.2.2.2.2 = (0, 0)) (hcat : (rest.map fun v => v.category).sum ≤ 8)
    (kk : zV X nL q L rest k n σ') (hkn : k ≤ mc ∧ n ≤ ms := by first | exact ⟨Nat.le_refl _, Nat.le_refl _⟩ | decide) : zV X nL pc L st k n σ := by
  refine v_callS h hd hq hl hm hi hc hst ha hdd (by rw [hk]; exact hkn) hcat ?_
  rintro _ _ ⟨rfl, rfl⟩
  rw [hk]
  exact kk
theorem v_callSN1 {host : String} (h : zC X own cc nL dd mc ms) (hd : decode cc pc = .ok (.invokestatic idx, 3)) (hq : q = pc + 3) {M : zM} (hl : (own, idx, M.1, host) ∈ znl) (hm : zmi M a) (hi : Cond.static M.1 ∈ ztb) (hc : zEv d M As σ (some v) σ') (hst : st = As.reverse ++ rest) (ha : As.length = a) (hdd : d + 1 ≤ dd) (hk : M.2.2.2.2 = (0, 0)) (hcat : (rest.map fun v => v.category).sum ≤ 8)
    (kk : zV X nL q L (v :: rest) k n σ') (hkn : k ≤ mc ∧ n ≤ ms := by first | exact ⟨Nat.le_refl _, Nat.le_refl _⟩ | decide) : zV X nL pc L st k n σ := by
  refine v_callSN h hd hq hl hm hi hc hst ha hdd (by rw [hk]; exact hkn) hcat ?_
  rintro _ _ ⟨rfl, rfl⟩
  rw [hk]
  exact kk
/-- a call whose end is told by a relation; no cells are made -/
theorem v_callVQ {Q : Option Value → zSt → Prop} (h : zC X own cc nL dd mc ms) (hd : decode cc pc = .ok (.invokevirtual idx, 3)) (hq : q = pc + 3) {M : zM} (hl : Cond.methodLink own idx M.1 ∈ ztb) (hm : zmi M a) (hi : Cond.instanceMethod M.1 ∈ ztb) (hsel : Cond.selects M.1.cls M.1 M.1 ∈ ztb) (hci : (zcl[ci]?).map (fun z => z.1) = some M.1.cls) (hs : σ.1[c]? = some (0, ci)) (hc : zCt d M (.ref c :: As) σ Q) (hst : st = As.reverse ++ .ref c :: rest) (ha : As.length = a) (hdd : d + 1 ≤ dd) (hk : M.2.2.2.2 = (0, 0)) (hcat : (rest.map fun v => v.category).sum ≤ 8)
    (kk : ∀ (r : Option Value) (σ' : zSt), Q r σ' → zV X nL q L (r.toList ++ rest) k n σ') (hkn : k ≤ mc ∧ n ≤ ms := by first | exact ⟨Nat.le_refl _, Nat.le_refl _⟩ | decide) : zV X nL pc L st k n σ := by
  refine v_callV h hd hq hl hm hi hsel hci hs hc hst ha hdd (by rw [hk]; exact hkn) hcat ?_
  intro r s' hr
  rw [hk]
  exact kk r s' hr
theorem v_ialdN {i : Int32} {j N : Nat} (h : zC X own cc nL dd mc ms) (hd : decode cc pc = .ok (.iaload, 1)) (hq : q = pc + 1) (hs : σ.1[c]? = some (1, N)) (hij : i = nI j) (hj : j < N) (hN : N < 2 ^ 31) (kk : zV X nL q L (.int (zI σ c j) :: st) k n σ) : zV X nL pc L (.int i :: .ref c :: st) k n σ := by
  subst hij
  refine v_iald h hd hq hs (vp_in_nI hj hN) ?_
  rw [nI_clamp (by omega)]; exact kk
theorem v_zaldN {i : Int32} {j N : Nat} (h : zC X own cc nL dd mc ms) (hd : decode cc pc = .ok (.baload, 1)) (hq : q = pc + 1) (hs : σ.1[c]? = some (2, N)) (hij : i = nI j) (hj : j < N) (hN : N < 2 ^ 31) (kk : zV X nL q L (.int (zI σ c j) :: st) k n σ) : zV X nL pc L (.int i :: .ref c :: st) k n σ := by
  subst hij
  refine v_zald h hd hq hs (vp_in_nI hj hN) ?_
  rw [nI_clamp (by omega)]; exact kk
theorem v_iastN {i x : Int32} {j N : Nat} (h : zC X own cc nL dd mc ms) (hd : decode cc pc = .ok (.iastore, 1)) (hq : q = pc + 1) (hs : σ.1[c]? = some (1, N)) (hij : i = nI j) (hj : j < N) (hN : N < 2 ^ 31) (kk : zV X nL q L st k n (zsI σ c j x)) : zV X nL pc L (.int x :: .int i :: .ref c :: st) k n σ := by
  subst hij
  refine v_iast h hd hq hs (vp_in_nI hj hN) ?_
  rw [nI_clamp (by omega)]; exact kk
theorem v_zastN {i x : Int32} {j N : Nat} (h : zC X own cc nL dd mc ms) (hd : decode cc pc = .ok (.bastore, 1)) (hq : q = pc + 1) (hs : σ.1[c]? = some (2, N)) (hij : i = nI j) (hj : j < N) (hN : N < 2 ^ 31) (hx : x = 0 ∨ x = 1) (kk : zV X nL q L st k n (zsI σ c j x)) : zV X nL pc L (.int x :: .int i :: .ref c :: st) k n σ := by
  subst hij
  refine v_zast h hd hq hs (vp_in_nI hj hN) hx ?_
  rw [nI_clamp (by omega)]; exact kk
end zShort
/-- the place of two people in a row that has one for each two -/
theorem z6 (a b : Nat) : nI a * 6 + nI b = nI (6 * a + b) := by
  rw [show (6 : Int32) = nI 6 from rfl, pk_mul, nI_add, Nat.mul_comm]
theorem z6' (a b : Nat) : 6 * nI a + nI b = nI (6 * a + b) := by
  rw [show (6 : Int32) = nI 6 from rfl, pk_mul, nI_add]
/-! numbers -/
/-- p names one of n -/
def zval (n : Nat) (p : Int32) : Bool := decide (0 ≤ p.toInt ∧ p.toInt < n)
theorem zval_nI {n k : Nat} (hk : k < 2 ^ 31) : zval n (nI k) = decide (k < n) := by
  unfold zval
  rw [nI_toInt hk]
  congr 1
  simp
theorem zval_of {n : Nat} {p : Int32} (hn : n < 2 ^ 31) (h : zval n p = true) : ∃ k, k < n ∧ p = nI k := by
  unfold zval at h
  have h := of_decide_eq_true h
  exact vp_in_of (vp_in_iff.mpr h) hn
theorem zlt0 {p : Int32} : p < 0 ↔ p.toInt < 0 := Int32.lt_iff_toInt_lt
theorem zltI {p : Int32} {n : Nat} (hn : n < 2 ^ 31) : p < nI n ↔ p.toInt < n := by
  rw [Int32.lt_iff_toInt_lt, nI_toInt hn]
theorem zc1 : (1 : Int32) = nI 1 := rfl
/-- what two memories share: all but the ints of the cells cs and the references of the cells rs -/
def zSame (cs rs : List Nat) (σ σ' : zSt) : Prop := σ'.1 = σ.1 ∧ zJ σ' = zJ σ ∧ (∀ c, c ∉ rs → ∀ j, zR σ' c j = zR σ c j) ∧ ∀ c, c ∉ cs → ∀ i, zI σ' c i = zI σ c i
theorem zSame.rf {cs rs : List Nat} {σ : zSt} : zSame cs rs σ σ := ⟨rfl, rfl, fun _ _ _ => rfl, fun _ _ _ => rfl⟩
theorem zSame.tr {cs rs : List Nat} {σ σ1 σ2 : zSt} (h : zSame cs rs σ σ1) (h' : zSame cs rs σ1 σ2) : zSame cs rs σ σ2 := ⟨h'.1.trans h.1, h'.2.1.trans h.2.1, fun c hc j => (h'.2.2.1 c hc j).trans (h.2.2.1 c hc j), fun c hc i => (h'.2.2.2 c hc i).trans (h.2.2.2 c hc i)⟩
theorem zSame.mono {cs rs cs' rs' : List Nat} {σ σ' : zSt} (h : zSame cs rs σ σ') (hs : ∀ c ∈ cs, c ∈ cs') (hr : ∀ c ∈ rs, c ∈ rs') : zSame cs' rs' σ σ' := ⟨h.1, h.2.1, fun c hc j => h.2.2.1 c (fun z => hc (hr c z)) j, fun c hc i => h.2.2.2 c (fun z => hc (hs c z)) i⟩
theorem zSame.sI {cs rs : List Nat} {σ : zSt} {c i : Nat} {v : Int32} (hc : c ∈ cs) : zSame cs rs σ (zsI σ c i v) := ⟨rfl, rfl, fun _ _ _ => rfl, fun c' hc' i' => by rw [zI_sI, if_neg]; rintro ⟨rfl, -⟩; exact hc' hc⟩
theorem zSame.sA {cs rs : List Nat} {σ : zSt} {c : Nat} {f : Nat → Int32} (hc : c ∈ cs) : zSame cs rs σ (zsA σ c f) := ⟨rfl, rfl, fun _ _ _ => rfl, fun c' hc' i' => by rw [zI_sA, if_neg]; rintro rfl; exact hc' hc⟩
theorem zSame.sR {cs rs : List Nat} {σ : zSt} {c i : Nat} {v : Option Nat} (hc : c ∈ rs) : zSame cs rs σ (zsR σ c i v) := ⟨rfl, rfl, fun c' hc' i' => by rw [zR_sR, if_neg]; rintro ⟨rfl, -⟩; exact hc' hc, fun _ _ _ => rfl⟩
theorem zSame.addI {cs rs : List Nat} {σ σ1 : zSt} (h : zSame cs rs σ σ1) {c i : Nat} {v : Int32} (hc : c ∈ cs) : zSame cs rs σ (zsI σ1 c i v) := h.tr (zSame.sI hc)
theorem zSame.addA {cs rs : List Nat} {σ σ1 : zSt} (h : zSame cs rs σ σ1) {c : Nat} {f : Nat → Int32} (hc : c ∈ cs) : zSame cs rs σ (zsA σ1 c f) := h.tr (zSame.sA hc)
theorem zLay.same {cs rs : List Nat} {σ σ' : zSt} (hL : zLay σ) (h : zSame cs rs σ σ') (hcs : rs.all (fun c => (zrl.getD c []).all (fun r => r.isNone)) = true) : zLay σ' := by
  refine ⟨fun c hc => by rw [h.1]; exact hL.1 c hc, fun c j r hr => ?_⟩
  by_cases hm : c ∈ rs
  · have h1 := List.all_eq_true.mp hcs c hm
    have h2 : zrf c j = none := by
      unfold zrf
      rw [List.getD_eq_getElem?_getD]
      cases hx : (zrl.getD c [])[j]? with
      | none => rfl
      | some x =>
        have := List.all_eq_true.mp h1 x (List.mem_of_getElem? hx)
        rw [Option.isNone_iff_eq_none] at this
        rw [this]; rfl
    rw [h2] at hr; cases hr
  · rw [h.2.2.1 c hm j]; exact hL.2 c j r hr

