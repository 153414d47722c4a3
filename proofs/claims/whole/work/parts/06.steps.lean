/-! ===== rules: an instruction each ===== -/
theorem v_iconst {X : zX} {own : String} {cc : ByteArray} {nL dd mc ms pc q : Nat} {L : List (Option Value)} {st : List Value} {k n : Nat} {σ : zSt} {i : Int} {v : Int32} (h : zC X own cc nL dd mc ms) (hd : decode cc pc = .ok (.iconst i, 1)) (hq : q = pc + 1) (hv : Int32.ofInt i = v) (kk : zV X nL q L (.int v :: st) k n σ) : zV X nL pc L (st) k n σ := by
  obtain ⟨p, l, e, R, s, m, args, below, meth, c, D, cI, cZ, base, Z⟩ := X
  subst hq
  intro H locs ls hR hS hl
  exact lv_iconst h.1 h.2.1 hd hv (kk H locs ls hR hS hl)
theorem v_bipush {X : zX} {own : String} {cc : ByteArray} {nL dd mc ms pc q : Nat} {L : List (Option Value)} {st : List Value} {k n : Nat} {σ : zSt} {i : Int} {v : Int32} (h : zC X own cc nL dd mc ms) (hd : decode cc pc = .ok (.bipush i, 2)) (hq : q = pc + 2) (hv : (Int8.ofInt i).toInt32 = v) (kk : zV X nL q L (.int v :: st) k n σ) : zV X nL pc L (st) k n σ := by
  obtain ⟨p, l, e, R, s, m, args, below, meth, c, D, cI, cZ, base, Z⟩ := X
  subst hq
  intro H locs ls hR hS hl
  exact lv_bipush h.1 h.2.1 hd hv (kk H locs ls hR hS hl)
theorem v_sipush {X : zX} {own : String} {cc : ByteArray} {nL dd mc ms pc q : Nat} {L : List (Option Value)} {st : List Value} {k n : Nat} {σ : zSt} {i : Int} {v : Int32} (h : zC X own cc nL dd mc ms) (hd : decode cc pc = .ok (.sipush i, 3)) (hq : q = pc + 3) (hv : (Int16.ofInt i).toInt32 = v) (kk : zV X nL q L (.int v :: st) k n σ) : zV X nL pc L (st) k n σ := by
  obtain ⟨p, l, e, R, s, m, args, below, meth, c, D, cI, cZ, base, Z⟩ := X
  subst hq
  intro H locs ls hR hS hl
  exact lv_sipush h.1 h.2.1 hd hv (kk H locs ls hR hS hl)
theorem v_lconst {X : zX} {own : String} {cc : ByteArray} {nL dd mc ms pc q : Nat} {L : List (Option Value)} {st : List Value} {k n : Nat} {σ : zSt} {i : Fin 2} {v : Int64} (h : zC X own cc nL dd mc ms) (hd : decode cc pc = .ok (.lconst i, 1)) (hq : q = pc + 1) (hv : Int64.ofNat (i : Nat) = v) (kk : zV X nL q L (.long v :: st) k n σ) : zV X nL pc L (st) k n σ := by
  obtain ⟨p, l, e, R, s, m, args, below, meth, c, D, cI, cZ, base, Z⟩ := X
  subst hq
  intro H locs ls hR hS hl
  exact lv_lconst h.1 h.2.1 hd hv (kk H locs ls hR hS hl)
theorem v_ldc {X : zX} {own : String} {cc : ByteArray} {nL dd mc ms pc q : Nat} {L : List (Option Value)} {st : List Value} {k n : Nat} {σ : zSt} {i : Nat} {v : Int32} (h : zC X own cc nL dd mc ms) (hd : decode cc pc = .ok (.ldc i, 2)) (hq : q = pc + 2) (hv : Jvm.Cond.constant own i v ∈ ztb) (kk : zV X nL q L (.int v :: st) k n σ) : zV X nL pc L (st) k n σ := by
  obtain ⟨p, l, e, R, s, m, args, below, meth, c, D, cI, cZ, base, Z⟩ := X
  subst hq
  intro H locs ls hR hS hl
  exact lv_ldc h.1 h.2.1 h.2.2.2.1 (h.2.2.2.2.1 _ hv) hd (kk H locs ls hR hS hl)
theorem v_ldcw {X : zX} {own : String} {cc : ByteArray} {nL dd mc ms pc q : Nat} {L : List (Option Value)} {st : List Value} {k n : Nat} {σ : zSt} {i : Nat} {v : Int32} (h : zC X own cc nL dd mc ms) (hd : decode cc pc = .ok (.ldc_w i, 3)) (hq : q = pc + 3) (hv : Jvm.Cond.constant own i v ∈ ztb) (kk : zV X nL q L (.int v :: st) k n σ) : zV X nL pc L (st) k n σ := by
  obtain ⟨p, l, e, R, s, m, args, below, meth, c, D, cI, cZ, base, Z⟩ := X
  subst hq
  intro H locs ls hR hS hl
  exact lv_ldcw h.1 h.2.1 h.2.2.2.1 (h.2.2.2.2.1 _ hv) hd (kk H locs ls hR hS hl)
theorem v_ldc2 {X : zX} {own : String} {cc : ByteArray} {nL dd mc ms pc q : Nat} {L : List (Option Value)} {st : List Value} {k n : Nat} {σ : zSt} {i : Nat} {v : Int64} (h : zC X own cc nL dd mc ms) (hd : decode cc pc = .ok (.ldc2_w i, 3)) (hq : q = pc + 3) (hv : Jvm.Cond.constantLong own i v ∈ ztb) (kk : zV X nL q L (.long v :: st) k n σ) : zV X nL pc L (st) k n σ := by
  obtain ⟨p, l, e, R, s, m, args, below, meth, c, D, cI, cZ, base, Z⟩ := X
  subst hq
  intro H locs ls hR hS hl
  exact lv_ldc2 h.1 h.2.1 h.2.2.2.1 (h.2.2.2.2.1 _ hv) hd (kk H locs ls hR hS hl)
theorem v_iload_n {X : zX} {own : String} {cc : ByteArray} {nL dd mc ms pc q : Nat} {L : List (Option Value)} {st : List Value} {k n : Nat} {σ : zSt} {j : Fin 4} {i : Nat} {x : Int32} (h : zC X own cc nL dd mc ms) (hd : decode cc pc = .ok (.iload_n j, 1)) (hq : q = pc + 1) (hi : (j : Nat) = i) (hv : L[i]? = some (some (.int x))) (kk : zV X nL q L (.int x :: st) k n σ) : zV X nL pc L (st) k n σ := by
  obtain ⟨p, l, e, R, s, m, args, below, meth, c, D, cI, cZ, base, Z⟩ := X
  subst hq
  intro H locs ls hR hS hl
  exact lv_iload_n h.1 h.2.1 hd hi (hl.2.2 i _ hv) (kk H locs ls hR hS hl)
theorem v_iload {X : zX} {own : String} {cc : ByteArray} {nL dd mc ms pc q : Nat} {L : List (Option Value)} {st : List Value} {k n : Nat} {σ : zSt} {i : Nat} {x : Int32} (h : zC X own cc nL dd mc ms) (hd : decode cc pc = .ok (.iload i, 2)) (hq : q = pc + 2) (hv : L[i]? = some (some (.int x))) (kk : zV X nL q L (.int x :: st) k n σ) : zV X nL pc L (st) k n σ := by
  obtain ⟨p, l, e, R, s, m, args, below, meth, c, D, cI, cZ, base, Z⟩ := X
  subst hq
  intro H locs ls hR hS hl
  exact lv_iload h.1 h.2.1 hd (hl.2.2 i _ hv) (kk H locs ls hR hS hl)
theorem v_lload_n {X : zX} {own : String} {cc : ByteArray} {nL dd mc ms pc q : Nat} {L : List (Option Value)} {st : List Value} {k n : Nat} {σ : zSt} {j : Fin 4} {i : Nat} {x : Int64} (h : zC X own cc nL dd mc ms) (hd : decode cc pc = .ok (.lload_n j, 1)) (hq : q = pc + 1) (hi : (j : Nat) = i) (hv : L[i]? = some (some (.long x))) (kk : zV X nL q L (.long x :: st) k n σ) : zV X nL pc L (st) k n σ := by
  obtain ⟨p, l, e, R, s, m, args, below, meth, c, D, cI, cZ, base, Z⟩ := X
  subst hq
  intro H locs ls hR hS hl
  exact lv_lload_n h.1 h.2.1 hd hi (hl.2.2 i _ hv) (kk H locs ls hR hS hl)
theorem v_lload {X : zX} {own : String} {cc : ByteArray} {nL dd mc ms pc q : Nat} {L : List (Option Value)} {st : List Value} {k n : Nat} {σ : zSt} {i : Nat} {x : Int64} (h : zC X own cc nL dd mc ms) (hd : decode cc pc = .ok (.lload i, 2)) (hq : q = pc + 2) (hv : L[i]? = some (some (.long x))) (kk : zV X nL q L (.long x :: st) k n σ) : zV X nL pc L (st) k n σ := by
  obtain ⟨p, l, e, R, s, m, args, below, meth, c, D, cI, cZ, base, Z⟩ := X
  subst hq
  intro H locs ls hR hS hl
  exact lv_lload h.1 h.2.1 hd (hl.2.2 i _ hv) (kk H locs ls hR hS hl)
theorem v_aload_n {X : zX} {own : String} {cc : ByteArray} {nL dd mc ms pc q : Nat} {L : List (Option Value)} {st : List Value} {k n : Nat} {σ : zSt} {j : Fin 4} {i : Nat} {x : Nat} (h : zC X own cc nL dd mc ms) (hd : decode cc pc = .ok (.aload_n j, 1)) (hq : q = pc + 1) (hi : (j : Nat) = i) (hv : L[i]? = some (some (.ref x))) (kk : zV X nL q L (.ref x :: st) k n σ) : zV X nL pc L (st) k n σ := by
  obtain ⟨p, l, e, R, s, m, args, below, meth, c, D, cI, cZ, base, Z⟩ := X
  subst hq
  intro H locs ls hR hS hl
  exact lv_aload_n h.1 h.2.1 hd hi (hl.2.2 i _ hv) (kk H locs ls hR hS hl)
theorem v_aload {X : zX} {own : String} {cc : ByteArray} {nL dd mc ms pc q : Nat} {L : List (Option Value)} {st : List Value} {k n : Nat} {σ : zSt} {i : Nat} {x : Nat} (h : zC X own cc nL dd mc ms) (hd : decode cc pc = .ok (.aload i, 2)) (hq : q = pc + 2) (hv : L[i]? = some (some (.ref x))) (kk : zV X nL q L (.ref x :: st) k n σ) : zV X nL pc L (st) k n σ := by
  obtain ⟨p, l, e, R, s, m, args, below, meth, c, D, cI, cZ, base, Z⟩ := X
  subst hq
  intro H locs ls hR hS hl
  exact lv_aload h.1 h.2.1 hd (hl.2.2 i _ hv) (kk H locs ls hR hS hl)
theorem v_aloadS_n {X : zX} {own : String} {cc : ByteArray} {nL dd mc ms pc q : Nat} {L : List (Option Value)} {st : List Value} {k n : Nat} {σ : zSt} {j : Fin 4} {i : Nat} {x : Nat} (h : zC X own cc nL dd mc ms) (hd : decode cc pc = .ok (.aload_n j, 1)) (hq : q = pc + 1) (hi : (j : Nat) = i) (hv : L[i]? = some (some (.retAddr x))) (kk : zV X nL q L (.retAddr x :: st) k n σ) : zV X nL pc L (st) k n σ := by
  obtain ⟨p, l, e, R, s, m, args, below, meth, c, D, cI, cZ, base, Z⟩ := X
  subst hq
  intro H locs ls hR hS hl
  exact lv_aload_n h.1 h.2.1 hd hi (hl.2.2 i _ hv) (kk H locs ls hR hS hl)
theorem v_istore_n {X : zX} {own : String} {cc : ByteArray} {nL dd mc ms pc q : Nat} {L : List (Option Value)} {st : List Value} {k n : Nat} {σ : zSt} {L' : List (Option Value)} {j : Fin 4} {i : Nat} {x : Int32} (h : zC X own cc nL dd mc ms) (hd : decode cc pc = .ok (.istore_n j, 1)) (hq : q = pc + 1) (hi : (j : Nat) = i) (hn : i < nL) (hf : zfr L i = true) (hL : L' = L.set i (some (.int x))) (kk : zV X nL q L' (st) k n σ) : zV X nL pc L (.int x :: st) k n σ := by
  obtain ⟨p, l, e, R, s, m, args, below, meth, c, D, cI, cZ, base, Z⟩ := X
  subst hq
  intro H locs ls hR hS hl
  subst hL
  exact lv_istore_n h.1 h.2.1 hd hi hl.has hn rfl (fun ls' hl' => kk H locs ls' hR hS (zL.set1 hf hl'))
theorem v_istore {X : zX} {own : String} {cc : ByteArray} {nL dd mc ms pc q : Nat} {L : List (Option Value)} {st : List Value} {k n : Nat} {σ : zSt} {L' : List (Option Value)} {i : Nat} {x : Int32} (h : zC X own cc nL dd mc ms) (hd : decode cc pc = .ok (.istore i, 2)) (hq : q = pc + 2) (hn : i < nL) (hf : zfr L i = true) (hL : L' = L.set i (some (.int x))) (kk : zV X nL q L' (st) k n σ) : zV X nL pc L (.int x :: st) k n σ := by
  obtain ⟨p, l, e, R, s, m, args, below, meth, c, D, cI, cZ, base, Z⟩ := X
  subst hq
  intro H locs ls hR hS hl
  subst hL
  exact lv_istore h.1 h.2.1 hd hl.has hn rfl (fun ls' hl' => kk H locs ls' hR hS (zL.set1 hf hl'))
theorem v_astore_n {X : zX} {own : String} {cc : ByteArray} {nL dd mc ms pc q : Nat} {L : List (Option Value)} {st : List Value} {k n : Nat} {σ : zSt} {L' : List (Option Value)} {j : Fin 4} {i : Nat} {x : Nat} (h : zC X own cc nL dd mc ms) (hd : decode cc pc = .ok (.astore_n j, 1)) (hq : q = pc + 1) (hi : (j : Nat) = i) (hn : i < nL) (hf : zfr L i = true) (hL : L' = L.set i (some (.ref x))) (kk : zV X nL q L' (st) k n σ) : zV X nL pc L (.ref x :: st) k n σ := by
  obtain ⟨p, l, e, R, s, m, args, below, meth, c, D, cI, cZ, base, Z⟩ := X
  subst hq
  intro H locs ls hR hS hl
  subst hL
  exact lv_astore_n h.1 h.2.1 hd hi hl.has hn rfl (fun ls' hl' => kk H locs ls' hR hS (zL.set1 hf hl'))
theorem v_astore {X : zX} {own : String} {cc : ByteArray} {nL dd mc ms pc q : Nat} {L : List (Option Value)} {st : List Value} {k n : Nat} {σ : zSt} {L' : List (Option Value)} {i : Nat} {x : Nat} (h : zC X own cc nL dd mc ms) (hd : decode cc pc = .ok (.astore i, 2)) (hq : q = pc + 2) (hn : i < nL) (hf : zfr L i = true) (hL : L' = L.set i (some (.ref x))) (kk : zV X nL q L' (st) k n σ) : zV X nL pc L (.ref x :: st) k n σ := by
  obtain ⟨p, l, e, R, s, m, args, below, meth, c, D, cI, cZ, base, Z⟩ := X
  subst hq
  intro H locs ls hR hS hl
  subst hL
  exact lv_astore h.1 h.2.1 hd hl.has hn rfl (fun ls' hl' => kk H locs ls' hR hS (zL.set1 hf hl'))
theorem v_lstore_n {X : zX} {own : String} {cc : ByteArray} {nL dd mc ms pc q : Nat} {L : List (Option Value)} {st : List Value} {k n : Nat} {σ : zSt} {L' : List (Option Value)} {j : Fin 4} {i : Nat} {x : Int64} (h : zC X own cc nL dd mc ms) (hd : decode cc pc = .ok (.lstore_n j, 1)) (hq : q = pc + 1) (hi : (j : Nat) = i) (hn : i + 1 < nL) (hf : zfr L i = true) (hL : L' = (L.set i (some (.long x))).set (i + 1) none) (kk : zV X nL q L' (st) k n σ) : zV X nL pc L (.long x :: st) k n σ := by
  obtain ⟨p, l, e, R, s, m, args, below, meth, c, D, cI, cZ, base, Z⟩ := X
  subst hq
  intro H locs ls hR hS hl
  subst hL
  exact lv_lstore_n h.1 h.2.1 hd hi hl.has hn rfl (fun ls' hl' => kk H locs ls' hR hS (zL.set2 hf hl'))
theorem v_lstore {X : zX} {own : String} {cc : ByteArray} {nL dd mc ms pc q : Nat} {L : List (Option Value)} {st : List Value} {k n : Nat} {σ : zSt} {L' : List (Option Value)} {i : Nat} {x : Int64} (h : zC X own cc nL dd mc ms) (hd : decode cc pc = .ok (.lstore i, 2)) (hq : q = pc + 2) (hn : i + 1 < nL) (hf : zfr L i = true) (hL : L' = (L.set i (some (.long x))).set (i + 1) none) (kk : zV X nL q L' (st) k n σ) : zV X nL pc L (.long x :: st) k n σ := by
  obtain ⟨p, l, e, R, s, m, args, below, meth, c, D, cI, cZ, base, Z⟩ := X
  subst hq
  intro H locs ls hR hS hl
  subst hL
  exact lv_lstore h.1 h.2.1 hd hl.has hn rfl (fun ls' hl' => kk H locs ls' hR hS (zL.set2 hf hl'))
theorem v_iinc {X : zX} {own : String} {cc : ByteArray} {nL dd mc ms pc q : Nat} {L : List (Option Value)} {st : List Value} {k n : Nat} {σ : zSt} {L' : List (Option Value)} {i : Nat} {a : Int} {x v : Int32} (h : zC X own cc nL dd mc ms) (hd : decode cc pc = .ok (.iinc i a, 3)) (hq : q = pc + 3) (hx : L[i]? = some (some (.int x))) (hv : Int32.ofInt a = v) (hn : i < nL) (hf : zfr L i = true) (hL : L' = L.set i (some (.int (x + v)))) (kk : zV X nL q L' (st) k n σ) : zV X nL pc L (st) k n σ := by
  obtain ⟨p, l, e, R, s, m, args, below, meth, c, D, cI, cZ, base, Z⟩ := X
  subst hq
  intro H locs ls hR hS hl
  subst hL
  have hm := zas_mem (base := base) L 0 i _ hx
  rw [Nat.zero_add] at hm
  obtain ⟨w, hw⟩ := List.getElem?_of_mem hm
  exact lv_iinc h.1 h.2.1 hd hl.has hw rfl hn rfl (fun ls' hl' => kk H locs ls' hR hS (by subst hv; exact zL.set1 (v := .int _) hf hl'))
theorem v_iadd {X : zX} {own : String} {cc : ByteArray} {nL dd mc ms pc q : Nat} {L : List (Option Value)} {st : List Value} {k n : Nat} {σ : zSt} {x y : Int32} (h : zC X own cc nL dd mc ms) (hd : decode cc pc = .ok (.iadd, 1)) (hq : q = pc + 1) (kk : zV X nL q L (.int (x + y) :: st) k n σ) : zV X nL pc L (.int y :: .int x :: st) k n σ := by
  obtain ⟨p, l, e, R, s, m, args, below, meth, c, D, cI, cZ, base, Z⟩ := X
  subst hq
  intro H locs ls hR hS hl
  exact lv_iadd h.1 h.2.1 hd (kk H locs ls hR hS hl)
theorem v_isub {X : zX} {own : String} {cc : ByteArray} {nL dd mc ms pc q : Nat} {L : List (Option Value)} {st : List Value} {k n : Nat} {σ : zSt} {x y : Int32} (h : zC X own cc nL dd mc ms) (hd : decode cc pc = .ok (.isub, 1)) (hq : q = pc + 1) (kk : zV X nL q L (.int (x - y) :: st) k n σ) : zV X nL pc L (.int y :: .int x :: st) k n σ := by
  obtain ⟨p, l, e, R, s, m, args, below, meth, c, D, cI, cZ, base, Z⟩ := X
  subst hq
  intro H locs ls hR hS hl
  exact lv_isub h.1 h.2.1 hd (kk H locs ls hR hS hl)
theorem v_imul {X : zX} {own : String} {cc : ByteArray} {nL dd mc ms pc q : Nat} {L : List (Option Value)} {st : List Value} {k n : Nat} {σ : zSt} {x y : Int32} (h : zC X own cc nL dd mc ms) (hd : decode cc pc = .ok (.imul, 1)) (hq : q = pc + 1) (kk : zV X nL q L (.int (x * y) :: st) k n σ) : zV X nL pc L (.int y :: .int x :: st) k n σ := by
  obtain ⟨p, l, e, R, s, m, args, below, meth, c, D, cI, cZ, base, Z⟩ := X
  subst hq
  intro H locs ls hR hS hl
  exact lv_imul h.1 h.2.1 hd (kk H locs ls hR hS hl)
theorem v_iand {X : zX} {own : String} {cc : ByteArray} {nL dd mc ms pc q : Nat} {L : List (Option Value)} {st : List Value} {k n : Nat} {σ : zSt} {x y : Int32} (h : zC X own cc nL dd mc ms) (hd : decode cc pc = .ok (.iand, 1)) (hq : q = pc + 1) (kk : zV X nL q L (.int (x &&& y) :: st) k n σ) : zV X nL pc L (.int y :: .int x :: st) k n σ := by
  obtain ⟨p, l, e, R, s, m, args, below, meth, c, D, cI, cZ, base, Z⟩ := X
  subst hq
  intro H locs ls hR hS hl
  exact lv_iand h.1 h.2.1 hd (kk H locs ls hR hS hl)
theorem v_ior {X : zX} {own : String} {cc : ByteArray} {nL dd mc ms pc q : Nat} {L : List (Option Value)} {st : List Value} {k n : Nat} {σ : zSt} {x y : Int32} (h : zC X own cc nL dd mc ms) (hd : decode cc pc = .ok (.ior, 1)) (hq : q = pc + 1) (kk : zV X nL q L (.int (x ||| y) :: st) k n σ) : zV X nL pc L (.int y :: .int x :: st) k n σ := by
  obtain ⟨p, l, e, R, s, m, args, below, meth, c, D, cI, cZ, base, Z⟩ := X
  subst hq
  intro H locs ls hR hS hl
  exact lv_ior h.1 h.2.1 hd (kk H locs ls hR hS hl)
theorem v_ishl {X : zX} {own : String} {cc : ByteArray} {nL dd mc ms pc q : Nat} {L : List (Option Value)} {st : List Value} {k n : Nat} {σ : zSt} {x y : Int32} (h : zC X own cc nL dd mc ms) (hd : decode cc pc = .ok (.ishl, 1)) (hq : q = pc + 1) (kk : zV X nL q L (.int (x <<< (y &&& 31)) :: st) k n σ) : zV X nL pc L (.int y :: .int x :: st) k n σ := by
  obtain ⟨p, l, e, R, s, m, args, below, meth, c, D, cI, cZ, base, Z⟩ := X
  subst hq
  intro H locs ls hR hS hl
  exact lv_ishl h.1 h.2.1 hd (kk H locs ls hR hS hl)
theorem v_ishr {X : zX} {own : String} {cc : ByteArray} {nL dd mc ms pc q : Nat} {L : List (Option Value)} {st : List Value} {k n : Nat} {σ : zSt} {x y : Int32} (h : zC X own cc nL dd mc ms) (hd : decode cc pc = .ok (.ishr, 1)) (hq : q = pc + 1) (kk : zV X nL q L (.int (x >>> (y &&& 31)) :: st) k n σ) : zV X nL pc L (.int y :: .int x :: st) k n σ := by
  obtain ⟨p, l, e, R, s, m, args, below, meth, c, D, cI, cZ, base, Z⟩ := X
  subst hq
  intro H locs ls hR hS hl
  exact lv_ishr h.1 h.2.1 hd (kk H locs ls hR hS hl)
theorem v_ladd {X : zX} {own : String} {cc : ByteArray} {nL dd mc ms pc q : Nat} {L : List (Option Value)} {st : List Value} {k n : Nat} {σ : zSt} {x y : Int64} (h : zC X own cc nL dd mc ms) (hd : decode cc pc = .ok (.ladd, 1)) (hq : q = pc + 1) (kk : zV X nL q L (.long (x + y) :: st) k n σ) : zV X nL pc L (.long y :: .long x :: st) k n σ := by
  obtain ⟨p, l, e, R, s, m, args, below, meth, c, D, cI, cZ, base, Z⟩ := X
  subst hq
  intro H locs ls hR hS hl
  exact lv_ladd h.1 h.2.1 hd (kk H locs ls hR hS hl)
theorem v_lmul {X : zX} {own : String} {cc : ByteArray} {nL dd mc ms pc q : Nat} {L : List (Option Value)} {st : List Value} {k n : Nat} {σ : zSt} {x y : Int64} (h : zC X own cc nL dd mc ms) (hd : decode cc pc = .ok (.lmul, 1)) (hq : q = pc + 1) (kk : zV X nL q L (.long (x * y) :: st) k n σ) : zV X nL pc L (.long y :: .long x :: st) k n σ := by
  obtain ⟨p, l, e, R, s, m, args, below, meth, c, D, cI, cZ, base, Z⟩ := X
  subst hq
  intro H locs ls hR hS hl
  exact lv_lmul h.1 h.2.1 hd (kk H locs ls hR hS hl)
theorem v_land {X : zX} {own : String} {cc : ByteArray} {nL dd mc ms pc q : Nat} {L : List (Option Value)} {st : List Value} {k n : Nat} {σ : zSt} {x y : Int64} (h : zC X own cc nL dd mc ms) (hd : decode cc pc = .ok (.land, 1)) (hq : q = pc + 1) (kk : zV X nL q L (.long (x &&& y) :: st) k n σ) : zV X nL pc L (.long y :: .long x :: st) k n σ := by
  obtain ⟨p, l, e, R, s, m, args, below, meth, c, D, cI, cZ, base, Z⟩ := X
  subst hq
  intro H locs ls hR hS hl
  exact lv_land h.1 h.2.1 hd (kk H locs ls hR hS hl)
theorem v_idiv {X : zX} {own : String} {cc : ByteArray} {nL dd mc ms pc q : Nat} {L : List (Option Value)} {st : List Value} {k n : Nat} {σ : zSt} {x y : Int32} (h : zC X own cc nL dd mc ms) (hd : decode cc pc = .ok (.idiv, 1)) (hq : q = pc + 1) (hne : ¬ y = 0) (kk : zV X nL q L (.int (x / y) :: st) k n σ) : zV X nL pc L (.int y :: .int x :: st) k n σ := by
  obtain ⟨p, l, e, R, s, m, args, below, meth, c, D, cI, cZ, base, Z⟩ := X
  subst hq
  intro H locs ls hR hS hl
  exact lv_idiv h.1 h.2.1 hd hne (kk H locs ls hR hS hl)
theorem v_irem {X : zX} {own : String} {cc : ByteArray} {nL dd mc ms pc q : Nat} {L : List (Option Value)} {st : List Value} {k n : Nat} {σ : zSt} {x y : Int32} (h : zC X own cc nL dd mc ms) (hd : decode cc pc = .ok (.irem, 1)) (hq : q = pc + 1) (hne : ¬ y = 0) (kk : zV X nL q L (.int (x - x / y * y) :: st) k n σ) : zV X nL pc L (.int y :: .int x :: st) k n σ := by
  obtain ⟨p, l, e, R, s, m, args, below, meth, c, D, cI, cZ, base, Z⟩ := X
  subst hq
  intro H locs ls hR hS hl
  exact lv_irem h.1 h.2.1 hd hne (kk H locs ls hR hS hl)
theorem v_lcmp {X : zX} {own : String} {cc : ByteArray} {nL dd mc ms pc q : Nat} {L : List (Option Value)} {st : List Value} {k n : Nat} {σ : zSt} {x y : Int64} (h : zC X own cc nL dd mc ms) (hd : decode cc pc = .ok (.lcmp, 1)) (hq : q = pc + 1) (kk : zV X nL q L (.int (lg_cmp x y) :: st) k n σ) : zV X nL pc L (.long y :: .long x :: st) k n σ := by
  obtain ⟨p, l, e, R, s, m, args, below, meth, c, D, cI, cZ, base, Z⟩ := X
  subst hq
  intro H locs ls hR hS hl
  exact W.lcmp h.1 h.2.1 hd (kk H locs ls hR hS hl)
theorem v_i2l {X : zX} {own : String} {cc : ByteArray} {nL dd mc ms pc q : Nat} {L : List (Option Value)} {st : List Value} {k n : Nat} {σ : zSt} {x : Int32} (h : zC X own cc nL dd mc ms) (hd : decode cc pc = .ok (.i2l, 1)) (hq : q = pc + 1) (kk : zV X nL q L (.long x.toInt64 :: st) k n σ) : zV X nL pc L (.int x :: st) k n σ := by
  obtain ⟨p, l, e, R, s, m, args, below, meth, c, D, cI, cZ, base, Z⟩ := X
  subst hq
  intro H locs ls hR hS hl
  exact lv_i2l h.1 h.2.1 hd rfl (kk H locs ls hR hS hl)
theorem v_l2i {X : zX} {own : String} {cc : ByteArray} {nL dd mc ms pc q : Nat} {L : List (Option Value)} {st : List Value} {k n : Nat} {σ : zSt} {x : Int64} (h : zC X own cc nL dd mc ms) (hd : decode cc pc = .ok (.l2i, 1)) (hq : q = pc + 1) (kk : zV X nL q L (.int x.toInt32 :: st) k n σ) : zV X nL pc L (.long x :: st) k n σ := by
  obtain ⟨p, l, e, R, s, m, args, below, meth, c, D, cI, cZ, base, Z⟩ := X
  subst hq
  intro H locs ls hR hS hl
  exact lv_l2i h.1 h.2.1 hd rfl (kk H locs ls hR hS hl)
theorem v_dup {X : zX} {own : String} {cc : ByteArray} {nL dd mc ms pc q : Nat} {L : List (Option Value)} {st : List Value} {k n : Nat} {σ : zSt} {a : Value} (h : zC X own cc nL dd mc ms) (hd : decode cc pc = .ok (.dup, 1)) (hq : q = pc + 1) (ha : a.category = 1) (kk : zV X nL q L (a :: a :: st) k n σ) : zV X nL pc L (a :: st) k n σ := by
  obtain ⟨p, l, e, R, s, m, args, below, meth, c, D, cI, cZ, base, Z⟩ := X
  subst hq
  intro H locs ls hR hS hl
  exact lv_dup h.1 h.2.1 hd (by rw [zc_cat]; exact ha) (kk H locs ls hR hS hl)
theorem v_pop {X : zX} {own : String} {cc : ByteArray} {nL dd mc ms pc q : Nat} {L : List (Option Value)} {st : List Value} {k n : Nat} {σ : zSt} {a : Value} (h : zC X own cc nL dd mc ms) (hd : decode cc pc = .ok (.pop, 1)) (hq : q = pc + 1) (ha : a.category = 1) (kk : zV X nL q L (st) k n σ) : zV X nL pc L (a :: st) k n σ := by
  obtain ⟨p, l, e, R, s, m, args, below, meth, c, D, cI, cZ, base, Z⟩ := X
  subst hq
  intro H locs ls hR hS hl
  exact lv_pop h.1 h.2.1 hd (by rw [zc_cat]; exact ha) (kk H locs ls hR hS hl)
theorem v_dup2 {X : zX} {own : String} {cc : ByteArray} {nL dd mc ms pc q : Nat} {L : List (Option Value)} {st : List Value} {k n : Nat} {σ : zSt} {a b : Value} (h : zC X own cc nL dd mc ms) (hd : decode cc pc = .ok (.dup2, 1)) (hq : q = pc + 1) (ha : a.category = 1) (hb : b.category = 1) (kk : zV X nL q L (a :: b :: a :: b :: st) k n σ) : zV X nL pc L (a :: b :: st) k n σ := by
  obtain ⟨p, l, e, R, s, m, args, below, meth, c, D, cI, cZ, base, Z⟩ := X
  subst hq
  intro H locs ls hR hS hl
  exact lv_dup2_11 h.1 h.2.1 hd (by rw [zc_cat]; exact ha) (by rw [zc_cat]; exact hb) (kk H locs ls hR hS hl)
theorem v_if_eq {X : zX} {own : String} {cc : ByteArray} {nL dd mc ms pc q : Nat} {L : List (Option Value)} {st : List Value} {k n : Nat} {σ : zSt} {off : Int} {tgt : Nat} {x : Int32} (h : zC X own cc nL dd mc ms) (hd : decode cc pc = .ok (.ifCond .eq off, 3)) (hq : q = pc + 3) (ht : (pc : Int) + off = (tgt : Int)) (kt : x = 0 → zV X nL tgt L st k n σ) (kf : ¬ x = 0 → zV X nL q L st k n σ) : zV X nL pc L (.int x :: st) k n σ := by
  obtain ⟨p, l, e, R, s, m, args, below, meth, c, D, cI, cZ, base, Z⟩ := X
  subst hq
  intro H locs ls hR hS hl
  exact lv_if_eq h.1 h.2.1 hd ht (fun z => kt z H locs ls hR hS hl) (fun z => kf z H locs ls hR hS hl)
theorem v_icmp_eq {X : zX} {own : String} {cc : ByteArray} {nL dd mc ms pc q : Nat} {L : List (Option Value)} {st : List Value} {k n : Nat} {σ : zSt} {off : Int} {tgt : Nat} {x y : Int32} (h : zC X own cc nL dd mc ms) (hd : decode cc pc = .ok (.if_icmp .eq off, 3)) (hq : q = pc + 3) (ht : (pc : Int) + off = (tgt : Int)) (kt : x = y → zV X nL tgt L st k n σ) (kf : ¬ x = y → zV X nL q L st k n σ) : zV X nL pc L (.int y :: .int x :: st) k n σ := by
  obtain ⟨p, l, e, R, s, m, args, below, meth, c, D, cI, cZ, base, Z⟩ := X
  subst hq
  intro H locs ls hR hS hl
  exact lv_icmp_eq h.1 h.2.1 hd ht (fun z => kt z H locs ls hR hS hl) (fun z => kf z H locs ls hR hS hl)
theorem v_if_ne {X : zX} {own : String} {cc : ByteArray} {nL dd mc ms pc q : Nat} {L : List (Option Value)} {st : List Value} {k n : Nat} {σ : zSt} {off : Int} {tgt : Nat} {x : Int32} (h : zC X own cc nL dd mc ms) (hd : decode cc pc = .ok (.ifCond .ne off, 3)) (hq : q = pc + 3) (ht : (pc : Int) + off = (tgt : Int)) (kt : ¬ x = 0 → zV X nL tgt L st k n σ) (kf : x = 0 → zV X nL q L st k n σ) : zV X nL pc L (.int x :: st) k n σ := by
  obtain ⟨p, l, e, R, s, m, args, below, meth, c, D, cI, cZ, base, Z⟩ := X
  subst hq
  intro H locs ls hR hS hl
  exact lv_if_ne h.1 h.2.1 hd ht (fun z => kt z H locs ls hR hS hl) (fun z => kf z H locs ls hR hS hl)
theorem v_icmp_ne {X : zX} {own : String} {cc : ByteArray} {nL dd mc ms pc q : Nat} {L : List (Option Value)} {st : List Value} {k n : Nat} {σ : zSt} {off : Int} {tgt : Nat} {x y : Int32} (h : zC X own cc nL dd mc ms) (hd : decode cc pc = .ok (.if_icmp .ne off, 3)) (hq : q = pc + 3) (ht : (pc : Int) + off = (tgt : Int)) (kt : ¬ x = y → zV X nL tgt L st k n σ) (kf : x = y → zV X nL q L st k n σ) : zV X nL pc L (.int y :: .int x :: st) k n σ := by
  obtain ⟨p, l, e, R, s, m, args, below, meth, c, D, cI, cZ, base, Z⟩ := X
  subst hq
  intro H locs ls hR hS hl
  exact lv_icmp_ne h.1 h.2.1 hd ht (fun z => kt z H locs ls hR hS hl) (fun z => kf z H locs ls hR hS hl)
theorem v_if_lt {X : zX} {own : String} {cc : ByteArray} {nL dd mc ms pc q : Nat} {L : List (Option Value)} {st : List Value} {k n : Nat} {σ : zSt} {off : Int} {tgt : Nat} {x : Int32} (h : zC X own cc nL dd mc ms) (hd : decode cc pc = .ok (.ifCond .lt off, 3)) (hq : q = pc + 3) (ht : (pc : Int) + off = (tgt : Int)) (kt : x < 0 → zV X nL tgt L st k n σ) (kf : ¬ x < 0 → zV X nL q L st k n σ) : zV X nL pc L (.int x :: st) k n σ := by
  obtain ⟨p, l, e, R, s, m, args, below, meth, c, D, cI, cZ, base, Z⟩ := X
  subst hq
  intro H locs ls hR hS hl
  exact lv_if_lt h.1 h.2.1 hd ht (fun z => kt z H locs ls hR hS hl) (fun z => kf z H locs ls hR hS hl)
theorem v_icmp_lt {X : zX} {own : String} {cc : ByteArray} {nL dd mc ms pc q : Nat} {L : List (Option Value)} {st : List Value} {k n : Nat} {σ : zSt} {off : Int} {tgt : Nat} {x y : Int32} (h : zC X own cc nL dd mc ms) (hd : decode cc pc = .ok (.if_icmp .lt off, 3)) (hq : q = pc + 3) (ht : (pc : Int) + off = (tgt : Int)) (kt : x < y → zV X nL tgt L st k n σ) (kf : ¬ x < y → zV X nL q L st k n σ) : zV X nL pc L (.int y :: .int x :: st) k n σ := by
  obtain ⟨p, l, e, R, s, m, args, below, meth, c, D, cI, cZ, base, Z⟩ := X
  subst hq
  intro H locs ls hR hS hl
  exact lv_icmp_lt h.1 h.2.1 hd ht (fun z => kt z H locs ls hR hS hl) (fun z => kf z H locs ls hR hS hl)
theorem v_if_ge {X : zX} {own : String} {cc : ByteArray} {nL dd mc ms pc q : Nat} {L : List (Option Value)} {st : List Value} {k n : Nat} {σ : zSt} {off : Int} {tgt : Nat} {x : Int32} (h : zC X own cc nL dd mc ms) (hd : decode cc pc = .ok (.ifCond .ge off, 3)) (hq : q = pc + 3) (ht : (pc : Int) + off = (tgt : Int)) (kt : 0 ≤ x → zV X nL tgt L st k n σ) (kf : ¬ 0 ≤ x → zV X nL q L st k n σ) : zV X nL pc L (.int x :: st) k n σ := by
  obtain ⟨p, l, e, R, s, m, args, below, meth, c, D, cI, cZ, base, Z⟩ := X
  subst hq
  intro H locs ls hR hS hl
  exact lv_if_ge h.1 h.2.1 hd ht (fun z => kt z H locs ls hR hS hl) (fun z => kf z H locs ls hR hS hl)
theorem v_icmp_ge {X : zX} {own : String} {cc : ByteArray} {nL dd mc ms pc q : Nat} {L : List (Option Value)} {st : List Value} {k n : Nat} {σ : zSt} {off : Int} {tgt : Nat} {x y : Int32} (h : zC X own cc nL dd mc ms) (hd : decode cc pc = .ok (.if_icmp .ge off, 3)) (hq : q = pc + 3) (ht : (pc : Int) + off = (tgt : Int)) (kt : y ≤ x → zV X nL tgt L st k n σ) (kf : ¬ y ≤ x → zV X nL q L st k n σ) : zV X nL pc L (.int y :: .int x :: st) k n σ := by
  obtain ⟨p, l, e, R, s, m, args, below, meth, c, D, cI, cZ, base, Z⟩ := X
  subst hq
  intro H locs ls hR hS hl
  exact lv_icmp_ge h.1 h.2.1 hd ht (fun z => kt z H locs ls hR hS hl) (fun z => kf z H locs ls hR hS hl)
theorem v_if_gt {X : zX} {own : String} {cc : ByteArray} {nL dd mc ms pc q : Nat} {L : List (Option Value)} {st : List Value} {k n : Nat} {σ : zSt} {off : Int} {tgt : Nat} {x : Int32} (h : zC X own cc nL dd mc ms) (hd : decode cc pc = .ok (.ifCond .gt off, 3)) (hq : q = pc + 3) (ht : (pc : Int) + off = (tgt : Int)) (kt : 0 < x → zV X nL tgt L st k n σ) (kf : ¬ 0 < x → zV X nL q L st k n σ) : zV X nL pc L (.int x :: st) k n σ := by
  obtain ⟨p, l, e, R, s, m, args, below, meth, c, D, cI, cZ, base, Z⟩ := X
  subst hq
  intro H locs ls hR hS hl
  exact lv_if_gt h.1 h.2.1 hd ht (fun z => kt z H locs ls hR hS hl) (fun z => kf z H locs ls hR hS hl)
theorem v_icmp_gt {X : zX} {own : String} {cc : ByteArray} {nL dd mc ms pc q : Nat} {L : List (Option Value)} {st : List Value} {k n : Nat} {σ : zSt} {off : Int} {tgt : Nat} {x y : Int32} (h : zC X own cc nL dd mc ms) (hd : decode cc pc = .ok (.if_icmp .gt off, 3)) (hq : q = pc + 3) (ht : (pc : Int) + off = (tgt : Int)) (kt : y < x → zV X nL tgt L st k n σ) (kf : ¬ y < x → zV X nL q L st k n σ) : zV X nL pc L (.int y :: .int x :: st) k n σ := by
  obtain ⟨p, l, e, R, s, m, args, below, meth, c, D, cI, cZ, base, Z⟩ := X
  subst hq
  intro H locs ls hR hS hl
  exact lv_icmp_gt h.1 h.2.1 hd ht (fun z => kt z H locs ls hR hS hl) (fun z => kf z H locs ls hR hS hl)
theorem v_if_le {X : zX} {own : String} {cc : ByteArray} {nL dd mc ms pc q : Nat} {L : List (Option Value)} {st : List Value} {k n : Nat} {σ : zSt} {off : Int} {tgt : Nat} {x : Int32} (h : zC X own cc nL dd mc ms) (hd : decode cc pc = .ok (.ifCond .le off, 3)) (hq : q = pc + 3) (ht : (pc : Int) + off = (tgt : Int)) (kt : x ≤ 0 → zV X nL tgt L st k n σ) (kf : ¬ x ≤ 0 → zV X nL q L st k n σ) : zV X nL pc L (.int x :: st) k n σ := by
  obtain ⟨p, l, e, R, s, m, args, below, meth, c, D, cI, cZ, base, Z⟩ := X
  subst hq
  intro H locs ls hR hS hl
  exact lv_if_le h.1 h.2.1 hd ht (fun z => kt z H locs ls hR hS hl) (fun z => kf z H locs ls hR hS hl)
theorem v_icmp_le {X : zX} {own : String} {cc : ByteArray} {nL dd mc ms pc q : Nat} {L : List (Option Value)} {st : List Value} {k n : Nat} {σ : zSt} {off : Int} {tgt : Nat} {x y : Int32} (h : zC X own cc nL dd mc ms) (hd : decode cc pc = .ok (.if_icmp .le off, 3)) (hq : q = pc + 3) (ht : (pc : Int) + off = (tgt : Int)) (kt : x ≤ y → zV X nL tgt L st k n σ) (kf : ¬ x ≤ y → zV X nL q L st k n σ) : zV X nL pc L (.int y :: .int x :: st) k n σ := by
  obtain ⟨p, l, e, R, s, m, args, below, meth, c, D, cI, cZ, base, Z⟩ := X
  subst hq
  intro H locs ls hR hS hl
  exact lv_icmp_le h.1 h.2.1 hd ht (fun z => kt z H locs ls hR hS hl) (fun z => kf z H locs ls hR hS hl)
theorem v_goto {X : zX} {own : String} {cc : ByteArray} {nL dd mc ms pc q : Nat} {L : List (Option Value)} {st : List Value} {k n : Nat} {σ : zSt} {off : Int} (h : zC X own cc nL dd mc ms) (hd : decode cc pc = .ok (.goto off, 3)) (ht : (pc : Int) + off = (q : Int)) (kk : zV X nL q L st k n σ) : zV X nL pc L st k n σ := by
  obtain ⟨p, l, e, R, s, m, args, below, meth, c, D, cI, cZ, base, Z⟩ := X
  intro H locs ls hR hS hl
  exact lv_goto h.1 h.2.1 hd ht (kk H locs ls hR hS hl)
theorem v_tableIn {X : zX} {own : String} {cc : ByteArray} {nL dd mc ms pc q : Nat} {L : List (Option Value)} {st : List Value} {k n : Nat} {σ : zSt} {dflt lo hi : Int} {offs : Array Int} {len : Nat} {x : Int32} {off : Int} (h : zC X own cc nL dd mc ms) (hd : decode cc pc = .ok (.tableswitch dflt lo hi offs, len)) (h1 : ¬ x.toInt < lo) (h2 : ¬ hi < x.toInt) (ho : offs[(x.toInt - lo).toNat]? = some off) (ht : (pc : Int) + off = (q : Int)) (kk : zV X nL q L st k n σ) : zV X nL pc L (.int x :: st) k n σ := by
  obtain ⟨p, l, e, R, s, m, args, below, meth, c, D, cI, cZ, base, Z⟩ := X
  intro H locs ls hR hS hl
  exact lv_tableIn h.1 h.2.1 hd h1 h2 ho ht (kk H locs ls hR hS hl)
theorem v_tableOut {X : zX} {own : String} {cc : ByteArray} {nL dd mc ms pc q : Nat} {L : List (Option Value)} {st : List Value} {k n : Nat} {σ : zSt} {dflt lo hi : Int} {offs : Array Int} {len : Nat} {x : Int32} (h : zC X own cc nL dd mc ms) (hd : decode cc pc = .ok (.tableswitch dflt lo hi offs, len)) (h1 : x.toInt < lo ∨ hi < x.toInt) (ht : (pc : Int) + dflt = (q : Int)) (kk : zV X nL q L st k n σ) : zV X nL pc L (.int x :: st) k n σ := by
  obtain ⟨p, l, e, R, s, m, args, below, meth, c, D, cI, cZ, base, Z⟩ := X
  intro H locs ls hR hS hl
  exact lv_tableOut h.1 h.2.1 hd h1 ht (kk H locs ls hR hS hl)
theorem v_ireturn {X : zX} {own : String} {cc : ByteArray} {nL dd mc ms pc : Nat} {L : List (Option Value)} {k n : Nat} {σ σ0 : zSt} {nm : String} {Q : Option Value → zSt → Prop} {x : Int32} (h : zC X own cc nL dd mc ms) (hB : zB X (some .int) mc ms nm σ0 Q) (hd : decode cc pc = .ok (.ireturn, 1)) (hk : k ≤ mc ∧ n ≤ ms) (hQ : Q (some (.int x)) σ) : zV X nL pc L [.int x] k n σ := by
  obtain ⟨p, l, e, R, s, m, args, below, meth, c, D, cI, cZ, base, Z⟩ := X
  obtain ⟨b1, b2, b3, b4, b5⟩ := hB
  subst b4
  intro H locs ls hR hS hl
  refine W.widen hk.1 hk.2 ?_
  exact W.iret (v := x) h.1 h.2.1 b1 (fun t ht hW => ⟨some (.int x), σ, rfl, hQ, by rw [ht]; exact hR, hS.F ht⟩) hS.2.2 hd b2
theorem v_zreturn {X : zX} {own : String} {cc : ByteArray} {nL dd mc ms pc : Nat} {L : List (Option Value)} {k n : Nat} {σ σ0 : zSt} {nm : String} {Q : Option Value → zSt → Prop} {x : Int32} (h : zC X own cc nL dd mc ms) (hB : zB X (some .boolean) mc ms nm σ0 Q) (hd : decode cc pc = .ok (.ireturn, 1)) (hk : k ≤ mc ∧ n ≤ ms) (hx : x = 0 ∨ x = 1) (hQ : Q (some (.int x)) σ) : zV X nL pc L [.int x] k n σ := by
  obtain ⟨p, l, e, R, s, m, args, below, meth, c, D, cI, cZ, base, Z⟩ := X
  obtain ⟨b1, b2, b3, b4, b5⟩ := hB
  subst b4
  intro H locs ls hR hS hl
  refine W.widen hk.1 hk.2 ?_
  exact W.zret (v := x) h.1 h.2.1 b1 (by rcases hx with rfl | rfl <;> rfl) (fun t ht hW => ⟨some (.int x), σ, rfl, hQ, by rw [ht]; exact hR, hS.F ht⟩) hS.2.2 hd b2
theorem v_lreturn {X : zX} {own : String} {cc : ByteArray} {nL dd mc ms pc : Nat} {L : List (Option Value)} {k n : Nat} {σ σ0 : zSt} {nm : String} {Q : Option Value → zSt → Prop} {x : Int64} (h : zC X own cc nL dd mc ms) (hB : zB X (some .long) mc ms nm σ0 Q) (hd : decode cc pc = .ok (.lreturn, 1)) (hk : k ≤ mc ∧ n ≤ ms) (hQ : Q (some (.long x)) σ) : zV X nL pc L [.long x] k n σ := by
  obtain ⟨p, l, e, R, s, m, args, below, meth, c, D, cI, cZ, base, Z⟩ := X
  obtain ⟨b1, b2, b3, b4, b5⟩ := hB
  subst b4
  intro H locs ls hR hS hl
  refine W.widen hk.1 hk.2 ?_
  exact W.lret (v := x) h.1 h.2.1 b1 (fun t ht hW => ⟨some (.long x), σ, rfl, hQ, by rw [ht]; exact hR, hS.F ht⟩) hS.2.2 hd b2
theorem v_return {X : zX} {own : String} {cc : ByteArray} {nL dd mc ms pc : Nat} {L : List (Option Value)} {k n : Nat} {σ σ0 : zSt} {nm : String} {Q : Option Value → zSt → Prop} (h : zC X own cc nL dd mc ms) (hB : zB X none mc ms nm σ0 Q) (hd : decode cc pc = .ok (.return_, 1)) (hk : k ≤ mc ∧ n ≤ ms) (hQ : Q none σ) : zV X nL pc L [] k n σ := by
  obtain ⟨p, l, e, R, s, m, args, below, meth, c, D, cI, cZ, base, Z⟩ := X
  obtain ⟨b1, b2, b3, b4, b5⟩ := hB
  subst b4
  intro H locs ls hR hS hl
  refine W.widen hk.1 hk.2 ?_
  exact W.vret h.1 h.2.1 b1 (fun t ht hW => ⟨none, σ, rfl, hQ, by rw [ht]; exact hR, hS.F ht⟩) hS.2.2 hd b2
theorem v_areturn {X : zX} {own : String} {cc : ByteArray} {nL dd mc ms pc : Nat} {L : List (Option Value)} {k n : Nat} {σ σ0 : zSt} {nm : String} {Q : Option Value → zSt → Prop} {x : Nat} {C : String} (h : zC X own cc nL dd mc ms) (hB : zB X (some (.object C)) mc ms nm σ0 Q) (hd : decode cc pc = .ok (.areturn, 1)) (hk : k ≤ mc ∧ n ≤ ms) (hQ : Q (some (.ref x)) σ) : zV X nL pc L [.ref x] k n σ := by
  obtain ⟨p, l, e, R, s, m, args, below, meth, c, D, cI, cZ, base, Z⟩ := X
  obtain ⟨b1, b2, b3, b4, b5⟩ := hB
  subst b4
  intro H locs ls hR hS hl
  refine W.widen hk.1 hk.2 ?_
  exact W.aret (v := .ref (base + x)) h.1 h.2.1 b1 (Or.inl ⟨_, rfl⟩) (Or.inr ⟨_, rfl⟩) (fun t ht hW => ⟨some (.ref x), σ, rfl, hQ, by rw [ht]; exact hR, hS.F ht⟩) hS.2.2 hd b2
