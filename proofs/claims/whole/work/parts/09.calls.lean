/-! ===== rules: calls ===== -/
/-- a method that the tables know, of n parameters -/
def zmi (M : zM) (a : Nat) : Prop := Cond.code M.1 M.2.1 M.2.2.1 M.2.2.2.1 ∈ ztb ∧ Cond.initialized M.1.cls ∈ ztb ∧ (M.1.cls ≠ "java/lang/invoke/MethodHandle" ∧ M.1.cls ≠ "java/lang/invoke/VarHandle" ∧ (parseMethodDescriptor M.1.desc).map (fun d => d.parameters.length) = some a) ∧ M.2.2.1 ≤ 19
theorem zgood {M : zM} {a : Nat} (hm : zmi M a) : GoodIn ztb (zws M) := by
  intro w hw
  rcases List.mem_cons.mp hw with rfl | h
  · exact ⟨hm.1, good_of_word (ztb_good hm.1)⟩
  · exact ⟨h, good_of_word (ztb_good h)⟩
section zCalls
variable {X : zX} {own : String} {cc : ByteArray} {nL dd mc ms pc q : Nat} {L : List (Option Value)} {st rest As : List Value} {k n : Nat} {σ : zSt} {idx ci c d a : Nat} {M : zM} {Q : Option Value → zSt → Prop}
theorem zcat (base : Nat) (st : List Value) : ((st.map (zc base)).map fun v => v.category).sum = (st.map fun v => v.category).sum := by
  rw [List.map_map]; congr 1; apply List.map_congr_left; intro x _; exact zc_cat base x
theorem zcall {p : Program} {l : Launch} {e : Env} {R : Room} {s : State} {m : MethodId} {args : Array Value} {below : List Frame} {meth : Method} {c0 : Code} {H : Heap} {locs : List Loc} {D : va_G} {cI cZ : ClassId} {base : Nat} {Z : State → Prop} {ls : Array Slot} {av : Array Value} {st0 : List Value} {mc' ms' : Nat}
    (hr : va_Run p l e R s m args below meth c0 H locs k n mc' ms' (F0 m pc ls st0) (rest.map (zc base)) (zQc D cI cZ base Q av) (fun q => base ≤ q)) (hS : va_S (fun q => base ≤ q) s.heap H locs)
    (kk : ∀ (r : Option Value) (σ' : zSt) (H1 : Heap) (locs1 : List Loc), Q r σ' → zRl D cI cZ base σ' H1 → va_S (fun q => base ≤ q) s.heap H1 locs1 → W p l e R s m args below meth c0 H1 locs1 (k + mc') (n + ms') Z (F0 m (pc + 3) ls ((r.toList ++ rest).map (zc base)))) : W p l e R s m args below meth c0 H locs k n Z (F0 m pc ls st0) := by
  intro T hT X
  obtain ⟨v, st₀, t, T', Lc, h0, X', hL, e1, e2, ⟨r, σ', hv, hq, hRl, hz, hk⟩, stp⟩ := hr T hT X
  cases hv
  rw [h0] at hz hk
  have hg : (F0 m (pc + 3) ls ((r.toList ++ rest).map (zc base))) = { F0 m pc ls st0 with pc := pc + 3, stack := (r.map (zc base)).toList ++ rest.map (zc base) } := by
    cases r <;> rfl
  have := kk r σ' T'.heap (locs ++ Lc) hq (by rw [e1]; exact hRl) ⟨Nat.le_trans hS.1 (by rw [e1]; exact hz), fun q h1 h2 => by rw [e1, hk q (Nat.lt_of_lt_of_le h1 hS.1) h2]; exact hS.2.1 q h1 h2, fun q hq => by
      rcases List.mem_append.mp hq with h | h
      · exact hS.2.2 q h
      · exact hL q h⟩
  rw [hg] at this
  obtain ⟨t2, a1, b1⟩ := this T' rfl X'
  exact ⟨t2, stp t2 a1, b1⟩
theorem zblind {av : List Value} {D : va_G} {cI cZ : ClassId} {base : Nat} : FrameBlind (zPc av σ D cI cZ base) := fun a U g mk z => ⟨z.1, z.2.1, va_K.moved (u := U) (U := U.calling g mk a) (Vm.Alike.refl U.vm) z.2.2.1, z.2.2.2.same rfl⟩
/-- invokevirtual -/
theorem v_callV (h : zC X own cc nL dd mc ms) (hd : decode cc pc = .ok (.invokevirtual idx, 3)) (hq : q = pc + 3) (hl : Cond.methodLink own idx M.1 ∈ ztb) (hm : zmi M a) (hi : Cond.instanceMethod M.1 ∈ ztb) (hsel : Cond.selects M.1.cls M.1 M.1 ∈ ztb) (hci : (zcl[ci]?).map (fun z => z.1) = some M.1.cls) (hs : σ.1[c]? = some (0, ci)) (hc : zCt d M (.ref c :: As) σ Q) (hst : st = As.reverse ++ .ref c :: rest) (ha : As.length = a) (hdd : d + 1 ≤ dd) (hk : k + M.2.2.2.2.1 ≤ mc ∧ n + M.2.2.2.2.2 ≤ ms) (hcat : (rest.map fun v => v.category).sum ≤ 8)
    (kk : ∀ (r : Option Value) (σ' : zSt), Q r σ' → zV X nL q L (r.toList ++ rest) (k + M.2.2.2.2.1) (n + M.2.2.2.2.2) σ') : zV X nL pc L st k n σ := by
  obtain ⟨p, l, e, R, s, m, args, below, meth, c0, D, cI, cZ, base, Z⟩ := X
  subst hq
  intro H locs ls hR hS hls
  obtain ⟨hx, hb, hml, hown, hts, hK, hbs, hdf, hdl, hc1, hc2, hns⟩ := h
  obtain ⟨zc1, ho1, ho2⟩ := Option.map_eq_some_iff.mp hci
  have hr := va_runV (l := l) (e := e) (below := below) (meth := meth) (locs := locs) (cells := k) (slots := n) (b := base + c) (As := As.map (zc base)) (rest := rest.map (zc base)) (g := F0 m pc ls (st.map (zc base))) (n := a) ⟨hx, hb, hml, hown, hts⟩ (hc l D cI cZ base)
    (⟨callB_of (R := R) (own := own) (index := idx) a hts (zgood hm) rfl rfl rfl (hts _ hm.2.1) (hts _ hl) hm.2.2.1 ⟨by show d + 1 ≤ _; omega, by show 8 + (M.2.2.1 + 11) + 38 * d ≤ _; have := hm.2.2.2; omega⟩, hts _ hi, hts _ hsel⟩ : CallW R s args own M.1.cls idx M.1 M.2.1 M.2.2.1 M.2.2.2.1 (zws M) (zrm d M) _ _ a)
    ⟨zblind, by rw [← ho2]; exact va_recv hK hR.2 ho1 (zW_of hs), fun U hU hW => ⟨rfl, by rw [hU]; exact hR, va_K.moved hW.alike hK, hns.warm hW⟩⟩ rfl (by rw [List.length_map]; exact ha) hls.1 (by rw [hst, List.map_append, List.map_reverse]; rfl) (lv_room (by rw [zcat]; exact hcat)) hd ⟨by omega, by omega⟩
  exact zcall hr hS (fun r σ' H1 locs1 hq hR1 hS1 => kk r σ' hq H1 locs1 ls hR1 hS1 hls)
/-- invokestatic within the class -/
theorem v_callS (h : zC X own cc nL dd mc ms) (hd : decode cc pc = .ok (.invokestatic idx, 3)) (hq : q = pc + 3) (hl : Cond.methodLink own idx M.1 ∈ ztb) (hm : zmi M a) (hi : Cond.static M.1 ∈ ztb) (hc : zCt d M As σ Q) (hst : st = As.reverse ++ rest) (ha : As.length = a) (hdd : d + 1 ≤ dd) (hk : k + M.2.2.2.2.1 ≤ mc ∧ n + M.2.2.2.2.2 ≤ ms) (hcat : (rest.map fun v => v.category).sum ≤ 8)
    (kk : ∀ (r : Option Value) (σ' : zSt), Q r σ' → zV X nL q L (r.toList ++ rest) (k + M.2.2.2.2.1) (n + M.2.2.2.2.2) σ') : zV X nL pc L st k n σ := by
  obtain ⟨p, l, e, R, s, m, args, below, meth, c0, D, cI, cZ, base, Z⟩ := X
  subst hq
  intro H locs ls hR hS hls
  obtain ⟨hx, hb, hml, hown, hts, hK, hbs, hdf, hdl, hc1, hc2, hns⟩ := h
  have hr := va_runS (l := l) (e := e) (below := below) (meth := meth) (H := H) (locs := locs) (cells := k) (slots := n) (As := As.map (zc base)) (rest := rest.map (zc base)) (g := F0 m pc ls (st.map (zc base))) (n := a) ⟨hx, hb, hml, hown, hts⟩ (hc l D cI cZ base)
    (⟨callB_of (R := R) (own := own) (index := idx) a hts (zgood hm) rfl rfl rfl (hts _ hm.2.1) (hts _ hl) hm.2.2.1 ⟨by show d + 1 ≤ _; omega, by show 8 + (M.2.2.1 + 11) + 38 * d ≤ _; have := hm.2.2.2; omega⟩, hts _ hi⟩ : CallB R s args own idx M.1 M.2.1 M.2.2.1 M.2.2.2.1 (zws M) (zrm d M) _ _ a ∧ _)
    ⟨zblind, fun U hU hW => ⟨rfl, by rw [hU]; exact hR, va_K.moved hW.alike hK, hns.warm hW⟩⟩ rfl (by rw [List.length_map]; exact ha) hls.1 (by rw [hst, List.map_append, List.map_reverse]) (lv_room (by rw [zcat]; exact hcat)) hd ⟨by omega, by omega⟩
  exact zcall hr hS (fun r σ' H1 locs1 hq hR1 hS1 => kk r σ' hq H1 locs1 ls hR1 hS1 hls)
/-- invokestatic of a nest mate's method -/
theorem v_callSN {host : String} (h : zC X own cc nL dd mc ms) (hd : decode cc pc = .ok (.invokestatic idx, 3)) (hq : q = pc + 3) (hl : (own, idx, M.1, host) ∈ znl) (hm : zmi M a) (hi : Cond.static M.1 ∈ ztb) (hc : zCt d M As σ Q) (hst : st = As.reverse ++ rest) (ha : As.length = a) (hdd : d + 1 ≤ dd) (hk : k + M.2.2.2.2.1 ≤ mc ∧ n + M.2.2.2.2.2 ≤ ms) (hcat : (rest.map fun v => v.category).sum ≤ 8)
    (kk : ∀ (r : Option Value) (σ' : zSt), Q r σ' → zV X nL q L (r.toList ++ rest) (k + M.2.2.2.2.1) (n + M.2.2.2.2.2) σ') : zV X nL pc L st k n σ := by
  obtain ⟨p, l, e, R, s, m, args, below, meth, c0, D, cI, cZ, base, Z⟩ := X
  subst hq
  intro H locs ls hR hS hls
  obtain ⟨hx, hb, hml, hown, hts, hK, hbs, hdf, hdl, hc1, hc2, hns⟩ := h
  have hr := va_runSN (l := l) (e := e) (below := below) (meth := meth) (H := H) (locs := locs) (cells := k) (slots := n) (As := As.map (zc base)) (rest := rest.map (zc base)) (g := F0 m pc ls (st.map (zc base))) (n := a) ⟨hx, hb, hml, hown, hts⟩ (hc l D cI cZ base)
    (⟨va_cnB (R := R) (own := own) (index := idx) (host := host) a hts (zgood hm) rfl rfl rfl (hns _ hl) (hts _ hm.2.1) hm.2.2.1 ⟨by show d + 1 ≤ _; omega, by show 8 + (M.2.2.1 + 11) + 38 * d ≤ _; have := hm.2.2.2; omega⟩, hts _ hi, trivial⟩ : va_CN R s args own idx M.1 host M.2.1 M.2.2.1 M.2.2.2.1 (zws M) (zrm d M) _ _ a ∧ _ ∧ _)
    ⟨zblind, fun U hU hW => ⟨rfl, by rw [hU]; exact hR, va_K.moved hW.alike hK, hns.warm hW⟩⟩ rfl (by rw [List.length_map]; exact ha) hls.1 (by rw [hst, List.map_append, List.map_reverse]) (lv_room (by rw [zcat]; exact hcat)) hd ⟨by omega, by omega⟩
  exact zcall hr hS (fun r σ' H1 locs1 hq hR1 hS1 => kk r σ' hq H1 locs1 ls hR1 hS1 hls)
/-- invokespecial of a constructor -/
theorem v_callI {y : MethodName} {bytes : ByteArray} {maxL mc' ms' : Nat} (h : zC X own cc nL dd mc ms) (hd : decode cc pc = .ok (.invokespecial idx, 3)) (hq : q = pc + 3) (hl : Cond.methodLink own idx y ∈ ztb) (hm : zmi (y, bytes, maxL, none, mc', ms') a) (hi : Cond.instanceMethod y ∈ ztb) (hy : y.name = "<init>") (hc : zCt d (y, bytes, maxL, none, mc', ms') (.ref c :: As) σ Q) (hst : st = As.reverse ++ .ref c :: rest) (ha : As.length = a) (hdd : d + 1 ≤ dd) (hk : k + mc' ≤ mc ∧ n + ms' ≤ ms) (hcat : (rest.map fun v => v.category).sum ≤ 8)
    (kk : ∀ (r : Option Value) (σ' : zSt), Q r σ' → zV X nL q L (r.toList ++ rest) (k + mc') (n + ms') σ') : zV X nL pc L st k n σ := by
  obtain ⟨p, l, e, R, s, m, args, below, meth, c0, D, cI, cZ, base, Z⟩ := X
  subst hq
  intro H locs ls hR hS hls
  obtain ⟨hx, hb, hml, hown, hts, hK, hbs, hdf, hdl, hc1, hc2, hns⟩ := h
  have hr := va_runI (l := l) (e := e) (below := below) (meth := meth) (H := H) (locs := locs) (cells := k) (slots := n) (b := base + c) (As := As.map (zc base)) (rest := rest.map (zc base)) (g := F0 m pc ls (st.map (zc base))) (n := a) ⟨hx, hb, hml, hown, hts⟩ (hc l D cI cZ base)
    (⟨callB_of (R := R) (own := own) (index := idx) a hts (zgood hm) rfl rfl rfl (hts _ hm.2.1) (hts _ hl) hm.2.2.1 ⟨by show d + 1 ≤ _; omega, by show 8 + (maxL + 11) + 38 * d ≤ _; have : maxL ≤ 19 := hm.2.2.2; omega⟩, hy, hts _ hi⟩ : CallB R s args own idx y bytes maxL none (zws (y, bytes, maxL, none, mc', ms')) (zrm d (y, bytes, maxL, none, mc', ms')) mc' ms' a ∧ _ ∧ _)
    ⟨zblind, fun U hU hW => ⟨rfl, by rw [hU]; exact hR, va_K.moved hW.alike hK, hns.warm hW⟩⟩ rfl (by rw [List.length_map]; exact ha) hls.1 (by rw [hst, List.map_append, List.map_reverse]; rfl) (lv_room (by rw [zcat]; exact hcat)) hd ⟨Nat.le_trans hk.1 hc1, Nat.le_trans hk.2 hc2⟩
  exact zcall hr hS (fun r σ' H1 locs1 hq hR1 hS1 => kk r σ' hq H1 locs1 ls hR1 hS1 hls)
/-- invokespecial of a nest mate's constructor -/
theorem v_callIN {host : String} {y : MethodName} {bytes : ByteArray} {maxL mc' ms' : Nat} (h : zC X own cc nL dd mc ms) (hd : decode cc pc = .ok (.invokespecial idx, 3)) (hq : q = pc + 3) (hl : (own, idx, y, host) ∈ znl) (hm : zmi (y, bytes, maxL, none, mc', ms') a) (hi : Cond.instanceMethod y ∈ ztb) (hy : y.name = "<init>") (hc : zCt d (y, bytes, maxL, none, mc', ms') (.ref c :: As) σ Q) (hst : st = As.reverse ++ .ref c :: rest) (ha : As.length = a) (hdd : d + 1 ≤ dd) (hk : k + mc' ≤ mc ∧ n + ms' ≤ ms) (hcat : (rest.map fun v => v.category).sum ≤ 8)
    (kk : ∀ (r : Option Value) (σ' : zSt), Q r σ' → zV X nL q L (r.toList ++ rest) (k + mc') (n + ms') σ') : zV X nL pc L st k n σ := by
  obtain ⟨p, l, e, R, s, m, args, below, meth, c0, D, cI, cZ, base, Z⟩ := X
  subst hq
  intro H locs ls hR hS hls
  obtain ⟨hx, hb, hml, hown, hts, hK, hbs, hdf, hdl, hc1, hc2, hns⟩ := h
  have hr := va_runIN (l := l) (e := e) (below := below) (meth := meth) (H := H) (locs := locs) (cells := k) (slots := n) (b := base + c) (As := As.map (zc base)) (rest := rest.map (zc base)) (g := F0 m pc ls (st.map (zc base))) (n := a) ⟨hx, hb, hml, hown, hts⟩ (hc l D cI cZ base)
    (⟨va_cnB (R := R) (own := own) (index := idx) (host := host) a hts (zgood hm) rfl rfl rfl (hns _ hl) (hts _ hm.2.1) hm.2.2.1 ⟨by show d + 1 ≤ _; omega, by show 8 + (maxL + 11) + 38 * d ≤ _; have : maxL ≤ 19 := hm.2.2.2; omega⟩, hy, hts _ hi⟩ : va_CN R s args own idx y host bytes maxL none (zws (y, bytes, maxL, none, mc', ms')) (zrm d (y, bytes, maxL, none, mc', ms')) mc' ms' a ∧ _ ∧ _)
    ⟨zblind, fun U hU hW => ⟨rfl, by rw [hU]; exact hR, va_K.moved hW.alike hK, hns.warm hW⟩⟩ rfl (by rw [List.length_map]; exact ha) hls.1 (by rw [hst, List.map_append, List.map_reverse]; rfl) (lv_room (by rw [zcat]; exact hcat)) hd ⟨Nat.le_trans hk.1 hc1, Nat.le_trans hk.2 hc2⟩
  exact zcall hr hS (fun r σ' H1 locs1 hq hR1 hS1 => kk r σ' hq H1 locs1 ls hR1 hS1 hls)
/-- less is asked of the end, or more room is there -/
theorem zCt.mono {av : List Value} {Q' : Option Value → zSt → Prop} (h : zCt d M av σ Q) (hQ : ∀ r σ', Q r σ' → Q' r σ') : zCt d M av σ Q' := by
  intro l D cI cZ base p e ha hc hk s m args below hf hap hP hK
  obtain ⟨j, o, h1, h2, h3, ⟨r, σ', e1, e2, e3⟩, h5⟩ := h l D cI cZ base p e ha hc hk s m args below hf hap hP hK
  exact ⟨j, o, h1, h2, h3, ⟨r, σ', e1, hQ r σ' e2, e3⟩, h5⟩
end zCalls
