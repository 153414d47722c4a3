/-! ===== the law: the script; each call ===== -/
/-- the script, as the law's body holds it -/
def zXs (X : zX) (b LL : Nat) (xs : Nat → Int32) : Prop :=
  match X with
  | (_, _, _, _, s, _, _, _, _, _, _, _, _, base, _) => va_X b LL xs s s.heap ∧ b < s.heap.size ∧ base = s.heap.size
theorem v_sld {X : zX} {own : String} {cc : ByteArray} {nL dd mc ms pc q : Nat} {L : List (Option Value)} {st : List Value} {k n : Nat} {σ : zSt} {b LL j : Nat} {xs : Nat → Int32} {i : Int32} (h : zC X own cc nL dd mc ms) (hd : decode cc pc = .ok (.iaload, 1)) (hq : q = pc + 1) (hX : zXs X b LL xs) (hij : i = nI j) (hj : j < LL) (hLL : LL ≤ 320) (kk : zV X nL q L (.int (xs j) :: st) k n σ) : zV X nL pc L (.int i :: .retAddr b :: st) k n σ := by
  obtain ⟨p, l, e, R, s, m, args, below, meth, c, D, cI, cZ, base, Z⟩ := X
  subst hq
  subst hij
  obtain ⟨h1, h2, rfl⟩ := hX
  intro H locs ls hR hS hl
  refine va_sld h.1 h.2.1 h1 h2 (Nat.not_le.mpr h2) hS (vp_in_nI hj (by omega)) hd ?_
  rw [nI_clamp (by omega)]
  exact kk H locs ls hR hS hl
theorem v_slen {X : zX} {own : String} {cc : ByteArray} {nL dd mc ms pc q : Nat} {L : List (Option Value)} {st : List Value} {k n : Nat} {σ : zSt} {b LL : Nat} {xs : Nat → Int32} (h : zC X own cc nL dd mc ms) (hd : decode cc pc = .ok (.arraylength, 1)) (hq : q = pc + 1) (hX : zXs X b LL xs) (kk : zV X nL q L (.int (nI LL) :: st) k n σ) : zV X nL pc L (.retAddr b :: st) k n σ := by
  obtain ⟨p, l, e, R, s, m, args, below, meth, c, D, cI, cZ, base, Z⟩ := X
  subst hq
  obtain ⟨h1, h2, rfl⟩ := hX
  intro H locs ls hR hS hl
  exact va_slen h.1 h.2.1 h1 h2 (Nat.not_le.mpr h2) hS hd (kk H locs ls hR hS hl)
theorem lg_cmp_rf (x : Int64) : lg_cmp x x = 0 := by
  have h1 : ¬ lg_cmp x x < 0 := fun z => absurd ((lg_cmp_lt x x).mp z) (Int64.lt_irrefl)
  have h2 : ¬ 0 < lg_cmp x x := fun z => absurd ((lg_cmp_gt x x).mp z) (Int64.lt_irrefl)
  rw [Int32.lt_iff_toInt_lt] at h1 h2
  apply Int32.toInt_inj.mp
  have e : (0 : Int32).toInt = 0 := rfl
  rw [e] at h1 h2 ⊢
  omega

set_option maxRecDepth 100000 in
set_option maxHeartbeats 4000000 in
theorem law_case_0 {X : zX} {b LL : Nat} {xs : Nat → Int32} (hC : zC X RL code 4 9 600000 7302250) (hX : zXs X b LL xs) {i B kk nn : Nat} (hi : i + 5 ≤ LL) (hLL : LL ≤ 320) {σ : zSt} {S : pS} (hCl : zCl σ S) (hMd : zMd σ S) (ok : pOk B S) (hB : B ≤ 1000) (hk : kk ≤ 1000) (hn : nn ≤ 100000) (kn : ∀ (σ' : zSt) (S' : pS) (k' n' : Nat), zCl σ' S' → zMd σ' S' → pOk (B + 1) S' → k' ≤ kk + 1 → n' ≤ nn + 1 → zV X 4 831 [some (.retAddr b), some (.ref 0), some (.ref 53), some (.int (nI i))] [] k' n' σ') : zV X 4 152 [some (.retAddr b), some (.ref 0), some (.ref 53), some (.int (nI i))] [] kk nn σ := by
  have hL := hCl.1
  have hn6 := hMd.2.2.1.2.1
  have hm12 := hMd.2.2.2.1.2.1
  refine v_aload_n (q := 153) hC dL_law_152 rfl rfl rfl ?_
  refine v_aloadS_n (q := 154) hC dL_law_153 rfl rfl rfl ?_
  refine v_iload_n (q := 155) hC dL_law_154 rfl rfl rfl ?_
  refine v_iconst (q := 156) (v := 1) hC dL_law_155 rfl (by decide) ?_
  refine v_iadd (q := 157) hC dL_law_156 rfl ?_
  refine v_sld (q := 158) hC dL_law_157 rfl hX (nI_add i 1) (by omega) hLL ?_
  refine v_callVQ (q := 161) (As := [_]) hC dL_law_158 rfl lL_13 mX11_letter iX11_letter eX11_letter rfl (hL.1 0 (by decide)) (cl_letter 0 hCl ok (xs (i + 1))) rfl rfl (by omega) (by decide) (Nat.le_of_ble_eq_true rfl) ?_ ⟨by omega, by omega⟩
  rintro _ σ1 ⟨rfl, hCl1, hf1⟩
  have hMd1 := hMd.fc hCl1.1 hf1
  have hL1 := hCl1.1
  refine v_aload_n (q := 162) hC dL_law_161 rfl rfl rfl ?_
  refine v_aloadS_n (q := 163) hC dL_law_162 rfl rfl rfl ?_
  refine v_iload_n (q := 164) hC dL_law_163 rfl rfl rfl ?_
  refine v_iconst (q := 165) (v := 1) hC dL_law_164 rfl (by decide) ?_
  refine v_iadd (q := 166) hC dL_law_165 rfl ?_
  refine v_sld (q := 167) hC dL_law_166 rfl hX (nI_add i 1) (by omega) hLL ?_
  refine v_callVQ (q := 170) (As := [_]) hC dL_law_167 rfl lL_17 mX12_letter iX12_letter eX12_letter rfl (hL1.1 53 (by decide)) (md_letter 0 hMd1 ok (xs (i + 1))) rfl rfl (by omega) (by decide) (Nat.le_of_ble_eq_true rfl) ?_ ⟨by omega, by omega⟩
  rintro _ σ2 ⟨rfl, hMd2, hf2⟩
  have hCl2 := hCl1.fm hf2
  refine v_icmp_eq (q := 173) (tgt := 831) hC dL_law_170 rfl (by decide) (fun h170 => ?_) (fun h170 => ?_)
  · exact kn σ2 _ kk nn hCl2 hMd2 (pOk.up (ok_letter ok (xs (i + 1))) (by omega)) (by omega) (by omega)
  · exact absurd rfl h170

set_option maxRecDepth 100000 in
set_option maxHeartbeats 4000000 in
theorem law_case_1 {X : zX} {b LL : Nat} {xs : Nat → Int32} (hC : zC X RL code 4 9 600000 7302250) (hX : zXs X b LL xs) {i B kk nn : Nat} (hi : i + 5 ≤ LL) (hLL : LL ≤ 320) {σ : zSt} {S : pS} (hCl : zCl σ S) (hMd : zMd σ S) (ok : pOk B S) (hB : B ≤ 1000) (hk : kk ≤ 1000) (hn : nn ≤ 100000) (kn : ∀ (σ' : zSt) (S' : pS) (k' n' : Nat), zCl σ' S' → zMd σ' S' → pOk (B + 1) S' → k' ≤ kk + 1 → n' ≤ nn + 1 → zV X 4 831 [some (.retAddr b), some (.ref 0), some (.ref 53), some (.int (nI i))] [] k' n' σ') : zV X 4 175 [some (.retAddr b), some (.ref 0), some (.ref 53), some (.int (nI i))] [] kk nn σ := by
  have hL := hCl.1
  have hn6 := hMd.2.2.1.2.1
  have hm12 := hMd.2.2.2.1.2.1
  refine v_aload_n (q := 176) hC dL_law_175 rfl rfl rfl ?_
  refine v_callVQ (q := 179) (As := []) hC dL_law_176 rfl lL_18 mX11_blank iX11_blank eX11_blank rfl (hL.1 0 (by decide)) (cl_blank 0 hCl ok) rfl rfl (by omega) (by decide) (Nat.le_of_ble_eq_true rfl) ?_ ⟨by omega, by omega⟩
  rintro _ σ1 ⟨rfl, hCl1, hf1⟩
  have hMd1 := hMd.fc hCl1.1 hf1
  have hL1 := hCl1.1
  refine v_aload_n (q := 180) hC dL_law_179 rfl rfl rfl ?_
  refine v_callVQ (q := 183) (As := []) hC dL_law_180 rfl lL_22 mX12_blank iX12_blank eX12_blank rfl (hL1.1 53 (by decide)) (md_blank 0 hMd1 ok) rfl rfl (by omega) (by decide) (Nat.le_of_ble_eq_true rfl) ?_ ⟨by omega, by omega⟩
  rintro _ σ2 ⟨rfl, hMd2, hf2⟩
  have hCl2 := hCl1.fm hf2
  refine v_icmp_eq (q := 186) (tgt := 831) hC dL_law_183 rfl (by decide) (fun h183 => ?_) (fun h183 => ?_)
  · exact kn σ2 _ kk nn hCl2 hMd2 (pOk.up (ok_blank ok) (by omega)) (by omega) (by omega)
  · exact absurd rfl h183

set_option maxRecDepth 100000 in
set_option maxHeartbeats 4000000 in
theorem law_case_2 {X : zX} {b LL : Nat} {xs : Nat → Int32} (hC : zC X RL code 4 9 600000 7302250) (hX : zXs X b LL xs) {i B kk nn : Nat} (hi : i + 5 ≤ LL) (hLL : LL ≤ 320) {σ : zSt} {S : pS} (hCl : zCl σ S) (hMd : zMd σ S) (ok : pOk B S) (hB : B ≤ 1000) (hk : kk ≤ 1000) (hn : nn ≤ 100000) (kn : ∀ (σ' : zSt) (S' : pS) (k' n' : Nat), zCl σ' S' → zMd σ' S' → pOk (B + 1) S' → k' ≤ kk + 1 → n' ≤ nn + 1 → zV X 4 831 [some (.retAddr b), some (.ref 0), some (.ref 53), some (.int (nI i))] [] k' n' σ') : zV X 4 188 [some (.retAddr b), some (.ref 0), some (.ref 53), some (.int (nI i))] [] kk nn σ := by
  have hL := hCl.1
  have hn6 := hMd.2.2.1.2.1
  have hm12 := hMd.2.2.2.1.2.1
  refine v_aload_n (q := 189) hC dL_law_188 rfl rfl rfl ?_
  refine v_callVQ (q := 192) (As := []) hC dL_law_189 rfl lL_23 mX11_fault iX11_fault eX11_fault rfl (hL.1 0 (by decide)) (cl_fault 0 hCl ok) rfl rfl (by omega) (by decide) (Nat.le_of_ble_eq_true rfl) ?_ ⟨by omega, by omega⟩
  rintro _ σ1 ⟨rfl, hCl1, hf1⟩
  have hMd1 := hMd.fc hCl1.1 hf1
  have hL1 := hCl1.1
  refine v_aload_n (q := 193) hC dL_law_192 rfl rfl rfl ?_
  refine v_callVQ (q := 196) (As := []) hC dL_law_193 rfl lL_26 mX12_fault iX12_fault eX12_fault rfl (hL1.1 53 (by decide)) (md_fault 0 hMd1 ok) rfl rfl (by omega) (by decide) (Nat.le_of_ble_eq_true rfl) ?_ ⟨by omega, by omega⟩
  rintro _ σ2 ⟨rfl, hMd2, hf2⟩
  have hCl2 := hCl1.fm hf2
  refine v_icmp_eq (q := 199) (tgt := 831) hC dL_law_196 rfl (by decide) (fun h196 => ?_) (fun h196 => ?_)
  · exact kn σ2 _ kk nn hCl2 hMd2 (by have e2 : (sFault S ).2 = S := (by unfold sFault; repeat (first | rfl | split)); rw [e2]; exact ok.up (by omega)) (by omega) (by omega)
  · exact absurd rfl h196

set_option maxRecDepth 100000 in
set_option maxHeartbeats 4000000 in
theorem law_case_3 {X : zX} {b LL : Nat} {xs : Nat → Int32} (hC : zC X RL code 4 9 600000 7302250) (hX : zXs X b LL xs) {i B kk nn : Nat} (hi : i + 5 ≤ LL) (hLL : LL ≤ 320) {σ : zSt} {S : pS} (hCl : zCl σ S) (hMd : zMd σ S) (ok : pOk B S) (hB : B ≤ 1000) (hk : kk ≤ 1000) (hn : nn ≤ 100000) (kn : ∀ (σ' : zSt) (S' : pS) (k' n' : Nat), zCl σ' S' → zMd σ' S' → pOk (B + 1) S' → k' ≤ kk + 1 → n' ≤ nn + 1 → zV X 4 831 [some (.retAddr b), some (.ref 0), some (.ref 53), some (.int (nI i))] [] k' n' σ') : zV X 4 201 [some (.retAddr b), some (.ref 0), some (.ref 53), some (.int (nI i))] [] kk nn σ := by
  have hL := hCl.1
  have hn6 := hMd.2.2.1.2.1
  have hm12 := hMd.2.2.2.1.2.1
  refine v_aload_n (q := 202) hC dL_law_201 rfl rfl rfl ?_
  refine v_callVQ (q := 205) (As := []) hC dL_law_202 rfl lL_27 mX11_law iX11_law eX11_law rfl (hL.1 0 (by decide)) (cl_law 0 hCl ok) rfl rfl (by omega) (by decide) (Nat.le_of_ble_eq_true rfl) ?_ ⟨by omega, by omega⟩
  rintro _ σ1 ⟨rfl, hCl1, hf1⟩
  have hMd1 := hMd.fc hCl1.1 hf1
  have hL1 := hCl1.1
  refine v_aload_n (q := 206) hC dL_law_205 rfl rfl rfl ?_
  refine v_callVQ (q := 209) (As := []) hC dL_law_206 rfl lL_30 mX12_law iX12_law eX12_law rfl (hL1.1 53 (by decide)) (md_law 0 hMd1 ok) rfl rfl (by omega) (by decide) (Nat.le_of_ble_eq_true rfl) ?_ ⟨by omega, by omega⟩
  rintro _ σ2 ⟨rfl, hMd2, hf2⟩
  have hCl2 := hCl1.fm hf2
  refine v_icmp_eq (q := 212) (tgt := 831) hC dL_law_209 rfl (by decide) (fun h209 => ?_) (fun h209 => ?_)
  · exact kn σ2 _ kk nn hCl2 hMd2 (ok_law ok (by omega)) (by omega) (by omega)
  · exact absurd rfl h209

set_option maxRecDepth 100000 in
set_option maxHeartbeats 4000000 in
theorem law_case_4 {X : zX} {b LL : Nat} {xs : Nat → Int32} (hC : zC X RL code 4 9 600000 7302250) (hX : zXs X b LL xs) {i B kk nn : Nat} (hi : i + 5 ≤ LL) (hLL : LL ≤ 320) {σ : zSt} {S : pS} (hCl : zCl σ S) (hMd : zMd σ S) (ok : pOk B S) (hB : B ≤ 1000) (hk : kk ≤ 1000) (hn : nn ≤ 100000) (kn : ∀ (σ' : zSt) (S' : pS) (k' n' : Nat), zCl σ' S' → zMd σ' S' → pOk (B + 1) S' → k' ≤ kk + 1 → n' ≤ nn + 1 → zV X 4 831 [some (.retAddr b), some (.ref 0), some (.ref 53), some (.int (nI i))] [] k' n' σ') : zV X 4 214 [some (.retAddr b), some (.ref 0), some (.ref 53), some (.int (nI i))] [] kk nn σ := by
  have hL := hCl.1
  have hn6 := hMd.2.2.1.2.1
  have hm12 := hMd.2.2.2.1.2.1
  refine v_aload_n (q := 215) hC dL_law_214 rfl rfl rfl ?_
  refine v_aloadS_n (q := 216) hC dL_law_215 rfl rfl rfl ?_
  refine v_iload_n (q := 217) hC dL_law_216 rfl rfl rfl ?_
  refine v_iconst (q := 218) (v := 1) hC dL_law_217 rfl (by decide) ?_
  refine v_iadd (q := 219) hC dL_law_218 rfl ?_
  refine v_sld (q := 220) hC dL_law_219 rfl hX (nI_add i 1) (by omega) hLL ?_
  refine v_aloadS_n (q := 221) hC dL_law_220 rfl rfl rfl ?_
  refine v_iload_n (q := 222) hC dL_law_221 rfl rfl rfl ?_
  refine v_iconst (q := 223) (v := 2) hC dL_law_222 rfl (by decide) ?_
  refine v_iadd (q := 224) hC dL_law_223 rfl ?_
  refine v_sld (q := 225) hC dL_law_224 rfl hX (nI_add i 2) (by omega) hLL ?_
  refine v_callVQ (q := 228) (As := [_, _]) hC dL_law_225 rfl lL_31 mX11_between iX11_between eX11_between rfl (hL.1 0 (by decide)) (cl_between 0 hCl ok (xs (i + 1)) (xs (i + 2))) rfl rfl (by omega) (by decide) (Nat.le_of_ble_eq_true rfl) ?_ ⟨by omega, by omega⟩
  rintro _ σ1 ⟨rfl, hCl1, hf1⟩
  have hMd1 := hMd.fc hCl1.1 hf1
  have hL1 := hCl1.1
  refine v_aload_n (q := 229) hC dL_law_228 rfl rfl rfl ?_
  refine v_aloadS_n (q := 230) hC dL_law_229 rfl rfl rfl ?_
  refine v_iload_n (q := 231) hC dL_law_230 rfl rfl rfl ?_
  refine v_iconst (q := 232) (v := 1) hC dL_law_231 rfl (by decide) ?_
  refine v_iadd (q := 233) hC dL_law_232 rfl ?_
  refine v_sld (q := 234) hC dL_law_233 rfl hX (nI_add i 1) (by omega) hLL ?_
  refine v_aloadS_n (q := 235) hC dL_law_234 rfl rfl rfl ?_
  refine v_iload_n (q := 236) hC dL_law_235 rfl rfl rfl ?_
  refine v_iconst (q := 237) (v := 2) hC dL_law_236 rfl (by decide) ?_
  refine v_iadd (q := 238) hC dL_law_237 rfl ?_
  refine v_sld (q := 239) hC dL_law_238 rfl hX (nI_add i 2) (by omega) hLL ?_
  refine v_callVQ (q := 242) (As := [_, _]) hC dL_law_239 rfl lL_35 mX12_between iX12_between eX12_between rfl (hL1.1 53 (by decide)) (md_between 0 hMd1 ok (xs (i + 1)) (xs (i + 2))) rfl rfl (by omega) (by decide) (Nat.le_of_ble_eq_true rfl) ?_ ⟨by omega, by omega⟩
  rintro _ σ2 ⟨rfl, hMd2, hf2⟩
  have hCl2 := hCl1.fm hf2
  refine v_icmp_eq (q := 245) (tgt := 831) hC dL_law_242 rfl (by decide) (fun h242 => ?_) (fun h242 => ?_)
  · exact kn σ2 _ kk nn hCl2 hMd2 (by have e2 : (sBetween S (xs (i + 1)) (xs (i + 2))).2 = S := (by unfold sBetween; repeat (first | rfl | split)); rw [e2]; exact ok.up (by omega)) (by omega) (by omega)
  · exact absurd rfl h242

set_option maxRecDepth 100000 in
set_option maxHeartbeats 4000000 in
theorem law_case_5 {X : zX} {b LL : Nat} {xs : Nat → Int32} (hC : zC X RL code 4 9 600000 7302250) (hX : zXs X b LL xs) {i B kk nn : Nat} (hi : i + 5 ≤ LL) (hLL : LL ≤ 320) {σ : zSt} {S : pS} (hCl : zCl σ S) (hMd : zMd σ S) (ok : pOk B S) (hB : B ≤ 1000) (hk : kk ≤ 1000) (hn : nn ≤ 100000) (kn : ∀ (σ' : zSt) (S' : pS) (k' n' : Nat), zCl σ' S' → zMd σ' S' → pOk (B + 1) S' → k' ≤ kk + 1 → n' ≤ nn + 1 → zV X 4 831 [some (.retAddr b), some (.ref 0), some (.ref 53), some (.int (nI i))] [] k' n' σ') : zV X 4 247 [some (.retAddr b), some (.ref 0), some (.ref 53), some (.int (nI i))] [] kk nn σ := by
  have hL := hCl.1
  have hn6 := hMd.2.2.1.2.1
  have hm12 := hMd.2.2.2.1.2.1
  refine v_aload_n (q := 248) hC dL_law_247 rfl rfl rfl ?_
  refine v_aloadS_n (q := 249) hC dL_law_248 rfl rfl rfl ?_
  refine v_iload_n (q := 250) hC dL_law_249 rfl rfl rfl ?_
  refine v_iconst (q := 251) (v := 1) hC dL_law_250 rfl (by decide) ?_
  refine v_iadd (q := 252) hC dL_law_251 rfl ?_
  refine v_sld (q := 253) hC dL_law_252 rfl hX (nI_add i 1) (by omega) hLL ?_
  refine v_callVQ (q := 256) (As := [_]) hC dL_law_253 rfl lL_36 mX11_person iX11_person eX11_person rfl (hL.1 0 (by decide)) (cl_person 0 hCl ok (xs (i + 1))) rfl rfl (by omega) (by decide) (Nat.le_of_ble_eq_true rfl) ?_ ⟨by omega, by omega⟩
  rintro _ σ1 ⟨rfl, hCl1, hf1⟩
  have hMd1 := hMd.fc hCl1.1 hf1
  have hL1 := hCl1.1
  refine v_aload_n (q := 257) hC dL_law_256 rfl rfl rfl ?_
  refine v_aloadS_n (q := 258) hC dL_law_257 rfl rfl rfl ?_
  refine v_iload_n (q := 259) hC dL_law_258 rfl rfl rfl ?_
  refine v_iconst (q := 260) (v := 1) hC dL_law_259 rfl (by decide) ?_
  refine v_iadd (q := 261) hC dL_law_260 rfl ?_
  refine v_sld (q := 262) hC dL_law_261 rfl hX (nI_add i 1) (by omega) hLL ?_
  refine v_callVQ (q := 265) (As := [_]) hC dL_law_262 rfl lL_39 mX12_person iX12_person eX12_person rfl (hL1.1 53 (by decide)) (md_person 0 hMd1 ok (xs (i + 1))) rfl rfl (by omega) (by decide) (Nat.le_of_ble_eq_true rfl) ?_ ⟨by omega, by omega⟩
  rintro _ σ2 ⟨rfl, hMd2, hf2⟩
  have hCl2 := hCl1.fm hf2
  refine v_icmp_eq (q := 268) (tgt := 831) hC dL_law_265 rfl (by decide) (fun h265 => ?_) (fun h265 => ?_)
  · exact kn σ2 _ kk nn hCl2 hMd2 (pOk.up (ok_person ok (xs (i + 1))) (by omega)) (by omega) (by omega)
  · exact absurd rfl h265

set_option maxRecDepth 100000 in
set_option maxHeartbeats 4000000 in
theorem law_case_6 {X : zX} {b LL : Nat} {xs : Nat → Int32} (hC : zC X RL code 4 9 600000 7302250) (hX : zXs X b LL xs) {i B kk nn : Nat} (hi : i + 5 ≤ LL) (hLL : LL ≤ 320) {σ : zSt} {S : pS} (hCl : zCl σ S) (hMd : zMd σ S) (ok : pOk B S) (hB : B ≤ 1000) (hk : kk ≤ 1000) (hn : nn ≤ 100000) (kn : ∀ (σ' : zSt) (S' : pS) (k' n' : Nat), zCl σ' S' → zMd σ' S' → pOk (B + 1) S' → k' ≤ kk + 1 → n' ≤ nn + 1 → zV X 4 831 [some (.retAddr b), some (.ref 0), some (.ref 53), some (.int (nI i))] [] k' n' σ') : zV X 4 270 [some (.retAddr b), some (.ref 0), some (.ref 53), some (.int (nI i))] [] kk nn σ := by
  have hL := hCl.1
  have hn6 := hMd.2.2.1.2.1
  have hm12 := hMd.2.2.2.1.2.1
  refine v_aload_n (q := 271) hC dL_law_270 rfl rfl rfl ?_
  refine v_aloadS_n (q := 272) hC dL_law_271 rfl rfl rfl ?_
  refine v_iload_n (q := 273) hC dL_law_272 rfl rfl rfl ?_
  refine v_iconst (q := 274) (v := 1) hC dL_law_273 rfl (by decide) ?_
  refine v_iadd (q := 275) hC dL_law_274 rfl ?_
  refine v_sld (q := 276) hC dL_law_275 rfl hX (nI_add i 1) (by omega) hLL ?_
  refine v_aloadS_n (q := 277) hC dL_law_276 rfl rfl rfl ?_
  refine v_iload_n (q := 278) hC dL_law_277 rfl rfl rfl ?_
  refine v_iconst (q := 279) (v := 2) hC dL_law_278 rfl (by decide) ?_
  refine v_iadd (q := 280) hC dL_law_279 rfl ?_
  refine v_sld (q := 281) hC dL_law_280 rfl hX (nI_add i 2) (by omega) hLL ?_
  refine v_callVQ (q := 284) (As := [_, _]) hC dL_law_281 rfl lL_40 mX11_about iX11_about eX11_about rfl (hL.1 0 (by decide)) (cl_about 0 hCl ok (xs (i + 1)) (xs (i + 2))) rfl rfl (by omega) (by decide) (Nat.le_of_ble_eq_true rfl) ?_ ⟨by omega, by omega⟩
  rintro _ σ1 ⟨rfl, hCl1, hf1⟩
  have hMd1 := hMd.fc hCl1.1 hf1
  have hL1 := hCl1.1
  refine v_aload_n (q := 285) hC dL_law_284 rfl rfl rfl ?_
  refine v_aloadS_n (q := 286) hC dL_law_285 rfl rfl rfl ?_
  refine v_iload_n (q := 287) hC dL_law_286 rfl rfl rfl ?_
  refine v_iconst (q := 288) (v := 1) hC dL_law_287 rfl (by decide) ?_
  refine v_iadd (q := 289) hC dL_law_288 rfl ?_
  refine v_sld (q := 290) hC dL_law_289 rfl hX (nI_add i 1) (by omega) hLL ?_
  refine v_aloadS_n (q := 291) hC dL_law_290 rfl rfl rfl ?_
  refine v_iload_n (q := 292) hC dL_law_291 rfl rfl rfl ?_
  refine v_iconst (q := 293) (v := 2) hC dL_law_292 rfl (by decide) ?_
  refine v_iadd (q := 294) hC dL_law_293 rfl ?_
  refine v_sld (q := 295) hC dL_law_294 rfl hX (nI_add i 2) (by omega) hLL ?_
  refine v_callVQ (q := 298) (As := [_, _]) hC dL_law_295 rfl lL_43 mX12_about iX12_about eX12_about rfl (hL1.1 53 (by decide)) (md_about 0 hMd1 ok (xs (i + 1)) (xs (i + 2))) rfl rfl (by omega) (by decide) (Nat.le_of_ble_eq_true rfl) ?_ ⟨by omega, by omega⟩
  rintro _ σ2 ⟨rfl, hMd2, hf2⟩
  have hCl2 := hCl1.fm hf2
  refine v_icmp_eq (q := 301) (tgt := 831) hC dL_law_298 rfl (by decide) (fun h298 => ?_) (fun h298 => ?_)
  · exact kn σ2 _ kk nn hCl2 hMd2 (by have e2 : (sAbout S (xs (i + 1)) (xs (i + 2))).2 = S := (by unfold sAbout; repeat (first | rfl | split)); rw [e2]; exact ok.up (by omega)) (by omega) (by omega)
  · exact absurd rfl h298

set_option maxRecDepth 100000 in
set_option maxHeartbeats 4000000 in
theorem law_case_7 {X : zX} {b LL : Nat} {xs : Nat → Int32} (hC : zC X RL code 4 9 600000 7302250) (hX : zXs X b LL xs) {i B kk nn : Nat} (hi : i + 5 ≤ LL) (hLL : LL ≤ 320) {σ : zSt} {S : pS} (hCl : zCl σ S) (hMd : zMd σ S) (ok : pOk B S) (hB : B ≤ 1000) (hk : kk ≤ 1000) (hn : nn ≤ 100000) (kn : ∀ (σ' : zSt) (S' : pS) (k' n' : Nat), zCl σ' S' → zMd σ' S' → pOk (B + 1) S' → k' ≤ kk + 1 → n' ≤ nn + 1 → zV X 4 831 [some (.retAddr b), some (.ref 0), some (.ref 53), some (.int (nI i))] [] k' n' σ') : zV X 4 303 [some (.retAddr b), some (.ref 0), some (.ref 53), some (.int (nI i))] [] kk nn σ := by
  have hL := hCl.1
  have hn6 := hMd.2.2.1.2.1
  have hm12 := hMd.2.2.2.1.2.1
  refine v_aload_n (q := 304) hC dL_law_303 rfl rfl rfl ?_
  refine v_aloadS_n (q := 305) hC dL_law_304 rfl rfl rfl ?_
  refine v_iload_n (q := 306) hC dL_law_305 rfl rfl rfl ?_
  refine v_iconst (q := 307) (v := 1) hC dL_law_306 rfl (by decide) ?_
  refine v_iadd (q := 308) hC dL_law_307 rfl ?_
  refine v_sld (q := 309) hC dL_law_308 rfl hX (nI_add i 1) (by omega) hLL ?_
  refine v_aloadS_n (q := 310) hC dL_law_309 rfl rfl rfl ?_
  refine v_iload_n (q := 311) hC dL_law_310 rfl rfl rfl ?_
  refine v_iconst (q := 312) (v := 2) hC dL_law_311 rfl (by decide) ?_
  refine v_iadd (q := 313) hC dL_law_312 rfl ?_
  refine v_sld (q := 314) hC dL_law_313 rfl hX (nI_add i 2) (by omega) hLL ?_
  refine v_callVQ (q := 317) (As := [_, _]) hC dL_law_314 rfl lL_44 mX11_as iX11_as eX11_as rfl (hL.1 0 (by decide)) (cl_as 0 hCl ok (xs (i + 1)) (xs (i + 2))) rfl rfl (by omega) (by decide) (Nat.le_of_ble_eq_true rfl) ?_ ⟨by omega, by omega⟩
  rintro _ σ1 ⟨rfl, hCl1, hf1⟩
  have hMd1 := hMd.fc hCl1.1 hf1
  have hL1 := hCl1.1
  refine v_aload_n (q := 318) hC dL_law_317 rfl rfl rfl ?_
  refine v_aloadS_n (q := 319) hC dL_law_318 rfl rfl rfl ?_
  refine v_iload_n (q := 320) hC dL_law_319 rfl rfl rfl ?_
  refine v_iconst (q := 321) (v := 1) hC dL_law_320 rfl (by decide) ?_
  refine v_iadd (q := 322) hC dL_law_321 rfl ?_
  refine v_sld (q := 323) hC dL_law_322 rfl hX (nI_add i 1) (by omega) hLL ?_
  refine v_aloadS_n (q := 324) hC dL_law_323 rfl rfl rfl ?_
  refine v_iload_n (q := 325) hC dL_law_324 rfl rfl rfl ?_
  refine v_iconst (q := 326) (v := 2) hC dL_law_325 rfl (by decide) ?_
  refine v_iadd (q := 327) hC dL_law_326 rfl ?_
  refine v_sld (q := 328) hC dL_law_327 rfl hX (nI_add i 2) (by omega) hLL ?_
  refine v_callVQ (q := 331) (As := [_, _]) hC dL_law_328 rfl lL_47 mX12_as iX12_as eX12_as rfl (hL1.1 53 (by decide)) (md_as 0 hMd1 ok (xs (i + 1)) (xs (i + 2))) rfl rfl (by omega) (by decide) (Nat.le_of_ble_eq_true rfl) ?_ ⟨by omega, by omega⟩
  rintro _ σ2 ⟨rfl, hMd2, hf2⟩
  have hCl2 := hCl1.fm hf2
  refine v_icmp_eq (q := 334) (tgt := 831) hC dL_law_331 rfl (by decide) (fun h331 => ?_) (fun h331 => ?_)
  · exact kn σ2 _ kk nn hCl2 hMd2 (by have e2 : (sAs S (xs (i + 1)) (xs (i + 2))).2 = S := (by unfold sAs; repeat (first | rfl | split)); rw [e2]; exact ok.up (by omega)) (by omega) (by omega)
  · exact absurd rfl h331

set_option maxRecDepth 100000 in
set_option maxHeartbeats 4000000 in
theorem law_case_8 {X : zX} {b LL : Nat} {xs : Nat → Int32} (hC : zC X RL code 4 9 600000 7302250) (hX : zXs X b LL xs) {i B kk nn : Nat} (hi : i + 5 ≤ LL) (hLL : LL ≤ 320) {σ : zSt} {S : pS} (hCl : zCl σ S) (hMd : zMd σ S) (ok : pOk B S) (hB : B ≤ 1000) (hk : kk ≤ 1000) (hn : nn ≤ 100000) (kn : ∀ (σ' : zSt) (S' : pS) (k' n' : Nat), zCl σ' S' → zMd σ' S' → pOk (B + 1) S' → k' ≤ kk + 1 → n' ≤ nn + 1 → zV X 4 831 [some (.retAddr b), some (.ref 0), some (.ref 53), some (.int (nI i))] [] k' n' σ') : zV X 4 336 [some (.retAddr b), some (.ref 0), some (.ref 53), some (.int (nI i))] [] kk nn σ := by
  have hL := hCl.1
  have hn6 := hMd.2.2.1.2.1
  have hm12 := hMd.2.2.2.1.2.1
  refine v_aload_n (q := 337) hC dL_law_336 rfl rfl rfl ?_
  refine v_aloadS_n (q := 338) hC dL_law_337 rfl rfl rfl ?_
  refine v_iload_n (q := 339) hC dL_law_338 rfl rfl rfl ?_
  refine v_iconst (q := 340) (v := 1) hC dL_law_339 rfl (by decide) ?_
  refine v_iadd (q := 341) hC dL_law_340 rfl ?_
  refine v_sld (q := 342) hC dL_law_341 rfl hX (nI_add i 1) (by omega) hLL ?_
  refine v_aloadS_n (q := 343) hC dL_law_342 rfl rfl rfl ?_
  refine v_iload_n (q := 344) hC dL_law_343 rfl rfl rfl ?_
  refine v_iconst (q := 345) (v := 2) hC dL_law_344 rfl (by decide) ?_
  refine v_iadd (q := 346) hC dL_law_345 rfl ?_
  refine v_sld (q := 347) hC dL_law_346 rfl hX (nI_add i 2) (by omega) hLL ?_
  refine v_aloadS_n (q := 348) hC dL_law_347 rfl rfl rfl ?_
  refine v_iload_n (q := 349) hC dL_law_348 rfl rfl rfl ?_
  refine v_iconst (q := 350) (v := 3) hC dL_law_349 rfl (by decide) ?_
  refine v_iadd (q := 351) hC dL_law_350 rfl ?_
  refine v_sld (q := 352) hC dL_law_351 rfl hX (nI_add i 3) (by omega) hLL ?_
  refine v_aloadS_n (q := 353) hC dL_law_352 rfl rfl rfl ?_
  refine v_iload_n (q := 354) hC dL_law_353 rfl rfl rfl ?_
  refine v_iconst (q := 355) (v := 4) hC dL_law_354 rfl (by decide) ?_
  refine v_iadd (q := 356) hC dL_law_355 rfl ?_
  refine v_sld (q := 357) hC dL_law_356 rfl hX (nI_add i 4) (by omega) hLL ?_
  refine v_callVQ (q := 360) (As := [_, _, _, _]) hC dL_law_357 rfl lL_48 mX11_may iX11_may eX11_may rfl (hL.1 0 (by decide)) (cl_may 0 hCl ok (xs (i + 1)) (xs (i + 2)) (xs (i + 3)) (xs (i + 4))) rfl rfl (by omega) (by decide) (Nat.le_of_ble_eq_true rfl) ?_ ⟨by omega, by omega⟩
  rintro _ σ1 ⟨rfl, hCl1, hf1⟩
  have hMd1 := hMd.fc hCl1.1 hf1
  have hL1 := hCl1.1
  refine v_aload_n (q := 361) hC dL_law_360 rfl rfl rfl ?_
  refine v_aloadS_n (q := 362) hC dL_law_361 rfl rfl rfl ?_
  refine v_iload_n (q := 363) hC dL_law_362 rfl rfl rfl ?_
  refine v_iconst (q := 364) (v := 1) hC dL_law_363 rfl (by decide) ?_
  refine v_iadd (q := 365) hC dL_law_364 rfl ?_
  refine v_sld (q := 366) hC dL_law_365 rfl hX (nI_add i 1) (by omega) hLL ?_
  refine v_aloadS_n (q := 367) hC dL_law_366 rfl rfl rfl ?_
  refine v_iload_n (q := 368) hC dL_law_367 rfl rfl rfl ?_
  refine v_iconst (q := 369) (v := 2) hC dL_law_368 rfl (by decide) ?_
  refine v_iadd (q := 370) hC dL_law_369 rfl ?_
  refine v_sld (q := 371) hC dL_law_370 rfl hX (nI_add i 2) (by omega) hLL ?_
  refine v_aloadS_n (q := 372) hC dL_law_371 rfl rfl rfl ?_
  refine v_iload_n (q := 373) hC dL_law_372 rfl rfl rfl ?_
  refine v_iconst (q := 374) (v := 3) hC dL_law_373 rfl (by decide) ?_
  refine v_iadd (q := 375) hC dL_law_374 rfl ?_
  refine v_sld (q := 376) hC dL_law_375 rfl hX (nI_add i 3) (by omega) hLL ?_
  refine v_aloadS_n (q := 377) hC dL_law_376 rfl rfl rfl ?_
  refine v_iload_n (q := 378) hC dL_law_377 rfl rfl rfl ?_
  refine v_iconst (q := 379) (v := 4) hC dL_law_378 rfl (by decide) ?_
  refine v_iadd (q := 380) hC dL_law_379 rfl ?_
  refine v_sld (q := 381) hC dL_law_380 rfl hX (nI_add i 4) (by omega) hLL ?_
  refine v_callVQ (q := 384) (As := [_, _, _, _]) hC dL_law_381 rfl lL_52 mX12_may iX12_may eX12_may rfl (hL1.1 53 (by decide)) (md_may 0 hMd1 ok (xs (i + 1)) (xs (i + 2)) (xs (i + 3)) (xs (i + 4))) rfl rfl (by omega) (by decide) (Nat.le_of_ble_eq_true rfl) ?_ ⟨by omega, by omega⟩
  rintro _ σ2 ⟨rfl, hMd2, hf2⟩
  have hCl2 := hCl1.fm hf2
  refine v_icmp_eq (q := 387) (tgt := 831) hC dL_law_384 rfl (by decide) (fun h384 => ?_) (fun h384 => ?_)
  · exact kn σ2 _ kk nn hCl2 hMd2 (by have e2 : (sMay S (xs (i + 1)) (xs (i + 2)) (xs (i + 3)) (xs (i + 4))).2 = S := (by unfold sMay; repeat (first | rfl | split)); rw [e2]; exact ok.up (by omega)) (by omega) (by omega)
  · exact absurd rfl h384

set_option maxRecDepth 100000 in
set_option maxHeartbeats 4000000 in
theorem law_case_9 {X : zX} {b LL : Nat} {xs : Nat → Int32} (hC : zC X RL code 4 9 600000 7302250) (hX : zXs X b LL xs) {i B kk nn : Nat} (hi : i + 5 ≤ LL) (hLL : LL ≤ 320) {σ : zSt} {S : pS} (hCl : zCl σ S) (hMd : zMd σ S) (ok : pOk B S) (hB : B ≤ 1000) (hk : kk ≤ 1000) (hn : nn ≤ 100000) (kn : ∀ (σ' : zSt) (S' : pS) (k' n' : Nat), zCl σ' S' → zMd σ' S' → pOk (B + 1) S' → k' ≤ kk + 1 → n' ≤ nn + 1 → zV X 4 831 [some (.retAddr b), some (.ref 0), some (.ref 53), some (.int (nI i))] [] k' n' σ') : zV X 4 389 [some (.retAddr b), some (.ref 0), some (.ref 53), some (.int (nI i))] [] kk nn σ := by
  have hL := hCl.1
  have hn6 := hMd.2.2.1.2.1
  have hm12 := hMd.2.2.2.1.2.1
  refine v_aload_n (q := 390) hC dL_law_389 rfl rfl rfl ?_
  refine v_aloadS_n (q := 391) hC dL_law_390 rfl rfl rfl ?_
  refine v_iload_n (q := 392) hC dL_law_391 rfl rfl rfl ?_
  refine v_iconst (q := 393) (v := 1) hC dL_law_392 rfl (by decide) ?_
  refine v_iadd (q := 394) hC dL_law_393 rfl ?_
  refine v_sld (q := 395) hC dL_law_394 rfl hX (nI_add i 1) (by omega) hLL ?_
  refine v_aloadS_n (q := 396) hC dL_law_395 rfl rfl rfl ?_
  refine v_iload_n (q := 397) hC dL_law_396 rfl rfl rfl ?_
  refine v_iconst (q := 398) (v := 2) hC dL_law_397 rfl (by decide) ?_
  refine v_iadd (q := 399) hC dL_law_398 rfl ?_
  refine v_sld (q := 400) hC dL_law_399 rfl hX (nI_add i 2) (by omega) hLL ?_
  refine v_aloadS_n (q := 401) hC dL_law_400 rfl rfl rfl ?_
  refine v_iload_n (q := 402) hC dL_law_401 rfl rfl rfl ?_
  refine v_iconst (q := 403) (v := 3) hC dL_law_402 rfl (by decide) ?_
  refine v_iadd (q := 404) hC dL_law_403 rfl ?_
  refine v_sld (q := 405) hC dL_law_404 rfl hX (nI_add i 3) (by omega) hLL ?_
  refine v_aloadS_n (q := 406) hC dL_law_405 rfl rfl rfl ?_
  refine v_iload_n (q := 407) hC dL_law_406 rfl rfl rfl ?_
  refine v_iconst (q := 408) (v := 4) hC dL_law_407 rfl (by decide) ?_
  refine v_iadd (q := 409) hC dL_law_408 rfl ?_
  refine v_sld (q := 410) hC dL_law_409 rfl hX (nI_add i 4) (by omega) hLL ?_
  refine v_callVQ (q := 413) (As := [_, _, _, _]) hC dL_law_410 rfl lL_53 mX11_favour iX11_favour eX11_favour rfl (hL.1 0 (by decide)) (cl_favour 0 hCl ok (xs (i + 1)) (xs (i + 2)) (xs (i + 3)) (xs (i + 4))) rfl rfl (by omega) (by decide) (Nat.le_of_ble_eq_true rfl) ?_ ⟨by omega, by omega⟩
  rintro _ σ1 ⟨rfl, hCl1, hf1⟩
  have hMd1 := hMd.fc hCl1.1 hf1
  have hL1 := hCl1.1
  refine v_aload_n (q := 414) hC dL_law_413 rfl rfl rfl ?_
  refine v_aloadS_n (q := 415) hC dL_law_414 rfl rfl rfl ?_
  refine v_iload_n (q := 416) hC dL_law_415 rfl rfl rfl ?_
  refine v_iconst (q := 417) (v := 1) hC dL_law_416 rfl (by decide) ?_
  refine v_iadd (q := 418) hC dL_law_417 rfl ?_
  refine v_sld (q := 419) hC dL_law_418 rfl hX (nI_add i 1) (by omega) hLL ?_
  refine v_aloadS_n (q := 420) hC dL_law_419 rfl rfl rfl ?_
  refine v_iload_n (q := 421) hC dL_law_420 rfl rfl rfl ?_
  refine v_iconst (q := 422) (v := 2) hC dL_law_421 rfl (by decide) ?_
  refine v_iadd (q := 423) hC dL_law_422 rfl ?_
  refine v_sld (q := 424) hC dL_law_423 rfl hX (nI_add i 2) (by omega) hLL ?_
  refine v_aloadS_n (q := 425) hC dL_law_424 rfl rfl rfl ?_
  refine v_iload_n (q := 426) hC dL_law_425 rfl rfl rfl ?_
  refine v_iconst (q := 427) (v := 3) hC dL_law_426 rfl (by decide) ?_
  refine v_iadd (q := 428) hC dL_law_427 rfl ?_
  refine v_sld (q := 429) hC dL_law_428 rfl hX (nI_add i 3) (by omega) hLL ?_
  refine v_aloadS_n (q := 430) hC dL_law_429 rfl rfl rfl ?_
  refine v_iload_n (q := 431) hC dL_law_430 rfl rfl rfl ?_
  refine v_iconst (q := 432) (v := 4) hC dL_law_431 rfl (by decide) ?_
  refine v_iadd (q := 433) hC dL_law_432 rfl ?_
  refine v_sld (q := 434) hC dL_law_433 rfl hX (nI_add i 4) (by omega) hLL ?_
  refine v_callVQ (q := 437) (As := [_, _, _, _]) hC dL_law_434 rfl lL_56 mX12_favour iX12_favour eX12_favour rfl (hL1.1 53 (by decide)) (md_favour 0 hMd1 ok (xs (i + 1)) (xs (i + 2)) (xs (i + 3)) (xs (i + 4))) rfl rfl (by omega) (by decide) (Nat.le_of_ble_eq_true rfl) ?_ ⟨by omega, by omega⟩
  rintro _ σ2 ⟨rfl, hMd2, hf2⟩
  have hCl2 := hCl1.fm hf2
  refine v_icmp_eq (q := 440) (tgt := 831) hC dL_law_437 rfl (by decide) (fun h437 => ?_) (fun h437 => ?_)
  · exact kn σ2 _ kk nn hCl2 hMd2 (pOk.up (ok_favour ok hn6 hm12 (xs (i + 1)) (xs (i + 2)) (xs (i + 3)) (xs (i + 4))) (by omega)) (by omega) (by omega)
  · exact absurd rfl h437

set_option maxRecDepth 100000 in
set_option maxHeartbeats 4000000 in
theorem law_case_10 {X : zX} {b LL : Nat} {xs : Nat → Int32} (hC : zC X RL code 4 9 600000 7302250) (hX : zXs X b LL xs) {i B kk nn : Nat} (hi : i + 5 ≤ LL) (hLL : LL ≤ 320) {σ : zSt} {S : pS} (hCl : zCl σ S) (hMd : zMd σ S) (ok : pOk B S) (hB : B ≤ 1000) (hk : kk ≤ 1000) (hn : nn ≤ 100000) (kn : ∀ (σ' : zSt) (S' : pS) (k' n' : Nat), zCl σ' S' → zMd σ' S' → pOk (B + 1) S' → k' ≤ kk + 1 → n' ≤ nn + 1 → zV X 4 831 [some (.retAddr b), some (.ref 0), some (.ref 53), some (.int (nI i))] [] k' n' σ') : zV X 4 442 [some (.retAddr b), some (.ref 0), some (.ref 53), some (.int (nI i))] [] kk nn σ := by
  have hL := hCl.1
  have hn6 := hMd.2.2.1.2.1
  have hm12 := hMd.2.2.2.1.2.1
  refine v_aload_n (q := 443) hC dL_law_442 rfl rfl rfl ?_
  refine v_aloadS_n (q := 444) hC dL_law_443 rfl rfl rfl ?_
  refine v_iload_n (q := 445) hC dL_law_444 rfl rfl rfl ?_
  refine v_iconst (q := 446) (v := 1) hC dL_law_445 rfl (by decide) ?_
  refine v_iadd (q := 447) hC dL_law_446 rfl ?_
  refine v_sld (q := 448) hC dL_law_447 rfl hX (nI_add i 1) (by omega) hLL ?_
  refine v_aloadS_n (q := 449) hC dL_law_448 rfl rfl rfl ?_
  refine v_iload_n (q := 450) hC dL_law_449 rfl rfl rfl ?_
  refine v_iconst (q := 451) (v := 2) hC dL_law_450 rfl (by decide) ?_
  refine v_iadd (q := 452) hC dL_law_451 rfl ?_
  refine v_sld (q := 453) hC dL_law_452 rfl hX (nI_add i 2) (by omega) hLL ?_
  refine v_callVQ (q := 456) (As := [_, _]) hC dL_law_453 rfl lL_57 mX11_deed iX11_deed eX11_deed rfl (hL.1 0 (by decide)) (cl_deed 0 hCl ok (xs (i + 1)) (xs (i + 2))) rfl rfl (by omega) (by decide) (Nat.le_of_ble_eq_true rfl) ?_ ⟨by omega, by omega⟩
  rintro _ σ1 ⟨rfl, hCl1, hf1⟩
  have hMd1 := hMd.fc hCl1.1 hf1
  have hL1 := hCl1.1
  refine v_aload_n (q := 457) hC dL_law_456 rfl rfl rfl ?_
  refine v_aloadS_n (q := 458) hC dL_law_457 rfl rfl rfl ?_
  refine v_iload_n (q := 459) hC dL_law_458 rfl rfl rfl ?_
  refine v_iconst (q := 460) (v := 1) hC dL_law_459 rfl (by decide) ?_
  refine v_iadd (q := 461) hC dL_law_460 rfl ?_
  refine v_sld (q := 462) hC dL_law_461 rfl hX (nI_add i 1) (by omega) hLL ?_
  refine v_aloadS_n (q := 463) hC dL_law_462 rfl rfl rfl ?_
  refine v_iload_n (q := 464) hC dL_law_463 rfl rfl rfl ?_
  refine v_iconst (q := 465) (v := 2) hC dL_law_464 rfl (by decide) ?_
  refine v_iadd (q := 466) hC dL_law_465 rfl ?_
  refine v_sld (q := 467) hC dL_law_466 rfl hX (nI_add i 2) (by omega) hLL ?_
  refine v_callVQ (q := 470) (As := [_, _]) hC dL_law_467 rfl lL_60 mX12_deed iX12_deed eX12_deed rfl (hL1.1 53 (by decide)) (md_deed 0 hMd1 ok (xs (i + 1)) (xs (i + 2))) rfl rfl (by omega) (by decide) (Nat.le_of_ble_eq_true rfl) ?_ ⟨by omega, by omega⟩
  rintro _ σ2 ⟨rfl, hMd2, hf2⟩
  have hCl2 := hCl1.fm hf2
  refine v_icmp_eq (q := 473) (tgt := 831) hC dL_law_470 rfl (by decide) (fun h470 => ?_) (fun h470 => ?_)
  · exact kn σ2 _ kk nn hCl2 hMd2 (by have e2 : (sDeed S (xs (i + 1)) (xs (i + 2))).2 = S := (by unfold sDeed; repeat (first | rfl | split)); rw [e2]; exact ok.up (by omega)) (by omega) (by omega)
  · exact absurd rfl h470

set_option maxRecDepth 100000 in
set_option maxHeartbeats 4000000 in
theorem law_case_11 {X : zX} {b LL : Nat} {xs : Nat → Int32} (hC : zC X RL code 4 9 600000 7302250) (hX : zXs X b LL xs) {i B kk nn : Nat} (hi : i + 5 ≤ LL) (hLL : LL ≤ 320) {σ : zSt} {S : pS} (hCl : zCl σ S) (hMd : zMd σ S) (ok : pOk B S) (hB : B ≤ 1000) (hk : kk ≤ 1000) (hn : nn ≤ 100000) (kn : ∀ (σ' : zSt) (S' : pS) (k' n' : Nat), zCl σ' S' → zMd σ' S' → pOk (B + 1) S' → k' ≤ kk + 1 → n' ≤ nn + 1 → zV X 4 831 [some (.retAddr b), some (.ref 0), some (.ref 53), some (.int (nI i))] [] k' n' σ') : zV X 4 475 [some (.retAddr b), some (.ref 0), some (.ref 53), some (.int (nI i))] [] kk nn σ := by
  have hL := hCl.1
  have hn6 := hMd.2.2.1.2.1
  have hm12 := hMd.2.2.2.1.2.1
  refine v_aload_n (q := 476) hC dL_law_475 rfl rfl rfl ?_
  refine v_callVQ (q := 479) (As := []) hC dL_law_476 rfl lL_61 mX11_week iX11_week eX11_week rfl (hL.1 0 (by decide)) (cl_week 0 hCl ok) rfl rfl (by omega) (by decide) (Nat.le_of_ble_eq_true rfl) ?_ ⟨by omega, by omega⟩
  rintro _ σ1 ⟨rfl, hCl1, hf1⟩
  have hMd1 := hMd.fc hCl1.1 hf1
  have hL1 := hCl1.1
  refine v_aload_n (q := 480) hC dL_law_479 rfl rfl rfl ?_
  refine v_callVQ (q := 483) (As := []) hC dL_law_480 rfl lL_64 mX12_week iX12_week eX12_week rfl (hL1.1 53 (by decide)) (md_week 0 hMd1 ok) rfl rfl (by omega) (by decide) (Nat.le_of_ble_eq_true rfl) ?_ ⟨by omega, by omega⟩
  rintro _ σ2 ⟨rfl, hMd2, hf2⟩
  have hCl2 := hCl1.fm hf2
  refine v_icmp_eq (q := 486) (tgt := 831) hC dL_law_483 rfl (by decide) (fun h483 => ?_) (fun h483 => ?_)
  · exact kn σ2 _ kk nn hCl2 hMd2 (ok_week ok (by omega)) (by omega) (by omega)
  · exact absurd rfl h483

set_option maxRecDepth 100000 in
set_option maxHeartbeats 4000000 in
theorem law_case_12 {X : zX} {b LL : Nat} {xs : Nat → Int32} (hC : zC X RL code 4 9 600000 7302250) (hX : zXs X b LL xs) {i B kk nn : Nat} (hi : i + 5 ≤ LL) (hLL : LL ≤ 320) {σ : zSt} {S : pS} (hCl : zCl σ S) (hMd : zMd σ S) (ok : pOk B S) (hB : B ≤ 1000) (hk : kk ≤ 1000) (hn : nn ≤ 100000) (kn : ∀ (σ' : zSt) (S' : pS) (k' n' : Nat), zCl σ' S' → zMd σ' S' → pOk (B + 1) S' → k' ≤ kk + 1 → n' ≤ nn + 1 → zV X 4 831 [some (.retAddr b), some (.ref 0), some (.ref 53), some (.int (nI i))] [] k' n' σ') : zV X 4 488 [some (.retAddr b), some (.ref 0), some (.ref 53), some (.int (nI i))] [] kk nn σ := by
  have hL := hCl.1
  have hn6 := hMd.2.2.1.2.1
  have hm12 := hMd.2.2.2.1.2.1
  refine v_aload_n (q := 489) hC dL_law_488 rfl rfl rfl ?_
  refine v_aloadS_n (q := 490) hC dL_law_489 rfl rfl rfl ?_
  refine v_iload_n (q := 491) hC dL_law_490 rfl rfl rfl ?_
  refine v_iconst (q := 492) (v := 1) hC dL_law_491 rfl (by decide) ?_
  refine v_iadd (q := 493) hC dL_law_492 rfl ?_
  refine v_sld (q := 494) hC dL_law_493 rfl hX (nI_add i 1) (by omega) hLL ?_
  refine v_aloadS_n (q := 495) hC dL_law_494 rfl rfl rfl ?_
  refine v_iload_n (q := 496) hC dL_law_495 rfl rfl rfl ?_
  refine v_iconst (q := 497) (v := 2) hC dL_law_496 rfl (by decide) ?_
  refine v_iadd (q := 498) hC dL_law_497 rfl ?_
  refine v_sld (q := 499) hC dL_law_498 rfl hX (nI_add i 2) (by omega) hLL ?_
  refine v_aloadS_n (q := 500) hC dL_law_499 rfl rfl rfl ?_
  refine v_iload_n (q := 501) hC dL_law_500 rfl rfl rfl ?_
  refine v_iconst (q := 502) (v := 3) hC dL_law_501 rfl (by decide) ?_
  refine v_iadd (q := 503) hC dL_law_502 rfl ?_
  refine v_sld (q := 504) hC dL_law_503 rfl hX (nI_add i 3) (by omega) hLL ?_
  refine v_callVQ (q := 507) (As := [_, _, _]) hC dL_law_504 rfl lL_65 mX11_way iX11_way eX11_way rfl (hL.1 0 (by decide)) (cl_way 0 hCl ok (xs (i + 1)) (xs (i + 2)) (xs (i + 3))) rfl rfl (by omega) (by decide) (Nat.le_of_ble_eq_true rfl) ?_ ⟨by omega, by omega⟩
  rintro _ σ1 ⟨rfl, hCl1, hf1⟩
  have hMd1 := hMd.fc hCl1.1 hf1
  have hL1 := hCl1.1
  refine v_aload_n (q := 508) hC dL_law_507 rfl rfl rfl ?_
  refine v_aloadS_n (q := 509) hC dL_law_508 rfl rfl rfl ?_
  refine v_iload_n (q := 510) hC dL_law_509 rfl rfl rfl ?_
  refine v_iconst (q := 511) (v := 1) hC dL_law_510 rfl (by decide) ?_
  refine v_iadd (q := 512) hC dL_law_511 rfl ?_
  refine v_sld (q := 513) hC dL_law_512 rfl hX (nI_add i 1) (by omega) hLL ?_
  refine v_aloadS_n (q := 514) hC dL_law_513 rfl rfl rfl ?_
  refine v_iload_n (q := 515) hC dL_law_514 rfl rfl rfl ?_
  refine v_iconst (q := 516) (v := 2) hC dL_law_515 rfl (by decide) ?_
  refine v_iadd (q := 517) hC dL_law_516 rfl ?_
  refine v_sld (q := 518) hC dL_law_517 rfl hX (nI_add i 2) (by omega) hLL ?_
  refine v_aloadS_n (q := 519) hC dL_law_518 rfl rfl rfl ?_
  refine v_iload_n (q := 520) hC dL_law_519 rfl rfl rfl ?_
  refine v_iconst (q := 521) (v := 3) hC dL_law_520 rfl (by decide) ?_
  refine v_iadd (q := 522) hC dL_law_521 rfl ?_
  refine v_sld (q := 523) hC dL_law_522 rfl hX (nI_add i 3) (by omega) hLL ?_
  refine v_callVQ (q := 526) (As := [_, _, _]) hC dL_law_523 rfl lL_69 mX12_way iX12_way eX12_way rfl (hL1.1 53 (by decide)) (md_way 0 hMd1 ok (xs (i + 1)) (xs (i + 2)) (xs (i + 3))) rfl rfl (by omega) (by decide) (Nat.le_of_ble_eq_true rfl) ?_ ⟨by omega, by omega⟩
  rintro _ σ2 ⟨rfl, hMd2, hf2⟩
  have hCl2 := hCl1.fm hf2
  refine v_icmp_eq (q := 529) (tgt := 831) hC dL_law_526 rfl (by decide) (fun h526 => ?_) (fun h526 => ?_)
  · exact kn σ2 _ kk nn hCl2 hMd2 (by have e2 : (sWay S (xs (i + 1)) (xs (i + 2)) (xs (i + 3))).2 = S := (by unfold sWay; repeat (first | rfl | split)); rw [e2]; exact ok.up (by omega)) (by omega) (by omega)
  · exact absurd rfl h526

set_option maxRecDepth 100000 in
set_option maxHeartbeats 4000000 in
theorem law_case_13 {X : zX} {b LL : Nat} {xs : Nat → Int32} (hC : zC X RL code 4 9 600000 7302250) (hX : zXs X b LL xs) {i B kk nn : Nat} (hi : i + 5 ≤ LL) (hLL : LL ≤ 320) {σ : zSt} {S : pS} (hCl : zCl σ S) (hMd : zMd σ S) (ok : pOk B S) (hB : B ≤ 1000) (hk : kk ≤ 1000) (hn : nn ≤ 100000) (kn : ∀ (σ' : zSt) (S' : pS) (k' n' : Nat), zCl σ' S' → zMd σ' S' → pOk (B + 1) S' → k' ≤ kk + 1 → n' ≤ nn + 1 → zV X 4 831 [some (.retAddr b), some (.ref 0), some (.ref 53), some (.int (nI i))] [] k' n' σ') : zV X 4 531 [some (.retAddr b), some (.ref 0), some (.ref 53), some (.int (nI i))] [] kk nn σ := by
  have hL := hCl.1
  have hn6 := hMd.2.2.1.2.1
  have hm12 := hMd.2.2.2.1.2.1
  refine v_aload_n (q := 532) hC dL_law_531 rfl rfl rfl ?_
  refine v_aloadS_n (q := 533) hC dL_law_532 rfl rfl rfl ?_
  refine v_iload_n (q := 534) hC dL_law_533 rfl rfl rfl ?_
  refine v_iconst (q := 535) (v := 1) hC dL_law_534 rfl (by decide) ?_
  refine v_iadd (q := 536) hC dL_law_535 rfl ?_
  refine v_sld (q := 537) hC dL_law_536 rfl hX (nI_add i 1) (by omega) hLL ?_
  refine v_callVQ (q := 540) (As := [_]) hC dL_law_537 rfl lL_70 mX11_reach iX11_reach eX11_reach rfl (hL.1 0 (by decide)) (cl_reach 0 hCl ok (xs (i + 1))) rfl rfl (by omega) (by decide) (Nat.le_of_ble_eq_true rfl) ?_ ⟨by omega, by omega⟩
  rintro _ σ1 ⟨rfl, hCl1, hf1⟩
  have hMd1 := hMd.fc hCl1.1 hf1
  have hL1 := hCl1.1
  refine v_aload_n (q := 541) hC dL_law_540 rfl rfl rfl ?_
  refine v_aloadS_n (q := 542) hC dL_law_541 rfl rfl rfl ?_
  refine v_iload_n (q := 543) hC dL_law_542 rfl rfl rfl ?_
  refine v_iconst (q := 544) (v := 1) hC dL_law_543 rfl (by decide) ?_
  refine v_iadd (q := 545) hC dL_law_544 rfl ?_
  refine v_sld (q := 546) hC dL_law_545 rfl hX (nI_add i 1) (by omega) hLL ?_
  refine v_callVQ (q := 549) (As := [_]) hC dL_law_546 rfl lL_73 mX12_reach iX12_reach eX12_reach rfl (hL1.1 53 (by decide)) (md_reach 0 hMd1 ok (xs (i + 1))) rfl rfl (by omega) (by decide) (Nat.le_of_ble_eq_true rfl) ?_ ⟨by omega, by omega⟩
  rintro _ σ2 ⟨rfl, hMd2, hf2⟩
  have hCl2 := hCl1.fm hf2
  refine v_icmp_eq (q := 552) (tgt := 831) hC dL_law_549 rfl (by decide) (fun h549 => ?_) (fun h549 => ?_)
  · exact kn σ2 _ kk nn hCl2 hMd2 (by have e2 : (sReach S (xs (i + 1))).2 = S := (by unfold sReach; repeat (first | rfl | split)); rw [e2]; exact ok.up (by omega)) (by omega) (by omega)
  · exact absurd rfl h549

set_option maxRecDepth 100000 in
set_option maxHeartbeats 4000000 in
theorem law_case_14 {X : zX} {b LL : Nat} {xs : Nat → Int32} (hC : zC X RL code 4 9 600000 7302250) (hX : zXs X b LL xs) {i B kk nn : Nat} (hi : i + 5 ≤ LL) (hLL : LL ≤ 320) {σ : zSt} {S : pS} (hCl : zCl σ S) (hMd : zMd σ S) (ok : pOk B S) (hB : B ≤ 1000) (hk : kk ≤ 1000) (hn : nn ≤ 100000) (kn : ∀ (σ' : zSt) (S' : pS) (k' n' : Nat), zCl σ' S' → zMd σ' S' → pOk (B + 1) S' → k' ≤ kk + 1 → n' ≤ nn + 1 → zV X 4 831 [some (.retAddr b), some (.ref 0), some (.ref 53), some (.int (nI i))] [] k' n' σ') : zV X 4 554 [some (.retAddr b), some (.ref 0), some (.ref 53), some (.int (nI i))] [] kk nn σ := by
  have hL := hCl.1
  have hn6 := hMd.2.2.1.2.1
  have hm12 := hMd.2.2.2.1.2.1
  refine v_aload_n (q := 555) hC dL_law_554 rfl rfl rfl ?_
  refine v_aloadS_n (q := 556) hC dL_law_555 rfl rfl rfl ?_
  refine v_iload_n (q := 557) hC dL_law_556 rfl rfl rfl ?_
  refine v_iconst (q := 558) (v := 1) hC dL_law_557 rfl (by decide) ?_
  refine v_iadd (q := 559) hC dL_law_558 rfl ?_
  refine v_sld (q := 560) hC dL_law_559 rfl hX (nI_add i 1) (by omega) hLL ?_
  refine v_aloadS_n (q := 561) hC dL_law_560 rfl rfl rfl ?_
  refine v_iload_n (q := 562) hC dL_law_561 rfl rfl rfl ?_
  refine v_iconst (q := 563) (v := 2) hC dL_law_562 rfl (by decide) ?_
  refine v_iadd (q := 564) hC dL_law_563 rfl ?_
  refine v_sld (q := 565) hC dL_law_564 rfl hX (nI_add i 2) (by omega) hLL ?_
  refine v_callVQ (q := 568) (As := [_, _]) hC dL_law_565 rfl lL_74 mX11_bars iX11_bars eX11_bars rfl (hL.1 0 (by decide)) (cl_bars 0 hCl ok (xs (i + 1)) (xs (i + 2))) rfl rfl (by omega) (by decide) (Nat.le_of_ble_eq_true rfl) ?_ ⟨by omega, by omega⟩
  rintro _ σ1 ⟨rfl, hCl1, hf1⟩
  have hMd1 := hMd.fc hCl1.1 hf1
  have hL1 := hCl1.1
  refine v_aload_n (q := 569) hC dL_law_568 rfl rfl rfl ?_
  refine v_aloadS_n (q := 570) hC dL_law_569 rfl rfl rfl ?_
  refine v_iload_n (q := 571) hC dL_law_570 rfl rfl rfl ?_
  refine v_iconst (q := 572) (v := 1) hC dL_law_571 rfl (by decide) ?_
  refine v_iadd (q := 573) hC dL_law_572 rfl ?_
  refine v_sld (q := 574) hC dL_law_573 rfl hX (nI_add i 1) (by omega) hLL ?_
  refine v_aloadS_n (q := 575) hC dL_law_574 rfl rfl rfl ?_
  refine v_iload_n (q := 576) hC dL_law_575 rfl rfl rfl ?_
  refine v_iconst (q := 577) (v := 2) hC dL_law_576 rfl (by decide) ?_
  refine v_iadd (q := 578) hC dL_law_577 rfl ?_
  refine v_sld (q := 579) hC dL_law_578 rfl hX (nI_add i 2) (by omega) hLL ?_
  refine v_callVQ (q := 582) (As := [_, _]) hC dL_law_579 rfl lL_77 mX12_bars iX12_bars eX12_bars rfl (hL1.1 53 (by decide)) (md_bars 0 hMd1 ok (xs (i + 1)) (xs (i + 2))) rfl rfl (by omega) (by decide) (Nat.le_of_ble_eq_true rfl) ?_ ⟨by omega, by omega⟩
  rintro _ σ2 ⟨rfl, hMd2, hf2⟩
  have hCl2 := hCl1.fm hf2
  refine v_icmp_eq (q := 585) (tgt := 831) hC dL_law_582 rfl (by decide) (fun h582 => ?_) (fun h582 => ?_)
  · exact kn σ2 _ kk nn hCl2 hMd2 (by have e2 : (sBars S (xs (i + 1)) (xs (i + 2))).2 = S := (by unfold sBars; repeat (first | rfl | split)); rw [e2]; exact ok.up (by omega)) (by omega) (by omega)
  · exact absurd rfl h582

set_option maxRecDepth 100000 in
set_option maxHeartbeats 4000000 in
theorem law_case_15 {X : zX} {b LL : Nat} {xs : Nat → Int32} (hC : zC X RL code 4 9 600000 7302250) (hX : zXs X b LL xs) {i B kk nn : Nat} (hi : i + 5 ≤ LL) (hLL : LL ≤ 320) {σ : zSt} {S : pS} (hCl : zCl σ S) (hMd : zMd σ S) (ok : pOk B S) (hB : B ≤ 1000) (hk : kk ≤ 1000) (hn : nn ≤ 100000) (kn : ∀ (σ' : zSt) (S' : pS) (k' n' : Nat), zCl σ' S' → zMd σ' S' → pOk (B + 1) S' → k' ≤ kk + 1 → n' ≤ nn + 1 → zV X 4 831 [some (.retAddr b), some (.ref 0), some (.ref 53), some (.int (nI i))] [] k' n' σ') : zV X 4 587 [some (.retAddr b), some (.ref 0), some (.ref 53), some (.int (nI i))] [] kk nn σ := by
  have hL := hCl.1
  have hn6 := hMd.2.2.1.2.1
  have hm12 := hMd.2.2.2.1.2.1
  refine v_aload_n (q := 588) hC dL_law_587 rfl rfl rfl ?_
  refine v_aloadS_n (q := 589) hC dL_law_588 rfl rfl rfl ?_
  refine v_iload_n (q := 590) hC dL_law_589 rfl rfl rfl ?_
  refine v_iconst (q := 591) (v := 1) hC dL_law_590 rfl (by decide) ?_
  refine v_iadd (q := 592) hC dL_law_591 rfl ?_
  refine v_sld (q := 593) hC dL_law_592 rfl hX (nI_add i 1) (by omega) hLL ?_
  refine v_aloadS_n (q := 594) hC dL_law_593 rfl rfl rfl ?_
  refine v_iload_n (q := 595) hC dL_law_594 rfl rfl rfl ?_
  refine v_iconst (q := 596) (v := 2) hC dL_law_595 rfl (by decide) ?_
  refine v_iadd (q := 597) hC dL_law_596 rfl ?_
  refine v_sld (q := 598) hC dL_law_597 rfl hX (nI_add i 2) (by omega) hLL ?_
  refine v_callVQ (q := 601) (As := [_, _]) hC dL_law_598 rfl lL_78 mX11_meeting iX11_meeting eX11_meeting rfl (hL.1 0 (by decide)) (cl_meeting 0 hCl ok (xs (i + 1)) (xs (i + 2))) rfl rfl (by omega) (by decide) (Nat.le_of_ble_eq_true rfl) ?_ ⟨by omega, by omega⟩
  rintro _ σ1 ⟨rfl, hCl1, hf1⟩
  have hMd1 := hMd.fc hCl1.1 hf1
  have hL1 := hCl1.1
  refine v_aload_n (q := 602) hC dL_law_601 rfl rfl rfl ?_
  refine v_aloadS_n (q := 603) hC dL_law_602 rfl rfl rfl ?_
  refine v_iload_n (q := 604) hC dL_law_603 rfl rfl rfl ?_
  refine v_iconst (q := 605) (v := 1) hC dL_law_604 rfl (by decide) ?_
  refine v_iadd (q := 606) hC dL_law_605 rfl ?_
  refine v_sld (q := 607) hC dL_law_606 rfl hX (nI_add i 1) (by omega) hLL ?_
  refine v_aloadS_n (q := 608) hC dL_law_607 rfl rfl rfl ?_
  refine v_iload_n (q := 609) hC dL_law_608 rfl rfl rfl ?_
  refine v_iconst (q := 610) (v := 2) hC dL_law_609 rfl (by decide) ?_
  refine v_iadd (q := 611) hC dL_law_610 rfl ?_
  refine v_sld (q := 612) hC dL_law_611 rfl hX (nI_add i 2) (by omega) hLL ?_
  refine v_callVQ (q := 615) (As := [_, _]) hC dL_law_612 rfl lL_81 mX12_meeting iX12_meeting eX12_meeting rfl (hL1.1 53 (by decide)) (md_meeting 0 hMd1 ok (xs (i + 1)) (xs (i + 2))) rfl rfl (by omega) (by decide) (Nat.le_of_ble_eq_true rfl) ?_ ⟨by omega, by omega⟩
  rintro _ σ2 ⟨rfl, hMd2, hf2⟩
  have hCl2 := hCl1.fm hf2
  refine v_icmp_eq (q := 618) (tgt := 831) hC dL_law_615 rfl (by decide) (fun h615 => ?_) (fun h615 => ?_)
  · exact kn σ2 _ kk nn hCl2 hMd2 (by have e2 : (sMeeting S (xs (i + 1)) (xs (i + 2))).2 = S := (by unfold sMeeting; repeat (first | rfl | split)); rw [e2]; exact ok.up (by omega)) (by omega) (by omega)
  · exact absurd rfl h615

set_option maxRecDepth 100000 in
set_option maxHeartbeats 4000000 in
theorem law_case_16 {X : zX} {b LL : Nat} {xs : Nat → Int32} (hC : zC X RL code 4 9 600000 7302250) (hX : zXs X b LL xs) {i B kk nn : Nat} (hi : i + 5 ≤ LL) (hLL : LL ≤ 320) {σ : zSt} {S : pS} (hCl : zCl σ S) (hMd : zMd σ S) (ok : pOk B S) (hB : B ≤ 1000) (hk : kk ≤ 1000) (hn : nn ≤ 100000) (kn : ∀ (σ' : zSt) (S' : pS) (k' n' : Nat), zCl σ' S' → zMd σ' S' → pOk (B + 1) S' → k' ≤ kk + 1 → n' ≤ nn + 1 → zV X 4 831 [some (.retAddr b), some (.ref 0), some (.ref 53), some (.int (nI i))] [] k' n' σ') : zV X 4 620 [some (.retAddr b), some (.ref 0), some (.ref 53), some (.int (nI i))] [] kk nn σ := by
  have hL := hCl.1
  have hn6 := hMd.2.2.1.2.1
  have hm12 := hMd.2.2.2.1.2.1
  refine v_aload_n (q := 621) hC dL_law_620 rfl rfl rfl ?_
  refine v_aloadS_n (q := 622) hC dL_law_621 rfl rfl rfl ?_
  refine v_iload_n (q := 623) hC dL_law_622 rfl rfl rfl ?_
  refine v_iconst (q := 624) (v := 1) hC dL_law_623 rfl (by decide) ?_
  refine v_iadd (q := 625) hC dL_law_624 rfl ?_
  refine v_sld (q := 626) hC dL_law_625 rfl hX (nI_add i 1) (by omega) hLL ?_
  refine v_aloadS_n (q := 627) hC dL_law_626 rfl rfl rfl ?_
  refine v_iload_n (q := 628) hC dL_law_627 rfl rfl rfl ?_
  refine v_iconst (q := 629) (v := 2) hC dL_law_628 rfl (by decide) ?_
  refine v_iadd (q := 630) hC dL_law_629 rfl ?_
  refine v_sld (q := 631) hC dL_law_630 rfl hX (nI_add i 2) (by omega) hLL ?_
  refine v_callVQ (q := 634) (As := [_, _]) hC dL_law_631 rfl lL_82 mX11_rings iX11_rings eX11_rings rfl (hL.1 0 (by decide)) (cl_rings 0 hCl ok (xs (i + 1)) (xs (i + 2))) rfl rfl (by omega) (by decide) (Nat.le_of_ble_eq_true rfl) ?_ ⟨by omega, by omega⟩
  rintro _ σ1 ⟨rfl, hCl1, hf1⟩
  have hMd1 := hMd.fc hCl1.1 hf1
  have hL1 := hCl1.1
  refine v_aload_n (q := 635) hC dL_law_634 rfl rfl rfl ?_
  refine v_aloadS_n (q := 636) hC dL_law_635 rfl rfl rfl ?_
  refine v_iload_n (q := 637) hC dL_law_636 rfl rfl rfl ?_
  refine v_iconst (q := 638) (v := 1) hC dL_law_637 rfl (by decide) ?_
  refine v_iadd (q := 639) hC dL_law_638 rfl ?_
  refine v_sld (q := 640) hC dL_law_639 rfl hX (nI_add i 1) (by omega) hLL ?_
  refine v_aloadS_n (q := 641) hC dL_law_640 rfl rfl rfl ?_
  refine v_iload_n (q := 642) hC dL_law_641 rfl rfl rfl ?_
  refine v_iconst (q := 643) (v := 2) hC dL_law_642 rfl (by decide) ?_
  refine v_iadd (q := 644) hC dL_law_643 rfl ?_
  refine v_sld (q := 645) hC dL_law_644 rfl hX (nI_add i 2) (by omega) hLL ?_
  refine v_callVQ (q := 648) (As := [_, _]) hC dL_law_645 rfl lL_85 mX12_rings iX12_rings eX12_rings rfl (hL1.1 53 (by decide)) (md_rings 0 hMd1 ok (xs (i + 1)) (xs (i + 2))) rfl rfl (by omega) (by decide) (Nat.le_of_ble_eq_true rfl) ?_ ⟨by omega, by omega⟩
  rintro _ σ2 ⟨rfl, hMd2, hf2⟩
  have hCl2 := hCl1.fm hf2
  refine v_icmp_eq (q := 651) (tgt := 831) hC dL_law_648 rfl (by decide) (fun h648 => ?_) (fun h648 => ?_)
  · exact kn σ2 _ kk nn hCl2 hMd2 (by have e2 : (sRings S (xs (i + 1)) (xs (i + 2))).2 = S := (by unfold sRings; repeat (first | rfl | split)); rw [e2]; exact ok.up (by omega)) (by omega) (by omega)
  · exact absurd rfl h648

set_option maxRecDepth 100000 in
set_option maxHeartbeats 4000000 in
theorem law_case_17 {X : zX} {b LL : Nat} {xs : Nat → Int32} (hC : zC X RL code 4 9 600000 7302250) (hX : zXs X b LL xs) {i B kk nn : Nat} (hi : i + 5 ≤ LL) (hLL : LL ≤ 320) {σ : zSt} {S : pS} (hCl : zCl σ S) (hMd : zMd σ S) (ok : pOk B S) (hB : B ≤ 1000) (hk : kk ≤ 1000) (hn : nn ≤ 100000) (kn : ∀ (σ' : zSt) (S' : pS) (k' n' : Nat), zCl σ' S' → zMd σ' S' → pOk (B + 1) S' → k' ≤ kk + 1 → n' ≤ nn + 1 → zV X 4 831 [some (.retAddr b), some (.ref 0), some (.ref 53), some (.int (nI i))] [] k' n' σ') : zV X 4 653 [some (.retAddr b), some (.ref 0), some (.ref 53), some (.int (nI i))] [] kk nn σ := by
  have hL := hCl.1
  have hn6 := hMd.2.2.1.2.1
  have hm12 := hMd.2.2.2.1.2.1
  refine v_aload_n (q := 654) hC dL_law_653 rfl rfl rfl ?_
  refine v_aloadS_n (q := 655) hC dL_law_654 rfl rfl rfl ?_
  refine v_iload_n (q := 656) hC dL_law_655 rfl rfl rfl ?_
  refine v_iconst (q := 657) (v := 1) hC dL_law_656 rfl (by decide) ?_
  refine v_iadd (q := 658) hC dL_law_657 rfl ?_
  refine v_sld (q := 659) hC dL_law_658 rfl hX (nI_add i 1) (by omega) hLL ?_
  refine v_callVQ (q := 662) (As := [_]) hC dL_law_659 rfl lL_86 mX11_thanks iX11_thanks eX11_thanks rfl (hL.1 0 (by decide)) (cl_thanks 0 hCl ok (xs (i + 1))) rfl rfl (by omega) (by decide) (Nat.le_of_ble_eq_true rfl) ?_ ⟨by omega, by omega⟩
  rintro _ σ1 ⟨rfl, hCl1, hf1⟩
  have hMd1 := hMd.fc hCl1.1 hf1
  have hL1 := hCl1.1
  refine v_aload_n (q := 663) hC dL_law_662 rfl rfl rfl ?_
  refine v_aloadS_n (q := 664) hC dL_law_663 rfl rfl rfl ?_
  refine v_iload_n (q := 665) hC dL_law_664 rfl rfl rfl ?_
  refine v_iconst (q := 666) (v := 1) hC dL_law_665 rfl (by decide) ?_
  refine v_iadd (q := 667) hC dL_law_666 rfl ?_
  refine v_sld (q := 668) hC dL_law_667 rfl hX (nI_add i 1) (by omega) hLL ?_
  refine v_callVQ (q := 671) (As := [_]) hC dL_law_668 rfl lL_89 mX12_thanks iX12_thanks eX12_thanks rfl (hL1.1 53 (by decide)) (md_thanks 0 hMd1 ok (xs (i + 1))) rfl rfl (by omega) (by decide) (Nat.le_of_ble_eq_true rfl) ?_ ⟨by omega, by omega⟩
  rintro _ σ2 ⟨rfl, hMd2, hf2⟩
  have hCl2 := hCl1.fm hf2
  refine v_icmp_eq (q := 674) (tgt := 831) hC dL_law_671 rfl (by decide) (fun h671 => ?_) (fun h671 => ?_)
  · exact kn σ2 _ kk nn hCl2 hMd2 (pOk.up (ok_thanks ok hn6 (xs (i + 1))) (by omega)) (by omega) (by omega)
  · exact absurd rfl h671

set_option maxRecDepth 100000 in
set_option maxHeartbeats 4000000 in
theorem law_case_18 {X : zX} {b LL : Nat} {xs : Nat → Int32} (hC : zC X RL code 4 9 600000 7302250) (hX : zXs X b LL xs) {i B kk nn : Nat} (hi : i + 5 ≤ LL) (hLL : LL ≤ 320) {σ : zSt} {S : pS} (hCl : zCl σ S) (hMd : zMd σ S) (ok : pOk B S) (hB : B ≤ 1000) (hk : kk ≤ 1000) (hn : nn ≤ 100000) (kn : ∀ (σ' : zSt) (S' : pS) (k' n' : Nat), zCl σ' S' → zMd σ' S' → pOk (B + 1) S' → k' ≤ kk + 1 → n' ≤ nn + 1 → zV X 4 831 [some (.retAddr b), some (.ref 0), some (.ref 53), some (.int (nI i))] [] k' n' σ') : zV X 4 676 [some (.retAddr b), some (.ref 0), some (.ref 53), some (.int (nI i))] [] kk nn σ := by
  have hL := hCl.1
  have hn6 := hMd.2.2.1.2.1
  have hm12 := hMd.2.2.2.1.2.1
  refine v_aload_n (q := 677) hC dL_law_676 rfl rfl rfl ?_
  refine v_callVQ (q := 680) (As := []) hC dL_law_677 rfl lL_90 mX11_forget iX11_forget eX11_forget rfl (hL.1 0 (by decide)) (cl_forget 0 hCl ok) rfl rfl (by omega) (by decide) (Nat.le_of_ble_eq_true rfl) ?_ ⟨by omega, by omega⟩
  rintro _ σ1 ⟨rfl, hCl1, hf1⟩
  have hMd1 := hMd.fc hCl1.1 hf1
  have hL1 := hCl1.1
  refine v_aload_n (q := 681) hC dL_law_680 rfl rfl rfl ?_
  refine v_callVQ (q := 684) (As := []) hC dL_law_681 rfl lL_93 mX12_forget iX12_forget eX12_forget rfl (hL1.1 53 (by decide)) (md_forget 0 hMd1 ok) rfl rfl (by omega) (by decide) (Nat.le_of_ble_eq_true rfl) ?_ ⟨by omega, by omega⟩
  rintro _ σ2 ⟨rfl, hMd2, hf2⟩
  have hCl2 := hCl1.fm hf2
  refine v_icmp_eq (q := 687) (tgt := 831) hC dL_law_684 rfl (by decide) (fun h684 => ?_) (fun h684 => ?_)
  · exact kn σ2 _ kk nn hCl2 hMd2 (pOk.up (ok_forget ok) (by omega)) (by omega) (by omega)
  · exact absurd rfl h684

set_option maxRecDepth 100000 in
set_option maxHeartbeats 4000000 in
theorem law_case_19 {X : zX} {b LL : Nat} {xs : Nat → Int32} (hC : zC X RL code 4 9 600000 7302250) (hX : zXs X b LL xs) {i B kk nn : Nat} (hi : i + 5 ≤ LL) (hLL : LL ≤ 320) {σ : zSt} {S : pS} (hCl : zCl σ S) (hMd : zMd σ S) (ok : pOk B S) (hB : B ≤ 1000) (hk : kk ≤ 1000) (hn : nn ≤ 100000) (kn : ∀ (σ' : zSt) (S' : pS) (k' n' : Nat), zCl σ' S' → zMd σ' S' → pOk (B + 1) S' → k' ≤ kk + 1 → n' ≤ nn + 1 → zV X 4 831 [some (.retAddr b), some (.ref 0), some (.ref 53), some (.int (nI i))] [] k' n' σ') : zV X 4 689 [some (.retAddr b), some (.ref 0), some (.ref 53), some (.int (nI i))] [] kk nn σ := by
  have hL := hCl.1
  have hn6 := hMd.2.2.1.2.1
  have hm12 := hMd.2.2.2.1.2.1
  refine v_aload_n (q := 690) hC dL_law_689 rfl rfl rfl ?_
  refine v_callVQ (q := 693) (As := []) hC dL_law_690 rfl lL_94 mX11_fits iX11_fits eX11_fits rfl (hL.1 0 (by decide)) (cl_fits 0 hCl ok) rfl rfl (by omega) (by decide) (Nat.le_of_ble_eq_true rfl) ?_ ⟨by omega, by omega⟩
  rintro _ σ1 ⟨rfl, hCl1, hf1⟩
  have hMd1 := hMd.fc hCl1.1 hf1
  have hL1 := hCl1.1
  refine v_aload_n (q := 694) hC dL_law_693 rfl rfl rfl ?_
  refine v_callVQ (q := 697) (As := []) hC dL_law_694 rfl lL_97 mX12_fits iX12_fits eX12_fits rfl (hL1.1 53 (by decide)) (md_fits 0 hMd1 ok) rfl rfl (by omega) (by decide) (Nat.le_of_ble_eq_true rfl) ?_ ⟨by omega, by omega⟩
  rintro _ σ2 ⟨rfl, hMd2, hf2⟩
  have hCl2 := hCl1.fm hf2
  refine v_icmp_eq (q := 700) (tgt := 831) hC dL_law_697 rfl (by decide) (fun h697 => ?_) (fun h697 => ?_)
  · exact kn σ2 _ kk nn hCl2 hMd2 (by have e2 : (sFits S ).2 = S := (by unfold sFits; repeat (first | rfl | split)); rw [e2]; exact ok.up (by omega)) (by omega) (by omega)
  · exact absurd rfl h697

set_option maxRecDepth 100000 in
set_option maxHeartbeats 4000000 in
theorem law_case_20 {X : zX} {b LL : Nat} {xs : Nat → Int32} (hC : zC X RL code 4 9 600000 7302250) (hX : zXs X b LL xs) {i B kk nn : Nat} (hi : i + 5 ≤ LL) (hLL : LL ≤ 320) {σ : zSt} {S : pS} (hCl : zCl σ S) (hMd : zMd σ S) (ok : pOk B S) (hB : B ≤ 1000) (hk : kk ≤ 1000) (hn : nn ≤ 100000) (kn : ∀ (σ' : zSt) (S' : pS) (k' n' : Nat), zCl σ' S' → zMd σ' S' → pOk (B + 1) S' → k' ≤ kk + 1 → n' ≤ nn + 1 → zV X 4 831 [some (.retAddr b), some (.ref 0), some (.ref 53), some (.int (nI i))] [] k' n' σ') : zV X 4 702 [some (.retAddr b), some (.ref 0), some (.ref 53), some (.int (nI i))] [] kk nn σ := by
  have hL := hCl.1
  have hn6 := hMd.2.2.1.2.1
  have hm12 := hMd.2.2.2.1.2.1
  refine v_aload_n (q := 703) hC dL_law_702 rfl rfl rfl ?_
  refine v_aloadS_n (q := 704) hC dL_law_703 rfl rfl rfl ?_
  refine v_iload_n (q := 705) hC dL_law_704 rfl rfl rfl ?_
  refine v_iconst (q := 706) (v := 1) hC dL_law_705 rfl (by decide) ?_
  refine v_iadd (q := 707) hC dL_law_706 rfl ?_
  refine v_sld (q := 708) hC dL_law_707 rfl hX (nI_add i 1) (by omega) hLL ?_
  refine v_callVQ (q := 711) (As := [_]) hC dL_law_708 rfl lL_98 mX11_sure iX11_sure eX11_sure rfl (hL.1 0 (by decide)) (cl_sure 0 hCl ok (xs (i + 1))) rfl rfl (by omega) (by decide) (Nat.le_of_ble_eq_true rfl) ?_ ⟨by omega, by omega⟩
  rintro _ σ1 ⟨rfl, hCl1, hf1⟩
  have hMd1 := hMd.fc hCl1.1 hf1
  have hL1 := hCl1.1
  refine v_aload_n (q := 712) hC dL_law_711 rfl rfl rfl ?_
  refine v_aloadS_n (q := 713) hC dL_law_712 rfl rfl rfl ?_
  refine v_iload_n (q := 714) hC dL_law_713 rfl rfl rfl ?_
  refine v_iconst (q := 715) (v := 1) hC dL_law_714 rfl (by decide) ?_
  refine v_iadd (q := 716) hC dL_law_715 rfl ?_
  refine v_sld (q := 717) hC dL_law_716 rfl hX (nI_add i 1) (by omega) hLL ?_
  refine v_callVQ (q := 720) (As := [_]) hC dL_law_717 rfl lL_101 mX12_sure iX12_sure eX12_sure rfl (hL1.1 53 (by decide)) (md_sure 0 hMd1 ok (xs (i + 1))) rfl rfl (by omega) (by decide) (Nat.le_of_ble_eq_true rfl) ?_ ⟨by omega, by omega⟩
  rintro _ σ2 ⟨rfl, hMd2, hf2⟩
  have hCl2 := hCl1.fm hf2
  refine v_icmp_eq (q := 723) (tgt := 831) hC dL_law_720 rfl (by decide) (fun h720 => ?_) (fun h720 => ?_)
  · exact kn σ2 _ kk nn hCl2 hMd2 (by have e2 : (sSure S (xs (i + 1))).2 = S := (by unfold sSure; repeat (first | rfl | split)); rw [e2]; exact ok.up (by omega)) (by omega) (by omega)
  · exact absurd rfl h720

set_option maxRecDepth 100000 in
set_option maxHeartbeats 4000000 in
theorem law_case_21 {X : zX} {b LL : Nat} {xs : Nat → Int32} (hC : zC X RL code 4 9 600000 7302250) (hX : zXs X b LL xs) {i B kk nn : Nat} (hi : i + 5 ≤ LL) (hLL : LL ≤ 320) {σ : zSt} {S : pS} (hCl : zCl σ S) (hMd : zMd σ S) (ok : pOk B S) (hB : B ≤ 1000) (hk : kk ≤ 1000) (hn : nn ≤ 100000) (kn : ∀ (σ' : zSt) (S' : pS) (k' n' : Nat), zCl σ' S' → zMd σ' S' → pOk (B + 1) S' → k' ≤ kk + 1 → n' ≤ nn + 1 → zV X 4 831 [some (.retAddr b), some (.ref 0), some (.ref 53), some (.int (nI i))] [] k' n' σ') : zV X 4 725 [some (.retAddr b), some (.ref 0), some (.ref 53), some (.int (nI i))] [] kk nn σ := by
  have hL := hCl.1
  have hn6 := hMd.2.2.1.2.1
  have hm12 := hMd.2.2.2.1.2.1
  refine v_aload_n (q := 726) hC dL_law_725 rfl rfl rfl ?_
  refine v_aloadS_n (q := 727) hC dL_law_726 rfl rfl rfl ?_
  refine v_iload_n (q := 728) hC dL_law_727 rfl rfl rfl ?_
  refine v_iconst (q := 729) (v := 1) hC dL_law_728 rfl (by decide) ?_
  refine v_iadd (q := 730) hC dL_law_729 rfl ?_
  refine v_sld (q := 731) hC dL_law_730 rfl hX (nI_add i 1) (by omega) hLL ?_
  refine v_aloadS_n (q := 732) hC dL_law_731 rfl rfl rfl ?_
  refine v_iload_n (q := 733) hC dL_law_732 rfl rfl rfl ?_
  refine v_iconst (q := 734) (v := 2) hC dL_law_733 rfl (by decide) ?_
  refine v_iadd (q := 735) hC dL_law_734 rfl ?_
  refine v_sld (q := 736) hC dL_law_735 rfl hX (nI_add i 2) (by omega) hLL ?_
  refine v_aloadS_n (q := 737) hC dL_law_736 rfl rfl rfl ?_
  refine v_iload_n (q := 738) hC dL_law_737 rfl rfl rfl ?_
  refine v_iconst (q := 739) (v := 3) hC dL_law_738 rfl (by decide) ?_
  refine v_iadd (q := 740) hC dL_law_739 rfl ?_
  refine v_sld (q := 741) hC dL_law_740 rfl hX (nI_add i 3) (by omega) hLL ?_
  refine v_callV (q := 744) (As := [_, _, _]) hC dL_law_741 rfl lL_102 mX11_weeks iX11_weeks eX11_weeks rfl (hL.1 0 (by decide)) (cl_weeks 0 hCl ok (xs (i + 1)) (xs (i + 2)) (xs (i + 3))) rfl rfl (by omega) ⟨by show kk + 1 ≤ 600000; omega, by show nn + 1 ≤ 7302250; omega⟩ (Nat.le_of_ble_eq_true rfl) ?_
  rintro _ σ1 ⟨rfl, hCl1, hf1⟩
  have hMd1 := hMd.fc hCl1.1 hf1
  have hL1 := hCl1.1
  show zV X 4 744 [some (.retAddr b), some (.ref 0), some (.ref 53), some (.int (nI i))] [_] (kk + 1) (nn + 1) σ1
  refine v_aload_n (q := 745) hC dL_law_744 rfl rfl rfl ?_
  refine v_aloadS_n (q := 746) hC dL_law_745 rfl rfl rfl ?_
  refine v_iload_n (q := 747) hC dL_law_746 rfl rfl rfl ?_
  refine v_iconst (q := 748) (v := 1) hC dL_law_747 rfl (by decide) ?_
  refine v_iadd (q := 749) hC dL_law_748 rfl ?_
  refine v_sld (q := 750) hC dL_law_749 rfl hX (nI_add i 1) (by omega) hLL ?_
  refine v_aloadS_n (q := 751) hC dL_law_750 rfl rfl rfl ?_
  refine v_iload_n (q := 752) hC dL_law_751 rfl rfl rfl ?_
  refine v_iconst (q := 753) (v := 2) hC dL_law_752 rfl (by decide) ?_
  refine v_iadd (q := 754) hC dL_law_753 rfl ?_
  refine v_sld (q := 755) hC dL_law_754 rfl hX (nI_add i 2) (by omega) hLL ?_
  refine v_aloadS_n (q := 756) hC dL_law_755 rfl rfl rfl ?_
  refine v_iload_n (q := 757) hC dL_law_756 rfl rfl rfl ?_
  refine v_iconst (q := 758) (v := 3) hC dL_law_757 rfl (by decide) ?_
  refine v_iadd (q := 759) hC dL_law_758 rfl ?_
  refine v_sld (q := 760) hC dL_law_759 rfl hX (nI_add i 3) (by omega) hLL ?_
  refine v_callVQ (q := 763) (As := [_, _, _]) hC dL_law_760 rfl lL_105 mX12_weeks iX12_weeks eX12_weeks rfl (hL1.1 53 (by decide)) (md_weeks 0 hMd1 ok (xs (i + 1)) (xs (i + 2)) (xs (i + 3))) rfl rfl (by omega) (by decide) (Nat.le_of_ble_eq_true rfl) ?_ ⟨by omega, by omega⟩
  rintro _ σ2 ⟨rfl, hMd2, hf2⟩
  have hCl2 := hCl1.fm hf2
  refine v_icmp_eq (q := 766) (tgt := 831) hC dL_law_763 rfl (by decide) (fun h763 => ?_) (fun h763 => ?_)
  · exact kn σ2 _ (kk + 1) (nn + 1) hCl2 hMd2 (by have e2 : (sWeeks S (xs (i + 1)) (xs (i + 2)) (xs (i + 3))).2 = S := (by unfold sWeeks; repeat (first | rfl | split)); rw [e2]; exact ok.up (by omega)) (by omega) (by omega)
  · exact absurd rfl h763

set_option maxRecDepth 100000 in
set_option maxHeartbeats 4000000 in
theorem law_case_22 {X : zX} {b LL : Nat} {xs : Nat → Int32} (hC : zC X RL code 4 9 600000 7302250) (hX : zXs X b LL xs) {i B kk nn : Nat} (hi : i + 5 ≤ LL) (hLL : LL ≤ 320) {σ : zSt} {S : pS} (hCl : zCl σ S) (hMd : zMd σ S) (ok : pOk B S) (hB : B ≤ 1000) (hk : kk ≤ 1000) (hn : nn ≤ 100000) (kn : ∀ (σ' : zSt) (S' : pS) (k' n' : Nat), zCl σ' S' → zMd σ' S' → pOk (B + 1) S' → k' ≤ kk + 1 → n' ≤ nn + 1 → zV X 4 831 [some (.retAddr b), some (.ref 0), some (.ref 53), some (.int (nI i))] [] k' n' σ') : zV X 4 768 [some (.retAddr b), some (.ref 0), some (.ref 53), some (.int (nI i))] [] kk nn σ := by
  have hL := hCl.1
  have hn6 := hMd.2.2.1.2.1
  have hm12 := hMd.2.2.2.1.2.1
  refine v_aload_n (q := 769) hC dL_law_768 rfl rfl rfl ?_
  refine v_callVQ (q := 772) (As := []) hC dL_law_769 rfl lL_106 mX11_image iX11_image eX11_image rfl (hL.1 0 (by decide)) (cl_image 0 hCl ok) rfl rfl (by omega) (by decide) (Nat.le_of_ble_eq_true rfl) ?_ ⟨by omega, by omega⟩
  rintro _ σ1 ⟨rfl, hCl1, hf1⟩
  have hMd1 := hMd.fc hCl1.1 hf1
  have hL1 := hCl1.1
  refine v_aload_n (q := 773) hC dL_law_772 rfl rfl rfl ?_
  refine v_callVQ (q := 776) (As := []) hC dL_law_773 rfl lL_109 mX12_image iX12_image eX12_image rfl (hL1.1 53 (by decide)) (md_image 0 hMd1 ok) rfl rfl (by omega) (by decide) (Nat.le_of_ble_eq_true rfl) ?_ ⟨by omega, by omega⟩
  rintro _ σ2 ⟨rfl, hMd2, hf2⟩
  have hCl2 := hCl1.fm hf2
  refine v_icmp_eq (q := 779) (tgt := 831) hC dL_law_776 rfl (by decide) (fun h776 => ?_) (fun h776 => ?_)
  · exact kn σ2 _ kk nn hCl2 hMd2 (pOk.up (ok_image ok hn6) (by omega)) (by omega) (by omega)
  · exact absurd rfl h776

set_option maxRecDepth 100000 in
set_option maxHeartbeats 4000000 in
theorem law_case_23 {X : zX} {b LL : Nat} {xs : Nat → Int32} (hC : zC X RL code 4 9 600000 7302250) (hX : zXs X b LL xs) {i B kk nn : Nat} (hi : i + 5 ≤ LL) (hLL : LL ≤ 320) {σ : zSt} {S : pS} (hCl : zCl σ S) (hMd : zMd σ S) (ok : pOk B S) (hB : B ≤ 1000) (hk : kk ≤ 1000) (hn : nn ≤ 100000) (kn : ∀ (σ' : zSt) (S' : pS) (k' n' : Nat), zCl σ' S' → zMd σ' S' → pOk (B + 1) S' → k' ≤ kk + 1 → n' ≤ nn + 1 → zV X 4 831 [some (.retAddr b), some (.ref 0), some (.ref 53), some (.int (nI i))] [] k' n' σ') : zV X 4 781 [some (.retAddr b), some (.ref 0), some (.ref 53), some (.int (nI i))] [] kk nn σ := by
  have hL := hCl.1
  have hn6 := hMd.2.2.1.2.1
  have hm12 := hMd.2.2.2.1.2.1
  refine v_aload_n (q := 782) hC dL_law_781 rfl rfl rfl ?_
  refine v_callVQ (q := 785) (As := []) hC dL_law_782 rfl lL_110 mX11_restore iX11_restore eX11_restore rfl (hL.1 0 (by decide)) (cl_restore 0 hCl ok) rfl rfl (by omega) (by decide) (Nat.le_of_ble_eq_true rfl) ?_ ⟨by omega, by omega⟩
  rintro _ σ1 ⟨rfl, hCl1, hf1⟩
  have hMd1 := hMd.fc hCl1.1 hf1
  have hL1 := hCl1.1
  refine v_aload_n (q := 786) hC dL_law_785 rfl rfl rfl ?_
  refine v_callVQ (q := 789) (As := []) hC dL_law_786 rfl lL_113 mX12_restore iX12_restore eX12_restore rfl (hL1.1 53 (by decide)) (md_restore 0 hMd1 ok) rfl rfl (by omega) (by decide) (Nat.le_of_ble_eq_true rfl) ?_ ⟨by omega, by omega⟩
  rintro _ σ2 ⟨rfl, hMd2, hf2⟩
  have hCl2 := hCl1.fm hf2
  refine v_icmp_eq (q := 792) (tgt := 831) hC dL_law_789 rfl (by decide) (fun h789 => ?_) (fun h789 => ?_)
  · exact kn σ2 _ kk nn hCl2 hMd2 (pOk.up (ok_restore ok) (by omega)) (by omega) (by omega)
  · exact absurd rfl h789

set_option maxRecDepth 100000 in
set_option maxHeartbeats 4000000 in
theorem law_case_24 {X : zX} {b LL : Nat} {xs : Nat → Int32} (hC : zC X RL code 4 9 600000 7302250) (hX : zXs X b LL xs) {i B kk nn : Nat} (hi : i + 5 ≤ LL) (hLL : LL ≤ 320) {σ : zSt} {S : pS} (hCl : zCl σ S) (hMd : zMd σ S) (ok : pOk B S) (hB : B ≤ 1000) (hk : kk ≤ 1000) (hn : nn ≤ 100000) (kn : ∀ (σ' : zSt) (S' : pS) (k' n' : Nat), zCl σ' S' → zMd σ' S' → pOk (B + 1) S' → k' ≤ kk + 1 → n' ≤ nn + 1 → zV X 4 831 [some (.retAddr b), some (.ref 0), some (.ref 53), some (.int (nI i))] [] k' n' σ') : zV X 4 794 [some (.retAddr b), some (.ref 0), some (.ref 53), some (.int (nI i))] [] kk nn σ := by
  have hL := hCl.1
  have hn6 := hMd.2.2.1.2.1
  have hm12 := hMd.2.2.2.1.2.1
  refine v_aload_n (q := 795) hC dL_law_794 rfl rfl rfl ?_
  refine v_aloadS_n (q := 796) hC dL_law_795 rfl rfl rfl ?_
  refine v_iload_n (q := 797) hC dL_law_796 rfl rfl rfl ?_
  refine v_iconst (q := 798) (v := 1) hC dL_law_797 rfl (by decide) ?_
  refine v_iadd (q := 799) hC dL_law_798 rfl ?_
  refine v_sld (q := 800) hC dL_law_799 rfl hX (nI_add i 1) (by omega) hLL ?_
  refine v_callVQ (q := 803) (As := [_]) hC dL_law_800 rfl lL_114 mX11_count iX11_count eX11_count rfl (hL.1 0 (by decide)) (cl_count 0 hCl ok (xs (i + 1))) rfl rfl (by omega) (by decide) (Nat.le_of_ble_eq_true rfl) ?_ ⟨by omega, by omega⟩
  rintro _ σ1 ⟨rfl, hCl1, hf1⟩
  have hMd1 := hMd.fc hCl1.1 hf1
  have hL1 := hCl1.1
  refine v_aload_n (q := 804) hC dL_law_803 rfl rfl rfl ?_
  refine v_aloadS_n (q := 805) hC dL_law_804 rfl rfl rfl ?_
  refine v_iload_n (q := 806) hC dL_law_805 rfl rfl rfl ?_
  refine v_iconst (q := 807) (v := 1) hC dL_law_806 rfl (by decide) ?_
  refine v_iadd (q := 808) hC dL_law_807 rfl ?_
  refine v_sld (q := 809) hC dL_law_808 rfl hX (nI_add i 1) (by omega) hLL ?_
  refine v_callVQ (q := 812) (As := [_]) hC dL_law_809 rfl lL_117 mX12_count iX12_count eX12_count rfl (hL1.1 53 (by decide)) (md_count 0 hMd1 ok (xs (i + 1))) rfl rfl (by omega) (by decide) (Nat.le_of_ble_eq_true rfl) ?_ ⟨by omega, by omega⟩
  rintro _ σ2 ⟨rfl, hMd2, hf2⟩
  have hCl2 := hCl1.fm hf2
  refine v_icmp_eq (q := 815) (tgt := 831) hC dL_law_812 rfl (by decide) (fun h812 => ?_) (fun h812 => ?_)
  · exact kn σ2 _ kk nn hCl2 hMd2 (by have e2 : (sCount S (xs (i + 1))).2 = S := (by unfold sCount; repeat (first | rfl | split)); rw [e2]; exact ok.up (by omega)) (by omega) (by omega)
  · exact absurd rfl h812

set_option maxRecDepth 100000 in
set_option maxHeartbeats 4000000 in
theorem law_case_25 {X : zX} {b LL : Nat} {xs : Nat → Int32} (hC : zC X RL code 4 9 600000 7302250) (hX : zXs X b LL xs) {i B kk nn : Nat} (hi : i + 5 ≤ LL) (hLL : LL ≤ 320) {σ : zSt} {S : pS} (hCl : zCl σ S) (hMd : zMd σ S) (ok : pOk B S) (hB : B ≤ 1000) (hk : kk ≤ 1000) (hn : nn ≤ 100000) (kn : ∀ (σ' : zSt) (S' : pS) (k' n' : Nat), zCl σ' S' → zMd σ' S' → pOk (B + 1) S' → k' ≤ kk + 1 → n' ≤ nn + 1 → zV X 4 831 [some (.retAddr b), some (.ref 0), some (.ref 53), some (.int (nI i))] [] k' n' σ') : zV X 4 817 [some (.retAddr b), some (.ref 0), some (.ref 53), some (.int (nI i))] [] kk nn σ := by
  have hL := hCl.1
  have hn6 := hMd.2.2.1.2.1
  have hm12 := hMd.2.2.2.1.2.1
  refine v_aload_n (q := 818) hC dL_law_817 rfl rfl rfl ?_
  refine v_callVQ (q := 821) (As := []) hC dL_law_818 rfl lL_118 mX11_digest iX11_digest eX11_digest rfl (hL.1 0 (by decide)) (cl_digest 0 hCl ok) rfl rfl (by omega) (by decide) (Nat.le_of_ble_eq_true rfl) ?_ ⟨by omega, by omega⟩
  rintro _ σ1 ⟨rfl, hCl1, hf1⟩
  have hMd1 := hMd.fc hCl1.1 hf1
  have hL1 := hCl1.1
  refine v_aload_n (q := 822) hC dL_law_821 rfl rfl rfl ?_
  refine v_callVQ (q := 825) (As := []) hC dL_law_822 rfl lL_122 mX12_digest iX12_digest eX12_digest rfl (hL1.1 53 (by decide)) (md_digest 0 hMd1 ok) rfl rfl (by omega) (by decide) (Nat.le_of_ble_eq_true rfl) ?_ ⟨by omega, by omega⟩
  rintro _ σ2 ⟨rfl, hMd2, hf2⟩
  have hCl2 := hCl1.fm hf2
  refine v_lcmp (q := 826) hC dL_law_825 rfl ?_
  rw [lg_cmp_rf]
  refine v_if_eq (q := 829) (tgt := 831) hC dL_law_826 rfl (by decide) (fun h826 => ?_) (fun h826 => ?_)
  · exact kn σ2 S kk nn hCl2 hMd2 (ok.up (by omega)) (by omega) (by omega)
  · exact absurd rfl h826

