/-! ===== the model: rings ===== -/
theorem ct_X12_followsG (d : Nat) {σ : zSt} (hL : zLay σ) {n : Nat} {kd : Nat → Nat} {kin met : Nat → Nat → Bool} {t : Nat} (hF : zMf σ n kd kin met t) (hs : zMs σ none none) (hsy : ∀ a b, a < 6 → b < 6 → kin a b = kin b a) {i : Option Nat} (hi : ∀ g, i = some g → g < n) {a b : Nat} (ha : a < n) (hb : b < n) : zEv (d + 2) MX12_follows [.ref 53, .int (zo i), .int (nI a), .int (nI b)] σ (some (.int (zb (pFw (pGv kd kin met) (pSn kin) i a b)))) σ := by
  have gv0 : gvS kd kin met none none = pGv kd kin met := funext fun a => funext fun b => gvS_0
  rw [← gv0]
  exact ct_X12_follows d hL hF hs (fun g hg => by cases hg) hsy hi ha hb
theorem pGv_ir {kd : Nat → Nat} {kin met : Nat → Nat → Bool} {a : Nat} : pGv kd kin met a a = false := by simp [pGv]
theorem pRg_z2 {n : Nat} {gv sn : Nat → Nat → Bool} {p len : Nat} : ∀ (k h w : Nat), n ≤ w → pRg n gv sn p len k h w = 0
  | 0, h, w, hw => by show tB _ _ _ _ _ _ = 0; unfold tB; rw [if_neg (by omega)]
  | k + 1, h, w, hw => pSum_z n (fun d _ => by unfold tM; rw [if_neg (by omega)])
theorem pRg_le {n : Nat} {gv sn : Nat → Nat → Bool} {p len : Nat} (hn : n ≤ 6) : ∀ (k h w : Nat), pRg n gv sn p len k h w ≤ 6 ^ k
  | 0, h, w => tB_le
  | k + 1, h, w => by
    have h1 : ∀ a b, tD p (pRg n gv sn p len k) a b ≤ 6 ^ k := fun a b => by
      unfold tD
      split
      · exact Nat.zero_le _
      · exact pRg_le hn k a b
    have h2 := tN_le (gv := gv) (sn := sn) (tw := if k + 2 = len then nI p else -1) (h := h) (w := w) hn h1
    rw [Nat.pow_succ, Nat.mul_comm]
    exact h2
/-- what the model's row holds -/
def pMg (n : Nat) (gv sn : Nat → Nat → Bool) (p len k h w : Nat) : Nat := if k + 1 = len then pRg n gv sn p len k h w else tD p (pRg n gv sn p len k) h w
theorem pMg_z {n : Nat} {gv sn : Nat → Nat → Bool} {p len k h w : Nat} (hh : n ≤ h ∨ n ≤ w) : pMg n gv sn p len k h w = 0 := by
  have : pRg n gv sn p len k h w = 0 := hh.elim (fun z => pRg_z k h w z) (fun z => pRg_z2 k h w z)
  unfold pMg tD
  rw [this]
  split
  · rfl
  · split <;> rfl
theorem pMg_le {n : Nat} {gv sn : Nat → Nat → Bool} {p len k h w : Nat} (hn : n ≤ 6) (hk : k ≤ 5) : pMg n gv sn p len k h w ≤ 7776 := by
  have h1 := pRg_le (gv := gv) (sn := sn) (p := p) (len := len) hn k h w
  have h2 : 6 ^ k ≤ 6 ^ 5 := Nat.pow_le_pow_right (by omega) hk
  have h3 : 6 ^ 5 = 7776 := by decide
  unfold pMg tD
  split
  · omega
  · split <;> omega
theorem pMg_0 {n : Nat} {gv sn : Nat → Nat → Bool} {p len h w : Nat} (hl : 2 ≤ len) (hp : p < n) (hn : n ≤ 6) (hw : w < 6) (hh : h < 6) (hir : gv p p = false) : pMg n gv sn p len 0 h w = if h = p ∧ w < n ∧ gv p w = true then 1 else 0 := by
  unfold pMg
  rw [if_neg (by omega)]
  show tD p (tB n gv (nI p) (-1)) h w = _
  have e1 : pCb h (nI p) = true ↔ h = p := by
    unfold pCb
    have a1 : ¬ nI p = -1 := nI_m1 (by omega)
    have a2 : nI p = nI h ↔ p = h := nI_eq (by omega) (by omega)
    simp [a1, a2, eq_comm]
  unfold tD tB
  by_cases e : w = p
  · rw [if_pos e]
    subst e
    rw [if_neg]
    rintro ⟨-, -, z⟩
    rw [hir] at z
    cases z
  · rw [if_neg e]
    by_cases e2 : h = p
    · subst e2
      by_cases e3 : w < n ∧ gv h w = true
      · rw [if_pos ⟨hp, e3.1, e1.mpr rfl, rfl, e3.2⟩, if_pos ⟨rfl, e3⟩]
      · rw [if_neg (fun z => e3 ⟨z.2.1, z.2.2.2.2⟩), if_neg (fun z => e3 z.2)]
    · rw [if_neg (fun z => e2 (e1.mp z.2.2.1)), if_neg (fun z => e2 z.1)]
def pTt (n : Nat) (gv sn : Nat → Nat → Bool) (p len k : Nat) (T : Nat → Nat → Nat) (h w d : Nat) : Nat := if h < n ∧ w < n ∧ (w = p ↔ k + 2 = len) ∧ sn d w = false ∧ gv h w = true then T d h else 0
theorem pTt_n {n : Nat} {gv sn : Nat → Nat → Bool} {p len k : Nat} {T : Nat → Nat → Nat} {h w d : Nat} (hx : ¬ (w = p ↔ k + 2 = len)) : pTt n gv sn p len k T h w d = 0 := if_neg (fun z => hx z.2.2.1)
theorem pTt_p {n : Nat} {gv sn : Nat → Nat → Bool} {p len k : Nat} {T : Nat → Nat → Nat} {h w d : Nat} (hx : ¬ (sn d w = false ∧ gv h w = true)) : pTt n gv sn p len k T h w d = 0 := if_neg (fun z => hx z.2.2.2)
theorem pTt_w {n : Nat} {gv sn : Nat → Nat → Bool} {p len k : Nat} {T : Nat → Nat → Nat} {h w d : Nat} (hx : n ≤ w ∨ T d h = 0) : pTt n gv sn p len k T h w d = 0 := by
  unfold pTt
  split
  · rename_i z
    rcases hx with e | e
    · omega
    · exact e
  · rfl
def pU (n : Nat) (gv sn : Nat → Nat → Bool) (p len k : Nat) (T : Nat → Nat → Nat) (q b h w : Nat) : Nat := pSum (pTt n gv sn p len k T h w) ((q + 5 - h) / 6 + if h = q % 6 ∧ w < b then 1 else 0)
theorem pU_0 {n : Nat} {gv sn : Nat → Nat → Bool} {p len k : Nat} {T : Nat → Nat → Nat} {h w : Nat} (hh : h < 6) : pU n gv sn p len k T 0 0 h w = 0 := by
  unfold pU
  rw [if_neg (by omega), show (0 + 5 - h) / 6 + 0 = 0 by omega]
  rfl
theorem pU_b {n : Nat} {gv sn : Nat → Nat → Bool} {p len k : Nat} {T : Nat → Nat → Nat} {q b h w : Nat} (hh : h < 6) : pU n gv sn p len k T q (b + 1) h w = if h = q % 6 ∧ w = b then pU n gv sn p len k T q b (q % 6) b + pTt n gv sn p len k T (q % 6) b (q / 6) else pU n gv sn p len k T q b h w := by
  by_cases e : h = q % 6 ∧ w = b
  · rw [if_pos e]
    obtain ⟨rfl, e2⟩ := e
    rw [e2]
    unfold pU
    rw [if_pos (show q % 6 = q % 6 ∧ b < b + 1 by omega), if_neg (show ¬ (q % 6 = q % 6 ∧ b < b) by omega), show (q + 5 - q % 6) / 6 + 1 = q / 6 + 1 by omega, show (q + 5 - q % 6) / 6 + 0 = q / 6 by omega]
    rfl
  · rw [if_neg e]
    unfold pU
    by_cases e1 : h = q % 6 ∧ w < b
    · rw [if_pos (show h = q % 6 ∧ w < b + 1 by omega), if_pos e1]
    · rw [if_neg (show ¬ (h = q % 6 ∧ w < b + 1) by omega), if_neg e1]
theorem pU_x {n : Nat} {gv sn : Nat → Nat → Bool} {p len k : Nat} {T : Nat → Nat → Nat} {q b h w : Nat} (hh : h < 6) (hx : n ≤ b ∨ T (q / 6) (q % 6) = 0) : pU n gv sn p len k T (q + 1) 0 h w = pU n gv sn p len k T q b h w := by
  unfold pU
  by_cases e : h = q % 6
  · rw [if_neg (show ¬ (h = (q + 1) % 6 ∧ w < 0) by omega), show (q + 1 + 5 - h) / 6 + 0 = q / 6 + 1 by omega]
    by_cases e4 : w < b
    · rw [if_pos ⟨e, e4⟩, show (q + 5 - h) / 6 + 1 = q / 6 + 1 by omega]
    · rw [if_neg (fun z => e4 z.2), show (q + 5 - h) / 6 + 0 = q / 6 by omega]
      show _ + pTt n gv sn p len k T h w (q / 6) = _
      rw [pTt_w (by rcases hx with z | z; exact Or.inl (by omega); exact Or.inr (by rw [e]; exact z))]
      rfl
  · rw [if_neg (by omega), if_neg (by omega)]
    congr 1
    omega
theorem pSum_ext {f : Nat → Nat} {n : Nat} : ∀ (k : Nat), (∀ d, n ≤ d → f d = 0) → pSum f (n + k) = pSum f n
  | 0, _ => rfl
  | k + 1, h => by
    show pSum f (n + k) + f (n + k) = _
    rw [h (n + k) (by omega), pSum_ext k h]
    rfl
theorem pU_36 {n : Nat} {gv sn : Nat → Nat → Bool} {p len k h w : Nat} (hn : n ≤ 6) (hp : p < n) (hk : k + 1 < len) (hh : h < 6) (hw : w < 6) : pU n gv sn p len k (pMg n gv sn p len k) 36 0 h w = pMg n gv sn p len (k + 1) h w := by
  unfold pU
  rw [if_neg (by omega), show (36 + 5 - h) / 6 + 0 = n + (6 - n) by omega, pSum_ext (6 - n) (fun d hd => pTt_w (Or.inr (pMg_z (Or.inl hd))))]
  have eT : ∀ d h, pMg n gv sn p len k d h = tD p (pRg n gv sn p len k) d h := fun d h => if_neg (by omega)
  by_cases e : k + 2 = len
  · have e1 : pCb w (nI p) = true ↔ w = p := by
      unfold pCb
      have a1 : ¬ nI p = -1 := nI_m1 (by omega)
      have a2 : nI p = nI w ↔ p = w := nI_eq (by omega) (by omega)
      simp [a1, a2, eq_comm]
    unfold pMg
    rw [if_pos (show k + 1 + 1 = len from e)]
    show _ = pSum (tM n gv sn (if k + 2 = len then nI p else -1) (tD p (pRg n gv sn p len k)) h w) n
    rw [if_pos e]
    apply pSum_congr
    intro d _
    unfold pTt tM
    by_cases hc : h < n ∧ w < n ∧ (w = p ↔ k + 2 = len) ∧ sn d w = false ∧ gv h w = true
    · rw [if_pos hc, if_pos ⟨hc.1, hc.2.1, e1.mpr (hc.2.2.1.mpr e), hc.2.2.2⟩]
      exact eT d h
    · rw [if_neg hc, if_neg (fun z => hc ⟨z.1, z.2.1, ⟨fun _ => e, fun _ => e1.mp z.2.2.1⟩, z.2.2.2⟩)]
  · have e0 : pMg n gv sn p len (k + 1) h w = tD p (pRg n gv sn p len (k + 1)) h w := if_neg (fun z => e z)
    rw [e0]
    unfold tD
    by_cases ew : w = p
    · rw [if_pos ew]
      exact pSum_z n (fun d _ => pTt_n (fun z => e (z.mp ew)))
    · rw [if_neg ew]
      show _ = pSum (tM n gv sn (if k + 2 = len then nI p else -1) (tD p (pRg n gv sn p len k)) h w) n
      rw [if_neg e]
      apply pSum_congr
      intro d _
      unfold pTt tM
      by_cases hc : h < n ∧ w < n ∧ (w = p ↔ k + 2 = len) ∧ sn d w = false ∧ gv h w = true
      · rw [if_pos hc, if_pos ⟨hc.1, hc.2.1, rfl, hc.2.2.2⟩]
        exact eT d h
      · rw [if_neg hc, if_neg (fun z => hc ⟨z.1, z.2.1, ⟨fun q => absurd q ew, fun q => absurd q e⟩, z.2.2.2⟩)]
theorem pSum_one {f : Nat → Nat} {p : Nat} : ∀ (k : Nat), (∀ d, d < k → d ≠ p → f d = 0) → pSum f k = if p < k then f p else 0
  | 0, _ => by rw [if_neg (by omega)]; rfl
  | k + 1, h => by
    show pSum f k + f k = _
    rw [pSum_one k (fun d hd hn => h d (by omega) hn)]
    by_cases e : k = p
    · subst e
      rw [if_neg (by omega), if_pos (by omega), Nat.zero_add]
    · rw [h k (by omega) e]
      by_cases e2 : p < k
      · rw [if_pos e2, if_pos (by omega)]
        rfl
      · rw [if_neg e2, if_neg (by omega)]
theorem tS_2 (T : Nat → Nat → Nat) : tS T = pSum (fun a => pSum (fun w => T a w) 6) 6 := by
  unfold tS
  simp only [pSum, Nat.reduceDiv, Nat.reduceMod]
  omega
theorem pMg_end {n : Nat} {gv sn : Nat → Nat → Bool} {p len : Nat} (hn : n ≤ 6) (hp : p < n) (hl : 2 ≤ len) : pSum (fun a => pMg n gv sn p len (len - 1) a p) 6 = tS (pRg n gv sn p len (len - 1)) := by
  rw [tS_2]
  apply pSum_congr
  intro a ha
  have e0 : pMg n gv sn p len (len - 1) a p = pRg n gv sn p len (len - 1) a p := if_pos (by omega)
  rw [e0, pSum_one (p := p) 6 (fun w hw hne => ?_), if_pos (by omega)]
  obtain ⟨k, rfl⟩ : ∃ k, len = k + 2 := ⟨len - 2, by omega⟩
  show pSum (tM n gv sn (if k + 2 = k + 2 then nI p else -1) _ a w) n = 0
  rw [if_pos rfl]
  refine pSum_z n (fun d _ => if_neg (fun z => ?_))
  have z3 := z.2.2.1
  unfold pCb at z3
  have a1 : ¬ nI p = -1 := nI_m1 (by omega)
  have a2 : ¬ nI p = nI w := fun q => hne ((nI_eq (by omega) (by omega)).mp q).symm
  simp [a1, a2] at z3
/-- a full row of 36 -/
theorem zHold.set {σ σ' : zSt} {c a b : Nat} {V V' : Nat → Nat → Int32} {x : Int32} (h : zHold σ c 6 V) (hb : b < 6) (e : ∀ q, zI σ' c q = if q = 6 * a + b then x else zI σ c q) (hV : ∀ p q, p < 6 → q < 6 → V' p q = if p = a ∧ q = b then x else V p q) : zHold σ' c 6 V' := by
  intro p q hp hq
  rw [e, hV p q hp hq]
  by_cases e2 : p = a ∧ q = b
  · rw [if_pos e2, if_pos (by omega)]
  · rw [if_neg e2, if_neg (by omega)]
    exact h p q hp hq

set_option maxRecDepth 100000 in
set_option maxHeartbeats 4000000 in
theorem ct_X12_ringsOf (d : Nat) {σ : zSt} (hL : zLay σ) {n : Nat} {kd : Nat → Nat} {kin met : Nat → Nat → Bool} {t : Nat} (hF : zMf σ n kd kin met t) (hs : zMs σ none none) (hsy : ∀ a b, a < 6 → b < 6 → kin a b = kin b a) {p len : Nat} (hpn : p < n) (hl2 : 2 ≤ len) (hl6 : len ≤ 6) : zCt (d + 3) MX12_ringsOf [.ref 53, .int (nI p), .int (nI len)] σ (fun r σ' => r = some (.int (nI (tS (pRg n (pGv kd kin met) (pSn kin) p len (len - 1))))) ∧ zSm [63, 64] [] σ σ') := by
  refine zCt.of (L := [some (.ref 53), some (.int (nI p)), some (.int (nI len)), none, none, none, none, none]) (by decide) (Nat.le_of_ble_eq_true rfl) rfl (fun X hC hB => ?_)
  have hC : zC X RX12 cX12_ringsOf 8 (d + 3) 0 0 := hC
  have hB : zB X (some .int) 0 0 "ringsOf" σ _ := hB
  show zV X 8 0 [some (.ref 53), some (.int (nI p)), some (.int (nI len)), none, none, none, none, none] [] 0 0 σ
  have hn6 := hF.2.1
  have lp2 : ∀ (r2 : Nat) (k : Nat) (o4 o5 o6 o7 : Option Value) (σ1 : zSt), k + 1 + r2 = len → zSm [63, 64] [] σ σ1 → zHold σ1 63 6 (fun h w => nI ((pMg n (pGv kd kin met) (pSn kin) p len k) h w)) → zV X 8 59 [some (.ref 53), some (.int (nI p)), some (.int (nI len)), some (.int (nI (k + 1))), o4, o5, o6, o7] [] 0 0 σ1 := by
    intro r2
    induction r2 with
    | zero =>
      intro k o4 o5 o6 o7 σ1 hk hS hz
      have hL1 := hS.lay hL
      have hF1 := hF.sm hS rfl rfl
      have hs1 := hs.sm hS rfl
      refine v_iload_n (q := 60) hC dX12_ringsOf_59 rfl rfl rfl ?_
      refine v_iload_n (q := 61) hC dX12_ringsOf_60 rfl rfl rfl ?_
      refine v_icmp_ge (q := 64) (tgt := 244) hC dX12_ringsOf_61 rfl (by decide) (fun h61 => ?_) (fun h61 => ?_)
      · refine v_iconst (q := 245) (v := 0) hC dX12_ringsOf_244 rfl (by decide) ?_
        refine v_istore_n (q := 246) (L' := [_, _, _, _, _, _, _, _]) hC dX12_ringsOf_245 rfl rfl (by decide) rfl rfl ?_
        refine v_iconst (q := 247) (v := 0) hC dX12_ringsOf_246 rfl (by decide) ?_
        refine v_istore (q := 249) (L' := [_, _, _, _, _, _, _, _]) hC dX12_ringsOf_247 rfl (by decide) rfl rfl ?_
        have e : k = len - 1 := by omega
        subst e
        have lp7 : ∀ (r : Nat) (a : Nat), a + r = 6 → zV X 8 249 [some (.ref 53), some (.int (nI p)), some (.int (nI len)), some (.int (nI (pSum (fun a => (pMg n (pGv kd kin met) (pSn kin) p len (len - 1)) a p) a))), some (.int (nI a)), o5, o6, o7] [] 0 0 σ1 := by
          intro r
          induction r with
          | zero =>
            intro a ha
            refine v_iload (q := 251) hC dX12_ringsOf_249 rfl rfl ?_
            refine v_bipush (q := 253) (v := 6) hC dX12_ringsOf_251 rfl (by decide) ?_
            refine v_icmp_ge (q := 256) (tgt := 277) hC dX12_ringsOf_253 rfl (by decide) (fun h253 => ?_) (fun h253 => ?_)
            · refine v_iload_n (q := 278) hC dX12_ringsOf_277 rfl rfl rfl ?_
              refine v_ireturn hC hB dX12_ringsOf_278 ⟨Nat.le_refl _, Nat.le_refl _⟩ ?_
              have e : a = 6 := by omega
              subst e
              exact ⟨by rw [pMg_end hn6 hpn hl2], hS⟩
            · exact absurd (nI_le (a := 6) (b := a) (by omega) (by omega)) h253
          | succ r ih =>
            intro a ha
            refine v_iload (q := 251) hC dX12_ringsOf_249 rfl rfl ?_
            refine v_bipush (q := 253) (v := 6) hC dX12_ringsOf_251 rfl (by decide) ?_
            refine v_icmp_ge (q := 256) (tgt := 277) hC dX12_ringsOf_253 rfl (by decide) (fun h253 => ?_) (fun h253 => ?_)
            · exact absurd h253 (nI_ge (a := a) (b := 6) (by omega) (by omega))
            · refine v_iload_n (q := 257) hC dX12_ringsOf_256 rfl rfl rfl ?_
              refine v_aload_n (q := 258) hC dX12_ringsOf_257 rfl rfl rfl ?_
              refine v_getR (q := 261) (r := 63) hC dX12_ringsOf_258 rfl fX12_37 (hL1.1 53 (by decide)) (hL1.2 53 26 63 rfl) ?_
              refine v_bipush (q := 263) (v := 6) hC dX12_ringsOf_261 rfl (by decide) ?_
              refine v_iload (q := 265) hC dX12_ringsOf_263 rfl rfl ?_
              refine v_imul (q := 266) hC dX12_ringsOf_265 rfl ?_
              refine v_iload_n (q := 267) hC dX12_ringsOf_266 rfl rfl rfl ?_
              refine v_iadd (q := 268) hC dX12_ringsOf_267 rfl ?_
              refine v_ialdN (q := 269) (j := 6 * a + p) hC dX12_ringsOf_268 rfl (hL1.1 63 (by decide)) (z6' a p) (by omega) (by decide) ?_
              rw [hz a p (by omega) (by omega)]
              refine v_iadd (q := 270) hC dX12_ringsOf_269 rfl ?_
              refine v_istore_n (q := 271) (L' := [_, _, _, _, _, _, _, _]) hC dX12_ringsOf_270 rfl rfl (by decide) rfl rfl ?_
              refine v_iinc (q := 274) (v := 1) (L' := [_, _, _, _, _, _, _, _]) hC dX12_ringsOf_271 rfl rfl (by decide) (by decide) rfl rfl ?_
              refine v_goto (q := 249) hC dX12_ringsOf_274 (by decide) ?_
              rw [nI_1 a, nI_add]
              exact ih (a + 1) (by omega)
        exact lp7 6 0 (by omega)
      · exact absurd (nI_le (a := len) (b := k + 1) (by omega) (by omega)) h61
    | succ r2 ih =>
      intro k o4 o5 o6 o7 σ1 hk hS hz
      have hL1 := hS.lay hL
      have hF1 := hF.sm hS rfl rfl
      have hs1 := hs.sm hS rfl
      refine v_iload_n (q := 60) hC dX12_ringsOf_59 rfl rfl rfl ?_
      refine v_iload_n (q := 61) hC dX12_ringsOf_60 rfl rfl rfl ?_
      refine v_icmp_ge (q := 64) (tgt := 244) hC dX12_ringsOf_61 rfl (by decide) (fun h61 => ?_) (fun h61 => ?_)
      · exact absurd h61 (nI_ge (a := k + 1) (b := len) (by omega) (by omega))
      · refine v_iconst (q := 65) (v := 0) hC dX12_ringsOf_64 rfl (by decide) ?_
        refine v_istore (q := 67) (L' := [_, _, _, _, _, _, _, _]) hC dX12_ringsOf_65 rfl (by decide) rfl rfl ?_
        have ih2 := ih
        have lp4 : ∀ (r4 : Nat) (q : Nat) (o5 o6 o7 : Option Value) (σ1 : zSt), q + r4 = 36 → zSm [63, 64] [] σ σ1 → zHold σ1 63 6 (fun h w => nI ((pMg n (pGv kd kin met) (pSn kin) p len k) h w)) → zHold σ1 64 6 (fun h w => nI (pU n (pGv kd kin met) (pSn kin) p len k (pMg n (pGv kd kin met) (pSn kin) p len k) q 0 h w)) → zV X 8 91 [some (.ref 53), some (.int (nI p)), some (.int (nI len)), some (.int (nI (k + 1))), some (.int (nI q)), o5, o6, o7] [] 0 0 σ1 := by
          intro r4
          induction r4 with
          | zero =>
            intro q o5 o6 o7 σ1 hq hS hz hu
            have hL1 := hS.lay hL
            have hF1 := hF.sm hS rfl rfl
            have hs1 := hs.sm hS rfl
            refine v_iload (q := 93) hC dX12_ringsOf_91 rfl rfl ?_
            refine v_bipush (q := 95) (v := 36) hC dX12_ringsOf_93 rfl (by decide) ?_
            refine v_icmp_ge (q := 98) (tgt := 208) hC dX12_ringsOf_95 rfl (by decide) (fun h95 => ?_) (fun h95 => ?_)
            · refine v_iconst (q := 209) (v := 0) hC dX12_ringsOf_208 rfl (by decide) ?_
              refine v_istore (q := 211) (L' := [_, _, _, _, _, _, _, _]) hC dX12_ringsOf_209 rfl (by decide) rfl rfl ?_
              have e : q = 36 := by omega
              subst e
              have lp6 : ∀ (r : Nat) (q : Nat) (σ2 : zSt), q + r = 36 → zSm [63, 64] [] σ1 σ2 → ((∀ j, zI σ2 64 j = zI σ1 64 j) ∧ ∀ j, j < q → zI σ2 63 j = zI σ1 64 j) → zV X 8 211 [some (.ref 53), some (.int (nI p)), some (.int (nI len)), some (.int (nI (k + 1))), some (.int (nI q)), o5, o6, o7] [] 0 0 σ2 := by
                intro r
                induction r with
                | zero =>
                  intro q σ2 hq hS2 hc
                  have hL2 := hS2.lay hL1
                  refine v_iload (q := 213) hC dX12_ringsOf_211 rfl rfl ?_
                  refine v_bipush (q := 215) (v := 36) hC dX12_ringsOf_213 rfl (by decide) ?_
                  refine v_icmp_ge (q := 218) (tgt := 238) hC dX12_ringsOf_215 rfl (by decide) (fun h215 => ?_) (fun h215 => ?_)
                  · refine v_iinc (q := 241) (v := 1) (L' := [_, _, _, _, _, _, _, _]) hC dX12_ringsOf_238 rfl rfl (by decide) (by decide) rfl rfl ?_
                    refine v_goto (q := 59) hC dX12_ringsOf_241 (by decide) ?_
                    have e : q = 36 := by omega
                    subst e
                    rw [nI_1 (k + 1)]
                    exact ih2 (k + 1) _ _ _ _ σ2 (by omega) (hS.tr hS2) (fun h w hh hw => by rw [hc.2 _ (by omega), hu h w hh hw]; show nI _ = nI _; rw [pU_36 hn6 hpn (by omega) hh hw])
                  · exact absurd (nI_le (a := 36) (b := q) (by omega) (by omega)) h215
                | succ r ih =>
                  intro q σ2 hq hS2 hc
                  have hL2 := hS2.lay hL1
                  refine v_iload (q := 213) hC dX12_ringsOf_211 rfl rfl ?_
                  refine v_bipush (q := 215) (v := 36) hC dX12_ringsOf_213 rfl (by decide) ?_
                  refine v_icmp_ge (q := 218) (tgt := 238) hC dX12_ringsOf_215 rfl (by decide) (fun h215 => ?_) (fun h215 => ?_)
                  · exact absurd h215 (nI_ge (a := q) (b := 36) (by omega) (by omega))
                  · refine v_aload_n (q := 219) hC dX12_ringsOf_218 rfl rfl rfl ?_
                    refine v_getR (q := 222) (r := 63) hC dX12_ringsOf_219 rfl fX12_37 (hL2.1 53 (by decide)) (hL2.2 53 26 63 rfl) ?_
                    refine v_iload (q := 224) hC dX12_ringsOf_222 rfl rfl ?_
                    refine v_aload_n (q := 225) hC dX12_ringsOf_224 rfl rfl rfl ?_
                    refine v_getR (q := 228) (r := 64) hC dX12_ringsOf_225 rfl fX12_40 (hL2.1 53 (by decide)) (hL2.2 53 27 64 rfl) ?_
                    refine v_iload (q := 230) hC dX12_ringsOf_228 rfl rfl ?_
                    refine v_ialdN (q := 231) (j := q) hC dX12_ringsOf_230 rfl (hL2.1 64 (by decide)) rfl (by omega) (by decide) ?_
                    refine v_iastN (q := 232) (j := q) hC dX12_ringsOf_231 rfl (hL2.1 63 (by decide)) rfl (by omega) (by decide) ?_
                    refine v_iinc (q := 235) (v := 1) (L' := [_, _, _, _, _, _, _, _]) hC dX12_ringsOf_232 rfl rfl (by decide) (by decide) rfl rfl ?_
                    refine v_goto (q := 211) hC dX12_ringsOf_235 (by decide) ?_
                    rw [nI_1 q]
                    refine ih (q + 1) _ (by omega) (hS2.c (by simp) (by decide)) ⟨fun j => by rw [zI_ne (by omega)]; exact hc.1 j, fun j hj => ?_⟩
                    rw [zI_sI]
                    by_cases e : j = q
                    · rw [if_pos ⟨rfl, e⟩, e]; exact hc.1 q
                    · rw [if_neg (fun z => e z.2)]; exact hc.2 j (by omega)
              exact lp6 36 0 σ1 (by omega) zSm.rf ⟨fun _ => rfl, fun j hj => absurd hj (Nat.not_lt_zero j)⟩
            · exact absurd (nI_le (a := 36) (b := q) (by omega) (by omega)) h95
          | succ r4 ih =>
            intro q o5 o6 o7 σ1 hq hS hz hu
            have hL1 := hS.lay hL
            have hF1 := hF.sm hS rfl rfl
            have hs1 := hs.sm hS rfl
            refine v_iload (q := 93) hC dX12_ringsOf_91 rfl rfl ?_
            refine v_bipush (q := 95) (v := 36) hC dX12_ringsOf_93 rfl (by decide) ?_
            refine v_icmp_ge (q := 98) (tgt := 208) hC dX12_ringsOf_95 rfl (by decide) (fun h95 => ?_) (fun h95 => ?_)
            · exact absurd h95 (nI_ge (a := q) (b := 36) (by omega) (by omega))
            · refine v_iload (q := 100) hC dX12_ringsOf_98 rfl rfl ?_
              refine v_bipush (q := 102) (v := 6) hC dX12_ringsOf_100 rfl (by decide) ?_
              refine v_irem (q := 103) hC dX12_ringsOf_102 rfl (by decide) ?_
              rw [zrm6 (by omega)]
              refine v_istore (q := 105) (L' := [_, _, _, _, _, _, _, _]) hC dX12_ringsOf_103 rfl (by decide) rfl rfl ?_
              refine v_iconst (q := 106) (v := 0) hC dX12_ringsOf_105 rfl (by decide) ?_
              refine v_istore (q := 108) (L' := [_, _, _, _, _, _, _, _]) hC dX12_ringsOf_106 rfl (by decide) rfl rfl ?_
              have ih4 := ih
              have lp5 : ∀ (r : Nat) (b : Nat) (o7 : Option Value) (σ1 : zSt), b + r = n → zSm [63, 64] [] σ σ1 → zHold σ1 63 6 (fun h w => nI ((pMg n (pGv kd kin met) (pSn kin) p len k) h w)) → zHold σ1 64 6 (fun h w => nI (pU n (pGv kd kin met) (pSn kin) p len k (pMg n (pGv kd kin met) (pSn kin) p len k) q b h w)) → zV X 8 108 [some (.ref 53), some (.int (nI p)), some (.int (nI len)), some (.int (nI (k + 1))), some (.int (nI q)), some (.int (nI (q % 6))), some (.int (nI b)), o7] [] 0 0 σ1 := by
                intro r
                induction r with
                | zero =>
                  intro b o7 σ1 hb hS hz hu
                  have hL1 := hS.lay hL
                  have hF1 := hF.sm hS rfl rfl
                  have hs1 := hs.sm hS rfl
                  refine v_iload (q := 110) hC dX12_ringsOf_108 rfl rfl ?_
                  refine v_aload_n (q := 111) hC dX12_ringsOf_110 rfl rfl rfl ?_
                  refine v_getI (q := 114) hC dX12_ringsOf_111 rfl fX12_126 (hL1.1 53 (by decide)) ?_
                  rw [hF1.1]
                  refine v_icmp_ge (q := 117) (tgt := 202) hC dX12_ringsOf_114 rfl (by decide) (fun h114 => ?_) (fun h114 => ?_)
                  · refine v_iinc (q := 205) (v := 1) (L' := [_, _, _, _, _, _, _, _]) hC dX12_ringsOf_202 rfl rfl (by decide) (by decide) rfl rfl ?_
                    refine v_goto (q := 91) hC dX12_ringsOf_205 (by decide) ?_
                    rw [nI_1 q]
                    exact ih4 (q + 1) _ _ _ σ1 (by omega) hS hz (hu.eq (fun h w hh hw => by rw [pU_x hh (Or.inl (show n ≤ b by omega))]))
                  · exact absurd (nI_le (a := n) (b := b) (by omega) (by omega)) h114
                | succ r ih =>
                  intro b o7 σ1 hb hS hz hu
                  have hL1 := hS.lay hL
                  have hF1 := hF.sm hS rfl rfl
                  have hs1 := hs.sm hS rfl
                  refine v_iload (q := 110) hC dX12_ringsOf_108 rfl rfl ?_
                  refine v_aload_n (q := 111) hC dX12_ringsOf_110 rfl rfl rfl ?_
                  refine v_getI (q := 114) hC dX12_ringsOf_111 rfl fX12_126 (hL1.1 53 (by decide)) ?_
                  rw [hF1.1]
                  refine v_icmp_ge (q := 117) (tgt := 202) hC dX12_ringsOf_114 rfl (by decide) (fun h114 => ?_) (fun h114 => ?_)
                  · exact absurd h114 (nI_ge (a := b) (b := n) (by omega) (by omega))
                  · have hbn : b < n := by omega
                    have hzq := hz (q / 6) (q % 6) (by omega) (by omega)
                    rw [show 6 * (q / 6) + q % 6 = q by omega] at hzq
                    have hle : (pMg n (pGv kd kin met) (pSn kin) p len k) (q / 6) (q % 6) ≤ 7776 := pMg_le hn6 (by omega)
                    refine v_aload_n (q := 118) hC dX12_ringsOf_117 rfl rfl rfl ?_
                    refine v_getR (q := 121) (r := 63) hC dX12_ringsOf_118 rfl fX12_37 (hL1.1 53 (by decide)) (hL1.2 53 26 63 rfl) ?_
                    refine v_iload (q := 123) hC dX12_ringsOf_121 rfl rfl ?_
                    refine v_ialdN (q := 124) (j := q) hC dX12_ringsOf_123 rfl (hL1.1 63 (by decide)) rfl (by omega) (by decide) ?_
                    rw [hzq]
                    have c124 : nI ((pMg n (pGv kd kin met) (pSn kin) p len k) (q / 6) (q % 6)) ≤ 0 ↔ (pMg n (pGv kd kin met) (pSn kin) p len k) (q / 6) (q % 6) ≤ 0 := nI_leI (b := 0) (by omega) (by omega)
                    refine v_if_le (q := 127) (tgt := 202) hC dX12_ringsOf_124 rfl (by decide) (fun h124 => ?_) (fun h124 => ?_)
                    · refine v_iinc (q := 205) (v := 1) (L' := [_, _, _, _, _, _, _, _]) hC dX12_ringsOf_202 rfl rfl (by decide) (by decide) rfl rfl ?_
                      refine v_goto (q := 91) hC dX12_ringsOf_205 (by decide) ?_
                      rw [nI_1 q]
                      exact ih4 (q + 1) _ _ _ σ1 (by omega) hS hz (hu.eq (fun h w hh hw => by rw [pU_x hh (Or.inr (Nat.le_zero.mp (c124.mp h124)))]))
                    · have hpos : 0 < (pMg n (pGv kd kin met) (pSn kin) p len k) (q / 6) (q % 6) := Nat.not_le.mp (fun z => h124 (c124.mpr z))
                      have hdn : q / 6 < n := Nat.not_le.mp (fun z => by have := pMg_z (gv := (pGv kd kin met)) (sn := (pSn kin)) (p := p) (len := len) (k := k) (w := q % 6) (Or.inl z); omega)
                      have han : q % 6 < n := Nat.not_le.mp (fun z => by have := pMg_z (gv := (pGv kd kin met)) (sn := (pSn kin)) (p := p) (len := len) (k := k) (h := q / 6) (Or.inr z); omega)
                      have c130 : nI b = nI p ↔ b = p := nI_eq (by omega) (by omega)
                      have c146 : nI (k + 1) = nI (len - 1) ↔ k + 2 = len := by rw [nI_eq (by omega) (by omega)]; omega
                      have j196b : ∀ (o7 : Option Value) (σ2 : zSt), zSm [63, 64] [] σ σ2 → zHold σ2 63 6 (fun h w => nI ((pMg n (pGv kd kin met) (pSn kin) p len k) h w)) → zHold σ2 64 6 (fun h w => nI (pU n (pGv kd kin met) (pSn kin) p len k (pMg n (pGv kd kin met) (pSn kin) p len k) q (b + 1) h w)) → zV X 8 196 [some (.ref 53), some (.int (nI p)), some (.int (nI len)), some (.int (nI (k + 1))), some (.int (nI q)), some (.int (nI (q % 6))), some (.int (nI b)), o7] [] 0 0 σ2 := by
                        intro o7 σ2 hS2 hz2 hu2
                        have hL2 := hS2.lay hL
                        refine v_iinc (q := 199) (v := 1) (L' := [_, _, _, _, _, _, _, _]) hC dX12_ringsOf_196 rfl rfl (by decide) (by decide) rfl rfl ?_
                        refine v_goto (q := 108) hC dX12_ringsOf_199 (by decide) ?_
                        rw [nI_1 b]
                        exact ih (b + 1) _ _ (by omega) hS2 hz2 hu2
                      have j196 : ∀ o7 : Option Value, pTt n (pGv kd kin met) (pSn kin) p len k (pMg n (pGv kd kin met) (pSn kin) p len k) (q % 6) b (q / 6) = 0 → zV X 8 196 [some (.ref 53), some (.int (nI p)), some (.int (nI len)), some (.int (nI (k + 1))), some (.int (nI q)), some (.int (nI (q % 6))), some (.int (nI b)), o7] [] 0 0 σ1 := by
                        intro o7 hT
                        refine v_iinc (q := 199) (v := 1) (L' := [_, _, _, _, _, _, _, _]) hC dX12_ringsOf_196 rfl rfl (by decide) (by decide) rfl rfl ?_
                        refine v_goto (q := 108) hC dX12_ringsOf_199 (by decide) ?_
                        rw [nI_1 b]
                        refine ih (b + 1) _ _ (by omega) hS hz (hu.eq (fun h w hh hw => ?_))
                        try dsimp only
                        rw [pU_b hh, hT, Nat.add_zero]
                        by_cases e : h = q % 6 ∧ w = b
                        · rw [if_pos e, e.1, e.2]
                        · rw [if_neg e]
                      have j157 : ∀ o7 : Option Value, (b = p ↔ k + 2 = len) → zV X 8 157 [some (.ref 53), some (.int (nI p)), some (.int (nI len)), some (.int (nI (k + 1))), some (.int (nI q)), some (.int (nI (q % 6))), some (.int (nI b)), o7] [] 0 0 σ1 := by
                        intro o7 hcc
                        refine v_aload_n (q := 158) hC dX12_ringsOf_157 rfl rfl rfl ?_
                        refine v_iload (q := 160) hC dX12_ringsOf_158 rfl rfl ?_
                        refine v_bipush (q := 162) (v := 6) hC dX12_ringsOf_160 rfl (by decide) ?_
                        refine v_idiv (q := 163) hC dX12_ringsOf_162 rfl (by decide) ?_
                        rw [zdv6 (by omega), show nI (q / 6) = zo (some (q / 6)) from rfl]
                        refine v_iload (q := 165) hC dX12_ringsOf_163 rfl rfl ?_
                        refine v_iload (q := 167) hC dX12_ringsOf_165 rfl rfl ?_
                        refine v_callV1 (q := 170) (As := [_, _, _]) hC dX12_ringsOf_167 rfl lX12_189 mX12_follows iX12_follows eX12_follows rfl (hL1.1 53 (by decide)) (ct_X12_followsG d hL1 hF1 hs1 hsy (i := some (q / 6)) (fun g hg => by cases hg; exact hdn) han hbn) rfl rfl (by omega) rfl (Nat.le_of_ble_eq_true rfl) ?_
                        refine v_if_eq (q := 173) (tgt := 196) hC dX12_ringsOf_170 rfl (by decide) (fun h170 => ?_) (fun h170 => ?_)
                        · first
                            | exact j196 _ (pTt_p (pFw_f h170))
                            | (have hP := pFw_t h170
                               have eT : pTt n (pGv kd kin met) (pSn kin) p len k (pMg n (pGv kd kin met) (pSn kin) p len k) (q % 6) b (q / 6) = (pMg n (pGv kd kin met) (pSn kin) p len k) (q / 6) (q % 6) := if_pos ⟨han, hbn, hcc, hP⟩
                               refine j196b _ _ (hS.c (by simp) (by decide)) (fun h w hh hw => by rw [zI_ne (by omega)]; exact hz h w hh hw) (hu.set (a := q % 6) (b := b) (x := nI (pU n (pGv kd kin met) (pSn kin) p len k (pMg n (pGv kd kin met) (pSn kin) p len k) q b (q % 6) b + (pMg n (pGv kd kin met) (pSn kin) p len k) (q / 6) (q % 6))) (by omega) (fun j => by rw [zI_sI]; by_cases e : j = 6 * (q % 6) + b <;> simp [e]) (fun h w hh hw => ?_))
                               try dsimp only
                               rw [pU_b hh, eT]
                               by_cases e : h = q % 6 ∧ w = b
                               · rw [if_pos e, if_pos e]
                               · rw [if_neg e, if_neg e])
                        · refine v_aload_n (q := 174) hC dX12_ringsOf_173 rfl rfl rfl ?_
                          refine v_getR (q := 177) (r := 64) hC dX12_ringsOf_174 rfl fX12_40 (hL1.1 53 (by decide)) (hL1.2 53 27 64 rfl) ?_
                          refine v_bipush (q := 179) (v := 6) hC dX12_ringsOf_177 rfl (by decide) ?_
                          refine v_iload (q := 181) hC dX12_ringsOf_179 rfl rfl ?_
                          refine v_imul (q := 182) hC dX12_ringsOf_181 rfl ?_
                          refine v_iload (q := 184) hC dX12_ringsOf_182 rfl rfl ?_
                          refine v_iadd (q := 185) hC dX12_ringsOf_184 rfl ?_
                          rw [z6' (q % 6) b]
                          refine v_dup2 (q := 186) hC dX12_ringsOf_185 rfl rfl rfl ?_
                          refine v_ialdN (q := 187) (j := 6 * (q % 6) + b) hC dX12_ringsOf_186 rfl (hL1.1 64 (by decide)) rfl (by omega) (by decide) ?_
                          rw [hu (q % 6) b (by omega) (by omega)]
                          refine v_aload_n (q := 188) hC dX12_ringsOf_187 rfl rfl rfl ?_
                          refine v_getR (q := 191) (r := 63) hC dX12_ringsOf_188 rfl fX12_37 (hL1.1 53 (by decide)) (hL1.2 53 26 63 rfl) ?_
                          refine v_iload (q := 193) hC dX12_ringsOf_191 rfl rfl ?_
                          refine v_ialdN (q := 194) (j := q) hC dX12_ringsOf_193 rfl (hL1.1 63 (by decide)) rfl (by omega) (by decide) ?_
                          rw [hzq]
                          refine v_iadd (q := 195) hC dX12_ringsOf_194 rfl ?_
                          dsimp only
                          rw [nI_add]
                          refine v_iastN (q := 196) (j := 6 * (q % 6) + b) hC dX12_ringsOf_195 rfl (hL1.1 64 (by decide)) rfl (by omega) (by decide) ?_
                          first
                            | exact j196 _ (pTt_p (pFw_f h170))
                            | (have hP := pFw_t h170
                               have eT : pTt n (pGv kd kin met) (pSn kin) p len k (pMg n (pGv kd kin met) (pSn kin) p len k) (q % 6) b (q / 6) = (pMg n (pGv kd kin met) (pSn kin) p len k) (q / 6) (q % 6) := if_pos ⟨han, hbn, hcc, hP⟩
                               refine j196b _ _ (hS.c (by simp) (by decide)) (fun h w hh hw => by rw [zI_ne (by omega)]; exact hz h w hh hw) (hu.set (a := q % 6) (b := b) (x := nI (pU n (pGv kd kin met) (pSn kin) p len k (pMg n (pGv kd kin met) (pSn kin) p len k) q b (q % 6) b + (pMg n (pGv kd kin met) (pSn kin) p len k) (q / 6) (q % 6))) (by omega) (fun j => by rw [zI_sI]; by_cases e : j = 6 * (q % 6) + b <;> simp [e]) (fun h w hh hw => ?_))
                               try dsimp only
                               rw [pU_b hh, eT]
                               by_cases e : h = q % 6 ∧ w = b
                               · rw [if_pos e, if_pos e]
                               · rw [if_neg e, if_neg e])
                      refine v_iload (q := 129) hC dX12_ringsOf_127 rfl rfl ?_
                      refine v_iload_n (q := 130) hC dX12_ringsOf_129 rfl rfl rfl ?_
                      refine v_icmp_ne (q := 133) (tgt := 137) hC dX12_ringsOf_130 rfl (by decide) (fun h130 => ?_) (fun h130 => ?_)
                      · refine v_iconst (q := 138) (v := 0) hC dX12_ringsOf_137 rfl (by decide) ?_
                        refine v_istore (q := 140) (L' := [_, _, _, _, _, _, _, _]) hC dX12_ringsOf_138 rfl (by decide) rfl rfl ?_
                        refine v_iload (q := 142) hC dX12_ringsOf_140 rfl rfl ?_
                        refine v_iload_n (q := 143) hC dX12_ringsOf_142 rfl rfl rfl ?_
                        refine v_iload_n (q := 144) hC dX12_ringsOf_143 rfl rfl rfl ?_
                        refine v_iconst (q := 145) (v := 1) hC dX12_ringsOf_144 rfl (by decide) ?_
                        refine v_isub (q := 146) hC dX12_ringsOf_145 rfl ?_
                        rw [show nI len - 1 = nI (len - 1) from pk_sub (a := len) (b := 1) (by omega)]
                        refine v_icmp_ne (q := 149) (tgt := 153) hC dX12_ringsOf_146 rfl (by decide) (fun h146 => ?_) (fun h146 => ?_)
                        · refine v_iconst (q := 154) (v := 0) hC dX12_ringsOf_153 rfl (by decide) ?_
                          refine v_icmp_ne (q := 157) (tgt := 196) hC dX12_ringsOf_154 rfl (by decide) (fun h154 => ?_) (fun h154 => ?_)
                          · first | exact absurd rfl h154 | exact j196 _ (pTt_n (fun z => h146 (c146.mpr (z.mp (c130.mp h130))))) | exact j196 _ (pTt_n (fun z => h130 (c130.mpr (z.mpr (c146.mp h146)))))
                          · first | exact absurd h154 (by decide) | exact j157 _ ⟨fun _ => c146.mp h146, fun _ => c130.mp h130⟩ | exact j157 _ ⟨fun z => absurd (c130.mpr z) h130, fun z => absurd (c146.mpr z) h146⟩
                        · refine v_iconst (q := 150) (v := 1) hC dX12_ringsOf_149 rfl (by decide) ?_
                          refine v_goto (q := 154) hC dX12_ringsOf_150 (by decide) ?_
                          refine v_icmp_ne (q := 157) (tgt := 196) hC dX12_ringsOf_154 rfl (by decide) (fun h154 => ?_) (fun h154 => ?_)
                          · first | exact absurd rfl h154 | exact j196 _ (pTt_n (fun z => h146 (c146.mpr (z.mp (c130.mp h130))))) | exact j196 _ (pTt_n (fun z => h130 (c130.mpr (z.mpr (c146.mp h146)))))
                          · first | exact absurd h154 (by decide) | exact j157 _ ⟨fun _ => c146.mp h146, fun _ => c130.mp h130⟩ | exact j157 _ ⟨fun z => absurd (c130.mpr z) h130, fun z => absurd (c146.mpr z) h146⟩
                      · refine v_iconst (q := 134) (v := 1) hC dX12_ringsOf_133 rfl (by decide) ?_
                        refine v_goto (q := 138) hC dX12_ringsOf_134 (by decide) ?_
                        refine v_istore (q := 140) (L' := [_, _, _, _, _, _, _, _]) hC dX12_ringsOf_138 rfl (by decide) rfl rfl ?_
                        refine v_iload (q := 142) hC dX12_ringsOf_140 rfl rfl ?_
                        refine v_iload_n (q := 143) hC dX12_ringsOf_142 rfl rfl rfl ?_
                        refine v_iload_n (q := 144) hC dX12_ringsOf_143 rfl rfl rfl ?_
                        refine v_iconst (q := 145) (v := 1) hC dX12_ringsOf_144 rfl (by decide) ?_
                        refine v_isub (q := 146) hC dX12_ringsOf_145 rfl ?_
                        rw [show nI len - 1 = nI (len - 1) from pk_sub (a := len) (b := 1) (by omega)]
                        refine v_icmp_ne (q := 149) (tgt := 153) hC dX12_ringsOf_146 rfl (by decide) (fun h146 => ?_) (fun h146 => ?_)
                        · refine v_iconst (q := 154) (v := 0) hC dX12_ringsOf_153 rfl (by decide) ?_
                          refine v_icmp_ne (q := 157) (tgt := 196) hC dX12_ringsOf_154 rfl (by decide) (fun h154 => ?_) (fun h154 => ?_)
                          · first | exact absurd rfl h154 | exact j196 _ (pTt_n (fun z => h146 (c146.mpr (z.mp (c130.mp h130))))) | exact j196 _ (pTt_n (fun z => h130 (c130.mpr (z.mpr (c146.mp h146)))))
                          · first | exact absurd h154 (by decide) | exact j157 _ ⟨fun _ => c146.mp h146, fun _ => c130.mp h130⟩ | exact j157 _ ⟨fun z => absurd (c130.mpr z) h130, fun z => absurd (c146.mpr z) h146⟩
                        · refine v_iconst (q := 150) (v := 1) hC dX12_ringsOf_149 rfl (by decide) ?_
                          refine v_goto (q := 154) hC dX12_ringsOf_150 (by decide) ?_
                          refine v_icmp_ne (q := 157) (tgt := 196) hC dX12_ringsOf_154 rfl (by decide) (fun h154 => ?_) (fun h154 => ?_)
                          · first | exact absurd rfl h154 | exact j196 _ (pTt_n (fun z => h146 (c146.mpr (z.mp (c130.mp h130))))) | exact j196 _ (pTt_n (fun z => h130 (c130.mpr (z.mpr (c146.mp h146)))))
                          · first | exact absurd h154 (by decide) | exact j157 _ ⟨fun _ => c146.mp h146, fun _ => c130.mp h130⟩ | exact j157 _ ⟨fun z => absurd (c130.mpr z) h130, fun z => absurd (c146.mpr z) h146⟩
              exact lp5 n 0 _ σ1 (by omega) hS hz hu
        have lp3 : ∀ (r : Nat) (q : Nat) (σ1 : zSt), q + r = 36 → zSm [63, 64] [] σ σ1 → zHold σ1 63 6 (fun h w => nI ((pMg n (pGv kd kin met) (pSn kin) p len k) h w)) → (∀ j, j < q → zI σ1 64 j = 0) → zV X 8 67 [some (.ref 53), some (.int (nI p)), some (.int (nI len)), some (.int (nI (k + 1))), some (.int (nI q)), o5, o6, o7] [] 0 0 σ1 := by
          intro r
          induction r with
          | zero =>
            intro q σ1 hq hS hz hc
            have hL1 := hS.lay hL
            have hF1 := hF.sm hS rfl rfl
            have hs1 := hs.sm hS rfl
            refine v_iload (q := 69) hC dX12_ringsOf_67 rfl rfl ?_
            refine v_bipush (q := 71) (v := 36) hC dX12_ringsOf_69 rfl (by decide) ?_
            refine v_icmp_ge (q := 74) (tgt := 88) hC dX12_ringsOf_71 rfl (by decide) (fun h71 => ?_) (fun h71 => ?_)
            · refine v_iconst (q := 89) (v := 0) hC dX12_ringsOf_88 rfl (by decide) ?_
              refine v_istore (q := 91) (L' := [_, _, _, _, _, _, _, _]) hC dX12_ringsOf_89 rfl (by decide) rfl rfl ?_
              exact lp4 36 0 _ _ _ σ1 (by omega) hS hz (fun h w hh hw => by rw [hc _ (by omega)]; show _ = nI _; rw [pU_0 hh]; rfl)
            · exact absurd (nI_le (a := 36) (b := q) (by omega) (by omega)) h71
          | succ r ih =>
            intro q σ1 hq hS hz hc
            have hL1 := hS.lay hL
            have hF1 := hF.sm hS rfl rfl
            have hs1 := hs.sm hS rfl
            refine v_iload (q := 69) hC dX12_ringsOf_67 rfl rfl ?_
            refine v_bipush (q := 71) (v := 36) hC dX12_ringsOf_69 rfl (by decide) ?_
            refine v_icmp_ge (q := 74) (tgt := 88) hC dX12_ringsOf_71 rfl (by decide) (fun h71 => ?_) (fun h71 => ?_)
            · exact absurd h71 (nI_ge (a := q) (b := 36) (by omega) (by omega))
            · refine v_aload_n (q := 75) hC dX12_ringsOf_74 rfl rfl rfl ?_
              refine v_getR (q := 78) (r := 64) hC dX12_ringsOf_75 rfl fX12_40 (hL1.1 53 (by decide)) (hL1.2 53 27 64 rfl) ?_
              refine v_iload (q := 80) hC dX12_ringsOf_78 rfl rfl ?_
              refine v_iconst (q := 81) (v := 0) hC dX12_ringsOf_80 rfl (by decide) ?_
              refine v_iastN (q := 82) (j := q) hC dX12_ringsOf_81 rfl (hL1.1 64 (by decide)) rfl (by omega) (by decide) ?_
              refine v_iinc (q := 85) (v := 1) (L' := [_, _, _, _, _, _, _, _]) hC dX12_ringsOf_82 rfl rfl (by decide) (by decide) rfl rfl ?_
              refine v_goto (q := 67) hC dX12_ringsOf_85 (by decide) ?_
              rw [nI_1 q]
              refine ih (q + 1) _ (by omega) (hS.c (by simp) (by decide)) (fun h w hh hw => by rw [zI_ne (by omega)]; exact hz h w hh hw) (fun j hj => ?_)
              rw [zI_sI]
              by_cases e : j = q
              · rw [if_pos ⟨rfl, e⟩]
              · rw [if_neg (fun z => e z.2)]; exact hc j (by omega)
        exact lp3 36 0 σ1 (by omega) hS hz (fun j hj => absurd hj (Nat.not_lt_zero j))
  have lp1 : ∀ (r : Nat) (q : Nat) (σ1 : zSt), q + r = 36 → zSm [63, 64] [] σ σ1 → (∀ j, j < q → zI σ1 63 j = if j / 6 = p ∧ j % 6 < n ∧ pGv kd kin met p (j % 6) = true then 1 else 0) → zV X 8 2 [some (.ref 53), some (.int (nI p)), some (.int (nI len)), some (.int (nI q)), none, none, none, none] [] 0 0 σ1 := by
    intro r
    induction r with
    | zero =>
      intro q σ1 hq hS hc
      have hL1 := hS.lay hL
      have hF1 := hF.sm hS rfl rfl
      have hs1 := hs.sm hS rfl
      refine v_iload_n (q := 3) hC dX12_ringsOf_2 rfl rfl rfl ?_
      refine v_bipush (q := 5) (v := 36) hC dX12_ringsOf_3 rfl (by decide) ?_
      refine v_icmp_ge (q := 8) (tgt := 57) hC dX12_ringsOf_5 rfl (by decide) (fun h5 => ?_) (fun h5 => ?_)
      · refine v_iconst (q := 58) (v := 1) hC dX12_ringsOf_57 rfl (by decide) ?_
        refine v_istore_n (q := 59) (L' := [_, _, _, _, _, _, _, _]) hC dX12_ringsOf_58 rfl rfl (by decide) rfl rfl ?_
        exact lp2 (len - 1) 0 _ _ _ _ σ1 (by omega) hS (fun h w hh hw => by rw [hc _ (by omega)]; show _ = nI _; rw [pMg_0 hl2 hpn hn6 hw hh pGv_ir, show (6 * h + w) / 6 = h by omega, show (6 * h + w) % 6 = w by omega]; by_cases e : h = p ∧ w < n ∧ pGv kd kin met p w = true <;> simp [e, nI])
      · exact absurd (nI_le (a := 36) (b := q) (by omega) (by omega)) h5
    | succ r ih =>
      intro q σ1 hq hS hc
      have hL1 := hS.lay hL
      have hF1 := hF.sm hS rfl rfl
      have hs1 := hs.sm hS rfl
      refine v_iload_n (q := 3) hC dX12_ringsOf_2 rfl rfl rfl ?_
      refine v_bipush (q := 5) (v := 36) hC dX12_ringsOf_3 rfl (by decide) ?_
      refine v_icmp_ge (q := 8) (tgt := 57) hC dX12_ringsOf_5 rfl (by decide) (fun h5 => ?_) (fun h5 => ?_)
      · exact absurd h5 (nI_ge (a := q) (b := 36) (by omega) (by omega))
      · refine v_aload_n (q := 9) hC dX12_ringsOf_8 rfl rfl rfl ?_
        refine v_getR (q := 12) (r := 63) hC dX12_ringsOf_9 rfl fX12_37 (hL1.1 53 (by decide)) (hL1.2 53 26 63 rfl) ?_
        refine v_iload_n (q := 13) hC dX12_ringsOf_12 rfl rfl rfl ?_
        refine v_iload_n (q := 14) hC dX12_ringsOf_13 rfl rfl rfl ?_
        refine v_bipush (q := 16) (v := 6) hC dX12_ringsOf_14 rfl (by decide) ?_
        refine v_idiv (q := 17) hC dX12_ringsOf_16 rfl (by decide) ?_
        rw [zdv6 (by omega)]
        refine v_iload_n (q := 18) hC dX12_ringsOf_17 rfl rfl rfl ?_
        have c18 : nI (q / 6) = nI p ↔ q / 6 = p := nI_eq (by omega) (by omega)
        refine v_icmp_ne (q := 21) (tgt := 49) hC dX12_ringsOf_18 rfl (by decide) (fun h18 => ?_) (fun h18 => ?_)
        · refine v_iconst (q := 50) (v := 0) hC dX12_ringsOf_49 rfl (by decide) ?_
          refine v_iastN (q := 51) (j := q) hC dX12_ringsOf_50 rfl (hL1.1 63 (by decide)) rfl (by omega) (by decide) ?_
          refine v_iinc (q := 54) (v := 1) (L' := [_, _, _, _, _, _, _, _]) hC dX12_ringsOf_51 rfl rfl (by decide) (by decide) rfl rfl ?_
          refine v_goto (q := 2) hC dX12_ringsOf_54 (by decide) ?_
          rw [nI_1 q]
          refine ih (q + 1) _ (by omega) (hS.c (by simp) (by decide)) (fun j hj => ?_)
          rw [zI_sI]
          by_cases e : j = q
          · rw [if_pos ⟨rfl, e⟩, e]
            first
              | (have hg : pGv kd kin met p (q % 6) = true := by have := zb_ne h42; simpa [pFw] using this
                 rw [if_pos ⟨c18.mp h18, hqn, hg⟩])
              | (have hg : ¬ pGv kd kin met p (q % 6) = true := by have := zb_eq0.mp h42; simpa [pFw] using this
                 rw [if_neg (fun z => hg z.2.2)])
              | rw [if_neg (fun z => h18 (c18.mpr z.1))]
              | rw [if_neg (fun z => absurd z.2.1 (Nat.not_lt.mpr (c29.mp h29)))]
          · rw [if_neg (fun z => e z.2)]; exact hc j (by omega)
        · refine v_iload_n (q := 22) hC dX12_ringsOf_21 rfl rfl rfl ?_
          refine v_bipush (q := 24) (v := 6) hC dX12_ringsOf_22 rfl (by decide) ?_
          refine v_irem (q := 25) hC dX12_ringsOf_24 rfl (by decide) ?_
          rw [zrm6 (by omega)]
          refine v_aload_n (q := 26) hC dX12_ringsOf_25 rfl rfl rfl ?_
          refine v_getI (q := 29) hC dX12_ringsOf_26 rfl fX12_126 (hL1.1 53 (by decide)) ?_
          rw [hF1.1]
          have c29 : nI n ≤ nI (q % 6) ↔ n ≤ q % 6 := nI_leI (by omega) (by omega)
          refine v_icmp_ge (q := 32) (tgt := 49) hC dX12_ringsOf_29 rfl (by decide) (fun h29 => ?_) (fun h29 => ?_)
          · refine v_iconst (q := 50) (v := 0) hC dX12_ringsOf_49 rfl (by decide) ?_
            refine v_iastN (q := 51) (j := q) hC dX12_ringsOf_50 rfl (hL1.1 63 (by decide)) rfl (by omega) (by decide) ?_
            refine v_iinc (q := 54) (v := 1) (L' := [_, _, _, _, _, _, _, _]) hC dX12_ringsOf_51 rfl rfl (by decide) (by decide) rfl rfl ?_
            refine v_goto (q := 2) hC dX12_ringsOf_54 (by decide) ?_
            rw [nI_1 q]
            refine ih (q + 1) _ (by omega) (hS.c (by simp) (by decide)) (fun j hj => ?_)
            rw [zI_sI]
            by_cases e : j = q
            · rw [if_pos ⟨rfl, e⟩, e]
              first
                | (have hg : pGv kd kin met p (q % 6) = true := by have := zb_ne h42; simpa [pFw] using this
                   rw [if_pos ⟨c18.mp h18, hqn, hg⟩])
                | (have hg : ¬ pGv kd kin met p (q % 6) = true := by have := zb_eq0.mp h42; simpa [pFw] using this
                   rw [if_neg (fun z => hg z.2.2)])
                | rw [if_neg (fun z => h18 (c18.mpr z.1))]
                | rw [if_neg (fun z => absurd z.2.1 (Nat.not_lt.mpr (c29.mp h29)))]
            · rw [if_neg (fun z => e z.2)]; exact hc j (by omega)
          · have hqn : q % 6 < n := Nat.not_le.mp (fun z => h29 (c29.mpr z))
            refine v_aload_n (q := 33) hC dX12_ringsOf_32 rfl rfl rfl ?_
            refine v_iconst (q := 34) (v := -1) hC dX12_ringsOf_33 rfl (by decide) ?_
            refine v_iload_n (q := 35) hC dX12_ringsOf_34 rfl rfl rfl ?_
            refine v_iload_n (q := 36) hC dX12_ringsOf_35 rfl rfl rfl ?_
            refine v_bipush (q := 38) (v := 6) hC dX12_ringsOf_36 rfl (by decide) ?_
            refine v_irem (q := 39) hC dX12_ringsOf_38 rfl (by decide) ?_
            rw [zrm6 (by omega), show (-1 : Int32) = zo none from rfl]
            refine v_callV1 (q := 42) (As := [_, _, _]) hC dX12_ringsOf_39 rfl lX12_189 mX12_follows iX12_follows eX12_follows rfl (hL1.1 53 (by decide)) (ct_X12_followsG d hL1 hF1 hs1 hsy (i := none) (fun g hg => by cases hg) hpn hqn) rfl rfl (by omega) rfl (Nat.le_of_ble_eq_true rfl) ?_
            refine v_if_eq (q := 45) (tgt := 49) hC dX12_ringsOf_42 rfl (by decide) (fun h42 => ?_) (fun h42 => ?_)
            · refine v_iconst (q := 50) (v := 0) hC dX12_ringsOf_49 rfl (by decide) ?_
              refine v_iastN (q := 51) (j := q) hC dX12_ringsOf_50 rfl (hL1.1 63 (by decide)) rfl (by omega) (by decide) ?_
              refine v_iinc (q := 54) (v := 1) (L' := [_, _, _, _, _, _, _, _]) hC dX12_ringsOf_51 rfl rfl (by decide) (by decide) rfl rfl ?_
              refine v_goto (q := 2) hC dX12_ringsOf_54 (by decide) ?_
              rw [nI_1 q]
              refine ih (q + 1) _ (by omega) (hS.c (by simp) (by decide)) (fun j hj => ?_)
              rw [zI_sI]
              by_cases e : j = q
              · rw [if_pos ⟨rfl, e⟩, e]
                first
                  | (have hg : pGv kd kin met p (q % 6) = true := by have := zb_ne h42; simpa [pFw] using this
                     rw [if_pos ⟨c18.mp h18, hqn, hg⟩])
                  | (have hg : ¬ pGv kd kin met p (q % 6) = true := by have := zb_eq0.mp h42; simpa [pFw] using this
                     rw [if_neg (fun z => hg z.2.2)])
                  | rw [if_neg (fun z => h18 (c18.mpr z.1))]
                  | rw [if_neg (fun z => absurd z.2.1 (Nat.not_lt.mpr (c29.mp h29)))]
              · rw [if_neg (fun z => e z.2)]; exact hc j (by omega)
            · refine v_iconst (q := 46) (v := 1) hC dX12_ringsOf_45 rfl (by decide) ?_
              refine v_goto (q := 50) hC dX12_ringsOf_46 (by decide) ?_
              refine v_iastN (q := 51) (j := q) hC dX12_ringsOf_50 rfl (hL1.1 63 (by decide)) rfl (by omega) (by decide) ?_
              refine v_iinc (q := 54) (v := 1) (L' := [_, _, _, _, _, _, _, _]) hC dX12_ringsOf_51 rfl rfl (by decide) (by decide) rfl rfl ?_
              refine v_goto (q := 2) hC dX12_ringsOf_54 (by decide) ?_
              rw [nI_1 q]
              refine ih (q + 1) _ (by omega) (hS.c (by simp) (by decide)) (fun j hj => ?_)
              rw [zI_sI]
              by_cases e : j = q
              · rw [if_pos ⟨rfl, e⟩, e]
                first
                  | (have hg : pGv kd kin met p (q % 6) = true := by have := zb_ne h42; simpa [pFw] using this
                     rw [if_pos ⟨c18.mp h18, hqn, hg⟩])
                  | (have hg : ¬ pGv kd kin met p (q % 6) = true := by have := zb_eq0.mp h42; simpa [pFw] using this
                     rw [if_neg (fun z => hg z.2.2)])
                  | rw [if_neg (fun z => h18 (c18.mpr z.1))]
                  | rw [if_neg (fun z => absurd z.2.1 (Nat.not_lt.mpr (c29.mp h29)))]
              · rw [if_neg (fun z => e z.2)]; exact hc j (by omega)
  refine v_iconst (q := 1) (v := 0) hC dX12_ringsOf_0 rfl (by decide) ?_
  refine v_istore_n (q := 2) (L' := [_, _, _, _, _, _, _, _]) hC dX12_ringsOf_1 rfl rfl (by decide) rfl rfl ?_
  exact lp1 36 0 σ (by omega) zSm.rf (fun j hj => absurd hj (Nat.not_lt_zero j))

set_option maxRecDepth 100000 in
set_option maxHeartbeats 4000000 in
theorem md_rings (d : Nat) {σ : zSt} {S : pS} {B : Nat} (h : zMd σ S) (ok : pOk B S) (p : Int32) (k : Int32) : zCt (d + 4) MX12_rings [.ref 53, .int p, .int k] σ (zQs zMd zFm σ (sRings S p k)) := by
  refine zCt.of (L := [some (.ref 53), some (.int p), some (.int k)]) (by decide) (Nat.le_of_ble_eq_true rfl) rfl (fun X hC hB => ?_)
  have hC : zC X RX12 cX12_rings 3 (d + 4) 0 0 := hC
  have hB : zB X (some .int) 0 0 "rings" σ _ := hB
  show zV X 3 0 [some (.ref 53), some (.int p), some (.int k)] [] 0 0 σ
  have h0 := h
  obtain ⟨hL, hp, hF, hd, hs, hk, hy, he⟩ := h
  obtain ⟨oB, oq, ow, oqt, ot, okm, omm, oq0, oL, oD, okr, okp, oK, osym, okp6, okd⟩ := ok
  have hn6 := hF.2.1
  have hm12 := hd.2.1
  have hsy : ∀ a b, a < 6 → b < 6 → qKin S a b = qKin S b a := fun a b ha hb => (osym a b ha hb).1
  refine v_aload_n (q := 1) hC dX12_rings_0 rfl rfl rfl ?_
  refine v_iload_n (q := 2) hC dX12_rings_1 rfl rfl rfl ?_
  refine v_callV1 (q := 5) (As := [_]) hC dX12_rings_2 rfl lX12_138 mX12_isPerson iX12_isPerson eX12_isPerson rfl (hL.1 53 (by decide)) (ct_X12_isPerson (d + 2) hL hF.1 (by omega) p) rfl rfl (by omega) rfl (Nat.le_of_ble_eq_true rfl) ?_
  refine v_if_ne (q := 8) (tgt := 11) hC dX12_rings_5 rfl (by decide) (fun h5 => ?_) (fun h5 => ?_)
  · have hz := zb_ne h5
    obtain ⟨p, hpp, rfl⟩ := zval_of (by omega) hz
    refine v_iload_n (q := 12) hC dX12_rings_11 rfl rfl rfl ?_
    refine v_i2l (q := 13) hC dX12_rings_12 rfl ?_
    refine v_ldc2 (q := 16) hC dX12_rings_13 rfl kX12_234 ?_
    refine v_ldc2 (q := 19) hC dX12_rings_16 rfl kX12_236 ?_
    refine v_callS1 (q := 22) (As := [_, _, _]) hC dX12_rings_19 rfl lX12_70 mX12_in sX12_in (ct_X12_inI (d + 3) k 2 6) rfl rfl (by omega) rfl (Nat.le_of_ble_eq_true rfl) ?_
    refine v_if_eq (q := 25) (tgt := 34) hC dX12_rings_22 rfl (by decide) (fun h22 => ?_) (fun h22 => ?_)
    · refine v_bipush (q := 36) (v := -102) hC dX12_rings_34 rfl (by decide) ?_
      refine v_ireturn hC hB dX12_rings_36 ⟨Nat.le_refl _, Nat.le_refl _⟩ ?_
      first
        | exact zQs.mk (S' := S) (by unfold sRings pRng; rw [hz, if_pos rfl, if_neg hr, dN_nI (by omega), dN_nI (by omega)]) ⟨hS.lay hL, hp.sm hS rfl rfl, hF.sm hS rfl rfl, hd.sm hS rfl rfl, hs.sm hS rfl, hk.sm hS rfl, hy.sm hS rfl rfl, he.sm hS rfl rfl⟩ (hS.fm rfl)
        | exact zQs.mk (by unfold sRings; rw [hz, if_pos rfl]; exact if_pos (Decidable.not_not.mp (of_decide_eq_false (zb_eq0.mp h22)))) h0 zFm.rf
    · have hr := of_decide_eq_true (zb_ne h22)
      obtain ⟨k, hk2, hk6, rfl⟩ := zbw (x := k) 2 6 (by omega) (by omega) (fun z => hr (Or.inl z)) (fun z => hr (Or.inr z))
      refine v_aload_n (q := 26) hC dX12_rings_25 rfl rfl rfl ?_
      refine v_iload_n (q := 27) hC dX12_rings_26 rfl rfl rfl ?_
      refine v_iload_n (q := 28) hC dX12_rings_27 rfl rfl rfl ?_
      refine v_callVQ (q := 31) (As := [_, _]) hC dX12_rings_28 rfl lX12_238 mX12_ringsOf iX12_ringsOf eX12_ringsOf rfl (hL.1 53 (by decide)) (ct_X12_ringsOf d hL hF hs hsy hpp hk2 hk6) rfl rfl (by omega) (by decide) (Nat.le_of_ble_eq_true rfl) ?_
      rintro _ σ1 ⟨rfl, hS⟩
      refine v_goto (q := 36) hC dX12_rings_31 (by decide) ?_
      refine v_ireturn hC hB dX12_rings_36 ⟨Nat.le_refl _, Nat.le_refl _⟩ ?_
      first
        | exact zQs.mk (S' := S) (by unfold sRings pRng; rw [hz, if_pos rfl, if_neg hr, dN_nI (by omega), dN_nI (by omega)]) ⟨hS.lay hL, hp.sm hS rfl rfl, hF.sm hS rfl rfl, hd.sm hS rfl rfl, hs.sm hS rfl, hk.sm hS rfl, hy.sm hS rfl rfl, he.sm hS rfl rfl⟩ (hS.fm rfl)
        | exact zQs.mk (by unfold sRings; rw [hz, if_pos rfl]; exact if_pos (Decidable.not_not.mp (of_decide_eq_false (zb_eq0.mp h22)))) h0 zFm.rf
  · refine v_bipush (q := 10) (v := -101) hC dX12_rings_8 rfl (by decide) ?_
    refine v_ireturn hC hB dX12_rings_10 ⟨Nat.le_refl _, Nat.le_refl _⟩ ?_
    exact zQs.mk (if_neg (by rw [zb_eq0.mp h5]; simp)) h0 zFm.rf

