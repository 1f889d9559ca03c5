/-! THE MODEL: the wheels' text, wheel by wheel -/
theorem prd_some {f : Nat → Nat} {j : Nat} {p p' : PS} (h : prd f j = (p, none)) (h2 : ptake p (f j) = some p') : prd f (j + 1) = (p', none) := by
  rw [show prd f (j + 1) = (match (prd f j).2 with | some _ => prd f j | none => match ptake (prd f j).1 (f j) with | some p => (p, none) | none => ((prd f j).1, some j)) from rfl, h]
  show (match ptake p (f j) with | some p => (p, none) | none => (p, some j)) = _
  rw [h2]
theorem prd_bad {f : Nat → Nat} {j : Nat} {p : PS} (h : prd f j = (p, none)) (h2 : ptake p (f j) = none) : (prd f (j + 1)).2 = some j := by
  rw [show prd f (j + 1) = (match (prd f j).2 with | some _ => prd f j | none => match ptake (prd f j).1 (f j) with | some p => (p, none) | none => ((prd f j).1, some j)) from rfl, h]
  show (match ptake p (f j) with | some p => (p, none) | none => (p, some j)).2 = _
  rw [h2]
theorem prd_stick {f : Nat → Nat} {j x : Nat} (h : (prd f j).2 = some x) : ∀ i, (prd f (j + i)).2 = some x := by
  intro i
  induction i with
  | zero => exact h
  | succ i ih =>
    rw [show prd f (j + (i + 1)) = (match (prd f (j + i)).2 with | some _ => prd f (j + i) | none => match ptake (prd f (j + i)).1 (f (j + i)) with | some p => (p, none) | none => ((prd f (j + i)).1, some (j + i))) from rfl, ih]
    exact ih
theorem pres_stop {N j : Nat} {f : Nat → Nat} {p : PS} (h : prd f j = (p, none)) (hj : j ≤ N) (h0 : 0 < N) (h2 : j < N → ptake p (f j) = none) (h3 : j = N → pstg p ≤ 3) : pres N f = (some j, pz) := by
  unfold pres
  rcases Nat.lt_or_ge j N with z | z
  · have := prd_stick (prd_bad h (h2 z)) (N - (j + 1))
    rw [show j + 1 + (N - (j + 1)) = N by omega] at this
    rw [this]
  · have e : j = N := by omega
    subst e
    rw [h]
    show (if 0 < j ∧ pstg p ≤ 3 then _ else _) = _
    rw [if_pos ⟨h0, h3 rfl⟩]
theorem pres_ok {N : Nat} {f : Nat → Nat} {p : PS} (h : prd f N = (p, none)) (h2 : 3 < pstg p) : pres N f = (none, p) := by
  unfold pres
  rw [h]
  show (if 0 < N ∧ pstg p ≤ 3 then _ else _) = _
  rw [if_neg (by omega)]
def mby (N : Nat) (f : Nat → Nat) (a : Nat) : Int32 := if a < N then nI (f a) else -1
def bin (N : Nat) (f : Nat → Nat) (lo hi a : Nat) : Bool := decide (a < N) && (decide (lo ≤ f a) && decide (f a ≤ hi))
theorem mby_gin {N : Nat} {f : Nat → Nat} {lo hi a : Nat} (hf : ∀ j, j < N → f j < 256) (h0 : 0 < lo) (hl : lo < 256) (hh : hi < 256) : gin (mby N f a) (nI lo) (nI hi) = bin N f lo hi a := by
  unfold mby bin
  by_cases z : a < N
  · rw [if_pos z, gin_nI (by have := hf a z; omega) (by omega) (by omega)]; simp [z]
  · rw [if_neg z]
    have : (-1 : Int32) < nI lo := Int32.lt_of_lt_of_le (by decide) (Int32.not_lt.mp (nI_pos (by omega)))
    simp [z, gin, this]
def TXm (N : Nat) (f : Nat → Nat) (m : gm_M) : Prop := N ≤ 71 ∧ m.1 53 0 = nI N ∧ ∀ j, j < N → m.1 54 j = nI (f j) ∧ f j < 256
theorem TXm.cong {N : Nat} {f : Nat → Nat} {m m' : gm_M} (h : TXm N f m) (e : ∀ c, c = 53 ∨ c = 54 → m'.1 c = m.1 c) : TXm N f m' := by
  unfold TXm; rw [e 53 (by omega), e 54 (by omega)]; exact h
def PIx (p : PS) (m : gm_M) : Prop := ∀ k, k < pnum p → m.1 55 k = nI (pso p k) ∧ m.1 56 k = nI (pfr p k) ∧ m.1 57 k = nI (psz p k) ∧ ∀ j, j < psz p k → m.1 58 (5 * k + j) = nI (psn p k j)
abbrev lP : List Nat := [55, 56, 57, 58]
def Wst (p : PS) (n s fr at' : Nat) (f : Nat → Nat) (j : Nat) (pj : PS) : Prop := pnum pj = n + 1 ∧ pstg pj = 3 + j ∧ pso pj n = s ∧ pfr pj n = fr ∧ psz pj n = j ∧ (∀ i, i < j → psn pj n i = f (at' + 3 + i) - 97) ∧ ∀ k, k < n → pso pj k = pso p k ∧ pfr pj k = pfr p k ∧ psz pj k = psz p k ∧ ∀ i, psn pj k i = psn p k i
theorem Wst.next {p pj : PS} {n s fr at' j : Nat} {f : Nat → Nat} (h : Wst p n s fr at' f j pj) (hj : j < 5) (h1 : 97 ≤ f (at' + 3 + j)) (h2 : f (at' + 3 + j) ≤ 104) : ptake pj (f (at' + 3 + j)) = some (pT3 pj (f (at' + 3 + j))) ∧ Wst p n s fr at' f (j + 1) (pT3 pj (f (at' + 3 + j))) := by
  obtain ⟨a1, a2, a3, a4, a5, a6, a7⟩ := h
  have e1 : pnum (pT3 pj (f (at' + 3 + j))) = n + 1 := a1
  constructor
  · unfold ptake
    rw [if_neg (by omega), if_neg (by omega), if_neg (by omega), if_pos (by omega)]
  · refine ⟨a1, ?_, a3, a4, ?_, ?_, ?_⟩
    · show pstg pj + 1 = _; omega
    · show updN (psz pj) (pnum pj - 1) (pstg pj - 2) n = _
      unfold updN; rw [if_pos (by omega)]; omega
    · intro i hi
      show (if n = pnum pj - 1 ∧ i = pstg pj - 3 then _ else psn pj n i) = _
      by_cases z : i = j
      · rw [if_pos ⟨by omega, by omega⟩, z]
      · rw [if_neg (by omega)]; exact a6 i (by omega)
    · intro k hk
      refine ⟨(a7 k hk).1, (a7 k hk).2.1, ?_, ?_⟩
      · show updN (psz pj) (pnum pj - 1) (pstg pj - 2) k = _
        unfold updN; rw [if_neg (by omega)]; exact (a7 k hk).2.2.1
      · intro i
        show (if k = pnum pj - 1 ∧ i = pstg pj - 3 then _ else psn pj k i) = _
        rw [if_neg (by omega)]; exact (a7 k hk).2.2.2 i
theorem Wst.start {p : PS} {n s at' : Nat} {f : Nat → Nat} (hn : pnum p = n) (b1 b2 : Nat) : Wst p n s (10 * (b1 - 48) + (b2 - 48)) at' f 0 (pT1 (pT1 (pT0 p s) b1) b2) := by
  subst hn
  refine ⟨rfl, rfl, ?_, ?_, ?_, fun i hi => absurd hi (Nat.not_lt_zero i), fun k hk => ⟨?_, ?_, ?_, fun i => rfl⟩⟩
  · show updN (pso p) (pnum p) s (pnum p) = s
    unfold updN; rw [if_pos rfl]
  · show updN (updN (updN (pfr p) (pnum p) 0) (pnum p + 1 - 1) (10 * updN (pfr p) (pnum p) 0 (pnum p + 1 - 1) + (b1 - 48))) (pnum p + 1 - 1) (10 * updN (updN (pfr p) (pnum p) 0) (pnum p + 1 - 1) (10 * updN (pfr p) (pnum p) 0 (pnum p + 1 - 1) + (b1 - 48)) (pnum p + 1 - 1) + (b2 - 48)) (pnum p) = _
    simp [updN]
  · show updN (psz p) (pnum p) 0 (pnum p) = 0
    unfold updN; rw [if_pos rfl]
  · show updN (pso p) (pnum p) s k = _
    unfold updN; rw [if_neg (by omega)]
  · show updN (updN (updN (pfr p) (pnum p) 0) (pnum p + 1 - 1) (10 * updN (pfr p) (pnum p) 0 (pnum p + 1 - 1) + (b1 - 48))) (pnum p + 1 - 1) (10 * updN (updN (pfr p) (pnum p) 0) (pnum p + 1 - 1) (10 * updN (pfr p) (pnum p) 0 (pnum p + 1 - 1) + (b1 - 48)) (pnum p + 1 - 1) + (b2 - 48)) k = _
    have e : ¬ k = pnum p := by omega
    simp [updN, e]
  · show updN (psz p) (pnum p) 0 k = _
    unfold updN; rw [if_neg (by omega)]
set_option maxRecDepth 100000 in
set_option maxHeartbeats 400000 in
theorem mByteAt {N a : Nat} {f : Nat → Nat} {μ : gm_M} (hT : TXm N f μ) (ha : a < 2 ^ 20) : Ret yX12_byteAt cX12_byteAt 2 (some .int) 0 [(.ref 52), (.int (nI a))] μ (some (.int (mby N f a))) μ := by
  have hN := hT.1
  refine Sat.of (L := [some (.ref 52), some (.int (nI a))]) (by decide) (fun _ => rfl) (fun _ => rfl) ?_
  refine go_il1 dX12_byteAt_0 (go_al0 dX12_byteAt_1 (go_getR (j := 53) fX12_7 rfl rfl dX12_byteAt_2 (go_ic0 dX12_byteAt_5 (go_iald rfl (vp_in_nI (n := 0) (by decide) (by decide)) dX12_byteAt_6 ?_))))
  rw [show (0 : Int32).toNatClampNeg = 0 from rfl, hT.2.1]
  refine go_cge 19 dX12_byteAt_7 (by decide) (fun h7 => ?_) (fun h7 => ?_)
  · refine go_icm1 dX12_byteAt_19 ?_
    refine go_iret dX12_byteAt_20 ?_
    have z : ¬ a < N := by
      have h9 := h7
      rw [nI_leI (by omega) (by omega)] at h9
      omega
    exact ⟨by rw [mby, if_neg z], rfl⟩
  · have hlt : a < N := by
      have h9 := h7
      rw [nI_leI (by omega) (by omega)] at h9
      omega
    refine go_al0 dX12_byteAt_10 (go_getR (j := 54) fX12_13 rfl rfl dX12_byteAt_11 (go_il1 dX12_byteAt_14 (go_iald rfl (vp_in_nI (show a < 142 by omega) (by decide)) dX12_byteAt_15 ?_)))
    rw [nI_clamp (show a < 2 ^ 31 by omega), (hT.2.2 a hlt).1]
    refine go_goto 20 dX12_byteAt_16 (by decide) ?_
    refine go_iret dX12_byteAt_20 ?_
    exact ⟨by rw [mby, if_pos hlt], rfl⟩

set_option maxRecDepth 100000 in
set_option maxHeartbeats 400000 in
theorem mIsSound {N a : Nat} {f : Nat → Nat} {μ : gm_M} (hT : TXm N f μ) (ha : a < 2 ^ 20) : Ret yX12_isSound cX12_isSound 2 (some .boolean) 1 [(.ref 52), (.int (nI a))] μ (some (.int (gb (bin N f 97 104 a)))) μ := by
  refine Sat.of (L := [some (.ref 52), some (.int (nI a))]) (by decide) (fun _ => rfl) (fun _ => rfl) ?_
  refine go_al0 dX12_isSound_0 (go_il1 dX12_isSound_1 (go_V1r mcX12_byteAt mvX12_byteAt kX12_112 rfl dX12_isSound_2 rfl rfl (mByteAt hT ha) (go_bipush (v := 97) dX12_isSound_5 (by decide) (go_bipush (v := 104) dX12_isSound_7 (by decide) (go_S3r mcX12_in mvX12_in kX12_104 dX12_isSound_9 rfl rfl (sX12_in _ _ _ _) ?_)))))
  refine go_zret dX12_isSound_12 (gb_nar _) ?_
  rw [show (97 : Int32) = nI 97 from rfl, show (104 : Int32) = nI 104 from rfl, mby_gin (fun j hj => (hT.2.2 j hj).2) (by decide) (by decide) (by decide)]
  exact ⟨rfl, rfl⟩

def RWp (N : Nat) (f : Nat → Nat) (n a : Nat) (μ : gm_M) (r : Option Value) (m : gm_M) : Prop := ∃ v : Int32, r = some (.int v) ∧ FX lP [] μ m ∧ ((v < 0 ∧ ∃ x, pres N f = (some x, pz) ∧ nI a - v - 1 = nI x) ∨ (∃ j p', v = nI (3 + j) ∧ 1 ≤ j ∧ j ≤ 5 ∧ a + 3 + j ≤ N ∧ prd f (a + 3 + j) = (p', none) ∧ pnum p' = n + 1 ∧ pstg p' = 3 + j ∧ PIx p' m ∧ (a + 3 + j < N → f (a + 3 + j) ≠ 59 → ptake p' (f (a + 3 + j)) = none)))
theorem bin_of {N lo hi a : Nat} {f : Nat → Nat} (h : bin N f lo hi a = true) : a < N ∧ lo ≤ f a ∧ f a ≤ hi := by
  unfold bin at h
  simpa [Bool.and_eq_true, decide_eq_true_eq] using h
theorem bin_no {N lo hi a : Nat} {f : Nat → Nat} (h : bin N f lo hi a = false) (ha : a < N) : ¬ (lo ≤ f a ∧ f a ≤ hi) := by
  unfold bin at h
  intro z
  simp [ha, z.1, z.2] at h
set_option maxRecDepth 100000 in
set_option maxHeartbeats 400000 in
theorem mRW_loop {N n a s : Nat} {f : Nat → Nat} {p : PS} {μ : gm_M} (hn : n < 8) (hp : PIx p μ) (hpn : pnum p = n) (hT : TXm N f μ) (hb1 : bin N f 48 49 (a + 1) = true) (hb2 : bin N f 48 57 (a + 2) = true) (hb3 : bin N f 97 104 (a + 3) = true) (hpz : ∀ k, k < n → psz p k ≤ 5) {d3 : Option Value} : ∀ (k_ j : Nat) (pj : PS) (m : gm_M), 5 - j = k_ → j ≤ 5 → (prd f (a + 3 + j) = (pj, none)) → (Wst p n s (10 * (f (a + 1) - 48) + (f (a + 2) - 48)) a f j pj) → (a + 3 + j ≤ N) → (∀ i, i < j → m.1 58 (5 * n + i) = nI (f (a + 3 + i) - 97)) → (∀ k, k < n → ∀ i, i < 5 → m.1 58 (5 * k + i) = μ.1 58 (5 * k + i)) → (FX [58] [] μ m) → Go yX12_readsWheel cX12_readsWheel 6 (some .int) 2 109 [some (.ref 52), some (.int (nI n)), some (.int (nI a)), d3, some (.int (nI s)), some (.int (nI j))] [] m (RWp N f n a μ) := by
  have hN71 := hT.1
  have ha68 := (bin_of hb3).1
  intro k_
  induction k_ using Nat.strongRecOn with
  | ind k_ ih =>
    intro j pj  m  hk_ hj hpr hW hjN hS hO hF0
    refine go_il5 dX12_readsWheel_109 (go_ic5 dX12_readsWheel_111 ?_)
    refine go_cge 158 dX12_readsWheel_112 (by decide) (fun h112 => ?_) (fun h112 => ?_)
    · have he : j = 5 := Nat.le_antisymm hj ((gm_bdN (by decide) (by decide) (by omega)).mp h112)
      have hTm : TXm N f m := hT.cong (fun c hc => hF0.1 c (by omega) (by intro z; simp at z; omega))
      refine go_al0 dX12_readsWheel_158 (go_getR (j := 55) fX12_16 rfl rfl dX12_readsWheel_159 (go_il1 dX12_readsWheel_162 (go_il4 dX12_readsWheel_163 (go_iast rfl (vp_in_nI (by omega) (by decide)) dX12_readsWheel_165 ?_))))
      rw [nI_clamp (by omega)]
      refine go_al0 dX12_readsWheel_166 (go_getR (j := 56) fX12_19 rfl rfl dX12_readsWheel_167 (go_il1 dX12_readsWheel_170 (go_bipush (v := 10) dX12_readsWheel_171 (by decide) (go_al0 dX12_readsWheel_173 (go_il2 dX12_readsWheel_174 (go_ic1 dX12_readsWheel_175 (go_iadd dX12_readsWheel_176 ?_)))))))
      rw [nI_1]
      refine go_V1r mcX12_byteAt mvX12_byteAt kX12_112 rfl dX12_readsWheel_177 rfl rfl (mByteAt (a := a + 1) (hTm.cong (fun c hc => by rw [gm_In _ _ _ (by omega)])) (by omega)) (go_bipush (v := 48) dX12_readsWheel_180 (by decide) (go_isub dX12_readsWheel_182 (go_imul dX12_readsWheel_183 (go_al0 dX12_readsWheel_184 (go_il2 dX12_readsWheel_185 (go_ic2 dX12_readsWheel_186 (go_iadd dX12_readsWheel_187 ?_)))))))
      rw [nI_lit2, nI_add]
      refine go_V1r mcX12_byteAt mvX12_byteAt kX12_112 rfl dX12_readsWheel_188 rfl rfl (mByteAt (a := a + 2) (hTm.cong (fun c hc => by rw [gm_In _ _ _ (by omega)])) (by omega)) (go_iadd dX12_readsWheel_191 (go_bipush (v := 48) dX12_readsWheel_192 (by decide) (go_isub dX12_readsWheel_194 ?_)))
      have g1 := bin_of hb1
      have g2 := bin_of hb2
      have ev : (10 : Int32) * (mby N f (a + 1) - 48) + mby N f (a + 2) - 48 = nI (10 * (f (a + 1) - 48) + (f (a + 2) - 48)) := by
        rw [mby, if_pos g1.1, mby, if_pos g2.1, show (48 : Int32) = nI 48 from rfl, pk_sub g1.2.1, show (10 : Int32) = nI 10 from rfl, pk_mul, nI_add, pk_sub (by omega)]
        congr 1; omega
      rw [ev]
      refine go_iast rfl (vp_in_nI (by omega) (by decide)) dX12_readsWheel_195 ?_
      rw [nI_clamp (by omega)]
      refine go_al0 dX12_readsWheel_196 (go_getR (j := 57) fX12_22 rfl rfl dX12_readsWheel_197 (go_il1 dX12_readsWheel_200 (go_il5 dX12_readsWheel_201 (go_iast rfl (vp_in_nI (by omega) (by decide)) dX12_readsWheel_203 ?_))))
      rw [nI_clamp (by omega)]
      refine go_ic3 dX12_readsWheel_204 (go_il5 dX12_readsWheel_205 (go_iadd dX12_readsWheel_207 ?_))
      refine go_iret dX12_readsWheel_208 ?_
      have hN71 := hT.1
      have hj1 : 1 ≤ j := by
        rcases Nat.eq_zero_or_pos j with z | z
        · exfalso; omega
        · exact z
      refine ⟨nI (3 + j), by rw [show (3 : Int32) = nI 3 from rfl, nI_add], (((hF0.wide (l' := lP) (by decide) (by decide)).I _ _ (by decide) (by decide)).I _ _ (by decide) (by decide)).I _ _ (by decide) (by decide), Or.inr ⟨j, pj, rfl, hj1, hj, hjN, hpr, hW.1, hW.2.1, fun k hk => ?_, fun h1 h2 => ?_⟩⟩
      · have e55 : (gm_I (gm_I (gm_I m 55 n (nI s)) 56 n (nI (10 * (f (a + 1) - 48) + (f (a + 2) - 48)))) 57 n (nI j)).1 55 k = if k = n then nI s else m.1 55 k := by simp [gm_I1]
        have e56 : (gm_I (gm_I (gm_I m 55 n (nI s)) 56 n (nI (10 * (f (a + 1) - 48) + (f (a + 2) - 48)))) 57 n (nI j)).1 56 k = if k = n then nI (10 * (f (a + 1) - 48) + (f (a + 2) - 48)) else m.1 56 k := by simp [gm_I1]
        have e57 : (gm_I (gm_I (gm_I m 55 n (nI s)) 56 n (nI (10 * (f (a + 1) - 48) + (f (a + 2) - 48)))) 57 n (nI j)).1 57 k = if k = n then nI j else m.1 57 k := by simp [gm_I1]
        have e58 : (gm_I (gm_I (gm_I m 55 n (nI s)) 56 n (nI (10 * (f (a + 1) - 48) + (f (a + 2) - 48)))) 57 n (nI j)).1 58 = m.1 58 := by rw [gm_In _ _ _ (by decide), gm_In _ _ _ (by decide), gm_In _ _ _ (by decide)]
        rw [e55, e56, e57, e58]
        have hpj := hW.1
        by_cases z : k = n
        · subst z
          rw [if_pos rfl, if_pos rfl, if_pos rfl, hW.2.2.1, hW.2.2.2.1, hW.2.2.2.2.1]
          exact ⟨rfl, rfl, rfl, fun i hi => by rw [hW.2.2.2.2.2.1 i hi]; exact hS i hi⟩
        · have hkn : k < n := by omega
          rw [if_neg z, if_neg z, if_neg z, (hW.2.2.2.2.2.2 k hkn).1, (hW.2.2.2.2.2.2 k hkn).2.1, (hW.2.2.2.2.2.2 k hkn).2.2.1, hF0.1 55 (by decide) (by decide), hF0.1 56 (by decide) (by decide), hF0.1 57 (by decide) (by decide)]
          have h9 := hp k (by omega)
          refine ⟨h9.1, h9.2.1, h9.2.2.1, fun i hi => ?_⟩
          rw [(hW.2.2.2.2.2.2 k hkn).2.2.2 i, hO k hkn i (by have := hpz k hkn; omega)]
          exact h9.2.2.2 i hi
      · have hs9 := hW.2.1
        unfold ptake
        rw [if_neg (by omega), if_neg (by omega), if_neg h2, if_neg (by omega)]
    · have hlt : j < 5 := Nat.not_le.mp (fun zz => h112 ((gm_bdN (by decide) (by decide) (by omega)).mpr zz))
      have hTm : TXm N f m := hT.cong (fun c hc => hF0.1 c (by omega) (by intro z; simp at z; omega))
      refine go_al0 dX12_readsWheel_115 (go_il2 dX12_readsWheel_116 (go_ic3 dX12_readsWheel_117 (go_iadd dX12_readsWheel_118 (go_il5 dX12_readsWheel_119 (go_iadd dX12_readsWheel_121 ?_)))))
      rw [show (3 : Int32) = nI 3 from rfl, nI_add, nI_add]
      refine go_V1r mcX12_isSound mvX12_isSound kX12_116 rfl dX12_readsWheel_122 rfl rfl (mIsSound hTm (by omega)) ?_
      refine go_ifeqB 158 dX12_readsWheel_125 (by decide) (fun h125 => ?_) (fun h125 => ?_)
      · refine go_al0 dX12_readsWheel_158 (go_getR (j := 55) fX12_16 rfl rfl dX12_readsWheel_159 (go_il1 dX12_readsWheel_162 (go_il4 dX12_readsWheel_163 (go_iast rfl (vp_in_nI (by omega) (by decide)) dX12_readsWheel_165 ?_))))
        rw [nI_clamp (by omega)]
        refine go_al0 dX12_readsWheel_166 (go_getR (j := 56) fX12_19 rfl rfl dX12_readsWheel_167 (go_il1 dX12_readsWheel_170 (go_bipush (v := 10) dX12_readsWheel_171 (by decide) (go_al0 dX12_readsWheel_173 (go_il2 dX12_readsWheel_174 (go_ic1 dX12_readsWheel_175 (go_iadd dX12_readsWheel_176 ?_)))))))
        rw [nI_1]
        refine go_V1r mcX12_byteAt mvX12_byteAt kX12_112 rfl dX12_readsWheel_177 rfl rfl (mByteAt (a := a + 1) (hTm.cong (fun c hc => by rw [gm_In _ _ _ (by omega)])) (by omega)) (go_bipush (v := 48) dX12_readsWheel_180 (by decide) (go_isub dX12_readsWheel_182 (go_imul dX12_readsWheel_183 (go_al0 dX12_readsWheel_184 (go_il2 dX12_readsWheel_185 (go_ic2 dX12_readsWheel_186 (go_iadd dX12_readsWheel_187 ?_)))))))
        rw [nI_lit2, nI_add]
        refine go_V1r mcX12_byteAt mvX12_byteAt kX12_112 rfl dX12_readsWheel_188 rfl rfl (mByteAt (a := a + 2) (hTm.cong (fun c hc => by rw [gm_In _ _ _ (by omega)])) (by omega)) (go_iadd dX12_readsWheel_191 (go_bipush (v := 48) dX12_readsWheel_192 (by decide) (go_isub dX12_readsWheel_194 ?_)))
        have g1 := bin_of hb1
        have g2 := bin_of hb2
        have ev : (10 : Int32) * (mby N f (a + 1) - 48) + mby N f (a + 2) - 48 = nI (10 * (f (a + 1) - 48) + (f (a + 2) - 48)) := by
          rw [mby, if_pos g1.1, mby, if_pos g2.1, show (48 : Int32) = nI 48 from rfl, pk_sub g1.2.1, show (10 : Int32) = nI 10 from rfl, pk_mul, nI_add, pk_sub (by omega)]
          congr 1; omega
        rw [ev]
        refine go_iast rfl (vp_in_nI (by omega) (by decide)) dX12_readsWheel_195 ?_
        rw [nI_clamp (by omega)]
        refine go_al0 dX12_readsWheel_196 (go_getR (j := 57) fX12_22 rfl rfl dX12_readsWheel_197 (go_il1 dX12_readsWheel_200 (go_il5 dX12_readsWheel_201 (go_iast rfl (vp_in_nI (by omega) (by decide)) dX12_readsWheel_203 ?_))))
        rw [nI_clamp (by omega)]
        refine go_ic3 dX12_readsWheel_204 (go_il5 dX12_readsWheel_205 (go_iadd dX12_readsWheel_207 ?_))
        refine go_iret dX12_readsWheel_208 ?_
        have hN71 := hT.1
        have hj1 : 1 ≤ j := by
          rcases Nat.eq_zero_or_pos j with z | z
          · exfalso; rw [z] at h125; exact absurd hb3 (gf h125)
          · exact z
        refine ⟨nI (3 + j), by rw [show (3 : Int32) = nI 3 from rfl, nI_add], (((hF0.wide (l' := lP) (by decide) (by decide)).I _ _ (by decide) (by decide)).I _ _ (by decide) (by decide)).I _ _ (by decide) (by decide), Or.inr ⟨j, pj, rfl, hj1, hj, hjN, hpr, hW.1, hW.2.1, fun k hk => ?_, fun h1 h2 => ?_⟩⟩
        · have e55 : (gm_I (gm_I (gm_I m 55 n (nI s)) 56 n (nI (10 * (f (a + 1) - 48) + (f (a + 2) - 48)))) 57 n (nI j)).1 55 k = if k = n then nI s else m.1 55 k := by simp [gm_I1]
          have e56 : (gm_I (gm_I (gm_I m 55 n (nI s)) 56 n (nI (10 * (f (a + 1) - 48) + (f (a + 2) - 48)))) 57 n (nI j)).1 56 k = if k = n then nI (10 * (f (a + 1) - 48) + (f (a + 2) - 48)) else m.1 56 k := by simp [gm_I1]
          have e57 : (gm_I (gm_I (gm_I m 55 n (nI s)) 56 n (nI (10 * (f (a + 1) - 48) + (f (a + 2) - 48)))) 57 n (nI j)).1 57 k = if k = n then nI j else m.1 57 k := by simp [gm_I1]
          have e58 : (gm_I (gm_I (gm_I m 55 n (nI s)) 56 n (nI (10 * (f (a + 1) - 48) + (f (a + 2) - 48)))) 57 n (nI j)).1 58 = m.1 58 := by rw [gm_In _ _ _ (by decide), gm_In _ _ _ (by decide), gm_In _ _ _ (by decide)]
          rw [e55, e56, e57, e58]
          have hpj := hW.1
          by_cases z : k = n
          · subst z
            rw [if_pos rfl, if_pos rfl, if_pos rfl, hW.2.2.1, hW.2.2.2.1, hW.2.2.2.2.1]
            exact ⟨rfl, rfl, rfl, fun i hi => by rw [hW.2.2.2.2.2.1 i hi]; exact hS i hi⟩
          · have hkn : k < n := by omega
            rw [if_neg z, if_neg z, if_neg z, (hW.2.2.2.2.2.2 k hkn).1, (hW.2.2.2.2.2.2 k hkn).2.1, (hW.2.2.2.2.2.2 k hkn).2.2.1, hF0.1 55 (by decide) (by decide), hF0.1 56 (by decide) (by decide), hF0.1 57 (by decide) (by decide)]
            have h9 := hp k (by omega)
            refine ⟨h9.1, h9.2.1, h9.2.2.1, fun i hi => ?_⟩
            rw [(hW.2.2.2.2.2.2 k hkn).2.2.2 i, hO k hkn i (by have := hpz k hkn; omega)]
            exact h9.2.2.2 i hi
        · have hs9 := hW.2.1
          unfold ptake
          rw [if_neg (by omega), if_neg (by omega), if_neg h2, if_neg (by have h7 := bin_no h125 h1; omega)]
      · have hg := bin_of h125
        refine go_al0 dX12_readsWheel_128 (go_getR (j := 58) fX12_25 rfl rfl dX12_readsWheel_129 (go_ic5 dX12_readsWheel_132 (go_il1 dX12_readsWheel_133 (go_imul dX12_readsWheel_134 (go_il5 dX12_readsWheel_135 (go_iadd dX12_readsWheel_137 (go_al0 dX12_readsWheel_138 (go_il2 dX12_readsWheel_139 (go_ic3 dX12_readsWheel_140 (go_iadd dX12_readsWheel_141 (go_il5 dX12_readsWheel_142 (go_iadd dX12_readsWheel_144 ?_))))))))))))
        rw [show (3 : Int32) = nI 3 from rfl, nI_add, nI_add]
        refine go_V1r mcX12_byteAt mvX12_byteAt kX12_112 rfl dX12_readsWheel_145 rfl rfl (mByteAt hTm (by omega)) (go_bipush (v := 97) dX12_readsWheel_148 (by decide) (go_isub dX12_readsWheel_150 ?_))
        rw [mby, if_pos hg.1, show (97 : Int32) = nI 97 from rfl, pk_sub hg.2.1, show (5 : Int32) = nI 5 from rfl, pk_mul, nI_add]
        refine go_iast rfl (vp_in_nI (by omega) (by decide)) dX12_readsWheel_151 ?_
        rw [nI_clamp (by omega)]
        refine go_inc5 (k := 1) dX12_readsWheel_152 (by decide) rfl rfl (go_goto 109 dX12_readsWheel_155 (by decide) ?_)
        have hw9 := hW.next hlt hg.2.1 hg.2.2
        rw [nI_1]
        refine ih (5 - (j + 1)) (by omega) (j + 1) _ _ rfl (by omega) (prd_some hpr hw9.1) hw9.2 (by omega) (fun i hi => ?_) (fun k hk i hi => ?_) (hF0.I _ _ (by decide) (by decide))
        · rw [gm_I1, if_pos rfl]
          by_cases z : i = j
          · rw [if_pos (by omega), z]
          · rw [if_neg (by omega)]; exact hS i (by omega)
        · rw [gm_I1, if_pos rfl, if_neg (by omega)]; exact hO k hk i hi

set_option maxRecDepth 100000 in
set_option maxHeartbeats 400000 in
theorem mRW2 {N n a : Nat} {f : Nat → Nat} {p : PS} {μ : gm_M} (hn : n ≤ 8) (hp : PIx p μ) (hpn : pnum p = n) (hps : pstg p = 0) (hT : TXm N f μ) (hpr : prd f a = (p, none)) (ha : a ≤ N) (h0 : 0 < N) {s : Nat} (haN : a < N) (hn8 : n < 8) (hs : psort (f a) = some s) (hpz : ∀ k, k < n → psz p k ≤ 5) (d3 d5 : Option Value) : Go yX12_readsWheel cX12_readsWheel 6 (some .int) 2 53 [some (.ref 52), some (.int (nI n)), some (.int (nI a)), d3, some (.int (nI s)), d5] [] μ (RWp N f n a μ) := by
  have hN71 := hT.1
  have q1 : prd f (a + 1) = (pT0 p s, none) := prd_some hpr (by unfold ptake; rw [if_pos hps, hs]; show (if pnum p < 8 then _ else _) = _; rw [if_pos (by omega)])
  refine go_al0 dX12_readsWheel_53 (go_il2 dX12_readsWheel_54 (go_ic1 dX12_readsWheel_55 (go_iadd dX12_readsWheel_56 ?_)))
  rw [nI_1]
  refine go_V1r mcX12_byteAt mvX12_byteAt kX12_112 rfl dX12_readsWheel_57 rfl rfl (mByteAt (a := a + 1) hT (by omega)) (go_bipush (v := 48) dX12_readsWheel_60 (by decide) (go_bipush (v := 49) dX12_readsWheel_62 (by decide) (go_S3r mcX12_in mvX12_in kX12_104 dX12_readsWheel_64 rfl rfl (sX12_in _ _ _ _) ?_)))
  rw [show (48 : Int32) = nI 48 from rfl, show (49 : Int32) = nI 49 from rfl, mby_gin (fun j hj => (hT.2.2 j hj).2) (by decide) (by decide) (by decide)]
  refine go_ifneB 73 dX12_readsWheel_67 (by decide) (fun h67 => ?_) (fun h67 => ?_)
  · have g1 := bin_of h67
    have q2 : prd f (a + 1 + 1) = (pT1 (pT0 p s) (f (a + 1)), none) := prd_some q1 (by
      unfold ptake
      rw [if_neg (show ¬ pstg (pT0 p s) = 0 by show ¬ (1 : Nat) = 0; decide), if_pos (show pstg (pT0 p s) < 3 by show (1 : Nat) < 3; decide), if_pos (show pstg (pT0 p s) = 1 from rfl), if_pos g1.2])
    refine go_al0 dX12_readsWheel_73 (go_il2 dX12_readsWheel_74 (go_ic2 dX12_readsWheel_75 (go_iadd dX12_readsWheel_76 ?_)))
    rw [nI_lit2, nI_add]
    refine go_V1r mcX12_byteAt mvX12_byteAt kX12_112 rfl dX12_readsWheel_77 rfl rfl (mByteAt (a := a + 2) hT (by omega)) (go_bipush (v := 48) dX12_readsWheel_80 (by decide) (go_bipush (v := 57) dX12_readsWheel_82 (by decide) (go_S3r mcX12_in mvX12_in kX12_104 dX12_readsWheel_84 rfl rfl (sX12_in _ _ _ _) ?_)))
    rw [show (48 : Int32) = nI 48 from rfl, show (57 : Int32) = nI 57 from rfl, mby_gin (fun j hj => (hT.2.2 j hj).2) (by decide) (by decide) (by decide)]
    refine go_ifneB 93 dX12_readsWheel_87 (by decide) (fun h87 => ?_) (fun h87 => ?_)
    · have g2 := bin_of h87
      have q3 : prd f (a + 2 + 1) = (pT1 (pT1 (pT0 p s) (f (a + 1))) (f (a + 2)), none) := prd_some q2 (by
        unfold ptake
        rw [if_neg (show ¬ pstg (pT1 (pT0 p s) (f (a + 1))) = 0 by show ¬ (2 : Nat) = 0; decide), if_pos (show pstg (pT1 (pT0 p s) (f (a + 1))) < 3 by show (2 : Nat) < 3; decide), if_neg (show ¬ pstg (pT1 (pT0 p s) (f (a + 1))) = 1 by show ¬ (2 : Nat) = 1; decide), if_pos g2.2])
      refine go_al0 dX12_readsWheel_93 (go_il2 dX12_readsWheel_94 (go_ic3 dX12_readsWheel_95 (go_iadd dX12_readsWheel_96 ?_)))
      rw [show (3 : Int32) = nI 3 from rfl, nI_add]
      refine go_V1r mcX12_isSound mvX12_isSound kX12_116 rfl dX12_readsWheel_97 rfl rfl (mIsSound (a := a + 3) hT (by omega)) ?_
      refine go_ifneB 106 dX12_readsWheel_100 (by decide) (fun h100 => ?_) (fun h100 => ?_)
      · refine go_ic0 dX12_readsWheel_106 (go_is5 dX12_readsWheel_107 rfl rfl ?_)
        have g3 := bin_of h100
        rw [← nI_0]
        exact mRW_loop hn8 hp hpn hT h67 h87 h100 hpz _ 0 _ μ rfl (by decide) q3 (Wst.start hpn _ _) (by omega) (fun i hi => absurd hi (Nat.not_lt_zero i)) (fun k hk i hi => rfl) (FX.rf μ)
      · refine go_bipush (v := -4) dX12_readsWheel_103 (by decide) ?_
        refine go_iret dX12_readsWheel_105 ?_
        refine ⟨_, rfl, FX.rf μ, Or.inl ⟨by decide, a + 3, pres_stop q3 (by omega) h0 (fun h1 => ?_) (fun _ => ?_), ?_⟩⟩
        · have h7 := bin_no h100 h1
          unfold ptake
          rw [if_neg (show ¬ pstg (pT1 (pT1 (pT0 p s) (f (a + 1))) (f (a + 2))) = 0 by show ¬ (3 : Nat) = 0; decide), if_neg (show ¬ pstg (pT1 (pT1 (pT0 p s) (f (a + 1))) (f (a + 2))) < 3 by show ¬ (3 : Nat) < 3; decide)]
          by_cases z : f (a + 3) = 59
          · rw [if_pos z, if_neg (show ¬ 3 < pstg (pT1 (pT1 (pT0 p s) (f (a + 1))) (f (a + 2))) by show ¬ (3 : Nat) < 3; decide)]
          · rw [if_neg z, if_neg (fun z9 => h7 ⟨z9.1, z9.2.1⟩)]
        · show (3 : Nat) ≤ 3; decide
        · rw [show nI a - (-4 : Int32) - 1 = nI a + nI 3 from by rw [show nI 3 = (-(-4) : Int32) - 1 from by decide]; rw [Int32.sub_eq_add_neg, Int32.sub_eq_add_neg, Int32.sub_eq_add_neg, Int32.add_assoc], nI_add]
    · refine go_bipush (v := -3) dX12_readsWheel_90 (by decide) ?_
      refine go_iret dX12_readsWheel_92 ?_
      refine ⟨_, rfl, FX.rf μ, Or.inl ⟨by decide, a + 2, pres_stop q2 (by omega) h0 (fun h1 => ?_) (fun _ => ?_), ?_⟩⟩
      · have h7 := bin_no h87 h1
        unfold ptake
        rw [if_neg (show ¬ pstg (pT1 (pT0 p s) (f (a + 1))) = 0 by show ¬ (2 : Nat) = 0; decide), if_pos (show pstg (pT1 (pT0 p s) (f (a + 1))) < 3 by show (2 : Nat) < 3; decide), if_neg (show ¬ pstg (pT1 (pT0 p s) (f (a + 1))) = 1 by show ¬ (2 : Nat) = 1; decide), if_neg h7]
      · show (2 : Nat) ≤ 3; decide
      · rw [show nI a - (-3 : Int32) - 1 = nI a + nI 2 from by rw [show nI 2 = (-(-3) : Int32) - 1 from by decide]; rw [Int32.sub_eq_add_neg, Int32.sub_eq_add_neg, Int32.sub_eq_add_neg, Int32.add_assoc], nI_add]
  · refine go_bipush (v := -2) dX12_readsWheel_70 (by decide) ?_
    refine go_iret dX12_readsWheel_72 ?_
    refine ⟨_, rfl, FX.rf μ, Or.inl ⟨by decide, a + 1, pres_stop q1 (by omega) h0 (fun h1 => ?_) (fun _ => ?_), ?_⟩⟩
    · have h7 := bin_no h67 h1
      unfold ptake
      rw [if_neg (show ¬ pstg (pT0 p s) = 0 by show ¬ (1 : Nat) = 0; decide), if_pos (show pstg (pT0 p s) < 3 by show (1 : Nat) < 3; decide), if_pos (show pstg (pT0 p s) = 1 from rfl), if_neg h7]
    · show (1 : Nat) ≤ 3; decide
    · rw [show nI a - (-2 : Int32) - 1 = nI a + nI 1 from by rw [show nI 1 = (-(-2) : Int32) - 1 from by decide]; rw [Int32.sub_eq_add_neg, Int32.sub_eq_add_neg, Int32.sub_eq_add_neg, Int32.add_assoc], nI_add]
set_option maxRecDepth 100000 in
set_option maxHeartbeats 400000 in
theorem mRW {N n a : Nat} {f : Nat → Nat} {p : PS} {μ : gm_M} (hn : n ≤ 8) (hp : PIx p μ) (hpn : pnum p = n) (hps : pstg p = 0) (hT : TXm N f μ) (hpr : prd f a = (p, none)) (ha : a ≤ N) (h0 : 0 < N) (hpz : ∀ k, k < n → psz p k ≤ 5) : Sat yX12_readsWheel cX12_readsWheel 6 (some .int) 2 [(.ref 52), (.int (nI n)), (.int (nI a))] μ (RWp N f n a μ) := by
  have hN71 := hT.1
  refine Sat.of (L := [some (.ref 52), some (.int (nI n)), some (.int (nI a)), none, none, none]) (by decide) (fun _ => rfl) (fun _ => rfl) ?_
  refine go_al0 dX12_readsWheel_0 (go_il2 dX12_readsWheel_1 (go_V1r mcX12_byteAt mvX12_byteAt kX12_112 rfl dX12_readsWheel_2 rfl rfl (mByteAt hT (by omega)) (go_is3 dX12_readsWheel_5 rfl rfl (go_il3 dX12_readsWheel_6 (go_bipush (v := 104) dX12_readsWheel_7 (by decide) ?_)))))
  refine go_cne 16 dX12_readsWheel_9 (by decide) (fun h9 => ?_) (fun h9 => ?_)
  · refine go_il3 dX12_readsWheel_16 (go_bipush (v := 115) dX12_readsWheel_17 (by decide) ?_)
    refine go_cne 26 dX12_readsWheel_19 (by decide) (fun h19 => ?_) (fun h19 => ?_)
    · refine go_il3 dX12_readsWheel_26 (go_bipush (v := 98) dX12_readsWheel_27 (by decide) ?_)
      refine go_cne 36 dX12_readsWheel_29 (by decide) (fun h29 => ?_) (fun h29 => ?_)
      · refine go_icm1 dX12_readsWheel_36 (go_is4 dX12_readsWheel_37 rfl rfl (go_il1 dX12_readsWheel_39 (go_bipush (v := 8) dX12_readsWheel_40 (by decide) ?_)))
        refine go_ceq 51 dX12_readsWheel_42 (by decide) (fun h42 => ?_) (fun h42 => ?_)
        · refine go_icm1 dX12_readsWheel_51 ?_
          refine go_iret dX12_readsWheel_52 ?_
          refine ⟨_, rfl, FX.rf μ, Or.inl ⟨by decide, a, pres_stop hpr ha h0 (fun h1 => ?_) (fun _ => by omega), ?_⟩⟩
          · have e8 : n = 8 := (nI_eq (by omega) (by decide)).mp h42
            unfold ptake
            rw [if_pos hps]
            cases psort (f a) with
            | none => rfl
            | some s => show (if pnum p < 8 then _ else _) = _; rw [if_neg (by omega)]
          · rw [show nI a - (-1 : Int32) - 1 = nI a + 0 from by rw [show (0 : Int32) = (-(-1) : Int32) - 1 from by decide]; rw [Int32.sub_eq_add_neg, Int32.sub_eq_add_neg, Int32.sub_eq_add_neg, Int32.add_assoc], Int32.add_zero]
        · refine go_il4 dX12_readsWheel_45 (go_icm1 dX12_readsWheel_47 ?_)
          refine go_cne 53 dX12_readsWheel_48 (by decide) (fun h48 => absurd h48 (by decide)) (fun _ => ?_)
          refine go_icm1 dX12_readsWheel_51 ?_
          refine go_iret dX12_readsWheel_52 ?_
          refine ⟨_, rfl, FX.rf μ, Or.inl ⟨by decide, a, pres_stop hpr ha h0 (fun h1 => ?_) (fun _ => by omega), ?_⟩⟩
          · have n9 : ¬ f a = 104 := fun z => h9 (by rw [mby, if_pos h1, z]; rfl)
            have n19 : ¬ f a = 115 := fun z => h19 (by rw [mby, if_pos h1, z]; rfl)
            have n29 : ¬ f a = 98 := fun z => h29 (by rw [mby, if_pos h1, z]; rfl)
            unfold ptake psort
            rw [if_pos hps, if_neg n9, if_neg n19, if_neg n29]
          · rw [show nI a - (-1 : Int32) - 1 = nI a + 0 from by rw [show (0 : Int32) = (-(-1) : Int32) - 1 from by decide]; rw [Int32.sub_eq_add_neg, Int32.sub_eq_add_neg, Int32.sub_eq_add_neg, Int32.add_assoc], Int32.add_zero]
      · refine go_ic2 dX12_readsWheel_32 (go_goto 37 dX12_readsWheel_33 (by decide) (go_is4 dX12_readsWheel_37 rfl rfl (go_il1 dX12_readsWheel_39 (go_bipush (v := 8) dX12_readsWheel_40 (by decide) ?_))))
        refine go_ceq 51 dX12_readsWheel_42 (by decide) (fun h42 => ?_) (fun h42 => ?_)
        · refine go_icm1 dX12_readsWheel_51 ?_
          refine go_iret dX12_readsWheel_52 ?_
          refine ⟨_, rfl, FX.rf μ, Or.inl ⟨by decide, a, pres_stop hpr ha h0 (fun h1 => ?_) (fun _ => by omega), ?_⟩⟩
          · have e8 : n = 8 := (nI_eq (by omega) (by decide)).mp h42
            unfold ptake
            rw [if_pos hps]
            cases psort (f a) with
            | none => rfl
            | some s => show (if pnum p < 8 then _ else _) = _; rw [if_neg (by omega)]
          · rw [show nI a - (-1 : Int32) - 1 = nI a + 0 from by rw [show (0 : Int32) = (-(-1) : Int32) - 1 from by decide]; rw [Int32.sub_eq_add_neg, Int32.sub_eq_add_neg, Int32.sub_eq_add_neg, Int32.add_assoc], Int32.add_zero]
        · refine go_il4 dX12_readsWheel_45 (go_icm1 dX12_readsWheel_47 ?_)
          refine go_cne 53 dX12_readsWheel_48 (by decide) (fun _ => ?_) (fun h48 => absurd h48 (by decide))
          have haN : a < N := by
            rcases Nat.lt_or_ge a N with z | z
            · exact z
            · have h7 := h29; rw [mby, if_neg (by omega)] at h7; exact absurd h7 (by decide)
          have eb : f a = 98 := by
            have h7 := h29; rw [mby, if_pos haN] at h7; exact (nI_eq (by have := (hT.2.2 a haN).2; omega) (by decide)).mp h7
          exact mRW2 hn hp hpn hps hT hpr ha h0 (s := 2) haN (by have : ¬ n = 8 := fun z => h42 (by rw [z]; rfl); omega) (by rw [eb]; decide) hpz _ _
    · refine go_ic1 dX12_readsWheel_22 (go_goto 37 dX12_readsWheel_23 (by decide) (go_is4 dX12_readsWheel_37 rfl rfl (go_il1 dX12_readsWheel_39 (go_bipush (v := 8) dX12_readsWheel_40 (by decide) ?_))))
      refine go_ceq 51 dX12_readsWheel_42 (by decide) (fun h42 => ?_) (fun h42 => ?_)
      · refine go_icm1 dX12_readsWheel_51 ?_
        refine go_iret dX12_readsWheel_52 ?_
        refine ⟨_, rfl, FX.rf μ, Or.inl ⟨by decide, a, pres_stop hpr ha h0 (fun h1 => ?_) (fun _ => by omega), ?_⟩⟩
        · have e8 : n = 8 := (nI_eq (by omega) (by decide)).mp h42
          unfold ptake
          rw [if_pos hps]
          cases psort (f a) with
          | none => rfl
          | some s => show (if pnum p < 8 then _ else _) = _; rw [if_neg (by omega)]
        · rw [show nI a - (-1 : Int32) - 1 = nI a + 0 from by rw [show (0 : Int32) = (-(-1) : Int32) - 1 from by decide]; rw [Int32.sub_eq_add_neg, Int32.sub_eq_add_neg, Int32.sub_eq_add_neg, Int32.add_assoc], Int32.add_zero]
      · refine go_il4 dX12_readsWheel_45 (go_icm1 dX12_readsWheel_47 ?_)
        refine go_cne 53 dX12_readsWheel_48 (by decide) (fun _ => ?_) (fun h48 => absurd h48 (by decide))
        have haN : a < N := by
          rcases Nat.lt_or_ge a N with z | z
          · exact z
          · have h7 := h19; rw [mby, if_neg (by omega)] at h7; exact absurd h7 (by decide)
        have eb : f a = 115 := by
          have h7 := h19; rw [mby, if_pos haN] at h7; exact (nI_eq (by have := (hT.2.2 a haN).2; omega) (by decide)).mp h7
        exact mRW2 hn hp hpn hps hT hpr ha h0 (s := 1) haN (by have : ¬ n = 8 := fun z => h42 (by rw [z]; rfl); omega) (by rw [eb]; decide) hpz _ _
  · refine go_ic0 dX12_readsWheel_12 (go_goto 37 dX12_readsWheel_13 (by decide) (go_is4 dX12_readsWheel_37 rfl rfl (go_il1 dX12_readsWheel_39 (go_bipush (v := 8) dX12_readsWheel_40 (by decide) ?_))))
    refine go_ceq 51 dX12_readsWheel_42 (by decide) (fun h42 => ?_) (fun h42 => ?_)
    · refine go_icm1 dX12_readsWheel_51 ?_
      refine go_iret dX12_readsWheel_52 ?_
      refine ⟨_, rfl, FX.rf μ, Or.inl ⟨by decide, a, pres_stop hpr ha h0 (fun h1 => ?_) (fun _ => by omega), ?_⟩⟩
      · have e8 : n = 8 := (nI_eq (by omega) (by decide)).mp h42
        unfold ptake
        rw [if_pos hps]
        cases psort (f a) with
        | none => rfl
        | some s => show (if pnum p < 8 then _ else _) = _; rw [if_neg (by omega)]
      · rw [show nI a - (-1 : Int32) - 1 = nI a + 0 from by rw [show (0 : Int32) = (-(-1) : Int32) - 1 from by decide]; rw [Int32.sub_eq_add_neg, Int32.sub_eq_add_neg, Int32.sub_eq_add_neg, Int32.add_assoc], Int32.add_zero]
    · refine go_il4 dX12_readsWheel_45 (go_icm1 dX12_readsWheel_47 ?_)
      refine go_cne 53 dX12_readsWheel_48 (by decide) (fun _ => ?_) (fun h48 => absurd h48 (by decide))
      have haN : a < N := by
        rcases Nat.lt_or_ge a N with z | z
        · exact z
        · have h7 := h9; rw [mby, if_neg (by omega)] at h7; exact absurd h7 (by decide)
      have eb : f a = 104 := by
        have h7 := h9; rw [mby, if_pos haN] at h7; exact (nI_eq (by have := (hT.2.2 a haN).2; omega) (by decide)).mp h7
      exact mRW2 hn hp hpn hps hT hpr ha h0 (s := 0) haN (by have : ¬ n = 8 := fun z => h42 (by rw [z]; rfl); omega) (by rw [eb]; decide) hpz _ _

