/-! THE MODEL: sale -/
theorem smN_leW {p b : Nat → Nat} {B W : Nat} (hp : ∀ w, w < W → p w ≤ 6) (hb : ∀ s, b s ≤ B) (s : Nat) : ∀ w, w ≤ W → smN p b s w ≤ B + 6 := by
  intro w
  induction w with
  | zero => intro _; have := hb s; exact Nat.le_trans this (by omega)
  | succ w ih =>
    intro hw
    rw [smN]
    have h1 := ih (by omega)
    have h2 := hb (s - 2 ^ w)
    have h3 := hp w (by omega)
    repeat' split
    all_goals omega
theorem tkM_leW {p : Nat → Nat → Nat} {W : Nat} (hp : ∀ w, w < W → ∀ n, p w n ≤ 6) : ∀ n s, tkM p W n s ≤ 6 * n := by
  intro n
  induction n with
  | zero => intro s; exact Nat.le_refl 0
  | succ n ih => intro s; rw [tkM]; exact Nat.le_trans (smN_leW (fun w hw => hp w hw n) ih s W (Nat.le_refl W)) (by omega)
theorem smN_0 (p b : Nat → Nat) : ∀ w, smN p b 0 w = b 0 := by
  intro w
  induction w with
  | zero => rfl
  | succ w ih => rw [smN, Nat.zero_testBit, if_neg (by decide), ih]
theorem nI_dec (n : Nat) : nI (n + 1) + (-1) = nI n := by
  rw [← nI_1, Int32.add_assoc, show (1 : Int32) + -1 = 0 from by decide, Int32.add_zero]
theorem and_not : ∀ s, s < 256 → ∀ k, k < 8 → s.testBit k = true → nI s &&& ((1 : Int32) <<< (nI k &&& 31) ^^^ -1) = nI (s - 2 ^ k) := by decide +kernel
theorem pw_pos_le : ∀ w, w < 8 → ∀ s, s < 256 → s.testBit w = true → 2 ^ w ≤ s ∧ 0 < 2 ^ w := by decide +kernel
abbrev qpf (q : QS) : Nat → Nat → Nat := fun w n => pfN (trof q 9 w) n
theorem qpf_le {q : QS} (hq : qok q) : ∀ w, w < qnum q → ∀ n, qpf q w n ≤ 6 := fun w hw n => Nat.le_trans (pfN_le (trof_ok hq hw) n) (by decide)
theorem saleC_m {q : QS} (hq : qok q) : nI (maxN (fun s => tkM (qpf q) (qnum q) 30 s) (2 ^ qnum q)) = nI (saleC q) := by
  congr 1
  exact (sale_eq (P := fun w => trof q 9 w) hq.1).symm
def BR (q : QS) (k : Nat) (m : gm_M) : Prop := ∀ v, v < k → ∀ n, n < 30 → m.1 70 (8 * n + v) = nI (qpf q v n)
theorem BR.cong {q : QS} {k : Nat} {m m' : gm_M} (h : BR q k m) (e : m'.1 70 = m.1 70) : BR q k m' := by unfold BR; rw [e]; exact h
set_option maxRecDepth 100000 in
set_option maxHeartbeats 400000 in
theorem mSa_d {r : RS} {μ m : gm_M} {d3 d4 d5 : Option Value} (hR : RDp r μ m) (h71 : ∀ s, s < 2 ^ qnum (qof r) → m.1 71 s = nI (tkM (qpf (qof r)) (qnum (qof r)) 30 s)) : ∀ (k_ s : Nat), 2 ^ qnum (qof r) - s = k_ → s ≤ 2 ^ qnum (qof r) → Go yX12_saleNow cX12_saleNow 6 (some .int) 7 223 [some (.ref 52), some (.int (nI (maxN (fun s => (tkM (qpf (qof r)) (qnum (qof r)) 30 s)) s))), some (.int (nI s)), d3, d4, d5] [] m (fun r' μ' => r' = some (.int (nI (saleC (qof r)))) ∧ RDp r μ μ') := by
  have h8 := hR.1.1.1
  have h256 := pw_le _ h8
  intro k_
  induction k_ using Nat.strongRecOn with
  | ind k_ ih =>
    intro s  hk_ hj 
    refine go_il2 dX12_saleNow_223 (go_ic1 dX12_saleNow_224 (go_al0 dX12_saleNow_225 (go_getI fX12_119 rfl rfl dX12_saleNow_226 (go_ishl dX12_saleNow_229 ?_))))
    refine go_cge 260 dX12_saleNow_230 (by decide) (fun h230 => ?_) (fun h230 => ?_)
    · have he : s = 2 ^ qnum (qof r) := Nat.le_antisymm hj ((gm_bdN (show (1 : Int32) <<< (m.1 52 2 &&& 31) = nI (2 ^ qnum (qof r)) from by rw [hR.1.2.1]; exact nI_pw _ (by omega)) (by omega) (by omega)).mp h230)
      refine go_il1 dX12_saleNow_260 ?_
      refine go_iret dX12_saleNow_261 ?_
      subst he
      exact ⟨by rw [saleC_m hR.1.1], hR⟩
    · have hlt : s < 2 ^ qnum (qof r) := Nat.not_le.mp (fun zz => h230 ((gm_bdN (show (1 : Int32) <<< (m.1 52 2 &&& 31) = nI (2 ^ qnum (qof r)) from by rw [hR.1.2.1]; exact nI_pw _ (by omega)) (by omega) (by omega)).mpr zz))
      refine go_al0 dX12_saleNow_233 (go_getR (j := 71) fX12_64 rfl rfl dX12_saleNow_234 (go_il2 dX12_saleNow_237 (go_iald rfl (vp_in_nI (show s < 256 by omega) (by decide)) dX12_saleNow_238 ?_)))
      rw [nI_clamp (show s < 2 ^ 31 by omega), h71 s hlt]
      refine go_il1 dX12_saleNow_239 ?_
      refine go_cle 252 dX12_saleNow_240 (by decide) (fun h240 => ?_) (fun h240 => ?_)
      · refine go_il1 dX12_saleNow_252 (go_is1 dX12_saleNow_253 rfl rfl (go_inc2 (k := 1) dX12_saleNow_254 (by decide) rfl rfl (go_goto 223 dX12_saleNow_257 (by decide) ?_)))
        have hb1 := tkM_leW (qpf_le hR.1.1) 30 s
        have hb2 : maxN (fun s => (tkM (qpf (qof r)) (qnum (qof r)) 30 s)) s ≤ 180 := maxN_lub (fun i _ => tkM_leW (qpf_le hR.1.1) 30 i)
        have e9 : maxN (fun s => (tkM (qpf (qof r)) (qnum (qof r)) 30 s)) s = maxN (fun s => (tkM (qpf (qof r)) (qnum (qof r)) 30 s)) (s + 1) := by rw [maxN, if_neg]; have h5 := h240; rw [nI_leI (by omega) (by omega)] at h5; omega
        rw [nI_1, e9]
        exact ih (2 ^ qnum (qof r) - (s + 1)) (by omega) (s + 1) rfl (by omega)
      · refine go_al0 dX12_saleNow_243 (go_getR (j := 71) fX12_64 rfl rfl dX12_saleNow_244 (go_il2 dX12_saleNow_247 (go_iald rfl (vp_in_nI (show s < 256 by omega) (by decide)) dX12_saleNow_248 ?_)))
        rw [nI_clamp (show s < 2 ^ 31 by omega), h71 s hlt]
        refine go_goto 253 dX12_saleNow_249 (by decide) (go_is1 dX12_saleNow_253 rfl rfl (go_inc2 (k := 1) dX12_saleNow_254 (by decide) rfl rfl (go_goto 223 dX12_saleNow_257 (by decide) ?_)))
        have hb1 := tkM_leW (qpf_le hR.1.1) 30 s
        have hb2 : maxN (fun s => (tkM (qpf (qof r)) (qnum (qof r)) 30 s)) s ≤ 180 := maxN_lub (fun i _ => tkM_leW (qpf_le hR.1.1) 30 i)
        have e9 : (tkM (qpf (qof r)) (qnum (qof r)) 30 s) = maxN (fun s => (tkM (qpf (qof r)) (qnum (qof r)) 30 s)) (s + 1) := by rw [maxN, if_pos]; have h5 := h240; rw [nI_leI (by omega) (by omega)] at h5; omega
        rw [nI_1, e9]
        exact ih (2 ^ qnum (qof r) - (s + 1)) (by omega) (s + 1) rfl (by omega)

theorem tkM_s (p : Nat → Nat → Nat) (W n s : Nat) : tkM p W (n + 1) s = smN (fun w => p w n) (tkM p W n) s W := rfl
set_option maxRecDepth 100000 in
set_option maxHeartbeats 400000 in
theorem mSa_k {q : QS} {n s s' : Nat} {mr : gm_M} {Post : Option Value → gm_M → Prop} (hq : qok q) (hss : s = s' + 1) (hn : n < 30) (hs2 : s < 2 ^ qnum q) (h2 : mr.1 52 2 = nI (qnum q)) (hBR : BR q (qnum q) mr) (K : ∀ (d4 d5 : Option Value) (m : gm_M), FX [71] [] mr m → (∀ x, x < 2 ^ qnum q → m.1 71 x = nI (if s' < x then tkM (qpf q) (qnum q) (n + 1) x else tkM (qpf q) (qnum q) n x)) → Go yX12_saleNow cX12_saleNow 6 (some .int) 7 118 [some (.ref 52), some (.int 0), some (.int (nI n)), some (.int (nI s')), d4, d5] [] m Post) : ∀ (k_ k : Nat) (d5 : Option Value) (m : gm_M), qnum q - k = k_ → k ≤ qnum q → (FX [71] [] mr m) → (m.1 71 s = nI (smN (fun w => qpf q w n) (tkM (qpf q) (qnum q) n) s k)) → (∀ x, x < 2 ^ qnum q → x ≠ s → m.1 71 x = nI (if s < x then tkM (qpf q) (qnum q) (n + 1) x else tkM (qpf q) (qnum q) n x)) → Go yX12_saleNow cX12_saleNow 6 (some .int) 7 125 [some (.ref 52), some (.int 0), some (.int (nI n)), some (.int (nI s)), some (.int (nI k)), d5] [] m (Post) := by
  have h8 := hq.1
  have h256 := pw_le _ h8
  intro k_
  induction k_ using Nat.strongRecOn with
  | ind k_ ih =>
    intro k d5  m  hk_ hj hF hcur h71
    refine go_il4 dX12_saleNow_125 (go_al0 dX12_saleNow_127 (go_getI fX12_119 rfl rfl dX12_saleNow_128 ?_))
    refine go_cge 209 dX12_saleNow_131 (by decide) (fun h131 => ?_) (fun h131 => ?_)
    · have he : k = qnum q := Nat.le_antisymm hj ((gm_bdN (show m.1 52 2 = nI (qnum q) from by rw [hF.2 2 (by decide)]; exact h2) (by omega) (by omega)).mp h131)
      refine go_inc3 (k := -1) dX12_saleNow_209 (by decide) rfl rfl (go_goto 118 dX12_saleNow_212 (by decide) ?_)
      subst he
      rw [hss, nI_dec]

      refine K _ _ m hF (fun x hx => ?_)
      by_cases z : x = s
      · subst z; rw [hcur, if_pos (by omega)]; rfl
      · rw [h71 x hx z]
        by_cases y : s < x
        · rw [if_pos y, if_pos (by omega)]
        · rw [if_neg y, if_neg (by omega)]
    · have hlt : k < qnum q := Nat.not_le.mp (fun zz => h131 ((gm_bdN (show m.1 52 2 = nI (qnum q) from by rw [hF.2 2 (by decide)]; exact h2) (by omega) (by omega)).mpr zz))
      refine go_il3 dX12_saleNow_134 (go_il4 dX12_saleNow_135 (go_S2r mcX12_isIn mvX12_isIn kX12_175 dX12_saleNow_137 rfl rfl (aIsIn (by omega) _) ?_))
      refine go_ifeqB 172 dX12_saleNow_140 (by decide) (fun h140 => ?_) (fun h140 => ?_)
      · have htb : s.testBit k = false := by rw [← bt_nI s (by omega)]; exact h140
        refine go_ic0 dX12_saleNow_172 (go_is5 dX12_saleNow_173 rfl rfl (go_al0 dX12_saleNow_175 (go_getR (j := 71) fX12_64 rfl rfl dX12_saleNow_176 (go_il3 dX12_saleNow_179 (go_il5 dX12_saleNow_180 (go_al0 dX12_saleNow_182 (go_getR (j := 71) fX12_64 rfl rfl dX12_saleNow_183 (go_il3 dX12_saleNow_186 (go_iald rfl (vp_in_nI (show s < 256 by omega) (by decide)) dX12_saleNow_187 ?_)))))))))
        rw [nI_clamp (show s < 2 ^ 31 by omega), hcur]
        refine go_cle 196 dX12_saleNow_188 (by decide) (fun h188 => ?_) (fun h188 => ?_)
        · refine go_al0 dX12_saleNow_196 (go_getR (j := 71) fX12_64 rfl rfl dX12_saleNow_197 (go_il3 dX12_saleNow_200 (go_iald rfl (vp_in_nI (show s < 256 by omega) (by decide)) dX12_saleNow_201 ?_)))
          rw [nI_clamp (show s < 2 ^ 31 by omega), hcur]
          refine go_iast rfl (vp_in_nI (show s < 256 by omega) (by decide)) dX12_saleNow_202 ?_
          rw [nI_clamp (show s < 2 ^ 31 by omega)]
          refine go_inc4 (k := 1) dX12_saleNow_203 (by decide) rfl rfl (go_goto 125 dX12_saleNow_206 (by decide) ?_)
          have hb1 := tkM_leW (qpf_le hq) n (s - 2 ^ k)
          have hb2 := qpf_le hq k hlt n
          have hb3 : (smN (fun w => qpf q w n) (tkM (qpf q) (qnum q) n) s k) ≤ 6 * n + 6 := smN_leW (fun w hw => qpf_le hq w hw n) (tkM_leW (qpf_le hq) n) s k (by omega)
          have e9 : (smN (fun w => qpf q w n) (tkM (qpf q) (qnum q) n) s (k + 1)) = (smN (fun w => qpf q w n) (tkM (qpf q) (qnum q) n) s k) := by rw [smN, if_neg (gf htb)]
          rw [nI_1]
          refine ih (qnum q - (k + 1)) (by omega) (k + 1) _ _ rfl (by omega) ?_ ?_ (fun x hx hne => ?_)
          · exact hF.I _ _ (by decide) (by decide)
          · rw [gm_Is, e9]
          · rw [gm_I1, if_pos rfl, if_neg hne]; exact h71 x hx hne
        · refine go_il5 dX12_saleNow_191 (go_goto 202 dX12_saleNow_193 (by decide) ?_)
          refine go_iast rfl (vp_in_nI (show s < 256 by omega) (by decide)) dX12_saleNow_202 ?_
          rw [nI_clamp (show s < 2 ^ 31 by omega)]
          refine go_inc4 (k := 1) dX12_saleNow_203 (by decide) rfl rfl (go_goto 125 dX12_saleNow_206 (by decide) ?_)
          have hb1 := tkM_leW (qpf_le hq) n (s - 2 ^ k)
          have hb2 := qpf_le hq k hlt n
          have hb3 : (smN (fun w => qpf q w n) (tkM (qpf q) (qnum q) n) s k) ≤ 6 * n + 6 := smN_leW (fun w hw => qpf_le hq w hw n) (tkM_leW (qpf_le hq) n) s k (by omega)
          exact absurd (nI_pos' (by omega)) h188
      · have htb : s.testBit k = true := by rw [← bt_nI s (by omega)]; exact h140
        have hpw := pw_pos_le k (by omega) s (by omega) htb
        refine go_al0 dX12_saleNow_143 (go_getR (j := 71) fX12_64 rfl rfl dX12_saleNow_144 (go_il3 dX12_saleNow_147 (go_ic1 dX12_saleNow_148 (go_il4 dX12_saleNow_149 (go_ishl dX12_saleNow_151 (go_icm1 dX12_saleNow_152 (go_ixor dX12_saleNow_153 (go_iand dX12_saleNow_154 ?_))))))))
        rw [and_not s (by omega) k (by omega) htb]
        refine go_iald rfl (vp_in_nI (show s - 2 ^ k < 256 by omega) (by decide)) dX12_saleNow_155 ?_
        rw [nI_clamp (show s - 2 ^ k < 2 ^ 31 by omega), h71 (s - 2 ^ k) (by omega) (by omega), if_neg (by omega)]
        refine go_al0 dX12_saleNow_156 (go_getR (j := 70) fX12_61 rfl rfl dX12_saleNow_157 (go_bipush (v := 8) dX12_saleNow_160 (by decide) (go_il2 dX12_saleNow_162 (go_imul dX12_saleNow_163 (go_il4 dX12_saleNow_164 (go_iadd dX12_saleNow_166 ?_))))))
        rw [show (8 : Int32) = nI 8 from rfl, pk_mul, nI_add]
        refine go_iald rfl (vp_in_nI (show 8 * n + k < 240 by omega) (by decide)) dX12_saleNow_167 ?_
        rw [nI_clamp (by omega), hF.1 70 (by decide) (by decide), hBR k hlt n hn]
        refine go_iadd dX12_saleNow_168 ?_
        rw [nI_add]
        refine go_goto 173 dX12_saleNow_169 (by decide) (go_is5 dX12_saleNow_173 rfl rfl (go_al0 dX12_saleNow_175 (go_getR (j := 71) fX12_64 rfl rfl dX12_saleNow_176 (go_il3 dX12_saleNow_179 (go_il5 dX12_saleNow_180 (go_al0 dX12_saleNow_182 (go_getR (j := 71) fX12_64 rfl rfl dX12_saleNow_183 (go_il3 dX12_saleNow_186 (go_iald rfl (vp_in_nI (show s < 256 by omega) (by decide)) dX12_saleNow_187 ?_)))))))))
        rw [nI_clamp (show s < 2 ^ 31 by omega), hcur]
        refine go_cle 196 dX12_saleNow_188 (by decide) (fun h188 => ?_) (fun h188 => ?_)
        · refine go_al0 dX12_saleNow_196 (go_getR (j := 71) fX12_64 rfl rfl dX12_saleNow_197 (go_il3 dX12_saleNow_200 (go_iald rfl (vp_in_nI (show s < 256 by omega) (by decide)) dX12_saleNow_201 ?_)))
          rw [nI_clamp (show s < 2 ^ 31 by omega), hcur]
          refine go_iast rfl (vp_in_nI (show s < 256 by omega) (by decide)) dX12_saleNow_202 ?_
          rw [nI_clamp (show s < 2 ^ 31 by omega)]
          refine go_inc4 (k := 1) dX12_saleNow_203 (by decide) rfl rfl (go_goto 125 dX12_saleNow_206 (by decide) ?_)
          have hb1 := tkM_leW (qpf_le hq) n (s - 2 ^ k)
          have hb2 := qpf_le hq k hlt n
          have hb3 : (smN (fun w => qpf q w n) (tkM (qpf q) (qnum q) n) s k) ≤ 6 * n + 6 := smN_leW (fun w hw => qpf_le hq w hw n) (tkM_leW (qpf_le hq) n) s k (by omega)
          have e9 : (smN (fun w => qpf q w n) (tkM (qpf q) (qnum q) n) s (k + 1)) = (smN (fun w => qpf q w n) (tkM (qpf q) (qnum q) n) s k) := by
            have h5 := h188
            rw [nI_leI (by omega) (by omega)] at h5
            rw [smN, if_pos htb, if_neg (by omega)]
          rw [nI_1]
          refine ih (qnum q - (k + 1)) (by omega) (k + 1) _ _ rfl (by omega) ?_ ?_ (fun x hx hne => ?_)
          · exact hF.I _ _ (by decide) (by decide)
          · rw [gm_Is, e9]
          · rw [gm_I1, if_pos rfl, if_neg hne]; exact h71 x hx hne
        · refine go_il5 dX12_saleNow_191 (go_goto 202 dX12_saleNow_193 (by decide) ?_)
          refine go_iast rfl (vp_in_nI (show s < 256 by omega) (by decide)) dX12_saleNow_202 ?_
          rw [nI_clamp (show s < 2 ^ 31 by omega)]
          refine go_inc4 (k := 1) dX12_saleNow_203 (by decide) rfl rfl (go_goto 125 dX12_saleNow_206 (by decide) ?_)
          have hb1 := tkM_leW (qpf_le hq) n (s - 2 ^ k)
          have hb2 := qpf_le hq k hlt n
          have hb3 : (smN (fun w => qpf q w n) (tkM (qpf q) (qnum q) n) s k) ≤ 6 * n + 6 := smN_leW (fun w hw => qpf_le hq w hw n) (tkM_leW (qpf_le hq) n) s k (by omega)
          have e9 : (smN (fun w => qpf q w n) (tkM (qpf q) (qnum q) n) s (k + 1)) = tkM (qpf q) (qnum q) n (s - 2 ^ k) + qpf q k n := by
            have h5 := h188
            rw [nI_leI (by omega) (by omega)] at h5
            rw [smN, if_pos htb, if_pos (by omega)]
          rw [nI_1]
          refine ih (qnum q - (k + 1)) (by omega) (k + 1) _ _ rfl (by omega) ?_ ?_ (fun x hx hne => ?_)
          · exact hF.I _ _ (by decide) (by decide)
          · rw [gm_Is, e9]
          · rw [gm_I1, if_pos rfl, if_neg hne]; exact h71 x hx hne

set_option maxRecDepth 100000 in
set_option maxHeartbeats 400000 in
theorem mSa_set {q : QS} {n : Nat} {mr : gm_M} {Post : Option Value → gm_M → Prop} (hq : qok q) (hn : n < 30) (h20 : mr.1 52 2 = nI (qnum q)) (hBR0 : BR q (qnum q) mr) (K : ∀ (d3 d4 d5 : Option Value) (m : gm_M), FX [71] [] mr m → (∀ x, x < 2 ^ qnum q → m.1 71 x = nI (tkM (qpf q) (qnum q) (n + 1) x)) → Go yX12_saleNow cX12_saleNow 6 (some .int) 7 103 [some (.ref 52), some (.int 0), some (.int (nI (n + 1))), d3, d4, d5] [] m Post) : ∀ (s : Nat), s < 2 ^ qnum q → ∀ (d4 d5 : Option Value) (m : gm_M), FX [71] [] mr m → (∀ x, x < 2 ^ qnum q → m.1 71 x = nI (if s < x then tkM (qpf q) (qnum q) (n + 1) x else tkM (qpf q) (qnum q) n x)) → Go yX12_saleNow cX12_saleNow 6 (some .int) 7 118 [some (.ref 52), some (.int 0), some (.int (nI n)), some (.int (nI s)), d4, d5] [] m Post := by
  have h8 := hq.1
  have h256 := pw_le _ h8
  intro s
  induction s with
  | zero =>
    intro hs d4 d5 m hF h71
    refine go_il3 dX12_saleNow_118 ?_
    refine go_ifle 215 dX12_saleNow_119 (by decide) (fun h119 => ?_) (fun h119 => ?_)
    · refine go_inc2 (k := 1) dX12_saleNow_215 (by decide) rfl rfl (go_goto 103 dX12_saleNow_218 (by decide) ?_)
      rw [nI_1]
      refine K _ _ _ m hF (fun x hx => ?_)
      rw [h71 x hx]
      by_cases z : 0 < x
      · rw [if_pos z]
      · rw [if_neg z, show x = 0 by omega, tkM_s, smN_0]
    · exact absurd (by rw [nI_0]; exact Int32.le_refl _) h119
  | succ s ih =>
    intro hs d4 d5 m hF h71
    have h2 : m.1 52 2 = nI (qnum q) := by rw [hF.2 2 (by decide)]; exact h20
    have hBR := hBR0.cong (hF.1 70 (by decide) (by decide))
    refine go_il3 dX12_saleNow_118 ?_
    refine go_ifle 215 dX12_saleNow_119 (by decide) (fun h119 => ?_) (fun h119 => ?_)
    · exact absurd h119 (by rw [← nI_0, nI_leI (by omega) (by decide)]; omega)
    · refine go_ic0 dX12_saleNow_122 (go_is4 dX12_saleNow_123 rfl rfl ?_)
      rw [← nI_0]
      refine mSa_k hq rfl hn hs h2 hBR (fun d4 d5 m' hF' h' => ih (by omega) d4 d5 m' (hF.tr hF') h') _ 0 _ m rfl (Nat.zero_le _) (FX.rf _) ?_ (fun x hx _ => h71 x hx)
      rw [h71 (s + 1) hs, if_neg (by omega)]; rfl
set_option maxRecDepth 100000 in
set_option maxHeartbeats 400000 in
theorem mSa_n {r : RS} {μ : gm_M} (h8 : qnum (qof r) ≤ 8) : ∀ (k_ n : Nat) (d3 : Option Value) (d4 : Option Value) (d5 : Option Value) (m : gm_M), 30 - n = k_ → n ≤ 30 → (RDp r μ m) → (BR (qof r) (qnum (qof r)) m) → (∀ x, x < 2 ^ qnum (qof r) → m.1 71 x = nI (tkM (qpf (qof r)) (qnum (qof r)) n x)) → Go yX12_saleNow cX12_saleNow 6 (some .int) 7 103 [some (.ref 52), some (.int 0), some (.int (nI n)), d3, d4, d5] [] m (fun r' μ' => r' = some (.int (nI (saleC (qof r)))) ∧ RDp r μ μ') := by
  have h256 := pw_le _ h8
  have hp0 := Nat.two_pow_pos (qnum (qof r))
  intro k_
  induction k_ using Nat.strongRecOn with
  | ind k_ ih =>
    intro n d3  d4  d5  m  hk_ hj hR hBR h71
    refine go_il2 dX12_saleNow_103 (go_bipush (v := 30) dX12_saleNow_104 (by decide) ?_)
    refine go_cge 221 dX12_saleNow_106 (by decide) (fun h106 => ?_) (fun h106 => ?_)
    · have he : n = 30 := Nat.le_antisymm hj ((gm_bdN (by decide) (by decide) (by omega)).mp h106)
      refine go_ic0 dX12_saleNow_221 (go_is2 dX12_saleNow_222 rfl rfl ?_)
      subst he
      exact mSa_d hR h71 _ 0 rfl (Nat.zero_le _)
    · have hlt : n < 30 := Nat.not_le.mp (fun zz => h106 ((gm_bdN (by decide) (by decide) (by omega)).mpr zz))
      refine go_ic1 dX12_saleNow_109 (go_al0 dX12_saleNow_110 (go_getI fX12_119 rfl rfl dX12_saleNow_111 ?_))
      rw [hR.1.2.1]
      refine go_ishl dX12_saleNow_114 (go_ic1 dX12_saleNow_115 ?_)
      rw [nI_pw _ (by omega)]
      refine go_isub dX12_saleNow_116 ?_
      rw [show (1 : Int32) = nI 1 from rfl, pk_sub (by omega)]
      refine go_is3 dX12_saleNow_117 rfl rfl ?_
      exact mSa_set hR.1.1 hlt hR.1.2.1 hBR (fun d3 d4 d5 m' hF' h' => ih (30 - (n + 1)) (by omega) (n + 1) d3 d4 d5 m' rfl (by omega) (hR.fl (hF'.wide (by decide) (fun x hx => by cases hx))) (hBR.cong (hF'.1 70 (by decide) (by decide))) h') _ (by omega) _ _ m (FX.rf _) (fun x hx => by rw [if_neg (by omega)]; exact h71 x hx)

set_option maxRecDepth 100000 in
set_option maxHeartbeats 400000 in
theorem mSa_z {r : RS} {μ : gm_M} {d3 d4 d5 : Option Value} (h8 : qnum (qof r) ≤ 8) : ∀ (k_ s : Nat) (m : gm_M), 256 - s = k_ → s ≤ 256 → (RDp r μ m) → (BR (qof r) (qnum (qof r)) m) → (∀ x, x < s → m.1 71 x = nI 0) → Go yX12_saleNow cX12_saleNow 6 (some .int) 7 81 [some (.ref 52), some (.int 0), some (.int (nI s)), d3, d4, d5] [] m (fun r' μ' => r' = some (.int (nI (saleC (qof r)))) ∧ RDp r μ μ') := by
  have h256 := pw_le _ h8
  intro k_
  induction k_ using Nat.strongRecOn with
  | ind k_ ih =>
    intro s m  hk_ hj hR hBR h71
    refine go_il2 dX12_saleNow_81 (go_sipush (v := 256) dX12_saleNow_82 (by decide) ?_)
    refine go_cge 101 dX12_saleNow_85 (by decide) (fun h85 => ?_) (fun h85 => ?_)
    · have he : s = 256 := Nat.le_antisymm hj ((gm_bdN (by decide) (by decide) (by omega)).mp h85)
      refine go_ic0 dX12_saleNow_101 (go_is2 dX12_saleNow_102 rfl rfl ?_)
      subst he
      rw [← nI_0]
      exact mSa_n h8 _ 0 _ _ _ m rfl (by decide) hR hBR (fun x hx => h71 x (by omega))
    · have hlt : s < 256 := Nat.not_le.mp (fun zz => h85 ((gm_bdN (by decide) (by decide) (by omega)).mpr zz))
      refine go_al0 dX12_saleNow_88 (go_getR (j := 71) fX12_64 rfl rfl dX12_saleNow_89 (go_il2 dX12_saleNow_92 (go_ic0 dX12_saleNow_93 (go_iast rfl (vp_in_nI hlt (by decide)) dX12_saleNow_94 ?_))))
      rw [nI_clamp (show s < 2 ^ 31 by omega)]
      refine go_inc2 (k := 1) dX12_saleNow_95 (by decide) rfl rfl (go_goto 81 dX12_saleNow_98 (by decide) ?_)
      rw [nI_1]
      refine ih (256 - (s + 1)) (by omega) (s + 1) _ rfl (by omega) (hR.fl ((FX.rf m).I _ _ (by decide) (by decide))) (hBR.cong (gm_In _ _ _ (by decide))) (fun x hx => ?_)
      rw [gm_I1, if_pos rfl]
      by_cases z : x = s
      · rw [if_pos z]; rfl
      · rw [if_neg z]; exact h71 x (by omega)

set_option maxRecDepth 100000 in
set_option maxHeartbeats 400000 in
theorem mSa_in {q : QS} {k : Nat} {mr : gm_M} {Post : Option Value → gm_M → Prop} {d4 d5 : Option Value} (hq : qok q) (hk : k < 8) (ht : tok (trof q 9 k)) (h9 : mr.1 52 9 = nI (qti q)) (hO : MO (trof q 9 k) 30 mr) (K : ∀ (d3 : Option Value) (m : gm_M), FX [70] [] mr m → BR q (k + 1) m → Go yX12_saleNow cX12_saleNow 6 (some .int) 7 8 [some (.ref 52), some (.int 0), some (.int (nI (k + 1))), d3, d4, d5] [] m Post) : ∀ (k_ n : Nat) (m : gm_M), 30 - n = k_ → n ≤ 30 → (FX [70] [] mr m) → (BR q k m) → (∀ i, i < n → m.1 70 (8 * i + k) = nI (qpf q k i)) → Go yX12_saleNow cX12_saleNow 6 (some .int) 7 23 [some (.ref 52), some (.int 0), some (.int (nI k)), some (.int (nI n)), d4, d5] [] m (Post) := by
  have hti1 := hq.2.2.2.1.1
  have hti20 := hq.2.2.2.1.2
  have hti0 : ¬ nI (qti q) = 0 := by rw [← nI_0]; intro z; rw [nI_eq (by omega) (by decide)] at z; omega
  intro k_
  induction k_ using Nat.strongRecOn with
  | ind k_ ih =>
    intro n m  hk_ hj hF hA hB
    refine go_il3 dX12_saleNow_23 (go_bipush (v := 30) dX12_saleNow_24 (by decide) ?_)
    refine go_cge 73 dX12_saleNow_26 (by decide) (fun h26 => ?_) (fun h26 => ?_)
    · have he : n = 30 := Nat.le_antisymm hj ((gm_bdN (by decide) (by decide) (by omega)).mp h26)
      refine go_inc2 (k := 1) dX12_saleNow_73 (by decide) rfl rfl (go_goto 8 dX12_saleNow_76 (by decide) ?_)
      subst he
      rw [nI_1]
      refine K _ m hF (fun v hv i hi => ?_)
      rcases Nat.lt_or_ge v k with z | z
      · exact hA v z i hi
      · rw [show v = k by omega]; exact hB i hi
    · have hlt : n < 30 := Nat.not_le.mp (fun zz => h26 ((gm_bdN (by decide) (by decide) (by omega)).mpr zz))
      refine go_al0 dX12_saleNow_29 (go_getR (j := 70) fX12_61 rfl rfl dX12_saleNow_30 (go_bipush (v := 8) dX12_saleNow_33 (by decide) (go_il3 dX12_saleNow_35 (go_imul dX12_saleNow_36 (go_il2 dX12_saleNow_37 (go_iadd dX12_saleNow_38 (go_al0 dX12_saleNow_39 (go_getR (j := 66) fX12_49 rfl rfl dX12_saleNow_40 (go_il3 dX12_saleNow_43 (go_iald rfl (vp_in_nI hlt (by decide)) dX12_saleNow_44 ?_))))))))))
      rw [nI_clamp (show n < 2 ^ 31 by omega), hF.1 66 (by decide) (by decide), (hO n hlt).2.1]
      refine go_icm1 dX12_saleNow_45 ?_
      refine go_cne 53 dX12_saleNow_46 (by decide) (fun h46 => ?_) (fun h46 => ?_)
      · refine go_al0 dX12_saleNow_53 (go_getR (j := 65) fX12_46 rfl rfl dX12_saleNow_54 (go_il3 dX12_saleNow_57 (go_iald rfl (vp_in_nI hlt (by decide)) dX12_saleNow_58 ?_)))
        rw [nI_clamp (show n < 2 ^ 31 by omega), hF.1 65 (by decide) (by decide), (hO n hlt).1]
        refine go_al0 dX12_saleNow_59 (go_getI fX12_95 rfl rfl dX12_saleNow_60 ?_)
        rw [show m.1 52 9 = nI (qti q) from by rw [hF.2 9 (by decide)]; exact h9]
        refine go_idiv dX12_saleNow_63 hti0 ?_
        have hle := ta_le ht (n + 1) (by omega)
        rw [nI_div (by omega) (by omega) (by omega)]
        refine go_ic1 dX12_saleNow_64 (go_iadd dX12_saleNow_65 ?_)
        rw [nI_1]
        refine go_iast rfl (by rw [show (8 : Int32) = nI 8 from rfl, pk_mul, nI_add]; exact vp_in_nI (show 8 * n + k < 240 by omega) (by decide)) dX12_saleNow_66 ?_
        rw [show (8 : Int32) = nI 8 from rfl, pk_mul, nI_add, nI_clamp (by omega)]
        refine go_inc3 (k := 1) dX12_saleNow_67 (by decide) rfl rfl (go_goto 23 dX12_saleNow_70 (by decide) ?_)
        have e9 : qpf q k n = (ta (trof q 9 k) (n + 1)).1 / qti q + 1 := by
          show pfN (trof q 9 k) n = _
          unfold pfN
          rw [tm_some_of ht h46]
          rfl
        rw [nI_1]
        refine ih (30 - (n + 1)) (by omega) (n + 1) _ rfl (by omega) ?_ (fun v hv i hi => ?_) (fun i hi => ?_)
        · exact hF.I _ _ (by decide) (by decide)
        · rw [gm_I1, if_pos rfl, if_neg (by omega)]; exact hA v hv i hi
        · rw [gm_I1, if_pos rfl]
          by_cases z : i = n
          · rw [if_pos (by rw [z]), z, e9]
          · rw [if_neg (by omega)]; exact hB i (by omega)
      · refine go_ic0 dX12_saleNow_49 (go_goto 66 dX12_saleNow_50 (by decide) ?_)
        refine go_iast rfl (by rw [show (8 : Int32) = nI 8 from rfl, pk_mul, nI_add]; exact vp_in_nI (show 8 * n + k < 240 by omega) (by decide)) dX12_saleNow_66 ?_
        rw [show (8 : Int32) = nI 8 from rfl, pk_mul, nI_add, nI_clamp (by omega)]
        refine go_inc3 (k := 1) dX12_saleNow_67 (by decide) rfl rfl (go_goto 23 dX12_saleNow_70 (by decide) ?_)
        have e9 : qpf q k n = 0 := by show pfN (trof q 9 k) n = 0; unfold pfN; rw [(heard_none ht).mp h46]
        rw [nI_1]
        refine ih (30 - (n + 1)) (by omega) (n + 1) _ rfl (by omega) ?_ (fun v hv i hi => ?_) (fun i hi => ?_)
        · exact hF.I _ _ (by decide) (by decide)
        · rw [gm_I1, if_pos rfl, if_neg (by omega)]; exact hA v hv i hi
        · rw [gm_I1, if_pos rfl]
          by_cases z : i = n
          · rw [if_pos (by rw [z]), z, e9]; rfl
          · rw [if_neg (by omega)]; exact hB i (by omega)

set_option maxRecDepth 100000 in
set_option maxHeartbeats 400000 in
theorem mSa_a {r : RS} {μ : gm_M} {d4 d5 : Option Value} (h8 : qnum (qof r) ≤ 8) : ∀ (k_ k : Nat) (d3 : Option Value) (m : gm_M), qnum (qof r) - k = k_ → k ≤ qnum (qof r) → (RDp r μ m) → (WN (qwa (qof r)) m) → (BR (qof r) k m) → Go yX12_saleNow cX12_saleNow 6 (some .int) 7 8 [some (.ref 52), some (.int 0), some (.int (nI k)), d3, d4, d5] [] m (fun r' μ' => r' = some (.int (nI (saleC (qof r)))) ∧ RDp r μ μ') := by
  intro k_
  induction k_ using Nat.strongRecOn with
  | ind k_ ih =>
    intro k d3  m  hk_ hj hR hW hBR
    refine go_il2 dX12_saleNow_8 (go_al0 dX12_saleNow_9 (go_getI fX12_119 rfl rfl dX12_saleNow_10 ?_))
    refine go_cge 79 dX12_saleNow_13 (by decide) (fun h13 => ?_) (fun h13 => ?_)
    · have he : k = qnum (qof r) := Nat.le_antisymm hj ((gm_bdN hR.1.2.1 (by omega) (by omega)).mp h13)
      refine go_ic0 dX12_saleNow_79 (go_is2 dX12_saleNow_80 rfl rfl ?_)
      subst he
      rw [← nI_0]
      exact mSa_z h8 _ 0 m rfl (by decide) hR hBR (fun x hx => absurd hx (Nat.not_lt_zero x))
    · have hlt : k < qnum (qof r) := Nat.not_le.mp (fun zz => h13 ((gm_bdN hR.1.2.1 (by omega) (by omega)).mpr zz))
      refine go_al0 dX12_saleNow_16 (go_il2 dX12_saleNow_17 ?_)
      refine go_V1 mcX12_runs mvX12_runs kX12_193 rfl dX12_saleNow_18 rfl rfl (mRuns hR.1 hlt hW) ?_
      rintro _ m18 ⟨rfl, hF18, hO18⟩
      refine go_ic0 dX12_saleNow_21 (go_is3 dX12_saleNow_22 rfl rfl ?_)
      have h9 := mSa_in (d4 := d4) (d5 := d5) hR.1.1 (by omega) (trof_ok hR.1.1 hlt) (by rw [hF18.2 9 (by decide)]; exact hR.1.2.2.2.2.1.1) hO18 (fun d3 m' hF' h' => ih (qnum (qof r) - (k + 1)) (by omega) (k + 1) d3 m' rfl (by omega) ((hR.fl hF18.rl).fl (hF'.wide (by decide) (fun x hx => by cases hx))) (by unfold WN; rw [hF'.1 64 (by decide) (by decide)]; exact hW.fr hF18) h') _ 0 _ rfl (Nat.zero_le _) (FX.rf _) (hBR.cong (hF18.1 70 (by decide) (by decide))) (fun i hi => absurd hi (Nat.not_lt_zero i))
      exact h9

set_option maxRecDepth 100000 in
set_option maxHeartbeats 400000 in
theorem mSaleNow {r : RS} {μ : gm_M} (hA : MA r μ) : Sat yX12_saleNow cX12_saleNow 6 (some .int) 7 [(.ref 52)] μ (fun r' μ' => r' = some (.int (nI (saleC (qof r)))) ∧ RDp r μ μ') := by
  refine Sat.of (L := [some (.ref 52), none, none, none, none, none]) (by decide) (fun _ => rfl) (fun _ => rfl) ?_
  refine go_al0 dX12_saleNow_0 ?_
  refine go_V0 mcX12_asTold mvX12_asTold kX12_190 rfl dX12_saleNow_1 rfl rfl (mAsTold hA) ?_
  rintro _ m1 ⟨rfl, hR1, hW1⟩
  refine go_ic0 dX12_saleNow_4 (go_is1 dX12_saleNow_5 rfl rfl (go_ic0 dX12_saleNow_6 (go_is2 dX12_saleNow_7 rfl rfl ?_)))
  have h9 := mSa_a (d4 := none) (d5 := none) hR1.1.1.1 _ 0 none m1 rfl (Nat.zero_le _) hR1 hW1 (fun v hv => absurd hv (Nat.not_lt_zero v))
  exact h9

set_option maxRecDepth 100000 in
set_option maxHeartbeats 400000 in
theorem m_sale {r : RS} {μ : gm_M} (hA : MA r μ) : Sat yX12_sale cX12_sale 1 (some .int) 8 [(.ref 52)] μ (fun r' μ' => r' = some (.int (nI (saleC (qof r)))) ∧ FX lQ fQ μ μ') := by
  refine Sat.of (L := [some (.ref 52)]) (by decide) (fun _ => rfl) (fun _ => rfl) ?_
  refine go_al0 dX12_sale_0 ?_
  refine go_V0 mcX12_saleNow mvX12_saleNow kX12_234 rfl dX12_sale_1 rfl rfl (mSaleNow hA) ?_
  rintro _ m1 ⟨rfl, hR1⟩
  refine go_iret dX12_sale_4 ?_
  exact ⟨rfl, hR1.2.2⟩

