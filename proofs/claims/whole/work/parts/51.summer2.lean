/-! THE MODEL: summer -/
def shc (q : QS) (s : Int32) (n j : Nat) : Nat → Nat
  | 0 => 0
  | k + 1 => shc q s n j k + (if (tm (trsu q s n k) j).isSome = true then 1 else 0)
theorem shc_le (q : QS) (s : Int32) (n j k : Nat) : shc q s n j k ≤ k := by
  induction k with
  | zero => exact Nat.le_refl 0
  | succ k ih => rw [shc]; split <;> omega
theorem qsh2_shc (q : QS) (s : Int32) (n j k : Nat) : qsh2 q s n j k = decide (shc q s n j k = k) := by
  induction k with
  | zero => rfl
  | succ k ih =>
    have := shc_le q s n j k
    rw [qsh2, shc, ih]
    cases (tm (trsu q s n k) j).isSome with
    | true =>
      rw [if_pos rfl, Bool.and_true]
      exact decide_eq_decide.mpr (by omega)
    | false =>
      rw [if_neg (by decide), Bool.and_false]
      exact (decide_eq_false (by omega)).symm
def sumA (q : QS) (s : Int32) (n : Nat) (x : Int32) : Int32 := if x = 0 then qsumT q s n else nI (qse q s n (qnum q))
theorem sSummer_g (q : QS) (s n x : Int32) : sSummer q s n x = if gin n 0 30 = true then (if gin x 0 1 = true then sumA q s (wN n) x else -2) else -2 := by
  unfold sSummer sumA; rw [ite_gin, ite_gin2]
def tgb (q : QS) (s : Int32) (n j : Nat) : Bool := decide (0 < qnum q) && decide (shc q s n j (qnum q) = qnum q)
theorem qsumT_cnt (q : QS) (s : Int32) (n : Nat) : qsumT q s n = nI (cntB (tgb q s n) 30) := by
  unfold qsumT
  by_cases z : qnum q = 0
  · rw [if_pos z]
    have : ∀ k, cntB (tgb q s n) k = 0 := by
      intro k
      induction k with
      | zero => rfl
      | succ k ih => rw [cntB, ih]; unfold tgb; rw [decide_eq_false (show ¬ 0 < qnum q by omega)]; rfl
    rw [this]; rfl
  · rw [if_neg z, gbc_cnt]
    congr 1
    rw [cntB_cong (p' := fun j => decide (j < 30) && tgb q s n j) 32 (fun i hi => by
      rw [mkB_bt _ 32 (Nat.le_refl _) i hi]
      simp only [hi, decide_true, Bool.true_and]
      rw [qsh2_shc]
      unfold tgb
      rw [decide_eq_true (show 0 < qnum q by omega), Bool.true_and])]
    generalize tgb q s n = t
    have e1 : cntB (fun j => decide (j < 30) && t j) (31 + 1) = cntB (fun j => decide (j < 30) && t j) 31 + (if (decide (31 < 30) && t 31) = true then 1 else 0) := rfl
    have e2 : cntB (fun j => decide (j < 30) && t j) (30 + 1) = cntB (fun j => decide (j < 30) && t j) 30 + (if (decide (30 < 30) && t 30) = true then 1 else 0) := rfl
    rw [show (32 : Nat) = 31 + 1 from rfl, e1, show (31 : Nat) = 30 + 1 from rfl, e2]
    rw [cntB_cong (p' := t) 30 (fun i hi => by rw [decide_eq_true hi, Bool.true_and])]
    simp
theorem trsu_ok {q : QS} (hq : qok q) (s : Int32) (n : Nat) {k : Nat} (hk : k < qnum q) : tok (trwa (trof q 9 k) (lwa s n)) := by
  obtain ⟨o1, o2, o3, o4, o5, o6, o7, o8, o9⟩ := trof_ok (wo := 9) hq hk
  exact ⟨o1, o2, o3, o4, o5, o6, o7, o8, fun j hj => lwa_le s n j⟩
set_option maxRecDepth 100000 in
set_option maxHeartbeats 400000 in
theorem mSu_3 {r : RS} {μ m : gm_M} {s x : Int32} {n : Nat} {d4 d8 : Option Value} (hn8 : qnum (qof r) ≤ 8) (hR : RDp r μ m) (h68 : ∀ i, i < 30 → m.1 68 i = nI (shc (qof r) s n i (qnum (qof r)))) : ∀ (k_ i : Nat), 30 - i = k_ → i ≤ 30 → Go yX12_summerOf cX12_summerOf 9 (some .int) 7 175 [some (.ref 52), some (.int s), some (.int (nI n)), some (.int x), d4, some (.int (nI (qse (qof r) s n (qnum (qof r))))), some (.int (nI (cntB (tgb (qof r) s n) i))), some (.int (nI i)), d8] [] m (fun r' μ' => r' = some (.int (sumA (qof r) s n x)) ∧ RDp r μ μ') := by
  intro k_
  induction k_ using Nat.strongRecOn with
  | ind k_ ih =>
    intro i  hk_ hj 
    refine go_il7 dX12_summerOf_175 (go_bipush (v := 30) dX12_summerOf_177 (by decide) ?_)
    refine go_cge 219 dX12_summerOf_179 (by decide) (fun h179 => ?_) (fun h179 => ?_)
    · have he : i = 30 := Nat.le_antisymm hj ((gm_bdN (by decide) (by decide) (by omega)).mp h179)
      refine go_il3 dX12_summerOf_219 ?_
      refine go_ifne 228 dX12_summerOf_220 (by decide) (fun h220 => ?_) (fun h220 => ?_)
      · refine go_il5 dX12_summerOf_228 ?_
        refine go_iret dX12_summerOf_230 ?_
        subst he
        exact ⟨by rw [sumA, if_neg h220], hR⟩
      · refine go_il6 dX12_summerOf_223 (go_goto 230 dX12_summerOf_225 (by decide) ?_)
        refine go_iret dX12_summerOf_230 ?_
        subst he
        exact ⟨by rw [sumA, if_pos h220, qsumT_cnt], hR⟩
    · have hlt : i < 30 := Nat.not_le.mp (fun zz => h179 ((gm_bdN (by decide) (by decide) (by omega)).mpr zz))
      refine go_il6 dX12_summerOf_182 (go_al0 dX12_summerOf_184 (go_getI fX12_119 rfl rfl dX12_summerOf_185 ?_))
      rw [hR.1.2.1]
      refine go_ifle 209 dX12_summerOf_188 (by decide) (fun h188 => ?_) (fun h188 => ?_)
      · refine go_ic0 dX12_summerOf_209 (go_iadd dX12_summerOf_210 (go_is6 dX12_summerOf_211 rfl rfl (go_inc7 (k := 1) dX12_summerOf_213 (by decide) rfl rfl (go_goto 175 dX12_summerOf_216 (by decide) ?_))))
        have h7 := shc_le (qof r) s n i (qnum (qof r))
        have e8 : tgb (qof r) s n i = false := by
          have h6 := h188
          rw [← nI_0, nI_leI (by omega) (by decide)] at h6
          unfold tgb; rw [decide_eq_false (by omega)]; rfl
        have e9 : cntB (tgb (qof r) s n) i = cntB (tgb (qof r) s n) (i + 1) := by rw [cntB, if_neg (gf e8)]; rfl
        rw [Int32.add_zero, nI_1, e9]
        exact ih (30 - (i + 1)) (by omega) (i + 1) rfl (by omega)
      · have hpos : 0 < qnum (qof r) := by
          have h6 := h188
          rw [← nI_0, nI_leI (by omega) (by decide)] at h6
          omega
        refine go_al0 dX12_summerOf_191 (go_getR (j := 68) fX12_55 rfl rfl dX12_summerOf_192 (go_il7 dX12_summerOf_195 (go_iald rfl (vp_in_nI hlt (by decide)) dX12_summerOf_197 ?_)))
        rw [nI_clamp (show i < 2 ^ 31 by omega), h68 i hlt]
        refine go_al0 dX12_summerOf_198 (go_getI fX12_119 rfl rfl dX12_summerOf_199 ?_)
        rw [hR.1.2.1]
        refine go_cne 209 dX12_summerOf_202 (by decide) (fun h202 => ?_) (fun h202 => ?_)
        · refine go_ic0 dX12_summerOf_209 (go_iadd dX12_summerOf_210 (go_is6 dX12_summerOf_211 rfl rfl (go_inc7 (k := 1) dX12_summerOf_213 (by decide) rfl rfl (go_goto 175 dX12_summerOf_216 (by decide) ?_))))
          have h7 := shc_le (qof r) s n i (qnum (qof r))
          have e8 : tgb (qof r) s n i = false := by
            unfold tgb; rw [decide_eq_false (show ¬ shc (qof r) s n i (qnum (qof r)) = qnum (qof r) from fun z => h202 (by rw [z])), Bool.and_false]
          have e9 : cntB (tgb (qof r) s n) i = cntB (tgb (qof r) s n) (i + 1) := by rw [cntB, if_neg (gf e8)]; rfl
          rw [Int32.add_zero, nI_1, e9]
          exact ih (30 - (i + 1)) (by omega) (i + 1) rfl (by omega)
        · refine go_ic1 dX12_summerOf_205 (go_goto 210 dX12_summerOf_206 (by decide) (go_iadd dX12_summerOf_210 (go_is6 dX12_summerOf_211 rfl rfl (go_inc7 (k := 1) dX12_summerOf_213 (by decide) rfl rfl (go_goto 175 dX12_summerOf_216 (by decide) ?_)))))
          have h7 := shc_le (qof r) s n i (qnum (qof r))
          have e8 : tgb (qof r) s n i = true := by
            unfold tgb
            rw [decide_eq_true hpos, decide_eq_true ((nI_eq (by omega) (by omega)).mp h202)]; rfl
          have e9 : cntB (tgb (qof r) s n) i + 1 = cntB (tgb (qof r) s n) (i + 1) := by rw [cntB, if_pos e8]
          rw [nI_1, nI_1, e9]
          exact ih (30 - (i + 1)) (by omega) (i + 1) rfl (by omega)

set_option maxRecDepth 100000 in
set_option maxHeartbeats 400000 in
theorem mSu_in {q : QS} {s x : Int32} {n k : Nat} {now : Int32} {mr : gm_M} {Post : Option Value → gm_M → Prop} (ht : tok (trsu q s n k)) (hO : MO (trsu q s n k) 30 mr) (K : ∀ (d8 : Option Value) (m : gm_M), FX [68] [] mr m → (∀ i, i < 30 → m.1 68 i = nI (shc q s n i (k + 1))) → Go yX12_summerOf cX12_summerOf 9 (some .int) 7 88 [some (.ref 52), some (.int s), some (.int (nI n)), some (.int x), some (.int now), some (.int (nI (qse q s n (k + 1)))), some (.int 0), some (.int (nI (k + 1))), d8] [] m Post) : ∀ (k_ j : Nat) (m : gm_M), 30 - j = k_ → j ≤ 30 → (FX [68] [] mr m) → (∀ i, i < 30 → m.1 68 i = nI (shc q s n i k + (if i < j ∧ (tm (trsu q s n k) i).isSome = true then 1 else 0))) → Go yX12_summerOf cX12_summerOf 9 (some .int) 7 106 [some (.ref 52), some (.int s), some (.int (nI n)), some (.int x), some (.int now), some (.int (nI (qse q s n k + tec (trsu q s n k) j))), some (.int 0), some (.int (nI k)), some (.int (nI j))] [] m (Post) := by
  intro k_
  induction k_ using Nat.strongRecOn with
  | ind k_ ih =>
    intro j m  hk_ hj hF h68
    refine go_il8 dX12_summerOf_106 (go_bipush (v := 30) dX12_summerOf_108 (by decide) ?_)
    refine go_cge 166 dX12_summerOf_110 (by decide) (fun h110 => ?_) (fun h110 => ?_)
    · have he : j = 30 := Nat.le_antisymm hj ((gm_bdN (by decide) (by decide) (by omega)).mp h110)
      refine go_inc7 (k := 1) dX12_summerOf_166 (by decide) rfl rfl (go_goto 88 dX12_summerOf_169 (by decide) ?_)
      subst he
      rw [nI_1, tec_eq, show qse q s n k + (if (ta (trsu q s n k) 30).2 = true then 1 else 0) = qse q s n (k + 1) from rfl]
      refine K _ m hF (fun i hi => ?_)
      rw [h68 i hi, shc]
      simp [hi]
    · have hlt : j < 30 := Nat.not_le.mp (fun zz => h110 ((gm_bdN (by decide) (by decide) (by omega)).mpr zz))
      refine go_al0 dX12_summerOf_113 (go_getR (j := 68) fX12_55 rfl rfl dX12_summerOf_114 (go_il8 dX12_summerOf_117 (go_dup2 dX12_summerOf_119 rfl rfl (go_iald rfl (vp_in_nI hlt (by decide)) dX12_summerOf_120 ?_))))
      rw [nI_clamp (show j < 2 ^ 31 by omega), h68 j hlt]
      refine go_al0 dX12_summerOf_121 (go_getR (j := 66) fX12_49 rfl rfl dX12_summerOf_122 (go_il8 dX12_summerOf_125 (go_iald rfl (vp_in_nI hlt (by decide)) dX12_summerOf_127 ?_)))
      rw [nI_clamp (show j < 2 ^ 31 by omega), hF.1 66 (by decide) (by decide), (hO j hlt).2.1]
      refine go_icm1 dX12_summerOf_128 ?_
      refine go_ceq 136 dX12_summerOf_129 (by decide) (fun h129 => ?_) (fun h129 => ?_)
      · refine go_ic0 dX12_summerOf_136 (go_iadd dX12_summerOf_137 (go_iast rfl (vp_in_nI hlt (by decide)) dX12_summerOf_138 ?_))
        rw [nI_clamp (show j < 2 ^ 31 by omega)]
        refine go_il5 dX12_summerOf_139 (go_al0 dX12_summerOf_141 (go_getR (j := 67) fX12_52 rfl rfl dX12_summerOf_142 (go_il8 dX12_summerOf_145 (go_iald rfl (vp_in_nI hlt (by decide)) dX12_summerOf_147 ?_))))
        rw [nI_clamp (show j < 2 ^ 31 by omega), gm_In _ _ _ (by decide), hF.1 67 (by decide) (by decide), (hO j hlt).2.2]
        refine go_ic3 dX12_summerOf_148 ?_
        refine go_cne 156 dX12_summerOf_149 (by decide) (fun h149 => ?_) (fun h149 => ?_)
        · refine go_ic0 dX12_summerOf_156 (go_iadd dX12_summerOf_157 (go_is5 dX12_summerOf_158 rfl rfl (go_inc8 (k := 1) dX12_summerOf_160 (by decide) rfl rfl (go_goto 106 dX12_summerOf_163 (by decide) ?_))))
          have h4 := tst_le (trsu q s n k) j
          have e8 : tm (trsu q s n k) j = none := (heard_none ht).mp h129
          have e7 : ¬ tst (trsu q s n k) j = 3 := fun z => h149 (by rw [z]; rfl)
          have e9 : qse q s n k + tec (trsu q s n k) j = qse q s n k + tec (trsu q s n k) (j + 1) := by rw [tec, if_neg e7]; omega
          simp only [nI_1, Int32.add_zero]
          rw [e9]
          refine ih (30 - (j + 1)) (by omega) (j + 1) _ rfl (by omega) ?_ (fun i hi => ?_)
          · exact hF.I _ _ (by decide) (by decide)
          rw [gm_I1, if_pos rfl]
          by_cases z : i = j
          · subst z
            rw [if_pos rfl, e8]
            rw [if_neg (by simp), if_neg (by simp)]
          · rw [if_neg z, h68 i hi]
            have : (i < j + 1) = (i < j) := propext (by omega)
            simp only [this]
        · refine go_ic1 dX12_summerOf_152 (go_goto 157 dX12_summerOf_153 (by decide) (go_iadd dX12_summerOf_157 (go_is5 dX12_summerOf_158 rfl rfl (go_inc8 (k := 1) dX12_summerOf_160 (by decide) rfl rfl (go_goto 106 dX12_summerOf_163 (by decide) ?_)))))
          have h4 := tst_le (trsu q s n k) j
          have e8 : tm (trsu q s n k) j = none := (heard_none ht).mp h129
          have e7 : tst (trsu q s n k) j = 3 := (nI_eq (by omega) (by decide)).mp h149
          have e9 : qse q s n k + tec (trsu q s n k) j + 1 = qse q s n k + tec (trsu q s n k) (j + 1) := by rw [tec, if_pos e7]; omega
          simp only [nI_1, Int32.add_zero]
          rw [e9]
          refine ih (30 - (j + 1)) (by omega) (j + 1) _ rfl (by omega) ?_ (fun i hi => ?_)
          · exact hF.I _ _ (by decide) (by decide)
          rw [gm_I1, if_pos rfl]
          by_cases z : i = j
          · subst z
            rw [if_pos rfl, e8]
            rw [if_neg (by simp), if_neg (by simp)]
          · rw [if_neg z, h68 i hi]
            have : (i < j + 1) = (i < j) := propext (by omega)
            simp only [this]
      · refine go_ic1 dX12_summerOf_132 (go_goto 137 dX12_summerOf_133 (by decide) (go_iadd dX12_summerOf_137 (go_iast rfl (vp_in_nI hlt (by decide)) dX12_summerOf_138 ?_)))
        rw [nI_clamp (show j < 2 ^ 31 by omega)]
        refine go_il5 dX12_summerOf_139 (go_al0 dX12_summerOf_141 (go_getR (j := 67) fX12_52 rfl rfl dX12_summerOf_142 (go_il8 dX12_summerOf_145 (go_iald rfl (vp_in_nI hlt (by decide)) dX12_summerOf_147 ?_))))
        rw [nI_clamp (show j < 2 ^ 31 by omega), gm_In _ _ _ (by decide), hF.1 67 (by decide) (by decide), (hO j hlt).2.2]
        refine go_ic3 dX12_summerOf_148 ?_
        refine go_cne 156 dX12_summerOf_149 (by decide) (fun h149 => ?_) (fun h149 => ?_)
        · refine go_ic0 dX12_summerOf_156 (go_iadd dX12_summerOf_157 (go_is5 dX12_summerOf_158 rfl rfl (go_inc8 (k := 1) dX12_summerOf_160 (by decide) rfl rfl (go_goto 106 dX12_summerOf_163 (by decide) ?_))))
          have h4 := tst_le (trsu q s n k) j
          have e8 : (tm (trsu q s n k) j).isSome = true := by
            cases hc : tm (trsu q s n k) j with
            | none => exact absurd ((heard_none ht).mpr hc) h129
            | some _ => rfl
          have e7 : ¬ tst (trsu q s n k) j = 3 := fun z => h149 (by rw [z]; rfl)
          have e9 : qse q s n k + tec (trsu q s n k) j = qse q s n k + tec (trsu q s n k) (j + 1) := by rw [tec, if_neg e7]; omega
          simp only [nI_1, Int32.add_zero]
          rw [e9]
          refine ih (30 - (j + 1)) (by omega) (j + 1) _ rfl (by omega) ?_ (fun i hi => ?_)
          · exact hF.I _ _ (by decide) (by decide)
          rw [gm_I1, if_pos rfl]
          by_cases z : i = j
          · subst z
            rw [if_pos rfl, if_neg (fun h : i < i ∧ _ => absurd h.1 (Nat.lt_irrefl i)), if_pos (show i < i + 1 ∧ _ from ⟨Nat.lt_succ_self i, e8⟩), Nat.add_zero]
          · rw [if_neg z, h68 i hi]
            have : (i < j + 1) = (i < j) := propext (by omega)
            simp only [this]
        · refine go_ic1 dX12_summerOf_152 (go_goto 157 dX12_summerOf_153 (by decide) (go_iadd dX12_summerOf_157 (go_is5 dX12_summerOf_158 rfl rfl (go_inc8 (k := 1) dX12_summerOf_160 (by decide) rfl rfl (go_goto 106 dX12_summerOf_163 (by decide) ?_)))))
          have h4 := tst_le (trsu q s n k) j
          have e8 : (tm (trsu q s n k) j).isSome = true := by
            cases hc : tm (trsu q s n k) j with
            | none => exact absurd ((heard_none ht).mpr hc) h129
            | some _ => rfl
          have e7 : tst (trsu q s n k) j = 3 := (nI_eq (by omega) (by decide)).mp h149
          have e9 : qse q s n k + tec (trsu q s n k) j + 1 = qse q s n k + tec (trsu q s n k) (j + 1) := by rw [tec, if_pos e7]; omega
          simp only [nI_1, Int32.add_zero]
          rw [e9]
          refine ih (30 - (j + 1)) (by omega) (j + 1) _ rfl (by omega) ?_ (fun i hi => ?_)
          · exact hF.I _ _ (by decide) (by decide)
          rw [gm_I1, if_pos rfl]
          by_cases z : i = j
          · subst z
            rw [if_pos rfl, if_neg (fun h : i < i ∧ _ => absurd h.1 (Nat.lt_irrefl i)), if_pos (show i < i + 1 ∧ _ from ⟨Nat.lt_succ_self i, e8⟩), Nat.add_zero]
          · rw [if_neg z, h68 i hi]
            have : (i < j + 1) = (i < j) := propext (by omega)
            simp only [this]

set_option maxRecDepth 100000 in
set_option maxHeartbeats 400000 in
theorem mSu_2 {r : RS} {μ : gm_M} {s x : Int32} {n : Nat} {now : Int32} (hn8 : qnum (qof r) ≤ 8) : ∀ (k_ k : Nat) (d8 : Option Value) (m : gm_M), qnum (qof r) - k = k_ → k ≤ qnum (qof r) → (RDp r μ m) → (WN (lwa s n) m) → (∀ i, i < 30 → m.1 68 i = nI (shc (qof r) s n i k)) → Go yX12_summerOf cX12_summerOf 9 (some .int) 7 88 [some (.ref 52), some (.int s), some (.int (nI n)), some (.int x), some (.int now), some (.int (nI (qse (qof r) s n k))), some (.int 0), some (.int (nI k)), d8] [] m (fun r' μ' => r' = some (.int (sumA (qof r) s n x)) ∧ RDp r μ μ') := by
  intro k_
  induction k_ using Nat.strongRecOn with
  | ind k_ ih =>
    intro k d8  m  hk_ hj hR hW h68
    refine go_il7 dX12_summerOf_88 (go_al0 dX12_summerOf_90 (go_getI fX12_119 rfl rfl dX12_summerOf_91 ?_))
    refine go_cge 172 dX12_summerOf_94 (by decide) (fun h94 => ?_) (fun h94 => ?_)
    · have he : k = qnum (qof r) := Nat.le_antisymm hj ((gm_bdN hR.1.2.1 (by omega) (by omega)).mp h94)
      refine go_ic0 dX12_summerOf_172 (go_is7 dX12_summerOf_173 rfl rfl ?_)
      subst he
      have h9 := mSu_3 (s := s) (n := n) (x := x) (d4 := some (.int now)) (d8 := d8) hn8 hR h68 _ 0 rfl (by decide)
      exact h9
    · have hlt : k < qnum (qof r) := Nat.not_le.mp (fun zz => h94 ((gm_bdN hR.1.2.1 (by omega) (by omega)).mpr zz))
      refine go_al0 dX12_summerOf_97 (go_il7 dX12_summerOf_98 ?_)
      refine go_V1 mcX12_runs mvX12_runs kX12_193 rfl dX12_summerOf_100 rfl rfl (mRuns hR.1 hlt hW) ?_
      rintro _ m100 ⟨rfl, hF100, hO100⟩
      refine go_ic0 dX12_summerOf_103 (go_is8 dX12_summerOf_104 rfl rfl ?_)
      have h9 := mSu_in (x := x) (now := now) (trsu_ok hR.1.1 s n hlt) hO100 (fun d8 m' hF' h' => ih (qnum (qof r) - (k + 1)) (by omega) (k + 1) d8 m' rfl (by omega) ((hR.fl hF100.rl).fl (hF'.wide (by decide) (fun x hx => by cases hx))) (by unfold WN; rw [hF'.1 64 (by decide) (by decide)]; exact hW.fr hF100) h') _ 0 _ rfl (Nat.zero_le _) (FX.rf _) (fun i hi => by rw [hF100.1 68 (by decide) (by decide), h68 i hi, if_neg (fun h => absurd h.1 (Nat.not_lt_zero i))]; rfl)
      exact h9

set_option maxRecDepth 100000 in
set_option maxHeartbeats 400000 in
theorem mSu_1 {r : RS} {μ mr : gm_M} {s x : Int32} {n : Nat} {d6 d7 d8 : Option Value} (hn : n ≤ 30) (hR : RDp r μ mr) : ∀ (k_ i : Nat) (m : gm_M), 30 - i = k_ → i ≤ 30 → (FX lL fR mr m) → (∀ j, j < i → m.1 64 j = nI (lwa s n j)) → (∀ j, j < i → m.1 68 j = nI 0) → Go yX12_summerOf cX12_summerOf 9 (some .int) 7 10 [some (.ref 52), some (.int s), some (.int (nI n)), some (.int x), some (.int (lseed s (min i n))), some (.int (nI i)), d6, d7, d8] [] m (fun r' μ' => r' = some (.int (sumA (qof r) s n x)) ∧ RDp r μ μ') := by
  intro k_
  induction k_ using Nat.strongRecOn with
  | ind k_ ih =>
    intro i m  hk_ hj hF h64 h68
    refine go_il5 dX12_summerOf_10 (go_bipush (v := 30) dX12_summerOf_12 (by decide) ?_)
    refine go_cge 79 dX12_summerOf_14 (by decide) (fun h14 => ?_) (fun h14 => ?_)
    · have he : i = 30 := Nat.le_antisymm hj ((gm_bdN (by decide) (by decide) (by omega)).mp h14)
      refine go_ic0 dX12_summerOf_79 (go_is5 dX12_summerOf_80 rfl rfl (go_ic0 dX12_summerOf_82 (go_is6 dX12_summerOf_83 rfl rfl (go_ic0 dX12_summerOf_85 (go_is7 dX12_summerOf_86 rfl rfl ?_)))))
      subst he
      have h9 := mSu_2 (s := s) (x := x) (n := n) (now := lseed s (min 30 n)) hR.1.1.1 _ 0 d8 m rfl (Nat.zero_le _) (hR.fl hF) (fun j hj => ⟨h64 j hj, lwa_le s n j⟩) h68
      exact h9
    · have hlt : i < 30 := Nat.not_le.mp (fun zz => h14 ((gm_bdN (by decide) (by decide) (by omega)).mpr zz))
      refine go_il5 dX12_summerOf_17 (go_il2 dX12_summerOf_19 ?_)
      refine go_cge 36 dX12_summerOf_20 (by decide) (fun h20 => ?_) (fun h20 => ?_)
      · refine go_il4 dX12_summerOf_36 (go_is4 dX12_summerOf_38 rfl rfl (go_al0 dX12_summerOf_40 (go_getR (j := 64) fX12_43 rfl rfl dX12_summerOf_41 (go_il5 dX12_summerOf_44 (go_il5 dX12_summerOf_46 (go_il2 dX12_summerOf_48 ?_))))))
        refine go_cge 63 dX12_summerOf_49 (by decide) (fun h49 => ?_) (fun h49 => ?_)
        · refine go_ic5 dX12_summerOf_63 (go_iast rfl (vp_in_nI hlt (by decide)) dX12_summerOf_64 ?_)
          rw [nI_clamp (show i < 2 ^ 31 by omega)]
          refine go_al0 dX12_summerOf_65 (go_getR (j := 68) fX12_55 rfl rfl dX12_summerOf_66 (go_il5 dX12_summerOf_69 (go_ic0 dX12_summerOf_71 (go_iast rfl (vp_in_nI hlt (by decide)) dX12_summerOf_72 ?_))))
          rw [nI_clamp (show i < 2 ^ 31 by omega)]
          refine go_inc5 (k := 1) dX12_summerOf_73 (by decide) rfl rfl (go_goto 10 dX12_summerOf_76 (by decide) ?_)
          have hin : ¬ i < n := by
            have h6 := h20
            rw [nI_leI (by omega) (by omega)] at h6
            omega
          rw [nI_1, show lseed s (min i n) = lseed s (min (i + 1) n) from by rw [show min i n = n by omega, show min (i + 1) n = n by omega]]
          refine ih (30 - (i + 1)) (by omega) (i + 1) _ rfl (by omega) (hF.tr (((FX.rf m).I _ _ (by decide) (by decide)).I _ _ (by decide) (by decide))) (fun j hj => ?_) (fun j hj => ?_)
          · rw [gm_In _ _ _ (by decide), gm_I1, if_pos rfl]
            by_cases z : j = i
            · rw [if_pos z]
              rw [z, lwa, if_neg hin]; rfl
            · rw [if_neg z]; exact h64 j (by omega)
          · rw [gm_I1, if_pos rfl]
            by_cases z : j = i
            · rw [if_pos z]; rfl
            · rw [if_neg z, gm_In _ _ _ (by decide)]; exact h68 j (by omega)
        · refine go_il4 dX12_summerOf_52 (go_bipush (v := 16) dX12_summerOf_54 (by decide) (go_iushr dX12_summerOf_56 (go_bipush (v := 10) dX12_summerOf_57 (by decide) (go_irem dX12_summerOf_59 (by decide) (go_goto 64 dX12_summerOf_60 (by decide) (go_iast rfl (vp_in_nI hlt (by decide)) dX12_summerOf_64 ?_))))))
          rw [nI_clamp (show i < 2 ^ 31 by omega)]
          refine go_al0 dX12_summerOf_65 (go_getR (j := 68) fX12_55 rfl rfl dX12_summerOf_66 (go_il5 dX12_summerOf_69 (go_ic0 dX12_summerOf_71 (go_iast rfl (vp_in_nI hlt (by decide)) dX12_summerOf_72 ?_))))
          rw [nI_clamp (show i < 2 ^ 31 by omega)]
          refine go_inc5 (k := 1) dX12_summerOf_73 (by decide) rfl rfl (go_goto 10 dX12_summerOf_76 (by decide) ?_)
          exact absurd h20 h49
      · refine go_ldcw dX12_summerOf_23 nX12_267 (go_il4 dX12_summerOf_26 (go_imul dX12_summerOf_28 (go_sipush (v := 12345) dX12_summerOf_29 (by decide) (go_iadd dX12_summerOf_32 (go_goto 38 dX12_summerOf_33 (by decide) (go_is4 dX12_summerOf_38 rfl rfl (go_al0 dX12_summerOf_40 (go_getR (j := 64) fX12_43 rfl rfl dX12_summerOf_41 (go_il5 dX12_summerOf_44 (go_il5 dX12_summerOf_46 (go_il2 dX12_summerOf_48 ?_)))))))))))
        refine go_cge 63 dX12_summerOf_49 (by decide) (fun h49 => ?_) (fun h49 => ?_)
        · refine go_ic5 dX12_summerOf_63 (go_iast rfl (vp_in_nI hlt (by decide)) dX12_summerOf_64 ?_)
          rw [nI_clamp (show i < 2 ^ 31 by omega)]
          refine go_al0 dX12_summerOf_65 (go_getR (j := 68) fX12_55 rfl rfl dX12_summerOf_66 (go_il5 dX12_summerOf_69 (go_ic0 dX12_summerOf_71 (go_iast rfl (vp_in_nI hlt (by decide)) dX12_summerOf_72 ?_))))
          rw [nI_clamp (show i < 2 ^ 31 by omega)]
          refine go_inc5 (k := 1) dX12_summerOf_73 (by decide) rfl rfl (go_goto 10 dX12_summerOf_76 (by decide) ?_)
          exact absurd h49 h20
        · refine go_il4 dX12_summerOf_52 (go_bipush (v := 16) dX12_summerOf_54 (by decide) (go_iushr dX12_summerOf_56 (go_bipush (v := 10) dX12_summerOf_57 (by decide) (go_irem dX12_summerOf_59 (by decide) (go_goto 64 dX12_summerOf_60 (by decide) (go_iast rfl (vp_in_nI hlt (by decide)) dX12_summerOf_64 ?_))))))
          rw [nI_clamp (show i < 2 ^ 31 by omega)]
          refine go_al0 dX12_summerOf_65 (go_getR (j := 68) fX12_55 rfl rfl dX12_summerOf_66 (go_il5 dX12_summerOf_69 (go_ic0 dX12_summerOf_71 (go_iast rfl (vp_in_nI hlt (by decide)) dX12_summerOf_72 ?_))))
          rw [nI_clamp (show i < 2 ^ 31 by omega)]
          refine go_inc5 (k := 1) dX12_summerOf_73 (by decide) rfl rfl (go_goto 10 dX12_summerOf_76 (by decide) ?_)
          have hin : i < n := by
            have h6 := h20
            rw [nI_leI (by omega) (by omega)] at h6
            omega
          have e0 : lseed s (i + 1) = 1103515245 * lseed s (min i n) + 12345 := by rw [show min i n = i by omega]; rfl
          have e1 : 1103515245 * lseed s (min i n) + 12345 = lseed s (min (i + 1) n) := by rw [← e0, show min (i + 1) n = i + 1 by omega]
          rw [nI_1, e1]
          refine ih (30 - (i + 1)) (by omega) (i + 1) _ rfl (by omega) (hF.tr (((FX.rf m).I _ _ (by decide) (by decide)).I _ _ (by decide) (by decide))) (fun j hj => ?_) (fun j hj => ?_)
          · rw [gm_In _ _ _ (by decide), gm_I1, if_pos rfl]
            by_cases z : j = i
            · rw [if_pos z]
              show lotI (lseed s (min (i + 1) n)) = nI (lwa s n j)
              rw [z, lwa, if_pos hin, ← (lot_t _).1, show min (i + 1) n = i + 1 by omega]
            · rw [if_neg z]; exact h64 j (by omega)
          · rw [gm_I1, if_pos rfl]
            by_cases z : j = i
            · rw [if_pos z]; rfl
            · rw [if_neg z, gm_In _ _ _ (by decide)]; exact h68 j (by omega)

set_option maxRecDepth 100000 in
set_option maxHeartbeats 400000 in
theorem mSummerOf {r : RS} {μ : gm_M} (hA : MA r μ) {n : Nat} (hn : n ≤ 30) (s x : Int32) : Sat yX12_summerOf cX12_summerOf 9 (some .int) 7 [(.ref 52), (.int s), (.int (nI n)), (.int x)] μ (fun r' μ' => r' = some (.int (sumA (qof r) s n x)) ∧ RDp r μ μ') := by
  refine Sat.of (L := [some (.ref 52), some (.int s), some (.int (nI n)), some (.int x), none, none, none, none, none]) (by decide) (fun _ => rfl) (fun _ => rfl) ?_
  refine go_al0 dX12_summerOf_0 ?_
  refine go_V0 mcX12_asTold mvX12_asTold kX12_190 rfl dX12_summerOf_1 rfl rfl (mAsTold hA) ?_
  rintro _ m1 ⟨rfl, hR1, hW1⟩
  refine go_il1 dX12_summerOf_4 (go_is4 dX12_summerOf_5 rfl rfl (go_ic0 dX12_summerOf_7 (go_is5 dX12_summerOf_8 rfl rfl ?_)))
  have h9 := mSu_1 (s := s) (x := x) (d6 := none) (d7 := none) (d8 := none) hn hR1 _ 0 m1 rfl (by decide) (FX.rf _) (fun j hj => absurd hj (Nat.not_lt_zero j)) (fun j hj => absurd hj (Nat.not_lt_zero j))
  rw [Nat.zero_min] at h9
  exact h9

set_option maxRecDepth 100000 in
set_option maxHeartbeats 400000 in
theorem m_summer {r : RS} {μ : gm_M} (hA : MA r μ) (s n x : Int32) : Sat yX12_summer cX12_summer 4 (some .int) 8 [(.ref 52), (.int s), (.int n), (.int x)] μ (fun r' μ' => r' = some (.int (sSummer (qof r) s n x)) ∧ FX lQ fQ μ μ') := by
  refine Sat.of (L := [some (.ref 52), some (.int s), some (.int n), some (.int x)]) (by decide) (fun _ => rfl) (fun _ => rfl) ?_
  refine go_il2 dX12_summer_0 (go_ic0 dX12_summer_1 (go_bipush (v := 30) dX12_summer_2 (by decide) (go_S3r mcX12_in mvX12_in kX12_104 dX12_summer_4 rfl rfl (sX12_in _ _ _ _) ?_)))
  refine go_ifeqB 29 dX12_summer_7 (by decide) (fun h7 => ?_) (fun h7 => ?_)
  · refine go_bipush (v := -2) dX12_summer_29 (by decide) ?_
    refine go_iret dX12_summer_31 ?_
    exact ⟨by rw [sSummer_g, if_neg (gf h7)], FX.rf μ⟩
  · refine go_il3 dX12_summer_10 (go_ic0 dX12_summer_11 (go_ic1 dX12_summer_12 (go_S3r mcX12_in mvX12_in kX12_104 dX12_summer_13 rfl rfl (sX12_in _ _ _ _) ?_)))
    refine go_ifeqB 29 dX12_summer_16 (by decide) (fun h16 => ?_) (fun h16 => ?_)
    · refine go_bipush (v := -2) dX12_summer_29 (by decide) ?_
      refine go_iret dX12_summer_31 ?_
      exact ⟨by rw [sSummer_g, if_pos h7, if_neg (gf h16)], FX.rf μ⟩
    · obtain ⟨k, hk, rfl⟩ := gin_of (N := 30) (by decide) (by decide) h7
      refine go_al0 dX12_summer_19 (go_il1 dX12_summer_20 (go_il2 dX12_summer_21 (go_il3 dX12_summer_22 ?_)))
      refine go_V3 mcX12_summerOf mvX12_summerOf kX12_268 rfl dX12_summer_23 rfl rfl (mSummerOf hA hk s x) ?_
      rintro _ m23 ⟨rfl, hR23⟩
      refine go_goto 31 dX12_summer_26 (by decide) ?_
      refine go_iret dX12_summer_31 ?_
      exact ⟨by rw [sSummer_g, if_pos h7, if_pos h16, wN_nI (by omega)], hR23.2.2⟩

