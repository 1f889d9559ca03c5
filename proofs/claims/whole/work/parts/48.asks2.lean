/-! THE MODEL: from which night, of what sort, the next night to listen -/
theorem sWas_g (q : QS) (w x : Int32) : sWas q w x = if inW q w = true then (if gin x 0 1 = true then (if x = 0 then mkB (qfromB q (wN w)) 32 else mkB (qsortB q (wN w)) 32) else -2) else -2 := by
  unfold sWas; rw [ite_gin]
/-- what is heard of wheel k, were it from night v -/
def hfr (q : QS) (k v n : Nat) : Int32 := oI ((tm (trf (trof q 9 k) v) n).map (qsn q k))
def HF (q : QS) (k v : Nat) (m : gm_M) : Prop := ∀ a, a < v → ∀ n, n < 30 → m.1 75 (30 * a + n) = hfr q k a n
theorem HF.cong {q : QS} {k v : Nat} {m m' : gm_M} (h : HF q k v m) (e : m'.1 75 = m.1 75) : HF q k v m' := by unfold HF; rw [e]; exact h
set_option maxRecDepth 100000 in
set_option maxHeartbeats 400000 in
theorem mFB_in {q : QS} {k v : Nat} {b told : Int32} {mr : gm_M} {Post : Option Value → gm_M → Prop} (hv : v < 20) (hO : MO (trf (trof q 9 k) v) 30 mr) (K : ∀ (d5 : Option Value) (m : gm_M), FX [75] [] mr m → HF q k (v + 1) m → Go yX12_fromBy cX12_fromBy 6 (some .int) 7 16 [some (.ref 52), some (.int (nI k)), some (.int told), some (.int b), some (.int (nI (v + 1))), d5] [] m Post) : ∀ (k_ n : Nat) (m : gm_M), 30 - n = k_ → n ≤ 30 → (FX [75] [] mr m) → (HF q k v m) → (∀ i, i < n → m.1 75 (30 * v + i) = hfr q k v i) → Go yX12_fromBy cX12_fromBy 6 (some .int) 7 58 [some (.ref 52), some (.int (nI k)), some (.int told), some (.int b), some (.int (nI v)), some (.int (nI n))] [] m (Post) := by
  intro k_
  induction k_ using Nat.strongRecOn with
  | ind k_ ih =>
    intro n m  hk_ hj hF hA hB
    refine go_il5 dX12_fromBy_58 (go_bipush (v := 30) dX12_fromBy_60 (by decide) ?_)
    refine go_cge 91 dX12_fromBy_62 (by decide) (fun h62 => ?_) (fun h62 => ?_)
    · have he : n = 30 := Nat.le_antisymm hj ((gm_bdN (by decide) (by decide) (by omega)).mp h62)
      refine go_inc4 (k := 1) dX12_fromBy_91 (by decide) rfl rfl (go_goto 16 dX12_fromBy_94 (by decide) ?_)
      subst he
      rw [nI_1]
      refine K _ m hF (fun a ha n hn => ?_)
      rcases Nat.lt_or_ge a v with z | z
      · exact hA a z n hn
      · have e : a = v := by omega
        rw [e]; exact hB n hn
    · have hlt : n < 30 := Nat.not_le.mp (fun zz => h62 ((gm_bdN (by decide) (by decide) (by omega)).mpr zz))
      refine go_al0 dX12_fromBy_65 (go_getR (j := 75) fX12_76 rfl rfl dX12_fromBy_66 (go_bipush (v := 30) dX12_fromBy_69 (by decide) (go_il4 dX12_fromBy_71 (go_imul dX12_fromBy_73 (go_il5 dX12_fromBy_74 (go_iadd dX12_fromBy_76 (go_al0 dX12_fromBy_77 (go_getR (j := 66) fX12_49 rfl rfl dX12_fromBy_78 (go_il5 dX12_fromBy_81 (go_iald rfl (vp_in_nI hlt (by decide)) dX12_fromBy_83 ?_))))))))))
      rw [nI_clamp (show n < 2 ^ 31 by omega), hF.1 66 (by decide) (by decide), (hO n hlt).2.1]
      refine go_iast rfl (by rw [show (30 : Int32) = nI 30 from rfl, pk_mul, nI_add]; exact vp_in_nI (by omega) (by decide)) dX12_fromBy_84 ?_
      rw [show (30 : Int32) = nI 30 from rfl, pk_mul, nI_add, nI_clamp (by omega)]
      refine go_inc5 (k := 1) dX12_fromBy_85 (by decide) rfl rfl (go_goto 58 dX12_fromBy_88 (by decide) ?_)
      rw [nI_1]
      refine ih (30 - (n + 1)) (by omega) (n + 1) _ rfl (by omega) (hF.I _ _ (by decide) (by decide)) (fun a ha i hi => ?_) (fun i hi => ?_)
      · rw [gm_I1, if_pos rfl, if_neg (by omega)]; exact hA a ha i hi
      · rw [gm_I1, if_pos rfl]
        by_cases z : i = n
        · rw [if_pos (by rw [z]), z]; rfl
        · rw [if_neg (by omega)]; exact hB i (by omega)

set_option maxRecDepth 100000 in
set_option maxHeartbeats 400000 in
theorem mFB_loop {r : RS} {μ : gm_M} {k : Nat} (hq : qok (qof r)) (hk : k < qnum (qof r)) : ∀ (k_ v : Nat) (f0 : Nat) (b : Int32) (d5 : Option Value) (m : gm_M), 20 - v = k_ → v ≤ 20 → (RDq r (qfrm (qof r) k f0) μ m) → (WN (qwa (qof r)) m) → (∀ j, j < 32 → bt b j = (decide (j < v) && hall (qfrm (qof r) k j) 9)) → (HF (qof r) k v m) → Go yX12_fromBy cX12_fromBy 6 (some .int) 7 16 [some (.ref 52), some (.int (nI k)), some (.int (nI (qfr (qof r) k))), some (.int b), some (.int (nI v)), d5] [] m (fun r' μ' => r' = some (.int (mkB (qfromB (qof r) k) 32)) ∧ RDp r μ μ' ∧ HF (qof r) k 20 μ') := by
  have h8 := hq.1
  intro k_
  induction k_ using Nat.strongRecOn with
  | ind k_ ih =>
    intro v f0  b  d5  m  hk_ hj hR hW hb hA
    refine go_il4 dX12_fromBy_16 (go_bipush (v := 20) dX12_fromBy_18 (by decide) ?_)
    refine go_cge 97 dX12_fromBy_20 (by decide) (fun h20 => ?_) (fun h20 => ?_)
    · have he : v = 20 := Nat.le_antisymm hj ((gm_bdN (by decide) (by decide) (by omega)).mp h20)
      refine go_al0 dX12_fromBy_97 (go_getR (j := 56) fX12_19 rfl rfl dX12_fromBy_98 (go_il1 dX12_fromBy_101 (go_il2 dX12_fromBy_102 (go_iast rfl (vp_in_nI (show k < 9 by omega) (by decide)) dX12_fromBy_103 ?_))))
      rw [nI_clamp (show k < 2 ^ 31 by omega)]
      have hRz := hR.frm (k := k) (v := qfr (qof r) k) (hq.2.1 k hk).2.1
      rw [qfrm_2, qfrm_self] at hRz
      refine go_il3 dX12_fromBy_104 ?_
      refine go_iret dX12_fromBy_105 ?_
      subst he
      refine ⟨?_, hRz, hA.cong (gm_In _ _ _ (by decide))⟩
      rw [mkB_eq hb]
      unfold qfromB
      simp only [from_all hq hk]
    · have hlt : v < 20 := Nat.not_le.mp (fun zz => h20 ((gm_bdN (by decide) (by decide) (by omega)).mpr zz))
      refine go_al0 dX12_fromBy_23 (go_getR (j := 56) fX12_19 rfl rfl dX12_fromBy_24 (go_il1 dX12_fromBy_27 (go_il4 dX12_fromBy_28 (go_iast rfl (vp_in_nI (show k < 9 by omega) (by decide)) dX12_fromBy_30 ?_))))
      rw [nI_clamp (show k < 2 ^ 31 by omega)]
      have hRa := hR.frm (k := k) (v := v) (by omega)
      rw [qfrm_2] at hRa
      have hWa : WN (qwa (qof r)) (gm_I m 56 k (nI v)) := by unfold WN; rw [gm_In _ _ _ (by decide)]; exact hW
      refine go_il3 dX12_fromBy_31 (go_al0 dX12_fromBy_32 (go_ic0 dX12_fromBy_33 ?_))
      refine go_V1 mcX12_isHeard mvX12_isHeard kX12_240 rfl dX12_fromBy_34 rfl rfl (mIsHeard hRa.1 hWa (no0 _ hRa.1.1)) ?_
      rintro _ m34 ⟨rfl, hF34⟩
      have hRb := hRa.fl hF34.rl
      have hWb := hWa.fr hF34
      refine go_ifeqB 47 dX12_fromBy_37 (by decide) (fun h37 => ?_) (fun h37 => ?_)
      · refine go_ic0 dX12_fromBy_47 (go_ior dX12_fromBy_48 (go_is3 dX12_fromBy_49 rfl rfl (go_al0 dX12_fromBy_50 (go_il1 dX12_fromBy_51 ?_))))
        refine go_V1 mcX12_runs mvX12_runs kX12_193 rfl dX12_fromBy_52 rfl rfl (mRuns (k := k) hRb.1 hk hWb) ?_
        rintro _ m52 ⟨rfl, hF52, hO52⟩
        rw [show trwa (trof (qfrm (qof r) k v) 9 k) (qwa (qof r)) = trf (trof (qof r) 9 k) v from trof_frm (qof r) 9 k v] at hO52
        have hRc := hRb.fl hF52.rl
        have hWc := hWb.fr hF52
        refine go_ic0 dX12_fromBy_55 (go_is5 dX12_fromBy_56 rfl rfl ?_)
        rw [← nI_0]
        refine mFB_in hlt hO52 (fun d5 m' hF' hA' => ih (20 - (v + 1)) (by omega) (v + 1) v _ d5 m' rfl (by omega) (hRc.fl (hF'.wide (by decide) (fun x hx => by cases hx))) (by unfold WN; rw [hF'.1 64 (by decide) (by decide)]; exact hWc) (fun j hj => ?_) hA') _ 0 _ rfl (Nat.zero_le _) (FX.rf _) (hA.cong ?_) (fun i hi => absurd hi (Nat.not_lt_zero i))
        · rw [b_or, nI_0, b_0, Bool.or_false, hb j hj]
          by_cases z : j = v
          · subst z; simp; exact h37
          · have : (j < v + 1) = (j < v) := propext (by omega)
            simp [this]
        · rw [hF52.1 75 (by decide) (by decide), hF34.1 75 (by decide) (by decide), gm_In _ _ _ (by decide)]
      · refine go_ic1 dX12_fromBy_40 (go_il4 dX12_fromBy_41 (go_ishl dX12_fromBy_43 (go_goto 48 dX12_fromBy_44 (by decide) (go_ior dX12_fromBy_48 (go_is3 dX12_fromBy_49 rfl rfl (go_al0 dX12_fromBy_50 (go_il1 dX12_fromBy_51 ?_)))))))
        refine go_V1 mcX12_runs mvX12_runs kX12_193 rfl dX12_fromBy_52 rfl rfl (mRuns (k := k) hRb.1 hk hWb) ?_
        rintro _ m52 ⟨rfl, hF52, hO52⟩
        rw [show trwa (trof (qfrm (qof r) k v) 9 k) (qwa (qof r)) = trf (trof (qof r) 9 k) v from trof_frm (qof r) 9 k v] at hO52
        have hRc := hRb.fl hF52.rl
        have hWc := hWb.fr hF52
        refine go_ic0 dX12_fromBy_55 (go_is5 dX12_fromBy_56 rfl rfl ?_)
        rw [← nI_0]
        refine mFB_in hlt hO52 (fun d5 m' hF' hA' => ih (20 - (v + 1)) (by omega) (v + 1) v _ d5 m' rfl (by omega) (hRc.fl (hF'.wide (by decide) (fun x hx => by cases hx))) (by unfold WN; rw [hF'.1 64 (by decide) (by decide)]; exact hWc) (fun j hj => ?_) hA') _ 0 _ rfl (Nat.zero_le _) (FX.rf _) (hA.cong ?_) (fun i hi => absurd hi (Nat.not_lt_zero i))
        · rw [b_or, b_one (by omega) hj, hb j hj]
          by_cases z : j = v
          · subst z; simp; exact h37
          · have : (j < v + 1) = (j < v) := propext (by omega)
            simp [this, z]
        · rw [hF52.1 75 (by decide) (by decide), hF34.1 75 (by decide) (by decide), gm_In _ _ _ (by decide)]

set_option maxRecDepth 100000 in
set_option maxHeartbeats 400000 in
theorem mFromBy {r : RS} {μ : gm_M} (hA : MA r μ) {k : Nat} (hk : k < qnum (qof r)) : Sat yX12_fromBy cX12_fromBy 6 (some .int) 7 [(.ref 52), (.int (nI k))] μ (fun r' μ' => r' = some (.int (mkB (qfromB (qof r) k) 32)) ∧ RDp r μ μ' ∧ HF (qof r) k 20 μ') := by
  have h8 := (rok_q hA.1).1
  refine Sat.of (L := [some (.ref 52), some (.int (nI k)), none, none, none, none]) (by decide) (fun _ => rfl) (fun _ => rfl) ?_
  refine go_al0 dX12_fromBy_0 ?_
  refine go_V0 mcX12_asTold mvX12_asTold kX12_190 rfl dX12_fromBy_1 rfl rfl (mAsTold hA) ?_
  rintro _ m1 ⟨rfl, hR1, hW1⟩
  refine go_al0 dX12_fromBy_4 (go_getR (j := 56) fX12_19 rfl rfl dX12_fromBy_5 (go_il1 dX12_fromBy_8 (go_iald rfl (vp_in_nI (show k < 9 by omega) (by decide)) dX12_fromBy_9 ?_)))
  rw [nI_clamp (show k < 2 ^ 31 by omega), (hR1.1.2.2.1 k hk).2.1]
  refine go_is2 dX12_fromBy_10 rfl rfl (go_ic0 dX12_fromBy_11 (go_is3 dX12_fromBy_12 rfl rfl (go_ic0 dX12_fromBy_13 (go_is4 dX12_fromBy_14 rfl rfl ?_))))
  rw [← nI_0]
  exact mFB_loop hR1.1.1 hk _ 0 (qfr (qof r) k) _ _ _ rfl (by decide) (by rw [qfrm_self]; exact hR1) hW1 (fun j hj => by rw [nI_0, b_0]; simp) (fun a ha => absurd ha (Nat.not_lt_zero a))

set_option maxRecDepth 100000 in
set_option maxHeartbeats 400000 in
theorem mSB_loop {r : RS} {μ : gm_M} {k : Nat} (hq : qok (qof r)) (hk : k < qnum (qof r)) : ∀ (k_ v : Nat) (f0 : Nat) (b : Int32) (m : gm_M), 3 - v = k_ → v ≤ 3 → (RDq r (qsrt (qof r) k f0) μ m) → (WN (qwa (qof r)) m) → (∀ j, j < 32 → bt b j = (decide (j < v) && hall (qsrt (qof r) k j) 9)) → Go yX12_sortBy cX12_sortBy 5 (some .int) 7 16 [some (.ref 52), some (.int (nI k)), some (.int (nI (qso (qof r) k))), some (.int b), some (.int (nI v))] [] m (fun r' μ' => r' = some (.int (mkB (qsortB (qof r) k) 32)) ∧ RDp r μ μ') := by
  have h8 := hq.1
  intro k_
  induction k_ using Nat.strongRecOn with
  | ind k_ ih =>
    intro v f0  b  m  hk_ hj hR hW hb
    refine go_il4 dX12_sortBy_16 (go_ic3 dX12_sortBy_18 ?_)
    refine go_cge 55 dX12_sortBy_19 (by decide) (fun h19 => ?_) (fun h19 => ?_)
    · have he : v = 3 := Nat.le_antisymm hj ((gm_bdN (by decide) (by decide) (by omega)).mp h19)
      refine go_al0 dX12_sortBy_55 (go_getR (j := 55) fX12_16 rfl rfl dX12_sortBy_56 (go_il1 dX12_sortBy_59 (go_il2 dX12_sortBy_60 (go_iast rfl (vp_in_nI (show k < 9 by omega) (by decide)) dX12_sortBy_61 ?_))))
      rw [nI_clamp (show k < 2 ^ 31 by omega)]
      have hRz := hR.srt (k := k) (v := qso (qof r) k) (hq.2.1 k hk).1
      rw [qsrt_2, qsrt_self] at hRz
      refine go_il3 dX12_sortBy_62 ?_
      refine go_iret dX12_sortBy_63 ?_
      subst he
      refine ⟨?_, hRz⟩
      rw [mkB_eq hb]
      unfold qsortB
      simp only [sort_all hq hk]
    · have hlt : v < 3 := Nat.not_le.mp (fun zz => h19 ((gm_bdN (by decide) (by decide) (by omega)).mpr zz))
      refine go_al0 dX12_sortBy_22 (go_getR (j := 55) fX12_16 rfl rfl dX12_sortBy_23 (go_il1 dX12_sortBy_26 (go_il4 dX12_sortBy_27 (go_iast rfl (vp_in_nI (show k < 9 by omega) (by decide)) dX12_sortBy_29 ?_))))
      rw [nI_clamp (show k < 2 ^ 31 by omega)]
      have hRa := hR.srt (k := k) (v := v) (by omega)
      rw [qsrt_2] at hRa
      have hWa : WN (qwa (qof r)) (gm_I m 55 k (nI v)) := by unfold WN; rw [gm_In _ _ _ (by decide)]; exact hW
      refine go_il3 dX12_sortBy_30 (go_al0 dX12_sortBy_31 (go_ic0 dX12_sortBy_32 ?_))
      refine go_V1 mcX12_isHeard mvX12_isHeard kX12_240 rfl dX12_sortBy_33 rfl rfl (mIsHeard hRa.1 hWa (no0 _ hRa.1.1)) ?_
      rintro _ m33 ⟨rfl, hF33⟩
      have hRb := hRa.fl hF33.rl
      have hWb := hWa.fr hF33
      refine go_ifeqB 46 dX12_sortBy_36 (by decide) (fun h36 => ?_) (fun h36 => ?_)
      · refine go_ic0 dX12_sortBy_46 (go_ior dX12_sortBy_47 (go_is3 dX12_sortBy_48 rfl rfl (go_inc4 (k := 1) dX12_sortBy_49 (by decide) rfl rfl (go_goto 16 dX12_sortBy_52 (by decide) ?_))))
        rw [nI_1]
        refine ih (3 - (v + 1)) (by omega) (v + 1) v _ _ rfl (by omega) hRb hWb (fun j hj => ?_)
        rw [b_or, b_0, Bool.or_false, hb j hj]
        by_cases z : j = v
        · subst z; simp; exact h36
        · have : (j < v + 1) = (j < v) := propext (by omega)
          simp [this]
      · refine go_ic1 dX12_sortBy_39 (go_il4 dX12_sortBy_40 (go_ishl dX12_sortBy_42 (go_goto 47 dX12_sortBy_43 (by decide) (go_ior dX12_sortBy_47 (go_is3 dX12_sortBy_48 rfl rfl (go_inc4 (k := 1) dX12_sortBy_49 (by decide) rfl rfl (go_goto 16 dX12_sortBy_52 (by decide) ?_)))))))
        rw [nI_1]
        refine ih (3 - (v + 1)) (by omega) (v + 1) v _ _ rfl (by omega) hRb hWb (fun j hj => ?_)
        rw [b_or, b_one (by omega) hj, hb j hj]
        by_cases z : j = v
        · subst z; simp; exact h36
        · have : (j < v + 1) = (j < v) := propext (by omega)
          simp [this, z]

set_option maxRecDepth 100000 in
set_option maxHeartbeats 400000 in
theorem mSortBy {r : RS} {μ : gm_M} (hA : MA r μ) {k : Nat} (hk : k < qnum (qof r)) : Sat yX12_sortBy cX12_sortBy 5 (some .int) 7 [(.ref 52), (.int (nI k))] μ (fun r' μ' => r' = some (.int (mkB (qsortB (qof r) k) 32)) ∧ RDp r μ μ') := by
  have h8 := (rok_q hA.1).1
  refine Sat.of (L := [some (.ref 52), some (.int (nI k)), none, none, none]) (by decide) (fun _ => rfl) (fun _ => rfl) ?_
  refine go_al0 dX12_sortBy_0 ?_
  refine go_V0 mcX12_asTold mvX12_asTold kX12_190 rfl dX12_sortBy_1 rfl rfl (mAsTold hA) ?_
  rintro _ m1 ⟨rfl, hR1, hW1⟩
  refine go_al0 dX12_sortBy_4 (go_getR (j := 55) fX12_16 rfl rfl dX12_sortBy_5 (go_il1 dX12_sortBy_8 (go_iald rfl (vp_in_nI (show k < 9 by omega) (by decide)) dX12_sortBy_9 ?_)))
  rw [nI_clamp (show k < 2 ^ 31 by omega), (hR1.1.2.2.1 k hk).1]
  refine go_is2 dX12_sortBy_10 rfl rfl (go_ic0 dX12_sortBy_11 (go_is3 dX12_sortBy_12 rfl rfl (go_ic0 dX12_sortBy_13 (go_is4 dX12_sortBy_14 rfl rfl ?_))))
  rw [← nI_0]
  exact mSB_loop hR1.1.1 hk _ 0 (qso (qof r) k) _ _ rfl (by decide) (by rw [qsrt_self]; exact hR1) hW1 (fun j hj => by rw [nI_0, b_0]; simp)

set_option maxRecDepth 100000 in
set_option maxHeartbeats 400000 in
theorem m_was {r : RS} {μ : gm_M} (hA : MA r μ) (w x : Int32) : Sat yX12_was cX12_was 3 (some .int) 8 [(.ref 52), (.int w), (.int x)] μ (fun r' μ' => r' = some (.int (sWas (qof r) w x)) ∧ FX lQ fQ μ μ') := by
  refine Sat.of (L := [some (.ref 52), some (.int w), some (.int x)]) (by decide) (fun _ => rfl) (fun _ => rfl) ?_
  refine go_al0 dX12_was_0 (go_il1 dX12_was_1 ?_)
  refine go_V1 mcX12_isWheel mvX12_isWheel kX12_142 rfl dX12_was_2 rfl rfl (mIsWheel hA _) ?_
  rintro _ m2 ⟨rfl, hR2⟩
  refine go_ifeqB 37 dX12_was_5 (by decide) (fun h5 => ?_) (fun h5 => ?_)
  · refine go_bipush (v := -2) dX12_was_37 (by decide) ?_
    refine go_iret dX12_was_39 ?_
    exact ⟨by rw [sWas_g, if_neg (gf h5)], hR2.2.2⟩
  · refine go_il2 dX12_was_8 (go_ic0 dX12_was_9 (go_ic1 dX12_was_10 (go_S3r mcX12_in mvX12_in kX12_104 dX12_was_11 rfl rfl (sX12_in _ _ _ _) ?_)))
    refine go_ifeqB 37 dX12_was_14 (by decide) (fun h14 => ?_) (fun h14 => ?_)
    · refine go_bipush (v := -2) dX12_was_37 (by decide) ?_
      refine go_iret dX12_was_39 ?_
      exact ⟨by rw [sWas_g, if_pos h5, if_neg (gf h14)], hR2.2.2⟩
    · obtain ⟨k, hk, rfl⟩ := inW_of (rok_q hA.1) h5
      refine go_il2 dX12_was_17 ?_
      refine go_ifne 29 dX12_was_18 (by decide) (fun h18 => ?_) (fun h18 => ?_)
      · refine go_al0 dX12_was_29 (go_il1 dX12_was_30 ?_)
        refine go_V1 mcX12_sortBy mvX12_sortBy kX12_249 rfl dX12_was_31 rfl rfl (mSortBy (hR2.ma hA) hk) ?_
        rintro _ m31 ⟨rfl, hR31⟩
        refine go_goto 39 dX12_was_34 (by decide) ?_
        refine go_iret dX12_was_39 ?_
        exact ⟨by rw [sWas_g, if_pos h5, if_pos h14, if_neg h18, wN_nI (by have := hR2.1.1.1; omega)], (hR2.tr hR31).2.2⟩
      · refine go_al0 dX12_was_21 (go_il1 dX12_was_22 ?_)
        refine go_V1 mcX12_fromBy mvX12_fromBy kX12_246 rfl dX12_was_23 rfl rfl (mFromBy (hR2.ma hA) hk) ?_
        rintro _ m23 ⟨rfl, hR23, hH23⟩
        refine go_goto 39 dX12_was_26 (by decide) ?_
        refine go_iret dX12_was_39 ?_
        exact ⟨by rw [sWas_g, if_pos h5, if_pos h14, if_pos h18, wN_nI (by have := hR2.1.1.1; omega)], (hR2.tr hR23).2.2⟩

theorem hfr_eq {q : QS} (hq : qok q) {k : Nat} (hk : k < qnum q) (a b n : Nat) : hfr q k a n = hfr q k b n ↔ qkd q k a n = qkd q k b n := by
  have lt : ∀ v m, tm (trf (trof q 9 k) v) n = some m → qsn q k m < 8 := fun v m hm => (hq.2.1 k hk).2.2.2.2 m (tm_lt hm)
  unfold hfr qkd
  cases ha : tm (trf (trof q 9 k) a) n with
  | none =>
    cases hb : tm (trf (trof q 9 k) b) n with
    | none => exact ⟨fun _ => rfl, fun _ => rfl⟩
    | some y =>
      have := lt b y hb
      refine ⟨fun z => absurd z.symm (nI_ne_m1 (by show qsn q k y < _; omega)), fun z => ?_⟩
      have z : 0 = qsn q k y + 1 := z
      omega
  | some x =>
    have h1 := lt a x ha
    cases hb : tm (trf (trof q 9 k) b) n with
    | none =>
      refine ⟨fun z => absurd z (nI_ne_m1 (by show qsn q k x < _; omega)), fun z => ?_⟩
      have z : qsn q k x + 1 = 0 := z
      omega
    | some y =>
      have h2 := lt b y hb
      show nI (qsn q k x) = nI (qsn q k y) ↔ qsn q k x + 1 = qsn q k y + 1
      rw [nI_eq (by omega) (by omega)]
      omega
/-- how many of the first j nights are alike with a -/
def akc (q : QS) (k : Nat) (S : Nat → Bool) (n a j : Nat) : Nat := if S a = true then qal q k S n (qkd q k a n) j else 0
theorem akc_le (q : QS) (k : Nat) (S : Nat → Bool) (n a j : Nat) : akc q k S n a j ≤ j := by
  unfold akc; split
  · exact qal_le _ _ _ _ _ _
  · exact Nat.zero_le _
theorem akc_s {q : QS} {k : Nat} {S : Nat → Bool} {n a j : Nat} : akc q k S n a (j + 1) = akc q k S n a j + (if S a = true ∧ S j = true ∧ qkd q k a n = qkd q k j n then 1 else 0) := by
  unfold akc
  by_cases z : S a = true
  · rw [if_pos z, if_pos z, qal]
    by_cases y : S j = true ∧ qkd q k j n = qkd q k a n
    · rw [if_pos y, if_pos ⟨z, y.1, y.2.symm⟩]
    · rw [if_neg y, if_neg (fun h => y ⟨h.2.1, h.2.2.symm⟩)]
  · rw [if_neg z, if_neg z, if_neg (fun h => z h.1)]
theorem maxN_ge {f : Nat → Nat} : ∀ {k i : Nat}, i < k → f i ≤ maxN f k := by
  intro k
  induction k with
  | zero => intro i hi; exact absurd hi (Nat.not_lt_zero i)
  | succ k ih =>
    intro i hi
    rw [maxN]
    by_cases z : i = k
    · subst z; split <;> omega
    · have := ih (show i < k by omega)
      split <;> omega
theorem maxN_lub {f : Nat → Nat} {B : Nat} : ∀ {k : Nat}, (∀ i, i < k → f i ≤ B) → maxN f k ≤ B := by
  intro k
  induction k with
  | zero => intro _; exact Nat.zero_le _
  | succ k ih =>
    intro h
    rw [maxN]
    split
    · exact h k (by omega)
    · exact ih (fun i hi => h i (by omega))
theorem qal_wit {q : QS} {k : Nat} {S : Nat → Bool} {n x : Nat} : ∀ {j : Nat}, 0 < qal q k S n x j → ∃ b, b < j ∧ S b = true ∧ qkd q k b n = x := by
  intro j
  induction j with
  | zero => intro h; exact absurd h (Nat.lt_irrefl 0)
  | succ j ih =>
    intro h
    rw [qal] at h
    by_cases y : S j = true ∧ qkd q k j n = x
    · exact ⟨j, by omega, y⟩
    · rw [if_neg y] at h
      obtain ⟨b, h1, h2⟩ := ih (by omega)
      exact ⟨b, by omega, h2⟩
theorem ask_most {q : QS} (hq : qok q) {k : Nat} (hk : k < qnum q) (S : Nat → Bool) (n : Nat) : maxN (fun a => akc q k S n a 20) 20 = qmost q k S n := by
  apply Nat.le_antisymm
  · refine maxN_lub (fun a ha => ?_)
    show akc q k S n a 20 ≤ _
    unfold akc qmost
    split
    · exact maxN_ge (f := fun x => qal q k S n x 20) (qkd_lt hq hk a n)
    · exact Nat.zero_le _
  · unfold qmost
    refine maxN_lub (fun x hx => ?_)
    show qal q k S n x 20 ≤ _
    rcases Nat.eq_zero_or_pos (qal q k S n x 20) with z | z
    · rw [z]; exact Nat.zero_le _
    · obtain ⟨b, h1, h2, h3⟩ := qal_wit z
      have := maxN_ge (f := fun a => akc q k S n a 20) h1
      have e : akc q k S n b 20 = qal q k S n x 20 := by unfold akc; rw [if_pos h2, h3]
      exact e ▸ this
def akB (f : Nat → Nat) : Nat → Int32 × Nat
  | 0 => (-1, 0)
  | n + 1 => (nI (aminF f n).1, (aminF f n).2)
theorem akB_s (f : Nat → Nat) (n : Nat) (hn : n < 2 ^ 20) : akB f (n + 1) = if (akB f n).1 = -1 ∨ f n < (akB f n).2 then (nI n, f n) else akB f n := by
  cases n with
  | zero => rw [if_pos (Or.inl (show (akB f 0).1 = -1 from rfl))]; rfl
  | succ n =>
    have hle := (aminF_eq f n).2
    have h1 : ¬ (akB f (n + 1)).1 = -1 := nI_ne_m1 (by show (aminF f n).1 < _; omega)
    show (nI (aminF f (n + 1)).1, (aminF f (n + 1)).2) = _
    rw [aminF]
    by_cases z : f (n + 1) < (aminF f n).2
    · rw [if_pos z, if_pos (Or.inr (show f (n + 1) < (akB f (n + 1)).2 from z))]
    · rw [if_neg z, if_neg (fun y : (akB f (n + 1)).1 = -1 ∨ f (n + 1) < (akB f (n + 1)).2 => y.elim h1 z)]
      rfl
set_option maxRecDepth 100000 in
set_option maxHeartbeats 400000 in
theorem mAk_in {q : QS} {k n a : Nat} {bb best least most : Int32} {m : gm_M} {Post : Option Value → gm_M → Prop} (hq : qok q) (hk : k < qnum q) (hn : n < 30) (ha : a < 20) (hA : HF q k 20 m) (K : ∀ d9 : Option Value, Go yX12_askOf cX12_askOf 10 (some .int) 8 110 [some (.ref 52), some (.int (nI k)), some (.int bb), some (.int best), some (.int least), some (.int (nI n)), some (.int most), some (.int (nI a)), some (.int (nI (akc q k (bt bb) n a 20))), d9] [] m Post) : ∀ (k_ j : Nat), 20 - j = k_ → j ≤ 20 → Go yX12_askOf cX12_askOf 10 (some .int) 8 40 [some (.ref 52), some (.int (nI k)), some (.int bb), some (.int best), some (.int least), some (.int (nI n)), some (.int most), some (.int (nI a)), some (.int (nI (akc q k (bt bb) n a j))), some (.int (nI j))] [] m (Post) := by
  intro k_
  induction k_ using Nat.strongRecOn with
  | ind k_ ih =>
    intro j  hk_ hj 
    refine go_il9 dX12_askOf_40 (go_bipush (v := 20) dX12_askOf_42 (by decide) ?_)
    refine go_cge 110 dX12_askOf_44 (by decide) (fun h44 => ?_) (fun h44 => ?_)
    · have he : j = 20 := Nat.le_antisymm hj ((gm_bdN (by decide) (by decide) (by omega)).mp h44)
      subst he
      exact K _
    · have hlt : j < 20 := Nat.not_le.mp (fun zz => h44 ((gm_bdN (by decide) (by decide) (by omega)).mpr zz))
      refine go_il8 dX12_askOf_47 (go_il2 dX12_askOf_49 (go_il7 dX12_askOf_50 (go_S2r mcX12_isIn mvX12_isIn kX12_175 dX12_askOf_52 rfl rfl (aIsIn (by omega) _) ?_)))
      refine go_ifeqB 100 dX12_askOf_55 (by decide) (fun h55 => ?_) (fun h55 => ?_)
      · refine go_ic0 dX12_askOf_100 (go_iadd dX12_askOf_101 (go_is8 dX12_askOf_102 rfl rfl (go_inc9 (k := 1) dX12_askOf_104 (by decide) rfl rfl (go_goto 40 dX12_askOf_107 (by decide) ?_))))
        have e9 : akc q k (bt bb) n a j = akc q k (bt bb) n a (j + 1) := by rw [akc_s, if_neg (fun h => gf h55 h.1)]; rfl
        rw [Int32.add_zero, nI_1, e9]
        exact ih (20 - (j + 1)) (by omega) (j + 1) rfl (by omega)
      · refine go_il2 dX12_askOf_58 (go_il9 dX12_askOf_59 (go_S2r mcX12_isIn mvX12_isIn kX12_175 dX12_askOf_61 rfl rfl (aIsIn (by omega) _) ?_))
        refine go_ifeqB 100 dX12_askOf_64 (by decide) (fun h64 => ?_) (fun h64 => ?_)
        · refine go_ic0 dX12_askOf_100 (go_iadd dX12_askOf_101 (go_is8 dX12_askOf_102 rfl rfl (go_inc9 (k := 1) dX12_askOf_104 (by decide) rfl rfl (go_goto 40 dX12_askOf_107 (by decide) ?_))))
          have e9 : akc q k (bt bb) n a j = akc q k (bt bb) n a (j + 1) := by rw [akc_s, if_neg (fun h => gf h64 h.2.1)]; rfl
          rw [Int32.add_zero, nI_1, e9]
          exact ih (20 - (j + 1)) (by omega) (j + 1) rfl (by omega)
        · refine go_al0 dX12_askOf_67 (go_getR (j := 75) fX12_76 rfl rfl dX12_askOf_68 (go_bipush (v := 30) dX12_askOf_71 (by decide) (go_il7 dX12_askOf_73 (go_imul dX12_askOf_75 (go_il5 dX12_askOf_76 (go_iadd dX12_askOf_78 ?_))))))
          rw [show (30 : Int32) = nI 30 from rfl, pk_mul, nI_add]
          refine go_iald rfl (vp_in_nI (by omega) (by decide)) dX12_askOf_79 ?_
          rw [nI_clamp (by omega), hA a ha n hn]
          refine go_al0 dX12_askOf_80 (go_getR (j := 75) fX12_76 rfl rfl dX12_askOf_81 (go_bipush (v := 30) dX12_askOf_84 (by decide) (go_il9 dX12_askOf_86 (go_imul dX12_askOf_88 (go_il5 dX12_askOf_89 (go_iadd dX12_askOf_91 ?_))))))
          rw [show (30 : Int32) = nI 30 from rfl, pk_mul, nI_add]
          refine go_iald rfl (vp_in_nI (by omega) (by decide)) dX12_askOf_92 ?_
          rw [nI_clamp (by omega), hA j hlt n hn]
          refine go_cne 100 dX12_askOf_93 (by decide) (fun h93 => ?_) (fun h93 => ?_)
          · refine go_ic0 dX12_askOf_100 (go_iadd dX12_askOf_101 (go_is8 dX12_askOf_102 rfl rfl (go_inc9 (k := 1) dX12_askOf_104 (by decide) rfl rfl (go_goto 40 dX12_askOf_107 (by decide) ?_))))
            have e9 : akc q k (bt bb) n a j = akc q k (bt bb) n a (j + 1) := by rw [akc_s, if_neg (fun h => h93 ((hfr_eq hq hk a j n).mpr h.2.2))]; rfl
            rw [Int32.add_zero, nI_1, e9]
            exact ih (20 - (j + 1)) (by omega) (j + 1) rfl (by omega)
          · refine go_ic1 dX12_askOf_96 (go_goto 101 dX12_askOf_97 (by decide) (go_iadd dX12_askOf_101 (go_is8 dX12_askOf_102 rfl rfl (go_inc9 (k := 1) dX12_askOf_104 (by decide) rfl rfl (go_goto 40 dX12_askOf_107 (by decide) ?_)))))
            have e9 : akc q k (bt bb) n a j + 1 = akc q k (bt bb) n a (j + 1) := by rw [akc_s, if_pos ⟨h55, h64, (hfr_eq hq hk a j n).mp h93⟩]
            rw [nI_1, nI_1, e9]
            exact ih (20 - (j + 1)) (by omega) (j + 1) rfl (by omega)

set_option maxRecDepth 100000 in
set_option maxHeartbeats 400000 in
theorem mAk_st {q : QS} {k n a : Nat} {bb best least : Int32} {m : gm_M} {Post : Option Value → gm_M → Prop} {d9 : Option Value} (K : ∀ d8 d9 : Option Value, Go yX12_askOf cX12_askOf 10 (some .int) 8 27 [some (.ref 52), some (.int (nI k)), some (.int bb), some (.int best), some (.int least), some (.int (nI n)), some (.int (nI (maxN (fun a => akc q k (bt bb) n a 20) (a + 1)))), some (.int (nI (a + 1))), d8, d9] [] m Post) : Go yX12_askOf cX12_askOf 10 (some .int) 8 110 [some (.ref 52), some (.int (nI k)), some (.int bb), some (.int best), some (.int least), some (.int (nI n)), some (.int (nI (maxN (fun a => akc q k (bt bb) n a 20) a))), some (.int (nI a)), some (.int (nI (akc q k (bt bb) n a 20))), d9] [] m Post := by
  refine go_il8 dX12_askOf_110 (go_il6 dX12_askOf_112 ?_)
  refine go_cle 122 dX12_askOf_114 (by decide) (fun h114 => ?_) (fun h114 => ?_)
  · refine go_il6 dX12_askOf_122 (go_is6 dX12_askOf_124 rfl rfl (go_inc7 (k := 1) dX12_askOf_126 (by decide) rfl rfl (go_goto 27 dX12_askOf_129 (by decide) ?_)))
    have h7 := akc_le q k (bt bb) n a 20
    have h6 : maxN (fun a => akc q k (bt bb) n a 20) a ≤ 20 := maxN_lub (fun i _ => akc_le q k (bt bb) n i 20)
    have e9 : maxN (fun a => akc q k (bt bb) n a 20) (a + 1) = maxN (fun a => akc q k (bt bb) n a 20) a := by rw [maxN, if_neg]; have h5 := h114; rw [nI_leI (by omega) (by omega)] at h5; omega
    have h9 := K (some (.int (nI (akc q k (bt bb) n a 20)))) d9
    rw [e9] at h9
    rw [nI_1]
    exact h9
  · refine go_il8 dX12_askOf_117 (go_goto 124 dX12_askOf_119 (by decide) (go_is6 dX12_askOf_124 rfl rfl (go_inc7 (k := 1) dX12_askOf_126 (by decide) rfl rfl (go_goto 27 dX12_askOf_129 (by decide) ?_))))
    have h7 := akc_le q k (bt bb) n a 20
    have h6 : maxN (fun a => akc q k (bt bb) n a 20) a ≤ 20 := maxN_lub (fun i _ => akc_le q k (bt bb) n i 20)
    have e9 : maxN (fun a => akc q k (bt bb) n a 20) (a + 1) = akc q k (bt bb) n a 20 := by rw [maxN, if_pos]; have h5 := h114; rw [nI_leI (by omega) (by omega)] at h5; omega
    have h9 := K (some (.int (nI (akc q k (bt bb) n a 20)))) d9
    rw [e9] at h9
    rw [nI_1]
    exact h9
set_option maxRecDepth 100000 in
set_option maxHeartbeats 400000 in
theorem mAk_mid {q : QS} {k n : Nat} {bb best least : Int32} {m : gm_M} {Post : Option Value → gm_M → Prop} (hq : qok q) (hk : k < qnum q) (hn : n < 30) (hA : HF q k 20 m) (K : ∀ d8 d9 : Option Value, Go yX12_askOf cX12_askOf 10 (some .int) 8 132 [some (.ref 52), some (.int (nI k)), some (.int bb), some (.int best), some (.int least), some (.int (nI n)), some (.int (nI (qmost q k (bt bb) n))), some (.int (nI 20)), d8, d9] [] m Post) : ∀ (k_ a : Nat) (d8 : Option Value) (d9 : Option Value), 20 - a = k_ → a ≤ 20 → Go yX12_askOf cX12_askOf 10 (some .int) 8 27 [some (.ref 52), some (.int (nI k)), some (.int bb), some (.int best), some (.int least), some (.int (nI n)), some (.int (nI (maxN (fun a => akc q k (bt bb) n a 20) a))), some (.int (nI a)), d8, d9] [] m (Post) := by
  intro k_
  induction k_ using Nat.strongRecOn with
  | ind k_ ih =>
    intro a d8  d9  hk_ hj 
    refine go_il7 dX12_askOf_27 (go_bipush (v := 20) dX12_askOf_29 (by decide) ?_)
    refine go_cge 132 dX12_askOf_31 (by decide) (fun h31 => ?_) (fun h31 => ?_)
    · have he : a = 20 := Nat.le_antisymm hj ((gm_bdN (by decide) (by decide) (by omega)).mp h31)
      subst he
      have h9 := K d8 d9
      rw [← ask_most hq hk] at h9
      exact h9
    · have hlt : a < 20 := Nat.not_le.mp (fun zz => h31 ((gm_bdN (by decide) (by decide) (by omega)).mpr zz))
      refine go_ic0 dX12_askOf_34 (go_is8 dX12_askOf_35 rfl rfl (go_ic0 dX12_askOf_37 (go_is9 dX12_askOf_38 rfl rfl ?_)))
      have h9 := mAk_in hq hk hn hlt hA (fun d9 => mAk_st (fun d8 d9 => ih (20 - (a + 1)) (by omega) (a + 1) d8 d9 rfl (by omega))) _ 0 rfl (by decide)
      rw [show akc q k (bt bb) n a 0 = 0 from by unfold akc; split <;> rfl, nI_0] at h9
      exact h9

set_option maxRecDepth 100000 in
set_option maxHeartbeats 400000 in
theorem mAk_end {q : QS} {k n : Nat} {bb : Int32} {m : gm_M} {Post : Option Value → gm_M → Prop} {d8 d9 : Option Value} (hn : n < 30) (h2 : (akB (qmost q k (bt bb)) n).2 ≤ 20) (h3 : (qmost q k (bt bb)) n ≤ 20) (K : ∀ d6 d7 d8 d9 : Option Value, Go yX12_askOf cX12_askOf 10 (some .int) 8 14 [some (.ref 52), some (.int (nI k)), some (.int bb), some (.int (akB (qmost q k (bt bb)) (n + 1)).1), some (.int (nI (akB (qmost q k (bt bb)) (n + 1)).2)), some (.int (nI (n + 1))), d6, d7, d8, d9] [] m Post) : Go yX12_askOf cX12_askOf 10 (some .int) 8 132 [some (.ref 52), some (.int (nI k)), some (.int bb), some (.int (akB (qmost q k (bt bb)) n).1), some (.int (nI (akB (qmost q k (bt bb)) n).2)), some (.int (nI n)), some (.int (nI ((qmost q k (bt bb)) n))), some (.int (nI 20)), d8, d9] [] m Post := by
  refine go_il3 dX12_askOf_132 (go_icm1 dX12_askOf_133 ?_)
  refine go_ceq 144 dX12_askOf_134 (by decide) (fun h134 => ?_) (fun h134 => ?_)
  · refine go_ic1 dX12_askOf_144 (go_goto 149 dX12_askOf_145 (by decide) (go_is7 dX12_askOf_149 rfl rfl (go_il7 dX12_askOf_151 ?_)))
    refine go_ifeq 161 dX12_askOf_153 (by decide) (fun h153 => absurd h153 (by decide)) (fun _ => ?_)
    refine go_il5 dX12_askOf_156 (go_goto 162 dX12_askOf_158 (by decide) (go_is3 dX12_askOf_162 rfl rfl (go_il7 dX12_askOf_163 ?_)))
    refine go_ifeq 173 dX12_askOf_165 (by decide) (fun h165 => absurd h165 (by decide)) (fun _ => ?_)
    refine go_il6 dX12_askOf_168 (go_goto 175 dX12_askOf_170 (by decide) (go_is4 dX12_askOf_175 rfl rfl (go_inc5 (k := 1) dX12_askOf_177 (by decide) rfl rfl (go_goto 14 dX12_askOf_180 (by decide) ?_))))
    have h7 := akB_s (qmost q k (bt bb)) n (by omega)
    rw [if_pos (Or.inl h134)] at h7
    have h9 := K (some (.int (nI (qmost q k (bt bb) n)))) (some (.int 1)) d8 d9
    rw [h7] at h9
    rw [nI_1]
    exact h9
  · refine go_il6 dX12_askOf_137 (go_il4 dX12_askOf_139 ?_)
    refine go_cge 148 dX12_askOf_141 (by decide) (fun h141 => ?_) (fun h141 => ?_)
    · refine go_ic0 dX12_askOf_148 (go_is7 dX12_askOf_149 rfl rfl (go_il7 dX12_askOf_151 ?_))
      refine go_ifeq 161 dX12_askOf_153 (by decide) (fun _ => ?_) (fun h153 => absurd h153 (by decide))
      refine go_il3 dX12_askOf_161 (go_is3 dX12_askOf_162 rfl rfl (go_il7 dX12_askOf_163 ?_))
      refine go_ifeq 173 dX12_askOf_165 (by decide) (fun _ => ?_) (fun h165 => absurd h165 (by decide))
      refine go_il4 dX12_askOf_173 (go_is4 dX12_askOf_175 rfl rfl (go_inc5 (k := 1) dX12_askOf_177 (by decide) rfl rfl (go_goto 14 dX12_askOf_180 (by decide) ?_)))
      have h7 := akB_s (qmost q k (bt bb)) n (by omega)
      rw [if_neg (fun z => z.elim h134 (fun y => by have h5 := h141; rw [nI_leI (by omega) (by omega)] at h5; omega))] at h7
      have h9 := K (some (.int (nI (qmost q k (bt bb) n)))) (some (.int 0)) d8 d9
      rw [h7] at h9
      rw [nI_1]
      exact h9
    · refine go_ic1 dX12_askOf_144 (go_goto 149 dX12_askOf_145 (by decide) (go_is7 dX12_askOf_149 rfl rfl (go_il7 dX12_askOf_151 ?_)))
      refine go_ifeq 161 dX12_askOf_153 (by decide) (fun h153 => absurd h153 (by decide)) (fun _ => ?_)
      refine go_il5 dX12_askOf_156 (go_goto 162 dX12_askOf_158 (by decide) (go_is3 dX12_askOf_162 rfl rfl (go_il7 dX12_askOf_163 ?_)))
      refine go_ifeq 173 dX12_askOf_165 (by decide) (fun h165 => absurd h165 (by decide)) (fun _ => ?_)
      refine go_il6 dX12_askOf_168 (go_goto 175 dX12_askOf_170 (by decide) (go_is4 dX12_askOf_175 rfl rfl (go_inc5 (k := 1) dX12_askOf_177 (by decide) rfl rfl (go_goto 14 dX12_askOf_180 (by decide) ?_))))
      have h7 := akB_s (qmost q k (bt bb)) n (by omega)
      rw [if_pos (Or.inr (by have h5 := h141; rw [nI_leI (by omega) (by omega)] at h5; omega))] at h7
      have h9 := K (some (.int (nI (qmost q k (bt bb) n)))) (some (.int 1)) d8 d9
      rw [h7] at h9
      rw [nI_1]
      exact h9
set_option maxRecDepth 100000 in
set_option maxHeartbeats 400000 in
theorem mAk_loop {q : QS} {k : Nat} {bb : Int32} {m : gm_M} (hq : qok q) (hk : k < qnum q) (hA : HF q k 20 m) (hM : ∀ n, qmost q k (bt bb) n ≤ 20) (hB : ∀ n, (akB (qmost q k (bt bb)) n).2 ≤ 20) : ∀ (k_ n : Nat) (d6 : Option Value) (d7 : Option Value) (d8 : Option Value) (d9 : Option Value), 30 - n = k_ → n ≤ 30 → Go yX12_askOf cX12_askOf 10 (some .int) 8 14 [some (.ref 52), some (.int (nI k)), some (.int bb), some (.int (akB (qmost q k (bt bb)) n).1), some (.int (nI (akB (qmost q k (bt bb)) n).2)), some (.int (nI n)), d6, d7, d8, d9] [] m (fun r' μ' => r' = some (.int (akB (qmost q k (bt bb)) 30).1) ∧ μ' = m) := by
  intro k_
  induction k_ using Nat.strongRecOn with
  | ind k_ ih =>
    intro n d6  d7  d8  d9  hk_ hj 
    refine go_il5 dX12_askOf_14 (go_bipush (v := 30) dX12_askOf_16 (by decide) ?_)
    refine go_cge 183 dX12_askOf_18 (by decide) (fun h18 => ?_) (fun h18 => ?_)
    · have he : n = 30 := Nat.le_antisymm hj ((gm_bdN (by decide) (by decide) (by omega)).mp h18)
      refine go_il3 dX12_askOf_183 ?_
      refine go_iret dX12_askOf_184 ?_
      subst he
      exact ⟨rfl, rfl⟩
    · have hlt : n < 30 := Nat.not_le.mp (fun zz => h18 ((gm_bdN (by decide) (by decide) (by omega)).mpr zz))
      refine go_ic0 dX12_askOf_21 (go_is6 dX12_askOf_22 rfl rfl (go_ic0 dX12_askOf_24 (go_is7 dX12_askOf_25 rfl rfl ?_)))
      have h9 := mAk_mid hq hk hlt hA (fun d8 d9 => mAk_end hlt (hB n) (hM n) (fun d6 d7 d8 d9 => ih (30 - (n + 1)) (by omega) (n + 1) d6 d7 d8 d9 rfl (by omega))) _ 0 d8 d9 rfl (by decide)
      rw [show maxN (fun a => akc q k (bt bb) n a 20) 0 = 0 from rfl, nI_0] at h9
      exact h9

set_option maxRecDepth 100000 in
set_option maxHeartbeats 400000 in
theorem mAskOf {r : RS} {μ : gm_M} (hA : MA r μ) {k : Nat} (hk : k < qnum (qof r)) : Sat yX12_askOf cX12_askOf 10 (some .int) 8 [(.ref 52), (.int (nI k))] μ (fun r' μ' => r' = some (.int (nI (aminF (qmost (qof r) k (bt (mkB (qfromB (qof r) k) 32))) 29).1)) ∧ RDp r μ μ') := by
  refine Sat.of (L := [some (.ref 52), some (.int (nI k)), none, none, none, none, none, none, none, none]) (by decide) (fun _ => rfl) (fun _ => rfl) ?_
  refine go_al0 dX12_askOf_0 (go_il1 dX12_askOf_1 ?_)
  refine go_V1 mcX12_fromBy mvX12_fromBy kX12_246 rfl dX12_askOf_2 rfl rfl (mFromBy hA hk) ?_
  rintro _ m2 ⟨rfl, hR2, hH2⟩
  refine go_is2 dX12_askOf_5 rfl rfl (go_icm1 dX12_askOf_6 (go_is3 dX12_askOf_7 rfl rfl (go_ic0 dX12_askOf_8 (go_is4 dX12_askOf_9 rfl rfl (go_ic0 dX12_askOf_11 (go_is5 dX12_askOf_12 rfl rfl ?_))))))
  have hM : ∀ n, qmost (qof r) k (bt (mkB (qfromB (qof r) k) 32)) n ≤ 20 := fun n => maxN_lub (fun x _ => qal_le _ _ _ _ _ _)
  rw [← nI_0]
  refine Go.post ?_ (mAk_loop hR2.1.1 hk hH2 hM (fun n => ?_) _ 0 _ _ _ _ rfl (by decide))
  · rintro r' μ' ⟨e1, e2⟩
    subst e2
    exact ⟨e1, hR2⟩
  · cases n with
    | zero => exact Nat.zero_le _
    | succ n => show (aminF _ n).2 ≤ 20; rw [(aminF_eq _ n).1]; exact hM _

set_option maxRecDepth 100000 in
set_option maxHeartbeats 400000 in
theorem m_ask {r : RS} {μ : gm_M} (hA : MA r μ) (w : Int32) : Sat yX12_ask cX12_ask 2 (some .int) 9 [(.ref 52), (.int w)] μ (fun r' μ' => r' = some (.int (sAsk (qof r) w)) ∧ FX lQ fQ μ μ') := by
  refine Sat.of (L := [some (.ref 52), some (.int w)]) (by decide) (fun _ => rfl) (fun _ => rfl) ?_
  refine go_al0 dX12_ask_0 (go_il1 dX12_ask_1 ?_)
  refine go_V1 mcX12_isWheel mvX12_isWheel kX12_142 rfl dX12_ask_2 rfl rfl (mIsWheel hA _) ?_
  rintro _ m2 ⟨rfl, hR2⟩
  refine go_ifeqB 16 dX12_ask_5 (by decide) (fun h5 => ?_) (fun h5 => ?_)
  · refine go_bipush (v := -2) dX12_ask_16 (by decide) ?_
    refine go_iret dX12_ask_18 ?_
    exact ⟨by rw [sAsk, if_neg (gf h5)], hR2.2.2⟩
  · obtain ⟨k, hk, rfl⟩ := inW_of (rok_q hA.1) h5
    refine go_al0 dX12_ask_8 (go_il1 dX12_ask_9 ?_)
    refine go_V1 mcX12_askOf mvX12_askOf kX12_252 rfl dX12_ask_10 rfl rfl (mAskOf (hR2.ma hA) hk) ?_
    rintro _ m10 ⟨rfl, hR10⟩
    refine go_goto 18 dX12_ask_13 (by decide) ?_
    refine go_iret dX12_ask_18 ?_
    exact ⟨by rw [sAsk, if_pos h5, wN_nI (by have := hR2.1.1.1; omega)], (hR2.tr hR10).2.2⟩

