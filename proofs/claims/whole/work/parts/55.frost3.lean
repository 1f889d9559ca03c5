/-! THE MODEL: frost -/
theorem lN_le0 {n : Nat} (h : n < 2 ^ 63) : lg_cmp (lN n) 0 ≤ 0 ↔ n = 0 := by
  constructor
  · intro z
    apply Classical.byContradiction
    intro h0
    have h1 : lN n > 0 := by
      show (0 : Int64) < lN n
      rw [show (0 : Int64) = lN 0 from rfl, pk_lLT (by decide) h]; omega
    unfold lg_cmp at z
    rw [if_pos h1] at z
    exact absurd z (by decide)
  · intro z; rw [z]; decide
theorem pwN_le {c : Nat} (hc : c ≤ 16) (s : Nat) : ∀ n, pwN c s n ≤ 16 ^ n := by
  intro n
  induction n with
  | zero => exact Nat.le_refl _
  | succ n ih =>
    rw [pwN, Nat.pow_succ]
    refine Nat.mul_le_mul ih ?_
    split <;> omega
theorem p16_le {n : Nat} (h : n ≤ 10) : 16 ^ n ≤ 2 ^ 40 := by
  have : 16 ^ n ≤ 16 ^ 10 := Nat.pow_le_pow_right (by decide) h
  exact Nat.le_trans this (by decide)
abbrev frF (t : TR) (c last x : Nat) : Nat → Nat := fun s => pwN c s (last + 1) * b2 (tm (trwa t (wfr (twa t) 0 (last + 1) s)) x).isSome
theorem frS_le {t : TR} {c last x : Nat} (hc : c ≤ 16) : frS t c last x ≤ 16 ^ (last + 1) := by
  rw [← pw_sum hc (last + 1)]
  unfold frS
  refine sumN_le (fun a => ?_) _
  have : b2 (tm (trwa t (wfr (twa t) 0 (last + 1) a)) x).isSome ≤ 1 := by unfold b2; split <;> omega
  calc _ ≤ pwN c a (last + 1) * 1 := Nat.mul_le_mul_left _ this
    _ = _ := Nat.mul_one _
def frA (t : TR) (c last x : Nat) (w : Int32) : Int64 := if w = 0 then lN (frostN t c last x).1 else lN (frostN t c last x).2
theorem sFrost_g (q : QS) (c l w n x : Int32) : sFrost q c l w n x = if gin c 0 16 = true then (if gin l 0 9 = true then (if inW q w = true then (if gin n 0 29 = true then (if gin x 0 1 = true then frA (trof q 9 (wN w)) (wN c) (wN l) (wN n) x else -9223372036854775806) else -9223372036854775806) else -9223372036854775806) else -9223372036854775806) else -9223372036854775806 := by
  unfold sFrost frA
  rw [ite_gin, gin_night, ite_gin2, ite_gin2]
set_option maxRecDepth 100000 in
set_option maxHeartbeats 400000 in
theorem mLow_loop {A D : Nat} {w : Int32} {μ : gm_M} (hA : A < 2 ^ 63) (hD : D < 2 ^ 63) (h0 : 0 < D) : ∀ (k_ b a : Nat) (d9 : Option Value), b = k_ → a < 2 ^ 63 → b < 2 ^ 63 → Nat.gcd a b = Nat.gcd A D → Go yX12_lowest cX12_lowest 11 (some .long) 0 6 [some (.long (lN A)), none, some (.long (lN D)), none, some (.int w), some (.long (lN a)), none, some (.long (lN b)), none, d9, none] [] μ (fun r' μ' => r' = some (.long (if w = 0 then lN (A / Nat.gcd A D) else lN (D / Nat.gcd A D))) ∧ μ' = μ) := by
  intro k_
  induction k_ using Nat.strongRecOn with
  | ind k_ ih =>
    intro b a d9 hk_ ha hb hg
    refine go_ll7 dX12_lowest_6 (go_lc0 dX12_lowest_8 (go_lcmp dX12_lowest_9 ?_))
    refine go_ifeq 31 dX12_lowest_10 (by decide) (fun h10 => ?_) (fun h10 => ?_)
    · have hgz : ¬ lN a = 0 := by
        intro z
        rw [(lN_z hb).mp h10, Nat.gcd_zero_right] at hg
        rw [show (0 : Int64) = lN 0 from rfl, pk_lEQ ha (by decide)] at z
        have := Nat.gcd_pos_of_pos_right A h0
        omega
      refine go_il4 dX12_lowest_31 ?_
      refine go_ifne 43 dX12_lowest_33 (by decide) (fun h33 => ?_) (fun h33 => ?_)
      · refine go_ll2 dX12_lowest_43 (go_ll5 dX12_lowest_44 (go_ldiv dX12_lowest_46 hgz ?_))
        refine go_lret dX12_lowest_47 ?_
        have hb0 : b = 0 := (lN_z hb).mp h10
        subst hb0
        rw [Nat.gcd_zero_right] at hg
        subst hg
        have hg1 := Nat.gcd_pos_of_pos_right A h0
        exact ⟨by rw [if_neg h33, pk_lDiv (hD) hg1 ha], rfl⟩
      · refine go_ll0 dX12_lowest_36 (go_ll5 dX12_lowest_37 (go_ldiv dX12_lowest_39 hgz (go_goto 47 dX12_lowest_40 (by decide) ?_)))
        refine go_lret dX12_lowest_47 ?_
        have hb0 : b = 0 := (lN_z hb).mp h10
        subst hb0
        rw [Nat.gcd_zero_right] at hg
        subst hg
        have hg1 := Nat.gcd_pos_of_pos_right A h0
        exact ⟨by rw [if_pos h33, pk_lDiv (hA) hg1 ha], rfl⟩
    · refine go_ll5 dX12_lowest_13 (go_ll7 dX12_lowest_15 (go_lrem dX12_lowest_17 (fun z => h10 (by rw [z]; rfl)) ?_))
      have hbp : 0 < b := Nat.pos_of_ne_zero (fun z => h10 ((lN_z hb).mpr z))
      rw [pk_lRem ha hbp hb]
      refine go_ls9 dX12_lowest_18 rfl rfl (go_ll7 dX12_lowest_20 (go_ls5 dX12_lowest_22 rfl rfl (go_ll9 dX12_lowest_24 (go_ls7 dX12_lowest_26 rfl rfl (go_goto 6 dX12_lowest_28 (by decide) ?_)))))
      have hm := Nat.mod_lt a hbp
      exact ih (a % b) (hk_ ▸ hm) (a % b) b _ rfl hb (Nat.lt_trans hm hb) (by rw [Nat.gcd_comm, ← Nat.gcd_rec, Nat.gcd_comm]; exact hg)
set_option maxRecDepth 100000 in
set_option maxHeartbeats 400000 in
theorem mLowest {A D : Nat} (w : Int32) (μ : gm_M) (hA : A < 2 ^ 63) (hD : D < 2 ^ 63) (h0 : 0 < D) : Ret yX12_lowest cX12_lowest 11 (some .long) 0 [(.long (lN A)), (.long (lN D)), (.int w)] μ (some (.long (if w = 0 then lN (A / Nat.gcd A D) else lN (D / Nat.gcd A D)))) μ := by
  refine Sat.of (L := [some (.long (lN A)), none, some (.long (lN D)), none, some (.int w), none, none, none, none, none, none]) (by decide) (fun _ => rfl) (fun _ => rfl) ?_
  refine go_ll0 dX12_lowest_0 (go_ls5 dX12_lowest_1 rfl rfl (go_ll2 dX12_lowest_3 (go_ls7 dX12_lowest_4 rfl rfl ?_)))
  exact mLow_loop hA hD h0 _ D A _ rfl hA hD rfl

set_option maxRecDepth 100000 in
set_option maxHeartbeats 400000 in
theorem mFr_in {r : RS} {μ mr : gm_M} {k c last x s : Nat} {w : Int32} {Post : Option Value → gm_M → Prop} (hc : c ≤ 16) (hl : last ≤ 9) (hs : s < 2 ^ (last + 1)) (hR : RDp r μ mr) (K : ∀ (m : gm_M), FX [64] [] mr m → (∀ y, y < last + 1 → m.1 64 y = nI ((wfr (qwa (qof r)) 0 (last + 1) s) y)) → (∀ y, last < y → y < 30 → m.1 64 y = nI (qwa (qof r) y)) → Go yX12_frostOf cX12_frostOf 12 (some .long) 7 91 [some (.ref 52), some (.int (nI c)), some (.int (nI last)), some (.int (nI k)), some (.int (nI x)), some (.int w), some (.long (lN (sumN (frF (trof (qof r) 9 k) c last x) s))), none, some (.int (nI s)), some (.long (lN (pwN c s (last + 1)))), none, some (.int (nI (last + 1)))] [] m Post) : ∀ (k_ n : Nat) (m : gm_M), last + 1 - n = k_ → n ≤ last + 1 → (FX [64] [] mr m) → (∀ y, y < n → m.1 64 y = nI ((wfr (qwa (qof r)) 0 (last + 1) s) y)) → (∀ y, last < y → y < 30 → m.1 64 y = nI (qwa (qof r) y)) → Go yX12_frostOf cX12_frostOf 12 (some .long) 7 26 [some (.ref 52), some (.int (nI c)), some (.int (nI last)), some (.int (nI k)), some (.int (nI x)), some (.int w), some (.long (lN (sumN (frF (trof (qof r) 9 k) c last x) s))), none, some (.int (nI s)), some (.long (lN (pwN c s n))), none, some (.int (nI n))] [] m (Post) := by
  intro k_
  induction k_ using Nat.strongRecOn with
  | ind k_ ih =>
    intro n m  hk_ hj hF hA1 hA2
    refine go_il11 dX12_frostOf_26 (go_il2 dX12_frostOf_28 ?_)
    refine go_cgt 91 dX12_frostOf_29 (by decide) (fun h29 => ?_) (fun h29 => ?_)
    · have he : n = last + 1 := Nat.le_antisymm hj ((gm_bdG (show nI last = nI (last + 1 - 1) from rfl) (by omega) (by omega) (by omega)).mp h29)
      subst he
      exact K m hF hA1 hA2
    · have hlt : n < last + 1 := Nat.not_le.mp (fun zz => h29 ((gm_bdG (show nI last = nI (last + 1 - 1) from rfl) (by omega) (by omega) (by omega)).mpr zz))
      refine go_ll9 dX12_frostOf_32 (go_il8 dX12_frostOf_34 (go_il11 dX12_frostOf_36 (go_S2r mcX12_isIn mvX12_isIn kX12_175 dX12_frostOf_38 rfl rfl (aIsIn (by omega) _) ?_)))
      refine go_ifeqB 49 dX12_frostOf_41 (by decide) (fun h41 => ?_) (fun h41 => ?_)
      · refine go_bipush (v := 16) dX12_frostOf_49 (by decide) (go_il1 dX12_frostOf_51 (go_isub dX12_frostOf_52 (go_i2l dX12_frostOf_53 (go_lmul dX12_frostOf_54 (go_ls9 dX12_frostOf_55 rfl rfl (go_al0 dX12_frostOf_57 (go_getR (j := 64) fX12_43 rfl rfl dX12_frostOf_58 (go_il11 dX12_frostOf_61 (go_il8 dX12_frostOf_63 (go_il11 dX12_frostOf_65 (go_S2r mcX12_isIn mvX12_isIn kX12_175 dX12_frostOf_67 rfl rfl (aIsIn (by omega) _) ?_)))))))))))
        refine go_ifeqB 77 dX12_frostOf_70 (by decide) (fun h70 => ?_) (fun h70 => ?_)
        · refine go_al0 dX12_frostOf_77 (go_getR (j := 59) fX12_28 rfl rfl dX12_frostOf_78 (go_il11 dX12_frostOf_81 (go_iald rfl (vp_in_nI (show n < 30 by omega) (by decide)) dX12_frostOf_83 ?_)))
          rw [nI_clamp (show n < 2 ^ 31 by omega), hF.1 59 (by decide) (by decide), hR.1.2.2.2.1 n (by omega)]
          refine go_iast rfl (vp_in_nI (show n < 30 by omega) (by decide)) dX12_frostOf_84 ?_
          rw [nI_clamp (show n < 2 ^ 31 by omega)]
          refine go_inc11 (k := 1) dX12_frostOf_85 (by decide) rfl rfl (go_goto 26 dX12_frostOf_88 (by decide) ?_)
          have htb : s.testBit n = false := by rw [← bt_nI s (by omega)]; exact h41
          have e9 : pwN c s n * (16 - c) = pwN c s (n + 1) := by rw [pwN, if_neg (gf htb)]
          rw [show (16 : Int32) = nI 16 from rfl, pk_sub (by omega), nI_l (by omega), lN_mul, e9, nI_1]
          refine ih (last + 1 - (n + 1)) (by omega) (n + 1) _ rfl (by omega) ?_ (fun y hy => ?_) (fun y h1 h2 => ?_)
          · exact hF.I _ _ (by decide) (by decide)
          · rw [gm_I1, if_pos rfl]
            by_cases z : y = n
            · rw [if_pos z]
              unfold wfr; rw [if_neg (fun h => by rw [Nat.sub_zero, z, htb] at h; cases h.2.2), z]
            · rw [if_neg z]; exact hA1 y (by omega)
          · rw [gm_I1, if_pos rfl, if_neg (by omega)]; exact hA2 y h1 h2
        · refine go_ic0 dX12_frostOf_73 (go_goto 84 dX12_frostOf_74 (by decide) ?_)
          refine go_iast rfl (vp_in_nI (show n < 30 by omega) (by decide)) dX12_frostOf_84 ?_
          rw [nI_clamp (show n < 2 ^ 31 by omega)]
          refine go_inc11 (k := 1) dX12_frostOf_85 (by decide) rfl rfl (go_goto 26 dX12_frostOf_88 (by decide) ?_)
          exact absurd h70 (gf h41)
      · refine go_il1 dX12_frostOf_44 (go_i2l dX12_frostOf_45 (go_goto 54 dX12_frostOf_46 (by decide) (go_lmul dX12_frostOf_54 (go_ls9 dX12_frostOf_55 rfl rfl (go_al0 dX12_frostOf_57 (go_getR (j := 64) fX12_43 rfl rfl dX12_frostOf_58 (go_il11 dX12_frostOf_61 (go_il8 dX12_frostOf_63 (go_il11 dX12_frostOf_65 (go_S2r mcX12_isIn mvX12_isIn kX12_175 dX12_frostOf_67 rfl rfl (aIsIn (by omega) _) ?_))))))))))
        refine go_ifeqB 77 dX12_frostOf_70 (by decide) (fun h70 => ?_) (fun h70 => ?_)
        · refine go_al0 dX12_frostOf_77 (go_getR (j := 59) fX12_28 rfl rfl dX12_frostOf_78 (go_il11 dX12_frostOf_81 (go_iald rfl (vp_in_nI (show n < 30 by omega) (by decide)) dX12_frostOf_83 ?_)))
          rw [nI_clamp (show n < 2 ^ 31 by omega), hF.1 59 (by decide) (by decide), hR.1.2.2.2.1 n (by omega)]
          refine go_iast rfl (vp_in_nI (show n < 30 by omega) (by decide)) dX12_frostOf_84 ?_
          rw [nI_clamp (show n < 2 ^ 31 by omega)]
          refine go_inc11 (k := 1) dX12_frostOf_85 (by decide) rfl rfl (go_goto 26 dX12_frostOf_88 (by decide) ?_)
          exact absurd h41 (gf h70)
        · refine go_ic0 dX12_frostOf_73 (go_goto 84 dX12_frostOf_74 (by decide) ?_)
          refine go_iast rfl (vp_in_nI (show n < 30 by omega) (by decide)) dX12_frostOf_84 ?_
          rw [nI_clamp (show n < 2 ^ 31 by omega)]
          refine go_inc11 (k := 1) dX12_frostOf_85 (by decide) rfl rfl (go_goto 26 dX12_frostOf_88 (by decide) ?_)
          have htb : s.testBit n = true := by rw [← bt_nI s (by omega)]; exact h41
          have e9 : pwN c s n * c = pwN c s (n + 1) := by rw [pwN, if_pos htb]
          rw [nI_l (by omega), lN_mul, e9, nI_1]
          refine ih (last + 1 - (n + 1)) (by omega) (n + 1) _ rfl (by omega) ?_ (fun y hy => ?_) (fun y h1 h2 => ?_)
          · exact hF.I _ _ (by decide) (by decide)
          · rw [gm_I1, if_pos rfl]
            by_cases z : y = n
            · rw [if_pos z]
              show (0 : Int32) = nI ((wfr (qwa (qof r)) 0 (last + 1) s) y)
              unfold wfr; rw [if_pos ⟨Nat.zero_le _, by omega, by rw [Nat.sub_zero, z]; exact htb⟩]; rfl
            · rw [if_neg z]; exact hA1 y (by omega)
          · rw [gm_I1, if_pos rfl, if_neg (by omega)]; exact hA2 y h1 h2

set_option maxRecDepth 100000 in
set_option maxHeartbeats 400000 in
theorem mFr_loop {r : RS} {μ : gm_M} {k c last x : Nat} {w : Int32} (hk : k < qnum (qof r)) (hc : c ≤ 16) (hl : last ≤ 9) (hx : x < 30) : ∀ (k_ s : Nat) (d9 : Option Value) (d11 : Option Value) (m : gm_M), 2 ^ (last + 1) - s = k_ → s ≤ 2 ^ (last + 1) → (RDp r μ m) → (∀ y, last < y → y < 30 → m.1 64 y = nI (qwa (qof r) y)) → Go yX12_frostOf cX12_frostOf 12 (some .long) 7 10 [some (.ref 52), some (.int (nI c)), some (.int (nI last)), some (.int (nI k)), some (.int (nI x)), some (.int w), some (.long (lN (sumN (frF (trof (qof r) 9 k) c last x) s))), none, some (.int (nI s)), d9, none, d11] [] m (fun r' μ' => r' = some (.long (frA (trof (qof r) 9 k) c last x w)) ∧ RDp r μ μ') := by
  have hp16 := p16_le (show last + 1 ≤ 10 by omega)
  have hp2 : 2 ^ (last + 1) ≤ 2 ^ 10 := Nat.pow_le_pow_right (by decide) (by omega)
  have hfs := frS_le (t := (trof (qof r) 9 k)) (last := last) (x := x) hc
  intro k_
  induction k_ using Nat.strongRecOn with
  | ind k_ ih =>
    intro s d9  d11  m  hk_ hj hR h64
    refine go_il8 dX12_frostOf_10 (go_ic1 dX12_frostOf_12 (go_il2 dX12_frostOf_13 (go_ic1 dX12_frostOf_14 (go_iadd dX12_frostOf_15 (go_ishl dX12_frostOf_16 ?_)))))
    refine go_cge 131 dX12_frostOf_17 (by decide) (fun h17 => ?_) (fun h17 => ?_)
    · have he : s = 2 ^ (last + 1) := Nat.le_antisymm hj ((gm_bdN (show (1 : Int32) <<< ((nI last + 1) &&& 31) = nI (2 ^ (last + 1)) from by rw [nI_1]; exact nI_pw _ (by omega)) (by omega) (by omega)).mp h17)
      have htk := trof_ok (wo := 9) hR.1.1 hk
      refine go_ll6 dX12_frostOf_131 (go_lc1 dX12_frostOf_133 (go_ic4 dX12_frostOf_134 (go_il2 dX12_frostOf_135 (go_ic1 dX12_frostOf_136 (go_iadd dX12_frostOf_137 (go_imul dX12_frostOf_138 (go_lshl dX12_frostOf_139 ?_)))))))
      rw [nI_1, show (4 : Int32) = nI 4 from rfl, pk_mul, show (1 : Int64) = lN 1 from rfl, wb_shl 1 (by omega), Nat.one_mul, ← pow16]
      subst he
      rw [show sumN (frF (trof (qof r) 9 k) c last x) (2 ^ (last + 1)) = frS (trof (qof r) 9 k) c last x from rfl]
      refine go_il5 dX12_frostOf_140 (go_S3r mcX12_lowest mvX12_lowest kX12_255 dX12_frostOf_142 rfl rfl (mLowest (A := frS (trof (qof r) 9 k) c last x) (D := 16 ^ (last + 1)) w _ (by omega) (by omega) (Nat.pow_pos (by decide))) ?_)
      refine go_lret dX12_frostOf_145 ?_
      refine ⟨?_, hR⟩
      rw [frA, frost_eq htk hc hl]
    · have hlt : s < 2 ^ (last + 1) := Nat.not_le.mp (fun zz => h17 ((gm_bdN (show (1 : Int32) <<< ((nI last + 1) &&& 31) = nI (2 ^ (last + 1)) from by rw [nI_1]; exact nI_pw _ (by omega)) (by omega) (by omega)).mpr zz))
      have htk := trof_ok (wo := 9) hR.1.1 hk
      refine go_lc1 dX12_frostOf_20 (go_ls9 dX12_frostOf_21 rfl rfl (go_ic0 dX12_frostOf_23 (go_is11 dX12_frostOf_24 rfl rfl ?_)))
      rw [← nI_0]
      refine mFr_in hc hl hlt hR (fun m26 h26F h26a h26b => ?_) _ 0 m rfl (Nat.zero_le _) (FX.rf _) (fun y hy => absurd hy (Nat.not_lt_zero y)) h64
      have hRb : RDp r μ m26 := hR.fl (h26F.wide (by decide) (fun x hx => by cases hx))
      have hWb : WN (wfr (qwa (qof r)) 0 (last + 1) s) m26 := by
        intro y hy
        have hle : (wfr (qwa (qof r)) 0 (last + 1) s) y ≤ 9 := by
          unfold wfr
          split
          · exact Nat.zero_le _
          · exact hR.1.1.2.2.1 y hy
        refine ⟨?_, hle⟩
        rcases Nat.lt_or_ge last y with z | z
        · rw [h26b y z hy]
          unfold wfr
          rw [if_neg (by omega)]
        · exact h26a y (by omega)
      have hpw : pwN c s (last + 1) < 2 ^ 63 := by have := pwN_le hc s (last + 1); omega
      have htok : tok (trwa (trof (qof r) 9 k) (wfr (qwa (qof r)) 0 (last + 1) s)) := by
        obtain ⟨o1, o2, o3, o4, o5, o6, o7, o8, o9⟩ := htk
        exact ⟨o1, o2, o3, o4, o5, o6, o7, o8, fun y hy => (hWb y hy).2⟩
      refine go_ll9 dX12_frostOf_91 (go_lc0 dX12_frostOf_93 (go_lcmp dX12_frostOf_94 ?_))
      refine go_ifle 125 dX12_frostOf_95 (by decide) (fun h95 => ?_) (fun h95 => ?_)
      · refine go_inc8 (k := 1) dX12_frostOf_125 (by decide) rfl rfl (go_goto 10 dX12_frostOf_128 (by decide) ?_)
        have e9 : sumN (frF (trof (qof r) 9 k) c last x) s = sumN (frF (trof (qof r) 9 k) c last x) (s + 1) := by
          rw [show sumN (frF (trof (qof r) 9 k) c last x) (s + 1) = sumN (frF (trof (qof r) 9 k) c last x) s + (frF (trof (qof r) 9 k) c last x) s from rfl]
          have : (frF (trof (qof r) 9 k) c last x) s = 0 := by show pwN c s (last + 1) * _ = 0; rw [(lN_le0 hpw).mp h95, Nat.zero_mul]
          omega
        rw [nI_1, e9]
        exact ih (2 ^ (last + 1) - (s + 1)) (by omega) (s + 1) _ _ m26 rfl (by omega) hRb h26b
      · refine go_al0 dX12_frostOf_98 (go_il3 dX12_frostOf_99 ?_)
        refine go_V1 mcX12_runs mvX12_runs kX12_193 rfl dX12_frostOf_100 rfl rfl (mRuns hRb.1 hk hWb) ?_
        rintro _ m100 ⟨rfl, hF100, hO100⟩
        refine go_ll6 dX12_frostOf_103 (go_al0 dX12_frostOf_105 (go_getR (j := 66) fX12_49 rfl rfl dX12_frostOf_106 (go_il4 dX12_frostOf_109 (go_iald rfl (vp_in_nI hx (by decide)) dX12_frostOf_111 ?_))))
        rw [nI_clamp (show x < 2 ^ 31 by omega), (hO100 x hx).2.1]
        refine go_icm1 dX12_frostOf_112 ?_
        refine go_ceq 121 dX12_frostOf_113 (by decide) (fun h113 => ?_) (fun h113 => ?_)
        · refine go_lc0 dX12_frostOf_121 (go_ladd dX12_frostOf_122 (go_ls6 dX12_frostOf_123 rfl rfl (go_inc8 (k := 1) dX12_frostOf_125 (by decide) rfl rfl (go_goto 10 dX12_frostOf_128 (by decide) ?_))))
          have e9 : sumN (frF (trof (qof r) 9 k) c last x) s = sumN (frF (trof (qof r) 9 k) c last x) (s + 1) := by
            rw [show sumN (frF (trof (qof r) 9 k) c last x) (s + 1) = sumN (frF (trof (qof r) 9 k) c last x) s + (frF (trof (qof r) 9 k) c last x) s from rfl]
            have : (frF (trof (qof r) 9 k) c last x) s = 0 := by show pwN c s (last + 1) * b2 (tm (trwa (trof (qof r) 9 k) (wfr (qwa (qof r)) 0 (last + 1) s)) x).isSome = 0; rw [(heard_none htok).mp h113]; rfl
            omega
          rw [show (0 : Int64) = lN 0 from rfl, lN_add, Nat.add_zero, nI_1, e9]
          exact ih (2 ^ (last + 1) - (s + 1)) (by omega) (s + 1) _ _ m100 rfl (by omega) (hRb.fl hF100.rl) (fun y h1 h2 => by rw [hF100.1 64 (by decide) (by decide)]; exact h26b y h1 h2)
        · refine go_ll9 dX12_frostOf_116 (go_goto 122 dX12_frostOf_118 (by decide) (go_ladd dX12_frostOf_122 (go_ls6 dX12_frostOf_123 rfl rfl (go_inc8 (k := 1) dX12_frostOf_125 (by decide) rfl rfl (go_goto 10 dX12_frostOf_128 (by decide) ?_)))))
          have e8 : (tm (trwa (trof (qof r) 9 k) (wfr (qwa (qof r)) 0 (last + 1) s)) x).isSome = true := by
            cases hc9 : tm (trwa (trof (qof r) 9 k) (wfr (qwa (qof r)) 0 (last + 1) s)) x with
            | none => exact absurd ((heard_none htok).mpr hc9) h113
            | some _ => rfl
          have e9 : sumN (frF (trof (qof r) 9 k) c last x) s + pwN c s (last + 1) = sumN (frF (trof (qof r) 9 k) c last x) (s + 1) := by
            rw [show sumN (frF (trof (qof r) 9 k) c last x) (s + 1) = sumN (frF (trof (qof r) 9 k) c last x) s + (frF (trof (qof r) 9 k) c last x) s from rfl]
            have : (frF (trof (qof r) 9 k) c last x) s = pwN c s (last + 1) := by show pwN c s (last + 1) * b2 (tm _ x).isSome = _; rw [show (tm (trwa (trof (qof r) 9 k) (wfr (twa (trof (qof r) 9 k)) 0 (last + 1) s)) x).isSome = true from e8]; exact Nat.mul_one _
            omega
          rw [lN_add, nI_1, e9]
          exact ih (2 ^ (last + 1) - (s + 1)) (by omega) (s + 1) _ _ m100 rfl (by omega) (hRb.fl hF100.rl) (fun y h1 h2 => by rw [hF100.1 64 (by decide) (by decide)]; exact h26b y h1 h2)

set_option maxRecDepth 100000 in
set_option maxHeartbeats 400000 in
theorem mFrostOf {r : RS} {μ : gm_M} (hA : MA r μ) {k c last x : Nat} (hk : k < qnum (qof r)) (hc : c ≤ 16) (hl : last ≤ 9) (hx : x < 30) (w : Int32) : Sat yX12_frostOf cX12_frostOf 12 (some .long) 7 [(.ref 52), (.int (nI c)), (.int (nI last)), (.int (nI k)), (.int (nI x)), (.int w)] μ (fun r' μ' => r' = some (.long (frA (trof (qof r) 9 k) c last x w)) ∧ RDp r μ μ') := by
  refine Sat.of (L := [some (.ref 52), some (.int (nI c)), some (.int (nI last)), some (.int (nI k)), some (.int (nI x)), some (.int w), none, none, none, none, none, none]) (by decide) (fun _ => rfl) (fun _ => rfl) ?_
  refine go_al0 dX12_frostOf_0 ?_
  refine go_V0 mcX12_asTold mvX12_asTold kX12_190 rfl dX12_frostOf_1 rfl rfl (mAsTold hA) ?_
  rintro _ m1 ⟨rfl, hR1, hW1⟩
  refine go_lc0 dX12_frostOf_4 (go_ls6 dX12_frostOf_5 rfl rfl (go_ic0 dX12_frostOf_7 (go_is8 dX12_frostOf_8 rfl rfl ?_)))
  exact mFr_loop hk hc hl hx _ 0 _ _ m1 rfl (Nat.zero_le _) hR1 (fun y _ hy => (hW1 y hy).1)

set_option maxRecDepth 100000 in
set_option maxHeartbeats 400000 in
theorem m_frost {r : RS} {μ : gm_M} (hA : MA r μ) (c l w n x : Int32) : Sat yX12_frost cX12_frost 7 (some .long) 8 [(.ref 52), (.int c), (.int l), (.int w), (.int n), (.int x)] μ (fun r' μ' => r' = some (.long (sFrost (qof r) c l w n x)) ∧ FX lQ fQ μ μ') := by
  refine Sat.of (L := [some (.ref 52), some (.int c), some (.int l), some (.int w), some (.int n), some (.int x), none]) (by decide) (fun _ => rfl) (fun _ => rfl) ?_
  refine go_il1 dX12_frost_0 (go_ic0 dX12_frost_1 (go_bipush (v := 16) dX12_frost_2 (by decide) (go_S3r mcX12_in mvX12_in kX12_104 dX12_frost_4 rfl rfl (sX12_in _ _ _ _) ?_)))
  refine go_ifeqB 32 dX12_frost_7 (by decide) (fun h7 => ?_) (fun h7 => ?_)
  · refine go_ic0 dX12_frost_32 (go_is6 dX12_frost_33 rfl rfl (go_il6 dX12_frost_35 ?_))
    refine go_ifeq 72 dX12_frost_37 (by decide) (fun _ => ?_) (fun h37 => absurd h37 (by decide))
    refine go_bipush (v := -2) dX12_frost_72 (by decide) (go_S1r mcX12_no mvX12_no kX12_263 dX12_frost_74 rfl rfl (sX12_no _ _) ?_)
    refine go_lret dX12_frost_77 ?_
    exact ⟨by rw [sFrost_g, if_neg (gf h7)]; decide, FX.rf μ⟩
  · refine go_il2 dX12_frost_10 (go_ic0 dX12_frost_11 (go_bipush (v := 9) dX12_frost_12 (by decide) (go_S3r mcX12_in mvX12_in kX12_104 dX12_frost_14 rfl rfl (sX12_in _ _ _ _) ?_)))
    refine go_ifeqB 32 dX12_frost_17 (by decide) (fun h17 => ?_) (fun h17 => ?_)
    · refine go_ic0 dX12_frost_32 (go_is6 dX12_frost_33 rfl rfl (go_il6 dX12_frost_35 ?_))
      refine go_ifeq 72 dX12_frost_37 (by decide) (fun _ => ?_) (fun h37 => absurd h37 (by decide))
      refine go_bipush (v := -2) dX12_frost_72 (by decide) (go_S1r mcX12_no mvX12_no kX12_263 dX12_frost_74 rfl rfl (sX12_no _ _) ?_)
      refine go_lret dX12_frost_77 ?_
      exact ⟨by rw [sFrost_g, if_pos h7, if_neg (gf h17)]; decide, FX.rf μ⟩
    · refine go_al0 dX12_frost_20 (go_il3 dX12_frost_21 ?_)
      refine go_V1 mcX12_isWheel mvX12_isWheel kX12_142 rfl dX12_frost_22 rfl rfl (mIsWheel hA _) ?_
      rintro _ m22 ⟨rfl, hR22⟩
      refine go_ifeqB 32 dX12_frost_25 (by decide) (fun h25 => ?_) (fun h25 => ?_)
      · refine go_ic0 dX12_frost_32 (go_is6 dX12_frost_33 rfl rfl (go_il6 dX12_frost_35 ?_))
        refine go_ifeq 72 dX12_frost_37 (by decide) (fun _ => ?_) (fun h37 => absurd h37 (by decide))
        refine go_bipush (v := -2) dX12_frost_72 (by decide) (go_S1r mcX12_no mvX12_no kX12_263 dX12_frost_74 rfl rfl (sX12_no _ _) ?_)
        refine go_lret dX12_frost_77 ?_
        exact ⟨by rw [sFrost_g, if_pos h7, if_pos h17, if_neg (gf h25)]; decide, hR22.2.2⟩
      · refine go_ic1 dX12_frost_28 (go_goto 33 dX12_frost_29 (by decide) (go_is6 dX12_frost_33 rfl rfl (go_il6 dX12_frost_35 ?_)))
        refine go_ifeq 72 dX12_frost_37 (by decide) (fun h37 => absurd h37 (by decide)) (fun _ => ?_)
        refine go_il4 dX12_frost_40 (go_S1r mcX12_isNight mvX12_isNight kX12_148 dX12_frost_42 rfl rfl (sX12_isNight _ _) ?_)
        refine go_ifeqB 72 dX12_frost_45 (by decide) (fun h45 => ?_) (fun h45 => ?_)
        · refine go_bipush (v := -2) dX12_frost_72 (by decide) (go_S1r mcX12_no mvX12_no kX12_263 dX12_frost_74 rfl rfl (sX12_no _ _) ?_)
          refine go_lret dX12_frost_77 ?_
          exact ⟨by rw [sFrost_g, if_pos h7, if_pos h17, if_pos h25, if_neg (gf h45)]; decide, hR22.2.2⟩
        · refine go_il5 dX12_frost_48 (go_ic0 dX12_frost_50 (go_ic1 dX12_frost_51 (go_S3r mcX12_in mvX12_in kX12_104 dX12_frost_52 rfl rfl (sX12_in _ _ _ _) ?_)))
          refine go_ifeqB 72 dX12_frost_55 (by decide) (fun h55 => ?_) (fun h55 => ?_)
          · refine go_bipush (v := -2) dX12_frost_72 (by decide) (go_S1r mcX12_no mvX12_no kX12_263 dX12_frost_74 rfl rfl (sX12_no _ _) ?_)
            refine go_lret dX12_frost_77 ?_
            exact ⟨by rw [sFrost_g, if_pos h7, if_pos h17, if_pos h25, if_pos h45, if_neg (gf h55)]; decide, hR22.2.2⟩
          · obtain ⟨k, hk, rfl⟩ := inW_of (rok_q hA.1) h25
            obtain ⟨c, hc, rfl⟩ := gin_of (N := 16) (by decide) (by decide) h7
            obtain ⟨l, hl, rfl⟩ := gin_of (N := 9) (by decide) (by decide) h17
            obtain ⟨n, hx, rfl⟩ := gnight_of (by rw [← gin_night]; exact h45)
            refine go_al0 dX12_frost_58 (go_il1 dX12_frost_59 (go_il2 dX12_frost_60 (go_il3 dX12_frost_61 (go_il4 dX12_frost_62 (go_il5 dX12_frost_64 ?_)))))
            refine go_V5 mcX12_frostOf mvX12_frostOf kX12_259 rfl dX12_frost_66 rfl rfl (mFrostOf (hR22.ma hA) hk hc hl hx _) ?_
            rintro _ m66 ⟨rfl, hR66⟩
            refine go_goto 77 dX12_frost_69 (by decide) ?_
            refine go_lret dX12_frost_77 ?_
            exact ⟨by rw [sFrost_g, if_pos h7, if_pos h17, if_pos h25, if_pos h45, if_pos h55, wN_nI (by have := hR22.1.1.1; omega), wN_nI (by omega), wN_nI (by omega), wN_nI (by omega)], (hR22.tr hR66).2.2⟩

