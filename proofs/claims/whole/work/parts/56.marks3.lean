/-! THE MODEL: what is told it -/
theorem FX.fm {m m' : gm_M} (h : FX lQ fQ m m') : FrR 52 80 m m' := fun c hc => h.1 c (by omega) (ni_lQ (by omega))
theorem ite_gin3 {α : Type} {x : Int32} {A B : α} : (if x < 0 then B else if x < 8 then A else B) = if gin x 0 7 = true then A else B := by
  rw [← ite_gin]
  have e : (x < 8) = (x ≤ 7) := propext (by
    rw [Int32.lt_iff_toInt_lt, Int32.le_iff_toInt_le]
    have e1 : (8 : Int32).toInt = 8 := by decide
    have e2 : (7 : Int32).toInt = 7 := by decide
    rw [e1, e2]; omega)
  simp only [e]
theorem MA.t0w {r : RS} {μ μ' : gm_M} (h : MA r μ) (e : ∀ c, c ≠ 53 → c ≠ 54 → μ'.1 c = μ.1 c) {t : TX} (ht : t.1 ≤ 71 ∧ ∀ j, j < t.1 → t.2 j < 256) (h0 : μ'.1 53 0 = nI t.1) (h0' : ∀ j, j < t.1 → μ'.1 54 j = nI (t.2 j)) (h1 : μ'.1 53 1 = μ.1 53 1) (h1' : ∀ j, j < 30 → μ'.1 54 (71 + j) = μ.1 54 (71 + j)) : MA (w0 r t) μ' ∧ FrR 52 80 μ μ' := by
  obtain ⟨o, a, b, c, d⟩ := h
  refine ⟨⟨⟨ht, o.2⟩, ⟨h0, h0'⟩, ⟨by rw [h1]; exact b.1, fun j hj => by rw [h1' j (by have := o.2.1.1; exact Nat.lt_of_lt_of_le hj this)]; exact b.2 j hj⟩, MM.cong (r := r) c (fun c hc => e c (by omega) (by omega)) (fun k _ => by rw [e 52 (by decide) (by decide)]), MS.cong (r := r) d (fun c hc => e c (by omega) (by omega)) (by rw [e 52 (by decide) (by decide)])⟩, fun c hc => e c (by omega) (by omega)⟩
theorem MA.t1w {r : RS} {μ μ' : gm_M} (h : MA r μ) (e : ∀ c, c ≠ 53 → c ≠ 54 → μ'.1 c = μ.1 c) {t : TX} (ht : t.1 ≤ 30 ∧ ∀ j, j < t.1 → t.2 j < 256) (h0 : μ'.1 53 1 = nI t.1) (h0' : ∀ j, j < t.1 → μ'.1 54 (71 + j) = nI (t.2 j)) (h1 : μ'.1 53 0 = μ.1 53 0) (h1' : ∀ j, j < 71 → μ'.1 54 j = μ.1 54 j) : MA (w1 r t) μ' ∧ FrR 52 80 μ μ' := by
  obtain ⟨o, a, b, c, d⟩ := h
  refine ⟨⟨⟨o.1, ht, o.2.2⟩, ⟨by rw [h1]; exact a.1, fun j hj => by rw [h1' j (by have := o.1.1; exact Nat.lt_of_lt_of_le hj this)]; exact a.2 j hj⟩, ⟨h0, h0'⟩, MM.cong (r := r) c (fun c hc => e c (by omega) (by omega)) (fun k _ => by rw [e 52 (by decide) (by decide)]), MS.cong (r := r) d (fun c hc => e c (by omega) (by omega)) (by rw [e 52 (by decide) (by decide)])⟩, fun c hc => e c (by omega) (by omega)⟩
theorem sTypeN_g (N M : Nat) (b : Int32) : sTypeN N M b = if gin b 0 255 = true then (if N < M then nI (N + 1) else -4) else -2 := by unfold sTypeN; rw [ite_gin]
theorem nTypeN_g (t : TX) (M : Nat) (b : Int32) : nTypeN t M b = if gin b 0 255 = true then (if t.1 < M then (t.1 + 1, updN t.2 t.1 (wN b)) else t) else t := by unfold nTypeN; rw [ite_gin]
set_option maxRecDepth 100000 in
set_option maxHeartbeats 400000 in
theorem m_type0 {r : RS} {μ : gm_M} (hA : MA r μ) (b : Int32) : Sat yX12_type cX12_type 3 (some .int) 2 [(.ref 52), (.int 0), (.int b)] μ (fun r' μ' => r' = some (.int (sTypeN (ra0 r).1 71 b)) ∧ MA (w0 r (nTypeN (ra0 r) 71 b)) μ' ∧ FrR 52 80 μ μ') := by
  have hN := hA.1.1.1
  have hb := hA.1.1.2
  refine Sat.of (L := [some (.ref 52), some (.int 0), some (.int b)]) (by decide) (fun _ => rfl) (fun _ => rfl) ?_
  refine go_il1 dX12_type_0 (go_S1r mcX12_isText mvX12_isText kX12_108 dX12_type_1 rfl rfl (sX12_isText _ _) ?_)
  refine go_ifeqB 18 dX12_type_4 (by decide) (fun h4 => ?_) (fun h4 => ?_)
  · refine go_bipush (v := -2) dX12_type_18 (by decide) ?_
    refine go_iret dX12_type_20 ?_
    exact absurd h4 (by decide)
  · refine go_il2 dX12_type_7 (go_ic0 dX12_type_8 (go_sipush (v := 255) dX12_type_9 (by decide) (go_S3r mcX12_in mvX12_in kX12_104 dX12_type_12 rfl rfl (sX12_in _ _ _ _) ?_)))
    refine go_ifneB 21 dX12_type_15 (by decide) (fun h15 => ?_) (fun h15 => ?_)
    · refine go_al0 dX12_type_21 (go_getR (j := 53) fX12_7 rfl rfl dX12_type_22 (go_il1 dX12_type_25 (go_iald rfl (vp_in_nI (n := 0) (by decide) (by decide)) dX12_type_26 ?_)))
      rw [show (0 : Int32).toNatClampNeg = 0 from by decide, (show μ.1 53 0 = nI (ra0 r).1 from hA.2.1.1)]
      refine go_il1 dX12_type_27 ?_
      refine go_ifne 36 dX12_type_28 (by decide) (fun h28 => absurd h28 (by decide)) (fun _ => ?_)
      refine go_bipush (v := 71) dX12_type_31 (by decide) (go_goto 38 dX12_type_33 (by decide) ?_)
      refine go_cne 44 dX12_type_38 (by decide) (fun h38 => ?_) (fun h38 => ?_)
      · refine go_al0 dX12_type_44 (go_getR (j := 54) fX12_13 rfl rfl dX12_type_45 (go_bipush (v := 71) dX12_type_48 (by decide) (go_il1 dX12_type_50 (go_imul dX12_type_51 (go_al0 dX12_type_52 (go_getR (j := 53) fX12_7 rfl rfl dX12_type_53 (go_il1 dX12_type_56 (go_iald rfl (vp_in_nI (n := 0) (by decide) (by decide)) dX12_type_57 ?_))))))))
        rw [show (0 : Int32).toNatClampNeg = 0 from by decide, (show μ.1 53 0 = nI (ra0 r).1 from hA.2.1.1)]
        refine go_iadd dX12_type_58 (go_il2 dX12_type_59 ?_)
        rw [show (71 : Int32) * 0 + nI (ra0 r).1 = nI (ra0 r).1 from by rw [show (71 : Int32) * 0 = 0 from by decide, Int32.zero_add]]
        refine go_iast rfl (vp_in_nI (show (ra0 r).1 < 142 by omega) (by decide)) dX12_type_60 ?_
        rw [nI_clamp (show (ra0 r).1 < 2 ^ 31 by omega)]
        refine go_al0 dX12_type_61 (go_getR (j := 53) fX12_7 rfl rfl dX12_type_62 (go_il1 dX12_type_65 (go_dup2 dX12_type_66 rfl rfl (go_iald rfl (vp_in_nI (n := 0) (by decide) (by decide)) dX12_type_67 ?_))))
        rw [show (0 : Int32).toNatClampNeg = 0 from by decide, gm_In _ _ _ (by decide), (show μ.1 53 0 = nI (ra0 r).1 from hA.2.1.1)]
        refine go_ic1 dX12_type_68 (go_iadd dX12_type_69 (go_iast rfl (vp_in_nI (n := 0) (by decide) (by decide)) dX12_type_70 ?_))
        rw [show (0 : Int32).toNatClampNeg = 0 from by decide, nI_1]
        refine go_al0 dX12_type_71 (go_getR (j := 53) fX12_7 rfl rfl dX12_type_72 (go_il1 dX12_type_75 (go_iald rfl (vp_in_nI (n := 0) (by decide) (by decide)) dX12_type_76 ?_)))
        refine go_iret dX12_type_77 ?_
        have e9 : (ra0 r).1 < 71 := by
          have : ¬ (ra0 r).1 = 71 := fun z => h38 (by rw [z]; rfl)
          omega
        obtain ⟨k, hk, rfl⟩ := gin_of (N := 255) (by decide) (by decide) h15
        have hw := hA.t0w (μ' := gm_I (gm_I μ 54 (ra0 r).1 (nI k)) 53 0 (nI ((ra0 r).1 + 1))) (fun c h1 h2 => by rw [gm_In _ _ _ h1, gm_In _ _ _ h2]) (t := ((ra0 r).1 + 1, updN (ra0 r).2 (ra0 r).1 k)) ⟨by show (ra0 r).1 + 1 ≤ 71; omega, fun j hj => by show updN (ra0 r).2 (ra0 r).1 k j < 256; unfold updN; split; omega; exact hb j (by have hj : j < (ra0 r).1 + 1 := hj; omega)⟩ (gm_Is _ _ _ _) (fun j hj => by
            have hj : j < (ra0 r).1 + 1 := hj
            show _ = nI (updN (ra0 r).2 (ra0 r).1 k j)
            rw [gm_In _ _ _ (by decide), gm_I1, if_pos rfl]
            unfold updN
            by_cases z : j = (ra0 r).1
            · rw [if_pos z, if_pos (by omega)]
            · rw [if_neg z, if_neg (by omega)]; exact hA.2.1.2 j (by omega)) (by rw [gm_Io _ _ _ (by decide), gm_In _ _ _ (by decide)]) (fun j hj => by rw [gm_In _ _ _ (by decide), gm_I1, if_pos rfl, if_neg (by omega)])
        refine ⟨?_, ?_, hw.2⟩
        · rw [sTypeN_g, if_pos h15, if_pos e9, show (0 : Int32).toNatClampNeg = 0 from by decide, gm_Is]
        · rw [nTypeN_g, if_pos h15, if_pos e9, wN_nI (by omega)]; exact hw.1
      · refine go_bipush (v := -4) dX12_type_41 (by decide) ?_
        refine go_iret dX12_type_43 ?_
        have e9 : ¬ (ra0 r).1 < 71 := by
          have := (nI_eq (b := 71) (by omega) (by decide)).mp h38
          omega
        exact ⟨by rw [sTypeN_g, if_pos h15, if_neg e9], by rw [nTypeN_g, if_pos h15, if_neg e9]; exact hA, FrR.rf μ⟩
    · refine go_bipush (v := -2) dX12_type_18 (by decide) ?_
      refine go_iret dX12_type_20 ?_
      exact ⟨by rw [sTypeN_g, if_neg (gf h15)], by rw [nTypeN_g, if_neg (gf h15)]; exact hA, FrR.rf μ⟩

set_option maxRecDepth 100000 in
set_option maxHeartbeats 400000 in
theorem m_wipe0 {r : RS} {μ : gm_M} (hA : MA r μ) : Sat yX12_wipe cX12_wipe 3 (some .int) 2 [(.ref 52), (.int 0)] μ (fun r' μ' => r' = some (.int (nI (ra0 r).1)) ∧ MA (w0 r (0, (ra0 r).2)) μ' ∧ FrR 52 80 μ μ') := by
  have hN := hA.1.1.1
  have hb := hA.1.1.2
  refine Sat.of (L := [some (.ref 52), some (.int 0), none]) (by decide) (fun _ => rfl) (fun _ => rfl) ?_
  refine go_il1 dX12_wipe_0 (go_S1r mcX12_isText mvX12_isText kX12_108 dX12_wipe_1 rfl rfl (sX12_isText _ _) ?_)
  refine go_ifneB 10 dX12_wipe_4 (by decide) (fun h4 => ?_) (fun h4 => ?_)
  · refine go_al0 dX12_wipe_10 (go_getR (j := 53) fX12_7 rfl rfl dX12_wipe_11 (go_il1 dX12_wipe_14 (go_iald rfl (vp_in_nI (n := 0) (by decide) (by decide)) dX12_wipe_15 ?_)))
    rw [show (0 : Int32).toNatClampNeg = 0 from by decide, (show μ.1 53 0 = nI (ra0 r).1 from hA.2.1.1)]
    refine go_is2 dX12_wipe_16 rfl rfl (go_al0 dX12_wipe_17 (go_getR (j := 53) fX12_7 rfl rfl dX12_wipe_18 (go_il1 dX12_wipe_21 (go_ic0 dX12_wipe_22 (go_iast rfl (vp_in_nI (n := 0) (by decide) (by decide)) dX12_wipe_23 ?_)))))
    rw [show (0 : Int32).toNatClampNeg = 0 from by decide, ← nI_0]
    refine go_il2 dX12_wipe_24 ?_
    refine go_iret dX12_wipe_25 ?_
    have hw := hA.t0w (μ' := gm_I μ 53 0 (nI 0)) (fun c h1 h2 => by rw [gm_In _ _ _ h1]) (t := (0, (ra0 r).2)) ⟨by show 0 ≤ 71; omega, fun j hj => hb j (by have hj : j < 0 := hj; omega)⟩ (gm_Is _ _ _ _) (fun j hj => by rw [gm_In _ _ _ (by decide)]; exact hA.2.1.2 j (by have hj : j < 0 := hj; omega)) (by rw [gm_Io _ _ _ (by decide)]) (fun j hj => by rw [gm_In _ _ _ (by decide)])
    exact ⟨rfl, hw.1, hw.2⟩
  · refine go_bipush (v := -2) dX12_wipe_7 (by decide) ?_
    refine go_iret dX12_wipe_9 ?_
    exact absurd h4 (by decide)

set_option maxRecDepth 100000 in
set_option maxHeartbeats 400000 in
theorem m_undo0 {r : RS} {μ : gm_M} (hA : MA r μ) : Sat yX12_undo cX12_undo 2 (some .int) 2 [(.ref 52), (.int 0)] μ (fun r' μ' => r' = some (.int (sUndoN (ra0 r).1)) ∧ MA (w0 r ((ra0 r).1 - 1, (ra0 r).2)) μ' ∧ FrR 52 80 μ μ') := by
  have hN := hA.1.1.1
  have hb := hA.1.1.2
  refine Sat.of (L := [some (.ref 52), some (.int 0)]) (by decide) (fun _ => rfl) (fun _ => rfl) ?_
  refine go_il1 dX12_undo_0 (go_S1r mcX12_isText mvX12_isText kX12_108 dX12_undo_1 rfl rfl (sX12_isText _ _) ?_)
  refine go_ifneB 10 dX12_undo_4 (by decide) (fun h4 => ?_) (fun h4 => ?_)
  · refine go_al0 dX12_undo_10 (go_getR (j := 53) fX12_7 rfl rfl dX12_undo_11 (go_il1 dX12_undo_14 (go_iald rfl (vp_in_nI (n := 0) (by decide) (by decide)) dX12_undo_15 ?_)))
    rw [show (0 : Int32).toNatClampNeg = 0 from by decide, (show μ.1 53 0 = nI (ra0 r).1 from hA.2.1.1)]
    refine go_ifne 22 dX12_undo_16 (by decide) (fun h16 => ?_) (fun h16 => ?_)
    · have e9 : ¬ (ra0 r).1 = 0 := fun z => h16 (by rw [z]; rfl)
      refine go_al0 dX12_undo_22 (go_getR (j := 53) fX12_7 rfl rfl dX12_undo_23 (go_il1 dX12_undo_26 (go_dup2 dX12_undo_27 rfl rfl (go_iald rfl (vp_in_nI (n := 0) (by decide) (by decide)) dX12_undo_28 ?_))))
      rw [show (0 : Int32).toNatClampNeg = 0 from by decide, (show μ.1 53 0 = nI (ra0 r).1 from hA.2.1.1)]
      refine go_ic1 dX12_undo_29 (go_isub dX12_undo_30 ?_)
      rw [show nI (ra0 r).1 - 1 = nI ((ra0 r).1 - 1) from by rw [show (1 : Int32) = nI 1 from rfl, pk_sub (by omega)]]
      refine go_iast rfl (vp_in_nI (n := 0) (by decide) (by decide)) dX12_undo_31 ?_
      rw [show (0 : Int32).toNatClampNeg = 0 from by decide]
      refine go_al0 dX12_undo_32 (go_getR (j := 53) fX12_7 rfl rfl dX12_undo_33 (go_il1 dX12_undo_36 (go_iald rfl (vp_in_nI (n := 0) (by decide) (by decide)) dX12_undo_37 ?_)))
      refine go_iret dX12_undo_38 ?_
      have hw := hA.t0w (μ' := gm_I μ 53 0 (nI ((ra0 r).1 - 1))) (fun c h1 h2 => by rw [gm_In _ _ _ h1]) (t := (((ra0 r).1 - 1), (ra0 r).2)) ⟨by show ((ra0 r).1 - 1) ≤ 71; omega, fun j hj => hb j (by have hj : j < ((ra0 r).1 - 1) := hj; omega)⟩ (gm_Is _ _ _ _) (fun j hj => by rw [gm_In _ _ _ (by decide)]; exact hA.2.1.2 j (by have hj : j < ((ra0 r).1 - 1) := hj; omega)) (by rw [gm_Io _ _ _ (by decide)]) (fun j hj => by rw [gm_In _ _ _ (by decide)])
      exact ⟨by rw [sUndoN, if_neg e9, show (0 : Int32).toNatClampNeg = 0 from by decide, gm_Is], hw.1, hw.2⟩
    · refine go_bipush (v := -3) dX12_undo_19 (by decide) ?_
      refine go_iret dX12_undo_21 ?_
      have e9 : (ra0 r).1 = 0 := by rw [← nI_0] at h16; exact (nI_eq (by omega) (by decide)).mp h16
      refine ⟨by rw [sUndoN, if_pos e9], ?_, FrR.rf μ⟩
      rw [show (ra0 r).1 - 1 = (ra0 r).1 by omega]
      exact hA
  · refine go_bipush (v := -2) dX12_undo_7 (by decide) ?_
    refine go_iret dX12_undo_9 ?_
    exact absurd h4 (by decide)

set_option maxRecDepth 100000 in
set_option maxHeartbeats 400000 in
theorem m_type1 {r : RS} {μ : gm_M} (hA : MA r μ) (b : Int32) : Sat yX12_type cX12_type 3 (some .int) 2 [(.ref 52), (.int 1), (.int b)] μ (fun r' μ' => r' = some (.int (sTypeN (ra1 r).1 30 b)) ∧ MA (w1 r (nTypeN (ra1 r) 30 b)) μ' ∧ FrR 52 80 μ μ') := by
  have hN := hA.1.2.1.1
  have hb := hA.1.2.1.2
  refine Sat.of (L := [some (.ref 52), some (.int 1), some (.int b)]) (by decide) (fun _ => rfl) (fun _ => rfl) ?_
  refine go_il1 dX12_type_0 (go_S1r mcX12_isText mvX12_isText kX12_108 dX12_type_1 rfl rfl (sX12_isText _ _) ?_)
  refine go_ifeqB 18 dX12_type_4 (by decide) (fun h4 => ?_) (fun h4 => ?_)
  · refine go_bipush (v := -2) dX12_type_18 (by decide) ?_
    refine go_iret dX12_type_20 ?_
    exact absurd h4 (by decide)
  · refine go_il2 dX12_type_7 (go_ic0 dX12_type_8 (go_sipush (v := 255) dX12_type_9 (by decide) (go_S3r mcX12_in mvX12_in kX12_104 dX12_type_12 rfl rfl (sX12_in _ _ _ _) ?_)))
    refine go_ifneB 21 dX12_type_15 (by decide) (fun h15 => ?_) (fun h15 => ?_)
    · refine go_al0 dX12_type_21 (go_getR (j := 53) fX12_7 rfl rfl dX12_type_22 (go_il1 dX12_type_25 (go_iald rfl (vp_in_nI (n := 1) (by decide) (by decide)) dX12_type_26 ?_)))
      rw [show (1 : Int32).toNatClampNeg = 1 from by decide, (show μ.1 53 1 = nI (ra1 r).1 from hA.2.2.1.1)]
      refine go_il1 dX12_type_27 ?_
      refine go_ifne 36 dX12_type_28 (by decide) (fun _ => ?_) (fun h28 => absurd h28 (by decide))
      refine go_bipush (v := 30) dX12_type_36 (by decide) ?_
      refine go_cne 44 dX12_type_38 (by decide) (fun h38 => ?_) (fun h38 => ?_)
      · refine go_al0 dX12_type_44 (go_getR (j := 54) fX12_13 rfl rfl dX12_type_45 (go_bipush (v := 71) dX12_type_48 (by decide) (go_il1 dX12_type_50 (go_imul dX12_type_51 (go_al0 dX12_type_52 (go_getR (j := 53) fX12_7 rfl rfl dX12_type_53 (go_il1 dX12_type_56 (go_iald rfl (vp_in_nI (n := 1) (by decide) (by decide)) dX12_type_57 ?_))))))))
        rw [show (1 : Int32).toNatClampNeg = 1 from by decide, (show μ.1 53 1 = nI (ra1 r).1 from hA.2.2.1.1)]
        refine go_iadd dX12_type_58 (go_il2 dX12_type_59 ?_)
        rw [show (71 : Int32) * 1 + nI (ra1 r).1 = nI (71 + (ra1 r).1) from by rw [show (71 : Int32) * 1 = nI 71 from by decide, nI_add]]
        refine go_iast rfl (vp_in_nI (show (71 + (ra1 r).1) < 142 by omega) (by decide)) dX12_type_60 ?_
        rw [nI_clamp (show (71 + (ra1 r).1) < 2 ^ 31 by omega)]
        refine go_al0 dX12_type_61 (go_getR (j := 53) fX12_7 rfl rfl dX12_type_62 (go_il1 dX12_type_65 (go_dup2 dX12_type_66 rfl rfl (go_iald rfl (vp_in_nI (n := 1) (by decide) (by decide)) dX12_type_67 ?_))))
        rw [show (1 : Int32).toNatClampNeg = 1 from by decide, gm_In _ _ _ (by decide), (show μ.1 53 1 = nI (ra1 r).1 from hA.2.2.1.1)]
        refine go_ic1 dX12_type_68 (go_iadd dX12_type_69 (go_iast rfl (vp_in_nI (n := 1) (by decide) (by decide)) dX12_type_70 ?_))
        rw [show (1 : Int32).toNatClampNeg = 1 from by decide, nI_1]
        refine go_al0 dX12_type_71 (go_getR (j := 53) fX12_7 rfl rfl dX12_type_72 (go_il1 dX12_type_75 (go_iald rfl (vp_in_nI (n := 1) (by decide) (by decide)) dX12_type_76 ?_)))
        refine go_iret dX12_type_77 ?_
        have e9 : (ra1 r).1 < 30 := by
          have : ¬ (ra1 r).1 = 30 := fun z => h38 (by rw [z]; rfl)
          omega
        obtain ⟨k, hk, rfl⟩ := gin_of (N := 255) (by decide) (by decide) h15
        have hw := hA.t1w (μ' := gm_I (gm_I μ 54 (71 + (ra1 r).1) (nI k)) 53 1 (nI ((ra1 r).1 + 1))) (fun c h1 h2 => by rw [gm_In _ _ _ h1, gm_In _ _ _ h2]) (t := ((ra1 r).1 + 1, updN (ra1 r).2 (ra1 r).1 k)) ⟨by show (ra1 r).1 + 1 ≤ 30; omega, fun j hj => by show updN (ra1 r).2 (ra1 r).1 k j < 256; unfold updN; split; omega; exact hb j (by have hj : j < (ra1 r).1 + 1 := hj; omega)⟩ (gm_Is _ _ _ _) (fun j hj => by
            have hj : j < (ra1 r).1 + 1 := hj
            show _ = nI (updN (ra1 r).2 (ra1 r).1 k j)
            rw [gm_In _ _ _ (by decide), gm_I1, if_pos rfl]
            unfold updN
            by_cases z : j = (ra1 r).1
            · rw [if_pos z, if_pos (by omega)]
            · rw [if_neg z, if_neg (by omega)]; exact hA.2.2.1.2 j (by omega)) (by rw [gm_Io _ _ _ (by decide), gm_In _ _ _ (by decide)]) (fun j hj => by rw [gm_In _ _ _ (by decide), gm_I1, if_pos rfl, if_neg (by omega)])
        refine ⟨?_, ?_, hw.2⟩
        · rw [sTypeN_g, if_pos h15, if_pos e9, show (1 : Int32).toNatClampNeg = 1 from by decide, gm_Is]
        · rw [nTypeN_g, if_pos h15, if_pos e9, wN_nI (by omega)]; exact hw.1
      · refine go_bipush (v := -4) dX12_type_41 (by decide) ?_
        refine go_iret dX12_type_43 ?_
        have e9 : ¬ (ra1 r).1 < 30 := by
          have := (nI_eq (b := 30) (by omega) (by decide)).mp h38
          omega
        exact ⟨by rw [sTypeN_g, if_pos h15, if_neg e9], by rw [nTypeN_g, if_pos h15, if_neg e9]; exact hA, FrR.rf μ⟩
    · refine go_bipush (v := -2) dX12_type_18 (by decide) ?_
      refine go_iret dX12_type_20 ?_
      exact ⟨by rw [sTypeN_g, if_neg (gf h15)], by rw [nTypeN_g, if_neg (gf h15)]; exact hA, FrR.rf μ⟩

set_option maxRecDepth 100000 in
set_option maxHeartbeats 400000 in
theorem m_wipe1 {r : RS} {μ : gm_M} (hA : MA r μ) : Sat yX12_wipe cX12_wipe 3 (some .int) 2 [(.ref 52), (.int 1)] μ (fun r' μ' => r' = some (.int (nI (ra1 r).1)) ∧ MA (w1 r (0, (ra1 r).2)) μ' ∧ FrR 52 80 μ μ') := by
  have hN := hA.1.2.1.1
  have hb := hA.1.2.1.2
  refine Sat.of (L := [some (.ref 52), some (.int 1), none]) (by decide) (fun _ => rfl) (fun _ => rfl) ?_
  refine go_il1 dX12_wipe_0 (go_S1r mcX12_isText mvX12_isText kX12_108 dX12_wipe_1 rfl rfl (sX12_isText _ _) ?_)
  refine go_ifneB 10 dX12_wipe_4 (by decide) (fun h4 => ?_) (fun h4 => ?_)
  · refine go_al0 dX12_wipe_10 (go_getR (j := 53) fX12_7 rfl rfl dX12_wipe_11 (go_il1 dX12_wipe_14 (go_iald rfl (vp_in_nI (n := 1) (by decide) (by decide)) dX12_wipe_15 ?_)))
    rw [show (1 : Int32).toNatClampNeg = 1 from by decide, (show μ.1 53 1 = nI (ra1 r).1 from hA.2.2.1.1)]
    refine go_is2 dX12_wipe_16 rfl rfl (go_al0 dX12_wipe_17 (go_getR (j := 53) fX12_7 rfl rfl dX12_wipe_18 (go_il1 dX12_wipe_21 (go_ic0 dX12_wipe_22 (go_iast rfl (vp_in_nI (n := 1) (by decide) (by decide)) dX12_wipe_23 ?_)))))
    rw [show (1 : Int32).toNatClampNeg = 1 from by decide, ← nI_0]
    refine go_il2 dX12_wipe_24 ?_
    refine go_iret dX12_wipe_25 ?_
    have hw := hA.t1w (μ' := gm_I μ 53 1 (nI 0)) (fun c h1 h2 => by rw [gm_In _ _ _ h1]) (t := (0, (ra1 r).2)) ⟨by show 0 ≤ 30; omega, fun j hj => hb j (by have hj : j < 0 := hj; omega)⟩ (gm_Is _ _ _ _) (fun j hj => by rw [gm_In _ _ _ (by decide)]; exact hA.2.2.1.2 j (by have hj : j < 0 := hj; omega)) (by rw [gm_Io _ _ _ (by decide)]) (fun j hj => by rw [gm_In _ _ _ (by decide)])
    exact ⟨rfl, hw.1, hw.2⟩
  · refine go_bipush (v := -2) dX12_wipe_7 (by decide) ?_
    refine go_iret dX12_wipe_9 ?_
    exact absurd h4 (by decide)

set_option maxRecDepth 100000 in
set_option maxHeartbeats 400000 in
theorem m_undo1 {r : RS} {μ : gm_M} (hA : MA r μ) : Sat yX12_undo cX12_undo 2 (some .int) 2 [(.ref 52), (.int 1)] μ (fun r' μ' => r' = some (.int (sUndoN (ra1 r).1)) ∧ MA (w1 r ((ra1 r).1 - 1, (ra1 r).2)) μ' ∧ FrR 52 80 μ μ') := by
  have hN := hA.1.2.1.1
  have hb := hA.1.2.1.2
  refine Sat.of (L := [some (.ref 52), some (.int 1)]) (by decide) (fun _ => rfl) (fun _ => rfl) ?_
  refine go_il1 dX12_undo_0 (go_S1r mcX12_isText mvX12_isText kX12_108 dX12_undo_1 rfl rfl (sX12_isText _ _) ?_)
  refine go_ifneB 10 dX12_undo_4 (by decide) (fun h4 => ?_) (fun h4 => ?_)
  · refine go_al0 dX12_undo_10 (go_getR (j := 53) fX12_7 rfl rfl dX12_undo_11 (go_il1 dX12_undo_14 (go_iald rfl (vp_in_nI (n := 1) (by decide) (by decide)) dX12_undo_15 ?_)))
    rw [show (1 : Int32).toNatClampNeg = 1 from by decide, (show μ.1 53 1 = nI (ra1 r).1 from hA.2.2.1.1)]
    refine go_ifne 22 dX12_undo_16 (by decide) (fun h16 => ?_) (fun h16 => ?_)
    · have e9 : ¬ (ra1 r).1 = 0 := fun z => h16 (by rw [z]; rfl)
      refine go_al0 dX12_undo_22 (go_getR (j := 53) fX12_7 rfl rfl dX12_undo_23 (go_il1 dX12_undo_26 (go_dup2 dX12_undo_27 rfl rfl (go_iald rfl (vp_in_nI (n := 1) (by decide) (by decide)) dX12_undo_28 ?_))))
      rw [show (1 : Int32).toNatClampNeg = 1 from by decide, (show μ.1 53 1 = nI (ra1 r).1 from hA.2.2.1.1)]
      refine go_ic1 dX12_undo_29 (go_isub dX12_undo_30 ?_)
      rw [show nI (ra1 r).1 - 1 = nI ((ra1 r).1 - 1) from by rw [show (1 : Int32) = nI 1 from rfl, pk_sub (by omega)]]
      refine go_iast rfl (vp_in_nI (n := 1) (by decide) (by decide)) dX12_undo_31 ?_
      rw [show (1 : Int32).toNatClampNeg = 1 from by decide]
      refine go_al0 dX12_undo_32 (go_getR (j := 53) fX12_7 rfl rfl dX12_undo_33 (go_il1 dX12_undo_36 (go_iald rfl (vp_in_nI (n := 1) (by decide) (by decide)) dX12_undo_37 ?_)))
      refine go_iret dX12_undo_38 ?_
      have hw := hA.t1w (μ' := gm_I μ 53 1 (nI ((ra1 r).1 - 1))) (fun c h1 h2 => by rw [gm_In _ _ _ h1]) (t := (((ra1 r).1 - 1), (ra1 r).2)) ⟨by show ((ra1 r).1 - 1) ≤ 30; omega, fun j hj => hb j (by have hj : j < ((ra1 r).1 - 1) := hj; omega)⟩ (gm_Is _ _ _ _) (fun j hj => by rw [gm_In _ _ _ (by decide)]; exact hA.2.2.1.2 j (by have hj : j < ((ra1 r).1 - 1) := hj; omega)) (by rw [gm_Io _ _ _ (by decide)]) (fun j hj => by rw [gm_In _ _ _ (by decide)])
      exact ⟨by rw [sUndoN, if_neg e9, show (1 : Int32).toNatClampNeg = 1 from by decide, gm_Is], hw.1, hw.2⟩
    · refine go_bipush (v := -3) dX12_undo_19 (by decide) ?_
      refine go_iret dX12_undo_21 ?_
      have e9 : (ra1 r).1 = 0 := by rw [← nI_0] at h16; exact (nI_eq (by omega) (by decide)).mp h16
      refine ⟨by rw [sUndoN, if_pos e9], ?_, FrR.rf μ⟩
      rw [show (ra1 r).1 - 1 = (ra1 r).1 by omega]
      exact hA
  · refine go_bipush (v := -2) dX12_undo_7 (by decide) ?_
    refine go_iret dX12_undo_9 ?_
    exact absurd h4 (by decide)

theorem gin01 {x : Int32} (h0 : ¬ x = 0) (h1 : ¬ x = 1) : gin x 0 1 = false := by
  cases h : gin x 0 1 with
  | false => rfl
  | true =>
    obtain ⟨k, hk, rfl⟩ := gin_of (N := 1) (by decide) (by decide) h
    match k, hk with
    | 0, _ => exact absurd rfl h0
    | 1, _ => exact absurd rfl h1
set_option maxRecDepth 100000 in
set_option maxHeartbeats 400000 in
theorem m_typeB {r : RS} {μ : gm_M} (hA : MA r μ) {x : Int32} (hx0 : ¬ x = 0) (hx1 : ¬ x = 1) (b : Int32) : Sat yX12_type cX12_type 3 (some .int) 2 [(.ref 52), (.int x), (.int b)] μ (fun r' μ' => r' = some (.int (-2)) ∧ MA (r) μ' ∧ FrR 52 80 μ μ') := by
  refine Sat.of (L := [some (.ref 52), some (.int x), some (.int b)]) (by decide) (fun _ => rfl) (fun _ => rfl) ?_
  refine go_il1 dX12_type_0 (go_S1r mcX12_isText mvX12_isText kX12_108 dX12_type_1 rfl rfl (sX12_isText _ _) ?_)
  refine go_ifeqB 18 dX12_type_4 (by decide) (fun h4 => ?_) (fun h4 => ?_)
  · refine go_bipush (v := -2) dX12_type_18 (by decide) ?_
    refine go_iret dX12_type_20 ?_
    exact ⟨rfl, hA, FrR.rf μ⟩
  · exact absurd h4 (gf (gin01 hx0 hx1))

set_option maxRecDepth 100000 in
set_option maxHeartbeats 400000 in
theorem m_wipeB {r : RS} {μ : gm_M} (hA : MA r μ) {x : Int32} (hx0 : ¬ x = 0) (hx1 : ¬ x = 1) : Sat yX12_wipe cX12_wipe 3 (some .int) 2 [(.ref 52), (.int x)] μ (fun r' μ' => r' = some (.int (-2)) ∧ MA (r) μ' ∧ FrR 52 80 μ μ') := by
  refine Sat.of (L := [some (.ref 52), some (.int x), none]) (by decide) (fun _ => rfl) (fun _ => rfl) ?_
  refine go_il1 dX12_wipe_0 (go_S1r mcX12_isText mvX12_isText kX12_108 dX12_wipe_1 rfl rfl (sX12_isText _ _) ?_)
  refine go_ifneB 10 dX12_wipe_4 (by decide) (fun h4 => ?_) (fun h4 => ?_)
  · exact absurd h4 (gf (gin01 hx0 hx1))
  · refine go_bipush (v := -2) dX12_wipe_7 (by decide) ?_
    refine go_iret dX12_wipe_9 ?_
    exact ⟨rfl, hA, FrR.rf μ⟩

set_option maxRecDepth 100000 in
set_option maxHeartbeats 400000 in
theorem m_undoB {r : RS} {μ : gm_M} (hA : MA r μ) {x : Int32} (hx0 : ¬ x = 0) (hx1 : ¬ x = 1) : Sat yX12_undo cX12_undo 2 (some .int) 2 [(.ref 52), (.int x)] μ (fun r' μ' => r' = some (.int (-2)) ∧ MA (r) μ' ∧ FrR 52 80 μ μ') := by
  refine Sat.of (L := [some (.ref 52), some (.int x)]) (by decide) (fun _ => rfl) (fun _ => rfl) ?_
  refine go_il1 dX12_undo_0 (go_S1r mcX12_isText mvX12_isText kX12_108 dX12_undo_1 rfl rfl (sX12_isText _ _) ?_)
  refine go_ifneB 10 dX12_undo_4 (by decide) (fun h4 => ?_) (fun h4 => ?_)
  · exact absurd h4 (gf (gin01 hx0 hx1))
  · refine go_bipush (v := -2) dX12_undo_7 (by decide) ?_
    refine go_iret dX12_undo_9 ?_
    exact ⟨rfl, hA, FrR.rf μ⟩

theorem MA.ts {r : RS} {μ μ' : gm_M} (h : MA r μ) (e : ∀ c, c ≠ 52 → μ'.1 c = μ.1 c) {a b : Nat} (ha : 1 ≤ a ∧ a ≤ 20) (hb : b ≤ 8) (h9 : μ'.1 52 9 = nI a) (h10 : μ'.1 52 10 = nI b) (g : ∀ k, k ≠ 9 → k ≠ 10 → μ'.1 52 k = μ.1 52 k) : MA (ra0 r, ra1 r, a, b, rtu r, rkn r, rli r, rst r, rfi r) μ' ∧ FrR 52 80 μ μ' := by
  obtain ⟨o, m0, m1, c, d⟩ := h
  refine ⟨⟨⟨o.1, o.2.1, ha, hb, o.2.2.2.2⟩, MT0.cong (r := r) m0 (fun c hc => e c (by omega)), MT1.cong (r := r) m1 (fun c hc => e c (by omega)), ⟨⟨h9, h10⟩, ?_, ?_, ?_⟩, MS.cong (r := r) d (fun c hc => e c (by omega)) (g 37 (by decide) (by decide))⟩, fun c hc => e c (by omega)⟩
  · show μ'.1 52 11 = nI (rtu r).1 ∧ _
    rw [g 11 (by decide) (by decide), e 60 (by decide), e 61 (by decide)]; exact c.2.1
  · show μ'.1 52 14 = nI (rkn r).1 ∧ _
    rw [g 14 (by decide) (by decide), e 62 (by decide), e 63 (by decide)]; exact c.2.2.1
  · show μ'.1 52 27 = nI (rli r).1 ∧ _
    rw [g 27 (by decide) (by decide), e 72 (by decide), e 73 (by decide), e 74 (by decide)]; exact c.2.2.2
theorem gin1_of {v : Int32} (h : gin v 1 20 = true) : ∃ k, 1 ≤ k ∧ k ≤ 20 ∧ v = nI k := by
  obtain ⟨h1, h2⟩ := gin_iff.mp h
  have h0 : ¬ v < 0 := fun z => h1 (Int32.lt_trans z (by decide))
  obtain ⟨k, hk, rfl⟩ := int_of (B := 20) (N := 20) (by decide) (by decide) h0 h2
  refine ⟨k, ?_, hk, rfl⟩
  rcases Nat.eq_zero_or_pos k with z | z
  · subst z; exact absurd (by decide) h1
  · exact z
theorem sSet_0 (r : RS) (v : Int32) : sSet r 0 v = (if gin v 1 20 = true then nI (rti r) else -2) ∧ nSet r 0 v = if gin v 1 20 = true then (ra0 r, ra1 r, wN v, rsr r, rtu r, rkn r, rli r, rst r, rfi r) else r := by
  unfold sSet nSet
  rw [if_pos rfl, if_pos rfl, ite_gin2, ite_gin2]
  exact ⟨rfl, rfl⟩
theorem sSet_1 (r : RS) (v : Int32) : sSet r 1 v = (if gin v 0 8 = true then nI (rsr r) else -2) ∧ nSet r 1 v = if gin v 0 8 = true then (ra0 r, ra1 r, rti r, wN v, rtu r, rkn r, rli r, rst r, rfi r) else r := by
  unfold sSet nSet
  rw [if_neg (show ¬ (1 : Int32) = 0 by decide), if_pos rfl, if_neg (show ¬ (1 : Int32) = 0 by decide), if_pos rfl, ite_gin2, ite_gin2]
  exact ⟨rfl, rfl⟩
set_option maxRecDepth 100000 in
set_option maxHeartbeats 400000 in
theorem m_set0 {r : RS} {μ : gm_M} (hA : MA r μ) (v : Int32) : Sat yX12_set cX12_set 4 (some .int) 1 [(.ref 52), (.int 0), (.int v)] μ (fun r' μ' => r' = some (.int (sSet r 0 v)) ∧ MA (nSet r 0 v) μ' ∧ FrR 52 80 μ μ') := by
  refine Sat.of (L := [some (.ref 52), some (.int 0), some (.int v), none]) (by decide) (fun _ => rfl) (fun _ => rfl) ?_
  refine go_il1 dX12_set_0 (go_ic0 dX12_set_1 (go_ic1 dX12_set_2 (go_S3r mcX12_in mvX12_in kX12_104 dX12_set_3 rfl rfl (sX12_in _ _ _ _) ?_)))
  refine go_ifeqB 36 dX12_set_6 (by decide) (fun h6 => ?_) (fun h6 => ?_)
  · refine go_bipush (v := -2) dX12_set_36 (by decide) ?_
    refine go_iret dX12_set_38 ?_
    exact absurd h6 (by decide)
  · refine go_il2 dX12_set_9 (go_il1 dX12_set_10 ?_)
    refine go_ifne 18 dX12_set_11 (by decide) (fun h11 => absurd h11 (by decide)) (fun _ => ?_)
    refine go_ic1 dX12_set_14 (go_goto 19 dX12_set_15 (by decide) (go_il1 dX12_set_19 ?_))
    refine go_ifne 28 dX12_set_20 (by decide) (fun h20 => absurd h20 (by decide)) (fun _ => ?_)
    refine go_bipush (v := 20) dX12_set_23 (by decide) (go_goto 30 dX12_set_25 (by decide) (go_S3r mcX12_in mvX12_in kX12_104 dX12_set_30 rfl rfl (sX12_in _ _ _ _) ?_))
    refine go_ifneB 39 dX12_set_33 (by decide) (fun h33 => ?_) (fun h33 => ?_)
    · refine go_il1 dX12_set_39 ?_
      refine go_ifne 50 dX12_set_40 (by decide) (fun h40 => absurd h40 (by decide)) (fun _ => ?_)
      refine go_al0 dX12_set_43 (go_getI fX12_95 rfl rfl dX12_set_44 (go_goto 54 dX12_set_47 (by decide) (go_is3 dX12_set_54 rfl rfl (go_al0 dX12_set_55 (go_il1 dX12_set_56 ?_)))))
      refine go_ifne 64 dX12_set_57 (by decide) (fun h57 => absurd h57 (by decide)) (fun _ => ?_)
      refine go_il2 dX12_set_60 (go_goto 68 dX12_set_61 (by decide) (go_putI fX12_95 rfl rfl dX12_set_68 (go_al0 dX12_set_71 (go_il1 dX12_set_72 (go_ic1 dX12_set_73 ?_)))))
      refine go_cne 81 dX12_set_74 (by decide) (fun _ => ?_) (fun h74 => absurd h74 (by decide))
      refine go_al0 dX12_set_81 (go_getI fX12_99 rfl rfl dX12_set_82 (go_putI fX12_99 rfl rfl dX12_set_85 (go_il3 dX12_set_88 ?_)))
      refine go_iret dX12_set_89 ?_
      obtain ⟨k, hk1, hk2, rfl⟩ := gin1_of h33
      have hw := hA.ts (μ' := gm_I (gm_I μ 52 9 (nI k)) 52 10 ((gm_I μ 52 9 (nI k)).1 52 10)) (a := k) (b := rsr r) (fun c h => by rw [gm_In _ _ _ h, gm_In _ _ _ h]) ⟨hk1, hk2⟩ hA.1.2.2.2.1 (by rw [gm_Io _ _ _ (by decide), gm_Is]) (by rw [gm_Is, gm_Io _ _ _ (by decide)]; exact hA.2.2.2.1.1.2) (fun j h1 h2 => by rw [gm_Io _ _ _ h2, gm_Io _ _ _ h1])
      refine ⟨by rw [(sSet_0 r _).1, if_pos h33, hA.2.2.2.1.1.1], ?_, hw.2⟩
      rw [(sSet_0 r _).2, if_pos h33, wN_nI (by omega)]
      exact hw.1
    · refine go_bipush (v := -2) dX12_set_36 (by decide) ?_
      refine go_iret dX12_set_38 ?_
      exact ⟨by rw [(sSet_0 r v).1, if_neg (gf h33)], by rw [(sSet_0 r v).2, if_neg (gf h33)]; exact hA, FrR.rf μ⟩

set_option maxRecDepth 100000 in
set_option maxHeartbeats 400000 in
theorem m_set1 {r : RS} {μ : gm_M} (hA : MA r μ) (v : Int32) : Sat yX12_set cX12_set 4 (some .int) 1 [(.ref 52), (.int 1), (.int v)] μ (fun r' μ' => r' = some (.int (sSet r 1 v)) ∧ MA (nSet r 1 v) μ' ∧ FrR 52 80 μ μ') := by
  refine Sat.of (L := [some (.ref 52), some (.int 1), some (.int v), none]) (by decide) (fun _ => rfl) (fun _ => rfl) ?_
  refine go_il1 dX12_set_0 (go_ic0 dX12_set_1 (go_ic1 dX12_set_2 (go_S3r mcX12_in mvX12_in kX12_104 dX12_set_3 rfl rfl (sX12_in _ _ _ _) ?_)))
  refine go_ifeqB 36 dX12_set_6 (by decide) (fun h6 => ?_) (fun h6 => ?_)
  · refine go_bipush (v := -2) dX12_set_36 (by decide) ?_
    refine go_iret dX12_set_38 ?_
    exact absurd h6 (by decide)
  · refine go_il2 dX12_set_9 (go_il1 dX12_set_10 ?_)
    refine go_ifne 18 dX12_set_11 (by decide) (fun _ => ?_) (fun h11 => absurd h11 (by decide))
    refine go_ic0 dX12_set_18 (go_il1 dX12_set_19 ?_)
    refine go_ifne 28 dX12_set_20 (by decide) (fun _ => ?_) (fun h20 => absurd h20 (by decide))
    refine go_bipush (v := 8) dX12_set_28 (by decide) (go_S3r mcX12_in mvX12_in kX12_104 dX12_set_30 rfl rfl (sX12_in _ _ _ _) ?_)
    refine go_ifneB 39 dX12_set_33 (by decide) (fun h33 => ?_) (fun h33 => ?_)
    · refine go_il1 dX12_set_39 ?_
      refine go_ifne 50 dX12_set_40 (by decide) (fun _ => ?_) (fun h40 => absurd h40 (by decide))
      refine go_al0 dX12_set_50 (go_getI fX12_99 rfl rfl dX12_set_51 (go_is3 dX12_set_54 rfl rfl (go_al0 dX12_set_55 (go_il1 dX12_set_56 ?_))))
      refine go_ifne 64 dX12_set_57 (by decide) (fun _ => ?_) (fun h57 => absurd h57 (by decide))
      refine go_al0 dX12_set_64 (go_getI fX12_95 rfl rfl dX12_set_65 (go_putI fX12_95 rfl rfl dX12_set_68 (go_al0 dX12_set_71 (go_il1 dX12_set_72 (go_ic1 dX12_set_73 ?_)))))
      refine go_cne 81 dX12_set_74 (by decide) (fun h74 => absurd h74 (by decide)) (fun _ => ?_)
      refine go_il2 dX12_set_77 (go_goto 85 dX12_set_78 (by decide) (go_putI fX12_99 rfl rfl dX12_set_85 (go_il3 dX12_set_88 ?_)))
      refine go_iret dX12_set_89 ?_
      obtain ⟨k, hk, rfl⟩ := gin_of (N := 8) (by decide) (by decide) h33
      have hw := hA.ts (μ' := gm_I (gm_I μ 52 9 (μ.1 52 9)) 52 10 (nI k)) (a := rti r) (b := k) (fun c h => by rw [gm_In _ _ _ h, gm_In _ _ _ h]) hA.1.2.2.1 hk (by rw [gm_Io _ _ _ (by decide), gm_Is]; exact hA.2.2.2.1.1.1) (gm_Is _ _ _ _) (fun j h1 h2 => by rw [gm_Io _ _ _ h2, gm_Io _ _ _ h1])
      refine ⟨by rw [(sSet_1 r _).1, if_pos h33, hA.2.2.2.1.1.2], ?_, hw.2⟩
      rw [(sSet_1 r _).2, if_pos h33, wN_nI (by omega)]
      exact hw.1
    · refine go_bipush (v := -2) dX12_set_36 (by decide) ?_
      refine go_iret dX12_set_38 ?_
      exact ⟨by rw [(sSet_1 r v).1, if_neg (gf h33)], by rw [(sSet_1 r v).2, if_neg (gf h33)]; exact hA, FrR.rf μ⟩

set_option maxRecDepth 100000 in
set_option maxHeartbeats 400000 in
theorem m_setB {r : RS} {μ : gm_M} (hA : MA r μ) {x : Int32} (hx0 : ¬ x = 0) (hx1 : ¬ x = 1) (v : Int32) : Sat yX12_set cX12_set 4 (some .int) 1 [(.ref 52), (.int x), (.int v)] μ (fun r' μ' => r' = some (.int (sSet r x v)) ∧ MA (nSet r x v) μ' ∧ FrR 52 80 μ μ') := by
  refine Sat.of (L := [some (.ref 52), some (.int x), some (.int v), none]) (by decide) (fun _ => rfl) (fun _ => rfl) ?_
  refine go_il1 dX12_set_0 (go_ic0 dX12_set_1 (go_ic1 dX12_set_2 (go_S3r mcX12_in mvX12_in kX12_104 dX12_set_3 rfl rfl (sX12_in _ _ _ _) ?_)))
  refine go_ifeqB 36 dX12_set_6 (by decide) (fun h6 => ?_) (fun h6 => ?_)
  · refine go_bipush (v := -2) dX12_set_36 (by decide) ?_
    refine go_iret dX12_set_38 ?_
    exact ⟨by rw [sSet, if_neg hx0, if_neg hx1], by rw [nSet, if_neg hx0, if_neg hx1]; exact hA, FrR.rf μ⟩
  · exact absurd h6 (gf (gin01 hx0 hx1))

theorem m_set {r : RS} {μ : gm_M} (hA : MA r μ) (x v : Int32) : Sat yX12_set cX12_set 4 (some .int) 1 [.ref 52, .int x, .int v] μ (fun r' μ' => r' = some (.int (sSet r x v)) ∧ MA (nSet r x v) μ' ∧ FrR 52 80 μ μ') := by
  by_cases h0 : x = 0
  · subst h0; exact m_set0 hA v
  · by_cases h1 : x = 1
    · subst h1; exact m_set1 hA v
    · exact m_setB hA h0 h1 v
theorem MA.mk {r r2 : RS} {μ μ' : gm_M} (h : MA r μ) (e0 : ra0 r2 = ra0 r) (e1 : ra1 r2 = ra1 r) (es : rst r2 = rst r) (ef : rfi r2 = rfi r) (ho : rok r2) (hm : MM r2 μ') (e : ∀ c, (c = 53 ∨ c = 54 ∨ (76 ≤ c ∧ c ≤ 79) ∨ c < 52 ∨ 80 < c) → μ'.1 c = μ.1 c) (g : μ'.1 52 37 = μ.1 52 37) : MA r2 μ' ∧ FrR 52 80 μ μ' := by
  obtain ⟨o, m0, m1, c, d⟩ := h
  refine ⟨⟨ho, ?_, ?_, hm, ?_⟩, fun c hc => e c (by omega)⟩
  · unfold MT0; rw [e0]; exact MT0.cong (r := r) m0 (fun c hc => e c (by omega))
  · unfold MT1; rw [e1]; exact MT1.cong (r := r) m1 (fun c hc => e c (by omega))
  · unfold MS; rw [es, ef]; exact MS.cong (r := r) d (fun c hc => e c (by omega)) g
theorem sMark_g (N : Nat) (x y : Int32) : sMark13 N x y = (if gin x 0 29 = true then (if gin y 0 7 = true then (if N < 8 then nI (N + 1) else -4) else -2) else -2) ∧ sMark17 N x y = (if gin x 0 29 = true then (if gin y 0 7 = true then (if N < 4 then nI (N + 1) else -4) else -2) else -2) ∧ sMark21 N x y = (if gin x 0 29 = true then (if gin y 0 7 = true then (if N < 8 then nI (N + 1) else -4) else -2) else -2) := by
  unfold sMark13 sMark17 sMark21
  rw [ite_gin3, ite_gin3, gin_night]
  exact ⟨rfl, rfl, rfl⟩
theorem gin07 (y : Int32) : gin y 0 7 = (decide (¬ y < 0) && decide (y < 8)) := by
  have e : (7 < y) = (¬ y < 8) := propext (by
    rw [Int32.lt_iff_toInt_lt, Int32.lt_iff_toInt_lt]
    have e1 : (8 : Int32).toInt = 8 := by decide
    have e2 : (7 : Int32).toInt = 7 := by decide
    rw [e1, e2]; omega)
  unfold gin
  simp only [e, Classical.not_not]
theorem bMark_g (N : Nat) (x y : Int32) : bMark13 N x y = (gin x 0 29 && (gin y 0 7 && decide (N < 8))) ∧ bMark17 N x y = (gin x 0 29 && (gin y 0 7 && decide (N < 4))) ∧ bMark21 N x y = (gin x 0 29 && (gin y 0 7 && decide (N < 8))) := by
  unfold bMark13 bMark17 bMark21
  rw [gin_night, gin07, Bool.and_assoc, Bool.and_assoc]
  exact ⟨rfl, rfl, rfl⟩
set_option maxRecDepth 100000 in
set_option maxHeartbeats 400000 in
theorem m_turning {r : RS} {μ : gm_M} (hA : MA r μ) (x y : Int32) : Sat yX12_turning cX12_turning 3 (some .int) 2 [(.ref 52), (.int x), (.int y)] μ (fun r' μ' => r' = some (.int (sMark13 (rtu r).1 x y)) ∧ MA (nTurn r x y) μ' ∧ FrR 52 80 μ μ') := by
  have hN := hA.1.2.2.2.2.1.1
  refine Sat.of (L := [some (.ref 52), some (.int x), some (.int y)]) (by decide) (fun _ => rfl) (fun _ => rfl) ?_
  refine go_il1 dX12_turning_0 (go_S1r mcX12_isNight mvX12_isNight kX12_148 dX12_turning_1 rfl rfl (sX12_isNight _ _) ?_)
  refine go_ifeqB 17 dX12_turning_4 (by decide) (fun h4 => ?_) (fun h4 => ?_)
  · refine go_bipush (v := -2) dX12_turning_17 (by decide) ?_
    refine go_iret dX12_turning_19 ?_
    exact ⟨by rw [(sMark_g (rtu r).1 x y).1, if_neg (gf h4)], by rw [nTurn, (bMark_g (rtu r).1 x y).1, h4, Bool.false_and, if_neg (by decide)]; exact hA, FrR.rf μ⟩
  · refine go_il2 dX12_turning_7 (go_ic0 dX12_turning_8 (go_bipush (v := 7) dX12_turning_9 (by decide) (go_S3r mcX12_in mvX12_in kX12_104 dX12_turning_11 rfl rfl (sX12_in _ _ _ _) ?_)))
    refine go_ifneB 20 dX12_turning_14 (by decide) (fun h14 => ?_) (fun h14 => ?_)
    · refine go_al0 dX12_turning_20 (go_getI fX12_154 rfl rfl dX12_turning_21 ?_)
      rw [hA.2.2.2.1.2.1.1]
      refine go_bipush (v := 8) dX12_turning_24 (by decide) ?_
      refine go_cne 32 dX12_turning_26 (by decide) (fun h26 => ?_) (fun h26 => ?_)
      · have e9 : (rtu r).1 < 8 := by
          have : ¬ (rtu r).1 = 8 := fun z => h26 (by rw [z]; rfl)
          omega
        refine go_al0 dX12_turning_32 (go_getR (j := 60) fX12_31 rfl rfl dX12_turning_33 (go_al0 dX12_turning_36 (go_getI fX12_154 rfl rfl dX12_turning_37 ?_)))
        rw [hA.2.2.2.1.2.1.1]
        refine go_il1 dX12_turning_40 (go_iast rfl (vp_in_nI (show (rtu r).1 < 8 by omega) (by decide)) dX12_turning_41 ?_)
        rw [nI_clamp (show (rtu r).1 < 2 ^ 31 by omega)]
        refine go_al0 dX12_turning_42 (go_getR (j := 61) fX12_34 rfl rfl dX12_turning_43 (go_al0 dX12_turning_46 (go_getI fX12_154 rfl rfl dX12_turning_47 ?_)))
        rw [gm_In _ _ _ (by decide), hA.2.2.2.1.2.1.1]
        refine go_il2 dX12_turning_50 (go_iast rfl (vp_in_nI (show (rtu r).1 < 8 by omega) (by decide)) dX12_turning_51 ?_)
        rw [nI_clamp (show (rtu r).1 < 2 ^ 31 by omega)]
        refine go_al0 dX12_turning_52 (go_dup dX12_turning_53 rfl (go_getI fX12_154 rfl rfl dX12_turning_54 ?_))
        rw [gm_In _ _ _ (by decide), gm_In _ _ _ (by decide), hA.2.2.2.1.2.1.1]
        refine go_ic1 dX12_turning_57 (go_iadd dX12_turning_58 ?_)
        rw [nI_1]
        refine go_putI fX12_154 rfl rfl dX12_turning_59 (go_al0 dX12_turning_62 (go_getI fX12_154 rfl rfl dX12_turning_63 ?_))
        refine go_iret dX12_turning_66 ?_
        obtain ⟨k, hk, rfl⟩ := gnight_of (by rw [← gin_night]; exact h4)
        obtain ⟨l, hl, rfl⟩ := gin_of (N := 7) (by decide) (by decide) h14
        have ho : rok (wTu r ((rtu r).1 + 1, updN (rtu r).2.1 (rtu r).1 k, updN (rtu r).2.2 (rtu r).1 l)) := by
          obtain ⟨o1, o2, o3, o4, o5, o6, o7, o8⟩ := hA.1
          refine ⟨o1, o2, o3, o4, ⟨by show (rtu r).1 + 1 ≤ 8; omega, fun i hi => ?_⟩, o6, o7, o8⟩
          show updN (rtu r).2.1 (rtu r).1 k i < 30 ∧ updN (rtu r).2.2 (rtu r).1 l i < 8
          have hi : i < (rtu r).1 + 1 := hi
          unfold updN
          by_cases z : i = (rtu r).1
          · rw [if_pos z, if_pos z]; omega
          · rw [if_neg z, if_neg z]; exact o5.2 i (by omega)
        have hm : MM (wTu r ((rtu r).1 + 1, updN (rtu r).2.1 (rtu r).1 k, updN (rtu r).2.2 (rtu r).1 l)) (gm_I (gm_I (gm_I μ 60 (rtu r).1 (nI k)) 61 (rtu r).1 (nI l)) 52 11 (nI ((rtu r).1 + 1))) := ⟨hA.2.2.2.1.1, ⟨gm_Is _ _ _ _, fun i hi => by
            have hi : i < (rtu r).1 + 1 := hi
            have e1 : (gm_I (gm_I (gm_I μ 60 (rtu r).1 (nI k)) 61 (rtu r).1 (nI l)) 52 11 (nI ((rtu r).1 + 1))).1 60 i = if i = (rtu r).1 then nI k else μ.1 60 i := by simp [gm_I1]
            have e2 : (gm_I (gm_I (gm_I μ 60 (rtu r).1 (nI k)) 61 (rtu r).1 (nI l)) 52 11 (nI ((rtu r).1 + 1))).1 61 i = if i = (rtu r).1 then nI l else μ.1 61 i := by simp [gm_I1]
            show _ = nI (updN (rtu r).2.1 (rtu r).1 k i) ∧ _ = nI (updN (rtu r).2.2 (rtu r).1 l i)
            rw [e1, e2]
            unfold updN
            by_cases z : i = (rtu r).1
            · rw [if_pos z, if_pos z, if_pos z, if_pos z]; exact ⟨rfl, rfl⟩
            · rw [if_neg z, if_neg z, if_neg z, if_neg z]; exact hA.2.2.2.1.2.1.2 i (by omega)⟩, hA.2.2.2.1.2.2.1, hA.2.2.2.1.2.2.2⟩
        have hw := hA.mk (r2 := wTu r ((rtu r).1 + 1, updN (rtu r).2.1 (rtu r).1 k, updN (rtu r).2.2 (rtu r).1 l)) (μ' := gm_I (gm_I (gm_I μ 60 (rtu r).1 (nI k)) 61 (rtu r).1 (nI l)) 52 11 (nI ((rtu r).1 + 1))) rfl rfl rfl rfl ho hm (fun c hc => by rw [gm_In _ _ _ (by omega), gm_In _ _ _ (by omega), gm_In _ _ _ (by omega)]) (by rw [gm_Io _ _ _ (by decide), gm_In _ _ _ (by decide), gm_In _ _ _ (by decide)])
        refine ⟨by rw [(sMark_g (rtu r).1 _ _).1, if_pos h4, if_pos h14, if_pos e9, gm_Is], ?_, hw.2⟩
        rw [nTurn, (bMark_g (rtu r).1 _ _).1, h4, h14, decide_eq_true e9, if_pos (show (true && (true && true)) = true from rfl), wN_nI (by omega), wN_nI (by omega)]
        exact hw.1
      · refine go_bipush (v := -4) dX12_turning_29 (by decide) ?_
        refine go_iret dX12_turning_31 ?_
        have e9 : ¬ (rtu r).1 < 8 := by
          have := (nI_eq (b := 8) (by omega) (by decide)).mp h26
          omega
        exact ⟨by rw [(sMark_g (rtu r).1 x y).1, if_pos h4, if_pos h14, if_neg e9], by rw [nTurn, (bMark_g (rtu r).1 x y).1, h4, h14, decide_eq_false e9, if_neg (by decide)]; exact hA, FrR.rf μ⟩
    · refine go_bipush (v := -2) dX12_turning_17 (by decide) ?_
      refine go_iret dX12_turning_19 ?_
      exact ⟨by rw [(sMark_g (rtu r).1 x y).1, if_pos h4, if_neg (gf h14)], by rw [nTurn, (bMark_g (rtu r).1 x y).1, h4, h14, Bool.false_and, Bool.and_false, if_neg (by decide)]; exact hA, FrR.rf μ⟩

set_option maxRecDepth 100000 in
set_option maxHeartbeats 400000 in
theorem m_knock {r : RS} {μ : gm_M} (hA : MA r μ) (x y : Int32) : Sat yX12_knock cX12_knock 3 (some .int) 2 [(.ref 52), (.int x), (.int y)] μ (fun r' μ' => r' = some (.int (sMark17 (rkn r).1 x y)) ∧ MA (nKnock r x y) μ' ∧ FrR 52 80 μ μ') := by
  have hN := hA.1.2.2.2.2.2.1.1
  refine Sat.of (L := [some (.ref 52), some (.int x), some (.int y)]) (by decide) (fun _ => rfl) (fun _ => rfl) ?_
  refine go_il1 dX12_knock_0 (go_S1r mcX12_isNight mvX12_isNight kX12_148 dX12_knock_1 rfl rfl (sX12_isNight _ _) ?_)
  refine go_ifeqB 17 dX12_knock_4 (by decide) (fun h4 => ?_) (fun h4 => ?_)
  · refine go_bipush (v := -2) dX12_knock_17 (by decide) ?_
    refine go_iret dX12_knock_19 ?_
    exact ⟨by rw [(sMark_g (rkn r).1 x y).2.1, if_neg (gf h4)], by rw [nKnock, (bMark_g (rkn r).1 x y).2.1, h4, Bool.false_and, if_neg (by decide)]; exact hA, FrR.rf μ⟩
  · refine go_il2 dX12_knock_7 (go_ic0 dX12_knock_8 (go_bipush (v := 7) dX12_knock_9 (by decide) (go_S3r mcX12_in mvX12_in kX12_104 dX12_knock_11 rfl rfl (sX12_in _ _ _ _) ?_)))
    refine go_ifneB 20 dX12_knock_14 (by decide) (fun h14 => ?_) (fun h14 => ?_)
    · refine go_al0 dX12_knock_20 (go_getI fX12_157 rfl rfl dX12_knock_21 ?_)
      rw [hA.2.2.2.1.2.2.1.1]
      refine go_ic4 dX12_knock_24 ?_
      refine go_cne 31 dX12_knock_25 (by decide) (fun h25 => ?_) (fun h25 => ?_)
      · have e9 : (rkn r).1 < 4 := by
          have : ¬ (rkn r).1 = 4 := fun z => h25 (by rw [z]; rfl)
          omega
        refine go_al0 dX12_knock_31 (go_getR (j := 62) fX12_37 rfl rfl dX12_knock_32 (go_al0 dX12_knock_35 (go_getI fX12_157 rfl rfl dX12_knock_36 ?_)))
        rw [hA.2.2.2.1.2.2.1.1]
        refine go_il1 dX12_knock_39 (go_iast rfl (vp_in_nI (show (rkn r).1 < 4 by omega) (by decide)) dX12_knock_40 ?_)
        rw [nI_clamp (show (rkn r).1 < 2 ^ 31 by omega)]
        refine go_al0 dX12_knock_41 (go_getR (j := 63) fX12_40 rfl rfl dX12_knock_42 (go_al0 dX12_knock_45 (go_getI fX12_157 rfl rfl dX12_knock_46 ?_)))
        rw [gm_In _ _ _ (by decide), hA.2.2.2.1.2.2.1.1]
        refine go_il2 dX12_knock_49 (go_iast rfl (vp_in_nI (show (rkn r).1 < 4 by omega) (by decide)) dX12_knock_50 ?_)
        rw [nI_clamp (show (rkn r).1 < 2 ^ 31 by omega)]
        refine go_al0 dX12_knock_51 (go_dup dX12_knock_52 rfl (go_getI fX12_157 rfl rfl dX12_knock_53 ?_))
        rw [gm_In _ _ _ (by decide), gm_In _ _ _ (by decide), hA.2.2.2.1.2.2.1.1]
        refine go_ic1 dX12_knock_56 (go_iadd dX12_knock_57 ?_)
        rw [nI_1]
        refine go_putI fX12_157 rfl rfl dX12_knock_58 (go_al0 dX12_knock_61 (go_getI fX12_157 rfl rfl dX12_knock_62 ?_))
        refine go_iret dX12_knock_65 ?_
        obtain ⟨k, hk, rfl⟩ := gnight_of (by rw [← gin_night]; exact h4)
        obtain ⟨l, hl, rfl⟩ := gin_of (N := 7) (by decide) (by decide) h14
        have ho : rok (wKn r ((rkn r).1 + 1, updN (rkn r).2.1 (rkn r).1 k, updN (rkn r).2.2 (rkn r).1 l)) := by
          obtain ⟨o1, o2, o3, o4, o5, o6, o7, o8⟩ := hA.1
          refine ⟨o1, o2, o3, o4, o5, ⟨by show (rkn r).1 + 1 ≤ 4; omega, fun i hi => ?_⟩, o7, o8⟩
          show updN (rkn r).2.1 (rkn r).1 k i < 30 ∧ updN (rkn r).2.2 (rkn r).1 l i < 8
          have hi : i < (rkn r).1 + 1 := hi
          unfold updN
          by_cases z : i = (rkn r).1
          · rw [if_pos z, if_pos z]; omega
          · rw [if_neg z, if_neg z]; exact o6.2 i (by omega)
        have hm : MM (wKn r ((rkn r).1 + 1, updN (rkn r).2.1 (rkn r).1 k, updN (rkn r).2.2 (rkn r).1 l)) (gm_I (gm_I (gm_I μ 62 (rkn r).1 (nI k)) 63 (rkn r).1 (nI l)) 52 14 (nI ((rkn r).1 + 1))) := ⟨hA.2.2.2.1.1, hA.2.2.2.1.2.1, ⟨gm_Is _ _ _ _, fun i hi => by
            have hi : i < (rkn r).1 + 1 := hi
            have e1 : (gm_I (gm_I (gm_I μ 62 (rkn r).1 (nI k)) 63 (rkn r).1 (nI l)) 52 14 (nI ((rkn r).1 + 1))).1 62 i = if i = (rkn r).1 then nI k else μ.1 62 i := by simp [gm_I1]
            have e2 : (gm_I (gm_I (gm_I μ 62 (rkn r).1 (nI k)) 63 (rkn r).1 (nI l)) 52 14 (nI ((rkn r).1 + 1))).1 63 i = if i = (rkn r).1 then nI l else μ.1 63 i := by simp [gm_I1]
            show _ = nI (updN (rkn r).2.1 (rkn r).1 k i) ∧ _ = nI (updN (rkn r).2.2 (rkn r).1 l i)
            rw [e1, e2]
            unfold updN
            by_cases z : i = (rkn r).1
            · rw [if_pos z, if_pos z, if_pos z, if_pos z]; exact ⟨rfl, rfl⟩
            · rw [if_neg z, if_neg z, if_neg z, if_neg z]; exact hA.2.2.2.1.2.2.1.2 i (by omega)⟩, hA.2.2.2.1.2.2.2⟩
        have hw := hA.mk (r2 := wKn r ((rkn r).1 + 1, updN (rkn r).2.1 (rkn r).1 k, updN (rkn r).2.2 (rkn r).1 l)) (μ' := gm_I (gm_I (gm_I μ 62 (rkn r).1 (nI k)) 63 (rkn r).1 (nI l)) 52 14 (nI ((rkn r).1 + 1))) rfl rfl rfl rfl ho hm (fun c hc => by rw [gm_In _ _ _ (by omega), gm_In _ _ _ (by omega), gm_In _ _ _ (by omega)]) (by rw [gm_Io _ _ _ (by decide), gm_In _ _ _ (by decide), gm_In _ _ _ (by decide)])
        refine ⟨by rw [(sMark_g (rkn r).1 _ _).2.1, if_pos h4, if_pos h14, if_pos e9, gm_Is], ?_, hw.2⟩
        rw [nKnock, (bMark_g (rkn r).1 _ _).2.1, h4, h14, decide_eq_true e9, if_pos (show (true && (true && true)) = true from rfl), wN_nI (by omega), wN_nI (by omega)]
        exact hw.1
      · refine go_bipush (v := -4) dX12_knock_28 (by decide) ?_
        refine go_iret dX12_knock_30 ?_
        have e9 : ¬ (rkn r).1 < 4 := by
          have := (nI_eq (b := 4) (by omega) (by decide)).mp h25
          omega
        exact ⟨by rw [(sMark_g (rkn r).1 x y).2.1, if_pos h4, if_pos h14, if_neg e9], by rw [nKnock, (bMark_g (rkn r).1 x y).2.1, h4, h14, decide_eq_false e9, if_neg (by decide)]; exact hA, FrR.rf μ⟩
    · refine go_bipush (v := -2) dX12_knock_17 (by decide) ?_
      refine go_iret dX12_knock_19 ?_
      exact ⟨by rw [(sMark_g (rkn r).1 x y).2.1, if_pos h4, if_neg (gf h14)], by rw [nKnock, (bMark_g (rkn r).1 x y).2.1, h4, h14, Bool.false_and, Bool.and_false, if_neg (by decide)]; exact hA, FrR.rf μ⟩

set_option maxRecDepth 100000 in
set_option maxHeartbeats 400000 in
theorem m_listen {r : RS} {μ : gm_M} (hA : MA r μ) (x y z : Int32) : Sat yX12_listen cX12_listen 4 (some .int) 2 [(.ref 52), (.int x), (.int y), (.int z)] μ (fun r' μ' => r' = some (.int (sListen r x y z)) ∧ MA (nListen r x y z) μ' ∧ FrR 52 80 μ μ') := by
  have hN := hA.1.2.2.2.2.2.2.1.1
  refine Sat.of (L := [some (.ref 52), some (.int x), some (.int y), some (.int z)]) (by decide) (fun _ => rfl) (fun _ => rfl) ?_
  refine go_il1 dX12_listen_0 (go_S1r mcX12_isNight mvX12_isNight kX12_148 dX12_listen_1 rfl rfl (sX12_isNight _ _) ?_)
  refine go_ifeqB 27 dX12_listen_4 (by decide) (fun h4 => ?_) (fun h4 => ?_)
  · refine go_bipush (v := -2) dX12_listen_27 (by decide) ?_
    refine go_iret dX12_listen_29 ?_
    refine ⟨?_, ?_, FrR.rf μ⟩
    · rw [sListen, ite_gin, (sMark_g (rli r).1 x y).2.2, if_neg (gf h4)]; split <;> rfl
    · rw [nListen, ite_gin, (bMark_g (rli r).1 x y).2.2, h4, Bool.false_and, if_neg (show ¬ false = true by decide)]; split <;> exact hA
  · refine go_il2 dX12_listen_7 (go_ic0 dX12_listen_8 (go_bipush (v := 7) dX12_listen_9 (by decide) (go_S3r mcX12_in mvX12_in kX12_104 dX12_listen_11 rfl rfl (sX12_in _ _ _ _) ?_)))
    refine go_ifeqB 27 dX12_listen_14 (by decide) (fun h14 => ?_) (fun h14 => ?_)
    · refine go_bipush (v := -2) dX12_listen_27 (by decide) ?_
      refine go_iret dX12_listen_29 ?_
      refine ⟨?_, ?_, FrR.rf μ⟩
      · rw [sListen, ite_gin, (sMark_g (rli r).1 x y).2.2, if_pos h4, if_neg (gf h14)]; split <;> rfl
      · rw [nListen, ite_gin, (bMark_g (rli r).1 x y).2.2, h4, h14, Bool.false_and, Bool.and_false, if_neg (show ¬ false = true by decide)]; split <;> exact hA
    · refine go_il3 dX12_listen_17 (go_ic0 dX12_listen_18 (go_bipush (v := 8) dX12_listen_19 (by decide) (go_S3r mcX12_in mvX12_in kX12_104 dX12_listen_21 rfl rfl (sX12_in _ _ _ _) ?_)))
      refine go_ifneB 30 dX12_listen_24 (by decide) (fun h24 => ?_) (fun h24 => ?_)
      · refine go_al0 dX12_listen_30 (go_getI fX12_237 rfl rfl dX12_listen_31 ?_)
        rw [hA.2.2.2.1.2.2.2.1]
        refine go_bipush (v := 8) dX12_listen_34 (by decide) ?_
        refine go_cne 42 dX12_listen_36 (by decide) (fun h36 => ?_) (fun h36 => ?_)
        · have e9 : (rli r).1 < 8 := by
            have : ¬ (rli r).1 = 8 := fun z => h36 (by rw [z]; rfl)
            omega
          refine go_al0 dX12_listen_42 (go_getR (j := 72) fX12_67 rfl rfl dX12_listen_43 (go_al0 dX12_listen_46 (go_getI fX12_237 rfl rfl dX12_listen_47 ?_)))
          rw [hA.2.2.2.1.2.2.2.1]
          refine go_il1 dX12_listen_50 (go_iast rfl (vp_in_nI (show (rli r).1 < 8 by omega) (by decide)) dX12_listen_51 ?_)
          rw [nI_clamp (show (rli r).1 < 2 ^ 31 by omega)]
          refine go_al0 dX12_listen_52 (go_getR (j := 73) fX12_70 rfl rfl dX12_listen_53 (go_al0 dX12_listen_56 (go_getI fX12_237 rfl rfl dX12_listen_57 ?_)))
          rw [gm_In _ _ _ (by decide), hA.2.2.2.1.2.2.2.1]
          refine go_il2 dX12_listen_60 (go_iast rfl (vp_in_nI (show (rli r).1 < 8 by omega) (by decide)) dX12_listen_61 ?_)
          rw [nI_clamp (show (rli r).1 < 2 ^ 31 by omega)]
          refine go_al0 dX12_listen_62 (go_getR (j := 74) fX12_73 rfl rfl dX12_listen_63 (go_al0 dX12_listen_66 (go_getI fX12_237 rfl rfl dX12_listen_67 ?_)))
          rw [gm_In _ _ _ (by decide), gm_In _ _ _ (by decide), hA.2.2.2.1.2.2.2.1]
          refine go_il3 dX12_listen_70 (go_iast rfl (vp_in_nI (show (rli r).1 < 8 by omega) (by decide)) dX12_listen_71 ?_)
          rw [nI_clamp (show (rli r).1 < 2 ^ 31 by omega)]
          refine go_al0 dX12_listen_72 (go_dup dX12_listen_73 rfl (go_getI fX12_237 rfl rfl dX12_listen_74 ?_))
          rw [gm_In _ _ _ (by decide), gm_In _ _ _ (by decide), gm_In _ _ _ (by decide), hA.2.2.2.1.2.2.2.1]
          refine go_ic1 dX12_listen_77 (go_iadd dX12_listen_78 ?_)
          rw [nI_1]
          refine go_putI fX12_237 rfl rfl dX12_listen_79 (go_al0 dX12_listen_82 (go_getI fX12_237 rfl rfl dX12_listen_83 ?_))
          refine go_iret dX12_listen_86 ?_
          obtain ⟨k, hk, rfl⟩ := gnight_of (by rw [← gin_night]; exact h4)
          obtain ⟨l, hl, rfl⟩ := gin_of (N := 7) (by decide) (by decide) h14
          obtain ⟨z, hz, rfl⟩ := gin_of (N := 8) (by decide) (by decide) h24
          have ho : rok (wLi r ((rli r).1 + 1, updN (rli r).2.1 (rli r).1 k, updN (rli r).2.2.1 (rli r).1 l, updN (rli r).2.2.2 (rli r).1 z)) := by
            obtain ⟨o1, o2, o3, o4, o5, o6, o7, o8⟩ := hA.1
            refine ⟨o1, o2, o3, o4, o5, o6, ⟨by show (rli r).1 + 1 ≤ 8; omega, fun i hi => ?_⟩, o8⟩
            show updN (rli r).2.1 (rli r).1 k i < 30 ∧ updN (rli r).2.2.1 (rli r).1 l i < 8 ∧ updN (rli r).2.2.2 (rli r).1 z i ≤ 8
            have hi : i < (rli r).1 + 1 := hi
            unfold updN
            by_cases y : i = (rli r).1
            · rw [if_pos y, if_pos y, if_pos y]; omega
            · rw [if_neg y, if_neg y, if_neg y]; exact o7.2 i (by omega)
          have hm : MM (wLi r ((rli r).1 + 1, updN (rli r).2.1 (rli r).1 k, updN (rli r).2.2.1 (rli r).1 l, updN (rli r).2.2.2 (rli r).1 z)) (gm_I (gm_I (gm_I (gm_I μ 72 (rli r).1 (nI k)) 73 (rli r).1 (nI l)) 74 (rli r).1 (nI z)) 52 27 (nI ((rli r).1 + 1))) := ⟨hA.2.2.2.1.1, hA.2.2.2.1.2.1, hA.2.2.2.1.2.2.1, ⟨gm_Is _ _ _ _, fun i hi => by
              have hi : i < (rli r).1 + 1 := hi
              have e1 : (gm_I (gm_I (gm_I (gm_I μ 72 (rli r).1 (nI k)) 73 (rli r).1 (nI l)) 74 (rli r).1 (nI z)) 52 27 (nI ((rli r).1 + 1))).1 72 i = if i = (rli r).1 then nI k else μ.1 72 i := by simp [gm_I1]
              have e2 : (gm_I (gm_I (gm_I (gm_I μ 72 (rli r).1 (nI k)) 73 (rli r).1 (nI l)) 74 (rli r).1 (nI z)) 52 27 (nI ((rli r).1 + 1))).1 73 i = if i = (rli r).1 then nI l else μ.1 73 i := by simp [gm_I1]
              have e3 : (gm_I (gm_I (gm_I (gm_I μ 72 (rli r).1 (nI k)) 73 (rli r).1 (nI l)) 74 (rli r).1 (nI z)) 52 27 (nI ((rli r).1 + 1))).1 74 i = if i = (rli r).1 then nI z else μ.1 74 i := by simp [gm_I1]
              show _ = nI (updN (rli r).2.1 (rli r).1 k i) ∧ _ = nI (updN (rli r).2.2.1 (rli r).1 l i) ∧ _ = nI (updN (rli r).2.2.2 (rli r).1 z i)
              rw [e1, e2, e3]
              unfold updN
              by_cases y : i = (rli r).1
              · rw [if_pos y, if_pos y, if_pos y, if_pos y, if_pos y, if_pos y]; exact ⟨rfl, rfl, rfl⟩
              · rw [if_neg y, if_neg y, if_neg y, if_neg y, if_neg y, if_neg y]; exact hA.2.2.2.1.2.2.2.2 i (by omega)⟩⟩
          have hw := hA.mk (r2 := wLi r ((rli r).1 + 1, updN (rli r).2.1 (rli r).1 k, updN (rli r).2.2.1 (rli r).1 l, updN (rli r).2.2.2 (rli r).1 z)) (μ' := gm_I (gm_I (gm_I (gm_I μ 72 (rli r).1 (nI k)) 73 (rli r).1 (nI l)) 74 (rli r).1 (nI z)) 52 27 (nI ((rli r).1 + 1))) rfl rfl rfl rfl ho hm (fun c hc => by rw [gm_In _ _ _ (by omega), gm_In _ _ _ (by omega), gm_In _ _ _ (by omega), gm_In _ _ _ (by omega)]) (by rw [gm_Io _ _ _ (by decide), gm_In _ _ _ (by decide), gm_In _ _ _ (by decide), gm_In _ _ _ (by decide)])
          refine ⟨by rw [sListen, ite_gin, if_pos h24, (sMark_g (rli r).1 _ _).2.2, if_pos h4, if_pos h14, if_pos e9, gm_Is], ?_, hw.2⟩
          rw [nListen, ite_gin, if_pos h24, (bMark_g (rli r).1 _ _).2.2, h4, h14, decide_eq_true e9, if_pos (show (true && (true && true)) = true from rfl), wN_nI (by omega), wN_nI (by omega), wN_nI (by omega)]
          exact hw.1
        · refine go_bipush (v := -4) dX12_listen_39 (by decide) ?_
          refine go_iret dX12_listen_41 ?_
          have e9 : ¬ (rli r).1 < 8 := by
            have := (nI_eq (b := 8) (by omega) (by decide)).mp h36
            omega
          exact ⟨by rw [sListen, ite_gin, if_pos h24, (sMark_g (rli r).1 x y).2.2, if_pos h4, if_pos h14, if_neg e9], by rw [nListen, ite_gin, if_pos h24, (bMark_g (rli r).1 x y).2.2, h4, h14, decide_eq_false e9, if_neg (by decide)]; exact hA, FrR.rf μ⟩
      · refine go_bipush (v := -2) dX12_listen_27 (by decide) ?_
        refine go_iret dX12_listen_29 ?_
        exact ⟨by rw [sListen, ite_gin, if_neg (gf h24)], by rw [nListen, ite_gin, if_neg (gf h24)]; exact hA, FrR.rf μ⟩

