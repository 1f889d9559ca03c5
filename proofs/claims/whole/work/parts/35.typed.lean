/-! the texts typed, wiped, undone -/
def w0 (r : RS) (t : TX) : RS := (t, ra1 r, rti r, rsr r, rtu r, rkn r, rli r, rst r, rfi r)
def w1 (r : RS) (t : TX) : RS := (ra0 r, t, rti r, rsr r, rtu r, rkn r, rli r, rst r, rfi r)
theorem CA_w0 {r : RS} {m : gm_M} {N : Nat} {f : Nat → Nat} (ho : rok r) (hb : CC r m) (hc : CM r m) (hd : CS r m) (hN : N ≤ 71) (h2 : m.1 2 1 = nI N) (hf : ∀ j, j < N → m.1 3 j = nI (f j) ∧ f j < 256) {m' : gm_M} (e : m' = crdwF (crdwE (crdw m N))) : CA (w0 r (N, f)) m' ∧ FrR 6 10 m m' := by
  obtain ⟨k1, k2, k3⟩ := crdwF_t hN h2 hf
  rw [← e] at k1 k2 k3
  obtain ⟨o1, o2, o3, o4, o5, o6, o7, o8⟩ := ho
  refine ⟨⟨⟨⟨hN, fun j hj => (hf j hj).2⟩, o2, o3, o4, o5, o6, o7, o8⟩, ⟨by rw [k3 2 (by decide)]; exact h2, fun j hj => by rw [k3 3 (by decide)]; exact (hf j hj).1, k1, k2⟩, hb.cong (fun c hc => k3 c (by omega)), hc.cong (fun c hc => k3 c (by omega)), hd.cong (fun c hc => k3 c (by omega))⟩, k3⟩
theorem CA_w1 {r : RS} {m : gm_M} {N : Nat} {f : Nat → Nat} (ho : rok r) (ha : CW r m) (hc : CM r m) (hd : CS r m) (hN : N ≤ 30) (h4 : m.1 4 1 = nI N) (hf : ∀ j, j < N → m.1 5 j = nI (f j) ∧ f j < 256) {m' : gm_M} (e : m' = cwl (cfig (crdc m N)) 30) : CA (w1 r (N, f)) m' ∧ FrR 11 12 m m' := by
  obtain ⟨k1, k2, k3, k4⟩ := cave_t hN h4 hf
  rw [← e] at k1 k2 k3 k4
  obtain ⟨o1, o2, o3, o4, o5, o6, o7, o8⟩ := ho
  refine ⟨⟨⟨o1, ⟨hN, fun j hj => (hf j hj).2⟩, o3, o4, o5, o6, o7, o8⟩, ha.cong (fun c hc => k4 c (by omega)), ⟨by rw [k4 4 (by decide)]; exact h4, fun j hj => by rw [k4 5 (by decide)]; exact (hf j hj).1, k1, k2, k3⟩, hc.cong (fun c hc => k4 c (by omega)), hd.cong (fun c hc => k4 c (by omega))⟩, k4⟩
theorem sX1_textOf0 (μ : gm_M) : Ret yX1_textOf cX1_textOf 2 (some (.object "CheeseEar$Text")) 0 [.ref 1, .int 0] μ (some (.ref 2)) μ := by have := sX1_textOf 0 μ; rw [if_pos rfl] at this; exact this
theorem sX1_textOf1 (μ : gm_M) : Ret yX1_textOf cX1_textOf 2 (some (.object "CheeseEar$Text")) 0 [.ref 1, .int 1] μ (some (.ref 4)) μ := by have := sX1_textOf 1 μ; rw [if_neg (by decide)] at this; exact this
def sTypeN (N M : Nat) (b : Int32) : Int32 := if b < 0 then -2 else if b ≤ 255 then (if N < M then nI (N + 1) else -4) else -2
def nTypeN (t : TX) (M : Nat) (b : Int32) : TX := if b < 0 then t else if b ≤ 255 then (if t.1 < M then (t.1 + 1, updN t.2 t.1 (wN b)) else t) else t
def sUndoN (N : Nat) : Int32 := if N = 0 then -3 else nI (N - 1)
theorem w0_same (r : RS) : w0 r (ra0 r) = r := rfl
theorem w1_same (r : RS) : w1 r (ra1 r) = r := rfl
set_option maxRecDepth 100000 in
set_option maxHeartbeats 400000 in
theorem p_type0 {r : RS} {μ : gm_M} (hC : CA r μ) (b : Int32) : Sat yX11_type cX11_type 4 (some .int) 5 [(.ref 0), (.int 0), (.int b)] μ (fun r' μ' => r' = some (.int (sTypeN (ra0 r).1 71 b)) ∧ CA (w0 r (nTypeN (ra0 r) 71 b)) μ' ∧ FrR 0 51 μ μ') := by
  refine Sat.of (L := [some (.ref 0), some (.int 0), some (.int b), none]) (by decide) (fun _ => rfl) (fun _ => rfl) ?_
  refine go_il1 dX11_type_0 (go_S1r mcX11_isText mvX11_isText kX11_53 dX11_type_1 rfl rfl (sX11_isText _ _) ?_)
  refine go_ifeqB 18 dX11_type_4 (by decide) (fun h4 => ?_) (fun h4 => ?_)
  · refine go_bipush (v := -2) dX11_type_18 (by decide) ?_
    refine go_iret dX11_type_20 ?_
    exact absurd h4 (by decide)
  · refine go_il2 dX11_type_7 ?_
    refine go_iflt 18 dX11_type_8 (by decide) (fun h8 => ?_) (fun h8 => ?_)
    · refine go_bipush (v := -2) dX11_type_18 (by decide) ?_
      refine go_iret dX11_type_20 ?_
      simp only [sTypeN, nTypeN, if_pos h8]
      exact ⟨trivial, hC, FrR.rf μ⟩
    · refine go_il2 dX11_type_11 (go_sipush (v := 255) dX11_type_12 (by decide) ?_)
      refine go_cle 21 dX11_type_15 (by decide) (fun h15 => ?_) (fun h15 => ?_)
      · refine go_al0 dX11_type_21 (go_getR (j := 1) fX11_12 rfl rfl dX11_type_22 (go_il1 dX11_type_25 (go_V1r mcX1_textOf mvX1_textOf kX11_57 rfl dX11_type_26 rfl rfl (sX1_textOf0 _) (go_as3 dX11_type_29 rfl rfl (go_al3 dX11_type_30 (go_V0r mcX8_isFull mvX8_isFull kX11_61 rfl dX11_type_31 rfl rfl (sX8_isFull_2 _) ?_))))))
        refine go_ifeqB 40 dX11_type_34 (by decide) (fun h34 => ?_) (fun h34 => ?_)
        · refine go_al3 dX11_type_40 (go_il2 dX11_type_41 (go_V1v mcX8_append mvX8_append kX11_67 rfl dX11_type_42 rfl rfl (sX8_append_2 _ _ (by rw [hC.2.1.1]; exact nI_pos (by have := hC.1.1.1; omega)) (by simpa using h34)) ?_))
          have hT : (gm_I (gm_I μ 3 (μ.1 2 1).toNatClampNeg b) 2 1 (μ.1 2 1 + 1)).1 2 1 = nI ((ra0 r).1 + 1) := by rw [gm_Is, hC.2.1.1, nI_1]
          have hfr : ∀ a, a ≠ 2 ∧ a ≠ 3 → (gm_I (gm_I μ 3 (μ.1 2 1).toNatClampNeg b) 2 1 (μ.1 2 1 + 1)).1 a = μ.1 a := fun a ha => by rw [gm_In _ _ _ ha.1, gm_In _ _ _ ha.2]
          refine go_al0 dX11_type_45 (go_getR (j := 1) fX11_12 rfl rfl dX11_type_46 (go_il1 dX11_type_49 ?_))
          refine go_V1 mcX1_readAnew mvX1_readAnew kX11_71 rfl dX11_type_50 rfl rfl (sX1_readAnew0 _ hT (by have := hC.1.1.1; omega)) ?_
          rintro _ m50 ⟨rfl, e50⟩
          refine go_al3 dX11_type_53 (go_getI fX11_74 rfl rfl dX11_type_54 ?_)
          refine go_iret dX11_type_57 ?_
          have hN71 := hC.1.1.1
          have hln : μ.1 2 1 = nI (ra0 r).1 := hC.2.1.1
          have e34 : (μ.1 2 1 < nI 71) = ((ra0 r).1 < 71) := by rw [hln]; exact propext (nI_ltI (by omega) (by decide))
          have hf : (ra0 r).1 < 71 := by simpa [e34] using h34
          simp only [sTypeN, nTypeN, if_neg h8, if_pos h15, if_pos hf]
          obtain ⟨k, hk, rfl⟩ := int_of (B := 255) (N := 255) (by decide) (by decide) h8 h15
          rw [wN_nI (by omega)]
          have hg := CA_w0 (f := updN (ra0 r).2 (ra0 r).1 k) hC.1 (hC.2.2.1.cong (fun c hc => hfr c (by omega))) (hC.2.2.2.1.cong (fun c hc => hfr c (by omega))) (hC.2.2.2.2.cong (fun c hc => hfr c (by omega))) (by omega) hT (fun j hj => ?_) e50
          · refine ⟨?_, hg.1, fun a ha => by rw [hg.2 a (by omega)]; exact hfr a (by omega)⟩
            show some (Value.int (m50.1 2 1)) = _
            rw [hg.2 2 (by decide), hT]
          · rw [gm_In _ _ _ (by decide), gm_I1, if_pos rfl, show (μ.1 2 1).toNatClampNeg = (ra0 r).1 from by rw [hln]; exact nI_clamp (by omega)]
            unfold updN
            by_cases z : j = (ra0 r).1
            · rw [if_pos z, if_pos z]; exact ⟨rfl, by omega⟩
            · rw [if_neg z, if_neg z]; exact ⟨hC.2.1.2.1 j (by omega), hC.1.1.2 j (by omega)⟩
        · refine go_bipush (v := -4) dX11_type_37 (by decide) ?_
          refine go_iret dX11_type_39 ?_
          have hN71 := hC.1.1.1
          have hln : μ.1 2 1 = nI (ra0 r).1 := hC.2.1.1
          have e34 : (μ.1 2 1 < nI 71) = ((ra0 r).1 < 71) := by rw [hln]; exact propext (nI_ltI (by omega) (by decide))
          have hf : ¬ (ra0 r).1 < 71 := by simpa [e34] using h34
          simp only [sTypeN, nTypeN, if_neg h8, if_pos h15, if_neg hf]
          exact ⟨trivial, hC, FrR.rf μ⟩
      · refine go_bipush (v := -2) dX11_type_18 (by decide) ?_
        refine go_iret dX11_type_20 ?_
        simp only [sTypeN, nTypeN, if_neg h8, if_neg h15]
        exact ⟨trivial, hC, FrR.rf μ⟩

set_option maxRecDepth 100000 in
set_option maxHeartbeats 400000 in
theorem p_wipe0 {r : RS} {μ : gm_M} (hC : CA r μ) : Sat yX11_wipe cX11_wipe 4 (some .int) 5 [(.ref 0), (.int 0)] μ (fun r' μ' => r' = some (.int (nI (ra0 r).1)) ∧ CA (w0 r (0, (ra0 r).2)) μ' ∧ FrR 0 51 μ μ') := by
  refine Sat.of (L := [some (.ref 0), some (.int 0), none, none]) (by decide) (fun _ => rfl) (fun _ => rfl) ?_
  refine go_il1 dX11_wipe_0 (go_S1r mcX11_isText mvX11_isText kX11_53 dX11_wipe_1 rfl rfl (sX11_isText _ _) ?_)
  refine go_ifneB 10 dX11_wipe_4 (by decide) (fun h4 => ?_) (fun h4 => ?_)
  · refine go_al0 dX11_wipe_10 (go_getR (j := 1) fX11_12 rfl rfl dX11_wipe_11 (go_il1 dX11_wipe_14 (go_V1r mcX1_textOf mvX1_textOf kX11_57 rfl dX11_wipe_15 rfl rfl (sX1_textOf0 _) (go_as2 dX11_wipe_18 rfl rfl (go_al2 dX11_wipe_19 (go_getI fX11_74 rfl rfl dX11_wipe_20 (go_is3 dX11_wipe_23 rfl rfl (go_al2 dX11_wipe_24 (go_ic0 dX11_wipe_25 (go_putI fX11_74 rfl rfl dX11_wipe_26 ?_))))))))))
    have hT : (gm_I μ 2 1 0).1 2 1 = nI 0 := by rw [gm_Is]; rfl
    have hfr : ∀ a, a ≠ 2 → (gm_I μ 2 1 0).1 a = μ.1 a := fun a ha => gm_In _ _ _ ha
    refine go_al0 dX11_wipe_29 (go_getR (j := 1) fX11_12 rfl rfl dX11_wipe_30 (go_il1 dX11_wipe_33 ?_))
    refine go_V1 mcX1_readAnew mvX1_readAnew kX11_71 rfl dX11_wipe_34 rfl rfl (sX1_readAnew0 _ hT (by omega)) ?_
    rintro _ m34 ⟨rfl, e34⟩
    refine go_il3 dX11_wipe_37 ?_
    refine go_iret dX11_wipe_38 ?_
    have hg := CA_w0 (f := (ra0 r).2) hC.1 (hC.2.2.1.cong (fun c hc => hfr c (by omega))) (hC.2.2.2.1.cong (fun c hc => hfr c (by omega))) (hC.2.2.2.2.cong (fun c hc => hfr c (by omega))) (by omega) hT (fun j hj => by omega) e34
    exact ⟨by rw [hC.2.1.1], hg.1, fun a ha => by rw [hg.2 a (by omega)]; exact hfr a (by omega)⟩
  · refine go_bipush (v := -2) dX11_wipe_7 (by decide) ?_
    refine go_iret dX11_wipe_9 ?_
    exact absurd h4 (by decide)

set_option maxRecDepth 100000 in
set_option maxHeartbeats 400000 in
theorem p_undo0 {r : RS} {μ : gm_M} (hC : CA r μ) : Sat yX11_undo cX11_undo 3 (some .int) 5 [(.ref 0), (.int 0)] μ (fun r' μ' => r' = some (.int (sUndoN (ra0 r).1)) ∧ CA (w0 r ((ra0 r).1 - 1, (ra0 r).2)) μ' ∧ FrR 0 51 μ μ') := by
  refine Sat.of (L := [some (.ref 0), some (.int 0), none]) (by decide) (fun _ => rfl) (fun _ => rfl) ?_
  refine go_il1 dX11_undo_0 (go_S1r mcX11_isText mvX11_isText kX11_53 dX11_undo_1 rfl rfl (sX11_isText _ _) ?_)
  refine go_ifneB 10 dX11_undo_4 (by decide) (fun h4 => ?_) (fun h4 => ?_)
  · refine go_al0 dX11_undo_10 (go_getR (j := 1) fX11_12 rfl rfl dX11_undo_11 (go_il1 dX11_undo_14 (go_V1r mcX1_textOf mvX1_textOf kX11_57 rfl dX11_undo_15 rfl rfl (sX1_textOf0 _) (go_as2 dX11_undo_18 rfl rfl (go_al2 dX11_undo_19 (go_getI fX11_74 rfl rfl dX11_undo_20 ?_))))))
    refine go_ifgt 29 dX11_undo_23 (by decide) (fun h23 => ?_) (fun h23 => ?_)
    · refine go_al2 dX11_undo_29 (go_dup dX11_undo_30 rfl (go_getI fX11_74 rfl rfl dX11_undo_31 (go_ic1 dX11_undo_34 (go_isub dX11_undo_35 (go_putI fX11_74 rfl rfl dX11_undo_36 ?_)))))
      have hN71 := hC.1.1.1
      have hln : μ.1 2 1 = nI (ra0 r).1 := hC.2.1.1
      have hz : ¬ (ra0 r).1 = 0 := by
        intro z
        have h9 : (0 : Int32) < μ.1 2 1 := h23
        rw [hln, z] at h9
        exact absurd h9 (by decide)
      have hT : (gm_I μ 2 1 (μ.1 2 1 - 1)).1 2 1 = nI ((ra0 r).1 - 1) := by rw [gm_Is, hln, nI_lit1, pk_sub (by omega)]
      have hfr : ∀ a, a ≠ 2 → (gm_I μ 2 1 (μ.1 2 1 - 1)).1 a = μ.1 a := fun a ha => gm_In _ _ _ ha
      refine go_al0 dX11_undo_39 (go_getR (j := 1) fX11_12 rfl rfl dX11_undo_40 (go_il1 dX11_undo_43 ?_))
      refine go_V1 mcX1_readAnew mvX1_readAnew kX11_71 rfl dX11_undo_44 rfl rfl (sX1_readAnew0 _ hT (by omega)) ?_
      rintro _ m44 ⟨rfl, e44⟩
      refine go_al2 dX11_undo_47 (go_getI fX11_74 rfl rfl dX11_undo_48 ?_)
      refine go_iret dX11_undo_51 ?_
      have hg := CA_w0 (f := (ra0 r).2) hC.1 (hC.2.2.1.cong (fun c hc => hfr c (by omega))) (hC.2.2.2.1.cong (fun c hc => hfr c (by omega))) (hC.2.2.2.2.cong (fun c hc => hfr c (by omega))) (by omega) hT (fun j hj => ⟨by rw [gm_In _ _ _ (by decide)]; exact hC.2.1.2.1 j (by omega), hC.1.1.2 j (by omega)⟩) e44
      refine ⟨?_, hg.1, fun a ha => by rw [hg.2 a (by omega)]; exact hfr a (by omega)⟩
      show some (Value.int (m44.1 2 1)) = _
      rw [hg.2 2 (by decide), hT, sUndoN, if_neg hz]
    · refine go_bipush (v := -3) dX11_undo_26 (by decide) ?_
      refine go_iret dX11_undo_28 ?_
      have hN71 := hC.1.1.1
      have hln : μ.1 2 1 = nI (ra0 r).1 := hC.2.1.1
      have hz : (ra0 r).1 = 0 := by
        rcases Nat.eq_zero_or_pos (ra0 r).1 with z | z
        · exact z
        · exact absurd (show (0 : Int32) < μ.1 2 1 from by rw [hln, ← nI_0]; exact nI_lt z (by omega)) h23
      refine ⟨by rw [sUndoN, if_pos hz], ?_, FrR.rf μ⟩
      rw [show (ra0 r).1 - 1 = (ra0 r).1 by omega]
      exact hC
  · refine go_bipush (v := -2) dX11_undo_7 (by decide) ?_
    refine go_iret dX11_undo_9 ?_
    exact absurd h4 (by decide)

set_option maxRecDepth 100000 in
set_option maxHeartbeats 400000 in
theorem p_fault0 {r : RS} {μ : gm_M} (hC : CA r μ) : Sat yX11_fault cX11_fault 2 (some .int) 1 [(.ref 0), (.int 0)] μ (fun r' μ' => r' = some (.int (oI (pres (ra0 r).1 (ra0 r).2).1)) ∧ CA (r) μ' ∧ FrR 0 51 μ μ') := by
  refine Sat.of (L := [some (.ref 0), some (.int 0)]) (by decide) (fun _ => rfl) (fun _ => rfl) ?_
  refine go_il1 dX11_fault_0 (go_S1r mcX11_isText mvX11_isText kX11_53 dX11_fault_1 rfl rfl (sX11_isText _ _) ?_)
  refine go_ifneB 10 dX11_fault_4 (by decide) (fun h4 => ?_) (fun h4 => ?_)
  · refine go_il1 dX11_fault_10 ?_
    refine go_ifne 27 dX11_fault_11 (by decide) (fun h11 => absurd h11 (by decide)) (fun _ => ?_)
    refine go_al0 dX11_fault_14 (go_getR (j := 1) fX11_12 rfl rfl dX11_fault_15 (go_getR (j := 6) fX11_78 rfl rfl dX11_fault_18 (go_getI fX11_82 rfl rfl dX11_fault_21 (go_goto 37 dX11_fault_24 (by decide) ?_))))
    refine go_iret dX11_fault_37 ?_
    exact ⟨by rw [hC.2.1.2.2.1], hC, FrR.rf μ⟩
  · refine go_bipush (v := -2) dX11_fault_7 (by decide) ?_
    refine go_iret dX11_fault_9 ?_
    exact absurd h4 (by decide)

set_option maxRecDepth 100000 in
set_option maxHeartbeats 400000 in
theorem p_type1 {r : RS} {μ : gm_M} (hC : CA r μ) (b : Int32) : Sat yX11_type cX11_type 4 (some .int) 5 [(.ref 0), (.int 1), (.int b)] μ (fun r' μ' => r' = some (.int (sTypeN (ra1 r).1 30 b)) ∧ CA (w1 r (nTypeN (ra1 r) 30 b)) μ' ∧ FrR 0 51 μ μ') := by
  refine Sat.of (L := [some (.ref 0), some (.int 1), some (.int b), none]) (by decide) (fun _ => rfl) (fun _ => rfl) ?_
  refine go_il1 dX11_type_0 (go_S1r mcX11_isText mvX11_isText kX11_53 dX11_type_1 rfl rfl (sX11_isText _ _) ?_)
  refine go_ifeqB 18 dX11_type_4 (by decide) (fun h4 => ?_) (fun h4 => ?_)
  · refine go_bipush (v := -2) dX11_type_18 (by decide) ?_
    refine go_iret dX11_type_20 ?_
    exact absurd h4 (by decide)
  · refine go_il2 dX11_type_7 ?_
    refine go_iflt 18 dX11_type_8 (by decide) (fun h8 => ?_) (fun h8 => ?_)
    · refine go_bipush (v := -2) dX11_type_18 (by decide) ?_
      refine go_iret dX11_type_20 ?_
      simp only [sTypeN, nTypeN, if_pos h8]
      exact ⟨trivial, hC, FrR.rf μ⟩
    · refine go_il2 dX11_type_11 (go_sipush (v := 255) dX11_type_12 (by decide) ?_)
      refine go_cle 21 dX11_type_15 (by decide) (fun h15 => ?_) (fun h15 => ?_)
      · refine go_al0 dX11_type_21 (go_getR (j := 1) fX11_12 rfl rfl dX11_type_22 (go_il1 dX11_type_25 (go_V1r mcX1_textOf mvX1_textOf kX11_57 rfl dX11_type_26 rfl rfl (sX1_textOf1 _) (go_as3 dX11_type_29 rfl rfl (go_al3 dX11_type_30 (go_V0r mcX8_isFull mvX8_isFull kX11_61 rfl dX11_type_31 rfl rfl (sX8_isFull_4 _) ?_))))))
        refine go_ifeqB 40 dX11_type_34 (by decide) (fun h34 => ?_) (fun h34 => ?_)
        · refine go_al3 dX11_type_40 (go_il2 dX11_type_41 (go_V1v mcX8_append mvX8_append kX11_67 rfl dX11_type_42 rfl rfl (sX8_append_4 _ _ (by rw [hC.2.2.1.1]; exact nI_pos (by have := hC.1.2.1.1; omega)) (by simpa using h34)) ?_))
          have hT : (gm_I (gm_I μ 5 (μ.1 4 1).toNatClampNeg b) 4 1 (μ.1 4 1 + 1)).1 4 1 = nI ((ra1 r).1 + 1) := by rw [gm_Is, hC.2.2.1.1, nI_1]
          have hfr : ∀ a, a ≠ 4 ∧ a ≠ 5 → (gm_I (gm_I μ 5 (μ.1 4 1).toNatClampNeg b) 4 1 (μ.1 4 1 + 1)).1 a = μ.1 a := fun a ha => by rw [gm_In _ _ _ ha.1, gm_In _ _ _ ha.2]
          refine go_al0 dX11_type_45 (go_getR (j := 1) fX11_12 rfl rfl dX11_type_46 (go_il1 dX11_type_49 ?_))
          refine go_V1 mcX1_readAnew mvX1_readAnew kX11_71 rfl dX11_type_50 rfl rfl (sX1_readAnew1 _ hT (by have := hC.1.2.1.1; omega)) ?_
          rintro _ m50 ⟨rfl, e50⟩
          refine go_al3 dX11_type_53 (go_getI fX11_74 rfl rfl dX11_type_54 ?_)
          refine go_iret dX11_type_57 ?_
          have hN71 := hC.1.2.1.1
          have hln : μ.1 4 1 = nI (ra1 r).1 := hC.2.2.1.1
          have e34 : (μ.1 4 1 < nI 30) = ((ra1 r).1 < 30) := by rw [hln]; exact propext (nI_ltI (by omega) (by decide))
          have hf : (ra1 r).1 < 30 := by simpa [e34] using h34
          simp only [sTypeN, nTypeN, if_neg h8, if_pos h15, if_pos hf]
          obtain ⟨k, hk, rfl⟩ := int_of (B := 255) (N := 255) (by decide) (by decide) h8 h15
          rw [wN_nI (by omega)]
          have hg := CA_w1 (f := updN (ra1 r).2 (ra1 r).1 k) hC.1 (hC.2.1.cong (fun c hc => hfr c (by omega))) (hC.2.2.2.1.cong (fun c hc => hfr c (by omega))) (hC.2.2.2.2.cong (fun c hc => hfr c (by omega))) (by omega) hT (fun j hj => ?_) e50
          · refine ⟨?_, hg.1, fun a ha => by rw [hg.2 a (by omega)]; exact hfr a (by omega)⟩
            show some (Value.int (m50.1 4 1)) = _
            rw [hg.2 4 (by decide), hT]
          · rw [gm_In _ _ _ (by decide), gm_I1, if_pos rfl, show (μ.1 4 1).toNatClampNeg = (ra1 r).1 from by rw [hln]; exact nI_clamp (by omega)]
            unfold updN
            by_cases z : j = (ra1 r).1
            · rw [if_pos z, if_pos z]; exact ⟨rfl, by omega⟩
            · rw [if_neg z, if_neg z]; exact ⟨hC.2.2.1.2.1 j (by omega), hC.1.2.1.2 j (by omega)⟩
        · refine go_bipush (v := -4) dX11_type_37 (by decide) ?_
          refine go_iret dX11_type_39 ?_
          have hN71 := hC.1.2.1.1
          have hln : μ.1 4 1 = nI (ra1 r).1 := hC.2.2.1.1
          have e34 : (μ.1 4 1 < nI 30) = ((ra1 r).1 < 30) := by rw [hln]; exact propext (nI_ltI (by omega) (by decide))
          have hf : ¬ (ra1 r).1 < 30 := by simpa [e34] using h34
          simp only [sTypeN, nTypeN, if_neg h8, if_pos h15, if_neg hf]
          exact ⟨trivial, hC, FrR.rf μ⟩
      · refine go_bipush (v := -2) dX11_type_18 (by decide) ?_
        refine go_iret dX11_type_20 ?_
        simp only [sTypeN, nTypeN, if_neg h8, if_neg h15]
        exact ⟨trivial, hC, FrR.rf μ⟩

set_option maxRecDepth 100000 in
set_option maxHeartbeats 400000 in
theorem p_wipe1 {r : RS} {μ : gm_M} (hC : CA r μ) : Sat yX11_wipe cX11_wipe 4 (some .int) 5 [(.ref 0), (.int 1)] μ (fun r' μ' => r' = some (.int (nI (ra1 r).1)) ∧ CA (w1 r (0, (ra1 r).2)) μ' ∧ FrR 0 51 μ μ') := by
  refine Sat.of (L := [some (.ref 0), some (.int 1), none, none]) (by decide) (fun _ => rfl) (fun _ => rfl) ?_
  refine go_il1 dX11_wipe_0 (go_S1r mcX11_isText mvX11_isText kX11_53 dX11_wipe_1 rfl rfl (sX11_isText _ _) ?_)
  refine go_ifneB 10 dX11_wipe_4 (by decide) (fun h4 => ?_) (fun h4 => ?_)
  · refine go_al0 dX11_wipe_10 (go_getR (j := 1) fX11_12 rfl rfl dX11_wipe_11 (go_il1 dX11_wipe_14 (go_V1r mcX1_textOf mvX1_textOf kX11_57 rfl dX11_wipe_15 rfl rfl (sX1_textOf1 _) (go_as2 dX11_wipe_18 rfl rfl (go_al2 dX11_wipe_19 (go_getI fX11_74 rfl rfl dX11_wipe_20 (go_is3 dX11_wipe_23 rfl rfl (go_al2 dX11_wipe_24 (go_ic0 dX11_wipe_25 (go_putI fX11_74 rfl rfl dX11_wipe_26 ?_))))))))))
    have hT : (gm_I μ 4 1 0).1 4 1 = nI 0 := by rw [gm_Is]; rfl
    have hfr : ∀ a, a ≠ 4 → (gm_I μ 4 1 0).1 a = μ.1 a := fun a ha => gm_In _ _ _ ha
    refine go_al0 dX11_wipe_29 (go_getR (j := 1) fX11_12 rfl rfl dX11_wipe_30 (go_il1 dX11_wipe_33 ?_))
    refine go_V1 mcX1_readAnew mvX1_readAnew kX11_71 rfl dX11_wipe_34 rfl rfl (sX1_readAnew1 _ hT (by omega)) ?_
    rintro _ m34 ⟨rfl, e34⟩
    refine go_il3 dX11_wipe_37 ?_
    refine go_iret dX11_wipe_38 ?_
    have hg := CA_w1 (f := (ra1 r).2) hC.1 (hC.2.1.cong (fun c hc => hfr c (by omega))) (hC.2.2.2.1.cong (fun c hc => hfr c (by omega))) (hC.2.2.2.2.cong (fun c hc => hfr c (by omega))) (by omega) hT (fun j hj => by omega) e34
    exact ⟨by rw [hC.2.2.1.1], hg.1, fun a ha => by rw [hg.2 a (by omega)]; exact hfr a (by omega)⟩
  · refine go_bipush (v := -2) dX11_wipe_7 (by decide) ?_
    refine go_iret dX11_wipe_9 ?_
    exact absurd h4 (by decide)

set_option maxRecDepth 100000 in
set_option maxHeartbeats 400000 in
theorem p_undo1 {r : RS} {μ : gm_M} (hC : CA r μ) : Sat yX11_undo cX11_undo 3 (some .int) 5 [(.ref 0), (.int 1)] μ (fun r' μ' => r' = some (.int (sUndoN (ra1 r).1)) ∧ CA (w1 r ((ra1 r).1 - 1, (ra1 r).2)) μ' ∧ FrR 0 51 μ μ') := by
  refine Sat.of (L := [some (.ref 0), some (.int 1), none]) (by decide) (fun _ => rfl) (fun _ => rfl) ?_
  refine go_il1 dX11_undo_0 (go_S1r mcX11_isText mvX11_isText kX11_53 dX11_undo_1 rfl rfl (sX11_isText _ _) ?_)
  refine go_ifneB 10 dX11_undo_4 (by decide) (fun h4 => ?_) (fun h4 => ?_)
  · refine go_al0 dX11_undo_10 (go_getR (j := 1) fX11_12 rfl rfl dX11_undo_11 (go_il1 dX11_undo_14 (go_V1r mcX1_textOf mvX1_textOf kX11_57 rfl dX11_undo_15 rfl rfl (sX1_textOf1 _) (go_as2 dX11_undo_18 rfl rfl (go_al2 dX11_undo_19 (go_getI fX11_74 rfl rfl dX11_undo_20 ?_))))))
    refine go_ifgt 29 dX11_undo_23 (by decide) (fun h23 => ?_) (fun h23 => ?_)
    · refine go_al2 dX11_undo_29 (go_dup dX11_undo_30 rfl (go_getI fX11_74 rfl rfl dX11_undo_31 (go_ic1 dX11_undo_34 (go_isub dX11_undo_35 (go_putI fX11_74 rfl rfl dX11_undo_36 ?_)))))
      have hN71 := hC.1.2.1.1
      have hln : μ.1 4 1 = nI (ra1 r).1 := hC.2.2.1.1
      have hz : ¬ (ra1 r).1 = 0 := by
        intro z
        have h9 : (0 : Int32) < μ.1 4 1 := h23
        rw [hln, z] at h9
        exact absurd h9 (by decide)
      have hT : (gm_I μ 4 1 (μ.1 4 1 - 1)).1 4 1 = nI ((ra1 r).1 - 1) := by rw [gm_Is, hln, nI_lit1, pk_sub (by omega)]
      have hfr : ∀ a, a ≠ 4 → (gm_I μ 4 1 (μ.1 4 1 - 1)).1 a = μ.1 a := fun a ha => gm_In _ _ _ ha
      refine go_al0 dX11_undo_39 (go_getR (j := 1) fX11_12 rfl rfl dX11_undo_40 (go_il1 dX11_undo_43 ?_))
      refine go_V1 mcX1_readAnew mvX1_readAnew kX11_71 rfl dX11_undo_44 rfl rfl (sX1_readAnew1 _ hT (by omega)) ?_
      rintro _ m44 ⟨rfl, e44⟩
      refine go_al2 dX11_undo_47 (go_getI fX11_74 rfl rfl dX11_undo_48 ?_)
      refine go_iret dX11_undo_51 ?_
      have hg := CA_w1 (f := (ra1 r).2) hC.1 (hC.2.1.cong (fun c hc => hfr c (by omega))) (hC.2.2.2.1.cong (fun c hc => hfr c (by omega))) (hC.2.2.2.2.cong (fun c hc => hfr c (by omega))) (by omega) hT (fun j hj => ⟨by rw [gm_In _ _ _ (by decide)]; exact hC.2.2.1.2.1 j (by omega), hC.1.2.1.2 j (by omega)⟩) e44
      refine ⟨?_, hg.1, fun a ha => by rw [hg.2 a (by omega)]; exact hfr a (by omega)⟩
      show some (Value.int (m44.1 4 1)) = _
      rw [hg.2 4 (by decide), hT, sUndoN, if_neg hz]
    · refine go_bipush (v := -3) dX11_undo_26 (by decide) ?_
      refine go_iret dX11_undo_28 ?_
      have hN71 := hC.1.2.1.1
      have hln : μ.1 4 1 = nI (ra1 r).1 := hC.2.2.1.1
      have hz : (ra1 r).1 = 0 := by
        rcases Nat.eq_zero_or_pos (ra1 r).1 with z | z
        · exact z
        · exact absurd (show (0 : Int32) < μ.1 4 1 from by rw [hln, ← nI_0]; exact nI_lt z (by omega)) h23
      refine ⟨by rw [sUndoN, if_pos hz], ?_, FrR.rf μ⟩
      rw [show (ra1 r).1 - 1 = (ra1 r).1 by omega]
      exact hC
  · refine go_bipush (v := -2) dX11_undo_7 (by decide) ?_
    refine go_iret dX11_undo_9 ?_
    exact absurd h4 (by decide)

set_option maxRecDepth 100000 in
set_option maxHeartbeats 400000 in
theorem p_fault1 {r : RS} {μ : gm_M} (hC : CA r μ) : Sat yX11_fault cX11_fault 2 (some .int) 1 [(.ref 0), (.int 1)] μ (fun r' μ' => r' = some (.int (oI (cavF (ra1 r).1 (ra1 r).2))) ∧ CA (r) μ' ∧ FrR 0 51 μ μ') := by
  refine Sat.of (L := [some (.ref 0), some (.int 1)]) (by decide) (fun _ => rfl) (fun _ => rfl) ?_
  refine go_il1 dX11_fault_0 (go_S1r mcX11_isText mvX11_isText kX11_53 dX11_fault_1 rfl rfl (sX11_isText _ _) ?_)
  refine go_ifneB 10 dX11_fault_4 (by decide) (fun h4 => ?_) (fun h4 => ?_)
  · refine go_il1 dX11_fault_10 ?_
    refine go_ifne 27 dX11_fault_11 (by decide) (fun _ => ?_) (fun h11 => absurd h11 (by decide))
    refine go_al0 dX11_fault_27 (go_getR (j := 1) fX11_12 rfl rfl dX11_fault_28 (go_getR (j := 11) fX11_87 rfl rfl dX11_fault_31 (go_getI fX11_91 rfl rfl dX11_fault_34 ?_)))
    refine go_iret dX11_fault_37 ?_
    exact ⟨by rw [hC.2.2.1.2.2.1], hC, FrR.rf μ⟩
  · refine go_bipush (v := -2) dX11_fault_7 (by decide) ?_
    refine go_iret dX11_fault_9 ?_
    exact absurd h4 (by decide)

set_option maxRecDepth 100000 in
set_option maxHeartbeats 400000 in
theorem p_typeB {r : RS} {μ : gm_M} (hC : CA r μ) {x : Int32} (hx0 : ¬ x = 0) (hx1 : ¬ x = 1) (b : Int32) : Sat yX11_type cX11_type 4 (some .int) 5 [(.ref 0), (.int x), (.int b)] μ (fun r' μ' => r' = some (.int (-2)) ∧ CA (r) μ' ∧ FrR 0 51 μ μ') := by
  refine Sat.of (L := [some (.ref 0), some (.int x), some (.int b), none]) (by decide) (fun _ => rfl) (fun _ => rfl) ?_
  refine go_il1 dX11_type_0 (go_S1r mcX11_isText mvX11_isText kX11_53 dX11_type_1 rfl rfl (sX11_isText _ _) ?_)
  refine go_ifeqB 18 dX11_type_4 (by decide) (fun h4 => ?_) (fun h4 => ?_)
  · refine go_bipush (v := -2) dX11_type_18 (by decide) ?_
    refine go_iret dX11_type_20 ?_
    exact ⟨rfl, hC, FrR.rf μ⟩
  · exact absurd h4 (by simp [hx0, hx1])

set_option maxRecDepth 100000 in
set_option maxHeartbeats 400000 in
theorem p_wipeB {r : RS} {μ : gm_M} (hC : CA r μ) {x : Int32} (hx0 : ¬ x = 0) (hx1 : ¬ x = 1) : Sat yX11_wipe cX11_wipe 4 (some .int) 5 [(.ref 0), (.int x)] μ (fun r' μ' => r' = some (.int (-2)) ∧ CA (r) μ' ∧ FrR 0 51 μ μ') := by
  refine Sat.of (L := [some (.ref 0), some (.int x), none, none]) (by decide) (fun _ => rfl) (fun _ => rfl) ?_
  refine go_il1 dX11_wipe_0 (go_S1r mcX11_isText mvX11_isText kX11_53 dX11_wipe_1 rfl rfl (sX11_isText _ _) ?_)
  refine go_ifneB 10 dX11_wipe_4 (by decide) (fun h4 => ?_) (fun h4 => ?_)
  · exact absurd h4 (by simp [hx0, hx1])
  · refine go_bipush (v := -2) dX11_wipe_7 (by decide) ?_
    refine go_iret dX11_wipe_9 ?_
    exact ⟨rfl, hC, FrR.rf μ⟩

set_option maxRecDepth 100000 in
set_option maxHeartbeats 400000 in
theorem p_undoB {r : RS} {μ : gm_M} (hC : CA r μ) {x : Int32} (hx0 : ¬ x = 0) (hx1 : ¬ x = 1) : Sat yX11_undo cX11_undo 3 (some .int) 5 [(.ref 0), (.int x)] μ (fun r' μ' => r' = some (.int (-2)) ∧ CA (r) μ' ∧ FrR 0 51 μ μ') := by
  refine Sat.of (L := [some (.ref 0), some (.int x), none]) (by decide) (fun _ => rfl) (fun _ => rfl) ?_
  refine go_il1 dX11_undo_0 (go_S1r mcX11_isText mvX11_isText kX11_53 dX11_undo_1 rfl rfl (sX11_isText _ _) ?_)
  refine go_ifneB 10 dX11_undo_4 (by decide) (fun h4 => ?_) (fun h4 => ?_)
  · exact absurd h4 (by simp [hx0, hx1])
  · refine go_bipush (v := -2) dX11_undo_7 (by decide) ?_
    refine go_iret dX11_undo_9 ?_
    exact ⟨rfl, hC, FrR.rf μ⟩

set_option maxRecDepth 100000 in
set_option maxHeartbeats 400000 in
theorem p_faultB {r : RS} {μ : gm_M} (hC : CA r μ) {x : Int32} (hx0 : ¬ x = 0) (hx1 : ¬ x = 1) : Sat yX11_fault cX11_fault 2 (some .int) 1 [(.ref 0), (.int x)] μ (fun r' μ' => r' = some (.int (-2)) ∧ CA (r) μ' ∧ FrR 0 51 μ μ') := by
  refine Sat.of (L := [some (.ref 0), some (.int x)]) (by decide) (fun _ => rfl) (fun _ => rfl) ?_
  refine go_il1 dX11_fault_0 (go_S1r mcX11_isText mvX11_isText kX11_53 dX11_fault_1 rfl rfl (sX11_isText _ _) ?_)
  refine go_ifneB 10 dX11_fault_4 (by decide) (fun h4 => ?_) (fun h4 => ?_)
  · exact absurd h4 (by simp [hx0, hx1])
  · refine go_bipush (v := -2) dX11_fault_7 (by decide) ?_
    refine go_iret dX11_fault_9 ?_
    exact ⟨rfl, hC, FrR.rf μ⟩

