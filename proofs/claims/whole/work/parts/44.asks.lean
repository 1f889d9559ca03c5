/-! THE MODEL: its texts read, its first questions -/
theorem MA.t0 {r : RS} {m : gm_M} (h : MA r m) : TXm (ra0 r).1 (ra0 r).2 m := ⟨h.1.1.1, h.2.1.1, fun j hj => ⟨h.2.1.2 j hj, h.1.1.2 j hj⟩⟩
theorem MA.t1 {r : RS} {m : gm_M} (h : MA r m) : TXc (ra1 r).1 (ra1 r).2 m := ⟨h.1.2.1.1, h.2.2.1.1, fun j hj => ⟨h.2.2.1.2 j hj, h.1.2.1.2 j hj⟩⟩
def RDp (r : RS) (μ m : gm_M) : Prop := XQ (qof r) m ∧ m.1 52 7 = nI (figs (ra1 r).1 (ra1 r).2) ∧ FX lQ fQ μ m
theorem RD_of {r : RS} {μ m m' : gm_M} (hA : MA r μ) (h2 : m.1 52 2 = nI (pnum (pres (ra0 r).1 (ra0 r).2).2)) (hP : PIx (pres (ra0 r).1 (ra0 r).2).2 m) (hF : FX lP [2] μ m) (h7 : m'.1 52 7 = nI (figs (ra1 r).1 (ra1 r).2)) (hw : ∀ n, n < 30 → m'.1 59 n = nI (cwa (ra1 r).1 (ra1 r).2 n)) (hF' : FX [59] [7] m m') : RDp r μ m' := by
  have hFF : FX lQ fQ μ m' := (hF.wide (by decide) (by decide)).tr (hF'.wide (by decide) (by decide))
  have hM := hA.fx hFF
  refine ⟨⟨rok_q hA.1, by rw [hF'.2 2 (by decide)]; exact h2, ?_, hw, hM.2.2.2.1.1, hM.2.2.2.1.2.1, hM.2.2.2.1.2.2.1, hM.2.2.2.1.2.2.2⟩, h7, hFF⟩
  intro k hk
  rw [hF'.1 55 (by decide) (by decide), hF'.1 56 (by decide) (by decide), hF'.1 57 (by decide) (by decide), hF'.1 58 (by decide) (by decide)]
  exact hP k hk
theorem RDp.fl {r : RS} {μ m m' : gm_M} (h : RDp r μ m) (e : FX lL fR m m') : RDp r μ m' := ⟨h.1.fl e, by rw [e.2 7 (by decide)]; exact h.2.1, h.2.2.tr e.lq⟩
theorem RDp.ma {r : RS} {μ m : gm_M} (h : RDp r μ m) (hA : MA r μ) : MA r m := hA.fx h.2.2
theorem RDp.tr {r : RS} {μ m m' : gm_M} (h : RDp r μ m) (h' : RDp r m m') : RDp r μ m' := ⟨h'.1, h'.2.1, h.2.2.tr h'.2.2⟩
theorem gin_inW {q : QS} (hq : qok q) (w : Int32) : gin w 0 (nI (qnum q) - 1) = inW q w := by
  have h8 := hq.1
  have e0 : (nI (qnum q) - 1 < w) = (nI (qnum q) ≤ w) := propext (by
    rw [Int32.lt_iff_toInt_lt, Int32.le_iff_toInt_le, nI_toInt (by omega)]
    generalize qnum q = N at *
    cases N with
    | zero =>
      have e : (nI 0 - 1).toInt = -1 := by decide
      rw [e]; omega
    | succ N => rw [nI_pred, nI_toInt (by omega)]; omega)
  unfold gin inW
  simp only [e0]
theorem gin_night (n : Int32) : gin n 0 29 = gnight n := by
  have e0 : (29 < n) = (30 ≤ n) := propext (by
    rw [Int32.lt_iff_toInt_lt, Int32.le_iff_toInt_le]
    have e : (29 : Int32).toInt = 29 := by decide
    have e2 : (30 : Int32).toInt = 30 := by decide
    rw [e, e2]; omega)
  unfold gin gnight
  simp only [e0]
theorem ite_gin {α : Type} {x a b : Int32} {A B : α} : (if x < a then B else if x ≤ b then A else B) = if gin x a b = true then A else B := by
  by_cases h1 : x < a
  · rw [if_pos h1, if_neg (by rw [gin_iff]; exact fun z => z.1 h1)]
  · rw [if_neg h1]
    by_cases h2 : x ≤ b
    · rw [if_pos h2, if_pos (gin_iff.mpr ⟨h1, h2⟩)]
    · rw [if_neg h2, if_neg (by rw [gin_iff]; exact fun z => h2 z.2)]
theorem ite_gin2 {α : Type} {x a b : Int32} {A B : α} : (if x < a then B else if b < x then B else A) = if gin x a b = true then A else B := by
  rw [← ite_gin]
  by_cases h1 : x < a
  · rw [if_pos h1, if_pos h1]
  · rw [if_neg h1, if_neg h1]
    by_cases h2 : b < x
    · rw [if_pos h2, if_neg (Int32.not_le.mpr h2)]
    · rw [if_neg h2, if_pos (Int32.not_lt.mp h2)]
theorem heard_none {t : TR} (ht : tok t) {n : Nat} : oI ((tm t n).map (tsn t)) = -1 ↔ tm t n = none := by
  cases h : tm t n with
  | none => exact ⟨fun _ => rfl, fun _ => rfl⟩
  | some m =>
    have := ht.2.2.2.2.2.2.2.1 m (tm_lt h)
    refine ⟨fun z => absurd z (nI_ne_m1 (by show tsn t m < 2 ^ 20; omega)), fun z => by cases z⟩
theorem sAt_g (q : QS) (n w x : Int32) : sAt q n w x = if gin n 0 29 = true then (if inW q w = true then (if gin x 0 2 = true then (if x = 0 then nI (ta (trof q 9 (wN w)) (wN n + 1)).1 else if x = 1 then oI (qhe q (wN w) (wN n)) else nI (tst (trof q 9 (wN w)) (wN n))) else -2) else -2) else -2 := by
  unfold sAt; rw [ite_gin, gin_night]
def wOf (q : QS) (k x : Nat) : Int32 := if x = 0 then nI (qso q k) else if x = 1 then nI (qfr q k) else if x = 2 then nI (qsz q k) else wlet q k (x - 3)
theorem sWheel_g {q : QS} (w x : Int32) : sWheel q w x = if inW q w = true then (if gin x 0 7 = true then wOf q (wN w) (wN x) else -2) else -2 := by
  unfold sWheel
  rw [ite_gin]
  by_cases h : gin x 0 7 = true
  · rw [if_pos h, if_pos h]
    obtain ⟨j, hj, rfl⟩ := gin_of (N := 7) (by decide) (by decide) h
    rw [wN_nI (show j < 2 ^ 31 by omega)]
    unfold wOf
    have e0 : (nI j = 0) = (j = 0) := propext (by rw [← nI_0]; exact nI_eq (by omega) (by decide))
    have e1 : (nI j = 1) = (j = 1) := propext (by rw [nI_lit1]; exact nI_eq (by omega) (by decide))
    have e2 : (nI j = 2) = (j = 2) := propext (by rw [nI_lit2]; exact nI_eq (by omega) (by decide))
    simp only [e0, e1, e2]
  · rw [if_neg h, if_neg h]
set_option maxRecDepth 100000 in
set_option maxHeartbeats 400000 in
theorem mFaultOf {r : RS} {μ : gm_M} (hA : MA r μ) (t : Int32) : Sat yX12_faultOf cX12_faultOf 4 (some .int) 4 [(.ref 52), (.int t)] μ (fun r' μ' => r' = some (.int (if t = 0 then oI (pres (ra0 r).1 (ra0 r).2).1 else oI (cavF (ra1 r).1 (ra1 r).2))) ∧ RDp r μ μ') := by
  refine Sat.of (L := [some (.ref 52), some (.int t), none, none]) (by decide) (fun _ => rfl) (fun _ => rfl) ?_
  refine go_al0 dX12_faultOf_0 ?_
  refine go_V0 mcX12_readsWheels mvX12_readsWheels kX12_129 rfl dX12_faultOf_1 rfl rfl (mReadsWheels hA.t0) ?_
  rintro _ m1 ⟨rfl, hk1, hP1, hF1⟩
  refine go_is2 dX12_faultOf_4 rfl rfl (go_al0 dX12_faultOf_5 ?_)
  refine go_V0 mcX12_readsCave mvX12_readsCave kX12_133 rfl dX12_faultOf_6 rfl rfl (mReadsCave (hA.t1.cong (fun c hc => hF1.1 c (by omega) (by intro z; simp at z; omega)))) ?_
  rintro _ m6 ⟨rfl, hk6, hw6, hF6⟩
  refine go_is3 dX12_faultOf_9 rfl rfl (go_il1 dX12_faultOf_10 ?_)
  refine go_ifne 18 dX12_faultOf_11 (by decide) (fun h11 => ?_) (fun h11 => ?_)
  · refine go_il3 dX12_faultOf_18 ?_
    refine go_iret dX12_faultOf_19 ?_
    exact ⟨by rw [if_neg h11], RD_of hA hk1 hP1 hF1 hk6 hw6 hF6⟩
  · refine go_il2 dX12_faultOf_14 (go_goto 19 dX12_faultOf_15 (by decide) ?_)
    refine go_iret dX12_faultOf_19 ?_
    exact ⟨by rw [if_pos h11], RD_of hA hk1 hP1 hF1 hk6 hw6 hF6⟩

set_option maxRecDepth 100000 in
set_option maxHeartbeats 400000 in
theorem mReads {r : RS} {μ : gm_M} (hA : MA r μ) : Sat yX12_reads cX12_reads 2 none 5 [(.ref 52)] μ (fun r' μ' => r' = none ∧ RDp r μ μ') := by
  refine Sat.of (L := [some (.ref 52), none]) (by decide) (fun _ => rfl) (fun _ => rfl) ?_
  refine go_al0 dX12_reads_0 (go_ic0 dX12_reads_1 ?_)
  refine go_V1 mcX12_faultOf mvX12_faultOf kX12_136 rfl dX12_reads_2 rfl rfl (mFaultOf hA 0) ?_
  rintro _ m2 ⟨rfl, hR2⟩
  refine go_is1 dX12_reads_5 rfl rfl ?_
  refine go_vret dX12_reads_6 ?_
  exact ⟨rfl, hR2⟩

def sFault (r : RS) (t : Int32) : Int32 := if gin t 0 1 = true then (if t = 0 then oI (pres (ra0 r).1 (ra0 r).2).1 else oI (cavF (ra1 r).1 (ra1 r).2)) else -2
set_option maxRecDepth 100000 in
set_option maxHeartbeats 400000 in
theorem m_fault {r : RS} {μ : gm_M} (hA : MA r μ) (t : Int32) : Sat yX12_fault cX12_fault 2 (some .int) 5 [(.ref 52), (.int t)] μ (fun r' μ' => r' = some (.int (sFault r t)) ∧ FX lQ fQ μ μ') := by
  refine Sat.of (L := [some (.ref 52), some (.int t)]) (by decide) (fun _ => rfl) (fun _ => rfl) ?_
  refine go_il1 dX12_fault_0 (go_S1r mcX12_isText mvX12_isText kX12_108 dX12_fault_1 rfl rfl (sX12_isText _ _) ?_)
  refine go_ifeqB 15 dX12_fault_4 (by decide) (fun h4 => ?_) (fun h4 => ?_)
  · refine go_bipush (v := -2) dX12_fault_15 (by decide) ?_
    refine go_iret dX12_fault_17 ?_
    exact ⟨by rw [sFault, if_neg (gf h4)], FX.rf μ⟩
  · refine go_al0 dX12_fault_7 (go_il1 dX12_fault_8 ?_)
    refine go_V1 mcX12_faultOf mvX12_faultOf kX12_136 rfl dX12_fault_9 rfl rfl (mFaultOf hA t) ?_
    rintro _ m9 ⟨rfl, hR9⟩
    refine go_goto 17 dX12_fault_12 (by decide) ?_
    refine go_iret dX12_fault_17 ?_
    exact ⟨by rw [sFault, if_pos h4], hR9.2.2⟩

set_option maxRecDepth 100000 in
set_option maxHeartbeats 400000 in
theorem mIsWheel {r : RS} {μ : gm_M} (hA : MA r μ) (w : Int32) : Sat yX12_isWheel cX12_isWheel 2 (some .boolean) 6 [(.ref 52), (.int w)] μ (fun r' μ' => r' = some (.int (gb (inW (qof r) w))) ∧ RDp r μ μ') := by
  refine Sat.of (L := [some (.ref 52), some (.int w)]) (by decide) (fun _ => rfl) (fun _ => rfl) ?_
  refine go_al0 dX12_isWheel_0 ?_
  refine go_V0 mcX12_reads mvX12_reads kX12_139 rfl dX12_isWheel_1 rfl rfl (mReads hA) ?_
  rintro _ m1 ⟨rfl, hR1⟩
  refine go_il1 dX12_isWheel_4 (go_ic0 dX12_isWheel_5 (go_al0 dX12_isWheel_6 (go_getI fX12_119 rfl rfl dX12_isWheel_7 (go_ic1 dX12_isWheel_10 (go_isub dX12_isWheel_11 (go_S3r mcX12_in mvX12_in kX12_104 dX12_isWheel_12 rfl rfl (sX12_in _ _ _ _) ?_))))))
  refine go_zret dX12_isWheel_15 (gb_nar _) ?_
  rw [hR1.1.2.1, gin_inW hR1.1.1]
  exact ⟨rfl, hR1⟩

set_option maxRecDepth 100000 in
set_option maxHeartbeats 400000 in
theorem mWheelOf {q : QS} {μ : gm_M} {k x : Nat} (hQ : XQ q μ) (hk : k < qnum q) (hx : x < 8) : Ret yX12_wheelOf cX12_wheelOf 3 (some .int) 0 [(.ref 52), (.int (nI k)), (.int (nI x))] μ (some (.int (wOf q k x))) μ := by
  have h8 := hQ.1.1
  have hrow := hQ.2.2.1 k hk
  have hz5 := (hQ.1.2.1 k hk).2.2.2.1
  refine Sat.of (L := [some (.ref 52), some (.int (nI k)), some (.int (nI x))]) (by decide) (fun _ => rfl) (fun _ => rfl) ?_
  refine go_il2 dX12_wheelOf_0 ?_
  refine go_ifne 13 dX12_wheelOf_1 (by decide) (fun h1 => ?_) (fun h1 => ?_)
  · have n0 : ¬ x = 0 := fun z => h1 (by rw [z]; rfl)
    refine go_il2 dX12_wheelOf_13 (go_ic1 dX12_wheelOf_14 ?_)
    refine go_cne 27 dX12_wheelOf_15 (by decide) (fun h15 => ?_) (fun h15 => ?_)
    · have n1 : ¬ x = 1 := fun z => h15 (by rw [z]; rfl)
      refine go_il2 dX12_wheelOf_27 (go_ic2 dX12_wheelOf_28 ?_)
      refine go_cne 41 dX12_wheelOf_29 (by decide) (fun h29 => ?_) (fun h29 => ?_)
      · have n2 : ¬ x = 2 := fun z => h29 (by rw [z]; rfl)
        refine go_il2 dX12_wheelOf_41 (go_ic3 dX12_wheelOf_42 (go_isub dX12_wheelOf_43 ?_))
        rw [show (3 : Int32) = nI 3 from rfl, pk_sub (by omega)]
        refine go_al0 dX12_wheelOf_44 (go_getR (j := 57) fX12_22 rfl rfl dX12_wheelOf_45 (go_il1 dX12_wheelOf_48 (go_iald rfl (vp_in_nI (show k < 9 by omega) (by decide)) dX12_wheelOf_49 ?_)))
        rw [nI_clamp (show k < 2 ^ 31 by omega), hrow.2.2.1]
        refine go_cge 68 dX12_wheelOf_50 (by decide) (fun h50 => ?_) (fun h50 => ?_)
        · refine go_icm1 dX12_wheelOf_68 ?_
          refine go_iret dX12_wheelOf_69 ?_
          have hge : ¬ x - 3 < qsz q k := by
            have h9 := h50
            rw [nI_leI (by omega) (by omega)] at h9
            omega
          exact ⟨by rw [wOf, if_neg n0, if_neg n1, if_neg n2, wlet, if_neg hge], rfl⟩
        · have hlt : x - 3 < qsz q k := by
            have h9 := h50
            rw [nI_leI (by omega) (by omega)] at h9
            omega
          refine go_al0 dX12_wheelOf_53 (go_getR (j := 58) fX12_25 rfl rfl dX12_wheelOf_54 (go_ic5 dX12_wheelOf_57 (go_il1 dX12_wheelOf_58 (go_imul dX12_wheelOf_59 (go_il2 dX12_wheelOf_60 (go_iadd dX12_wheelOf_61 (go_ic3 dX12_wheelOf_62 (go_isub dX12_wheelOf_63 ?_))))))))
          rw [show (5 : Int32) = nI 5 from rfl, show (3 : Int32) = nI 3 from rfl, pk_mul, nI_add, pk_sub (by omega)]
          refine go_iald rfl (vp_in_nI (by omega) (by decide)) dX12_wheelOf_64 ?_
          rw [nI_clamp (by omega), show 5 * k + x - 3 = 5 * k + (x - 3) by omega, hrow.2.2.2 _ hlt]
          refine go_goto 69 dX12_wheelOf_65 (by decide) ?_
          refine go_iret dX12_wheelOf_69 ?_
          exact ⟨by rw [wOf, if_neg n0, if_neg n1, if_neg n2, wlet, if_pos hlt], rfl⟩
      · refine go_al0 dX12_wheelOf_32 (go_getR (j := 57) fX12_22 rfl rfl dX12_wheelOf_33 (go_il1 dX12_wheelOf_36 (go_iald rfl (vp_in_nI (show k < 9 by omega) (by decide)) dX12_wheelOf_37 ?_)))
        rw [nI_clamp (show k < 2 ^ 31 by omega), hrow.2.2.1]
        refine go_goto 69 dX12_wheelOf_38 (by decide) ?_
        refine go_iret dX12_wheelOf_69 ?_
        have e0 : x = 2 := by
          rw [nI_lit2] at h29
          exact (nI_eq (by omega) (by decide)).mp h29
        subst e0
        exact ⟨rfl, rfl⟩
    · refine go_al0 dX12_wheelOf_18 (go_getR (j := 56) fX12_19 rfl rfl dX12_wheelOf_19 (go_il1 dX12_wheelOf_22 (go_iald rfl (vp_in_nI (show k < 9 by omega) (by decide)) dX12_wheelOf_23 ?_)))
      rw [nI_clamp (show k < 2 ^ 31 by omega), hrow.2.1]
      refine go_goto 69 dX12_wheelOf_24 (by decide) ?_
      refine go_iret dX12_wheelOf_69 ?_
      have e0 : x = 1 := by
        rw [nI_lit1] at h15
        exact (nI_eq (by omega) (by decide)).mp h15
      subst e0
      exact ⟨rfl, rfl⟩
  · refine go_al0 dX12_wheelOf_4 (go_getR (j := 55) fX12_16 rfl rfl dX12_wheelOf_5 (go_il1 dX12_wheelOf_8 (go_iald rfl (vp_in_nI (show k < 9 by omega) (by decide)) dX12_wheelOf_9 ?_)))
    rw [nI_clamp (show k < 2 ^ 31 by omega), hrow.1]
    refine go_goto 69 dX12_wheelOf_10 (by decide) ?_
    refine go_iret dX12_wheelOf_69 ?_
    have e0 : x = 0 := by
      rw [← nI_0] at h1
      exact (nI_eq (by omega) (by decide)).mp h1
    subst e0
    exact ⟨rfl, rfl⟩

set_option maxRecDepth 100000 in
set_option maxHeartbeats 400000 in
theorem m_wheel {r : RS} {μ : gm_M} (hA : MA r μ) (w x : Int32) : Sat yX12_wheel cX12_wheel 3 (some .int) 7 [(.ref 52), (.int w), (.int x)] μ (fun r' μ' => r' = some (.int (sWheel (qof r) w x)) ∧ FX lQ fQ μ μ') := by
  refine Sat.of (L := [some (.ref 52), some (.int w), some (.int x)]) (by decide) (fun _ => rfl) (fun _ => rfl) ?_
  refine go_al0 dX12_wheel_0 (go_il1 dX12_wheel_1 ?_)
  refine go_V1 mcX12_isWheel mvX12_isWheel kX12_142 rfl dX12_wheel_2 rfl rfl (mIsWheel hA _) ?_
  rintro _ m2 ⟨rfl, hR2⟩
  refine go_ifeqB 27 dX12_wheel_5 (by decide) (fun h5 => ?_) (fun h5 => ?_)
  · refine go_bipush (v := -2) dX12_wheel_27 (by decide) ?_
    refine go_iret dX12_wheel_29 ?_
    exact ⟨by rw [sWheel_g, if_neg (gf h5)], hR2.2.2⟩
  · refine go_il2 dX12_wheel_8 (go_ic0 dX12_wheel_9 (go_bipush (v := 7) dX12_wheel_10 (by decide) (go_S3r mcX12_in mvX12_in kX12_104 dX12_wheel_12 rfl rfl (sX12_in _ _ _ _) ?_)))
    refine go_ifeqB 27 dX12_wheel_15 (by decide) (fun h15 => ?_) (fun h15 => ?_)
    · refine go_bipush (v := -2) dX12_wheel_27 (by decide) ?_
      refine go_iret dX12_wheel_29 ?_
      exact ⟨by rw [sWheel_g, if_pos h5, if_neg (gf h15)], hR2.2.2⟩
    · obtain ⟨k, hk, rfl⟩ := inW_of (rok_q hA.1) h5
      obtain ⟨j, hj, rfl⟩ := gin_of (N := 7) (by decide) (by decide) h15
      refine go_al0 dX12_wheel_18 (go_il1 dX12_wheel_19 (go_il2 dX12_wheel_20 (go_V2r mcX12_wheelOf mvX12_wheelOf kX12_145 rfl dX12_wheel_21 rfl rfl (mWheelOf hR2.1 hk (by omega)) (go_goto 29 dX12_wheel_24 (by decide) ?_))))
      refine go_iret dX12_wheel_29 ?_
      exact ⟨by rw [sWheel_g, if_pos h5, if_pos h15, wN_nI (by have := hR2.1.1.1; omega), wN_nI (by omega)], hR2.2.2⟩

set_option maxRecDepth 100000 in
set_option maxHeartbeats 400000 in
theorem mWarmOf {r : RS} {μ : gm_M} (hA : MA r μ) {n : Nat} (hn : n < 30) : Sat yX12_warmOf cX12_warmOf 2 (some .int) 6 [(.ref 52), (.int (nI n))] μ (fun r' μ' => r' = some (.int (nI (qwa (qof r) n))) ∧ RDp r μ μ') := by
  refine Sat.of (L := [some (.ref 52), some (.int (nI n))]) (by decide) (fun _ => rfl) (fun _ => rfl) ?_
  refine go_al0 dX12_warmOf_0 ?_
  refine go_V0 mcX12_reads mvX12_reads kX12_139 rfl dX12_warmOf_1 rfl rfl (mReads hA) ?_
  rintro _ m1 ⟨rfl, hR1⟩
  refine go_al0 dX12_warmOf_4 (go_getR (j := 59) fX12_28 rfl rfl dX12_warmOf_5 (go_il1 dX12_warmOf_8 (go_iald rfl (vp_in_nI hn (by decide)) dX12_warmOf_9 ?_)))
  refine go_iret dX12_warmOf_10 ?_
  rw [nI_clamp (by omega), hR1.1.2.2.2.1 n hn]
  exact ⟨rfl, hR1⟩

set_option maxRecDepth 100000 in
set_option maxHeartbeats 400000 in
theorem m_warm {r : RS} {μ : gm_M} (hA : MA r μ) (n : Int32) : Sat yX12_warm cX12_warm 2 (some .int) 7 [(.ref 52), (.int n)] μ (fun r' μ' => r' = some (.int (sWarm (qof r) n)) ∧ FX lQ fQ μ μ') := by
  refine Sat.of (L := [some (.ref 52), some (.int n)]) (by decide) (fun _ => rfl) (fun _ => rfl) ?_
  refine go_il1 dX12_warm_0 (go_S1r mcX12_isNight mvX12_isNight kX12_148 dX12_warm_1 rfl rfl (sX12_isNight _ _) ?_)
  refine go_ifeqB 15 dX12_warm_4 (by decide) (fun h4 => ?_) (fun h4 => ?_)
  · refine go_bipush (v := -2) dX12_warm_15 (by decide) ?_
    refine go_iret dX12_warm_17 ?_
    exact ⟨by rw [sWarm, ← gin_night, if_neg (gf h4)], FX.rf μ⟩
  · obtain ⟨k, hk, rfl⟩ := gnight_of (by rw [← gin_night]; exact h4)
    refine go_al0 dX12_warm_7 (go_il1 dX12_warm_8 ?_)
    refine go_V1 mcX12_warmOf mvX12_warmOf kX12_151 rfl dX12_warm_9 rfl rfl (mWarmOf hA hk) ?_
    rintro _ m9 ⟨rfl, hR9⟩
    refine go_goto 17 dX12_warm_12 (by decide) ?_
    refine go_iret dX12_warm_17 ?_
    exact ⟨by rw [sWarm, ← gin_night, if_pos h4, wN_nI (by omega)], hR9.2.2⟩

set_option maxRecDepth 100000 in
set_option maxHeartbeats 400000 in
theorem mAT_loop {r : RS} {μ mr : gm_M} (hR : RDp r μ mr) : ∀ (k_ n : Nat) (m : gm_M), 30 - n = k_ → n ≤ 30 → (FX lL fR mr m) → (∀ i, i < n → m.1 64 i = nI (qwa (qof r) i)) → Go yX12_asTold cX12_asTold 2 none 6 6 [some (.ref 52), some (.int (nI n))] [] m (fun r' μ' => r' = none ∧ RDp r μ μ' ∧ WN (qwa (qof r)) μ') := by
  intro k_
  induction k_ using Nat.strongRecOn with
  | ind k_ ih =>
    intro n m  hk_ hj hF hW
    refine go_il1 dX12_asTold_6 (go_bipush (v := 30) dX12_asTold_7 (by decide) ?_)
    refine go_cge 30 dX12_asTold_9 (by decide) (fun h9 => ?_) (fun h9 => ?_)
    · have he : n = 30 := Nat.le_antisymm hj ((gm_bdN (by decide) (by decide) (by omega)).mp h9)
      refine go_vret dX12_asTold_30 ?_
      subst he
      exact ⟨rfl, hR.fl hF, fun n hn => ⟨hW n hn, hR.1.1.2.2.1 n hn⟩⟩
    · have hlt : n < 30 := Nat.not_le.mp (fun zz => h9 ((gm_bdN (by decide) (by decide) (by omega)).mpr zz))
      refine go_al0 dX12_asTold_12 (go_getR (j := 64) fX12_43 rfl rfl dX12_asTold_13 (go_il1 dX12_asTold_16 (go_al0 dX12_asTold_17 (go_getR (j := 59) fX12_28 rfl rfl dX12_asTold_18 (go_il1 dX12_asTold_21 (go_iald rfl (vp_in_nI hlt (by decide)) dX12_asTold_22 (go_iast rfl (vp_in_nI hlt (by decide)) dX12_asTold_23 ?_)))))))
      rw [nI_clamp (show n < 2 ^ 31 by omega), hF.1 59 (by decide) (by decide), hR.1.2.2.2.1 n hlt]
      refine go_inc1 (k := 1) dX12_asTold_24 (by decide) rfl rfl (go_goto 6 dX12_asTold_27 (by decide) ?_)
      rw [nI_1]
      refine ih (30 - (n + 1)) (by omega) (n + 1) _ rfl (by omega) (hF.I _ _ (by decide) (by decide)) (fun i hi => ?_)
      rw [gm_I1, if_pos rfl]
      by_cases z : i = n
      · rw [if_pos z, z]
      · rw [if_neg z]; exact hW i (by omega)

set_option maxRecDepth 100000 in
set_option maxHeartbeats 400000 in
theorem mAsTold {r : RS} {μ : gm_M} (hA : MA r μ) : Sat yX12_asTold cX12_asTold 2 none 6 [(.ref 52)] μ (fun r' μ' => r' = none ∧ RDp r μ μ' ∧ WN (qwa (qof r)) μ') := by
  refine Sat.of (L := [some (.ref 52), none]) (by decide) (fun _ => rfl) (fun _ => rfl) ?_
  refine go_al0 dX12_asTold_0 ?_
  refine go_V0 mcX12_reads mvX12_reads kX12_139 rfl dX12_asTold_1 rfl rfl (mReads hA) ?_
  rintro _ m1 ⟨rfl, hR1⟩
  refine go_ic0 dX12_asTold_4 (go_is1 dX12_asTold_5 rfl rfl ?_)
  rw [← nI_0]
  exact mAT_loop hR1 _ 0 _ rfl (by decide) (FX.rf _) (fun i hi => absurd hi (Nat.not_lt_zero i))

set_option maxRecDepth 100000 in
set_option maxHeartbeats 400000 in
theorem mRunsTold {r : RS} {μ : gm_M} (hA : MA r μ) {k : Nat} (hk : k < qnum (qof r)) : Sat yX12_runsTold cX12_runsTold 2 none 7 [(.ref 52), (.int (nI k))] μ (fun r' μ' => r' = none ∧ RDp r μ μ' ∧ WN (qwa (qof r)) μ' ∧ MO (trof (qof r) 9 k) 30 μ') := by
  refine Sat.of (L := [some (.ref 52), some (.int (nI k))]) (by decide) (fun _ => rfl) (fun _ => rfl) ?_
  refine go_al0 dX12_runsTold_0 ?_
  refine go_V0 mcX12_asTold mvX12_asTold kX12_190 rfl dX12_runsTold_1 rfl rfl (mAsTold hA) ?_
  rintro _ m1 ⟨rfl, hR1, hW1⟩
  refine go_al0 dX12_runsTold_4 (go_il1 dX12_runsTold_5 ?_)
  refine go_V1 mcX12_runs mvX12_runs kX12_193 rfl dX12_runsTold_6 rfl rfl (mRuns hR1.1 hk hW1) ?_
  rintro _ m6 ⟨rfl, hF6, hO6⟩
  refine go_vret dX12_runsTold_9 ?_
  exact ⟨rfl, hR1.fl hF6.rl, hW1.fr hF6, hO6⟩

set_option maxRecDepth 100000 in
set_option maxHeartbeats 400000 in
theorem mAtOf {r : RS} {μ : gm_M} (hA : MA r μ) {n k : Nat} (hn : n < 30) (hk : k < qnum (qof r)) (x : Int32) : Sat yX12_atOf cX12_atOf 4 (some .int) 8 [(.ref 52), (.int (nI n)), (.int (nI k)), (.int x)] μ (fun r' μ' => r' = some (.int (if x = 0 then nI (ta (trof (qof r) 9 k) (n + 1)).1 else if x = 1 then oI (qhe (qof r) k n) else nI (tst (trof (qof r) 9 k) n))) ∧ RDp r μ μ') := by
  refine Sat.of (L := [some (.ref 52), some (.int (nI n)), some (.int (nI k)), some (.int x)]) (by decide) (fun _ => rfl) (fun _ => rfl) ?_
  refine go_al0 dX12_atOf_0 (go_il2 dX12_atOf_1 ?_)
  refine go_V1 mcX12_runsTold mvX12_runsTold kX12_196 rfl dX12_atOf_2 rfl rfl (mRunsTold hA hk) ?_
  rintro _ m2 ⟨rfl, hR2, hW2, hO2⟩
  refine go_il3 dX12_atOf_5 ?_
  refine go_ifne 18 dX12_atOf_6 (by decide) (fun h6 => ?_) (fun h6 => ?_)
  · refine go_il3 dX12_atOf_18 (go_ic1 dX12_atOf_19 ?_)
    refine go_cne 32 dX12_atOf_20 (by decide) (fun h20 => ?_) (fun h20 => ?_)
    · refine go_al0 dX12_atOf_32 (go_getR (j := 67) fX12_52 rfl rfl dX12_atOf_33 (go_il1 dX12_atOf_36 (go_iald rfl (vp_in_nI hn (by decide)) dX12_atOf_37 ?_)))
      rw [nI_clamp (show n < 2 ^ 31 by omega), (hO2 n hn).2.2]
      refine go_iret dX12_atOf_38 ?_
      exact ⟨by rw [if_neg h6, if_neg h20]; first | done | rfl, hR2⟩
    · refine go_al0 dX12_atOf_23 (go_getR (j := 66) fX12_49 rfl rfl dX12_atOf_24 (go_il1 dX12_atOf_27 (go_iald rfl (vp_in_nI hn (by decide)) dX12_atOf_28 ?_)))
      rw [nI_clamp (show n < 2 ^ 31 by omega), (hO2 n hn).2.1]
      refine go_goto 38 dX12_atOf_29 (by decide) ?_
      refine go_iret dX12_atOf_38 ?_
      exact ⟨by rw [if_neg h6, if_pos h20]; first | done | rfl, hR2⟩
  · refine go_al0 dX12_atOf_9 (go_getR (j := 65) fX12_46 rfl rfl dX12_atOf_10 (go_il1 dX12_atOf_13 (go_iald rfl (vp_in_nI hn (by decide)) dX12_atOf_14 ?_)))
    rw [nI_clamp (show n < 2 ^ 31 by omega), (hO2 n hn).1]
    refine go_goto 38 dX12_atOf_15 (by decide) ?_
    refine go_iret dX12_atOf_38 ?_
    exact ⟨by rw [if_pos h6]; first | done | rfl, hR2⟩

set_option maxRecDepth 100000 in
set_option maxHeartbeats 400000 in
theorem m_at {r : RS} {μ : gm_M} (hA : MA r μ) (n w x : Int32) : Sat yX12_at cX12_at 4 (some .int) 9 [(.ref 52), (.int n), (.int w), (.int x)] μ (fun r' μ' => r' = some (.int (sAt (qof r) n w x)) ∧ FX lQ fQ μ μ') := by
  refine Sat.of (L := [some (.ref 52), some (.int n), some (.int w), some (.int x)]) (by decide) (fun _ => rfl) (fun _ => rfl) ?_
  refine go_il1 dX12_at_0 (go_S1r mcX12_isNight mvX12_isNight kX12_148 dX12_at_1 rfl rfl (sX12_isNight _ _) ?_)
  refine go_ifeqB 34 dX12_at_4 (by decide) (fun h4 => ?_) (fun h4 => ?_)
  · refine go_bipush (v := -2) dX12_at_34 (by decide) ?_
    refine go_iret dX12_at_36 ?_
    exact ⟨by rw [sAt_g, if_neg (gf h4)], FX.rf μ⟩
  · refine go_al0 dX12_at_7 (go_il2 dX12_at_8 ?_)
    refine go_V1 mcX12_isWheel mvX12_isWheel kX12_142 rfl dX12_at_9 rfl rfl (mIsWheel hA _) ?_
    rintro _ m9 ⟨rfl, hR9⟩
    refine go_ifeqB 34 dX12_at_12 (by decide) (fun h12 => ?_) (fun h12 => ?_)
    · refine go_bipush (v := -2) dX12_at_34 (by decide) ?_
      refine go_iret dX12_at_36 ?_
      exact ⟨by rw [sAt_g, if_pos h4, if_neg (gf h12)], hR9.2.2⟩
    · refine go_il3 dX12_at_15 (go_ic0 dX12_at_16 (go_ic2 dX12_at_17 (go_S3r mcX12_in mvX12_in kX12_104 dX12_at_18 rfl rfl (sX12_in _ _ _ _) ?_)))
      refine go_ifeqB 34 dX12_at_21 (by decide) (fun h21 => ?_) (fun h21 => ?_)
      · refine go_bipush (v := -2) dX12_at_34 (by decide) ?_
        refine go_iret dX12_at_36 ?_
        exact ⟨by rw [sAt_g, if_pos h4, if_pos h12, if_neg (gf h21)], hR9.2.2⟩
      · obtain ⟨n, hn, rfl⟩ := gnight_of (by rw [← gin_night]; exact h4)
        obtain ⟨k, hk, rfl⟩ := inW_of (rok_q hA.1) h12
        refine go_al0 dX12_at_24 (go_il1 dX12_at_25 (go_il2 dX12_at_26 (go_il3 dX12_at_27 ?_)))
        refine go_V3 mcX12_atOf mvX12_atOf kX12_199 rfl dX12_at_28 rfl rfl (mAtOf (hR9.ma hA) hn hk x) ?_
        rintro _ m28 ⟨rfl, hR28⟩
        refine go_goto 36 dX12_at_31 (by decide) ?_
        refine go_iret dX12_at_36 ?_
        exact ⟨by rw [sAt_g, if_pos h4, if_pos h12, if_pos h21, wN_nI (by have := hR9.1.1.1; omega), wN_nI (by omega)], (hR9.tr hR28).2.2⟩

set_option maxRecDepth 100000 in
set_option maxHeartbeats 400000 in
theorem mHM_loop {t : TR} {μ : gm_M} (ht : tok t) (hO : MO t 30 μ) : ∀ (k_ n : Nat), 30 - n = k_ → n ≤ 30 → Go yX12_heardMany cX12_heardMany 3 (some .int) 0 4 [some (.ref 52), some (.int (nI (tct t n))), some (.int (nI n))] [] μ (fun r' μ' => r' = some (.int (nI (tct t 30))) ∧ μ' = μ) := by
  intro k_
  induction k_ using Nat.strongRecOn with
  | ind k_ ih =>
    intro n  hk_ hj 
    refine go_il2 dX12_heardMany_4 (go_bipush (v := 30) dX12_heardMany_5 (by decide) ?_)
    refine go_cge 34 dX12_heardMany_7 (by decide) (fun h7 => ?_) (fun h7 => ?_)
    · have he : n = 30 := Nat.le_antisymm hj ((gm_bdN (by decide) (by decide) (by omega)).mp h7)
      refine go_il1 dX12_heardMany_34 ?_
      refine go_iret dX12_heardMany_35 ?_
      subst he
      exact ⟨rfl, rfl⟩
    · have hlt : n < 30 := Nat.not_le.mp (fun zz => h7 ((gm_bdN (by decide) (by decide) (by omega)).mpr zz))
      refine go_il1 dX12_heardMany_10 (go_al0 dX12_heardMany_11 (go_getR (j := 66) fX12_49 rfl rfl dX12_heardMany_12 (go_il2 dX12_heardMany_15 (go_iald rfl (vp_in_nI hlt (by decide)) dX12_heardMany_16 ?_))))
      rw [nI_clamp (show n < 2 ^ 31 by omega), (hO n hlt).2.1]
      refine go_icm1 dX12_heardMany_17 ?_
      refine go_ceq 25 dX12_heardMany_18 (by decide) (fun h18 => ?_) (fun h18 => ?_)
      · refine go_ic0 dX12_heardMany_25 (go_iadd dX12_heardMany_26 (go_is1 dX12_heardMany_27 rfl rfl (go_inc2 (k := 1) dX12_heardMany_28 (by decide) rfl rfl (go_goto 4 dX12_heardMany_31 (by decide) ?_))))
        have e9 : tct t n = tct t (n + 1) := by rw [tct, (heard_none ht).mp h18]; rfl
        rw [Int32.add_zero, nI_1, e9]
        exact ih (30 - (n + 1)) (by omega) (n + 1) rfl (by omega)
      · refine go_ic1 dX12_heardMany_21 (go_goto 26 dX12_heardMany_22 (by decide) (go_iadd dX12_heardMany_26 (go_is1 dX12_heardMany_27 rfl rfl (go_inc2 (k := 1) dX12_heardMany_28 (by decide) rfl rfl (go_goto 4 dX12_heardMany_31 (by decide) ?_)))))
        have e8 : (tm t n).isSome = true := by
          cases hc : tm t n with
          | none => exact absurd ((heard_none ht).mpr hc) h18
          | some _ => rfl
        have e9 : tct t n + 1 = tct t (n + 1) := by rw [tct, if_pos e8]
        rw [nI_1, nI_1, e9]
        exact ih (30 - (n + 1)) (by omega) (n + 1) rfl (by omega)

set_option maxRecDepth 100000 in
set_option maxHeartbeats 400000 in
theorem mHeardMany {t : TR} {μ : gm_M} (ht : tok t) (hO : MO t 30 μ) : Ret yX12_heardMany cX12_heardMany 3 (some .int) 0 [(.ref 52)] μ (some (.int (nI (tct t 30)))) μ := by
  refine Sat.of (L := [some (.ref 52), none, none]) (by decide) (fun _ => rfl) (fun _ => rfl) ?_
  refine go_ic0 dX12_heardMany_0 (go_is1 dX12_heardMany_1 rfl rfl (go_ic0 dX12_heardMany_2 (go_is2 dX12_heardMany_3 rfl rfl ?_)))
  rw [← nI_0]
  exact mHM_loop ht hO _ 0 rfl (by decide)

set_option maxRecDepth 100000 in
set_option maxHeartbeats 400000 in
theorem mLongsOf {r : RS} {μ : gm_M} (hA : MA r μ) {k : Nat} (hk : k < qnum (qof r)) : Sat yX12_longsOf cX12_longsOf 2 (some .int) 8 [(.ref 52), (.int (nI k))] μ (fun r' μ' => r' = some (.int (nI (tct (trof (qof r) 9 k) 30))) ∧ RDp r μ μ') := by
  refine Sat.of (L := [some (.ref 52), some (.int (nI k))]) (by decide) (fun _ => rfl) (fun _ => rfl) ?_
  refine go_al0 dX12_longsOf_0 (go_il1 dX12_longsOf_1 ?_)
  refine go_V1 mcX12_runsTold mvX12_runsTold kX12_196 rfl dX12_longsOf_2 rfl rfl (mRunsTold hA hk) ?_
  rintro _ m2 ⟨rfl, hR2, hW2, hO2⟩
  refine go_al0 dX12_longsOf_5 (go_V0r mcX12_heardMany mvX12_heardMany kX12_203 rfl dX12_longsOf_6 rfl rfl (mHeardMany (trof_ok hR2.1.1 hk) hO2) ?_)
  refine go_iret dX12_longsOf_9 ?_
  exact ⟨rfl, hR2⟩

set_option maxRecDepth 100000 in
set_option maxHeartbeats 400000 in
theorem m_longs {r : RS} {μ : gm_M} (hA : MA r μ) (w : Int32) : Sat yX12_longs cX12_longs 2 (some .int) 9 [(.ref 52), (.int w)] μ (fun r' μ' => r' = some (.int (sLongs (qof r) w)) ∧ FX lQ fQ μ μ') := by
  refine Sat.of (L := [some (.ref 52), some (.int w)]) (by decide) (fun _ => rfl) (fun _ => rfl) ?_
  refine go_al0 dX12_longs_0 (go_il1 dX12_longs_1 ?_)
  refine go_V1 mcX12_isWheel mvX12_isWheel kX12_142 rfl dX12_longs_2 rfl rfl (mIsWheel hA _) ?_
  rintro _ m2 ⟨rfl, hR2⟩
  refine go_ifeqB 16 dX12_longs_5 (by decide) (fun h5 => ?_) (fun h5 => ?_)
  · refine go_bipush (v := -2) dX12_longs_16 (by decide) ?_
    refine go_iret dX12_longs_18 ?_
    exact ⟨by rw [sLongs, if_neg (gf h5)], hR2.2.2⟩
  · obtain ⟨k, hk, rfl⟩ := inW_of (rok_q hA.1) h5
    refine go_al0 dX12_longs_8 (go_il1 dX12_longs_9 ?_)
    refine go_V1 mcX12_longsOf mvX12_longsOf kX12_206 rfl dX12_longs_10 rfl rfl (mLongsOf (hR2.ma hA) hk) ?_
    rintro _ m10 ⟨rfl, hR10⟩
    refine go_goto 18 dX12_longs_13 (by decide) ?_
    refine go_iret dX12_longs_18 ?_
    exact ⟨by rw [sLongs, if_pos h5, wN_nI (by have := hR2.1.1.1; omega)], (hR2.tr hR10).2.2⟩

