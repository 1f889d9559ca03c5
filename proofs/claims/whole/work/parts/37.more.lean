/-! CHEESEEAR: wheel, warm, copy, write, read, count -/
def wlet (q : QS) (w j : Nat) : Int32 := if j < qsz q w then nI (qsn q w j) else -1
def sWheel (q : QS) (w x : Int32) : Int32 := if inW q w = true then (if x < 0 then -2 else if x ≤ 7 then (if x = 0 then nI (qso q (wN w)) else if x = 1 then nI (qfr q (wN w)) else if x = 2 then nI (qsz q (wN w)) else wlet q (wN w) (wN x - 3)) else -2) else -2
def sWarm (q : QS) (n : Int32) : Int32 := if gnight n = true then nI (qwa q (wN n)) else -2
theorem aSortOf {q : QS} {μ : gm_M} (hQ : CQ q μ) {k : Nat} (hk : k < qnum q) : Ret yX10_sortOf cX10_sortOf 2 (some .int) 1 [.ref 6, .int (nI k)] μ (some (.int (nI (qso q k)))) μ := by
  have h8 := hQ.1.1
  rw [← (hQ.2.2.1 k hk).1, ← gi_nI (f := μ.1 7) (n := 8) (show k < 8 by omega) (by decide) 0]
  exact sX10_sortOf _ μ
theorem aNightOf {q : QS} {μ : gm_M} (hQ : CQ q μ) {k : Nat} (hk : k < qnum q) : Ret yX10_nightOf cX10_nightOf 2 (some .int) 1 [.ref 6, .int (nI k)] μ (some (.int (nI (qfr q k)))) μ := by
  have h8 := hQ.1.1
  rw [← (hQ.2.2.1 k hk).2.1, ← gi_nI (f := μ.1 8) (n := 8) (show k < 8 by omega) (by decide) 0]
  exact sX10_nightOf _ μ
theorem aSizeOf {q : QS} {μ : gm_M} (hQ : CQ q μ) {k : Nat} (hk : k < qnum q) : Ret yX10_sizeOf cX10_sizeOf 2 (some .int) 1 [.ref 6, .int (nI k)] μ (some (.int (nI (qsz q k)))) μ := by
  have h8 := hQ.1.1
  rw [← (hQ.2.2.1 k hk).2.2.1, ← gi_nI (f := μ.1 9) (n := 8) (show k < 8 by omega) (by decide) 0]
  exact sX10_sizeOf _ μ
theorem aLetterOf {q : QS} {μ : gm_M} (hQ : CQ q μ) {k : Nat} (hk : k < qnum q) {x : Int32} {j : Nat} (hj : j < 5) (hx : x - 3 = nI j) : Ret yX10_letterOf cX10_letterOf 4 (some .int) 1 [.ref 6, .int (nI k), .int (x - 3)] μ (some (.int (wlet q k j))) μ := by
  rw [wlet, ← clet_t hQ hk hj, hx]
  exact sX10_letterOf _ _ μ
theorem aWarmthOn {q : QS} {μ : gm_M} (hQ : CQ q μ) {n : Nat} (hn : n < 30) : Ret yX0_warmthOn cX0_warmthOn 2 (some .int) 1 [.ref 11, .int (nI n)] μ (some (.int (nI (qwa q n)))) μ := by
  rw [← hQ.2.2.2.1 n hn, ← gi_nI (f := μ.1 12) hn (by decide) 5]
  exact sX0_warmthOn _ μ
set_option maxRecDepth 100000 in
set_option maxHeartbeats 400000 in
theorem p_wheel {q : QS} {μ : gm_M} (hQ : CQ q μ) (w x : Int32) : Sat yX11_wheel cX11_wheel 3 (some .int) 2 [(.ref 0), (.int w), (.int x)] μ (fun r μ' => r = some (.int (sWheel q w x)) ∧ FrR 25 42 μ μ') := by
  refine Sat.of (L := [some (.ref 0), some (.int w), some (.int x)]) (by decide) (fun _ => rfl) (fun _ => rfl) ?_
  refine go_al0 dX11_wheel_0 (go_getR (j := 1) fX11_12 rfl rfl dX11_wheel_1 (go_il1 dX11_wheel_4 (go_V1r mcX1_has mvX1_has kX11_94 rfl dX11_wheel_5 rfl rfl (aHasI hQ _) ?_)))
  refine go_ifeqB 21 dX11_wheel_8 (by decide) (fun h8 => ?_) (fun h8 => ?_)
  · refine go_bipush (v := -2) dX11_wheel_21 (by decide) ?_
    refine go_iret dX11_wheel_23 ?_
    exact ⟨by simp only [sWheel, if_neg (gf h8)], FrR.rf μ⟩
  · refine go_il2 dX11_wheel_11 ?_
    refine go_iflt 21 dX11_wheel_12 (by decide) (fun h12 => ?_) (fun h12 => ?_)
    · refine go_bipush (v := -2) dX11_wheel_21 (by decide) ?_
      refine go_iret dX11_wheel_23 ?_
      exact ⟨by simp only [sWheel, if_pos h8, if_pos h12], FrR.rf μ⟩
    · refine go_il2 dX11_wheel_15 (go_bipush (v := 7) dX11_wheel_16 (by decide) ?_)
      refine go_cle 24 dX11_wheel_18 (by decide) (fun h18 => ?_) (fun h18 => ?_)
      · obtain ⟨k, hk, rfl⟩ := inW_of hQ.1 h8
        have hn8 := hQ.1.1
        refine go_il2 dX11_wheel_24 ?_
        refine go_ifne 40 dX11_wheel_25 (by decide) (fun h25 => ?_) (fun h25 => ?_)
        · refine go_il2 dX11_wheel_40 (go_ic1 dX11_wheel_41 ?_)
          refine go_cne 57 dX11_wheel_42 (by decide) (fun h42 => ?_) (fun h42 => ?_)
          · refine go_il2 dX11_wheel_57 (go_ic2 dX11_wheel_58 ?_)
            refine go_cne 76 dX11_wheel_59 (by decide) (fun h59 => ?_) (fun h59 => ?_)
            · obtain ⟨y, hy, rfl⟩ := int_of (B := 7) (N := 7) (by decide) (by decide) h12 h18
              have hy3 : 3 ≤ y := by
                rcases y with _ | _ | _ | y
                · exact absurd rfl h25
                · exact absurd rfl h42
                · exact absurd rfl h59
                · omega
              refine go_al0 dX11_wheel_76 (go_getR (j := 1) fX11_12 rfl rfl dX11_wheel_77 (go_getR (j := 6) fX11_78 rfl rfl dX11_wheel_80 (go_il1 dX11_wheel_83 (go_il2 dX11_wheel_84 (go_ic3 dX11_wheel_85 (go_isub dX11_wheel_86 (go_V2r mcX10_letterOf mvX10_letterOf kX11_107 rfl dX11_wheel_87 rfl rfl (aLetterOf hQ hk (j := y - 3) (by omega) (by rw [show (3 : Int32) = nI 3 by decide, pk_sub (by omega)])) ?_)))))))
              refine go_iret dX11_wheel_90 ?_
              refine ⟨?_, FrR.rf μ⟩
              simp only [sWheel, if_pos h8, if_neg h12, if_pos h18, if_neg h25, if_neg h42, if_neg h59, wN_nI (show k < 2 ^ 31 by omega), wN_nI (show y < 2 ^ 31 by omega)]
            · refine go_al0 dX11_wheel_62 (go_getR (j := 1) fX11_12 rfl rfl dX11_wheel_63 (go_getR (j := 6) fX11_78 rfl rfl dX11_wheel_66 (go_il1 dX11_wheel_69 (go_V1r mcX10_sizeOf mvX10_sizeOf kX11_104 rfl dX11_wheel_70 rfl rfl (aSizeOf hQ hk) (go_goto 90 dX11_wheel_73 (by decide) ?_)))))
              refine go_iret dX11_wheel_90 ?_
              refine ⟨?_, FrR.rf μ⟩
              simp only [sWheel, if_pos h8, if_neg h12, if_pos h18, if_neg h25, if_neg h42, if_pos h59, wN_nI (show k < 2 ^ 31 by omega)]
          · refine go_al0 dX11_wheel_45 (go_getR (j := 1) fX11_12 rfl rfl dX11_wheel_46 (go_getR (j := 6) fX11_78 rfl rfl dX11_wheel_49 (go_il1 dX11_wheel_52 (go_V1r mcX10_nightOf mvX10_nightOf kX11_101 rfl dX11_wheel_53 rfl rfl (aNightOf hQ hk) ?_))))
            refine go_iret dX11_wheel_56 ?_
            refine ⟨?_, FrR.rf μ⟩
            simp only [sWheel, if_pos h8, if_neg h12, if_pos h18, if_neg h25, if_pos h42, wN_nI (show k < 2 ^ 31 by omega)]
        · refine go_al0 dX11_wheel_28 (go_getR (j := 1) fX11_12 rfl rfl dX11_wheel_29 (go_getR (j := 6) fX11_78 rfl rfl dX11_wheel_32 (go_il1 dX11_wheel_35 (go_V1r mcX10_sortOf mvX10_sortOf kX11_97 rfl dX11_wheel_36 rfl rfl (aSortOf hQ hk) ?_))))
          refine go_iret dX11_wheel_39 ?_
          refine ⟨?_, FrR.rf μ⟩
          simp only [sWheel, if_pos h8, if_neg h12, if_pos h18, if_pos h25, wN_nI (show k < 2 ^ 31 by omega)]
      · refine go_bipush (v := -2) dX11_wheel_21 (by decide) ?_
        refine go_iret dX11_wheel_23 ?_
        exact ⟨by simp only [sWheel, if_pos h8, if_neg h12, if_neg h18], FrR.rf μ⟩

set_option maxRecDepth 100000 in
set_option maxHeartbeats 400000 in
theorem p_warm {q : QS} {μ : gm_M} (hQ : CQ q μ) (n : Int32) : Sat yX11_warm cX11_warm 2 (some .int) 2 [(.ref 0), (.int n)] μ (fun r μ' => r = some (.int (sWarm q n)) ∧ FrR 25 42 μ μ') := by
  refine Sat.of (L := [some (.ref 0), some (.int n)]) (by decide) (fun _ => rfl) (fun _ => rfl) ?_
  refine go_il1 dX11_warm_0 (go_S1r mcX11_isNight mvX11_isNight kX11_111 dX11_warm_1 rfl rfl (sX11_isNight _ _) ?_)
  refine go_ifeqB 21 dX11_warm_4 (by decide) (fun h4 => ?_) (fun h4 => ?_)
  · refine go_bipush (v := -2) dX11_warm_21 (by decide) ?_
    refine go_iret dX11_warm_23 ?_
    exact ⟨by simp only [sWarm, if_neg (gf h4)], FrR.rf μ⟩
  · obtain ⟨n, hn, rfl⟩ := gnight_of h4
    refine go_al0 dX11_warm_7 (go_getR (j := 1) fX11_12 rfl rfl dX11_warm_8 (go_getR (j := 11) fX11_87 rfl rfl dX11_warm_11 (go_il1 dX11_warm_14 (go_V1r mcX0_warmthOn mvX0_warmthOn kX11_114 rfl dX11_warm_15 rfl rfl (aWarmthOn hQ hn) (go_goto 23 dX11_warm_18 (by decide) ?_)))))
    refine go_iret dX11_warm_23 ?_
    refine ⟨?_, FrR.rf μ⟩
    simp only [sWarm, if_pos h4, wN_nI (show n < 2 ^ 31 by omega)]

def holdN (z : Nat) (i n : Int32) : Bool := decide (¬ i < 0) && (decide (¬ n < 0) && decide (wN i + wN n ≤ z))
theorem holds_t {z : Nat} (hz : z ≤ 60) (i n : Int32) : csholds (nI z) i n = holdN z i n := by
  unfold csholds holdN
  by_cases h1 : i < 0
  · simp [h1]
  by_cases h2 : n < 0
  · simp [h1, h2]
  obtain ⟨a, ha, rfl⟩ := nI_of h1
  obtain ⟨b, hb, rfl⟩ := nI_of h2
  rw [wN_nI ha, wN_nI hb]
  have e60 : ¬ nI 60 < nI z := by rw [nI_ltI (by decide) (by omega)]; omega
  by_cases h3 : nI z < nI a
  · have := (nI_ltI (by omega) ha).mp h3
    have e : ¬ a + b ≤ z := by omega
    simp [h3, e]
  · have h3' : a ≤ z := by
      have : ¬ z < a := fun q => h3 ((nI_ltI (by omega) ha).mpr q)
      omega
    rw [pk_sub h3']
    have e : (nI (z - a) < nI b) = (z - a < b) := propext (nI_ltI (by omega) hb)
    have e2 : (a + b ≤ z) = ¬ (z - a < b) := propext (by omega)
    simp [h1, h2, h3, e60, e, e2]
def sCopy (r : RS) (s i t j n : Int32) : Int32 := if inS s = true then (if inS t = true then (if (rst r (wN s)).1 = true then -11 else if (rst r (wN t)).1 = true then -11 else if (rst r (wN s)).2.1 = (rst r (wN t)).2.1 then (if holdN (rst r (wN s)).2.2.1 i n = true then (if holdN (rst r (wN t)).2.2.1 j n = true then 1 else -12) else -12) else -14) else -2) else -2
def cpS (r : RS) (s i t j n : Nat) : Nat → Int32 := fun a => if j ≤ a ∧ a < j + n then (rst r s).2.2.2 (i + (a - j)) else (rst r t).2.2.2 a
def nCopy (r : RS) (s i t j n : Int32) : RS := if inS s = true then (if inS t = true then (if (rst r (wN s)).1 = true then wF r 1 else if (rst r (wN t)).1 = true then wF r 1 else if (rst r (wN s)).2.1 = (rst r (wN t)).2.1 then (if holdN (rst r (wN s)).2.2.1 i n = true then (if holdN (rst r (wN t)).2.2.1 j n = true then wSF r (wN t) ((rst r (wN t)).1, (rst r (wN t)).2.1, (rst r (wN t)).2.2.1, cpS r (wN s) (wN i) (wN t) (wN j) (wN n)) (rfi r) else wF r 2) else wF r 2) else wF r 4) else r) else r
theorem holdN_of {z : Nat} {i n : Int32} (h : holdN z i n = true) (hz : z ≤ 60) : ∃ a b, a + b ≤ z ∧ i = nI a ∧ n = nI b := by
  unfold holdN at h
  simp only [Bool.and_eq_true, decide_eq_true_eq] at h
  obtain ⟨a, ha, rfl⟩ := nI_of h.1
  obtain ⟨b, hb, rfl⟩ := nI_of h.2.1
  have := h.2.2
  rw [wN_nI ha, wN_nI hb] at this
  exact ⟨a, b, this, rfl, rfl⟩
theorem aHolds {k : Nat} (hk : k < 4) {z : Nat} (hz : z ≤ 60) {μ : gm_M} (h : μ.1 (44 + k) 3 = nI z) (i n : Int32) : Ret yX6_holds cX6_holds 3 (some .boolean) 0 [.ref (44 + k), .int i, .int n] μ (some (.int (gb (holdN z i n)))) μ := by
  rw [← holds_t hz, ← h]
  exact sX6_holds (shS hk) (shQ hk) i n μ
theorem gb_ne0 {b : Bool} (h : ¬ gb b = 0) : b = true := by
  cases b with
  | true => rfl
  | false => exact absurd rfl h
set_option maxRecDepth 100000 in
set_option maxHeartbeats 400000 in
theorem p_copy {r : RS} {μ : gm_M} (hC : CA r μ) (s i t j n : Int32) : Sat yX11_copy cX11_copy 8 (some .int) 1 [(.ref 0), (.int s), (.int i), (.int t), (.int j), (.int n)] μ (fun r' μ' => r' = some (.int (sCopy r s i t j n)) ∧ CA (nCopy r s i t j n) μ' ∧ FrR 0 51 μ μ') := by
  refine Sat.of (L := [some (.ref 0), some (.int s), some (.int i), some (.int t), some (.int j), some (.int n), none, none]) (by decide) (fun _ => rfl) (fun _ => rfl) ?_
  refine go_al0 dX11_copy_0 (go_il1 dX11_copy_1 (go_V1r mcX11_isSheet mvX11_isSheet kX11_139 rfl dX11_copy_2 rfl rfl (sX11_isSheet _ _) ?_))
  refine go_ifeqB 16 dX11_copy_5 (by decide) (fun h5 => ?_) (fun h5 => ?_)
  · refine go_bipush (v := -2) dX11_copy_16 (by decide) ?_
    refine go_iret dX11_copy_18 ?_
    simp only [sCopy, nCopy, if_neg (gf (show inS _ = false from h5))]
    exact ⟨trivial, hC, FrR.rf μ⟩
  · refine go_al0 dX11_copy_8 (go_il3 dX11_copy_9 (go_V1r mcX11_isSheet mvX11_isSheet kX11_139 rfl dX11_copy_10 rfl rfl (sX11_isSheet _ _) ?_))
    refine go_ifneB 19 dX11_copy_13 (by decide) (fun h13 => ?_) (fun h13 => ?_)
    · obtain ⟨k, hk, rfl⟩ := inS_of (show inS s = true from h5)
      obtain ⟨l, hl, rfl⟩ := inS_of (show inS t = true from h13)
      have hks := hC.2.2.2.2.1 k hk
      have hls := hC.2.2.2.2.1 l hl
      have hko := hC.1.2.2.2.2.2.2.2 k hk
      have hlo := hC.1.2.2.2.2.2.2.2 l hl
      refine go_al0 dX11_copy_19 (go_getR (j := 43) fX11_48 rfl rfl dX11_copy_20 (go_il1 dX11_copy_23 (go_aald rfl (vp_in_nI hk (by decide)) dX11_copy_24 ?_)))
      rw [nI_clamp (show k < 2 ^ 31 by omega)]
      refine go_as6 dX11_copy_25 rfl rfl (go_al0 dX11_copy_27 (go_getR (j := 43) fX11_48 rfl rfl dX11_copy_28 (go_il3 dX11_copy_31 (go_aald rfl (vp_in_nI hl (by decide)) dX11_copy_32 ?_))))
      rw [nI_clamp (show l < 2 ^ 31 by omega)]
      refine go_as7 dX11_copy_33 rfl rfl (go_al6 dX11_copy_35 (go_getI fX11_142 (shS hk) rfl dX11_copy_37 ?_))
      refine go_ifne 51 dX11_copy_40 (by decide) (fun h40 => ?_) (fun h40 => ?_)
      · refine go_al0 dX11_copy_51 (go_ic1 dX11_copy_52 (go_V1r mcX11_found mvX11_found kX11_146 rfl dX11_copy_53 rfl rfl (sX11_found _ _) ?_))
        refine go_iret dX11_copy_56 ?_
        have gh40 : (rst r k).1 = true := gb_ne0 (by have := h40; rw [hks.1] at this; exact this)
        simp only [sCopy, nCopy, wN_nI (show k < 2 ^ 31 by omega), wN_nI (show l < 2 ^ 31 by omega), if_pos (show inS _ = true from h5), if_pos (show inS _ = true from h13), if_pos gh40]
        exact ⟨by decide, CA_find hC _⟩
      · refine go_al7 dX11_copy_43 (go_getI fX11_142 (shS hl) rfl dX11_copy_45 ?_)
        refine go_ifeq 57 dX11_copy_48 (by decide) (fun h48 => ?_) (fun h48 => ?_)
        · refine go_al6 dX11_copy_57 (go_getI fX11_286 (shS hk) rfl dX11_copy_59 (go_al7 dX11_copy_62 (go_getI fX11_286 (shS hl) rfl dX11_copy_64 ?_)))
          refine go_ceq 76 dX11_copy_67 (by decide) (fun h67 => ?_) (fun h67 => ?_)
          · refine go_al6 dX11_copy_76 (go_il2 dX11_copy_78 (go_il5 dX11_copy_79 (go_V2r mcX6_holds mvX6_holds kX11_289 (shS hk) dX11_copy_81 rfl rfl (aHolds hk hko.2 hks.2.2.1 _ _) ?_)))
            refine go_ifeqB 99 dX11_copy_84 (by decide) (fun h84 => ?_) (fun h84 => ?_)
            · refine go_al0 dX11_copy_99 (go_ic2 dX11_copy_100 (go_V1r mcX11_found mvX11_found kX11_146 rfl dX11_copy_101 rfl rfl (sX11_found _ _) ?_))
              refine go_iret dX11_copy_104 ?_
              have gh40 : (rst r k).1 = false := gb_eq0.mp (by have := h40; rw [hks.1] at this; exact this)
              have gh48 : (rst r l).1 = false := gb_eq0.mp (by have := h48; rw [hls.1] at this; exact this)
              have gh67 : (rst r k).2.1 = (rst r l).2.1 := (nI_eq (by omega) (by omega)).mp (by have := h67; rw [hks.2.1, hls.2.1] at this; exact this)
              simp only [sCopy, nCopy, wN_nI (show k < 2 ^ 31 by omega), wN_nI (show l < 2 ^ 31 by omega), if_pos (show inS _ = true from h5), if_pos (show inS _ = true from h13), if_neg (gf gh40), if_neg (gf gh48), if_pos gh67, if_neg (gf h84)]
              exact ⟨by decide, CA_find hC _⟩
            · refine go_al7 dX11_copy_87 (go_il4 dX11_copy_89 (go_il5 dX11_copy_91 (go_V2r mcX6_holds mvX6_holds kX11_289 (shS hl) dX11_copy_93 rfl rfl (aHolds hl hlo.2 hls.2.2.1 _ _) ?_)))
              refine go_ifneB 105 dX11_copy_96 (by decide) (fun h96 => ?_) (fun h96 => ?_)
              · obtain ⟨a, b, hab, e1, e2⟩ := holdN_of h84 hko.2
                obtain ⟨c, b', hcb, e3, e4⟩ := holdN_of h96 hlo.2
                have eb : b = b' := (nI_eq (by omega) (by omega)).mp (by rw [← e4, ← e2])
                subst eb
                refine go_al6 dX11_copy_105 (go_getR (j := (48 + k)) fX11_293 (shS hk) rfl dX11_copy_107 (go_il2 dX11_copy_110 (go_al7 dX11_copy_111 (go_getR (j := (48 + l)) fX11_293 (shS hl) rfl dX11_copy_113 (go_il4 dX11_copy_116 (go_il5 dX11_copy_118 (go_copyIn a c b e1 e3 e2 (n0 := 60) (n1 := 60) (by omega) (by omega) (by decide) (by decide) kX11_297 (shQ hk) (shQ hl) rfl rfl dX11_copy_120 (go_ic1 dX11_copy_123 ?_))))))))
                refine go_iret dX11_copy_124 ?_
                have gh40 : (rst r k).1 = false := gb_eq0.mp (by have := h40; rw [hks.1] at this; exact this)
                have gh48 : (rst r l).1 = false := gb_eq0.mp (by have := h48; rw [hls.1] at this; exact this)
                have gh67 : (rst r k).2.1 = (rst r l).2.1 := (nI_eq (by omega) (by omega)).mp (by have := h67; rw [hks.2.1, hls.2.1] at this; exact this)
                simp only [sCopy, nCopy, wN_nI (show k < 2 ^ 31 by omega), wN_nI (show l < 2 ^ 31 by omega), if_pos (show inS _ = true from h5), if_pos (show inS _ = true from h13), if_neg (gf gh40), if_neg (gf gh48), if_pos gh67, if_pos h84, if_pos h96]
                rw [e1, e2, e3, wN_nI (by omega), wN_nI (by omega), wN_nI (by omega)]
                refine ⟨trivial, CA_sheet hC hl hlo (fun c0 z1 z2 z3 => by simp [gm_aI, z2]) (by simpa [gm_aI] using hls.1) (by simpa [gm_aI] using hls.2.1) (by simpa [gm_aI] using hls.2.2.1) (fun x hx => ?_) (by simpa [gm_aI, show (0 : Nat) ≠ 48 + l by omega] using hC.2.2.2.2.2)⟩
                have e9 : ∀ F : Nat → Int32, (gm_aI μ (48 + l) F).1 (48 + l) x = F x := fun F => by simp [gm_aI]
                rw [e9]
                show (if c ≤ x ∧ x < c + b then μ.1 (48 + k) (a + (x - c)) else μ.1 (48 + l) x) = (if c ≤ x ∧ x < c + b then (rst r k).2.2.2 (a + (x - c)) else (rst r l).2.2.2 x)
                by_cases z : c ≤ x ∧ x < c + b
                · rw [if_pos z, if_pos z]; exact hks.2.2.2 _ (by omega)
                · rw [if_neg z, if_neg z]; exact hls.2.2.2 x hx
              · refine go_al0 dX11_copy_99 (go_ic2 dX11_copy_100 (go_V1r mcX11_found mvX11_found kX11_146 rfl dX11_copy_101 rfl rfl (sX11_found _ _) ?_))
                refine go_iret dX11_copy_104 ?_
                have gh40 : (rst r k).1 = false := gb_eq0.mp (by have := h40; rw [hks.1] at this; exact this)
                have gh48 : (rst r l).1 = false := gb_eq0.mp (by have := h48; rw [hls.1] at this; exact this)
                have gh67 : (rst r k).2.1 = (rst r l).2.1 := (nI_eq (by omega) (by omega)).mp (by have := h67; rw [hks.2.1, hls.2.1] at this; exact this)
                simp only [sCopy, nCopy, wN_nI (show k < 2 ^ 31 by omega), wN_nI (show l < 2 ^ 31 by omega), if_pos (show inS _ = true from h5), if_pos (show inS _ = true from h13), if_neg (gf gh40), if_neg (gf gh48), if_pos gh67, if_pos h84, if_neg (gf h96)]
                exact ⟨by decide, CA_find hC _⟩
          · refine go_al0 dX11_copy_70 (go_ic4 dX11_copy_71 (go_V1r mcX11_found mvX11_found kX11_146 rfl dX11_copy_72 rfl rfl (sX11_found _ _) ?_))
            refine go_iret dX11_copy_75 ?_
            have gh40 : (rst r k).1 = false := gb_eq0.mp (by have := h40; rw [hks.1] at this; exact this)
            have gh48 : (rst r l).1 = false := gb_eq0.mp (by have := h48; rw [hls.1] at this; exact this)
            have gh67 : ¬ (rst r k).2.1 = (rst r l).2.1 := fun q => h67 (by rw [hks.2.1, hls.2.1, q])
            simp only [sCopy, nCopy, wN_nI (show k < 2 ^ 31 by omega), wN_nI (show l < 2 ^ 31 by omega), if_pos (show inS _ = true from h5), if_pos (show inS _ = true from h13), if_neg (gf gh40), if_neg (gf gh48), if_neg gh67]
            exact ⟨by decide, CA_find hC _⟩
        · refine go_al0 dX11_copy_51 (go_ic1 dX11_copy_52 (go_V1r mcX11_found mvX11_found kX11_146 rfl dX11_copy_53 rfl rfl (sX11_found _ _) ?_))
          refine go_iret dX11_copy_56 ?_
          have gh40 : (rst r k).1 = false := gb_eq0.mp (by have := h40; rw [hks.1] at this; exact this)
          have gh48 : (rst r l).1 = true := gb_ne0 (by have := h48; rw [hls.1] at this; exact this)
          simp only [sCopy, nCopy, wN_nI (show k < 2 ^ 31 by omega), wN_nI (show l < 2 ^ 31 by omega), if_pos (show inS _ = true from h5), if_pos (show inS _ = true from h13), if_neg (gf gh40), if_pos gh48]
          exact ⟨by decide, CA_find hC _⟩
    · refine go_bipush (v := -2) dX11_copy_16 (by decide) ?_
      refine go_iret dX11_copy_18 ?_
      simp only [sCopy, nCopy, if_pos (show inS _ = true from h5), if_neg (gf (show inS _ = false from h13))]
      exact ⟨trivial, hC, FrR.rf μ⟩

theorem gm_bdG {x : Int32} {N j : Nat} (hx : x = nI (N - 1)) (h0 : 0 < N) (hN : N < 2 ^ 31) (hj : j < 2 ^ 31) : x < nI j ↔ N ≤ j := by
  rw [hx, nI_ltI (by omega) hj]; omega
def wrT (r : RS) (k : Nat) (t : TR) (n : Nat) : SHT := ((rst r k).1, (rst r k).2.1, (rst r k).2.2.1, fun a => if a < n then csnar (nI (rst r k).2.1) (oI ((tm t a).map (tsn t))) else (rst r k).2.2.2 a)
def sWrite (r : RS) (w s : Int32) : Int32 := if inW (qof r) w = true then (if inS s = true then (if (rst r (wN s)).1 = true then -11 else nI (min (rst r (wN s)).2.2.1 30)) else -2) else -2
def nWrite (r : RS) (w s : Int32) : RS := if inW (qof r) w = true then (if inS s = true then (if (rst r (wN s)).1 = true then wF r 1 else wSF r (wN s) (wrT r (wN s) (trof (qof r) 9 (wN w)) (min (rst r (wN s)).2.2.1 30)) (rfi r)) else r) else r
theorem wSF_wSF (r : RS) (k : Nat) (t t' : SHT) (v v' : Int32) : wSF (wSF r k t v) k t' v' = wSF r k t' v' := by
  have : (fun s => if s = k then t' else rst (wSF r k t v) s) = fun s => if s = k then t' else rst r s := by
    funext s
    by_cases z : s = k
    · rw [if_pos z, if_pos z]
    · rw [if_neg z, if_neg z]; show (if s = k then t else rst r s) = _; rw [if_neg z]
  show (_, _, _, _, _, _, _, (fun s => if s = k then t' else rst (wSF r k t v) s), v') = _
  rw [this]; rfl
theorem wSF_self (r : RS) (k : Nat) : wSF r k (rst r k) (rfi r) = r := by
  have : (fun s => if s = k then rst r k else rst r s) = rst r := by
    funext s
    by_cases z : s = k
    · rw [if_pos z, z]
    · rw [if_neg z]
  show (_, _, _, _, _, _, _, (fun s => if s = k then rst r k else rst r s), rfi r) = _
  rw [this]; rfl
theorem wrT_0 (r : RS) (k : Nat) (t : TR) : wrT r k t 0 = rst r k := by
  unfold wrT
  have : (fun a => if a < 0 then csnar (nI (rst r k).2.1) (oI ((tm t a).map (tsn t))) else (rst r k).2.2.2 a) = (rst r k).2.2.2 := by
    funext a; rw [if_neg (Nat.not_lt_zero a)]
  rw [this]
theorem RO.cong {t : TR} {n : Nat} {m m' : gm_M} (h : RO t n m) (e : ∀ c, 25 ≤ c → c ≤ 31 → m'.1 c = m.1 c) : RO t n m' := ⟨by rw [e 28 (by decide) (by decide), e 29 (by decide) (by decide), e 30 (by decide) (by decide), e 31 (by decide) (by decide)]; exact h.1, by rw [e 25 (by decide) (by decide)]; exact h.2⟩
set_option maxRecDepth 100000 in
set_option maxHeartbeats 400000 in
theorem aX11_wr_loop {r : RS} {μ : gm_M} {k : Nat} (hk : k < 4) {t : TR} {M : Nat} (hM : M ≤ 30) (hz : (rst r k).2.1 ≤ 2 ∧ (rst r k).2.2.1 ≤ 60) {d1 d2 : Option Value} : ∀ (k_ n : Nat) (m : gm_M), M - n = k_ → n ≤ M → (CA (wSF r k (wrT r k t n) (rfi r)) m) → (RO t 30 m) → (FrR 0 51 μ m) → Go yX11_write cX11_write 7 (some .int) 3 71 [some (.ref 0), d1, d2, some (.ref (44 + k)), some (.ref 25), some (.int (nI M)), some (.int (nI n))] [] m (fun r' μ' => r' = some (.int (nI M)) ∧ CA (wSF r k (wrT r k t M) (rfi r)) μ' ∧ FrR 0 51 μ μ') := by
  intro k_
  induction k_ using Nat.strongRecOn with
  | ind k_ ih =>
    intro n m  hk_ hj hC hR hF
    refine go_il6 dX11_write_71 (go_il5 dX11_write_73 ?_)
    refine go_cge 97 dX11_write_75 (by decide) (fun h75 => ?_) (fun h75 => ?_)
    · have he : n = M := Nat.le_antisymm hj ((gm_bdN rfl (by omega) (by omega)).mp h75)
      refine go_il5 dX11_write_97 ?_
      refine go_iret dX11_write_99 ?_
      subst he
      exact ⟨rfl, hC, hF⟩
    · have hlt : n < M := Nat.not_le.mp (fun zz => h75 ((gm_bdN rfl (by omega) (by omega)).mpr zz))
      refine go_al3 dX11_write_78 (go_il6 dX11_write_79 (go_al4 dX11_write_81 (go_il6 dX11_write_83 (go_V1r mcX9_heardOn mvX9_heardOn kX11_167 rfl dX11_write_85 rfl rfl (aHeard hR (show n < 30 by omega)) (go_V2v mcX6_place mvX6_place kX11_282 (shS hk) dX11_write_88 rfl rfl (sX6_place (shS hk) (shQ hk) (j := n) (by omega) _ _) (go_inc6 (k := 1) dX11_write_91 (by decide) rfl rfl (go_goto 71 dX11_write_94 (by decide) ?_)))))))
      have hs := hC.2.2.2.2.1 k hk
      have e0 : rst (wSF r k (wrT r k t n) (rfi r)) k = wrT r k t n := by show (if k = k then _ else _) = _; rw [if_pos rfl]
      rw [e0] at hs
      rw [nI_1]
      have hg := CA_sheet (μ' := gm_I m (48 + k) n (csnar (m.1 (44 + k) 2) (oI ((tm t n).map (tsn t))))) hC hk (t := wrT r k t (n + 1)) (v := rfi r) hz (fun c z1 z2 z3 => gm_In _ _ _ z2) (by rw [gm_In _ _ _ (by omega)]; exact hs.1) (by rw [gm_In _ _ _ (by omega)]; exact hs.2.1) (by rw [gm_In _ _ _ (by omega)]; exact hs.2.2.1) (fun a ha => by
        rw [gm_I1, if_pos rfl, hs.2.1]
        show (if a = n then csnar (nI (rst r k).2.1) _ else _) = if a < n + 1 then _ else _
        by_cases y : a = n
        · rw [if_pos y, if_pos (by omega), y]
        · rw [if_neg y, hs.2.2.2 a ha]
          show (if a < n then _ else _) = _
          by_cases y2 : a < n
          · rw [if_pos y2, if_pos (by omega)]
          · rw [if_neg y2, if_neg (by omega)]) (by rw [gm_In _ _ _ (by omega)]; exact hC.2.2.2.2.2)
      rw [wSF_wSF] at hg
      exact ih (M - (n + 1)) (by omega) (n + 1) _ rfl (by omega) hg.1 (hR.cong (fun c z1 z2 => gm_In _ _ _ (by omega))) (hF.tr hg.2)

set_option maxRecDepth 100000 in
set_option maxHeartbeats 400000 in
theorem p_write {r : RS} {μ : gm_M} (hC : CA r μ) (w s : Int32) : Sat yX11_write cX11_write 7 (some .int) 3 [(.ref 0), (.int w), (.int s)] μ (fun r' μ' => r' = some (.int (sWrite r w s)) ∧ CA (nWrite r w s) μ' ∧ FrR 0 51 μ μ') := by
  refine Sat.of (L := [some (.ref 0), some (.int w), some (.int s), none, none, none, none]) (by decide) (fun _ => rfl) (fun _ => rfl) ?_
  refine go_al0 dX11_write_0 (go_getR (j := 1) fX11_12 rfl rfl dX11_write_1 (go_il1 dX11_write_4 (go_V1r mcX1_has mvX1_has kX11_94 rfl dX11_write_5 rfl rfl (aHasI hC.q _) ?_)))
  refine go_ifeqB 19 dX11_write_8 (by decide) (fun h8 => ?_) (fun h8 => ?_)
  · refine go_bipush (v := -2) dX11_write_19 (by decide) ?_
    refine go_iret dX11_write_21 ?_
    simp only [sWrite, nWrite, if_neg (gf h8)]
    exact ⟨trivial, hC, FrR.rf μ⟩
  · refine go_al0 dX11_write_11 (go_il2 dX11_write_12 (go_V1r mcX11_isSheet mvX11_isSheet kX11_139 rfl dX11_write_13 rfl rfl (sX11_isSheet _ _) ?_))
    refine go_ifneB 22 dX11_write_16 (by decide) (fun h16 => ?_) (fun h16 => ?_)
    · obtain ⟨k, hk, rfl⟩ := inS_of (show inS s = true from h16)
      have hks := hC.2.2.2.2.1 k hk
      have hko := hC.1.2.2.2.2.2.2.2 k hk
      obtain ⟨v, hv, rfl⟩ := inW_of hC.q.1 h8
      have hv8 := hC.q.1.1
      refine go_al0 dX11_write_22 (go_getR (j := 43) fX11_48 rfl rfl dX11_write_23 (go_il2 dX11_write_26 (go_aald rfl (vp_in_nI hk (by decide)) dX11_write_27 ?_)))
      rw [nI_clamp (show k < 2 ^ 31 by omega)]
      refine go_as3 dX11_write_28 rfl rfl (go_al3 dX11_write_29 (go_getI fX11_142 (shS hk) rfl dX11_write_30 ?_))
      refine go_ifeq 42 dX11_write_33 (by decide) (fun h33 => ?_) (fun h33 => ?_)
      · refine go_al0 dX11_write_42 (go_getR (j := 1) fX11_12 rfl rfl dX11_write_43 (go_il1 dX11_write_46 ?_))
        refine go_V1 mcX1_begin mvX1_begin kX11_155 rfl dX11_write_47 rfl rfl (aBegin hC.q hv) ?_
        rintro _ m47 ⟨rfl, hT47, hF47⟩
        refine go_as4 dX11_write_50 rfl rfl (go_al4 dX11_write_52 ?_)
        refine go_V0 mcX9_run mvX9_run kX11_159 rfl dX11_write_54 rfl rfl (aRun hT47) ?_
        rintro _ m54 ⟨rfl, hT54, hR54, hE54, hF54⟩
        refine go_al3 dX11_write_57 (go_getI fX11_149 (shS hk) rfl dX11_write_58 (go_bipush (v := 30) dX11_write_61 (by decide) (go_min kX11_303 dX11_write_63 rfl rfl (go_is5 dX11_write_66 rfl rfl (go_ic0 dX11_write_68 (go_is6 dX11_write_69 rfl rfl ?_))))))
        have hnl : (rst r k).1 = false := gb_eq0.mp (by have := h33; rw [hks.1] at this; exact this)
        have hF9 : FrR 25 42 μ m54 := ((FrR.rf μ).f25 hF47 (by decide) (by decide)).f25 hF54 (by decide) (by decide)
        have hC9 : CA r m54 := hC.fr hF9
        have eM : (if (30 : Int32) < m54.1 (44 + k) 3 then (30 : Int32) else m54.1 (44 + k) 3) = nI (min (rst r k).2.2.1 30) := by
          rw [(hC9.2.2.2.2.1 k hk).2.2.1]
          by_cases y : 30 < (rst r k).2.2.1
          · rw [if_pos (show (30 : Int32) < nI (rst r k).2.2.1 from (nI_ltI (by decide) (by omega)).mpr y), Nat.min_eq_right (by omega)]; rfl
          · rw [if_neg (show ¬ (30 : Int32) < nI (rst r k).2.2.1 from fun z => y ((nI_ltI (show 30 < 2 ^ 31 by decide) (by omega)).mp z)), Nat.min_eq_left (by omega)]
        rw [eM]
        simp only [sWrite, nWrite, wN_nI (show k < 2 ^ 31 by omega), wN_nI (show v < 2 ^ 31 by omega), if_pos (show inW (qof r) (nI v) = true from h8), if_pos (show inS (nI k) = true from h16), if_neg (gf hnl)]
        refine aX11_wr_loop hk (Nat.min_le_right _ _) hko _ 0 _ rfl (Nat.zero_le _) ?_ hR54 (fun c hc => hF9 c (by omega))
        rw [wrT_0, wSF_self]
        exact hC9
      · refine go_al0 dX11_write_36 (go_ic1 dX11_write_37 (go_V1r mcX11_found mvX11_found kX11_146 rfl dX11_write_38 rfl rfl (sX11_found _ _) ?_))
        refine go_iret dX11_write_41 ?_
        have g33 : (rst r k).1 = true := gb_ne0 (by have := h33; rw [hks.1] at this; exact this)
        simp only [sWrite, nWrite, wN_nI (show k < 2 ^ 31 by omega), if_pos h8, if_pos (show inS _ = true from h16), if_pos g33]
        exact ⟨by decide, CA_find hC _⟩
    · refine go_bipush (v := -2) dX11_write_19 (by decide) ?_
      refine go_iret dX11_write_21 ?_
      simp only [sWrite, nWrite, if_pos h8, if_neg (gf (show inS _ = false from h16))]
      exact ⟨trivial, hC, FrR.rf μ⟩

def rdLp (t : SHT) : Nat → Nat → RS → RS × Nat
  | 0, i, r => (r, i)
  | k + 1, i, r => if 2 * i + 1 < t.2.2.1 then (if sMark13 (rtu r).1 (t.2.2.2 (2 * i)) (t.2.2.2 (2 * i + 1)) < 0 then (r, i) else rdLp t k (i + 1) (nTurn r (t.2.2.2 (2 * i)) (t.2.2.2 (2 * i + 1)))) else (r, i)
def sRead (r : RS) (s : Int32) : Int32 := if inS s = true then (if (rst r (wN s)).1 = true then -11 else nI (rdLp (rst r (wN s)) 30 0 r).2) else -2
def nRead (r : RS) (s : Int32) : RS := if inS s = true then (if (rst r (wN s)).1 = true then wF r 1 else (rdLp (rst r (wN s)) 30 0 r).1) else r
theorem rst_nTurn (r : RS) (x y : Int32) : rst (nTurn r x y) = rst r := by unfold nTurn; split <;> rfl
theorem CA_nTurn {r : RS} {μ : gm_M} (hC : CA r μ) (x y z : Int32) : CA (nTurn r x y) (if bMark13 (rtu r).1 x y = true then cap13 μ x y z else μ) ∧ FrR 0 51 μ (if bMark13 (rtu r).1 x y = true then cap13 μ x y z else μ) := by
  unfold nTurn
  by_cases hb : bMark13 (rtu r).1 x y = true
  · rw [if_pos hb, if_pos hb]
    have h := hb
    unfold bMark13 at h
    simp only [Bool.and_eq_true, decide_eq_true_eq] at h
    obtain ⟨k, hk, rfl⟩ := gnight_of h.1
    obtain ⟨l, hl, rfl⟩ := y8_of h.2.1 h.2.2.1
    rw [wN_nI (by omega), wN_nI (by omega)]
    exact CA_Turn hC hk hl h.2.2.2
  · rw [if_neg hb, if_neg hb]
    exact ⟨hC, FrR.rf μ⟩
theorem sMark13_neg {N : Nat} {x y : Int32} (hN : N ≤ 8) : sMark13 N x y < 0 ↔ bMark13 N x y = false := by
  unfold sMark13 bMark13
  by_cases h1 : gnight x = true
  · rw [if_pos h1]
    by_cases h2 : y < 0
    · rw [if_pos h2]; simp [h2]
    · rw [if_neg h2]
      by_cases h3 : y < 8
      · rw [if_pos h3]
        by_cases h4 : N < 8
        · rw [if_pos h4]; simp [h1, h2, h3, h4]; exact Int32.not_lt.mp (nI_pos (by omega))
        · rw [if_neg h4]; simp [h4]
      · rw [if_neg h3]; simp [h3]
  · rw [if_neg h1]; simp [h1]
set_option maxRecDepth 100000 in
set_option maxHeartbeats 400000 in
theorem aX11_rd_loop {r : RS} {μ : gm_M} {k : Nat} (hk : k < 4) {d1 : Option Value} : ∀ (k_ i : Nat) (r0 : RS) (m : gm_M), 30 - i = k_ → i ≤ 30 → CA r0 m → rst r0 = rst r → FrR 0 51 μ m → Go yX11_read cX11_read 5 (some .int) 2 36 [some (.ref 0), d1, some (.ref (44 + k)), some (.int (nI i)), some (.int (nI (2 * i)))] [] m (fun r' μ' => r' = some (.int (nI (rdLp (rst r k) k_ i r0).2)) ∧ CA (rdLp (rst r k) k_ i r0).1 μ' ∧ FrR 0 51 μ μ') := by
  intro k_
  induction k_ using Nat.strongRecOn with
  | ind k_ ih =>
    intro i r0 m hk_ hj hC hrs hF
    have hs := hC.2.2.2.2.1 k hk
    rw [hrs] at hs
    have hz := (hC.1.2.2.2.2.2.2.2 k hk).2
    rw [hrs] at hz
    have e2i : nI (2 * i) + 1 = nI (2 * i + 1) := nI_1 _
    refine go_il4 dX11_read_36 (go_ic1 dX11_read_38 (go_iadd dX11_read_39 (go_al2 dX11_read_40 (go_getI fX11_149 (shS hk) rfl dX11_read_41 ?_))))
    refine go_cge 87 dX11_read_44 (by decide) (fun h44 => ?_) (fun h44 => ?_)
    · refine go_il3 dX11_read_87 ?_
      refine go_iret dX11_read_88 ?_
      have hx : ¬ 2 * i + 1 < (rst r k).2.2.1 := by
        have h9 := h44
        rw [hs.2.2.1, e2i, nI_leI (by omega) (by omega)] at h9
        omega
      have e : rdLp (rst r k) k_ i r0 = (r0, i) := by
        cases k_ with
        | zero => rfl
        | succ k_ => rw [rdLp, if_neg hx]
      rw [e]
      exact ⟨rfl, hC, hF⟩
    · have hx : 2 * i + 1 < (rst r k).2.2.1 := by
        have h9 := h44
        rw [hs.2.2.1, e2i, nI_leI (by omega) (by omega)] at h9
        omega
      obtain ⟨k_, rfl⟩ : ∃ k', k_ = k' + 1 := ⟨k_ - 1, by omega⟩
      have hi0 : m.1 (48 + k) (2 * i) = (rst r k).2.2.2 (2 * i) := hs.2.2.2 _ (by omega)
      have hi1 : m.1 (48 + k) (2 * i + 1) = (rst r k).2.2.2 (2 * i + 1) := hs.2.2.2 _ (by omega)
      have g0 : gi (m.1 (48 + k)) 60 (nI (2 * i)) 0 = m.1 (48 + k) (2 * i) := gi_nI (by omega) (by decide) _
      have g1 : gi (m.1 (48 + k)) 60 (nI (2 * i) + 1) 0 = m.1 (48 + k) (2 * i + 1) := by rw [e2i]; exact gi_nI (by omega) (by decide) _
      refine go_al0 dX11_read_47 (go_getR (j := 1) fX11_12 rfl rfl dX11_read_48 (go_getR (j := 13) fX11_123 rfl rfl dX11_read_51 (go_al2 dX11_read_54 (go_il4 dX11_read_55 (go_V1r mcX6_itemAt mvX6_itemAt kX11_152 (shS hk) dX11_read_57 rfl rfl (sX6_itemAt (shS hk) (shQ hk) _ _) (go_al2 dX11_read_60 (go_il4 dX11_read_61 (go_ic1 dX11_read_63 (go_iadd dX11_read_64 (go_V1r mcX6_itemAt mvX6_itemAt kX11_152 (shS hk) dX11_read_65 rfl rfl (sX6_itemAt (shS hk) (shQ hk) _ _) (go_bipush (v := 8) dX11_read_68 (by decide) ?_)))))))))))
      refine go_S4 mcX11_addMark mvX11_addMark kX11_127 dX11_read_70 rfl rfl (aX11_addMark_13 hC.2.2.2.1.2.1.1 hC.1.2.2.2.2.1.1 _ _ _) ?_
      rintro _ m70 ⟨rfl, e70⟩
      rw [g0, g1] at *
      refine go_ifge 78 dX11_read_73 (by decide) (fun h73 => ?_) (fun h73 => ?_)
      · refine go_inc3 (k := 1) dX11_read_78 (by decide) rfl rfl (go_inc4 (k := 2) dX11_read_81 (by decide) rfl rfl (go_goto 36 dX11_read_84 (by decide) ?_))
        rw [rdLp, if_pos hx, if_neg (by rw [← hi0, ← hi1]; exact Int32.not_lt.mpr h73), nI_1, show nI (2 * i) + 2 = nI (2 * (i + 1)) from by rw [nI_lit2, nI_add]; rfl]
        have hg := CA_nTurn hC (m.1 (48 + k) (2 * i)) (m.1 (48 + k) (2 * i + 1)) 8
        rw [← e70] at hg
        rw [← hi0, ← hi1]
        exact ih k_ (by omega) (i + 1) _ m70 (by omega) (by omega) hg.1 (by rw [rst_nTurn]; exact hrs) (hF.tr hg.2)
      · refine go_il3 dX11_read_76 ?_
        refine go_iret dX11_read_77 ?_
        have h9 := h73
        rw [rdLp, if_pos hx, if_pos (by rw [← hi0, ← hi1]; exact Int32.not_le.mp h9)]
        have hb : bMark13 (rtu r0).1 (m.1 (48 + k) (2 * i)) (m.1 (48 + k) (2 * i + 1)) = false := (sMark13_neg hC.1.2.2.2.2.1.1).mp (Int32.not_le.mp h9)
        rw [if_neg (gf hb)] at e70
        rw [e70]
        exact ⟨rfl, hC, hF⟩
set_option maxRecDepth 100000 in
set_option maxHeartbeats 400000 in
theorem p_read {r : RS} {μ : gm_M} (hC : CA r μ) (s : Int32) : Sat yX11_read cX11_read 5 (some .int) 2 [(.ref 0), (.int s)] μ (fun r' μ' => r' = some (.int (sRead r s)) ∧ CA (nRead r s) μ' ∧ FrR 0 51 μ μ') := by
  refine Sat.of (L := [some (.ref 0), some (.int s), none, none, none]) (by decide) (fun _ => rfl) (fun _ => rfl) ?_
  refine go_al0 dX11_read_0 (go_il1 dX11_read_1 (go_V1r mcX11_isSheet mvX11_isSheet kX11_139 rfl dX11_read_2 rfl rfl (sX11_isSheet _ _) ?_))
  refine go_ifneB 11 dX11_read_5 (by decide) (fun h5 => ?_) (fun h5 => ?_)
  · obtain ⟨k, hk, rfl⟩ := inS_of (show inS s = true from h5)
    have hks := hC.2.2.2.2.1 k hk
    have hko := hC.1.2.2.2.2.2.2.2 k hk
    refine go_al0 dX11_read_11 (go_getR (j := 43) fX11_48 rfl rfl dX11_read_12 (go_il1 dX11_read_15 (go_aald rfl (vp_in_nI hk (by decide)) dX11_read_16 ?_)))
    rw [nI_clamp (show k < 2 ^ 31 by omega)]
    refine go_as2 dX11_read_17 rfl rfl (go_al2 dX11_read_18 (go_getI fX11_142 (shS hk) rfl dX11_read_19 ?_))
    refine go_ifeq 31 dX11_read_22 (by decide) (fun h22 => ?_) (fun h22 => ?_)
    · refine go_ic0 dX11_read_31 (go_is3 dX11_read_32 rfl rfl (go_ic0 dX11_read_33 (go_is4 dX11_read_34 rfl rfl ?_)))
      have hnl : (rst r k).1 = false := gb_eq0.mp (by have := h22; rw [hks.1] at this; exact this)
      simp only [sRead, nRead, wN_nI (show k < 2 ^ 31 by omega), if_pos (show inS _ = true from h5), if_neg (gf hnl)]
      exact aX11_rd_loop hk 30 0 r μ rfl (by decide) hC rfl (FrR.rf μ)
    · refine go_al0 dX11_read_25 (go_ic1 dX11_read_26 (go_V1r mcX11_found mvX11_found kX11_146 rfl dX11_read_27 rfl rfl (sX11_found _ _) ?_))
      refine go_iret dX11_read_30 ?_
      have g22 : (rst r k).1 = true := gb_ne0 (by have := h22; rw [hks.1] at this; exact this)
      simp only [sRead, nRead, wN_nI (show k < 2 ^ 31 by omega), if_pos (show inS _ = true from h5), if_pos g22]
      exact ⟨by decide, CA_find hC _⟩
  · refine go_bipush (v := -2) dX11_read_8 (by decide) ?_
    refine go_iret dX11_read_10 ?_
    simp only [sRead, nRead, if_neg (gf (show inS s = false from h5))]
    exact ⟨trivial, hC, FrR.rf μ⟩

def sCount (r : RS) (x : Int32) : Int32 := if x < 0 then -2 else if 8 < x then -2 else match wN x with
  | 0 => nI (qnum (qof r))
  | 1 => nI (figs (ra1 r).1 (ra1 r).2)
  | 2 => nI (ra0 r).1
  | 3 => nI (ra1 r).1
  | 4 => nI (rtu r).1
  | 5 => nI (rkn r).1
  | 6 => nI (qea (qof r) (qnum (qof r)))
  | 7 => nI (rli r).1
  | _ => rfi r
set_option maxRecDepth 100000 in
set_option maxHeartbeats 400000 in
theorem p_count {r : RS} {μ : gm_M} (hC : CA r μ) (x : Int32) : Sat yX11_count cX11_count 2 (some .int) 4 [(.ref 0), (.int x)] μ (fun r' μ' => r' = some (.int (sCount r x)) ∧ CA (r) μ' ∧ FrR 0 51 μ μ') := by
  refine Sat.of (L := [some (.ref 0), some (.int x)]) (by decide) (fun _ => rfl) (fun _ => rfl) ?_
  refine go_il1 dX11_count_0 ?_
  by_cases hb : x < 0 ∨ 8 < x
  · have e : sCount r x = -2 := by
      unfold sCount
      rcases hb with hb | hb
      · rw [if_pos hb]
      · by_cases z : x < 0
        · rw [if_pos z]
        · rw [if_neg z, if_pos hb]
    refine go_tsOut 142 dX11_count_1 (by rcases hb with hb | hb; exact Or.inl (by simpa using Int32.lt_iff_toInt_lt.mp hb); exact Or.inr (by simpa using Int32.lt_iff_toInt_lt.mp hb)) (by decide) ?_
    refine go_bipush (v := -2) dX11_count_142 (by decide) ?_
    refine go_iret dX11_count_144 ?_
    exact ⟨e.symm ▸ rfl, hC, FrR.rf μ⟩
  · obtain ⟨y, hy, rfl⟩ := int_of (x := x) (B := 8) (N := 8) (by decide) (by decide) (fun z => hb (Or.inl z)) (Int32.not_lt.mp (fun z => hb (Or.inr z)))
    match y, hy with
    | 0, _ =>
      refine go_tsIn (off := 51) 52 dX11_count_1 (by decide) (by decide) (by decide) (by decide) ?_
      refine go_al0 dX11_count_52 (go_getR (j := 1) fX11_12 rfl rfl dX11_count_53 (go_getR (j := 6) fX11_78 rfl rfl dX11_count_56 (go_getI fX11_308 rfl rfl dX11_count_59 ?_)))
      refine go_iret dX11_count_62 ?_
      exact ⟨by rw [show _ = _ from hC.q.2.1]; rfl, hC, FrR.rf μ⟩
    | 1, _ =>
      refine go_tsIn (off := 62) 63 dX11_count_1 (by decide) (by decide) (by decide) (by decide) ?_
      refine go_al0 dX11_count_63 (go_getR (j := 1) fX11_12 rfl rfl dX11_count_64 (go_getR (j := 11) fX11_87 rfl rfl dX11_count_67 (go_getI fX11_309 rfl rfl dX11_count_70 ?_)))
      refine go_iret dX11_count_73 ?_
      exact ⟨by rw [show _ = _ from hC.2.2.1.2.2.2.1]; rfl, hC, FrR.rf μ⟩
    | 2, _ =>
      refine go_tsIn (off := 73) 74 dX11_count_1 (by decide) (by decide) (by decide) (by decide) ?_
      refine go_al0 dX11_count_74 (go_getR (j := 1) fX11_12 rfl rfl dX11_count_75 (go_getR (j := 2) fX11_312 rfl rfl dX11_count_78 (go_getI fX11_74 rfl rfl dX11_count_81 ?_)))
      refine go_iret dX11_count_84 ?_
      exact ⟨by rw [show _ = _ from hC.2.1.1]; rfl, hC, FrR.rf μ⟩
    | 3, _ =>
      refine go_tsIn (off := 84) 85 dX11_count_1 (by decide) (by decide) (by decide) (by decide) ?_
      refine go_al0 dX11_count_85 (go_getR (j := 1) fX11_12 rfl rfl dX11_count_86 (go_getR (j := 4) fX11_316 rfl rfl dX11_count_89 (go_getI fX11_74 rfl rfl dX11_count_92 ?_)))
      refine go_iret dX11_count_95 ?_
      exact ⟨by rw [show _ = _ from hC.2.2.1.1]; rfl, hC, FrR.rf μ⟩
    | 4, _ =>
      refine go_tsIn (off := 95) 96 dX11_count_1 (by decide) (by decide) (by decide) (by decide) ?_
      refine go_al0 dX11_count_96 (go_getR (j := 1) fX11_12 rfl rfl dX11_count_97 (go_getR (j := 13) fX11_123 rfl rfl dX11_count_100 (go_getI fX11_134 rfl rfl dX11_count_103 ?_)))
      refine go_iret dX11_count_106 ?_
      exact ⟨by rw [show _ = _ from hC.2.2.2.1.2.1.1]; rfl, hC, FrR.rf μ⟩
    | 5, _ =>
      refine go_tsIn (off := 106) 107 dX11_count_1 (by decide) (by decide) (by decide) (by decide) ?_
      refine go_al0 dX11_count_107 (go_getR (j := 1) fX11_12 rfl rfl dX11_count_108 (go_getR (j := 17) fX11_131 rfl rfl dX11_count_111 (go_getI fX11_134 rfl rfl dX11_count_114 ?_)))
      refine go_iret dX11_count_117 ?_
      exact ⟨by rw [show _ = _ from hC.2.2.2.1.2.2.1.1]; rfl, hC, FrR.rf μ⟩
    | 6, _ =>
      refine go_tsIn (off := 117) 118 dX11_count_1 (by decide) (by decide) (by decide) (by decide) ?_
      refine go_al0 dX11_count_118 (go_getR (j := 32) fX11_21 rfl rfl dX11_count_119 ?_)
      refine go_V0 mcX7_eatenWheels mvX7_eatenWheels kX11_319 rfl dX11_count_122 rfl rfl (aX7_eatenWheels hC.q) ?_
      rintro _ m122 ⟨rfl, hF122⟩
      refine go_iret dX11_count_125 ?_
      exact ⟨rfl, hC.fr (hF122.wide (by decide)), fun c hc => hF122 c (by omega)⟩
    | 7, _ =>
      refine go_tsIn (off := 125) 126 dX11_count_1 (by decide) (by decide) (by decide) (by decide) ?_
      refine go_al0 dX11_count_126 (go_getR (j := 1) fX11_12 rfl rfl dX11_count_127 (go_getR (j := 21) fX11_235 rfl rfl dX11_count_130 (go_getI fX11_134 rfl rfl dX11_count_133 ?_)))
      refine go_iret dX11_count_136 ?_
      exact ⟨by rw [show _ = _ from hC.2.2.2.1.2.2.2.1]; rfl, hC, FrR.rf μ⟩
    | 8, _ =>
      refine go_tsIn (off := 136) 137 dX11_count_1 (by decide) (by decide) (by decide) (by decide) ?_
      refine go_al0 dX11_count_137 (go_getI fX11_322 rfl rfl dX11_count_138 ?_)
      refine go_iret dX11_count_141 ?_
      exact ⟨by rw [show _ = _ from hC.2.2.2.2.2]; rfl, hC, FrR.rf μ⟩

