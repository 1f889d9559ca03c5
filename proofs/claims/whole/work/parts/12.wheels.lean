/-! WHEELS (6 to 10), CAVE (11, 12) as read from the texts (2, 4) -/
def ctSort (μ : gm_M) (s : Int32) : Bool × gm_M :=
  if s = -1 then (false, μ) else if μ.1 6 4 < 0 then (false, μ) else if μ.1 6 4 < 8 then
    (true, gm_I (gm_I (gm_I (gm_I (gm_I μ 7 (μ.1 6 4).toNatClampNeg s) 8 (μ.1 6 4).toNatClampNeg 0) 9 (μ.1 6 4).toNatClampNeg 0) 6 4 (μ.1 6 4 + 1)) 6 6 1)
  else (false, μ)
def ctFig (μ : gm_M) (w f : Int32) : Bool × gm_M :=
  if f < 0 then (false, μ) else if μ.1 6 6 = 1 then (if 1 < f then (false, μ) else if w < 0 then (false, μ) else if w < nI 8 then
    (true, gm_I (gm_I μ 8 w.toNatClampNeg (10 * μ.1 8 w.toNatClampNeg + f)) 6 6 (μ.1 6 6 + 1)) else (false, μ))
  else (if 9 < f then (false, μ) else if w < 0 then (false, μ) else if w < nI 8 then
    (true, gm_I (gm_I μ 8 w.toNatClampNeg (10 * μ.1 8 w.toNatClampNeg + f)) 6 6 (μ.1 6 6 + 1)) else (false, μ))
def ctLet (μ : gm_M) (w le : Int32) : Bool × gm_M :=
  if le < 0 then (false, μ) else if 8 ≤ le then (false, μ) else if μ.1 6 6 - 3 < 0 then (false, μ) else if μ.1 6 6 - 3 < 5 then
    (if w < 0 then (false, μ) else if nI 8 ≤ w then (false, μ) else if w * 5 + (μ.1 6 6 - 3) < nI 40 then
      (true, gm_I (gm_I (gm_I μ 10 (w * 5 + (μ.1 6 6 - 3)).toNatClampNeg le) 9 w.toNatClampNeg (μ.1 6 6 - 3 + 1)) 6 6 (μ.1 6 6 + 1))
    else (false, μ))
  else (false, μ)
def ctNext (μ : gm_M) : Bool × gm_M := if decide (¬ μ.1 6 6 ≤ 3) = true then (true, gm_I μ 6 6 0) else (false, μ)
def csof (b : Int32) : Int32 := if b = 104 then 0 else if b = 115 then 1 else if b = 98 then 2 else -1
def ctakes (μ : gm_M) (b : Int32) : Bool × gm_M :=
  if μ.1 6 6 = 0 then ctSort μ (csof b) else if 3 ≤ μ.1 6 6 then (if b = 59 then ctNext μ else ctLet μ (μ.1 6 4 - 1) (b - 97)) else ctFig μ (μ.1 6 4 - 1) (b - 48)
/-- the memory when the first j bytes of the wheels' text are read -/
def crdw (μ : gm_M) : Nat → gm_M
  | 0 => gm_I (gm_I (gm_I μ 6 4 0) 6 6 0) 6 5 (-1)
  | j + 1 => if (crdw μ j).1 6 5 = -1 then (if (ctakes (crdw μ j) (gi ((crdw μ j).1 3) 71 (nI j) (-1))).1 = true then (ctakes (crdw μ j) (gi ((crdw μ j).1 3) 71 (nI j) (-1))).2 else gm_I (ctakes (crdw μ j) (gi ((crdw μ j).1 3) 71 (nI j) (-1))).2 6 5 (nI j)) else crdw μ j
def crdwE (m : gm_M) : gm_M := if m.1 6 5 = -1 then (if m.1 2 1 ≤ 0 then m else if decide (¬ m.1 6 6 ≤ 3) = true then m else gm_I m 6 5 (m.1 2 1)) else m
def crdwF (m : gm_M) : gm_M := if m.1 6 5 = -1 then m else gm_I m 6 4 0
set_option maxRecDepth 100000 in
set_option maxHeartbeats 400000 in
theorem sX10_takesSort (s : Int32) (μ : gm_M) : Ret yX10_takesSort cX10_takesSort 2 (some .boolean) 0 [(.ref 6), (.int s)] μ (some (.int (gb (ctSort μ s).1))) (ctSort μ s).2 := by
  refine Sat.of (L := [some (.ref 6), some (.int s)]) (by decide) (fun _ => rfl) (fun _ => rfl) ?_
  refine go_il1 dX10_takesSort_0 (go_icm1 dX10_takesSort_1 ?_)
  refine go_ceq 21 dX10_takesSort_2 (by decide) (fun h2 => ?_) (fun h2 => ?_)
  · refine go_ic0 dX10_takesSort_21 ?_
    refine go_zret dX10_takesSort_22 rfl ?_
    constructor <;> first | (simp only [ctSort, if_pos h2]; done) | (simp only [ctSort, if_pos h2]; rfl)
  · refine go_al0 dX10_takesSort_5 (go_getI fX10_28 rfl rfl dX10_takesSort_6 ?_)
    refine go_iflt 21 dX10_takesSort_9 (by decide) (fun h9 => ?_) (fun h9 => ?_)
    · refine go_ic0 dX10_takesSort_21 ?_
      refine go_zret dX10_takesSort_22 rfl ?_
      constructor <;> first | (simp only [ctSort, if_neg h2, if_pos h9]; done) | (simp only [ctSort, if_neg h2, if_pos h9]; rfl)
    · refine go_al0 dX10_takesSort_12 (go_getI fX10_28 rfl rfl dX10_takesSort_13 (go_bipush (v := 8) dX10_takesSort_16 (by decide) ?_))
      refine go_clt 23 dX10_takesSort_18 (by decide) (fun h18 => ?_) (fun h18 => ?_)
      · refine go_al0 dX10_takesSort_23 (go_getR (j := 7) fX10_9 rfl rfl dX10_takesSort_24 (go_al0 dX10_takesSort_27 (go_getI fX10_28 rfl rfl dX10_takesSort_28 (go_il1 dX10_takesSort_31 (go_iast rfl (gm_in3 h9 h18 (by decide) (by decide)) dX10_takesSort_32 (go_al0 dX10_takesSort_33 (go_getR (j := 8) fX10_15 rfl rfl dX10_takesSort_34 (go_al0 dX10_takesSort_37 (go_getI fX10_28 rfl rfl dX10_takesSort_38 (go_ic0 dX10_takesSort_41 (go_iast rfl (gm_in3 h9 h18 (by decide) (by decide)) dX10_takesSort_42 (go_al0 dX10_takesSort_43 (go_getR (j := 9) fX10_18 rfl rfl dX10_takesSort_44 ?_)))))))))))))
        refine go_al0 dX10_takesSort_47 (go_getI fX10_28 rfl rfl dX10_takesSort_48 (go_ic0 dX10_takesSort_51 (go_iast rfl (gm_in3 h9 h18 (by decide) (by decide)) dX10_takesSort_52 (go_al0 dX10_takesSort_53 (go_dup dX10_takesSort_54 rfl (go_getI fX10_28 rfl rfl dX10_takesSort_55 (go_ic1 dX10_takesSort_58 (go_iadd dX10_takesSort_59 (go_putI fX10_28 rfl rfl dX10_takesSort_60 (go_al0 dX10_takesSort_63 (go_ic1 dX10_takesSort_64 (go_putI fX10_31 rfl rfl dX10_takesSort_65 (go_ic1 dX10_takesSort_68 ?_)))))))))))))
        refine go_zret dX10_takesSort_69 rfl ?_
        constructor <;> first | (simp only [ctSort, if_neg h2, if_neg h9, if_pos h18]; done) | (simp only [ctSort, if_neg h2, if_neg h9, if_pos h18]; rfl)
      · refine go_ic0 dX10_takesSort_21 ?_
        refine go_zret dX10_takesSort_22 rfl ?_
        constructor <;> first | (simp only [ctSort, if_neg h2, if_neg h9, if_neg h18]; done) | (simp only [ctSort, if_neg h2, if_neg h9, if_neg h18]; rfl)

set_option maxRecDepth 100000 in
set_option maxHeartbeats 400000 in
theorem sX10_takesFigure (w f : Int32) (μ : gm_M) : Ret yX10_takesFigure cX10_takesFigure 3 (some .boolean) 0 [(.ref 6), (.int w), (.int f)] μ (some (.int (gb (ctFig μ w f).1))) (ctFig μ w f).2 := by
  refine Sat.of (L := [some (.ref 6), some (.int w), some (.int f)]) (by decide) (fun _ => rfl) (fun _ => rfl) ?_
  refine go_il2 dX10_takesFigure_0 ?_
  refine go_iflt 35 dX10_takesFigure_1 (by decide) (fun h1 => ?_) (fun h1 => ?_)
  · refine go_ic0 dX10_takesFigure_35 ?_
    refine go_zret dX10_takesFigure_36 rfl ?_
    constructor <;> first | (simp only [ctFig, if_pos h1]; done) | (simp only [ctFig, if_pos h1]; rfl)
  · refine go_il2 dX10_takesFigure_4 (go_al0 dX10_takesFigure_5 (go_getI fX10_31 rfl rfl dX10_takesFigure_6 (go_ic1 dX10_takesFigure_9 ?_)))
    refine go_cne 17 dX10_takesFigure_10 (by decide) (fun h10 => ?_) (fun h10 => ?_)
    · refine go_bipush (v := 9) dX10_takesFigure_17 (by decide) ?_
      refine go_cgt 35 dX10_takesFigure_19 (by decide) (fun h19 => ?_) (fun h19 => ?_)
      · refine go_ic0 dX10_takesFigure_35 ?_
        refine go_zret dX10_takesFigure_36 rfl ?_
        constructor <;> first | (simp only [ctFig, if_neg h1, if_neg h10, if_pos h19]; done) | (simp only [ctFig, if_neg h1, if_neg h10, if_pos h19]; rfl)
      · refine go_il1 dX10_takesFigure_22 ?_
        refine go_iflt 35 dX10_takesFigure_23 (by decide) (fun h23 => ?_) (fun h23 => ?_)
        · refine go_ic0 dX10_takesFigure_35 ?_
          refine go_zret dX10_takesFigure_36 rfl ?_
          constructor <;> first | (simp only [ctFig, if_neg h1, if_neg h10, if_neg h19, if_pos h23]; done) | (simp only [ctFig, if_neg h1, if_neg h10, if_neg h19, if_pos h23]; rfl)
        · refine go_il1 dX10_takesFigure_26 (go_al0 dX10_takesFigure_27 (go_getR (j := 8) fX10_15 rfl rfl dX10_takesFigure_28 (go_alenI rfl dX10_takesFigure_31 ?_)))
          refine go_clt 37 dX10_takesFigure_32 (by decide) (fun h32 => ?_) (fun h32 => ?_)
          · refine go_al0 dX10_takesFigure_37 (go_getR (j := 8) fX10_15 rfl rfl dX10_takesFigure_38 (go_il1 dX10_takesFigure_41 (go_bipush (v := 10) dX10_takesFigure_42 (by decide) (go_al0 dX10_takesFigure_44 (go_getR (j := 8) fX10_15 rfl rfl dX10_takesFigure_45 (go_il1 dX10_takesFigure_48 (go_iald rfl (gm_in3 h23 h32 rfl (by decide)) dX10_takesFigure_49 (go_imul dX10_takesFigure_50 (go_il2 dX10_takesFigure_51 (go_iadd dX10_takesFigure_52 (go_iast rfl (gm_in3 h23 h32 rfl (by decide)) dX10_takesFigure_53 (go_al0 dX10_takesFigure_54 (go_dup dX10_takesFigure_55 rfl ?_)))))))))))))
            refine go_getI fX10_31 rfl rfl dX10_takesFigure_56 (go_ic1 dX10_takesFigure_59 (go_iadd dX10_takesFigure_60 (go_putI fX10_31 rfl rfl dX10_takesFigure_61 (go_ic1 dX10_takesFigure_64 ?_))))
            refine go_zret dX10_takesFigure_65 rfl ?_
            constructor <;> first | (simp only [ctFig, if_neg h1, if_neg h10, if_neg h19, if_neg h23, if_pos h32]; done) | (simp only [ctFig, if_neg h1, if_neg h10, if_neg h19, if_neg h23, if_pos h32]; rfl)
          · refine go_ic0 dX10_takesFigure_35 ?_
            refine go_zret dX10_takesFigure_36 rfl ?_
            constructor <;> first | (simp only [ctFig, if_neg h1, if_neg h10, if_neg h19, if_neg h23, if_neg h32]; done) | (simp only [ctFig, if_neg h1, if_neg h10, if_neg h19, if_neg h23, if_neg h32]; rfl)
    · refine go_ic1 dX10_takesFigure_13 (go_goto 19 dX10_takesFigure_14 (by decide) ?_)
      refine go_cgt 35 dX10_takesFigure_19 (by decide) (fun h19 => ?_) (fun h19 => ?_)
      · refine go_ic0 dX10_takesFigure_35 ?_
        refine go_zret dX10_takesFigure_36 rfl ?_
        constructor <;> first | (simp only [ctFig, if_neg h1, if_pos h10, if_pos h19]; done) | (simp only [ctFig, if_neg h1, if_pos h10, if_pos h19]; rfl)
      · refine go_il1 dX10_takesFigure_22 ?_
        refine go_iflt 35 dX10_takesFigure_23 (by decide) (fun h23 => ?_) (fun h23 => ?_)
        · refine go_ic0 dX10_takesFigure_35 ?_
          refine go_zret dX10_takesFigure_36 rfl ?_
          constructor <;> first | (simp only [ctFig, if_neg h1, if_pos h10, if_neg h19, if_pos h23]; done) | (simp only [ctFig, if_neg h1, if_pos h10, if_neg h19, if_pos h23]; rfl)
        · refine go_il1 dX10_takesFigure_26 (go_al0 dX10_takesFigure_27 (go_getR (j := 8) fX10_15 rfl rfl dX10_takesFigure_28 (go_alenI rfl dX10_takesFigure_31 ?_)))
          refine go_clt 37 dX10_takesFigure_32 (by decide) (fun h32 => ?_) (fun h32 => ?_)
          · refine go_al0 dX10_takesFigure_37 (go_getR (j := 8) fX10_15 rfl rfl dX10_takesFigure_38 (go_il1 dX10_takesFigure_41 (go_bipush (v := 10) dX10_takesFigure_42 (by decide) (go_al0 dX10_takesFigure_44 (go_getR (j := 8) fX10_15 rfl rfl dX10_takesFigure_45 (go_il1 dX10_takesFigure_48 (go_iald rfl (gm_in3 h23 h32 rfl (by decide)) dX10_takesFigure_49 (go_imul dX10_takesFigure_50 (go_il2 dX10_takesFigure_51 (go_iadd dX10_takesFigure_52 (go_iast rfl (gm_in3 h23 h32 rfl (by decide)) dX10_takesFigure_53 (go_al0 dX10_takesFigure_54 (go_dup dX10_takesFigure_55 rfl ?_)))))))))))))
            refine go_getI fX10_31 rfl rfl dX10_takesFigure_56 (go_ic1 dX10_takesFigure_59 (go_iadd dX10_takesFigure_60 (go_putI fX10_31 rfl rfl dX10_takesFigure_61 (go_ic1 dX10_takesFigure_64 ?_))))
            refine go_zret dX10_takesFigure_65 rfl ?_
            constructor <;> first | (simp only [ctFig, if_neg h1, if_pos h10, if_neg h19, if_neg h23, if_pos h32]; done) | (simp only [ctFig, if_neg h1, if_pos h10, if_neg h19, if_neg h23, if_pos h32]; rfl)
          · refine go_ic0 dX10_takesFigure_35 ?_
            refine go_zret dX10_takesFigure_36 rfl ?_
            constructor <;> first | (simp only [ctFig, if_neg h1, if_pos h10, if_neg h19, if_neg h23, if_neg h32]; done) | (simp only [ctFig, if_neg h1, if_pos h10, if_neg h19, if_neg h23, if_neg h32]; rfl)

theorem gm_in4 {w s : Int32} (h1 : ¬ w < 0) (h2 : ¬ nI 8 ≤ w) (h3 : ¬ s < 0) (h4 : s < 5) (h5 : w * 5 + s < nI 40) : vp_in (w * 5 + s) 40 := by
  obtain ⟨a, ha, rfl⟩ := vp_in_of (gm_in h1 h2 (by decide)) (by decide)
  obtain ⟨b, hb, rfl⟩ := vp_in_of (gm_in3 (n := 5) h3 h4 (by decide) (by decide)) (by decide)
  rw [show (5 : Int32) = nI 5 from by decide, pk_mul, nI_add]
  exact vp_in_nI (by omega) (by decide)
set_option maxRecDepth 100000 in
set_option maxHeartbeats 400000 in
theorem sX10_takesLetter (w le : Int32) (μ : gm_M) : Ret yX10_takesLetter cX10_takesLetter 5 (some .boolean) 0 [(.ref 6), (.int w), (.int le)] μ (some (.int (gb (ctLet μ w le).1))) (ctLet μ w le).2 := by
  refine Sat.of (L := [some (.ref 6), some (.int w), some (.int le), none, none]) (by decide) (fun _ => rfl) (fun _ => rfl) ?_
  refine go_al0 dX10_takesLetter_0 (go_getI fX10_31 rfl rfl dX10_takesLetter_1 (go_ic3 dX10_takesLetter_4 (go_isub dX10_takesLetter_5 (go_is3 dX10_takesLetter_6 rfl rfl (go_il1 dX10_takesLetter_7 (go_ic5 dX10_takesLetter_8 (go_imul dX10_takesLetter_9 (go_il3 dX10_takesLetter_10 (go_iadd dX10_takesLetter_11 (go_is4 dX10_takesLetter_12 rfl rfl (go_il2 dX10_takesLetter_14 ?_)))))))))))
  refine go_iflt 33 dX10_takesLetter_15 (by decide) (fun h15 => ?_) (fun h15 => ?_)
  · refine go_ic0 dX10_takesLetter_33 ?_
    refine go_zret dX10_takesLetter_34 rfl ?_
    constructor <;> first | (simp only [ctLet, if_pos h15]; done) | (simp only [ctLet, if_pos h15]; rfl)
  · refine go_il2 dX10_takesLetter_18 (go_bipush (v := 8) dX10_takesLetter_19 (by decide) ?_)
    refine go_cge 33 dX10_takesLetter_21 (by decide) (fun h21 => ?_) (fun h21 => ?_)
    · refine go_ic0 dX10_takesLetter_33 ?_
      refine go_zret dX10_takesLetter_34 rfl ?_
      constructor <;> first | (simp only [ctLet, if_neg h15, if_pos h21]; done) | (simp only [ctLet, if_neg h15, if_pos h21]; rfl)
    · refine go_il3 dX10_takesLetter_24 ?_
      refine go_iflt 33 dX10_takesLetter_25 (by decide) (fun h25 => ?_) (fun h25 => ?_)
      · refine go_ic0 dX10_takesLetter_33 ?_
        refine go_zret dX10_takesLetter_34 rfl ?_
        constructor <;> first | (simp only [ctLet, if_neg h15, if_neg h21, if_pos h25]; done) | (simp only [ctLet, if_neg h15, if_neg h21, if_pos h25]; rfl)
      · refine go_il3 dX10_takesLetter_28 (go_ic5 dX10_takesLetter_29 ?_)
        refine go_clt 35 dX10_takesLetter_30 (by decide) (fun h30 => ?_) (fun h30 => ?_)
        · refine go_il1 dX10_takesLetter_35 ?_
          refine go_iflt 58 dX10_takesLetter_36 (by decide) (fun h36 => ?_) (fun h36 => ?_)
          · refine go_ic0 dX10_takesLetter_58 ?_
            refine go_zret dX10_takesLetter_59 rfl ?_
            constructor <;> first | (simp only [ctLet, if_neg h15, if_neg h21, if_neg h25, if_pos h30, if_pos h36]; done) | (simp only [ctLet, if_neg h15, if_neg h21, if_neg h25, if_pos h30, if_pos h36]; rfl)
          · refine go_il1 dX10_takesLetter_39 (go_al0 dX10_takesLetter_40 (go_getR (j := 9) fX10_18 rfl rfl dX10_takesLetter_41 (go_alenI rfl dX10_takesLetter_44 ?_)))
            refine go_cge 58 dX10_takesLetter_45 (by decide) (fun h45 => ?_) (fun h45 => ?_)
            · refine go_ic0 dX10_takesLetter_58 ?_
              refine go_zret dX10_takesLetter_59 rfl ?_
              constructor <;> first | (simp only [ctLet, if_neg h15, if_neg h21, if_neg h25, if_pos h30, if_neg h36, if_pos h45]; done) | (simp only [ctLet, if_neg h15, if_neg h21, if_neg h25, if_pos h30, if_neg h36, if_pos h45]; rfl)
            · refine go_il4 dX10_takesLetter_48 (go_al0 dX10_takesLetter_50 (go_getR (j := 10) fX10_21 rfl rfl dX10_takesLetter_51 (go_alenI rfl dX10_takesLetter_54 ?_)))
              refine go_clt 60 dX10_takesLetter_55 (by decide) (fun h55 => ?_) (fun h55 => ?_)
              · refine go_al0 dX10_takesLetter_60 (go_getR (j := 10) fX10_21 rfl rfl dX10_takesLetter_61 (go_il4 dX10_takesLetter_64 (go_il2 dX10_takesLetter_66 (go_iast rfl (gm_in4 h36 h45 h25 h30 h55) dX10_takesLetter_67 (go_al0 dX10_takesLetter_68 (go_getR (j := 9) fX10_18 rfl rfl dX10_takesLetter_69 (go_il1 dX10_takesLetter_72 (go_il3 dX10_takesLetter_73 (go_ic1 dX10_takesLetter_74 (go_iadd dX10_takesLetter_75 (go_iast rfl (gm_in h36 h45 (by decide)) dX10_takesLetter_76 (go_al0 dX10_takesLetter_77 (go_dup dX10_takesLetter_78 rfl ?_)))))))))))))
                refine go_getI fX10_31 rfl rfl dX10_takesLetter_79 (go_ic1 dX10_takesLetter_82 (go_iadd dX10_takesLetter_83 (go_putI fX10_31 rfl rfl dX10_takesLetter_84 (go_ic1 dX10_takesLetter_87 ?_))))
                refine go_zret dX10_takesLetter_88 rfl ?_
                constructor <;> first | (simp only [ctLet, if_neg h15, if_neg h21, if_neg h25, if_pos h30, if_neg h36, if_neg h45, if_pos h55]; done) | (simp only [ctLet, if_neg h15, if_neg h21, if_neg h25, if_pos h30, if_neg h36, if_neg h45, if_pos h55]; rfl)
              · refine go_ic0 dX10_takesLetter_58 ?_
                refine go_zret dX10_takesLetter_59 rfl ?_
                constructor <;> first | (simp only [ctLet, if_neg h15, if_neg h21, if_neg h25, if_pos h30, if_neg h36, if_neg h45, if_neg h55]; done) | (simp only [ctLet, if_neg h15, if_neg h21, if_neg h25, if_pos h30, if_neg h36, if_neg h45, if_neg h55]; rfl)
        · refine go_ic0 dX10_takesLetter_33 ?_
          refine go_zret dX10_takesLetter_34 rfl ?_
          constructor <;> first | (simp only [ctLet, if_neg h15, if_neg h21, if_neg h25, if_neg h30]; done) | (simp only [ctLet, if_neg h15, if_neg h21, if_neg h25, if_neg h30]; rfl)

set_option maxRecDepth 100000 in
set_option maxHeartbeats 400000 in
theorem sX10_mayEnd (μ : gm_M) : Ret yX10_mayEnd cX10_mayEnd 1 (some .boolean) 0 [(.ref 6)] μ (some (.int (gb (decide (¬ μ.1 6 6 ≤ 3))))) μ := by
  refine Sat.of (L := [some (.ref 6)]) (by decide) (fun _ => rfl) (fun _ => rfl) ?_
  refine go_al0 dX10_mayEnd_0 (go_getI fX10_31 rfl rfl dX10_mayEnd_1 (go_ic3 dX10_mayEnd_4 ?_))
  refine go_cle 12 dX10_mayEnd_5 (by decide) (fun h5 => ?_) (fun h5 => ?_)
  · refine go_ic0 dX10_mayEnd_12 ?_
    refine go_zret dX10_mayEnd_13 rfl ?_
    exact ⟨by simp [gb, h5], rfl⟩
  · refine go_ic1 dX10_mayEnd_8 (go_goto 13 dX10_mayEnd_9 (by decide) ?_)
    refine go_zret dX10_mayEnd_13 rfl ?_
    exact ⟨by simp [gb, h5], rfl⟩

set_option maxRecDepth 100000 in
set_option maxHeartbeats 400000 in
theorem sX10_takesNext (μ : gm_M) : Ret yX10_takesNext cX10_takesNext 2 (some .boolean) 1 [(.ref 6)] μ (some (.int (gb (ctNext μ).1))) (ctNext μ).2 := by
  refine Sat.of (L := [some (.ref 6), none]) (by decide) (fun _ => rfl) (fun _ => rfl) ?_
  refine go_al0 dX10_takesNext_0 (go_V0r mcX10_mayEnd mvX10_mayEnd kX10_47 rfl dX10_takesNext_1 rfl rfl (sX10_mayEnd _) (go_is1 dX10_takesNext_4 rfl rfl (go_il1 dX10_takesNext_5 ?_)))
  refine go_ifeqB 14 dX10_takesNext_6 (by decide) (fun h6 => ?_) (fun h6 => ?_)
  · refine go_il1 dX10_takesNext_14 ?_
    refine go_zret dX10_takesNext_15 (gb_nar _) ?_
    constructor <;> first | (simp only [ctNext, if_neg (gf h6), h6]; done) | (simp only [ctNext, if_neg (gf h6), h6]; rfl)
  · refine go_al0 dX10_takesNext_9 (go_ic0 dX10_takesNext_10 (go_putI fX10_31 rfl rfl dX10_takesNext_11 (go_il1 dX10_takesNext_14 ?_)))
    refine go_zret dX10_takesNext_15 (gb_nar _) ?_
    constructor <;> first | (simp only [ctNext, if_pos h6, h6]; done) | (simp only [ctNext, if_pos h6, h6]; rfl)

set_option maxRecDepth 100000 in
set_option maxHeartbeats 400000 in
theorem sX10_takes (b : Int32) (μ : gm_M) : Ret yX10_takes cX10_takes 2 (some .boolean) 2 [(.ref 6), (.int b)] μ (some (.int (gb (ctakes μ b).1))) (ctakes μ b).2 := by
  refine Sat.of (L := [some (.ref 6), some (.int b)]) (by decide) (fun _ => rfl) (fun _ => rfl) ?_
  refine go_al0 dX10_takes_0 (go_getI fX10_31 rfl rfl dX10_takes_1 ?_)
  refine go_ifne 43 dX10_takes_4 (by decide) (fun h4 => ?_) (fun h4 => ?_)
  · refine go_al0 dX10_takes_43 (go_getI fX10_31 rfl rfl dX10_takes_44 (go_ic3 dX10_takes_47 ?_))
    refine go_cge 66 dX10_takes_48 (by decide) (fun h48 => ?_) (fun h48 => ?_)
    · refine go_il1 dX10_takes_66 (go_bipush (v := 59) dX10_takes_67 (by decide) ?_)
      refine go_cne 79 dX10_takes_69 (by decide) (fun h69 => ?_) (fun h69 => ?_)
      · refine go_al0 dX10_takes_79 (go_al0 dX10_takes_80 (go_getI fX10_28 rfl rfl dX10_takes_81 (go_ic1 dX10_takes_84 (go_isub dX10_takes_85 (go_il1 dX10_takes_86 (go_bipush (v := 97) dX10_takes_87 (by decide) (go_isub dX10_takes_89 (go_V2r mcX10_takesLetter mvX10_takesLetter kX10_61 rfl dX10_takes_90 rfl rfl (sX10_takesLetter _ _ _) ?_))))))))
        refine go_zret dX10_takes_93 (gb_nar _) ?_
        constructor <;> first | (simp only [ctakes, csof, if_neg h4, if_pos h48, if_neg h69]; done) | (simp only [ctakes, csof, if_neg h4, if_pos h48, if_neg h69]; rfl)
      · refine go_al0 dX10_takes_72 (go_V0r mcX10_takesNext mvX10_takesNext kX10_58 rfl dX10_takes_73 rfl rfl (sX10_takesNext _) (go_goto 93 dX10_takes_76 (by decide) ?_))
        refine go_zret dX10_takes_93 (gb_nar _) ?_
        constructor <;> first | (simp only [ctakes, csof, if_neg h4, if_pos h48, if_pos h69]; done) | (simp only [ctakes, csof, if_neg h4, if_pos h48, if_pos h69]; rfl)
    · refine go_al0 dX10_takes_51 (go_al0 dX10_takes_52 (go_getI fX10_28 rfl rfl dX10_takes_53 (go_ic1 dX10_takes_56 (go_isub dX10_takes_57 (go_il1 dX10_takes_58 (go_bipush (v := 48) dX10_takes_59 (by decide) (go_isub dX10_takes_61 (go_V2r mcX10_takesFigure mvX10_takesFigure kX10_54 rfl dX10_takes_62 rfl rfl (sX10_takesFigure _ _ _) ?_))))))))
      refine go_zret dX10_takes_65 (gb_nar _) ?_
      constructor <;> first | (simp only [ctakes, csof, if_neg h4, if_neg h48]; done) | (simp only [ctakes, csof, if_neg h4, if_neg h48]; rfl)
  · refine go_al0 dX10_takes_7 (go_il1 dX10_takes_8 (go_bipush (v := 104) dX10_takes_9 (by decide) ?_))
    refine go_cne 18 dX10_takes_11 (by decide) (fun h11 => ?_) (fun h11 => ?_)
    · refine go_il1 dX10_takes_18 (go_bipush (v := 115) dX10_takes_19 (by decide) ?_)
      refine go_cne 28 dX10_takes_21 (by decide) (fun h21 => ?_) (fun h21 => ?_)
      · refine go_il1 dX10_takes_28 (go_bipush (v := 98) dX10_takes_29 (by decide) ?_)
        refine go_cne 38 dX10_takes_31 (by decide) (fun h31 => ?_) (fun h31 => ?_)
        · refine go_icm1 dX10_takes_38 (go_V1r mcX10_takesSort mvX10_takesSort kX10_51 rfl dX10_takes_39 rfl rfl (sX10_takesSort _ _) ?_)
          refine go_zret dX10_takes_42 (gb_nar _) ?_
          constructor <;> first | (simp only [ctakes, csof, if_pos h4, if_neg h11, if_neg h21, if_neg h31]; done) | (simp only [ctakes, csof, if_pos h4, if_neg h11, if_neg h21, if_neg h31]; rfl)
        · refine go_ic2 dX10_takes_34 (go_goto 39 dX10_takes_35 (by decide) (go_V1r mcX10_takesSort mvX10_takesSort kX10_51 rfl dX10_takes_39 rfl rfl (sX10_takesSort _ _) ?_))
          refine go_zret dX10_takes_42 (gb_nar _) ?_
          constructor <;> first | (simp only [ctakes, csof, if_pos h4, if_neg h11, if_neg h21, if_pos h31]; done) | (simp only [ctakes, csof, if_pos h4, if_neg h11, if_neg h21, if_pos h31]; rfl)
      · refine go_ic1 dX10_takes_24 (go_goto 39 dX10_takes_25 (by decide) (go_V1r mcX10_takesSort mvX10_takesSort kX10_51 rfl dX10_takes_39 rfl rfl (sX10_takesSort _ _) ?_))
        refine go_zret dX10_takes_42 (gb_nar _) ?_
        constructor <;> first | (simp only [ctakes, csof, if_pos h4, if_neg h11, if_pos h21]; done) | (simp only [ctakes, csof, if_pos h4, if_neg h11, if_pos h21]; rfl)
    · refine go_ic0 dX10_takes_14 (go_goto 39 dX10_takes_15 (by decide) (go_V1r mcX10_takesSort mvX10_takesSort kX10_51 rfl dX10_takes_39 rfl rfl (sX10_takesSort _ _) ?_))
      refine go_zret dX10_takes_42 (gb_nar _) ?_
      constructor <;> first | (simp only [ctakes, csof, if_pos h4, if_pos h11]; done) | (simp only [ctakes, csof, if_pos h4, if_pos h11]; rfl)

set_option maxRecDepth 100000 in
set_option maxHeartbeats 400000 in
theorem sX10_sortOf (w : Int32) (μ : gm_M) : Ret yX10_sortOf cX10_sortOf 2 (some .int) 1 [(.ref 6), (.int w)] μ (some (.int (gi (μ.1 7) 8 w 0))) μ := by
  refine Sat.of (L := [some (.ref 6), some (.int w)]) (by decide) (fun _ => rfl) (fun _ => rfl) ?_
  refine go_al0 dX10_sortOf_0 (go_getR (j := 7) fX10_9 rfl rfl dX10_sortOf_1 (go_il1 dX10_sortOf_4 (go_ic0 dX10_sortOf_5 (go_SN3r mcX11_itemOr mvX11_itemOr kX10_64 dX10_sortOf_6 rfl rfl (sX11_itemOr rfl (by decide) _ _ _) ?_))))
  refine go_iret dX10_sortOf_9 ?_
  exact ⟨rfl, rfl⟩

set_option maxRecDepth 100000 in
set_option maxHeartbeats 400000 in
theorem sX10_nightOf (w : Int32) (μ : gm_M) : Ret yX10_nightOf cX10_nightOf 2 (some .int) 1 [(.ref 6), (.int w)] μ (some (.int (gi (μ.1 8) 8 w 0))) μ := by
  refine Sat.of (L := [some (.ref 6), some (.int w)]) (by decide) (fun _ => rfl) (fun _ => rfl) ?_
  refine go_al0 dX10_nightOf_0 (go_getR (j := 8) fX10_15 rfl rfl dX10_nightOf_1 (go_il1 dX10_nightOf_4 (go_ic0 dX10_nightOf_5 (go_SN3r mcX11_itemOr mvX11_itemOr kX10_64 dX10_nightOf_6 rfl rfl (sX11_itemOr rfl (by decide) _ _ _) ?_))))
  refine go_iret dX10_nightOf_9 ?_
  exact ⟨rfl, rfl⟩

set_option maxRecDepth 100000 in
set_option maxHeartbeats 400000 in
theorem sX10_sizeOf (w : Int32) (μ : gm_M) : Ret yX10_sizeOf cX10_sizeOf 2 (some .int) 1 [(.ref 6), (.int w)] μ (some (.int (gi (μ.1 9) 8 w 0))) μ := by
  refine Sat.of (L := [some (.ref 6), some (.int w)]) (by decide) (fun _ => rfl) (fun _ => rfl) ?_
  refine go_al0 dX10_sizeOf_0 (go_getR (j := 9) fX10_18 rfl rfl dX10_sizeOf_1 (go_il1 dX10_sizeOf_4 (go_ic0 dX10_sizeOf_5 (go_SN3r mcX11_itemOr mvX11_itemOr kX10_64 dX10_sizeOf_6 rfl rfl (sX11_itemOr rfl (by decide) _ _ _) ?_))))
  refine go_iret dX10_sizeOf_9 ?_
  exact ⟨rfl, rfl⟩

def clet (μ : gm_M) (w s : Int32) : Int32 := if s < 0 then -1 else if gi (μ.1 9) 8 w 0 ≤ s then -1 else gi (μ.1 10) 40 (w * 5 + s) (-1)
set_option maxRecDepth 100000 in
set_option maxHeartbeats 400000 in
theorem sX10_letterOf (w s : Int32) (μ : gm_M) : Ret yX10_letterOf cX10_letterOf 4 (some .int) 1 [(.ref 6), (.int w), (.int s)] μ (some (.int (clet μ w s))) μ := by
  refine Sat.of (L := [some (.ref 6), some (.int w), some (.int s), none]) (by decide) (fun _ => rfl) (fun _ => rfl) ?_
  refine go_il2 dX10_letterOf_0 ?_
  refine go_iflt 21 dX10_letterOf_1 (by decide) (fun h1 => ?_) (fun h1 => ?_)
  · refine go_ic0 dX10_letterOf_21 (go_is3 dX10_letterOf_22 rfl rfl (go_il3 dX10_letterOf_23 ?_))
    refine go_ifeq 43 dX10_letterOf_24 (by decide) (fun _ => ?_) (fun h24 => absurd h24 (by decide))
    refine go_icm1 dX10_letterOf_43 ?_
    refine go_iret dX10_letterOf_44 ?_
    constructor <;> first | (simp only [clet, if_pos h1]; done) | (simp only [clet, if_pos h1]; rfl) | rfl
  · refine go_il2 dX10_letterOf_4 (go_al0 dX10_letterOf_5 (go_getR (j := 9) fX10_18 rfl rfl dX10_letterOf_6 (go_il1 dX10_letterOf_9 (go_ic0 dX10_letterOf_10 (go_SN3r mcX11_itemOr mvX11_itemOr kX10_64 dX10_letterOf_11 rfl rfl (sX11_itemOr rfl (by decide) _ _ _) ?_)))))
    refine go_cge 21 dX10_letterOf_14 (by decide) (fun h14 => ?_) (fun h14 => ?_)
    · refine go_ic0 dX10_letterOf_21 (go_is3 dX10_letterOf_22 rfl rfl (go_il3 dX10_letterOf_23 ?_))
      refine go_ifeq 43 dX10_letterOf_24 (by decide) (fun _ => ?_) (fun h24 => absurd h24 (by decide))
      refine go_icm1 dX10_letterOf_43 ?_
      refine go_iret dX10_letterOf_44 ?_
      constructor <;> first | (simp only [clet, if_neg h1, if_pos h14]; done) | (simp only [clet, if_neg h1, if_pos h14]; rfl) | rfl
    · refine go_ic1 dX10_letterOf_17 (go_goto 22 dX10_letterOf_18 (by decide) (go_is3 dX10_letterOf_22 rfl rfl (go_il3 dX10_letterOf_23 ?_)))
      refine go_ifeq 43 dX10_letterOf_24 (by decide) (fun h24 => absurd h24 (by decide)) (fun _ => ?_)
      refine go_al0 dX10_letterOf_27 (go_getR (j := 10) fX10_21 rfl rfl dX10_letterOf_28 (go_il1 dX10_letterOf_31 (go_ic5 dX10_letterOf_32 (go_imul dX10_letterOf_33 (go_il2 dX10_letterOf_34 (go_iadd dX10_letterOf_35 (go_icm1 dX10_letterOf_36 (go_SN3r mcX11_itemOr mvX11_itemOr kX10_64 dX10_letterOf_37 rfl rfl (sX11_itemOr rfl (by decide) _ _ _) (go_goto 44 dX10_letterOf_40 (by decide) ?_)))))))))
      refine go_iret dX10_letterOf_44 ?_
      constructor <;> first | (simp only [clet, if_neg h1, if_neg h14]; done) | (simp only [clet, if_neg h1, if_neg h14]; rfl) | rfl

theorem crdw_len (μ : gm_M) (j : Nat) : (crdw μ j).1 2 = μ.1 2 := by
  induction j with
  | zero => rfl
  | succ j ih =>
    have hk : ∀ (m : gm_M) (b : Int32), (ctakes m b).2.1 2 = m.1 2 := by
      intro m b
      unfold ctakes ctSort ctNext ctLet ctFig
      repeat' split
      all_goals rfl
    simp only [crdw]
    split
    · split
      · rw [hk, ih]
      · show (ctakes _ _).2.1 2 = _
        rw [hk, ih]
    · exact ih
theorem crdw_stay (μ : gm_M) {j : Nat} (h : ¬ (crdw μ j).1 6 5 = -1) : ∀ i, crdw μ (j + i) = crdw μ j := by
  intro i
  induction i with
  | zero => rfl
  | succ i ih => rw [← Nat.add_assoc]; show (if (crdw μ (j + i)).1 6 5 = -1 then _ else crdw μ (j + i)) = _; rw [ih, if_neg h]
set_option maxRecDepth 100000 in
set_option maxHeartbeats 400000 in
theorem sX10_rd_end (x : Int32) (m : gm_M) : Go yX10_readFrom cX10_readFrom 3 none 3 56 [some (.ref 6), some (.ref 2), some (.int x)] [] m (fun r μ' => r = none ∧ μ' = crdwF (crdwE m)) := by
  refine go_al0 dX10_readFrom_56 (go_getI fX10_24 rfl rfl dX10_readFrom_57 (go_icm1 dX10_readFrom_60 ?_))
  refine go_cne 86 dX10_readFrom_61 (by decide) (fun h61 => ?_) (fun h61 => ?_)
  · refine go_al0 dX10_readFrom_86 (go_getI fX10_24 rfl rfl dX10_readFrom_87 (go_icm1 dX10_readFrom_90 ?_))
    refine go_ceq 99 dX10_readFrom_91 (by decide) (fun h91 => ?_) (fun h91 => ?_)
    · refine go_vret dX10_readFrom_99 ?_
      refine ⟨rfl, ?_⟩
      simp only [crdwE, if_neg h61]
      rw [crdwF, if_pos h91]
    · refine go_al0 dX10_readFrom_94 (go_ic0 dX10_readFrom_95 (go_putI fX10_28 rfl rfl dX10_readFrom_96 ?_))
      refine go_vret dX10_readFrom_99 ?_
      refine ⟨rfl, ?_⟩
      simp only [crdwE, if_neg h61]
      rw [crdwF, if_neg h91]
  · refine go_al1 dX10_readFrom_64 (go_getI fX10_34 rfl rfl dX10_readFrom_65 ?_)
    refine go_ifle 86 dX10_readFrom_68 (by decide) (fun h68 => ?_) (fun h68 => ?_)
    · refine go_al0 dX10_readFrom_86 (go_getI fX10_24 rfl rfl dX10_readFrom_87 (go_icm1 dX10_readFrom_90 ?_))
      refine go_ceq 99 dX10_readFrom_91 (by decide) (fun h91 => ?_) (fun h91 => ?_)
      · refine go_vret dX10_readFrom_99 ?_
        refine ⟨rfl, ?_⟩
        simp only [crdwE, if_pos h61, if_pos h68]
        rw [crdwF, if_pos h91]
      · refine go_al0 dX10_readFrom_94 (go_ic0 dX10_readFrom_95 (go_putI fX10_28 rfl rfl dX10_readFrom_96 ?_))
        refine go_vret dX10_readFrom_99 ?_
        refine ⟨rfl, ?_⟩
        simp only [crdwE, if_pos h61, if_pos h68]
        rw [crdwF, if_neg h91]
    · refine go_al0 dX10_readFrom_71 (go_V0r mcX10_mayEnd mvX10_mayEnd kX10_47 rfl dX10_readFrom_72 rfl rfl (sX10_mayEnd _) ?_)
      refine go_ifneB 86 dX10_readFrom_75 (by decide) (fun h75 => ?_) (fun h75 => ?_)
      · refine go_al0 dX10_readFrom_86 (go_getI fX10_24 rfl rfl dX10_readFrom_87 (go_icm1 dX10_readFrom_90 ?_))
        refine go_ceq 99 dX10_readFrom_91 (by decide) (fun h91 => ?_) (fun h91 => ?_)
        · refine go_vret dX10_readFrom_99 ?_
          refine ⟨rfl, ?_⟩
          simp only [crdwE, if_pos h61, if_neg h68, if_pos h75]
          rw [crdwF, if_pos h91]
        · refine go_al0 dX10_readFrom_94 (go_ic0 dX10_readFrom_95 (go_putI fX10_28 rfl rfl dX10_readFrom_96 ?_))
          refine go_vret dX10_readFrom_99 ?_
          refine ⟨rfl, ?_⟩
          simp only [crdwE, if_pos h61, if_neg h68, if_pos h75]
          rw [crdwF, if_neg h91]
      · refine go_al0 dX10_readFrom_78 (go_al1 dX10_readFrom_79 (go_getI fX10_34 rfl rfl dX10_readFrom_80 (go_putI fX10_24 rfl rfl dX10_readFrom_83 (go_al0 dX10_readFrom_86 (go_getI fX10_24 rfl rfl dX10_readFrom_87 (go_icm1 dX10_readFrom_90 ?_))))))
        refine go_ceq 99 dX10_readFrom_91 (by decide) (fun h91 => ?_) (fun h91 => ?_)
        · refine go_vret dX10_readFrom_99 ?_
          refine ⟨rfl, ?_⟩
          simp only [crdwE, if_pos h61, if_neg h68, if_neg (gf h75)]
          rw [crdwF, if_pos h91]
        · refine go_al0 dX10_readFrom_94 (go_ic0 dX10_readFrom_95 (go_putI fX10_28 rfl rfl dX10_readFrom_96 ?_))
          refine go_vret dX10_readFrom_99 ?_
          refine ⟨rfl, ?_⟩
          simp only [crdwE, if_pos h61, if_neg h68, if_neg (gf h75)]
          rw [crdwF, if_neg h91]
set_option maxRecDepth 100000 in
set_option maxHeartbeats 400000 in
theorem sX10_rd_loop (μ : gm_M) {N : Nat} (hN : μ.1 2 1 = nI N) (hN2 : N < 2 ^ 31) : ∀ (k j : Nat), N - j = k → j ≤ N → Go yX10_readFrom cX10_readFrom 3 none 3 17 [some (.ref 6), some (.ref 2), some (.int (nI j))] [] (crdw μ j) (fun r μ' => r = none ∧ μ' = crdwF (crdwE (crdw μ N))) := by
  intro k
  induction k using Nat.strongRecOn with
  | ind k ih =>
    intro j hk hj
    refine go_il2 dX10_readFrom_17 (go_al1 dX10_readFrom_18 (go_getI fX10_34 rfl rfl dX10_readFrom_19 ?_))
    refine go_cge 56 dX10_readFrom_22 (by decide) (fun h22 => ?_) (fun h22 => ?_)
    · have he : j = N := Nat.le_antisymm hj ((gm_bdN (by rw [crdw_len]; exact hN) hN2 (by omega)).mp h22)
      subst he
      exact sX10_rd_end _ _
    · have hlt : j < N := Nat.not_le.mp (fun q => h22 ((gm_bdN (by rw [crdw_len]; exact hN) hN2 (by omega)).mpr q))
      refine go_al0 dX10_readFrom_25 (go_getI fX10_24 rfl rfl dX10_readFrom_26 (go_icm1 dX10_readFrom_29 ?_))
      refine go_cne 56 dX10_readFrom_30 (by decide) (fun h30 => ?_) (fun h30 => ?_)
      · have e1 : crdw μ N = crdw μ j := by rw [← crdw_stay μ h30 (N - j), Nat.add_sub_cancel' hj]
        rw [e1]
        exact sX10_rd_end _ _
      · refine go_al0 dX10_readFrom_33 (go_al1 dX10_readFrom_34 (go_il2 dX10_readFrom_35 (go_V1r mcX8_byteAt mvX8_byteAt kX10_39 rfl dX10_readFrom_36 rfl rfl (sX8_byteAt_2 _ _) (go_V1r mcX10_takes mvX10_takes kX10_43 rfl dX10_readFrom_39 rfl rfl (sX10_takes _ _) ?_))))
        refine go_ifneB 50 dX10_readFrom_42 (by decide) (fun h42 => ?_) (fun h42 => ?_)
        · refine go_inc2 (k := 1) dX10_readFrom_50 (by decide) rfl rfl (go_goto 17 dX10_readFrom_53 (by decide) ?_)
          have h := ih (N - (j + 1)) (by omega) (j + 1) rfl (by omega)
          simp only [crdw, if_pos h30, if_pos h42] at h
          rw [nI_1]
          with_reducible exact h
        · refine go_al0 dX10_readFrom_45 (go_il2 dX10_readFrom_46 (go_putI fX10_24 rfl rfl dX10_readFrom_47 (go_inc2 (k := 1) dX10_readFrom_50 (by decide) rfl rfl (go_goto 17 dX10_readFrom_53 (by decide) ?_))))
          have h := ih (N - (j + 1)) (by omega) (j + 1) rfl (by omega)
          simp only [crdw, if_pos h30, if_neg (gf h42)] at h
          rw [nI_1]
          with_reducible exact h
set_option maxRecDepth 100000 in
set_option maxHeartbeats 400000 in
theorem sX10_readFrom (μ : gm_M) {N : Nat} (hN : μ.1 2 1 = nI N) (hN2 : N < 2 ^ 31) : Ret yX10_readFrom cX10_readFrom 3 none 3 [(.ref 6), (.ref 2)] μ none (crdwF (crdwE (crdw μ N))) := by
  refine Sat.of (L := [some (.ref 6), some (.ref 2), none]) (by decide) (fun _ => rfl) (fun _ => rfl) ?_
  refine go_al0 dX10_readFrom_0 (go_ic0 dX10_readFrom_1 (go_putI fX10_28 rfl rfl dX10_readFrom_2 (go_al0 dX10_readFrom_5 (go_ic0 dX10_readFrom_6 (go_putI fX10_31 rfl rfl dX10_readFrom_7 (go_al0 dX10_readFrom_10 (go_icm1 dX10_readFrom_11 (go_putI fX10_24 rfl rfl dX10_readFrom_12 (go_ic0 dX10_readFrom_15 (go_is2 dX10_readFrom_16 rfl rfl ?_))))))))))
  exact sX10_rd_loop μ hN hN2 _ 0 rfl (by omega)

