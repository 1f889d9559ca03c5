/-! TRIAL (cells 25 to 31): one wheel through the nights; what each method does, as functions of the memory -/
def cgrow (μ : gm_M) (n w : Int32) : Int32 :=
  if μ.1 25 6 = 2 then w + 1 + (if gon (μ.1 25 10) n then 2 else 0)
  else if μ.1 25 6 = 1 then (if gon (μ.1 25 9) n then 0 else w + w / 2) + (if gon (μ.1 25 10) n then 2 else 0)
  else (if gon (μ.1 25 9) n || gon (μ.1 25 9) (n - 1) then w else w / 2) + (if gon (μ.1 25 10) n then 2 else 0)
def cmo (μ : gm_M) (a : Int32) : Int32 := if μ.1 25 11 < 1 ∨ ¬ 0 ≤ a then μ.1 25 8 else a / μ.1 25 11
def cmom (μ : gm_M) (a : Int32) : Int32 := if μ.1 25 8 ≤ cmo μ a then -1 else cmo μ a
def ceat (μ : gm_M) (m : Int32) : Bool := decide (¬ μ.1 25 6 = 2) && gon (μ.1 25 12) m
def cnote (μ : gm_M) (j : Nat) (age mom sta : Int32) : gm_M := gm_I (gm_I (gm_I (gm_I (gm_I μ 28 j age) 29 j mom) 30 j (gi (μ.1 26) 5 mom (-1))) 31 j sta) 25 13 (μ.1 25 13 ||| (if mom = -1 then 0 else (1 : Int32) <<< (nI j &&& 31)))
set_option maxRecDepth 100000 in
set_option maxHeartbeats 400000 in
theorem sX9_growth (n w : Int32) (μ : gm_M) : Ret yX9_growth cX9_growth 5 (some .int) 1 [(.ref 25), (.int n), (.int w)] μ (some (.int (cgrow μ n w))) μ := by
  refine Sat.of (L := [some (.ref 25), some (.int n), some (.int w), none, none]) (by decide) (fun _ => rfl) (fun _ => rfl) ?_
  refine go_al0 dX9_growth_0 (go_getI fX9_38 rfl rfl dX9_growth_1 (go_il1 dX9_growth_4 (go_SN2r mcX11_isOn mvX11_isOn kX9_41 dX9_growth_5 rfl rfl (sX11_isOn _ _ _) ?_)))
  refine go_ifeqB 15 dX9_growth_8 (by decide) (fun h8 => ?_) (fun h8 => ?_)
  · refine go_ic0 dX9_growth_15 (go_is3 dX9_growth_16 rfl rfl (go_al0 dX9_growth_17 (go_getI fX9_45 rfl rfl dX9_growth_18 (go_ic2 dX9_growth_21 ?_))))
    refine go_cne 31 dX9_growth_22 (by decide) (fun h22 => ?_) (fun h22 => ?_)
    · refine go_al0 dX9_growth_31 (go_getI fX9_45 rfl rfl dX9_growth_32 (go_ic1 dX9_growth_35 ?_))
      refine go_cne 62 dX9_growth_36 (by decide) (fun h36 => ?_) (fun h36 => ?_)
      · refine go_al0 dX9_growth_62 (go_getI fX9_48 rfl rfl dX9_growth_63 (go_il1 dX9_growth_66 (go_SN2r mcX11_isOn mvX11_isOn kX9_41 dX9_growth_67 rfl rfl (sX11_isOn _ _ _) ?_)))
        refine go_ifneB 86 dX9_growth_70 (by decide) (fun h70 => ?_) (fun h70 => ?_)
        · refine go_ic1 dX9_growth_86 (go_goto 91 dX9_growth_87 (by decide) (go_is4 dX9_growth_91 rfl rfl (go_il4 dX9_growth_93 ?_)))
          refine go_ifeq 102 dX9_growth_95 (by decide) (fun h95 => absurd h95 (by decide)) (fun _ => ?_)
          refine go_il2 dX9_growth_98 (go_goto 105 dX9_growth_99 (by decide) (go_il3 dX9_growth_105 (go_iadd dX9_growth_106 ?_)))
          refine go_iret dX9_growth_107 ?_
          exact ⟨by simp [cgrow, h8, h22, h36, h70], rfl⟩
        · refine go_al0 dX9_growth_73 (go_getI fX9_48 rfl rfl dX9_growth_74 (go_il1 dX9_growth_77 (go_ic1 dX9_growth_78 (go_isub dX9_growth_79 (go_SN2r mcX11_isOn mvX11_isOn kX9_41 dX9_growth_80 rfl rfl (sX11_isOn _ _ _) ?_)))))
          refine go_ifeqB 90 dX9_growth_83 (by decide) (fun h83 => ?_) (fun h83 => ?_)
          · refine go_ic0 dX9_growth_90 (go_is4 dX9_growth_91 rfl rfl (go_il4 dX9_growth_93 ?_))
            refine go_ifeq 102 dX9_growth_95 (by decide) (fun _ => ?_) (fun h95 => absurd h95 (by decide))
            refine go_il2 dX9_growth_102 (go_ic2 dX9_growth_103 (go_idiv dX9_growth_104 (by decide) (go_il3 dX9_growth_105 (go_iadd dX9_growth_106 ?_))))
            refine go_iret dX9_growth_107 ?_
            exact ⟨by simp [cgrow, h8, h22, h36, h70, h83], rfl⟩
          · refine go_ic1 dX9_growth_86 (go_goto 91 dX9_growth_87 (by decide) (go_is4 dX9_growth_91 rfl rfl (go_il4 dX9_growth_93 ?_)))
            refine go_ifeq 102 dX9_growth_95 (by decide) (fun h95 => absurd h95 (by decide)) (fun _ => ?_)
            refine go_il2 dX9_growth_98 (go_goto 105 dX9_growth_99 (by decide) (go_il3 dX9_growth_105 (go_iadd dX9_growth_106 ?_)))
            refine go_iret dX9_growth_107 ?_
            exact ⟨by simp [cgrow, h8, h22, h36, h70, h83], rfl⟩
      · refine go_al0 dX9_growth_39 (go_getI fX9_48 rfl rfl dX9_growth_40 (go_il1 dX9_growth_43 (go_SN2r mcX11_isOn mvX11_isOn kX9_41 dX9_growth_44 rfl rfl (sX11_isOn _ _ _) ?_)))
        refine go_ifeqB 54 dX9_growth_47 (by decide) (fun h47 => ?_) (fun h47 => ?_)
        · refine go_il2 dX9_growth_54 (go_il2 dX9_growth_55 (go_ic2 dX9_growth_56 (go_idiv dX9_growth_57 (by decide) (go_iadd dX9_growth_58 (go_il3 dX9_growth_59 (go_iadd dX9_growth_60 ?_))))))
          refine go_iret dX9_growth_61 ?_
          exact ⟨by simp [cgrow, h8, h22, h36, h47], rfl⟩
        · refine go_ic0 dX9_growth_50 (go_goto 59 dX9_growth_51 (by decide) (go_il3 dX9_growth_59 (go_iadd dX9_growth_60 ?_)))
          refine go_iret dX9_growth_61 ?_
          exact ⟨by simp [cgrow, h8, h22, h36, h47], rfl⟩
    · refine go_il2 dX9_growth_25 (go_ic1 dX9_growth_26 (go_iadd dX9_growth_27 (go_il3 dX9_growth_28 (go_iadd dX9_growth_29 ?_))))
      refine go_iret dX9_growth_30 ?_
      exact ⟨by simp [cgrow, h8, h22], rfl⟩
  · refine go_ic2 dX9_growth_11 (go_goto 16 dX9_growth_12 (by decide) (go_is3 dX9_growth_16 rfl rfl (go_al0 dX9_growth_17 (go_getI fX9_45 rfl rfl dX9_growth_18 (go_ic2 dX9_growth_21 ?_)))))
    refine go_cne 31 dX9_growth_22 (by decide) (fun h22 => ?_) (fun h22 => ?_)
    · refine go_al0 dX9_growth_31 (go_getI fX9_45 rfl rfl dX9_growth_32 (go_ic1 dX9_growth_35 ?_))
      refine go_cne 62 dX9_growth_36 (by decide) (fun h36 => ?_) (fun h36 => ?_)
      · refine go_al0 dX9_growth_62 (go_getI fX9_48 rfl rfl dX9_growth_63 (go_il1 dX9_growth_66 (go_SN2r mcX11_isOn mvX11_isOn kX9_41 dX9_growth_67 rfl rfl (sX11_isOn _ _ _) ?_)))
        refine go_ifneB 86 dX9_growth_70 (by decide) (fun h70 => ?_) (fun h70 => ?_)
        · refine go_ic1 dX9_growth_86 (go_goto 91 dX9_growth_87 (by decide) (go_is4 dX9_growth_91 rfl rfl (go_il4 dX9_growth_93 ?_)))
          refine go_ifeq 102 dX9_growth_95 (by decide) (fun h95 => absurd h95 (by decide)) (fun _ => ?_)
          refine go_il2 dX9_growth_98 (go_goto 105 dX9_growth_99 (by decide) (go_il3 dX9_growth_105 (go_iadd dX9_growth_106 ?_)))
          refine go_iret dX9_growth_107 ?_
          exact ⟨by simp [cgrow, h8, h22, h36, h70], rfl⟩
        · refine go_al0 dX9_growth_73 (go_getI fX9_48 rfl rfl dX9_growth_74 (go_il1 dX9_growth_77 (go_ic1 dX9_growth_78 (go_isub dX9_growth_79 (go_SN2r mcX11_isOn mvX11_isOn kX9_41 dX9_growth_80 rfl rfl (sX11_isOn _ _ _) ?_)))))
          refine go_ifeqB 90 dX9_growth_83 (by decide) (fun h83 => ?_) (fun h83 => ?_)
          · refine go_ic0 dX9_growth_90 (go_is4 dX9_growth_91 rfl rfl (go_il4 dX9_growth_93 ?_))
            refine go_ifeq 102 dX9_growth_95 (by decide) (fun _ => ?_) (fun h95 => absurd h95 (by decide))
            refine go_il2 dX9_growth_102 (go_ic2 dX9_growth_103 (go_idiv dX9_growth_104 (by decide) (go_il3 dX9_growth_105 (go_iadd dX9_growth_106 ?_))))
            refine go_iret dX9_growth_107 ?_
            exact ⟨by simp [cgrow, h8, h22, h36, h70, h83], rfl⟩
          · refine go_ic1 dX9_growth_86 (go_goto 91 dX9_growth_87 (by decide) (go_is4 dX9_growth_91 rfl rfl (go_il4 dX9_growth_93 ?_)))
            refine go_ifeq 102 dX9_growth_95 (by decide) (fun h95 => absurd h95 (by decide)) (fun _ => ?_)
            refine go_il2 dX9_growth_98 (go_goto 105 dX9_growth_99 (by decide) (go_il3 dX9_growth_105 (go_iadd dX9_growth_106 ?_)))
            refine go_iret dX9_growth_107 ?_
            exact ⟨by simp [cgrow, h8, h22, h36, h70, h83], rfl⟩
      · refine go_al0 dX9_growth_39 (go_getI fX9_48 rfl rfl dX9_growth_40 (go_il1 dX9_growth_43 (go_SN2r mcX11_isOn mvX11_isOn kX9_41 dX9_growth_44 rfl rfl (sX11_isOn _ _ _) ?_)))
        refine go_ifeqB 54 dX9_growth_47 (by decide) (fun h47 => ?_) (fun h47 => ?_)
        · refine go_il2 dX9_growth_54 (go_il2 dX9_growth_55 (go_ic2 dX9_growth_56 (go_idiv dX9_growth_57 (by decide) (go_iadd dX9_growth_58 (go_il3 dX9_growth_59 (go_iadd dX9_growth_60 ?_))))))
          refine go_iret dX9_growth_61 ?_
          exact ⟨by simp [cgrow, h8, h22, h36, h47], rfl⟩
        · refine go_ic0 dX9_growth_50 (go_goto 59 dX9_growth_51 (by decide) (go_il3 dX9_growth_59 (go_iadd dX9_growth_60 ?_)))
          refine go_iret dX9_growth_61 ?_
          exact ⟨by simp [cgrow, h8, h22, h36, h47], rfl⟩
    · refine go_il2 dX9_growth_25 (go_ic1 dX9_growth_26 (go_iadd dX9_growth_27 (go_il3 dX9_growth_28 (go_iadd dX9_growth_29 ?_))))
      refine go_iret dX9_growth_30 ?_
      exact ⟨by simp [cgrow, h8, h22], rfl⟩

set_option maxRecDepth 100000 in
set_option maxHeartbeats 400000 in
theorem sX9_momentAt (a : Int32) (μ : gm_M) : Ret yX9_momentAt cX9_momentAt 3 (some .int) 0 [(.ref 25), (.int a)] μ (some (.int (cmom μ a))) μ := by
  refine Sat.of (L := [some (.ref 25), some (.int a), none]) (by decide) (fun _ => rfl) (fun _ => rfl) ?_
  refine go_al0 dX9_momentAt_0 (go_getI fX9_51 rfl rfl dX9_momentAt_1 (go_ic1 dX9_momentAt_4 ?_))
  refine go_clt 12 dX9_momentAt_5 (by decide) (fun h5 => ?_) (fun h5 => ?_)
  · refine go_al0 dX9_momentAt_12 (go_getI fX9_54 rfl rfl dX9_momentAt_13 (go_goto 25 dX9_momentAt_16 (by decide) (go_is2 dX9_momentAt_25 rfl rfl (go_il2 dX9_momentAt_26 (go_al0 dX9_momentAt_27 (go_getI fX9_54 rfl rfl dX9_momentAt_28 ?_))))))
    refine go_cge 38 dX9_momentAt_31 (by decide) (fun h31 => ?_) (fun h31 => ?_)
    · refine go_icm1 dX9_momentAt_38 ?_
      refine go_iret dX9_momentAt_39 ?_
      have hv : cmo μ a = (μ.1 25 8) := by simp [cmo, h5]
      exact ⟨by rw [cmom, hv, if_pos h31], rfl⟩
    · refine go_il2 dX9_momentAt_34 (go_goto 39 dX9_momentAt_35 (by decide) ?_)
      refine go_iret dX9_momentAt_39 ?_
      have hv : cmo μ a = (μ.1 25 8) := by simp [cmo, h5]
      exact ⟨by rw [cmom, hv, if_neg h31], rfl⟩
  · refine go_il1 dX9_momentAt_8 ?_
    refine go_ifge 19 dX9_momentAt_9 (by decide) (fun h9 => ?_) (fun h9 => ?_)
    · refine go_il1 dX9_momentAt_19 (go_al0 dX9_momentAt_20 (go_getI fX9_51 rfl rfl dX9_momentAt_21 (go_idiv dX9_momentAt_24 (fun q => h5 (by rw [q]; decide)) (go_is2 dX9_momentAt_25 rfl rfl (go_il2 dX9_momentAt_26 (go_al0 dX9_momentAt_27 (go_getI fX9_54 rfl rfl dX9_momentAt_28 ?_)))))))
      refine go_cge 38 dX9_momentAt_31 (by decide) (fun h31 => ?_) (fun h31 => ?_)
      · refine go_icm1 dX9_momentAt_38 ?_
        refine go_iret dX9_momentAt_39 ?_
        have hv : cmo μ a = (a / (μ.1 25 11)) := by simp [cmo, h5, h9]
        exact ⟨by rw [cmom, hv, if_pos h31], rfl⟩
      · refine go_il2 dX9_momentAt_34 (go_goto 39 dX9_momentAt_35 (by decide) ?_)
        refine go_iret dX9_momentAt_39 ?_
        have hv : cmo μ a = (a / (μ.1 25 11)) := by simp [cmo, h5, h9]
        exact ⟨by rw [cmom, hv, if_neg h31], rfl⟩
    · refine go_al0 dX9_momentAt_12 (go_getI fX9_54 rfl rfl dX9_momentAt_13 (go_goto 25 dX9_momentAt_16 (by decide) (go_is2 dX9_momentAt_25 rfl rfl (go_il2 dX9_momentAt_26 (go_al0 dX9_momentAt_27 (go_getI fX9_54 rfl rfl dX9_momentAt_28 ?_))))))
      refine go_cge 38 dX9_momentAt_31 (by decide) (fun h31 => ?_) (fun h31 => ?_)
      · refine go_icm1 dX9_momentAt_38 ?_
        refine go_iret dX9_momentAt_39 ?_
        have hv : cmo μ a = (μ.1 25 8) := by simp [cmo, h5, h9]
        exact ⟨by rw [cmom, hv, if_pos h31], rfl⟩
      · refine go_il2 dX9_momentAt_34 (go_goto 39 dX9_momentAt_35 (by decide) ?_)
        refine go_iret dX9_momentAt_39 ?_
        have hv : cmo μ a = (μ.1 25 8) := by simp [cmo, h5, h9]
        exact ⟨by rw [cmom, hv, if_neg h31], rfl⟩

set_option maxRecDepth 100000 in
set_option maxHeartbeats 400000 in
theorem sX9_isEatenAt (m : Int32) (μ : gm_M) : Ret yX9_isEatenAt cX9_isEatenAt 2 (some .boolean) 1 [(.ref 25), (.int m)] μ (some (.int (gb (ceat μ m)))) μ := by
  refine Sat.of (L := [some (.ref 25), some (.int m)]) (by decide) (fun _ => rfl) (fun _ => rfl) ?_
  refine go_al0 dX9_isEatenAt_0 (go_getI fX9_45 rfl rfl dX9_isEatenAt_1 (go_ic2 dX9_isEatenAt_4 ?_))
  refine go_ceq 23 dX9_isEatenAt_5 (by decide) (fun h5 => ?_) (fun h5 => ?_)
  · refine go_ic0 dX9_isEatenAt_23 ?_
    refine go_zret dX9_isEatenAt_24 rfl ?_
    exact ⟨by simp [ceat, gb, h5], rfl⟩
  · refine go_al0 dX9_isEatenAt_8 (go_getI fX9_30 rfl rfl dX9_isEatenAt_9 (go_il1 dX9_isEatenAt_12 (go_SN2r mcX11_isOn mvX11_isOn kX9_41 dX9_isEatenAt_13 rfl rfl (sX11_isOn _ _ _) ?_)))
    refine go_ifeqB 23 dX9_isEatenAt_16 (by decide) (fun h16 => ?_) (fun h16 => ?_)
    · refine go_ic0 dX9_isEatenAt_23 ?_
      refine go_zret dX9_isEatenAt_24 rfl ?_
      exact ⟨by simp [ceat, gb, h5, h16], rfl⟩
    · refine go_ic1 dX9_isEatenAt_19 (go_goto 24 dX9_isEatenAt_20 (by decide) ?_)
      refine go_zret dX9_isEatenAt_24 rfl ?_
      exact ⟨by simp [ceat, gb, h5, h16], rfl⟩

set_option maxRecDepth 100000 in
set_option maxHeartbeats 400000 in
theorem sX9_warmthOn (n : Int32) (μ : gm_M) : Ret yX9_warmthOn cX9_warmthOn 2 (some .int) 1 [(.ref 25), (.int n)] μ (some (.int (gi (μ.1 27) 30 n 5))) μ := by
  refine Sat.of (L := [some (.ref 25), some (.int n)]) (by decide) (fun _ => rfl) (fun _ => rfl) ?_
  refine go_al0 dX9_warmthOn_0 (go_getR (j := 27) fX9_15 rfl rfl dX9_warmthOn_1 (go_il1 dX9_warmthOn_4 (go_ic5 dX9_warmthOn_5 (go_SN3r mcX11_itemOr mvX11_itemOr kX9_34 dX9_warmthOn_6 rfl rfl (sX11_itemOr rfl (by decide) _ _ _) ?_))))
  refine go_iret dX9_warmthOn_9 ?_
  exact ⟨rfl, rfl⟩

set_option maxRecDepth 100000 in
set_option maxHeartbeats 400000 in
theorem sX9_ageOn (n : Int32) (μ : gm_M) : Ret yX9_ageOn cX9_ageOn 2 (some .int) 1 [(.ref 25), (.int n)] μ (some (.int (gi (μ.1 28) 30 n 0))) μ := by
  refine Sat.of (L := [some (.ref 25), some (.int n)]) (by decide) (fun _ => rfl) (fun _ => rfl) ?_
  refine go_al0 dX9_ageOn_0 (go_getR (j := 28) fX9_18 rfl rfl dX9_ageOn_1 (go_il1 dX9_ageOn_4 (go_ic0 dX9_ageOn_5 (go_SN3r mcX11_itemOr mvX11_itemOr kX9_34 dX9_ageOn_6 rfl rfl (sX11_itemOr rfl (by decide) _ _ _) ?_))))
  refine go_iret dX9_ageOn_9 ?_
  exact ⟨rfl, rfl⟩

set_option maxRecDepth 100000 in
set_option maxHeartbeats 400000 in
theorem sX9_momentOn (n : Int32) (μ : gm_M) : Ret yX9_momentOn cX9_momentOn 2 (some .int) 1 [(.ref 25), (.int n)] μ (some (.int (gi (μ.1 29) 30 n (-1)))) μ := by
  refine Sat.of (L := [some (.ref 25), some (.int n)]) (by decide) (fun _ => rfl) (fun _ => rfl) ?_
  refine go_al0 dX9_momentOn_0 (go_getR (j := 29) fX9_21 rfl rfl dX9_momentOn_1 (go_il1 dX9_momentOn_4 (go_icm1 dX9_momentOn_5 (go_SN3r mcX11_itemOr mvX11_itemOr kX9_34 dX9_momentOn_6 rfl rfl (sX11_itemOr rfl (by decide) _ _ _) ?_))))
  refine go_iret dX9_momentOn_9 ?_
  exact ⟨rfl, rfl⟩

set_option maxRecDepth 100000 in
set_option maxHeartbeats 400000 in
theorem sX9_heardOn (n : Int32) (μ : gm_M) : Ret yX9_heardOn cX9_heardOn 2 (some .int) 1 [(.ref 25), (.int n)] μ (some (.int (gi (μ.1 30) 30 n (-1)))) μ := by
  refine Sat.of (L := [some (.ref 25), some (.int n)]) (by decide) (fun _ => rfl) (fun _ => rfl) ?_
  refine go_al0 dX9_heardOn_0 (go_getR (j := 30) fX9_24 rfl rfl dX9_heardOn_1 (go_il1 dX9_heardOn_4 (go_icm1 dX9_heardOn_5 (go_SN3r mcX11_itemOr mvX11_itemOr kX9_34 dX9_heardOn_6 rfl rfl (sX11_itemOr rfl (by decide) _ _ _) ?_))))
  refine go_iret dX9_heardOn_9 ?_
  exact ⟨rfl, rfl⟩

set_option maxRecDepth 100000 in
set_option maxHeartbeats 400000 in
theorem sX9_stateOn (n : Int32) (μ : gm_M) : Ret yX9_stateOn cX9_stateOn 2 (some .int) 1 [(.ref 25), (.int n)] μ (some (.int (gi (μ.1 31) 30 n 0))) μ := by
  refine Sat.of (L := [some (.ref 25), some (.int n)]) (by decide) (fun _ => rfl) (fun _ => rfl) ?_
  refine go_al0 dX9_stateOn_0 (go_getR (j := 31) fX9_27 rfl rfl dX9_stateOn_1 (go_il1 dX9_stateOn_4 (go_ic0 dX9_stateOn_5 (go_SN3r mcX11_itemOr mvX11_itemOr kX9_34 dX9_stateOn_6 rfl rfl (sX11_itemOr rfl (by decide) _ _ _) ?_))))
  refine go_iret dX9_stateOn_9 ?_
  exact ⟨rfl, rfl⟩

set_option maxRecDepth 100000 in
set_option maxHeartbeats 400000 in
theorem sX9_note {j : Nat} (hj : j < 30) (age mom sta : Int32) (μ : gm_M) : Ret yX9_note cX9_note 5 none 1 [(.ref 25), (.int (nI j)), (.int age), (.int mom), (.int sta)] μ none (cnote μ j age mom sta) := by
  refine Sat.of (L := [some (.ref 25), some (.int (nI j)), some (.int age), some (.int mom), some (.int sta)]) (by decide) (fun _ => rfl) (fun _ => rfl) ?_
  refine go_il1 dX9_note_0 ?_
  refine go_iflt 68 dX9_note_1 (by decide) (fun h1 => ?_) (fun h1 => ?_)
  · refine go_vret dX9_note_68 ?_
    exact absurd h1 (nI_pos (by omega))
  · refine go_il1 dX9_note_4 (go_bipush (v := 30) dX9_note_5 (by decide) ?_)
    refine go_cge 68 dX9_note_7 (by decide) (fun h7 => ?_) (fun h7 => ?_)
    · refine go_vret dX9_note_68 ?_
      exact absurd (show (30 : Int32) ≤ nI j from h7) (by rw [show (30 : Int32) = nI 30 from by decide]; exact nI_ge hj (by decide))
    · refine go_al0 dX9_note_10 (go_getR (j := 28) fX9_18 rfl rfl dX9_note_11 (go_il1 dX9_note_14 (go_il2 dX9_note_15 (go_iast rfl (vp_in_nI hj (by decide)) dX9_note_16 (go_al0 dX9_note_17 (go_getR (j := 29) fX9_21 rfl rfl dX9_note_18 (go_il1 dX9_note_21 (go_il3 dX9_note_22 (go_iast rfl (vp_in_nI hj (by decide)) dX9_note_23 (go_al0 dX9_note_24 (go_getR (j := 30) fX9_24 rfl rfl dX9_note_25 (go_il1 dX9_note_28 (go_al0 dX9_note_29 ?_)))))))))))))
      refine go_getR (j := 26) fX9_9 rfl rfl dX9_note_30 (go_il3 dX9_note_33 (go_icm1 dX9_note_34 (go_SN3r mcX11_itemOr mvX11_itemOr kX9_34 dX9_note_35 rfl rfl (sX11_itemOr rfl (by decide) _ _ _) (go_iast rfl (vp_in_nI hj (by decide)) dX9_note_38 (go_al0 dX9_note_39 (go_getR (j := 31) fX9_27 rfl rfl dX9_note_40 (go_il1 dX9_note_43 (go_il4 dX9_note_44 (go_iast rfl (vp_in_nI hj (by decide)) dX9_note_46 (go_al0 dX9_note_47 (go_dup dX9_note_48 rfl (go_getI fX9_57 rfl rfl dX9_note_49 (go_il3 dX9_note_52 ?_)))))))))))))
      refine go_icm1 dX9_note_53 ?_
      refine go_cne 61 dX9_note_54 (by decide) (fun h54 => ?_) (fun h54 => ?_)
      · refine go_ic1 dX9_note_61 (go_il1 dX9_note_62 (go_ishl dX9_note_63 (go_ior dX9_note_64 (go_putI fX9_57 rfl rfl dX9_note_65 ?_))))
        refine go_vret dX9_note_68 ?_
        have hc : (nI j).toNatClampNeg = j := nI_clamp (by omega)
        refine ⟨rfl, ?_⟩
        rw [hc]
        simp only [cnote, h54]
        rfl
      · refine go_ic0 dX9_note_57 (go_goto 64 dX9_note_58 (by decide) (go_ior dX9_note_64 (go_putI fX9_57 rfl rfl dX9_note_65 ?_)))
        refine go_vret dX9_note_68 ?_
        have hc : (nI j).toNatClampNeg = j := nI_clamp (by omega)
        refine ⟨rfl, ?_⟩
        rw [hc]
        simp only [cnote, h54]
        rfl

set_option maxRecDepth 100000 in
set_option maxHeartbeats 400000 in
theorem sX9_warmTo {j : Nat} (hj : j < 30) (v : Int32) (μ : gm_M) : Ret yX9_warmTo cX9_warmTo 3 none 0 [(.ref 25), (.int (nI j)), (.int v)] μ none (gm_I μ 27 j v) := by
  refine Sat.of (L := [some (.ref 25), some (.int (nI j)), some (.int v)]) (by decide) (fun _ => rfl) (fun _ => rfl) ?_
  refine go_il1 dX9_warmTo_0 ?_
  refine go_iflt 20 dX9_warmTo_1 (by decide) (fun h1 => ?_) (fun h1 => ?_)
  · refine go_vret dX9_warmTo_20 ?_
    first | exact absurd h1 (nI_pos (by omega)) | exact absurd h10 (nI_ge hj (by decide)) | (refine ⟨rfl, ?_⟩; rw [nI_clamp (by omega)])
  · refine go_il1 dX9_warmTo_4 (go_al0 dX9_warmTo_5 (go_getR (j := 27) fX9_15 rfl rfl dX9_warmTo_6 (go_alenI rfl dX9_warmTo_9 ?_)))
    refine go_cge 20 dX9_warmTo_10 (by decide) (fun h10 => ?_) (fun h10 => ?_)
    · refine go_vret dX9_warmTo_20 ?_
      first | exact absurd h1 (nI_pos (by omega)) | exact absurd h10 (nI_ge hj (by decide)) | (refine ⟨rfl, ?_⟩; rw [nI_clamp (by omega)])
    · refine go_al0 dX9_warmTo_13 (go_getR (j := 27) fX9_15 rfl rfl dX9_warmTo_14 (go_il1 dX9_warmTo_17 (go_il2 dX9_warmTo_18 (go_iast rfl (vp_in_nI hj (by decide)) dX9_warmTo_19 ?_))))
      refine go_vret dX9_warmTo_20 ?_
      first | exact absurd h1 (nI_pos (by omega)) | exact absurd h10 (nI_ge hj (by decide)) | (refine ⟨rfl, ?_⟩; rw [nI_clamp (by omega)])

def clearn (μ : gm_M) (j : Nat) (le : Int32) (s : Bool) : gm_M := gm_I (gm_I μ 26 j le) 25 12 (if s then μ.1 25 12 ||| (1 : Int32) <<< (nI j &&& 31) else μ.1 25 12 &&& ((1 : Int32) <<< (nI j &&& 31) ^^^ -1))
set_option maxRecDepth 100000 in
set_option maxHeartbeats 400000 in
theorem sX9_learn {j : Nat} (hj : j < 5) (le : Int32) (s : Bool) (μ : gm_M) : Ret yX9_learn cX9_learn 4 none 0 [(.ref 25), (.int (nI j)), (.int le), (.int (gb s))] μ none (clearn μ j le s) := by
  refine Sat.of (L := [some (.ref 25), some (.int (nI j)), some (.int le), some (.int (gb s))]) (by decide) (fun _ => rfl) (fun _ => rfl) ?_
  refine go_il1 dX9_learn_0 ?_
  refine go_iflt 49 dX9_learn_1 (by decide) (fun h1 => ?_) (fun h1 => ?_)
  · refine go_vret dX9_learn_49 ?_
    first | exact absurd h1 (nI_pos (by omega)) | exact absurd h10 (nI_ge hj (by decide)) | (refine ⟨rfl, ?_⟩; rw [nI_clamp (by omega)]; simp only [clearn, h1]; rfl)
  · refine go_il1 dX9_learn_4 (go_al0 dX9_learn_5 (go_getR (j := 26) fX9_9 rfl rfl dX9_learn_6 (go_alenI rfl dX9_learn_9 ?_)))
    refine go_cge 49 dX9_learn_10 (by decide) (fun h10 => ?_) (fun h10 => ?_)
    · refine go_vret dX9_learn_49 ?_
      first | exact absurd h1 (nI_pos (by omega)) | exact absurd h10 (nI_ge hj (by decide)) | (refine ⟨rfl, ?_⟩; rw [nI_clamp (by omega)]; simp only [clearn, h1, h10]; rfl)
    · refine go_al0 dX9_learn_13 (go_getR (j := 26) fX9_9 rfl rfl dX9_learn_14 (go_il1 dX9_learn_17 (go_il2 dX9_learn_18 (go_iast rfl (vp_in_nI hj (by decide)) dX9_learn_19 (go_al0 dX9_learn_20 (go_il3 dX9_learn_21 ?_))))))
      refine go_ifeqB 36 dX9_learn_22 (by decide) (fun h22 => ?_) (fun h22 => ?_)
      · refine go_al0 dX9_learn_36 (go_getI fX9_30 rfl rfl dX9_learn_37 (go_ic1 dX9_learn_40 (go_il1 dX9_learn_41 (go_ishl dX9_learn_42 (go_icm1 dX9_learn_43 (go_ixor dX9_learn_44 (go_iand dX9_learn_45 (go_putI fX9_30 rfl rfl dX9_learn_46 ?_))))))))
        refine go_vret dX9_learn_49 ?_
        first | exact absurd h1 (nI_pos (by omega)) | exact absurd h10 (nI_ge hj (by decide)) | (refine ⟨rfl, ?_⟩; rw [nI_clamp (by omega)]; simp only [clearn, h1, h10, h22]; rfl)
      · refine go_al0 dX9_learn_25 (go_getI fX9_30 rfl rfl dX9_learn_26 (go_ic1 dX9_learn_29 (go_il1 dX9_learn_30 (go_ishl dX9_learn_31 (go_ior dX9_learn_32 (go_goto 46 dX9_learn_33 (by decide) (go_putI fX9_30 rfl rfl dX9_learn_46 ?_)))))))
        refine go_vret dX9_learn_49 ?_
        first | exact absurd h1 (nI_pos (by omega)) | exact absurd h10 (nI_ge hj (by decide)) | (refine ⟨rfl, ?_⟩; rw [nI_clamp (by omega)]; simp only [clearn, h1, h10, h22]; rfl)

