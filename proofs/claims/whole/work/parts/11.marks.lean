/-! MARKS (13, 17, 21), TEXT (2, 4), SHEET (44 to 47) -/
theorem gm_in3 {i x : Int32} {n : Nat} (h1 : ¬ i < 0) (h2 : i < x) (hx : x = nI n) (hn : n < 2 ^ 31) : vp_in i n := gm_in2 (Int32.not_lt.mp h1) (hx ▸ h2) hn
/-- the nights of a wheel as bits, among the first i marks -/
def cno (f g : Nat → Int32) (n : Nat) (w wo : Int32) : Nat → Int32
  | 0 => 0
  | i + 1 => if nI i = wo then cno f g n w wo i else if gi g n (nI i) (-1) = w then (if gnight (gi f n (nI i) (-1)) = true then cno f g n w wo i ||| (1 : Int32) <<< (gi f n (nI i) (-1) &&& 31) else cno f g n w wo i) else cno f g n w wo i
set_option maxRecDepth 100000 in
set_option maxHeartbeats 400000 in
theorem sX4_isFull_13 (μ : gm_M) : Ret yX4_isFull cX4_isFull 1 (some .boolean) 0 [(.ref 13)] μ (some (.int (gb (decide (¬ μ.1 13 3 < nI 8))))) μ := by
  refine Sat.of (L := [some (.ref 13)]) (by decide) (fun _ => rfl) (fun _ => rfl) ?_
  refine go_al0 dX4_isFull_0 (go_getI fX4_27 rfl rfl dX4_isFull_1 (go_al0 dX4_isFull_4 (go_getR (j := 14) fX4_15 rfl rfl dX4_isFull_5 (go_alenI rfl dX4_isFull_8 ?_))))
  refine go_clt 16 dX4_isFull_9 (by decide) (fun h9 => ?_) (fun h9 => ?_)
  · refine go_ic0 dX4_isFull_16 ?_
    refine go_zret dX4_isFull_17 rfl ?_
    exact ⟨by simp [gb, h9], rfl⟩
  · refine go_ic1 dX4_isFull_12 (go_goto 17 dX4_isFull_13 (by decide) ?_)
    refine go_zret dX4_isFull_17 rfl ?_
    exact ⟨by simp [gb, h9], rfl⟩

def cap13 (μ : gm_M) (x y z : Int32) : gm_M := gm_I (gm_I (gm_I (gm_I μ 14 (μ.1 13 3).toNatClampNeg x) 15 (μ.1 13 3).toNatClampNeg y) 16 (μ.1 13 3).toNatClampNeg z) 13 3 (μ.1 13 3 + 1)
set_option maxRecDepth 100000 in
set_option maxHeartbeats 400000 in
theorem sX4_append_13 (x y z : Int32) (μ : gm_M) (h0 : ¬ μ.1 13 3 < 0) (hN : ¬ nI 8 ≤ μ.1 13 3) : Ret yX4_append cX4_append 5 none 0 [(.ref 13), (.int x), (.int y), (.int z)] μ none (cap13 μ x y z) := by
  refine Sat.of (L := [some (.ref 13), some (.int x), some (.int y), some (.int z), none]) (by decide) (fun _ => rfl) (fun _ => rfl) ?_
  refine go_al0 dX4_append_0 (go_getI fX4_27 rfl rfl dX4_append_1 (go_is4 dX4_append_4 rfl rfl (go_il4 dX4_append_6 ?_)))
  refine go_iflt 75 dX4_append_8 (by decide) (fun h8 => ?_) (fun h8 => ?_)
  · refine go_vret dX4_append_75 ?_
    exact absurd h8 h0
  · refine go_il4 dX4_append_11 (go_al0 dX4_append_13 (go_getR (j := 14) fX4_15 rfl rfl dX4_append_14 (go_alenI rfl dX4_append_17 ?_)))
    refine go_cge 75 dX4_append_18 (by decide) (fun h18 => ?_) (fun h18 => ?_)
    · refine go_vret dX4_append_75 ?_
      exact absurd h18 hN
    · refine go_il4 dX4_append_21 (go_al0 dX4_append_23 (go_getR (j := 15) fX4_21 rfl rfl dX4_append_24 (go_alenI rfl dX4_append_27 ?_)))
      refine go_cge 75 dX4_append_28 (by decide) (fun h28 => ?_) (fun h28 => ?_)
      · refine go_vret dX4_append_75 ?_
        exact absurd h28 hN
      · refine go_il4 dX4_append_31 (go_al0 dX4_append_33 (go_getR (j := 16) fX4_24 rfl rfl dX4_append_34 (go_alenI rfl dX4_append_37 ?_)))
        refine go_cge 75 dX4_append_38 (by decide) (fun h38 => ?_) (fun h38 => ?_)
        · refine go_vret dX4_append_75 ?_
          exact absurd h38 hN
        · refine go_al0 dX4_append_41 (go_getR (j := 14) fX4_15 rfl rfl dX4_append_42 (go_il4 dX4_append_45 (go_il1 dX4_append_47 (go_iast rfl (gm_in h8 h18 (by decide)) dX4_append_48 (go_al0 dX4_append_49 (go_getR (j := 15) fX4_21 rfl rfl dX4_append_50 (go_il4 dX4_append_53 (go_il2 dX4_append_55 (go_iast rfl (gm_in h8 h18 (by decide)) dX4_append_56 (go_al0 dX4_append_57 (go_getR (j := 16) fX4_24 rfl rfl dX4_append_58 (go_il4 dX4_append_61 (go_il3 dX4_append_63 ?_)))))))))))))
          refine go_iast rfl (gm_in h8 h18 (by decide)) dX4_append_64 (go_al0 dX4_append_65 (go_dup dX4_append_66 rfl (go_getI fX4_27 rfl rfl dX4_append_67 (go_ic1 dX4_append_70 (go_iadd dX4_append_71 (go_putI fX4_27 rfl rfl dX4_append_72 ?_))))))
          refine go_vret dX4_append_75 ?_
          exact ⟨rfl, rfl⟩

set_option maxRecDepth 100000 in
set_option maxHeartbeats 400000 in
theorem sX4_no_13_loop (w wo : Int32) (μ : gm_M) {N : Nat} (hN : μ.1 13 3 = nI N) (hN2 : N < 2 ^ 31) : ∀ (k i : Nat) (d5 : Option Value), N - i = k → i ≤ N → Go yX4_nightsOf cX4_nightsOf 6 (some .int) 1 5 [some (.ref 13), some (.int w), some (.int wo), some (.int (cno (μ.1 14) (μ.1 15) 8 w wo i)), some (.int (nI i)), d5] [] μ (fun r μ' => r = some (.int (cno (μ.1 14) (μ.1 15) 8 w wo N)) ∧ μ' = μ) := by
  intro k
  induction k using Nat.strongRecOn with
  | ind k ih =>
    intro i d5 hk hj
    refine go_il4 dX4_nightsOf_5 (go_al0 dX4_nightsOf_7 (go_getI fX4_27 rfl rfl dX4_nightsOf_8 ?_))
    refine go_cge 67 dX4_nightsOf_11 (by decide) (fun h11 => ?_) (fun h11 => ?_)
    · have he : i = N := Nat.le_antisymm hj ((gm_bdN hN hN2 (by omega)).mp h11)
      refine go_il3 dX4_nightsOf_67 ?_
      refine go_iret dX4_nightsOf_68 ?_
      subst he
      exact ⟨rfl, rfl⟩
    · have hlt : i < N := Nat.not_le.mp (fun q => h11 ((gm_bdN hN hN2 (by omega)).mpr q))
      refine go_al0 dX4_nightsOf_14 (go_getR (j := 14) fX4_15 rfl rfl dX4_nightsOf_15 (go_il4 dX4_nightsOf_18 (go_icm1 dX4_nightsOf_20 (go_SN3r mcX11_itemOr mvX11_itemOr kX4_31 dX4_nightsOf_21 rfl rfl (sX11_itemOr rfl (by decide) _ _ _) (go_is5 dX4_nightsOf_24 rfl rfl (go_il4 dX4_nightsOf_26 (go_il2 dX4_nightsOf_28 ?_)))))))
      refine go_ceq 61 dX4_nightsOf_29 (by decide) (fun h29 => ?_) (fun h29 => ?_)
      · refine go_inc4 (k := 1) dX4_nightsOf_61 (by decide) rfl rfl (go_goto 5 dX4_nightsOf_64 (by decide) ?_)
        have h := fun d => ih (N - (i + 1)) (by omega) (i + 1) d rfl (by omega)
        simp only [cno, if_pos h29] at h
        rw [nI_1]
        with_reducible exact h _
      · refine go_al0 dX4_nightsOf_32 (go_getR (j := 15) fX4_21 rfl rfl dX4_nightsOf_33 (go_il4 dX4_nightsOf_36 (go_icm1 dX4_nightsOf_38 (go_SN3r mcX11_itemOr mvX11_itemOr kX4_31 dX4_nightsOf_39 rfl rfl (sX11_itemOr rfl (by decide) _ _ _) (go_il1 dX4_nightsOf_42 ?_)))))
        refine go_cne 61 dX4_nightsOf_43 (by decide) (fun h43 => ?_) (fun h43 => ?_)
        · refine go_inc4 (k := 1) dX4_nightsOf_61 (by decide) rfl rfl (go_goto 5 dX4_nightsOf_64 (by decide) ?_)
          have h := fun d => ih (N - (i + 1)) (by omega) (i + 1) d rfl (by omega)
          simp only [cno, if_neg h29, if_neg h43] at h
          rw [nI_1]
          with_reducible exact h _
        · refine go_il5 dX4_nightsOf_46 (go_SN1r mcX11_isNight mvX11_isNight kX4_35 dX4_nightsOf_48 rfl rfl (sX11_isNight _ _) ?_)
          refine go_ifeqB 61 dX4_nightsOf_51 (by decide) (fun h51 => ?_) (fun h51 => ?_)
          · refine go_inc4 (k := 1) dX4_nightsOf_61 (by decide) rfl rfl (go_goto 5 dX4_nightsOf_64 (by decide) ?_)
            have h := fun d => ih (N - (i + 1)) (by omega) (i + 1) d rfl (by omega)
            simp only [cno, if_neg h29, if_pos h43, if_neg (gf h51)] at h
            rw [nI_1]
            with_reducible exact h _
          · refine go_il3 dX4_nightsOf_54 (go_ic1 dX4_nightsOf_55 (go_il5 dX4_nightsOf_56 (go_ishl dX4_nightsOf_58 (go_ior dX4_nightsOf_59 (go_is3 dX4_nightsOf_60 rfl rfl (go_inc4 (k := 1) dX4_nightsOf_61 (by decide) rfl rfl (go_goto 5 dX4_nightsOf_64 (by decide) ?_)))))))
            have h := fun d => ih (N - (i + 1)) (by omega) (i + 1) d rfl (by omega)
            simp only [cno, if_neg h29, if_pos h43, if_pos h51] at h
            rw [nI_1]
            with_reducible exact h _

set_option maxRecDepth 100000 in
set_option maxHeartbeats 400000 in
theorem sX4_nightsOf_13 (w wo : Int32) (μ : gm_M) {N : Nat} (hN : μ.1 13 3 = nI N) (hN2 : N < 2 ^ 31) : Ret yX4_nightsOf cX4_nightsOf 6 (some .int) 1 [(.ref 13), (.int w), (.int wo)] μ (some (.int (cno (μ.1 14) (μ.1 15) 8 w wo N))) μ := by
  refine Sat.of (L := [some (.ref 13), some (.int w), some (.int wo), none, none, none]) (by decide) (fun _ => rfl) (fun _ => rfl) ?_
  refine go_ic0 dX4_nightsOf_0 (go_is3 dX4_nightsOf_1 rfl rfl (go_ic0 dX4_nightsOf_2 (go_is4 dX4_nightsOf_3 rfl rfl ?_)))
  exact sX4_no_13_loop w wo μ hN hN2 _ 0 _ rfl (by omega)

set_option maxRecDepth 100000 in
set_option maxHeartbeats 400000 in
theorem sX4_isFull_17 (μ : gm_M) : Ret yX4_isFull cX4_isFull 1 (some .boolean) 0 [(.ref 17)] μ (some (.int (gb (decide (¬ μ.1 17 3 < nI 4))))) μ := by
  refine Sat.of (L := [some (.ref 17)]) (by decide) (fun _ => rfl) (fun _ => rfl) ?_
  refine go_al0 dX4_isFull_0 (go_getI fX4_27 rfl rfl dX4_isFull_1 (go_al0 dX4_isFull_4 (go_getR (j := 18) fX4_15 rfl rfl dX4_isFull_5 (go_alenI rfl dX4_isFull_8 ?_))))
  refine go_clt 16 dX4_isFull_9 (by decide) (fun h9 => ?_) (fun h9 => ?_)
  · refine go_ic0 dX4_isFull_16 ?_
    refine go_zret dX4_isFull_17 rfl ?_
    exact ⟨by simp [gb, h9], rfl⟩
  · refine go_ic1 dX4_isFull_12 (go_goto 17 dX4_isFull_13 (by decide) ?_)
    refine go_zret dX4_isFull_17 rfl ?_
    exact ⟨by simp [gb, h9], rfl⟩

def cap17 (μ : gm_M) (x y z : Int32) : gm_M := gm_I (gm_I (gm_I (gm_I μ 18 (μ.1 17 3).toNatClampNeg x) 19 (μ.1 17 3).toNatClampNeg y) 20 (μ.1 17 3).toNatClampNeg z) 17 3 (μ.1 17 3 + 1)
set_option maxRecDepth 100000 in
set_option maxHeartbeats 400000 in
theorem sX4_append_17 (x y z : Int32) (μ : gm_M) (h0 : ¬ μ.1 17 3 < 0) (hN : ¬ nI 4 ≤ μ.1 17 3) : Ret yX4_append cX4_append 5 none 0 [(.ref 17), (.int x), (.int y), (.int z)] μ none (cap17 μ x y z) := by
  refine Sat.of (L := [some (.ref 17), some (.int x), some (.int y), some (.int z), none]) (by decide) (fun _ => rfl) (fun _ => rfl) ?_
  refine go_al0 dX4_append_0 (go_getI fX4_27 rfl rfl dX4_append_1 (go_is4 dX4_append_4 rfl rfl (go_il4 dX4_append_6 ?_)))
  refine go_iflt 75 dX4_append_8 (by decide) (fun h8 => ?_) (fun h8 => ?_)
  · refine go_vret dX4_append_75 ?_
    exact absurd h8 h0
  · refine go_il4 dX4_append_11 (go_al0 dX4_append_13 (go_getR (j := 18) fX4_15 rfl rfl dX4_append_14 (go_alenI rfl dX4_append_17 ?_)))
    refine go_cge 75 dX4_append_18 (by decide) (fun h18 => ?_) (fun h18 => ?_)
    · refine go_vret dX4_append_75 ?_
      exact absurd h18 hN
    · refine go_il4 dX4_append_21 (go_al0 dX4_append_23 (go_getR (j := 19) fX4_21 rfl rfl dX4_append_24 (go_alenI rfl dX4_append_27 ?_)))
      refine go_cge 75 dX4_append_28 (by decide) (fun h28 => ?_) (fun h28 => ?_)
      · refine go_vret dX4_append_75 ?_
        exact absurd h28 hN
      · refine go_il4 dX4_append_31 (go_al0 dX4_append_33 (go_getR (j := 20) fX4_24 rfl rfl dX4_append_34 (go_alenI rfl dX4_append_37 ?_)))
        refine go_cge 75 dX4_append_38 (by decide) (fun h38 => ?_) (fun h38 => ?_)
        · refine go_vret dX4_append_75 ?_
          exact absurd h38 hN
        · refine go_al0 dX4_append_41 (go_getR (j := 18) fX4_15 rfl rfl dX4_append_42 (go_il4 dX4_append_45 (go_il1 dX4_append_47 (go_iast rfl (gm_in h8 h18 (by decide)) dX4_append_48 (go_al0 dX4_append_49 (go_getR (j := 19) fX4_21 rfl rfl dX4_append_50 (go_il4 dX4_append_53 (go_il2 dX4_append_55 (go_iast rfl (gm_in h8 h18 (by decide)) dX4_append_56 (go_al0 dX4_append_57 (go_getR (j := 20) fX4_24 rfl rfl dX4_append_58 (go_il4 dX4_append_61 (go_il3 dX4_append_63 ?_)))))))))))))
          refine go_iast rfl (gm_in h8 h18 (by decide)) dX4_append_64 (go_al0 dX4_append_65 (go_dup dX4_append_66 rfl (go_getI fX4_27 rfl rfl dX4_append_67 (go_ic1 dX4_append_70 (go_iadd dX4_append_71 (go_putI fX4_27 rfl rfl dX4_append_72 ?_))))))
          refine go_vret dX4_append_75 ?_
          exact ⟨rfl, rfl⟩

set_option maxRecDepth 100000 in
set_option maxHeartbeats 400000 in
theorem sX4_no_17_loop (w wo : Int32) (μ : gm_M) {N : Nat} (hN : μ.1 17 3 = nI N) (hN2 : N < 2 ^ 31) : ∀ (k i : Nat) (d5 : Option Value), N - i = k → i ≤ N → Go yX4_nightsOf cX4_nightsOf 6 (some .int) 1 5 [some (.ref 17), some (.int w), some (.int wo), some (.int (cno (μ.1 18) (μ.1 19) 4 w wo i)), some (.int (nI i)), d5] [] μ (fun r μ' => r = some (.int (cno (μ.1 18) (μ.1 19) 4 w wo N)) ∧ μ' = μ) := by
  intro k
  induction k using Nat.strongRecOn with
  | ind k ih =>
    intro i d5 hk hj
    refine go_il4 dX4_nightsOf_5 (go_al0 dX4_nightsOf_7 (go_getI fX4_27 rfl rfl dX4_nightsOf_8 ?_))
    refine go_cge 67 dX4_nightsOf_11 (by decide) (fun h11 => ?_) (fun h11 => ?_)
    · have he : i = N := Nat.le_antisymm hj ((gm_bdN hN hN2 (by omega)).mp h11)
      refine go_il3 dX4_nightsOf_67 ?_
      refine go_iret dX4_nightsOf_68 ?_
      subst he
      exact ⟨rfl, rfl⟩
    · have hlt : i < N := Nat.not_le.mp (fun q => h11 ((gm_bdN hN hN2 (by omega)).mpr q))
      refine go_al0 dX4_nightsOf_14 (go_getR (j := 18) fX4_15 rfl rfl dX4_nightsOf_15 (go_il4 dX4_nightsOf_18 (go_icm1 dX4_nightsOf_20 (go_SN3r mcX11_itemOr mvX11_itemOr kX4_31 dX4_nightsOf_21 rfl rfl (sX11_itemOr rfl (by decide) _ _ _) (go_is5 dX4_nightsOf_24 rfl rfl (go_il4 dX4_nightsOf_26 (go_il2 dX4_nightsOf_28 ?_)))))))
      refine go_ceq 61 dX4_nightsOf_29 (by decide) (fun h29 => ?_) (fun h29 => ?_)
      · refine go_inc4 (k := 1) dX4_nightsOf_61 (by decide) rfl rfl (go_goto 5 dX4_nightsOf_64 (by decide) ?_)
        have h := fun d => ih (N - (i + 1)) (by omega) (i + 1) d rfl (by omega)
        simp only [cno, if_pos h29] at h
        rw [nI_1]
        with_reducible exact h _
      · refine go_al0 dX4_nightsOf_32 (go_getR (j := 19) fX4_21 rfl rfl dX4_nightsOf_33 (go_il4 dX4_nightsOf_36 (go_icm1 dX4_nightsOf_38 (go_SN3r mcX11_itemOr mvX11_itemOr kX4_31 dX4_nightsOf_39 rfl rfl (sX11_itemOr rfl (by decide) _ _ _) (go_il1 dX4_nightsOf_42 ?_)))))
        refine go_cne 61 dX4_nightsOf_43 (by decide) (fun h43 => ?_) (fun h43 => ?_)
        · refine go_inc4 (k := 1) dX4_nightsOf_61 (by decide) rfl rfl (go_goto 5 dX4_nightsOf_64 (by decide) ?_)
          have h := fun d => ih (N - (i + 1)) (by omega) (i + 1) d rfl (by omega)
          simp only [cno, if_neg h29, if_neg h43] at h
          rw [nI_1]
          with_reducible exact h _
        · refine go_il5 dX4_nightsOf_46 (go_SN1r mcX11_isNight mvX11_isNight kX4_35 dX4_nightsOf_48 rfl rfl (sX11_isNight _ _) ?_)
          refine go_ifeqB 61 dX4_nightsOf_51 (by decide) (fun h51 => ?_) (fun h51 => ?_)
          · refine go_inc4 (k := 1) dX4_nightsOf_61 (by decide) rfl rfl (go_goto 5 dX4_nightsOf_64 (by decide) ?_)
            have h := fun d => ih (N - (i + 1)) (by omega) (i + 1) d rfl (by omega)
            simp only [cno, if_neg h29, if_pos h43, if_neg (gf h51)] at h
            rw [nI_1]
            with_reducible exact h _
          · refine go_il3 dX4_nightsOf_54 (go_ic1 dX4_nightsOf_55 (go_il5 dX4_nightsOf_56 (go_ishl dX4_nightsOf_58 (go_ior dX4_nightsOf_59 (go_is3 dX4_nightsOf_60 rfl rfl (go_inc4 (k := 1) dX4_nightsOf_61 (by decide) rfl rfl (go_goto 5 dX4_nightsOf_64 (by decide) ?_)))))))
            have h := fun d => ih (N - (i + 1)) (by omega) (i + 1) d rfl (by omega)
            simp only [cno, if_neg h29, if_pos h43, if_pos h51] at h
            rw [nI_1]
            with_reducible exact h _

set_option maxRecDepth 100000 in
set_option maxHeartbeats 400000 in
theorem sX4_nightsOf_17 (w wo : Int32) (μ : gm_M) {N : Nat} (hN : μ.1 17 3 = nI N) (hN2 : N < 2 ^ 31) : Ret yX4_nightsOf cX4_nightsOf 6 (some .int) 1 [(.ref 17), (.int w), (.int wo)] μ (some (.int (cno (μ.1 18) (μ.1 19) 4 w wo N))) μ := by
  refine Sat.of (L := [some (.ref 17), some (.int w), some (.int wo), none, none, none]) (by decide) (fun _ => rfl) (fun _ => rfl) ?_
  refine go_ic0 dX4_nightsOf_0 (go_is3 dX4_nightsOf_1 rfl rfl (go_ic0 dX4_nightsOf_2 (go_is4 dX4_nightsOf_3 rfl rfl ?_)))
  exact sX4_no_17_loop w wo μ hN hN2 _ 0 _ rfl (by omega)

set_option maxRecDepth 100000 in
set_option maxHeartbeats 400000 in
theorem sX4_isFull_21 (μ : gm_M) : Ret yX4_isFull cX4_isFull 1 (some .boolean) 0 [(.ref 21)] μ (some (.int (gb (decide (¬ μ.1 21 3 < nI 8))))) μ := by
  refine Sat.of (L := [some (.ref 21)]) (by decide) (fun _ => rfl) (fun _ => rfl) ?_
  refine go_al0 dX4_isFull_0 (go_getI fX4_27 rfl rfl dX4_isFull_1 (go_al0 dX4_isFull_4 (go_getR (j := 22) fX4_15 rfl rfl dX4_isFull_5 (go_alenI rfl dX4_isFull_8 ?_))))
  refine go_clt 16 dX4_isFull_9 (by decide) (fun h9 => ?_) (fun h9 => ?_)
  · refine go_ic0 dX4_isFull_16 ?_
    refine go_zret dX4_isFull_17 rfl ?_
    exact ⟨by simp [gb, h9], rfl⟩
  · refine go_ic1 dX4_isFull_12 (go_goto 17 dX4_isFull_13 (by decide) ?_)
    refine go_zret dX4_isFull_17 rfl ?_
    exact ⟨by simp [gb, h9], rfl⟩

def cap21 (μ : gm_M) (x y z : Int32) : gm_M := gm_I (gm_I (gm_I (gm_I μ 22 (μ.1 21 3).toNatClampNeg x) 23 (μ.1 21 3).toNatClampNeg y) 24 (μ.1 21 3).toNatClampNeg z) 21 3 (μ.1 21 3 + 1)
set_option maxRecDepth 100000 in
set_option maxHeartbeats 400000 in
theorem sX4_append_21 (x y z : Int32) (μ : gm_M) (h0 : ¬ μ.1 21 3 < 0) (hN : ¬ nI 8 ≤ μ.1 21 3) : Ret yX4_append cX4_append 5 none 0 [(.ref 21), (.int x), (.int y), (.int z)] μ none (cap21 μ x y z) := by
  refine Sat.of (L := [some (.ref 21), some (.int x), some (.int y), some (.int z), none]) (by decide) (fun _ => rfl) (fun _ => rfl) ?_
  refine go_al0 dX4_append_0 (go_getI fX4_27 rfl rfl dX4_append_1 (go_is4 dX4_append_4 rfl rfl (go_il4 dX4_append_6 ?_)))
  refine go_iflt 75 dX4_append_8 (by decide) (fun h8 => ?_) (fun h8 => ?_)
  · refine go_vret dX4_append_75 ?_
    exact absurd h8 h0
  · refine go_il4 dX4_append_11 (go_al0 dX4_append_13 (go_getR (j := 22) fX4_15 rfl rfl dX4_append_14 (go_alenI rfl dX4_append_17 ?_)))
    refine go_cge 75 dX4_append_18 (by decide) (fun h18 => ?_) (fun h18 => ?_)
    · refine go_vret dX4_append_75 ?_
      exact absurd h18 hN
    · refine go_il4 dX4_append_21 (go_al0 dX4_append_23 (go_getR (j := 23) fX4_21 rfl rfl dX4_append_24 (go_alenI rfl dX4_append_27 ?_)))
      refine go_cge 75 dX4_append_28 (by decide) (fun h28 => ?_) (fun h28 => ?_)
      · refine go_vret dX4_append_75 ?_
        exact absurd h28 hN
      · refine go_il4 dX4_append_31 (go_al0 dX4_append_33 (go_getR (j := 24) fX4_24 rfl rfl dX4_append_34 (go_alenI rfl dX4_append_37 ?_)))
        refine go_cge 75 dX4_append_38 (by decide) (fun h38 => ?_) (fun h38 => ?_)
        · refine go_vret dX4_append_75 ?_
          exact absurd h38 hN
        · refine go_al0 dX4_append_41 (go_getR (j := 22) fX4_15 rfl rfl dX4_append_42 (go_il4 dX4_append_45 (go_il1 dX4_append_47 (go_iast rfl (gm_in h8 h18 (by decide)) dX4_append_48 (go_al0 dX4_append_49 (go_getR (j := 23) fX4_21 rfl rfl dX4_append_50 (go_il4 dX4_append_53 (go_il2 dX4_append_55 (go_iast rfl (gm_in h8 h18 (by decide)) dX4_append_56 (go_al0 dX4_append_57 (go_getR (j := 24) fX4_24 rfl rfl dX4_append_58 (go_il4 dX4_append_61 (go_il3 dX4_append_63 ?_)))))))))))))
          refine go_iast rfl (gm_in h8 h18 (by decide)) dX4_append_64 (go_al0 dX4_append_65 (go_dup dX4_append_66 rfl (go_getI fX4_27 rfl rfl dX4_append_67 (go_ic1 dX4_append_70 (go_iadd dX4_append_71 (go_putI fX4_27 rfl rfl dX4_append_72 ?_))))))
          refine go_vret dX4_append_75 ?_
          exact ⟨rfl, rfl⟩

set_option maxRecDepth 100000 in
set_option maxHeartbeats 400000 in
theorem sX4_no_21_loop (w wo : Int32) (μ : gm_M) {N : Nat} (hN : μ.1 21 3 = nI N) (hN2 : N < 2 ^ 31) : ∀ (k i : Nat) (d5 : Option Value), N - i = k → i ≤ N → Go yX4_nightsOf cX4_nightsOf 6 (some .int) 1 5 [some (.ref 21), some (.int w), some (.int wo), some (.int (cno (μ.1 22) (μ.1 23) 8 w wo i)), some (.int (nI i)), d5] [] μ (fun r μ' => r = some (.int (cno (μ.1 22) (μ.1 23) 8 w wo N)) ∧ μ' = μ) := by
  intro k
  induction k using Nat.strongRecOn with
  | ind k ih =>
    intro i d5 hk hj
    refine go_il4 dX4_nightsOf_5 (go_al0 dX4_nightsOf_7 (go_getI fX4_27 rfl rfl dX4_nightsOf_8 ?_))
    refine go_cge 67 dX4_nightsOf_11 (by decide) (fun h11 => ?_) (fun h11 => ?_)
    · have he : i = N := Nat.le_antisymm hj ((gm_bdN hN hN2 (by omega)).mp h11)
      refine go_il3 dX4_nightsOf_67 ?_
      refine go_iret dX4_nightsOf_68 ?_
      subst he
      exact ⟨rfl, rfl⟩
    · have hlt : i < N := Nat.not_le.mp (fun q => h11 ((gm_bdN hN hN2 (by omega)).mpr q))
      refine go_al0 dX4_nightsOf_14 (go_getR (j := 22) fX4_15 rfl rfl dX4_nightsOf_15 (go_il4 dX4_nightsOf_18 (go_icm1 dX4_nightsOf_20 (go_SN3r mcX11_itemOr mvX11_itemOr kX4_31 dX4_nightsOf_21 rfl rfl (sX11_itemOr rfl (by decide) _ _ _) (go_is5 dX4_nightsOf_24 rfl rfl (go_il4 dX4_nightsOf_26 (go_il2 dX4_nightsOf_28 ?_)))))))
      refine go_ceq 61 dX4_nightsOf_29 (by decide) (fun h29 => ?_) (fun h29 => ?_)
      · refine go_inc4 (k := 1) dX4_nightsOf_61 (by decide) rfl rfl (go_goto 5 dX4_nightsOf_64 (by decide) ?_)
        have h := fun d => ih (N - (i + 1)) (by omega) (i + 1) d rfl (by omega)
        simp only [cno, if_pos h29] at h
        rw [nI_1]
        with_reducible exact h _
      · refine go_al0 dX4_nightsOf_32 (go_getR (j := 23) fX4_21 rfl rfl dX4_nightsOf_33 (go_il4 dX4_nightsOf_36 (go_icm1 dX4_nightsOf_38 (go_SN3r mcX11_itemOr mvX11_itemOr kX4_31 dX4_nightsOf_39 rfl rfl (sX11_itemOr rfl (by decide) _ _ _) (go_il1 dX4_nightsOf_42 ?_)))))
        refine go_cne 61 dX4_nightsOf_43 (by decide) (fun h43 => ?_) (fun h43 => ?_)
        · refine go_inc4 (k := 1) dX4_nightsOf_61 (by decide) rfl rfl (go_goto 5 dX4_nightsOf_64 (by decide) ?_)
          have h := fun d => ih (N - (i + 1)) (by omega) (i + 1) d rfl (by omega)
          simp only [cno, if_neg h29, if_neg h43] at h
          rw [nI_1]
          with_reducible exact h _
        · refine go_il5 dX4_nightsOf_46 (go_SN1r mcX11_isNight mvX11_isNight kX4_35 dX4_nightsOf_48 rfl rfl (sX11_isNight _ _) ?_)
          refine go_ifeqB 61 dX4_nightsOf_51 (by decide) (fun h51 => ?_) (fun h51 => ?_)
          · refine go_inc4 (k := 1) dX4_nightsOf_61 (by decide) rfl rfl (go_goto 5 dX4_nightsOf_64 (by decide) ?_)
            have h := fun d => ih (N - (i + 1)) (by omega) (i + 1) d rfl (by omega)
            simp only [cno, if_neg h29, if_pos h43, if_neg (gf h51)] at h
            rw [nI_1]
            with_reducible exact h _
          · refine go_il3 dX4_nightsOf_54 (go_ic1 dX4_nightsOf_55 (go_il5 dX4_nightsOf_56 (go_ishl dX4_nightsOf_58 (go_ior dX4_nightsOf_59 (go_is3 dX4_nightsOf_60 rfl rfl (go_inc4 (k := 1) dX4_nightsOf_61 (by decide) rfl rfl (go_goto 5 dX4_nightsOf_64 (by decide) ?_)))))))
            have h := fun d => ih (N - (i + 1)) (by omega) (i + 1) d rfl (by omega)
            simp only [cno, if_neg h29, if_pos h43, if_pos h51] at h
            rw [nI_1]
            with_reducible exact h _

set_option maxRecDepth 100000 in
set_option maxHeartbeats 400000 in
theorem sX4_nightsOf_21 (w wo : Int32) (μ : gm_M) {N : Nat} (hN : μ.1 21 3 = nI N) (hN2 : N < 2 ^ 31) : Ret yX4_nightsOf cX4_nightsOf 6 (some .int) 1 [(.ref 21), (.int w), (.int wo)] μ (some (.int (cno (μ.1 22) (μ.1 23) 8 w wo N))) μ := by
  refine Sat.of (L := [some (.ref 21), some (.int w), some (.int wo), none, none, none]) (by decide) (fun _ => rfl) (fun _ => rfl) ?_
  refine go_ic0 dX4_nightsOf_0 (go_is3 dX4_nightsOf_1 rfl rfl (go_ic0 dX4_nightsOf_2 (go_is4 dX4_nightsOf_3 rfl rfl ?_)))
  exact sX4_no_21_loop w wo μ hN hN2 _ 0 _ rfl (by omega)

set_option maxRecDepth 100000 in
set_option maxHeartbeats 400000 in
theorem sX8_isFull_2 (μ : gm_M) : Ret yX8_isFull cX8_isFull 1 (some .boolean) 0 [(.ref 2)] μ (some (.int (gb (decide (¬ μ.1 2 1 < nI 71))))) μ := by
  refine Sat.of (L := [some (.ref 2)]) (by decide) (fun _ => rfl) (fun _ => rfl) ?_
  refine go_al0 dX8_isFull_0 (go_getI fX8_21 rfl rfl dX8_isFull_1 (go_al0 dX8_isFull_4 (go_getR (j := 3) fX8_15 rfl rfl dX8_isFull_5 (go_alenI rfl dX8_isFull_8 ?_))))
  refine go_clt 16 dX8_isFull_9 (by decide) (fun h9 => ?_) (fun h9 => ?_)
  · refine go_ic0 dX8_isFull_16 ?_
    refine go_zret dX8_isFull_17 rfl ?_
    exact ⟨by simp [gb, h9], rfl⟩
  · refine go_ic1 dX8_isFull_12 (go_goto 17 dX8_isFull_13 (by decide) ?_)
    refine go_zret dX8_isFull_17 rfl ?_
    exact ⟨by simp [gb, h9], rfl⟩

set_option maxRecDepth 100000 in
set_option maxHeartbeats 400000 in
theorem sX8_append_2 (b : Int32) (μ : gm_M) (h0 : ¬ μ.1 2 1 < 0) (hN : ¬ nI 71 ≤ μ.1 2 1) : Ret yX8_append cX8_append 2 none 0 [(.ref 2), (.int b)] μ none (gm_I (gm_I μ 3 (μ.1 2 1).toNatClampNeg b) 2 1 (μ.1 2 1 + 1)) := by
  refine Sat.of (L := [some (.ref 2), some (.int b)]) (by decide) (fun _ => rfl) (fun _ => rfl) ?_
  refine go_al0 dX8_append_0 (go_getI fX8_21 rfl rfl dX8_append_1 ?_)
  refine go_iflt 39 dX8_append_4 (by decide) (fun h4 => ?_) (fun h4 => ?_)
  · refine go_vret dX8_append_39 ?_
    exact absurd h4 h0
  · refine go_al0 dX8_append_7 (go_getI fX8_21 rfl rfl dX8_append_8 (go_al0 dX8_append_11 (go_getR (j := 3) fX8_15 rfl rfl dX8_append_12 (go_alenI rfl dX8_append_15 ?_))))
    refine go_cge 39 dX8_append_16 (by decide) (fun h16 => ?_) (fun h16 => ?_)
    · refine go_vret dX8_append_39 ?_
      exact absurd h16 hN
    · refine go_al0 dX8_append_19 (go_getR (j := 3) fX8_15 rfl rfl dX8_append_20 (go_al0 dX8_append_23 (go_getI fX8_21 rfl rfl dX8_append_24 (go_il1 dX8_append_27 (go_iast rfl (gm_in h4 h16 (by decide)) dX8_append_28 (go_al0 dX8_append_29 (go_dup dX8_append_30 rfl (go_getI fX8_21 rfl rfl dX8_append_31 (go_ic1 dX8_append_34 (go_iadd dX8_append_35 (go_putI fX8_21 rfl rfl dX8_append_36 ?_)))))))))))
      refine go_vret dX8_append_39 ?_
      exact ⟨rfl, rfl⟩

set_option maxRecDepth 100000 in
set_option maxHeartbeats 400000 in
theorem sX8_byteAt_2 (i : Int32) (μ : gm_M) : Ret yX8_byteAt cX8_byteAt 2 (some .int) 1 [(.ref 2), (.int i)] μ (some (.int (gi (μ.1 3) 71 i (-1)))) μ := by
  refine Sat.of (L := [some (.ref 2), some (.int i)]) (by decide) (fun _ => rfl) (fun _ => rfl) ?_
  refine go_al0 dX8_byteAt_0 (go_getR (j := 3) fX8_15 rfl rfl dX8_byteAt_1 (go_il1 dX8_byteAt_4 (go_icm1 dX8_byteAt_5 (go_SN3r mcX11_itemOr mvX11_itemOr kX8_25 dX8_byteAt_6 rfl rfl (sX11_itemOr rfl (by decide) _ _ _) ?_))))
  refine go_iret dX8_byteAt_9 ?_
  exact ⟨rfl, rfl⟩

set_option maxRecDepth 100000 in
set_option maxHeartbeats 400000 in
theorem sX8_isFull_4 (μ : gm_M) : Ret yX8_isFull cX8_isFull 1 (some .boolean) 0 [(.ref 4)] μ (some (.int (gb (decide (¬ μ.1 4 1 < nI 30))))) μ := by
  refine Sat.of (L := [some (.ref 4)]) (by decide) (fun _ => rfl) (fun _ => rfl) ?_
  refine go_al0 dX8_isFull_0 (go_getI fX8_21 rfl rfl dX8_isFull_1 (go_al0 dX8_isFull_4 (go_getR (j := 5) fX8_15 rfl rfl dX8_isFull_5 (go_alenI rfl dX8_isFull_8 ?_))))
  refine go_clt 16 dX8_isFull_9 (by decide) (fun h9 => ?_) (fun h9 => ?_)
  · refine go_ic0 dX8_isFull_16 ?_
    refine go_zret dX8_isFull_17 rfl ?_
    exact ⟨by simp [gb, h9], rfl⟩
  · refine go_ic1 dX8_isFull_12 (go_goto 17 dX8_isFull_13 (by decide) ?_)
    refine go_zret dX8_isFull_17 rfl ?_
    exact ⟨by simp [gb, h9], rfl⟩

set_option maxRecDepth 100000 in
set_option maxHeartbeats 400000 in
theorem sX8_append_4 (b : Int32) (μ : gm_M) (h0 : ¬ μ.1 4 1 < 0) (hN : ¬ nI 30 ≤ μ.1 4 1) : Ret yX8_append cX8_append 2 none 0 [(.ref 4), (.int b)] μ none (gm_I (gm_I μ 5 (μ.1 4 1).toNatClampNeg b) 4 1 (μ.1 4 1 + 1)) := by
  refine Sat.of (L := [some (.ref 4), some (.int b)]) (by decide) (fun _ => rfl) (fun _ => rfl) ?_
  refine go_al0 dX8_append_0 (go_getI fX8_21 rfl rfl dX8_append_1 ?_)
  refine go_iflt 39 dX8_append_4 (by decide) (fun h4 => ?_) (fun h4 => ?_)
  · refine go_vret dX8_append_39 ?_
    exact absurd h4 h0
  · refine go_al0 dX8_append_7 (go_getI fX8_21 rfl rfl dX8_append_8 (go_al0 dX8_append_11 (go_getR (j := 5) fX8_15 rfl rfl dX8_append_12 (go_alenI rfl dX8_append_15 ?_))))
    refine go_cge 39 dX8_append_16 (by decide) (fun h16 => ?_) (fun h16 => ?_)
    · refine go_vret dX8_append_39 ?_
      exact absurd h16 hN
    · refine go_al0 dX8_append_19 (go_getR (j := 5) fX8_15 rfl rfl dX8_append_20 (go_al0 dX8_append_23 (go_getI fX8_21 rfl rfl dX8_append_24 (go_il1 dX8_append_27 (go_iast rfl (gm_in h4 h16 (by decide)) dX8_append_28 (go_al0 dX8_append_29 (go_dup dX8_append_30 rfl (go_getI fX8_21 rfl rfl dX8_append_31 (go_ic1 dX8_append_34 (go_iadd dX8_append_35 (go_putI fX8_21 rfl rfl dX8_append_36 ?_)))))))))))
      refine go_vret dX8_append_39 ?_
      exact ⟨rfl, rfl⟩

set_option maxRecDepth 100000 in
set_option maxHeartbeats 400000 in
theorem sX8_byteAt_4 (i : Int32) (μ : gm_M) : Ret yX8_byteAt cX8_byteAt 2 (some .int) 1 [(.ref 4), (.int i)] μ (some (.int (gi (μ.1 5) 30 i (-1)))) μ := by
  refine Sat.of (L := [some (.ref 4), some (.int i)]) (by decide) (fun _ => rfl) (fun _ => rfl) ?_
  refine go_al0 dX8_byteAt_0 (go_getR (j := 5) fX8_15 rfl rfl dX8_byteAt_1 (go_il1 dX8_byteAt_4 (go_icm1 dX8_byteAt_5 (go_SN3r mcX11_itemOr mvX11_itemOr kX8_25 dX8_byteAt_6 rfl rfl (sX11_itemOr rfl (by decide) _ _ _) ?_))))
  refine go_iret dX8_byteAt_9 ?_
  exact ⟨rfl, rfl⟩

def csren (μ : gm_M) (c q : Nat) (f n : Int32) : gm_M := gm_I (gm_I (gm_I (gm_fill μ q 60 0) c 1 0) c 2 f) c 3 n
def csnar (f v : Int32) : Int32 := if f = 0 then v.toInt8.toInt32 else if f = 1 then v.toInt16.toInt32 else v
def csholds (z i n : Int32) : Bool := decide (¬ i < 0) && (decide (¬ n < 0) && (decide (¬ z < i) && (decide (¬ z - i < n) && decide (¬ nI 60 < z))))
set_option maxRecDepth 100000 in
set_option maxHeartbeats 400000 in
theorem sX6_renew {c q : Nat} (hs : gm_sh c = some (.inr (6, [q + 2, 0, 0, 0]))) (hq : gm_sh q = some (.inl (0, 60))) (f n : Int32) (μ : gm_M) : Ret yX6_renew cX6_renew 3 none 1 [(.ref c), (.int f), (.int n)] μ none (csren μ c q f n) := by
  refine Sat.of (L := [some (.ref c), some (.int f), some (.int n)]) (by decide) (fun _ => rfl) (fun _ => rfl) ?_
  refine go_al0 dX6_renew_0 (go_getR (j := q) fX6_9 hs rfl dX6_renew_1 (go_ic0 dX6_renew_4 (go_S2v mcJ7_fill_53178 mvJ7_fill_53178 kX6_19 dX6_renew_5 rfl rfl (sJ7_fillI hq (by decide) _ _) (go_al0 dX6_renew_8 (go_ic0 dX6_renew_9 (go_putZ0 fX6_15 hs rfl dX6_renew_10 (go_al0 dX6_renew_13 (go_il1 dX6_renew_14 (go_putI fX6_25 hs rfl dX6_renew_15 (go_al0 dX6_renew_18 (go_il2 dX6_renew_19 (go_putI fX6_29 hs rfl dX6_renew_20 ?_))))))))))))
  refine go_vret dX6_renew_23 ?_
  exact ⟨rfl, rfl⟩

set_option maxRecDepth 100000 in
set_option maxHeartbeats 400000 in
theorem sX6_holds {c q : Nat} (hs : gm_sh c = some (.inr (6, [q + 2, 0, 0, 0]))) (hq : gm_sh q = some (.inl (0, 60))) (i n : Int32) (μ : gm_M) : Ret yX6_holds cX6_holds 3 (some .boolean) 0 [(.ref c), (.int i), (.int n)] μ (some (.int (gb (csholds (μ.1 c 3) i n)))) μ := by
  refine Sat.of (L := [some (.ref c), some (.int i), some (.int n)]) (by decide) (fun _ => rfl) (fun _ => rfl) ?_
  refine go_il1 dX6_holds_0 ?_
  refine go_iflt 42 dX6_holds_1 (by decide) (fun h1 => ?_) (fun h1 => ?_)
  · refine go_ic0 dX6_holds_42 ?_
    refine go_zret dX6_holds_43 rfl ?_
    exact ⟨by simp [csholds, gb, h1], rfl⟩
  · refine go_il2 dX6_holds_4 ?_
    refine go_iflt 42 dX6_holds_5 (by decide) (fun h5 => ?_) (fun h5 => ?_)
    · refine go_ic0 dX6_holds_42 ?_
      refine go_zret dX6_holds_43 rfl ?_
      exact ⟨by simp [csholds, gb, h1, h5], rfl⟩
    · refine go_il1 dX6_holds_8 (go_al0 dX6_holds_9 (go_getI fX6_29 hs rfl dX6_holds_10 ?_))
      refine go_cgt 42 dX6_holds_13 (by decide) (fun h13 => ?_) (fun h13 => ?_)
      · refine go_ic0 dX6_holds_42 ?_
        refine go_zret dX6_holds_43 rfl ?_
        exact ⟨by simp [csholds, gb, h1, h5, h13], rfl⟩
      · refine go_il2 dX6_holds_16 (go_al0 dX6_holds_17 (go_getI fX6_29 hs rfl dX6_holds_18 (go_il1 dX6_holds_21 (go_isub dX6_holds_22 ?_))))
        refine go_cgt 42 dX6_holds_23 (by decide) (fun h23 => ?_) (fun h23 => ?_)
        · refine go_ic0 dX6_holds_42 ?_
          refine go_zret dX6_holds_43 rfl ?_
          exact ⟨by simp [csholds, gb, h1, h5, h13, h23], rfl⟩
        · refine go_al0 dX6_holds_26 (go_getI fX6_29 hs rfl dX6_holds_27 (go_al0 dX6_holds_30 (go_getR (j := q) fX6_9 hs rfl dX6_holds_31 (go_alenI hq dX6_holds_34 ?_))))
          refine go_cgt 42 dX6_holds_35 (by decide) (fun h35 => ?_) (fun h35 => ?_)
          · refine go_ic0 dX6_holds_42 ?_
            refine go_zret dX6_holds_43 rfl ?_
            exact ⟨by simp [csholds, gb, h1, h5, h13, h23, h35], rfl⟩
          · refine go_ic1 dX6_holds_38 (go_goto 43 dX6_holds_39 (by decide) ?_)
            refine go_zret dX6_holds_43 rfl ?_
            exact ⟨by simp [csholds, gb, h1, h5, h13, h23, h35], rfl⟩

set_option maxRecDepth 100000 in
set_option maxHeartbeats 400000 in
theorem sX6_itemAt {c q : Nat} (hs : gm_sh c = some (.inr (6, [q + 2, 0, 0, 0]))) (hq : gm_sh q = some (.inl (0, 60))) (i : Int32) (μ : gm_M) : Ret yX6_itemAt cX6_itemAt 2 (some .int) 1 [(.ref c), (.int i)] μ (some (.int (gi (μ.1 q) 60 i 0))) μ := by
  refine Sat.of (L := [some (.ref c), some (.int i)]) (by decide) (fun _ => rfl) (fun _ => rfl) ?_
  refine go_al0 dX6_itemAt_0 (go_getR (j := q) fX6_9 hs rfl dX6_itemAt_1 (go_il1 dX6_itemAt_4 (go_ic0 dX6_itemAt_5 (go_SN3r mcX11_itemOr mvX11_itemOr kX6_32 dX6_itemAt_6 rfl rfl (sX11_itemOr hq (by decide) _ _ _) ?_))))
  refine go_iret dX6_itemAt_9 ?_
  exact ⟨rfl, rfl⟩

set_option maxRecDepth 100000 in
set_option maxHeartbeats 400000 in
theorem sX6_place {c q : Nat} (hs : gm_sh c = some (.inr (6, [q + 2, 0, 0, 0]))) (hq : gm_sh q = some (.inl (0, 60))) {j : Nat} (hj : j < 60) (v : Int32) (μ : gm_M) : Ret yX6_place cX6_place 3 none 0 [(.ref c), (.int (nI j)), (.int v)] μ none (gm_I μ q j (csnar (μ.1 c 2) v)) := by
  refine Sat.of (L := [some (.ref c), some (.int (nI j)), some (.int v)]) (by decide) (fun _ => rfl) (fun _ => rfl) ?_
  refine go_il1 dX6_place_0 ?_
  refine go_iflt 45 dX6_place_1 (by decide) (fun h1 => ?_) (fun h1 => ?_)
  · refine go_vret dX6_place_45 ?_
    exact absurd h1 (nI_pos (by omega))
  · refine go_il1 dX6_place_4 (go_al0 dX6_place_5 (go_getR (j := q) fX6_9 hs rfl dX6_place_6 (go_alenI hq dX6_place_9 ?_)))
    refine go_cge 45 dX6_place_10 (by decide) (fun h10 => ?_) (fun h10 => ?_)
    · refine go_vret dX6_place_45 ?_
      exact absurd h10 (nI_ge hj (by decide))
    · refine go_al0 dX6_place_13 (go_getR (j := q) fX6_9 hs rfl dX6_place_14 (go_il1 dX6_place_17 (go_al0 dX6_place_18 (go_getI fX6_25 hs rfl dX6_place_19 ?_))))
      refine go_ifne 30 dX6_place_22 (by decide) (fun h22 => ?_) (fun h22 => ?_)
      · refine go_al0 dX6_place_30 (go_getI fX6_25 hs rfl dX6_place_31 (go_ic1 dX6_place_34 ?_))
        refine go_cne 43 dX6_place_35 (by decide) (fun h35 => ?_) (fun h35 => ?_)
        · refine go_il2 dX6_place_43 (go_iast hq (vp_in_nI hj (by decide)) dX6_place_44 ?_)
          refine go_vret dX6_place_45 ?_
          refine ⟨rfl, ?_⟩
          rw [nI_clamp (by omega)]
          simp only [csnar, if_neg h22, if_neg h35]
        · refine go_il2 dX6_place_38 (go_i2s dX6_place_39 (go_goto 44 dX6_place_40 (by decide) (go_iast hq (vp_in_nI hj (by decide)) dX6_place_44 ?_)))
          refine go_vret dX6_place_45 ?_
          refine ⟨rfl, ?_⟩
          rw [nI_clamp (by omega)]
          simp only [csnar, if_neg h22, if_pos h35]
      · refine go_il2 dX6_place_25 (go_i2b dX6_place_26 (go_goto 44 dX6_place_27 (by decide) (go_iast hq (vp_in_nI hj (by decide)) dX6_place_44 ?_)))
        refine go_vret dX6_place_45 ?_
        refine ⟨rfl, ?_⟩
        rw [nI_clamp (by omega)]
        simp only [csnar, if_pos h22]

