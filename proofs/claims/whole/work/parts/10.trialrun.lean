theorem gf {b : Bool} (h : b = false) : ¬ b = true := by rw [h]; exact Bool.false_ne_true
theorem gm_bdN {x : Int32} {N j : Nat} (hx : x = nI N) (hN : N < 2 ^ 31) (hj : j < 2 ^ 31) : x ≤ nI j ↔ N ≤ j := by rw [hx]; exact nI_leI hN hj
def crun_b (j : Nat) (p : Int32 × gm_M) : Int32 × gm_M :=
  if nI j < p.2.1 25 7 then (p.1, cnote p.2 j p.1 (-1) (if p.2.1 25 14 = 0 then 0 else 4))
  else if p.2.1 25 14 = 0 then
    let a := p.1 + cgrow p.2 (nI j) (gi (p.2.1 27) 30 (nI j) 5)
    let m1 := gm_I p.2 25 14 (gb (ceat p.2 (cmom p.2 a)))
    (a, cnote m1 j a (cmom p.2 a) (if cmom p.2 a = -1 then 2 else if m1.1 25 14 = 0 then 1 else 3))
  else (p.1, cnote p.2 j p.1 (-1) 4)
/-- run(): the age and the memory before night n -/
def crun (μ : gm_M) : Nat → Int32 × gm_M
  | 0 => (0, gm_I (gm_I μ 25 13 0) 25 14 0)
  | n + 1 => crun_b n (crun μ n)
def csoleL (μ : gm_M) : Nat → Nat → Int32 → Option Int32
  | 0, _, age => some age
  | k + 1, n, age => if cmom μ (age + cgrow μ (nI n) (gi (μ.1 27) 30 (nI n) 5)) = -1 ∨ ceat μ (cmom μ (age + cgrow μ (nI n) (gi (μ.1 27) 30 (nI n) 5))) = true then none else csoleL μ k (n + 1) (age + cgrow μ (nI n) (gi (μ.1 27) 30 (nI n) 5))
def csoleF (μ : gm_M) (f x : Nat) : Option Int32 → Int32
  | none => -1
  | some a => if x < f then -1 else cmom μ (a + cgrow μ (nI x) (gi (μ.1 27) 30 (nI x) 5))
def csole (μ : gm_M) (f x : Nat) : Int32 := csoleF μ f x (csoleL μ (x - f) f 0)
def clongL (μ : gm_M) : Nat → Nat → Int32 → Int32 → Int32
  | 0, _, _, many => many
  | k + 1, n, age, many => if cmom μ (age + cgrow μ (nI n) (gi (μ.1 27) 30 (nI n) 5)) = -1 then many else if ceat μ (cmom μ (age + cgrow μ (nI n) (gi (μ.1 27) 30 (nI n) 5))) = true then many + 1 else clongL μ k (n + 1) (age + cgrow μ (nI n) (gi (μ.1 27) 30 (nI n) 5)) (many + 1)
def cscrL (μ : gm_M) : Nat → Nat → Int32
  | 0, _ => -1
  | k + 1, j => if gon (μ.1 25 12) (gi (μ.1 29) 30 (nI j) (-1)) = true then nI j else cscrL μ k (j + 1)
set_option maxRecDepth 100000 in
set_option maxHeartbeats 400000 in
theorem sX9_run_loop (μ : gm_M) : ∀ (k j : Nat) (d3 : Option Value), 30 - j = k → j ≤ 30 → Go yX9_run cX9_run 4 none 2 14 [some (.ref 25), some (.int (crun μ j).1), some (.int (nI j)), d3] [] (crun μ j).2 (fun r μ' => r = none ∧ μ' = (crun μ 30).2) := by
  intro k
  induction k using Nat.strongRecOn with
  | ind k ih =>
    intro j d3 hk hj
    refine go_il2 dX9_run_14 (go_bipush (v := 30) dX9_run_15 (by decide) ?_)
    refine go_cge 119 dX9_run_17 (by decide) (fun h17 => ?_) (fun h17 => ?_)
    · have he : j = 30 := Nat.le_antisymm hj ((gm_bdN (by decide) (by decide) (by omega)).mp h17)
      refine go_vret dX9_run_119 ?_
      subst he
      exact ⟨rfl, rfl⟩
    · have hlt : j < 30 := Nat.not_le.mp (fun q => h17 ((gm_bdN (by decide) (by decide) (by omega)).mpr q))
      refine go_il2 dX9_run_20 (go_al0 dX9_run_21 (go_getI fX9_64 rfl rfl dX9_run_22 ?_))
      refine go_clt 35 dX9_run_25 (by decide) (fun h25 => ?_) (fun h25 => ?_)
      · refine go_al0 dX9_run_35 (go_il2 dX9_run_36 (go_il1 dX9_run_37 (go_icm1 dX9_run_38 (go_al0 dX9_run_39 (go_getI fX9_60 rfl rfl dX9_run_40 ?_)))))
        refine go_ifeq 50 dX9_run_43 (by decide) (fun h43 => ?_) (fun h43 => ?_)
        · refine go_ic0 dX9_run_50 (go_V4v mcX9_note mvX9_note kX9_67 rfl dX9_run_51 rfl rfl (sX9_note hlt _ _ _ _) (go_goto 113 dX9_run_54 (by decide) (go_inc2 (k := 1) dX9_run_113 (by decide) rfl rfl (go_goto 14 dX9_run_116 (by decide) ?_))))
          have h := fun d => ih (30 - (j + 1)) (by omega) (j + 1) d rfl (by omega)
          rw [show crun μ (j + 1) = crun_b j (crun μ j) from rfl] at h
          simp only [crun_b, if_pos h25, if_pos h43] at h
          rw [nI_1]
          with_reducible exact h _
        · refine go_ic4 dX9_run_46 (go_goto 51 dX9_run_47 (by decide) (go_V4v mcX9_note mvX9_note kX9_67 rfl dX9_run_51 rfl rfl (sX9_note hlt _ _ _ _) (go_goto 113 dX9_run_54 (by decide) (go_inc2 (k := 1) dX9_run_113 (by decide) rfl rfl (go_goto 14 dX9_run_116 (by decide) ?_)))))
          have h := fun d => ih (30 - (j + 1)) (by omega) (j + 1) d rfl (by omega)
          rw [show crun μ (j + 1) = crun_b j (crun μ j) from rfl] at h
          simp only [crun_b, if_pos h25, if_neg h43] at h
          rw [nI_1]
          with_reducible exact h _
      · refine go_al0 dX9_run_28 (go_getI fX9_60 rfl rfl dX9_run_29 ?_)
        refine go_ifeq 57 dX9_run_32 (by decide) (fun h32 => ?_) (fun h32 => ?_)
        · refine go_il1 dX9_run_57 (go_al0 dX9_run_58 (go_il2 dX9_run_59 (go_al0 dX9_run_60 (go_il2 dX9_run_61 (go_V1r mcX9_warmthOn mvX9_warmthOn kX9_71 rfl dX9_run_62 rfl rfl (sX9_warmthOn _ _) (go_V2r mcX9_growth mvX9_growth kX9_75 rfl dX9_run_65 rfl rfl (sX9_growth _ _ _) (go_iadd dX9_run_68 (go_is1 dX9_run_69 rfl rfl (go_al0 dX9_run_70 (go_il1 dX9_run_71 (go_V1r mcX9_momentAt mvX9_momentAt kX9_79 rfl dX9_run_72 rfl rfl (sX9_momentAt _ _) (go_is3 dX9_run_75 rfl rfl (go_al0 dX9_run_76 ?_)))))))))))))
          refine go_al0 dX9_run_77 (go_il3 dX9_run_78 (go_V1r mcX9_isEatenAt mvX9_isEatenAt kX9_82 rfl dX9_run_79 rfl rfl (sX9_isEatenAt _ _) (go_putZ fX9_60 rfl rfl dX9_run_82 (go_al0 dX9_run_85 (go_il2 dX9_run_86 (go_il1 dX9_run_87 (go_il3 dX9_run_88 (go_il3 dX9_run_89 (go_icm1 dX9_run_90 ?_)))))))))
          refine go_cne 98 dX9_run_91 (by decide) (fun h91 => ?_) (fun h91 => ?_)
          · refine go_al0 dX9_run_98 (go_getI fX9_60 rfl rfl dX9_run_99 ?_)
            refine go_ifeq 109 dX9_run_102 (by decide) (fun h102 => ?_) (fun h102 => ?_)
            · refine go_ic1 dX9_run_109 (go_V4v mcX9_note mvX9_note kX9_67 rfl dX9_run_110 rfl rfl (sX9_note hlt _ _ _ _) (go_inc2 (k := 1) dX9_run_113 (by decide) rfl rfl (go_goto 14 dX9_run_116 (by decide) ?_)))
              have h := fun d => ih (30 - (j + 1)) (by omega) (j + 1) d rfl (by omega)
              rw [show crun μ (j + 1) = crun_b j (crun μ j) from rfl] at h
              simp only [crun_b, if_neg h25, if_pos h32, if_neg h91, if_pos h102] at h
              rw [nI_1]
              with_reducible exact h _
            · refine go_ic3 dX9_run_105 (go_goto 110 dX9_run_106 (by decide) (go_V4v mcX9_note mvX9_note kX9_67 rfl dX9_run_110 rfl rfl (sX9_note hlt _ _ _ _) (go_inc2 (k := 1) dX9_run_113 (by decide) rfl rfl (go_goto 14 dX9_run_116 (by decide) ?_))))
              have h := fun d => ih (30 - (j + 1)) (by omega) (j + 1) d rfl (by omega)
              rw [show crun μ (j + 1) = crun_b j (crun μ j) from rfl] at h
              simp only [crun_b, if_neg h25, if_pos h32, if_neg h91, if_neg h102] at h
              rw [nI_1]
              with_reducible exact h _
          · refine go_ic2 dX9_run_94 (go_goto 110 dX9_run_95 (by decide) (go_V4v mcX9_note mvX9_note kX9_67 rfl dX9_run_110 rfl rfl (sX9_note hlt _ _ _ _) (go_inc2 (k := 1) dX9_run_113 (by decide) rfl rfl (go_goto 14 dX9_run_116 (by decide) ?_))))
            have h := fun d => ih (30 - (j + 1)) (by omega) (j + 1) d rfl (by omega)
            rw [show crun μ (j + 1) = crun_b j (crun μ j) from rfl] at h
            simp only [crun_b, if_neg h25, if_pos h32, if_pos h91] at h
            rw [nI_1]
            with_reducible exact h _
        · refine go_al0 dX9_run_35 (go_il2 dX9_run_36 (go_il1 dX9_run_37 (go_icm1 dX9_run_38 (go_al0 dX9_run_39 (go_getI fX9_60 rfl rfl dX9_run_40 ?_)))))
          refine go_ifeq 50 dX9_run_43 (by decide) (fun h43 => ?_) (fun h43 => ?_)
          · refine go_ic0 dX9_run_50 (go_V4v mcX9_note mvX9_note kX9_67 rfl dX9_run_51 rfl rfl (sX9_note hlt _ _ _ _) (go_goto 113 dX9_run_54 (by decide) (go_inc2 (k := 1) dX9_run_113 (by decide) rfl rfl (go_goto 14 dX9_run_116 (by decide) ?_))))
            exact absurd h43 h32
          · refine go_ic4 dX9_run_46 (go_goto 51 dX9_run_47 (by decide) (go_V4v mcX9_note mvX9_note kX9_67 rfl dX9_run_51 rfl rfl (sX9_note hlt _ _ _ _) (go_goto 113 dX9_run_54 (by decide) (go_inc2 (k := 1) dX9_run_113 (by decide) rfl rfl (go_goto 14 dX9_run_116 (by decide) ?_)))))
            have h := fun d => ih (30 - (j + 1)) (by omega) (j + 1) d rfl (by omega)
            rw [show crun μ (j + 1) = crun_b j (crun μ j) from rfl] at h
            simp only [crun_b, if_neg h25, if_neg h32, if_neg h43] at h
            rw [nI_1]
            with_reducible exact h _

set_option maxRecDepth 100000 in
set_option maxHeartbeats 400000 in
theorem sX9_run (μ : gm_M) : Ret yX9_run cX9_run 4 none 2 [(.ref 25)] μ none (crun μ 30).2 := by
  refine Sat.of (L := [some (.ref 25), none, none, none]) (by decide) (fun _ => rfl) (fun _ => rfl) ?_
  refine go_ic0 dX9_run_0 (go_is1 dX9_run_1 rfl rfl (go_al0 dX9_run_2 (go_ic0 dX9_run_3 (go_putI fX9_57 rfl rfl dX9_run_4 (go_al0 dX9_run_7 (go_ic0 dX9_run_8 (go_putZ0 fX9_60 rfl rfl dX9_run_9 (go_ic0 dX9_run_12 (go_is2 dX9_run_13 rfl rfl ?_)))))))))
  exact sX9_run_loop μ _ 0 _ rfl (by omega)

set_option maxRecDepth 100000 in
set_option maxHeartbeats 400000 in
theorem sX9_sole_loop (μ : gm_M) {f x : Nat} (hf : μ.1 25 7 = nI f) (hf2 : f < 2 ^ 31) (hx : x < 2 ^ 31) : ∀ (k j : Nat) (age : Int32) (d4 : Option Value), x - j = k → j < 2 ^ 31 → Go yX9_soleMoment cX9_soleMoment 5 (some .int) 2 7 [some (.ref 25), some (.int (nI x)), some (.int age), some (.int (nI j)), d4] [] μ (fun r μ' => r = some (.int (csoleF μ f x (csoleL μ k j age))) ∧ μ' = μ) := by
  intro k
  induction k using Nat.strongRecOn with
  | ind k ih =>
    intro j age d4 hk hj
    refine go_il3 dX9_soleMoment_7 (go_il1 dX9_soleMoment_8 ?_)
    refine go_cge 55 dX9_soleMoment_9 (by decide) (fun h9 => ?_) (fun h9 => ?_)
    · have he : x ≤ j := (gm_bdN rfl hx (by omega)).mp h9
      refine go_il1 dX9_soleMoment_55 (go_al0 dX9_soleMoment_56 (go_getI fX9_64 rfl rfl dX9_soleMoment_57 ?_))
      refine go_cge 67 dX9_soleMoment_60 (by decide) (fun h60 => ?_) (fun h60 => ?_)
      · refine go_al0 dX9_soleMoment_67 (go_il2 dX9_soleMoment_68 (go_al0 dX9_soleMoment_69 (go_il1 dX9_soleMoment_70 (go_al0 dX9_soleMoment_71 (go_il1 dX9_soleMoment_72 (go_V1r mcX9_warmthOn mvX9_warmthOn kX9_71 rfl dX9_soleMoment_73 rfl rfl (sX9_warmthOn _ _) (go_V2r mcX9_growth mvX9_growth kX9_75 rfl dX9_soleMoment_76 rfl rfl (sX9_growth _ _ _) (go_iadd dX9_soleMoment_79 (go_V1r mcX9_momentAt mvX9_momentAt kX9_79 rfl dX9_soleMoment_80 rfl rfl (sX9_momentAt _ _) ?_)))))))))
        refine go_iret dX9_soleMoment_83 ?_
        obtain rfl : k = 0 := by omega
        have h61 : ¬ x < f := by
          have := h60
          rw [hf, nI_leI (by omega) (by omega)] at this
          omega
        exact ⟨by simp [csoleL, csoleF, h61], rfl⟩
      · refine go_icm1 dX9_soleMoment_63 (go_goto 83 dX9_soleMoment_64 (by decide) ?_)
        refine go_iret dX9_soleMoment_83 ?_
        obtain rfl : k = 0 := by omega
        have h61 : x < f := by
          have := h60
          rw [hf, nI_leI (by omega) (by omega)] at this
          omega
        exact ⟨by simp [csoleL, csoleF, h61], rfl⟩
    · have hlt : j < x := Nat.not_le.mp (fun q => h9 ((gm_bdN rfl hx (by omega)).mpr q))
      refine go_il2 dX9_soleMoment_12 (go_al0 dX9_soleMoment_13 (go_il3 dX9_soleMoment_14 (go_al0 dX9_soleMoment_15 (go_il3 dX9_soleMoment_16 (go_V1r mcX9_warmthOn mvX9_warmthOn kX9_71 rfl dX9_soleMoment_17 rfl rfl (sX9_warmthOn _ _) (go_V2r mcX9_growth mvX9_growth kX9_75 rfl dX9_soleMoment_20 rfl rfl (sX9_growth _ _ _) (go_iadd dX9_soleMoment_23 (go_is2 dX9_soleMoment_24 rfl rfl (go_al0 dX9_soleMoment_25 (go_il2 dX9_soleMoment_26 (go_V1r mcX9_momentAt mvX9_momentAt kX9_79 rfl dX9_soleMoment_27 rfl rfl (sX9_momentAt _ _) (go_is4 dX9_soleMoment_30 rfl rfl (go_il4 dX9_soleMoment_32 ?_)))))))))))))
      refine go_icm1 dX9_soleMoment_34 ?_
      refine go_ceq 47 dX9_soleMoment_35 (by decide) (fun h35 => ?_) (fun h35 => ?_)
      · refine go_icm1 dX9_soleMoment_47 ?_
        refine go_iret dX9_soleMoment_48 ?_
        obtain ⟨k, rfl⟩ : ∃ q, k = q + 1 := ⟨k - 1, by omega⟩
        exact ⟨by simp [csoleL, csoleF, h35], rfl⟩
      · refine go_al0 dX9_soleMoment_38 (go_il4 dX9_soleMoment_39 (go_V1r mcX9_isEatenAt mvX9_isEatenAt kX9_82 rfl dX9_soleMoment_41 rfl rfl (sX9_isEatenAt _ _) ?_))
        refine go_ifeqB 49 dX9_soleMoment_44 (by decide) (fun h44 => ?_) (fun h44 => ?_)
        · refine go_inc3 (k := 1) dX9_soleMoment_49 (by decide) rfl rfl (go_goto 7 dX9_soleMoment_52 (by decide) ?_)
          obtain ⟨k, rfl⟩ : ∃ q, k = q + 1 := ⟨k - 1, by omega⟩
          rw [nI_1]
          refine Go.post ?_ (ih k (by omega) (j + 1) _ _ (by omega) (by omega))
          rintro r μ' ⟨rfl, rfl⟩
          exact ⟨by simp [csoleL, h35, h44], rfl⟩
        · refine go_icm1 dX9_soleMoment_47 ?_
          refine go_iret dX9_soleMoment_48 ?_
          obtain ⟨k, rfl⟩ : ∃ q, k = q + 1 := ⟨k - 1, by omega⟩
          exact ⟨by simp [csoleL, csoleF, h35, h44], rfl⟩

set_option maxRecDepth 100000 in
set_option maxHeartbeats 400000 in
theorem sX9_soleMoment (μ : gm_M) {f x : Nat} (hf : μ.1 25 7 = nI f) (hf2 : f < 2 ^ 31) (hx : x < 2 ^ 31) : Ret yX9_soleMoment cX9_soleMoment 5 (some .int) 2 [(.ref 25), (.int (nI x))] μ (some (.int (csole μ f x))) μ := by
  refine Sat.of (L := [some (.ref 25), some (.int (nI x)), none, none, none]) (by decide) (fun _ => rfl) (fun _ => rfl) ?_
  refine go_ic0 dX9_soleMoment_0 (go_is2 dX9_soleMoment_1 rfl rfl (go_al0 dX9_soleMoment_2 (go_getI fX9_64 rfl rfl dX9_soleMoment_3 (go_is3 dX9_soleMoment_6 rfl rfl ?_))))
  rw [hf]
  exact sX9_sole_loop μ hf hf2 hx _ f 0 _ rfl hf2

set_option maxRecDepth 100000 in
set_option maxHeartbeats 400000 in
theorem sX9_long_loop (μ : gm_M) : ∀ (k j : Nat) (age many : Int32) (d4 : Option Value), 30 - j = k → j < 2 ^ 31 → Go yX9_heardLong cX9_heardLong 5 (some .int) 2 9 [some (.ref 25), some (.int age), some (.int many), some (.int (nI j)), d4] [] μ (fun r μ' => r = some (.int (clongL μ k j age many)) ∧ μ' = μ) := by
  intro k
  induction k using Nat.strongRecOn with
  | ind k ih =>
    intro j age many d4 hk hj
    refine go_il3 dX9_heardLong_9 (go_bipush (v := 30) dX9_heardLong_10 (by decide) ?_)
    refine go_cge 63 dX9_heardLong_12 (by decide) (fun h12 => ?_) (fun h12 => ?_)
    · have he : 30 ≤ j := (gm_bdN (by decide) (by decide) (by omega)).mp h12
      refine go_il2 dX9_heardLong_63 ?_
      refine go_iret dX9_heardLong_64 ?_
      obtain rfl : k = 0 := by omega
      exact ⟨by simp [clongL], rfl⟩
    · have hlt : j < 30 := Nat.not_le.mp (fun q => h12 ((gm_bdN (by decide) (by decide) (by omega)).mpr q))
      refine go_il1 dX9_heardLong_15 (go_al0 dX9_heardLong_16 (go_il3 dX9_heardLong_17 (go_al0 dX9_heardLong_18 (go_il3 dX9_heardLong_19 (go_V1r mcX9_warmthOn mvX9_warmthOn kX9_71 rfl dX9_heardLong_20 rfl rfl (sX9_warmthOn _ _) (go_V2r mcX9_growth mvX9_growth kX9_75 rfl dX9_heardLong_23 rfl rfl (sX9_growth _ _ _) (go_iadd dX9_heardLong_26 (go_is1 dX9_heardLong_27 rfl rfl (go_al0 dX9_heardLong_28 (go_il1 dX9_heardLong_29 (go_V1r mcX9_momentAt mvX9_momentAt kX9_79 rfl dX9_heardLong_30 rfl rfl (sX9_momentAt _ _) (go_is4 dX9_heardLong_33 rfl rfl (go_il4 dX9_heardLong_35 ?_)))))))))))))
      refine go_icm1 dX9_heardLong_37 ?_
      refine go_cne 43 dX9_heardLong_38 (by decide) (fun h38 => ?_) (fun h38 => ?_)
      · refine go_inc2 (k := 1) dX9_heardLong_43 (by decide) rfl rfl (go_al0 dX9_heardLong_46 (go_il4 dX9_heardLong_47 (go_V1r mcX9_isEatenAt mvX9_isEatenAt kX9_82 rfl dX9_heardLong_49 rfl rfl (sX9_isEatenAt _ _) ?_)))
        refine go_ifeqB 57 dX9_heardLong_52 (by decide) (fun h52 => ?_) (fun h52 => ?_)
        · refine go_inc3 (k := 1) dX9_heardLong_57 (by decide) rfl rfl (go_goto 9 dX9_heardLong_60 (by decide) ?_)
          obtain ⟨k, rfl⟩ : ∃ q, k = q + 1 := ⟨k - 1, by omega⟩
          rw [nI_1]
          refine Go.post ?_ (ih k (by omega) (j + 1) _ _ _ (by omega) (by omega))
          rintro r μ' ⟨rfl, rfl⟩
          exact ⟨by simp [clongL, h38, h52], rfl⟩
        · refine go_il2 dX9_heardLong_55 ?_
          refine go_iret dX9_heardLong_56 ?_
          obtain ⟨k, rfl⟩ : ∃ q, k = q + 1 := ⟨k - 1, by omega⟩
          exact ⟨by simp [clongL, h38, h52], rfl⟩
      · refine go_il2 dX9_heardLong_41 ?_
        refine go_iret dX9_heardLong_42 ?_
        obtain ⟨k, rfl⟩ : ∃ q, k = q + 1 := ⟨k - 1, by omega⟩
        exact ⟨by simp [clongL, h38], rfl⟩

set_option maxRecDepth 100000 in
set_option maxHeartbeats 400000 in
theorem sX9_heardLong (μ : gm_M) {f : Nat} (hf : μ.1 25 7 = nI f) (hf2 : f < 2 ^ 31) : Ret yX9_heardLong cX9_heardLong 5 (some .int) 2 [(.ref 25)] μ (some (.int (clongL μ (30 - f) f 0 0))) μ := by
  refine Sat.of (L := [some (.ref 25), none, none, none, none]) (by decide) (fun _ => rfl) (fun _ => rfl) ?_
  refine go_ic0 dX9_heardLong_0 (go_is1 dX9_heardLong_1 rfl rfl (go_ic0 dX9_heardLong_2 (go_is2 dX9_heardLong_3 rfl rfl (go_al0 dX9_heardLong_4 (go_getI fX9_64 rfl rfl dX9_heardLong_5 (go_is3 dX9_heardLong_8 rfl rfl ?_))))))
  rw [hf]
  exact sX9_long_loop μ _ f 0 0 _ rfl hf2

set_option maxRecDepth 100000 in
set_option maxHeartbeats 400000 in
theorem sX9_scr_loop (μ : gm_M) : ∀ (k j : Nat), 30 - j = k → j ≤ 30 → Go yX9_firstScream cX9_firstScream 2 (some .int) 2 2 [some (.ref 25), some (.int (nI j))] [] μ (fun r μ' => r = some (.int (cscrL μ k j)) ∧ μ' = μ) := by
  intro k
  induction k using Nat.strongRecOn with
  | ind k ih =>
    intro j hk hj
    refine go_il1 dX9_firstScream_2 (go_bipush (v := 30) dX9_firstScream_3 (by decide) ?_)
    refine go_cge 31 dX9_firstScream_5 (by decide) (fun h5 => ?_) (fun h5 => ?_)
    · have he : j = 30 := Nat.le_antisymm hj ((gm_bdN (by decide) (by decide) (by omega)).mp h5)
      refine go_icm1 dX9_firstScream_31 ?_
      refine go_iret dX9_firstScream_32 ?_
      obtain rfl : k = 0 := by omega
      exact ⟨by simp [cscrL], rfl⟩
    · have hlt : j < 30 := Nat.not_le.mp (fun q => h5 ((gm_bdN (by decide) (by decide) (by omega)).mpr q))
      refine go_al0 dX9_firstScream_8 (go_getI fX9_30 rfl rfl dX9_firstScream_9 (go_al0 dX9_firstScream_12 (go_il1 dX9_firstScream_13 (go_V1r mcX9_momentOn mvX9_momentOn kX9_86 rfl dX9_firstScream_14 rfl rfl (sX9_momentOn _ _) (go_SN2r mcX11_isOn mvX11_isOn kX9_41 dX9_firstScream_17 rfl rfl (sX11_isOn _ _ _) ?_)))))
      refine go_ifeqB 25 dX9_firstScream_20 (by decide) (fun h20 => ?_) (fun h20 => ?_)
      · refine go_inc1 (k := 1) dX9_firstScream_25 (by decide) rfl rfl (go_goto 2 dX9_firstScream_28 (by decide) ?_)
        obtain ⟨k, rfl⟩ : ∃ q, k = q + 1 := ⟨k - 1, by omega⟩
        have h := ih k (by omega) (j + 1) (by omega) (by omega)
        rw [nI_1]
        refine Go.post ?_ h
        rintro r μ' ⟨rfl, rfl⟩
        exact ⟨by simp [cscrL, h20], rfl⟩
      · refine go_il1 dX9_firstScream_23 ?_
        refine go_iret dX9_firstScream_24 ?_
        obtain ⟨k, rfl⟩ : ∃ q, k = q + 1 := ⟨k - 1, by omega⟩
        exact ⟨by simp [cscrL, h20], rfl⟩

set_option maxRecDepth 100000 in
set_option maxHeartbeats 400000 in
theorem sX9_firstScream (μ : gm_M) : Ret yX9_firstScream cX9_firstScream 2 (some .int) 2 [(.ref 25)] μ (some (.int (cscrL μ 30 0))) μ := by
  refine Sat.of (L := [some (.ref 25), none]) (by decide) (fun _ => rfl) (fun _ => rfl) ?_
  refine go_ic0 dX9_firstScream_0 (go_is1 dX9_firstScream_1 rfl rfl ?_)
  exact sX9_scr_loop μ _ 0 rfl (by omega)

