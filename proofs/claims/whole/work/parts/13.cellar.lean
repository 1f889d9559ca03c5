/-! CAVE (11, 12), CELLAR (1) -/
theorem go_copyIn {y : MethodName} {cc : ByteArray} {nL : Nat} {ret : Option FieldType} {d pc : Nat} {L : List (Option Value)} {st : List Value} {μ : gm_M} {Post : Option Value → gm_M → Prop} {c0 c1 n0 n1 idx : Nat} {sp dp n : Int32} (a b k : Nat) (ha : sp = nI a) (hb : dp = nI b) (hk2 : n = nI k) (h4 : a + k ≤ n0) (h5 : b + k ≤ n1) (hn : n0 < 2 ^ 31) (hn1 : n1 < 2 ^ 31) (hk : Cond.methodLink y.cls idx arraycopyName ∈ lw_tbl) (hs0 : gm_sh c0 = some (.inl (0, n0))) (hs1 : gm_sh c1 = some (.inl (0, n1))) (hd : Nat.ble 1 d = true) (hr : Nat.ble ((st.map fun v => v.category).sum) 8 = true) (dd : decode cc pc = .ok (.invokestatic idx, 3))
    (g : Go y cc nL ret d (pc + 3) L st (gm_aI μ c1 (va_cpy (μ.1 c0) (μ.1 c1) a b k)) Post) : Go y cc nL ret d pc L (.int n :: .int dp :: .ref c1 :: .int sp :: .ref c0 :: st) μ Post := by
  subst ha; subst hb; subst hk2
  refine go_copyI hk hs0 hs1 (nI_pos (by omega)) (nI_pos (by omega)) (nI_pos (by omega)) (by rw [nI_clamp (by omega), nI_clamp (by omega)]; exact h4) (by rw [nI_clamp (by omega), nI_clamp (by omega)]; exact h5) hd hr dd ?_
  rw [nI_clamp (by omega), nI_clamp (by omega), nI_clamp (by omega)]
  exact g
theorem go_copyJn {y : MethodName} {cc : ByteArray} {nL : Nat} {ret : Option FieldType} {d pc : Nat} {L : List (Option Value)} {st : List Value} {μ : gm_M} {Post : Option Value → gm_M → Prop} {c0 c1 n0 n1 idx : Nat} {sp dp n : Int32} (a b k : Nat) (ha : sp = nI a) (hb : dp = nI b) (hk2 : n = nI k) (h4 : a + k ≤ n0) (h5 : b + k ≤ n1) (hn : n0 < 2 ^ 31) (hn1 : n1 < 2 ^ 31) (hk : Cond.methodLink y.cls idx arraycopyName ∈ lw_tbl) (hs0 : gm_sh c0 = some (.inl (1, n0))) (hs1 : gm_sh c1 = some (.inl (1, n1))) (hd : Nat.ble 1 d = true) (hr : Nat.ble ((st.map fun v => v.category).sum) 8 = true) (dd : decode cc pc = .ok (.invokestatic idx, 3))
    (g : Go y cc nL ret d (pc + 3) L st (gm_aJ μ c1 (va_cpy (μ.2 c0) (μ.2 c1) a b k)) Post) : Go y cc nL ret d pc L (.int n :: .int dp :: .ref c1 :: .int sp :: .ref c0 :: st) μ Post := by
  subst ha; subst hb; subst hk2
  refine go_copyJ hk hs0 hs1 (nI_pos (by omega)) (nI_pos (by omega)) (nI_pos (by omega)) (by rw [nI_clamp (by omega), nI_clamp (by omega)]; exact h4) (by rw [nI_clamp (by omega), nI_clamp (by omega)]; exact h5) hd hr dd ?_
  rw [nI_clamp (by omega), nI_clamp (by omega), nI_clamp (by omega)]
  exact g
def crdc (μ : gm_M) : Nat → gm_M
  | 0 => gm_I μ 11 2 (-1)
  | j + 1 => if (crdc μ j).1 11 2 = -1 then (if gi ((crdc μ j).1 5) 30 (nI j) (-1) < 48 then gm_I (crdc μ j) 11 2 (nI j) else if gi ((crdc μ j).1 5) 30 (nI j) (-1) ≤ 57 then crdc μ j else gm_I (crdc μ j) 11 2 (nI j)) else crdc μ j
def cfig (m : gm_M) : gm_M := if m.1 11 2 = -1 then gm_I m 11 1 (m.1 4 1) else gm_I m 11 1 0
def cwl_b (j : Nat) (q : gm_M) : gm_M := if q.1 11 1 ≤ nI j then gm_I q 12 j 5 else gm_I q 12 j (gi (q.1 5) 30 (nI j) (-1) - 48)
def cwl (m : gm_M) : Nat → gm_M
  | 0 => m
  | j + 1 => cwl_b j (cwl m j)
theorem crdc_len (μ : gm_M) (j : Nat) : (crdc μ j).1 4 = μ.1 4 := by
  induction j with
  | zero => rfl
  | succ j ih =>
    simp only [crdc]
    repeat' split
    all_goals exact ih
theorem crdc_stay (μ : gm_M) {j : Nat} (h : ¬ (crdc μ j).1 11 2 = -1) : ∀ i, crdc μ (j + i) = crdc μ j := by
  intro i
  induction i with
  | zero => rfl
  | succ i ih => rw [← Nat.add_assoc]; show (if (crdc μ (j + i)).1 11 2 = -1 then _ else crdc μ (j + i)) = _; rw [ih, if_neg h]
set_option maxRecDepth 100000 in
set_option maxHeartbeats 400000 in
theorem sX0_rd_loop2 (m : gm_M) : ∀ (k j : Nat) (d3 : Option Value), 30 - j = k → j ≤ 30 → Go yX0_readFrom cX0_readFrom 4 none 2 74 [some (.ref 11), some (.ref 4), some (.int (nI j)), d3] [] (cwl m j) (fun r μ' => r = none ∧ μ' = cwl m 30) := by
  intro k
  induction k using Nat.strongRecOn with
  | ind k ih =>
    intro j d3 hk hj
    refine go_il2 dX0_readFrom_74 (go_al0 dX0_readFrom_75 (go_getR (j := 12) fX0_9 rfl rfl dX0_readFrom_76 (go_alenI rfl dX0_readFrom_79 ?_)))
    refine go_cge 115 dX0_readFrom_80 (by decide) (fun h80 => ?_) (fun h80 => ?_)
    · have he : j = 30 := Nat.le_antisymm hj ((gm_bdN (by decide) (by decide) (by omega)).mp h80)
      refine go_vret dX0_readFrom_115 ?_
      subst he
      exact ⟨rfl, rfl⟩
    · have hlt : j < 30 := Nat.not_le.mp (fun q => h80 ((gm_bdN (by decide) (by decide) (by omega)).mpr q))
      refine go_al0 dX0_readFrom_83 (go_getR (j := 12) fX0_9 rfl rfl dX0_readFrom_84 (go_il2 dX0_readFrom_87 (go_il2 dX0_readFrom_88 (go_al0 dX0_readFrom_89 (go_getI fX0_34 rfl rfl dX0_readFrom_90 ?_)))))
      refine go_cge 107 dX0_readFrom_93 (by decide) (fun h93 => ?_) (fun h93 => ?_)
      · refine go_ic5 dX0_readFrom_107 (go_iast rfl (vp_in_nI hlt (by decide)) dX0_readFrom_108 (go_inc2 (k := 1) dX0_readFrom_109 (by decide) rfl rfl (go_goto 74 dX0_readFrom_112 (by decide) ?_)))
        have h := fun d => ih (30 - (j + 1)) (by omega) (j + 1) d rfl (by omega)
        rw [show cwl m (j + 1) = cwl_b j (cwl m j) from rfl] at h
        simp only [cwl_b, if_pos h93] at h
        rw [nI_1, nI_clamp (by omega)]
        with_reducible exact h _
      · refine go_al1 dX0_readFrom_96 (go_il2 dX0_readFrom_97 (go_V1r mcX8_byteAt mvX8_byteAt kX0_30 rfl dX0_readFrom_98 rfl rfl (sX8_byteAt_4 _ _) (go_bipush (v := 48) dX0_readFrom_101 (by decide) (go_isub dX0_readFrom_103 (go_goto 108 dX0_readFrom_104 (by decide) (go_iast rfl (vp_in_nI hlt (by decide)) dX0_readFrom_108 (go_inc2 (k := 1) dX0_readFrom_109 (by decide) rfl rfl (go_goto 74 dX0_readFrom_112 (by decide) ?_))))))))
        have h := fun d => ih (30 - (j + 1)) (by omega) (j + 1) d rfl (by omega)
        rw [show cwl m (j + 1) = cwl_b j (cwl m j) from rfl] at h
        simp only [cwl_b, if_neg h93] at h
        rw [nI_1, nI_clamp (by omega)]
        with_reducible exact h _

set_option maxRecDepth 100000 in
set_option maxHeartbeats 400000 in
theorem sX0_rd_end (d2 d3 : Option Value) (m : gm_M) : Go yX0_readFrom cX0_readFrom 4 none 2 52 [some (.ref 11), some (.ref 4), d2, d3] [] m (fun r μ' => r = none ∧ μ' = cwl (cfig m) 30) := by
  refine go_al0 dX0_readFrom_52 (go_al0 dX0_readFrom_53 (go_getI fX0_15 rfl rfl dX0_readFrom_54 (go_icm1 dX0_readFrom_57 ?_)))
  refine go_cne 68 dX0_readFrom_58 (by decide) (fun h58 => ?_) (fun h58 => ?_)
  · refine go_ic0 dX0_readFrom_68 (go_putI fX0_34 rfl rfl dX0_readFrom_69 (go_ic0 dX0_readFrom_72 (go_is2 dX0_readFrom_73 rfl rfl ?_)))
    simp only [cfig, if_neg h58]
    exact sX0_rd_loop2 _ _ 0 _ rfl (by omega)
  · refine go_al1 dX0_readFrom_61 (go_getI fX0_25 rfl rfl dX0_readFrom_62 (go_goto 69 dX0_readFrom_65 (by decide) (go_putI fX0_34 rfl rfl dX0_readFrom_69 (go_ic0 dX0_readFrom_72 (go_is2 dX0_readFrom_73 rfl rfl ?_)))))
    simp only [cfig, if_pos h58]
    exact sX0_rd_loop2 _ _ 0 _ rfl (by omega)
set_option maxRecDepth 100000 in
set_option maxHeartbeats 400000 in
theorem sX0_rd_loop (μ : gm_M) {N : Nat} (hN : μ.1 4 1 = nI N) (hN2 : N < 2 ^ 31) : ∀ (k j : Nat) (d3 : Option Value), N - j = k → j ≤ N → Go yX0_readFrom cX0_readFrom 4 none 2 7 [some (.ref 11), some (.ref 4), some (.int (nI j)), d3] [] (crdc μ j) (fun r μ' => r = none ∧ μ' = cwl (cfig (crdc μ N)) 30) := by
  intro k
  induction k using Nat.strongRecOn with
  | ind k ih =>
    intro j d3 hk hj
    refine go_il2 dX0_readFrom_7 (go_al1 dX0_readFrom_8 (go_getI fX0_25 rfl rfl dX0_readFrom_9 ?_))
    refine go_cge 52 dX0_readFrom_12 (by decide) (fun h12 => ?_) (fun h12 => ?_)
    · have he : j = N := Nat.le_antisymm hj ((gm_bdN (by rw [crdc_len]; exact hN) hN2 (by omega)).mp h12)
      subst he
      exact sX0_rd_end _ _ _
    · have hlt : j < N := Nat.not_le.mp (fun q => h12 ((gm_bdN (by rw [crdc_len]; exact hN) hN2 (by omega)).mpr q))
      refine go_al0 dX0_readFrom_15 (go_getI fX0_15 rfl rfl dX0_readFrom_16 (go_icm1 dX0_readFrom_19 ?_))
      refine go_cne 52 dX0_readFrom_20 (by decide) (fun h20 => ?_) (fun h20 => ?_)
      · have e1 : crdc μ N = crdc μ j := by rw [← crdc_stay μ h20 (N - j), Nat.add_sub_cancel' hj]
        rw [e1]
        exact sX0_rd_end _ _ _
      · refine go_al1 dX0_readFrom_23 (go_il2 dX0_readFrom_24 (go_V1r mcX8_byteAt mvX8_byteAt kX0_30 rfl dX0_readFrom_25 rfl rfl (sX8_byteAt_4 _ _) (go_is3 dX0_readFrom_28 rfl rfl (go_il3 dX0_readFrom_29 (go_bipush (v := 48) dX0_readFrom_30 (by decide) ?_)))))
        refine go_clt 41 dX0_readFrom_32 (by decide) (fun h32 => ?_) (fun h32 => ?_)
        · refine go_al0 dX0_readFrom_41 (go_il2 dX0_readFrom_42 (go_putI fX0_15 rfl rfl dX0_readFrom_43 (go_inc2 (k := 1) dX0_readFrom_46 (by decide) rfl rfl (go_goto 7 dX0_readFrom_49 (by decide) ?_))))
          have h := fun d => ih (N - (j + 1)) (by omega) (j + 1) d rfl (by omega)
          simp only [crdc, if_pos h20, if_pos h32] at h
          rw [nI_1]
          with_reducible exact h _
        · refine go_il3 dX0_readFrom_35 (go_bipush (v := 57) dX0_readFrom_36 (by decide) ?_)
          refine go_cle 46 dX0_readFrom_38 (by decide) (fun h38 => ?_) (fun h38 => ?_)
          · refine go_inc2 (k := 1) dX0_readFrom_46 (by decide) rfl rfl (go_goto 7 dX0_readFrom_49 (by decide) ?_)
            have h := fun d => ih (N - (j + 1)) (by omega) (j + 1) d rfl (by omega)
            simp only [crdc, if_pos h20, if_neg h32, if_pos h38] at h
            rw [nI_1]
            with_reducible exact h _
          · refine go_al0 dX0_readFrom_41 (go_il2 dX0_readFrom_42 (go_putI fX0_15 rfl rfl dX0_readFrom_43 (go_inc2 (k := 1) dX0_readFrom_46 (by decide) rfl rfl (go_goto 7 dX0_readFrom_49 (by decide) ?_))))
            have h := fun d => ih (N - (j + 1)) (by omega) (j + 1) d rfl (by omega)
            simp only [crdc, if_pos h20, if_neg h32, if_neg h38] at h
            rw [nI_1]
            with_reducible exact h _
set_option maxRecDepth 100000 in
set_option maxHeartbeats 400000 in
theorem sX0_readFrom (μ : gm_M) {N : Nat} (hN : μ.1 4 1 = nI N) (hN2 : N < 2 ^ 31) : Ret yX0_readFrom cX0_readFrom 4 none 2 [(.ref 11), (.ref 4)] μ none (cwl (cfig (crdc μ N)) 30) := by
  refine Sat.of (L := [some (.ref 11), some (.ref 4), none, none]) (by decide) (fun _ => rfl) (fun _ => rfl) ?_
  refine go_al0 dX0_readFrom_0 (go_icm1 dX0_readFrom_1 (go_putI fX0_15 rfl rfl dX0_readFrom_2 (go_ic0 dX0_readFrom_5 (go_is2 dX0_readFrom_6 rfl rfl ?_))))
  exact sX0_rd_loop μ hN hN2 _ 0 _ rfl (by omega)

set_option maxRecDepth 100000 in
set_option maxHeartbeats 400000 in
theorem sX0_warmthOn (n : Int32) (μ : gm_M) : Ret yX0_warmthOn cX0_warmthOn 2 (some .int) 1 [(.ref 11), (.int n)] μ (some (.int (gi (μ.1 12) 30 n 5))) μ := by
  refine Sat.of (L := [some (.ref 11), some (.int n)]) (by decide) (fun _ => rfl) (fun _ => rfl) ?_
  refine go_al0 dX0_warmthOn_0 (go_getR (j := 12) fX0_9 rfl rfl dX0_warmthOn_1 (go_il1 dX0_warmthOn_4 (go_ic5 dX0_warmthOn_5 (go_SN3r mcX11_itemOr mvX11_itemOr kX0_37 dX0_warmthOn_6 rfl rfl (sX11_itemOr rfl (by decide) _ _ _) ?_))))
  refine go_iret dX0_warmthOn_9 ?_
  exact ⟨rfl, rfl⟩

set_option maxRecDepth 100000 in
set_option maxHeartbeats 400000 in
theorem sX1_textOf (t : Int32) (μ : gm_M) : Ret yX1_textOf cX1_textOf 2 (some (.object "CheeseEar$Text")) 0 [(.ref 1), (.int t)] μ (some (.ref (if t = 0 then 2 else 4))) μ := by
  refine Sat.of (L := [some (.ref 1), some (.int t)]) (by decide) (fun _ => rfl) (fun _ => rfl) ?_
  refine go_il1 dX1_textOf_0 ?_
  refine go_ifne 11 dX1_textOf_1 (by decide) (fun h1 => ?_) (fun h1 => ?_)
  · refine go_al0 dX1_textOf_11 (go_getR (j := 4) fX1_20 rfl rfl dX1_textOf_12 ?_)
    refine go_aret dX1_textOf_15 ?_
    exact ⟨by simp [h1], rfl⟩
  · refine go_al0 dX1_textOf_4 (go_getR (j := 2) fX1_14 rfl rfl dX1_textOf_5 (go_goto 15 dX1_textOf_8 (by decide) ?_))
    refine go_aret dX1_textOf_15 ?_
    exact ⟨by simp [h1], rfl⟩

set_option maxRecDepth 100000 in
set_option maxHeartbeats 400000 in
theorem sX1_readAnew0 (μ : gm_M) {N : Nat} (hN : μ.1 2 1 = nI N) (hN2 : N < 2 ^ 31) : Ret yX1_readAnew cX1_readAnew 2 none 4 [(.ref 1), (.int 0)] μ none (crdwF (crdwE (crdw μ N))) := by
  refine Sat.of (L := [some (.ref 1), some (.int 0)]) (by decide) (fun _ => rfl) (fun _ => rfl) ?_
  refine go_il1 dX1_readAnew_0 ?_
  refine go_ifne 18 dX1_readAnew_1 (by decide) (fun h1 => absurd h1 (by decide)) (fun _ => ?_)
  refine go_al0 dX1_readAnew_4 (go_getR (j := 6) fX1_26 rfl rfl dX1_readAnew_5 (go_al0 dX1_readAnew_8 (go_getR (j := 2) fX1_14 rfl rfl dX1_readAnew_9 (go_V1v mcX10_readFrom mvX10_readFrom kX1_64 rfl dX1_readAnew_12 rfl rfl (sX10_readFrom _ hN hN2) (go_goto 29 dX1_readAnew_15 (by decide) ?_)))))
  refine go_vret dX1_readAnew_29 ?_
  exact ⟨rfl, rfl⟩

set_option maxRecDepth 100000 in
set_option maxHeartbeats 400000 in
theorem sX1_readAnew1 (μ : gm_M) {M : Nat} (hM : μ.1 4 1 = nI M) (hM2 : M < 2 ^ 31) : Ret yX1_readAnew cX1_readAnew 2 none 4 [(.ref 1), (.int 1)] μ none (cwl (cfig (crdc μ M)) 30) := by
  refine Sat.of (L := [some (.ref 1), some (.int 1)]) (by decide) (fun _ => rfl) (fun _ => rfl) ?_
  refine go_il1 dX1_readAnew_0 ?_
  refine go_ifne 18 dX1_readAnew_1 (by decide) (fun _ => ?_) (fun h1 => absurd h1 (by decide))
  refine go_al0 dX1_readAnew_18 (go_getR (j := 11) fX1_33 rfl rfl dX1_readAnew_19 (go_al0 dX1_readAnew_22 (go_getR (j := 4) fX1_20 rfl rfl dX1_readAnew_23 (go_V1v mcX0_readFrom mvX0_readFrom kX1_68 rfl dX1_readAnew_26 rfl rfl (sX0_readFrom _ hM hM2) ?_))))
  refine go_vret dX1_readAnew_29 ?_
  exact ⟨rfl, rfl⟩

set_option maxRecDepth 100000 in
set_option maxHeartbeats 400000 in
theorem sX1_has (w : Int32) (μ : gm_M) : Ret yX1_has cX1_has 2 (some .boolean) 0 [(.ref 1), (.int w)] μ (some (.int (gb (decide (¬ w < 0) && decide (¬ μ.1 6 4 ≤ w))))) μ := by
  refine Sat.of (L := [some (.ref 1), some (.int w)]) (by decide) (fun _ => rfl) (fun _ => rfl) ?_
  refine go_il1 dX1_has_0 ?_
  refine go_iflt 19 dX1_has_1 (by decide) (fun h1 => ?_) (fun h1 => ?_)
  · refine go_ic0 dX1_has_19 ?_
    refine go_zret dX1_has_20 rfl ?_
    exact ⟨by simp [gb, h1], rfl⟩
  · refine go_il1 dX1_has_4 (go_al0 dX1_has_5 (go_getR (j := 6) fX1_26 rfl rfl dX1_has_6 (go_getI fX1_69 rfl rfl dX1_has_9 ?_)))
    refine go_cge 19 dX1_has_12 (by decide) (fun h12 => ?_) (fun h12 => ?_)
    · refine go_ic0 dX1_has_19 ?_
      refine go_zret dX1_has_20 rfl ?_
      exact ⟨by simp [gb, h1, h12], rfl⟩
    · refine go_ic1 dX1_has_15 (go_goto 20 dX1_has_16 (by decide) ?_)
      refine go_zret dX1_has_20 rfl ?_
      exact ⟨by simp [gb, h1, h12], rfl⟩

def cbg0 (μ : gm_M) (w : Int32) : gm_M := gm_I (gm_I (gm_I μ 25 6 (gi (μ.1 7) 8 w 0)) 25 7 (gi (μ.1 8) 8 w 0)) 25 8 (gi (μ.1 9) 8 w 0)
def cbgL (μ : gm_M) (w : Int32) : Nat → gm_M
  | 0 => cbg0 μ w
  | s + 1 => clearn (cbgL μ w s) s (clet (cbgL μ w s) w (nI s)) (decide (¬ clet (cbgL μ w s) w (nI s) < (cbgL μ w s).1 1 9))
theorem cbgL_fr (μ : gm_M) (w : Int32) (s : Nat) : ∀ c, c ≠ 25 → c ≠ 26 → (cbgL μ w s).1 c = μ.1 c := by
  intro c h1 h2
  induction s with
  | zero => simp [cbgL, cbg0, gm_I, h1]
  | succ s ih => simp [cbgL, clearn, gm_I, h1, h2, ih]
def cbg1 (M : gm_M) : gm_M := gm_aI M 27 (va_cpy (M.1 12) (M.1 27) 0 0 30)
def cbg2 (m : gm_M) (w : Int32) (N : Nat) : gm_M := gm_I m 25 9 (cno (m.1 14) (m.1 15) 8 w (-1) N)
def cbg3 (m : gm_M) (w : Int32) (K : Nat) : gm_M := gm_I m 25 10 (cno (m.1 18) (m.1 19) 4 w (-1) K)
/-- begin(w): the trial loaded with a wheel; N turnings, K knocks are told -/
def cbegin (μ : gm_M) (w : Int32) (N K : Nat) : gm_M := gm_I (cbg3 (cbg2 (cbg1 (cbgL μ w 5)) w N) w K) 25 11 (μ.1 1 8)
set_option maxRecDepth 100000 in
set_option maxHeartbeats 400000 in
theorem sX1_bg_end (w : Int32) (M : gm_M) (d2 d3 : Option Value) {N K : Nat} (h13 : M.1 13 3 = nI N) (hN2 : N < 2 ^ 31) (h17 : M.1 17 3 = nI K) (hK2 : K < 2 ^ 31) : Go yX1_begin cX1_begin 4 (some (.object "CheeseEar$Trial")) 2 90 [some (.ref 1), some (.int w), d2, d3] [] M (fun r μ' => r = some (.ref 25) ∧ μ' = gm_I (cbg3 (cbg2 (cbg1 M) w N) w K) 25 11 (M.1 1 8)) := by
  refine go_al0 dX1_begin_90 (go_getR (j := 11) fX1_33 rfl rfl dX1_begin_91 (go_getR (j := 12) fX1_99 rfl rfl dX1_begin_94 (go_ic0 dX1_begin_97 (go_al0 dX1_begin_98 (go_getR (j := 25) fX1_53 rfl rfl dX1_begin_99 (go_getRN (j := 27) fX1_103 rfl rfl dX1_begin_102 (go_ic0 dX1_begin_105 (go_bipush (v := 30) dX1_begin_106 (by decide) (go_copyIn 0 0 30 (by decide) (by decide) (by decide) (by decide) (by decide) (by decide) (by decide) kX1_104 rfl rfl rfl rfl dX1_begin_108 (go_al0 dX1_begin_111 (go_getR (j := 25) fX1_53 rfl rfl dX1_begin_112 (go_al0 dX1_begin_115 (go_getR (j := 13) fX1_40 rfl rfl dX1_begin_116 ?_)))))))))))))
  refine go_il1 dX1_begin_119 (go_icm1 dX1_begin_120 (go_V2r mcX4_nightsOf mvX4_nightsOf kX1_110 rfl dX1_begin_121 rfl rfl (sX4_nightsOf_13 _ _ _ h13 hN2) (go_putI fX1_113 rfl rfl dX1_begin_124 (go_al0 dX1_begin_127 (go_getR (j := 25) fX1_53 rfl rfl dX1_begin_128 (go_al0 dX1_begin_131 (go_getR (j := 17) fX1_44 rfl rfl dX1_begin_132 (go_il1 dX1_begin_135 (go_icm1 dX1_begin_136 (go_V2r mcX4_nightsOf mvX4_nightsOf kX1_110 rfl dX1_begin_137 rfl rfl (sX4_nightsOf_17 _ _ _ h17 hK2) (go_putI fX1_116 rfl rfl dX1_begin_140 (go_al0 dX1_begin_143 (go_getR (j := 25) fX1_53 rfl rfl dX1_begin_144 ?_)))))))))))))
  refine go_al0 dX1_begin_147 (go_getI fX1_57 rfl rfl dX1_begin_148 (go_putI fX1_119 rfl rfl dX1_begin_151 (go_al0 dX1_begin_154 (go_getR (j := 25) fX1_53 rfl rfl dX1_begin_155 ?_))))
  refine go_aret dX1_begin_158 ?_
  exact ⟨rfl, rfl⟩
set_option maxRecDepth 100000 in
set_option maxHeartbeats 400000 in
theorem sX1_bg_loop (w : Int32) (μ : gm_M) {N K : Nat} (hN : μ.1 13 3 = nI N) (hN2 : N < 2 ^ 31) (hK : μ.1 17 3 = nI K) (hK2 : K < 2 ^ 31) : ∀ (k s : Nat) (d3 : Option Value), 5 - s = k → s ≤ 5 → Go yX1_begin cX1_begin 4 (some (.object "CheeseEar$Trial")) 2 47 [some (.ref 1), some (.int w), some (.int (nI s)), d3] [] (cbgL μ w s) (fun r μ' => r = some (.ref 25) ∧ μ' = cbegin μ w N K) := by
  intro k
  induction k using Nat.strongRecOn with
  | ind k ih =>
    intro s d3 hk hj
    refine go_il2 dX1_begin_47 (go_ic5 dX1_begin_48 ?_)
    refine go_cge 90 dX1_begin_49 (by decide) (fun h49 => ?_) (fun h49 => ?_)
    · have he : s = 5 := Nat.le_antisymm hj ((gm_bdN (by decide) (by decide) (by omega)).mp h49)
      rw [he]
      refine Go.post ?_ (sX1_bg_end w (cbgL μ w 5) _ _ (hN.symm ▸ congrFun (cbgL_fr μ w 5 13 (by decide) (by decide)) 3) hN2 (hK.symm ▸ congrFun (cbgL_fr μ w 5 17 (by decide) (by decide)) 3) hK2)
      rintro r m ⟨h1, h2⟩
      exact ⟨h1, by rw [h2, cbegin, congrFun (cbgL_fr μ w 5 1 (by decide) (by decide)) 8]⟩
    · have hlt : s < 5 := Nat.not_le.mp (fun q => h49 ((gm_bdN (by decide) (by decide) (by omega)).mpr q))
      refine go_al0 dX1_begin_52 (go_getR (j := 6) fX1_26 rfl rfl dX1_begin_53 (go_il1 dX1_begin_56 (go_il2 dX1_begin_57 (go_V2r mcX10_letterOf mvX10_letterOf kX1_91 rfl dX1_begin_58 rfl rfl (sX10_letterOf _ _ _) (go_is3 dX1_begin_61 rfl rfl (go_al0 dX1_begin_62 (go_getR (j := 25) fX1_53 rfl rfl dX1_begin_63 (go_il2 dX1_begin_66 (go_il3 dX1_begin_67 (go_il3 dX1_begin_68 (go_al0 dX1_begin_69 (go_getI fX1_61 rfl rfl dX1_begin_70 ?_))))))))))))
      refine go_clt 80 dX1_begin_73 (by decide) (fun h73 => ?_) (fun h73 => ?_)
      · refine go_ic0 dX1_begin_80 (go_V3v mcX9_learn mvX9_learn kX1_95 rfl dX1_begin_81 rfl rfl (sX9_learn hlt _ false _) (go_inc2 (k := 1) dX1_begin_84 (by decide) rfl rfl (go_goto 47 dX1_begin_87 (by decide) ?_)))
        have h := fun d => ih (5 - (s + 1)) (by omega) (s + 1) d rfl (by omega)
        rw [show cbgL μ w (s + 1) = clearn (cbgL μ w s) s (clet (cbgL μ w s) w (nI s)) (decide (¬ clet (cbgL μ w s) w (nI s) < (cbgL μ w s).1 1 9)) from rfl, show decide (¬ clet (cbgL μ w s) w (nI s) < (cbgL μ w s).1 1 9) = false from by simp [h73]] at h
        rw [nI_1]
        with_reducible exact h _
      · refine go_ic1 dX1_begin_76 (go_goto 81 dX1_begin_77 (by decide) (go_V3v mcX9_learn mvX9_learn kX1_95 rfl dX1_begin_81 rfl rfl (sX9_learn hlt _ true _) (go_inc2 (k := 1) dX1_begin_84 (by decide) rfl rfl (go_goto 47 dX1_begin_87 (by decide) ?_))))
        have h := fun d => ih (5 - (s + 1)) (by omega) (s + 1) d rfl (by omega)
        rw [show cbgL μ w (s + 1) = clearn (cbgL μ w s) s (clet (cbgL μ w s) w (nI s)) (decide (¬ clet (cbgL μ w s) w (nI s) < (cbgL μ w s).1 1 9)) from rfl, show decide (¬ clet (cbgL μ w s) w (nI s) < (cbgL μ w s).1 1 9) = true from by simp [h73]] at h
        rw [nI_1]
        with_reducible exact h _
set_option maxRecDepth 100000 in
set_option maxHeartbeats 400000 in
theorem sX1_begin (w : Int32) (μ : gm_M) {N K : Nat} (hN : μ.1 13 3 = nI N) (hN2 : N < 2 ^ 31) (hK : μ.1 17 3 = nI K) (hK2 : K < 2 ^ 31) : Ret yX1_begin cX1_begin 4 (some (.object "CheeseEar$Trial")) 2 [(.ref 1), (.int w)] μ (some (.ref 25)) (cbegin μ w N K) := by
  refine Sat.of (L := [some (.ref 1), some (.int w), none, none]) (by decide) (fun _ => rfl) (fun _ => rfl) ?_
  refine go_al0 dX1_begin_0 (go_getR (j := 25) fX1_53 rfl rfl dX1_begin_1 (go_al0 dX1_begin_4 (go_getR (j := 6) fX1_26 rfl rfl dX1_begin_5 (go_il1 dX1_begin_8 (go_V1r mcX10_sortOf mvX10_sortOf kX1_72 rfl dX1_begin_9 rfl rfl (sX10_sortOf _ _) (go_putI fX1_76 rfl rfl dX1_begin_12 (go_al0 dX1_begin_15 (go_getR (j := 25) fX1_53 rfl rfl dX1_begin_16 (go_al0 dX1_begin_19 (go_getR (j := 6) fX1_26 rfl rfl dX1_begin_20 (go_il1 dX1_begin_23 (go_V1r mcX10_nightOf mvX10_nightOf kX1_79 rfl dX1_begin_24 rfl rfl (sX10_nightOf _ _) (go_putI fX1_82 rfl rfl dX1_begin_27 ?_)))))))))))))
  refine go_al0 dX1_begin_30 (go_getR (j := 25) fX1_53 rfl rfl dX1_begin_31 (go_al0 dX1_begin_34 (go_getR (j := 6) fX1_26 rfl rfl dX1_begin_35 (go_il1 dX1_begin_38 (go_V1r mcX10_sizeOf mvX10_sizeOf kX1_85 rfl dX1_begin_39 rfl rfl (sX10_sizeOf _ _) (go_putI fX1_88 rfl rfl dX1_begin_42 (go_ic0 dX1_begin_45 (go_is2 dX1_begin_46 rfl rfl ?_))))))))
  exact sX1_bg_loop w μ hN hN2 hK hK2 _ 0 _ rfl (by omega)

