/-! what begin, run and the searches do, in numbers; SURVEY (32, 33) -/
theorem gm_In (μ : gm_M) {c a : Nat} (k : Nat) (v : Int32) (h : a ≠ c) : (gm_I μ c k v).1 a = μ.1 a := by simp [gm_I, h]
theorem gm_Is (μ : gm_M) (c k : Nat) (v : Int32) : (gm_I μ c k v).1 c k = v := by rw [gm_I1, if_pos rfl, if_pos rfl]
theorem gm_Io (μ : gm_M) (c : Nat) {k j : Nat} (v : Int32) (h : j ≠ k) : (gm_I μ c k v).1 c j = μ.1 c j := by rw [gm_I1, if_pos rfl, if_neg h]
def FrR (lo hi : Nat) (μ μ' : gm_M) : Prop := ∀ c, ¬ (lo ≤ c ∧ c ≤ hi) → μ'.1 c = μ.1 c
theorem FrR.rf {lo hi : Nat} (μ : gm_M) : FrR lo hi μ μ := fun _ _ => rfl
theorem FrR.tr {lo hi : Nat} {μ μ' μ'' : gm_M} (h : FrR lo hi μ μ') (h' : FrR lo hi μ' μ'') : FrR lo hi μ μ'' := fun c hc => (h' c hc).trans (h c hc)
theorem FrR.I {lo hi : Nat} {μ μ' : gm_M} (h : FrR lo hi μ μ') {c : Nat} (k : Nat) (v : Int32) (h1 : lo ≤ c) (h2 : c ≤ hi) : FrR lo hi μ (gm_I μ' c k v) := fun a ha => by rw [gm_In μ' k v (fun e => ha (by omega))]; exact h a ha
theorem FrR.f25 {lo hi : Nat} {μ μ' μ'' : gm_M} (h : FrR lo hi μ μ') (h' : Fr25 μ' μ'') (h1 : lo ≤ 25) (h2 : 31 ≤ hi) : FrR lo hi μ μ'' := fun a ha => (h'.1 a (by omega)).trans (h a ha)
theorem FrR.wide {lo hi hi' : Nat} {μ μ' : gm_M} (h : FrR lo hi μ μ') (h2 : hi ≤ hi') : FrR lo hi' μ μ' := fun a ha => h a (by omega)
theorem CQ.frR {q : QS} {μ μ' : gm_M} {hi : Nat} (h : CQ q μ) (hs : FrR 25 hi μ μ') : CQ q μ' := h.cong (fun c hc => hs c (by omega))
theorem aBegin {q : QS} {μ : gm_M} (h : CQ q μ) {w : Nat} (hw : w < qnum q) : Sat yX1_begin cX1_begin 4 (some (.object "CheeseEar$Trial")) 2 [.ref 1, .int (nI w)] μ (fun r μ' => r = some (.ref 25) ∧ TI (trof q 9 w) μ' ∧ Fr25 μ μ') := by
  refine Sat.post ?_ (sX1_begin (nI w) μ h.2.2.2.2.2.2.1.1 (by have := h.1.2.2.2.2.2.1.1; omega) h.2.2.2.2.2.2.2.1.1 (by have := h.1.2.2.2.2.2.2.1.1; omega))
  rintro r m ⟨h1, h2⟩
  rw [h2]
  exact ⟨h1, cbegin_t h hw⟩
theorem aRun {t : TR} {μ : gm_M} (h : TI t μ) : Sat yX9_run cX9_run 4 none 2 [.ref 25] μ (fun r μ' => r = none ∧ TI t μ' ∧ RO t 30 μ' ∧ μ'.1 25 14 = gb (ta t 30).2 ∧ Fr25 μ μ') := by
  refine Sat.post ?_ (sX9_run μ)
  rintro r m ⟨h1, h2⟩
  rw [h2]
  have := crun_t h 30 (Nat.le_refl 30)
  exact ⟨h1, this.2⟩
theorem aSole {t : TR} {μ : gm_M} (h : TI t μ) {x : Nat} (hx : x < 30) : Ret yX9_soleMoment cX9_soleMoment 5 (some .int) 2 [.ref 25, .int (nI x)] μ (some (.int (oI (tm t x)))) μ := by
  rw [← csole_t h hx]
  exact sX9_soleMoment μ h.2.2.1 (by have := h.1.2.1; omega) (by omega)
theorem aLong {t : TR} {μ : gm_M} (h : TI t μ) : Ret yX9_heardLong cX9_heardLong 5 (some .int) 2 [.ref 25] μ (some (.int (nI (tct t 30)))) μ := by
  rw [← clong_t h]
  exact sX9_heardLong μ h.2.2.1 (by have := h.1.2.1; omega)
theorem aScream {t : TR} {μ : gm_M} (h : TI t μ) (hR : RO t 30 μ) : Ret yX9_firstScream cX9_firstScream 2 (some .int) 2 [.ref 25] μ (some (.int (oI (firstN (tscr t) 30 0)))) μ := by
  rw [← cscr_t h hR 30 0 rfl]
  exact sX9_firstScream μ
theorem firstN_lt {p : Nat → Bool} : ∀ {k j n : Nat}, firstN p k j = some n → j ≤ n ∧ n < j + k ∧ p n = true := by
  intro k
  induction k with
  | zero => intro j n h; cases h
  | succ k ih =>
    intro j n h
    rw [firstN] at h
    by_cases c : p j = true
    · rw [if_pos c] at h
      cases h
      exact ⟨Nat.le_refl _, by omega, c⟩
    · rw [if_neg c] at h
      have := ih h
      exact ⟨by omega, by omega, this.2.2⟩
/-- the scream among the first k wheels: its night, its wheel -/
def qscr (q : QS) : Nat → Option (Nat × Nat)
  | 0 => none
  | k + 1 => match firstN (tscr (trof q 9 k)) 30 0 with
    | none => qscr q k
    | some n => match qscr q k with
      | none => some (n, k)
      | some p => if n < p.1 then some (n, k) else some p
theorem qscr_lt (q : QS) : ∀ {k : Nat} {p : Nat × Nat}, qscr q k = some p → p.1 < 30 ∧ p.2 < k := by
  intro k
  induction k with
  | zero => intro p h; cases h
  | succ k ih =>
    intro p h
    rw [qscr] at h
    cases hf : firstN (tscr (trof q 9 k)) 30 0 with
    | none => rw [hf] at h; have := ih h; exact ⟨this.1, by omega⟩
    | some n =>
      rw [hf] at h
      have hn := (firstN_lt hf).2.1
      cases hq : qscr q k with
      | none => rw [hq] at h; cases h; exact ⟨by omega, by show k < k + 1; omega⟩
      | some p0 =>
        rw [hq] at h
        have h0 := ih hq
        dsimp only at h
        split at h
        · cases h; exact ⟨by omega, by show k < k + 1; omega⟩
        · cases h; exact ⟨h0.1, by omega⟩
theorem qscr_step (q : QS) (w : Nat) (hw : w < 2 ^ 20) : oI ((qscr q (w + 1)).map (·.1)) = (if oI (firstN (tscr (trof q 9 w)) 30 0) = -1 then oI ((qscr q w).map (·.1)) else if oI ((qscr q w).map (·.1)) = -1 then oI (firstN (tscr (trof q 9 w)) 30 0) else if oI ((qscr q w).map (·.1)) ≤ oI (firstN (tscr (trof q 9 w)) 30 0) then oI ((qscr q w).map (·.1)) else oI (firstN (tscr (trof q 9 w)) 30 0))
    ∧ oI ((qscr q (w + 1)).map (·.2)) = (if oI (firstN (tscr (trof q 9 w)) 30 0) = -1 then oI ((qscr q w).map (·.2)) else if oI ((qscr q w).map (·.1)) = -1 then nI w else if oI ((qscr q w).map (·.1)) ≤ oI (firstN (tscr (trof q 9 w)) 30 0) then oI ((qscr q w).map (·.2)) else nI w) := by
  rw [qscr]
  cases hf : firstN (tscr (trof q 9 w)) 30 0 with
  | none => exact ⟨by rw [if_pos (show oI none = -1 from rfl)], by rw [if_pos (show oI none = -1 from rfl)]⟩
  | some n =>
    have hn := (firstN_lt hf).2.1
    have e1 : ¬ oI (some n) = -1 := nI_ne_m1 (by omega)
    rw [if_neg e1, if_neg e1]
    cases hq : qscr q w with
    | none => exact ⟨by rw [if_pos (show oI (Option.map (fun x : Nat × Nat => x.1) none) = -1 from rfl)]; rfl, by rw [if_pos (show oI (Option.map (fun x : Nat × Nat => x.1) none) = -1 from rfl)]; rfl⟩
    | some p =>
      have hp := qscr_lt q hq
      have e2 : ¬ oI (Option.map (·.1) (some p)) = -1 := nI_ne_m1 (by show p.1 < _; omega)
      rw [if_neg e2, if_neg e2]
      have e3 : (oI (Option.map (·.1) (some p)) ≤ oI (some n)) = (p.1 ≤ n) := propext (nI_leI (by show p.1 < _; omega) (by omega))
      dsimp only
      by_cases c : n < p.1
      · rw [if_pos c, if_neg (by rw [e3]; omega), if_neg (by rw [e3]; omega)]
        exact ⟨rfl, rfl⟩
      · rw [if_neg c, if_pos (by rw [e3]; omega), if_pos (by rw [e3]; omega)]
        exact ⟨rfl, rfl⟩

set_option maxRecDepth 100000 in
set_option maxHeartbeats 400000 in
theorem aX7_scr_loop {q : QS} {μ : gm_M} (hQ : CQ q μ) : ∀ (k w : Nat) (d2 d3 : Option Value) (m : gm_M), qnum q - w = k → w ≤ qnum q → FrR 25 33 μ m → m.1 32 2 = oI ((qscr q w).map (·.1)) → m.1 32 3 = oI ((qscr q w).map (·.2)) → Go yX7_findScream cX7_findScream 4 none 3 12 [some (.ref 32), some (.int (nI w)), d2, d3] [] m (fun r μ' => r = none ∧ FrR 25 33 μ μ' ∧ μ'.1 32 2 = oI ((qscr q (qnum q)).map (·.1)) ∧ μ'.1 32 3 = oI ((qscr q (qnum q)).map (·.2))) := by
  have hn8 := hQ.1.1
  intro k
  induction k using Nat.strongRecOn with
  | ind k ih =>
    intro w d2 d3 m hk hj hF h2 h3
    refine go_il1 dX7_findScream_12 (go_al0 dX7_findScream_13 (go_getR (j := 1) fX7_15 rfl rfl dX7_findScream_14 (go_getR (j := 6) fX7_26 rfl rfl dX7_findScream_17 (go_getI fX7_32 rfl rfl dX7_findScream_20 ?_))))
    refine go_cge 81 dX7_findScream_23 (by decide) (fun h23 => ?_) (fun h23 => ?_)
    · refine go_vret dX7_findScream_81 ?_
      have he : w = qnum q := Nat.le_antisymm hj ((gm_bdN (hQ.frR hF).2.1 (by omega) (by omega)).mp h23)
      subst he
      exact ⟨rfl, hF, h2, h3⟩
    · have hlt : w < qnum q := Nat.not_le.mp (fun z => h23 ((gm_bdN (hQ.frR hF).2.1 (by omega) (by omega)).mpr z))
      refine go_al0 dX7_findScream_26 (go_getR (j := 1) fX7_15 rfl rfl dX7_findScream_27 (go_il1 dX7_findScream_30 ?_))
      refine go_V1 mcX1_begin mvX1_begin kX7_37 rfl dX7_findScream_31 rfl rfl (aBegin (hQ.frR hF) hlt) ?_
      rintro _ m31 ⟨rfl, hT31, hF31⟩
      refine go_as2 dX7_findScream_34 rfl rfl (go_al2 dX7_findScream_35 ?_)
      refine go_V0 mcX9_run mvX9_run kX7_41 rfl dX7_findScream_36 rfl rfl (aRun hT31) ?_
      rintro _ m36 ⟨rfl, hT36, hR36, hE36, hF36⟩
      refine go_al2 dX7_findScream_39 (go_V0r mcX9_firstScream mvX9_firstScream kX7_46 rfl dX7_findScream_40 rfl rfl (aScream hT36 hR36) (go_is3 dX7_findScream_43 rfl rfl (go_il3 dX7_findScream_44 (go_icm1 dX7_findScream_45 ?_))))
      refine go_ceq 75 dX7_findScream_46 (by decide) (fun h46 => ?_) (fun h46 => ?_)
      · refine go_inc1 (k := 1) dX7_findScream_75 (by decide) rfl rfl (go_goto 12 dX7_findScream_78 (by decide) ?_)
        have hS : FrR 25 33 μ m36 := (hF.f25 hF31 (by decide) (by decide)).f25 hF36 (by decide) (by decide)
        have e2 : m36.1 32 2 = oI ((qscr q w).map (·.1)) := by rw [hF36.1 32 (by decide), hF31.1 32 (by decide)]; exact h2
        have e3 : m36.1 32 3 = oI ((qscr q w).map (·.2)) := by rw [hF36.1 32 (by decide), hF31.1 32 (by decide)]; exact h3
        rw [nI_1]
        refine ih (qnum q - (w + 1)) (by omega) (w + 1) _ _ _ rfl (by omega) hS ?_ ?_
        · rw [e2, (qscr_step q w (by omega)).1, if_pos h46]
        · rw [e3, (qscr_step q w (by omega)).2, if_pos h46]
      · refine go_al0 dX7_findScream_49 (go_getI fX7_19 rfl rfl dX7_findScream_50 (go_icm1 dX7_findScream_53 ?_))
        refine go_ceq 65 dX7_findScream_54 (by decide) (fun h54 => ?_) (fun h54 => ?_)
        · refine go_al0 dX7_findScream_65 (go_il3 dX7_findScream_66 (go_putI fX7_19 rfl rfl dX7_findScream_67 (go_al0 dX7_findScream_70 (go_il1 dX7_findScream_71 (go_putI fX7_23 rfl rfl dX7_findScream_72 (go_inc1 (k := 1) dX7_findScream_75 (by decide) rfl rfl (go_goto 12 dX7_findScream_78 (by decide) ?_)))))))
          have hS : FrR 25 33 μ m36 := (hF.f25 hF31 (by decide) (by decide)).f25 hF36 (by decide) (by decide)
          have e2 : m36.1 32 2 = oI ((qscr q w).map (·.1)) := by rw [hF36.1 32 (by decide), hF31.1 32 (by decide)]; exact h2
          have e3 : m36.1 32 3 = oI ((qscr q w).map (·.2)) := by rw [hF36.1 32 (by decide), hF31.1 32 (by decide)]; exact h3
          rw [e2] at h54
          rw [nI_1]
          refine ih (qnum q - (w + 1)) (by omega) (w + 1) _ _ _ rfl (by omega) ((hS.I 2 _ (by decide) (by decide)).I 3 _ (by decide) (by decide)) ?_ ?_
          · rw [gm_Io _ _ _ (by decide), gm_Is, (qscr_step q w (by omega)).1, if_neg h46, if_pos h54]
          · rw [gm_Is, (qscr_step q w (by omega)).2, if_neg h46, if_pos h54]
        · refine go_il3 dX7_findScream_57 (go_al0 dX7_findScream_58 (go_getI fX7_19 rfl rfl dX7_findScream_59 ?_))
          refine go_cge 75 dX7_findScream_62 (by decide) (fun h62 => ?_) (fun h62 => ?_)
          · refine go_inc1 (k := 1) dX7_findScream_75 (by decide) rfl rfl (go_goto 12 dX7_findScream_78 (by decide) ?_)
            have hS : FrR 25 33 μ m36 := (hF.f25 hF31 (by decide) (by decide)).f25 hF36 (by decide) (by decide)
            have e2 : m36.1 32 2 = oI ((qscr q w).map (·.1)) := by rw [hF36.1 32 (by decide), hF31.1 32 (by decide)]; exact h2
            have e3 : m36.1 32 3 = oI ((qscr q w).map (·.2)) := by rw [hF36.1 32 (by decide), hF31.1 32 (by decide)]; exact h3
            rw [e2] at h54 h62
            rw [nI_1]
            refine ih (qnum q - (w + 1)) (by omega) (w + 1) _ _ _ rfl (by omega) hS ?_ ?_
            · rw [e2, (qscr_step q w (by omega)).1, if_neg h46, if_neg h54, if_pos h62]
            · rw [e3, (qscr_step q w (by omega)).2, if_neg h46, if_neg h54, if_pos h62]
          · refine go_al0 dX7_findScream_65 (go_il3 dX7_findScream_66 (go_putI fX7_19 rfl rfl dX7_findScream_67 (go_al0 dX7_findScream_70 (go_il1 dX7_findScream_71 (go_putI fX7_23 rfl rfl dX7_findScream_72 (go_inc1 (k := 1) dX7_findScream_75 (by decide) rfl rfl (go_goto 12 dX7_findScream_78 (by decide) ?_)))))))
            have hS : FrR 25 33 μ m36 := (hF.f25 hF31 (by decide) (by decide)).f25 hF36 (by decide) (by decide)
            have e2 : m36.1 32 2 = oI ((qscr q w).map (·.1)) := by rw [hF36.1 32 (by decide), hF31.1 32 (by decide)]; exact h2
            have e3 : m36.1 32 3 = oI ((qscr q w).map (·.2)) := by rw [hF36.1 32 (by decide), hF31.1 32 (by decide)]; exact h3
            rw [e2] at h54 h62
            rw [nI_1]
            refine ih (qnum q - (w + 1)) (by omega) (w + 1) _ _ _ rfl (by omega) ((hS.I 2 _ (by decide) (by decide)).I 3 _ (by decide) (by decide)) ?_ ?_
            · rw [gm_Io _ _ _ (by decide), gm_Is, (qscr_step q w (by omega)).1, if_neg h46, if_neg h54, if_neg h62]
            · rw [gm_Is, (qscr_step q w (by omega)).2, if_neg h46, if_neg h54, if_neg h62]
set_option maxRecDepth 100000 in
set_option maxHeartbeats 400000 in
theorem aX7_findScream {q : QS} {μ : gm_M} (hQ : CQ q μ) : Sat yX7_findScream cX7_findScream 4 none 3 [(.ref 32)] μ (fun r μ' => r = none ∧ FrR 25 33 μ μ' ∧ μ'.1 32 2 = oI ((qscr q (qnum q)).map (·.1)) ∧ μ'.1 32 3 = oI ((qscr q (qnum q)).map (·.2))) := by
  refine Sat.of (L := [some (.ref 32), none, none, none]) (by decide) (fun _ => rfl) (fun _ => rfl) ?_
  refine go_al0 dX7_findScream_0 (go_icm1 dX7_findScream_1 (go_putI fX7_19 rfl rfl dX7_findScream_2 (go_al0 dX7_findScream_5 (go_icm1 dX7_findScream_6 (go_putI fX7_23 rfl rfl dX7_findScream_7 (go_ic0 dX7_findScream_10 (go_is1 dX7_findScream_11 rfl rfl ?_)))))))
  exact aX7_scr_loop hQ _ 0 _ _ _ rfl (Nat.zero_le _) (((FrR.rf μ).I 2 _ (by decide) (by decide)).I 3 _ (by decide) (by decide)) (by rw [gm_Io _ _ _ (by decide), gm_Is]; rfl) (by rw [gm_Is]; rfl)

/-- the nights on which one of the first k wheels is heard, the number of those that are eaten -/
def qhd (q : QS) (n : Nat) : Nat → Bool
  | 0 => false
  | k + 1 => qhd q n k || (tm (trof q 9 k) n).isSome
def qea (q : QS) : Nat → Nat
  | 0 => 0
  | k + 1 => qea q k + (if (ta (trof q 9 k) 30).2 = true then 1 else 0)
theorem b_30 : ∀ n, n < 32 → bt 1073741823 n = decide (n < 30) := by decide +kernel
set_option maxRecDepth 100000 in
set_option maxHeartbeats 400000 in
theorem aX7_sil_loop {q : QS} {μ : gm_M} (hQ : CQ q μ) : ∀ (k w : Nat) (b : Int32) (d3 : Option Value) (m : gm_M), qnum q - w = k → w ≤ qnum q → FrR 25 33 μ m → (∀ n, n < 30 → bt b n = qhd q n w) → Go yX7_silentNights cX7_silentNights 4 (some .int) 3 4 [some (.ref 32), some (.int b), some (.int (nI w)), d3] [] m (fun r μ' => ∃ v : Int32, r = some (.int v) ∧ FrR 25 33 μ μ' ∧ ∀ n, n < 32 → bt v n = (decide (n < 30) && !qhd q n (qnum q))) := by
  have hn8 := hQ.1.1
  intro k
  induction k using Nat.strongRecOn with
  | ind k ih =>
    intro w b d3 m hk hj hF hb
    refine go_il2 dX7_silentNights_4 (go_al0 dX7_silentNights_5 (go_getR (j := 1) fX7_15 rfl rfl dX7_silentNights_6 (go_getR (j := 6) fX7_26 rfl rfl dX7_silentNights_9 (go_getI fX7_32 rfl rfl dX7_silentNights_12 ?_))))
    refine go_cge 44 dX7_silentNights_15 (by decide) (fun h15 => ?_) (fun h15 => ?_)
    · refine go_ldc dX7_silentNights_44 nX7_79 (go_il1 dX7_silentNights_46 (go_icm1 dX7_silentNights_47 (go_ixor dX7_silentNights_48 (go_iand dX7_silentNights_49 ?_))))
      refine go_iret dX7_silentNights_50 ?_
      have he : w = qnum q := Nat.le_antisymm hj ((gm_bdN (hQ.frR hF).2.1 (by omega) (by omega)).mp h15)
      subst he
      refine ⟨_, rfl, hF, fun n hn => ?_⟩
      rw [b_and, b_xor, b_m1 n hn, b_30 n hn]
      by_cases c : n < 30
      · rw [hb n c]
        simp [c]
      · simp [c]
    · have hlt : w < qnum q := Nat.not_le.mp (fun z => h15 ((gm_bdN (hQ.frR hF).2.1 (by omega) (by omega)).mpr z))
      refine go_al0 dX7_silentNights_18 (go_getR (j := 1) fX7_15 rfl rfl dX7_silentNights_19 (go_il2 dX7_silentNights_22 ?_))
      refine go_V1 mcX1_begin mvX1_begin kX7_37 rfl dX7_silentNights_23 rfl rfl (aBegin (hQ.frR hF) hlt) ?_
      rintro _ m23 ⟨rfl, hT23, hF23⟩
      refine go_as3 dX7_silentNights_26 rfl rfl (go_al3 dX7_silentNights_27 ?_)
      refine go_V0 mcX9_run mvX9_run kX7_41 rfl dX7_silentNights_28 rfl rfl (aRun hT23) ?_
      rintro _ m28 ⟨rfl, hT28, hR28, hE28, hF28⟩
      refine go_il1 dX7_silentNights_31 (go_al3 dX7_silentNights_32 (go_getI fX7_76 rfl rfl dX7_silentNights_33 (go_ior dX7_silentNights_36 (go_is1 dX7_silentNights_37 rfl rfl (go_inc2 (k := 1) dX7_silentNights_38 (by decide) rfl rfl (go_goto 4 dX7_silentNights_41 (by decide) ?_))))))
      have hS : FrR 25 33 μ m28 := (hF.f25 hF23 (by decide) (by decide)).f25 hF28 (by decide) (by decide)
      rw [nI_1]
      refine ih (qnum q - (w + 1)) (by omega) (w + 1) _ _ _ rfl (by omega) hS (fun n hn => ?_)
      rw [b_or, hb n hn, hR28.2 n hn, qhd]
      simp [hn]
set_option maxRecDepth 100000 in
set_option maxHeartbeats 400000 in
theorem aX7_silentNights {q : QS} {μ : gm_M} (hQ : CQ q μ) : Sat yX7_silentNights cX7_silentNights 4 (some .int) 3 [(.ref 32)] μ (fun r μ' => ∃ v : Int32, r = some (.int v) ∧ FrR 25 33 μ μ' ∧ ∀ n, n < 32 → bt v n = (decide (n < 30) && !qhd q n (qnum q))) := by
  refine Sat.of (L := [some (.ref 32), none, none, none]) (by decide) (fun _ => rfl) (fun _ => rfl) ?_
  refine go_ic0 dX7_silentNights_0 (go_is1 dX7_silentNights_1 rfl rfl (go_ic0 dX7_silentNights_2 (go_is2 dX7_silentNights_3 rfl rfl ?_)))
  exact aX7_sil_loop hQ _ 0 _ _ _ rfl (Nat.zero_le _) (FrR.rf μ) (fun n _ => b_0 n)

set_option maxRecDepth 100000 in
set_option maxHeartbeats 400000 in
theorem aX7_eat_loop {q : QS} {μ : gm_M} (hQ : CQ q μ) : ∀ (k w : Nat) (d3 : Option Value) (m : gm_M), qnum q - w = k → w ≤ qnum q → FrR 25 33 μ m → Go yX7_eatenWheels cX7_eatenWheels 4 (some .int) 3 4 [some (.ref 32), some (.int (nI (qea q w))), some (.int (nI w)), d3] [] m (fun r μ' => r = some (.int (nI (qea q (qnum q)))) ∧ FrR 25 33 μ μ') := by
  have hn8 := hQ.1.1
  intro k
  induction k using Nat.strongRecOn with
  | ind k ih =>
    intro w d3 m hk hj hF
    refine go_il2 dX7_eatenWheels_4 (go_al0 dX7_eatenWheels_5 (go_getR (j := 1) fX7_15 rfl rfl dX7_eatenWheels_6 (go_getR (j := 6) fX7_26 rfl rfl dX7_eatenWheels_9 (go_getI fX7_32 rfl rfl dX7_eatenWheels_12 ?_))))
    refine go_cge 52 dX7_eatenWheels_15 (by decide) (fun h15 => ?_) (fun h15 => ?_)
    · refine go_il1 dX7_eatenWheels_52 ?_
      refine go_iret dX7_eatenWheels_53 ?_
      have he : w = qnum q := Nat.le_antisymm hj ((gm_bdN (hQ.frR hF).2.1 (by omega) (by omega)).mp h15)
      subst he
      exact ⟨rfl, hF⟩
    · have hlt : w < qnum q := Nat.not_le.mp (fun z => h15 ((gm_bdN (hQ.frR hF).2.1 (by omega) (by omega)).mpr z))
      refine go_al0 dX7_eatenWheels_18 (go_getR (j := 1) fX7_15 rfl rfl dX7_eatenWheels_19 (go_il2 dX7_eatenWheels_22 ?_))
      refine go_V1 mcX1_begin mvX1_begin kX7_37 rfl dX7_eatenWheels_23 rfl rfl (aBegin (hQ.frR hF) hlt) ?_
      rintro _ m23 ⟨rfl, hT23, hF23⟩
      refine go_as3 dX7_eatenWheels_26 rfl rfl (go_al3 dX7_eatenWheels_27 ?_)
      refine go_V0 mcX9_run mvX9_run kX7_41 rfl dX7_eatenWheels_28 rfl rfl (aRun hT23) ?_
      rintro _ m28 ⟨rfl, hT28, hR28, hE28, hF28⟩
      refine go_il1 dX7_eatenWheels_31 (go_al3 dX7_eatenWheels_32 (go_getI fX7_80 rfl rfl dX7_eatenWheels_33 ?_))
      refine go_ifeq 43 dX7_eatenWheels_36 (by decide) (fun h36 => ?_) (fun h36 => ?_)
      · refine go_ic0 dX7_eatenWheels_43 (go_iadd dX7_eatenWheels_44 (go_is1 dX7_eatenWheels_45 rfl rfl (go_inc2 (k := 1) dX7_eatenWheels_46 (by decide) rfl rfl (go_goto 4 dX7_eatenWheels_49 (by decide) ?_))))
        have hS : FrR 25 33 μ m28 := (hF.f25 hF23 (by decide) (by decide)).f25 hF28 (by decide) (by decide)
        have e2 : (ta (trof q 9 w) 30).2 = false := by
          rw [hE28] at h36
          cases hc : (ta (trof q 9 w) 30).2 with
          | true => first | rfl | (rw [hc] at h36; exact absurd h36 (by decide))
          | false => first | rfl | (rw [hc] at h36; exact absurd rfl h36)
        rw [nI_1, ← nI_0, nI_add]
        have e3 : qea q (w + 1) = qea q w + 0 := by rw [qea, e2]; rfl
        rw [← e3]
        exact ih (qnum q - (w + 1)) (by omega) (w + 1) _ _ rfl (by omega) hS
      · refine go_ic1 dX7_eatenWheels_39 (go_goto 44 dX7_eatenWheels_40 (by decide) (go_iadd dX7_eatenWheels_44 (go_is1 dX7_eatenWheels_45 rfl rfl (go_inc2 (k := 1) dX7_eatenWheels_46 (by decide) rfl rfl (go_goto 4 dX7_eatenWheels_49 (by decide) ?_)))))
        have hS : FrR 25 33 μ m28 := (hF.f25 hF23 (by decide) (by decide)).f25 hF28 (by decide) (by decide)
        have e2 : (ta (trof q 9 w) 30).2 = true := by
          rw [hE28] at h36
          cases hc : (ta (trof q 9 w) 30).2 with
          | true => first | rfl | (rw [hc] at h36; exact absurd h36 (by decide))
          | false => first | rfl | (rw [hc] at h36; exact absurd rfl h36)
        rw [nI_1, nI_1]
        have e3 : qea q (w + 1) = qea q w + 1 := by rw [qea, e2]; rfl
        rw [← e3]
        exact ih (qnum q - (w + 1)) (by omega) (w + 1) _ _ rfl (by omega) hS
set_option maxRecDepth 100000 in
set_option maxHeartbeats 400000 in
theorem aX7_eatenWheels {q : QS} {μ : gm_M} (hQ : CQ q μ) : Sat yX7_eatenWheels cX7_eatenWheels 4 (some .int) 3 [(.ref 32)] μ (fun r μ' => r = some (.int (nI (qea q (qnum q)))) ∧ FrR 25 33 μ μ') := by
  refine Sat.of (L := [some (.ref 32), none, none, none]) (by decide) (fun _ => rfl) (fun _ => rfl) ?_
  refine go_ic0 dX7_eatenWheels_0 (go_is1 dX7_eatenWheels_1 rfl rfl (go_ic0 dX7_eatenWheels_2 (go_is2 dX7_eatenWheels_3 rfl rfl ?_)))
  exact aX7_eat_loop hQ _ 0 _ _ rfl (Nat.zero_le _) (FrR.rf μ)

