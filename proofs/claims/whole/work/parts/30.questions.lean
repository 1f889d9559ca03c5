/-! CHEESEEAR: the questions. What each answers, out of what is told -/
def inW (q : QS) (w : Int32) : Bool := decide (¬ w < 0) && decide (¬ nI (qnum q) ≤ w)
theorem inW_of {q : QS} (hq : qok q) {w : Int32} (h : inW q w = true) : ∃ k, k < qnum q ∧ w = nI k := by
  unfold inW at h
  have h1 : ¬ w < 0 := by simpa using (Bool.and_eq_true_iff.mp h).1
  have h2 : ¬ nI (qnum q) ≤ w := by simpa using (Bool.and_eq_true_iff.mp h).2
  have h8 := hq.1
  obtain ⟨k, hk, e⟩ := vp_in_of (gm_in h1 h2 (by omega)) (by omega)
  exact ⟨k, hk, e⟩
theorem gnight_of {n : Int32} (h : gnight n = true) : ∃ k, k < 30 ∧ n = nI k := by
  unfold gnight at h
  have h1 : ¬ n < 0 := by simpa using (Bool.and_eq_true_iff.mp h).1
  have h2 : ¬ (30 : Int32) ≤ n := by simpa using (Bool.and_eq_true_iff.mp h).2
  obtain ⟨k, hk, e⟩ := vp_in_of (gm_in (n := 30) h1 h2 (by decide)) (by decide)
  exact ⟨k, hk, e⟩
theorem int_of {x B : Int32} {N : Nat} (hB : B = nI N) (hN : N < 2 ^ 31) (h1 : ¬ x < 0) (h2 : x ≤ B) : ∃ k, k ≤ N ∧ x = nI k := by
  obtain ⟨k, hk, e⟩ := nI_of h1
  refine ⟨k, ?_, e⟩
  rw [e, hB, nI_leI hk hN] at h2
  exact h2
theorem aHasI {q : QS} {μ : gm_M} (hQ : CQ q μ) (w : Int32) : Ret yX1_has cX1_has 2 (some .boolean) 0 [.ref 1, .int w] μ (some (.int (gb (inW q w)))) μ := by
  have := sX1_has w μ
  rw [hQ.2.1] at this
  exact this
/-- a number out of its bits -/
def mkB (p : Nat → Bool) : Nat → Int32
  | 0 => 0
  | n + 1 => if p n = true then mkB p n ||| (1 : Int32) <<< (nI n &&& 31) else mkB p n
theorem mkB_bt (p : Nat → Bool) : ∀ n, n ≤ 32 → ∀ i, i < 32 → bt (mkB p n) i = (decide (i < n) && p i) := by
  intro n
  induction n with
  | zero => intro _ i _; rw [mkB, b_0]; simp
  | succ n ih =>
    intro hn i hi
    have h0 := ih (by omega) i hi
    rw [mkB]
    by_cases c : p n = true
    · rw [if_pos c, b_or, h0, b_one (by omega) hi]
      by_cases e : i = n
      · subst e; simp [c]
      · have e1 : (i < n + 1) = (i < n) := propext (by omega)
        simp [e, e1]
    · rw [if_neg c, h0]
      by_cases e : i = n
      · subst e; simp [c]
      · have e1 : (i < n + 1) = (i < n) := propext (by omega)
        simp [e1]
theorem mkB_eq {v : Int32} {p : Nat → Bool} (h : ∀ n, n < 32 → bt v n = p n) : v = mkB p 32 := b_ext (fun i hi => by rw [h i hi, mkB_bt p 32 (Nat.le_refl _) i hi]; simp [hi])
abbrev wN (w : Int32) : Nat := w.toNatClampNeg
theorem wN_nI {k : Nat} (h : k < 2 ^ 31) : wN (nI k) = k := nI_clamp h
def sAt (q : QS) (n w x : Int32) : Int32 := if gnight n = true then (if inW q w = true then (if x < 0 then -2 else if x ≤ 2 then (if x = 0 then nI (ta (trof q 9 (wN w)) (wN n + 1)).1 else if x = 1 then oI (qhe q (wN w) (wN n)) else nI (tst (trof q 9 (wN w)) (wN n))) else -2) else -2) else -2
def sLongs (q : QS) (w : Int32) : Int32 := if inW q w = true then nI (tct (trof q 9 (wN w)) 30) else -2
def sScream (q : QS) (x : Int32) : Int32 := if x < 0 then -2 else if x ≤ 1 then (if x = 0 then oI ((qscr q (qnum q)).map (·.1)) else oI ((qscr q (qnum q)).map (·.2))) else -2
def qchord (q : QS) (l : Nat) : Option (Nat × Nat) := bestF (fun n => qch q l n (qnum q)) 30
def sChord (q : QS) (l x : Int32) : Int32 := if l < 0 then -2 else if 8 ≤ l then -2 else if x < 0 then -2 else if x ≤ 1 then (if x = 0 then oI ((qchord q (wN l)).map (·.1)) else oI ((qchord q (wN l)).map (·.2))) else -2
def sHush (q : QS) : Int32 := mkB (fun n => decide (n < 30) && !qhd q n (qnum q)) 32
def sRipe (q : QS) (w n i : Int32) : Int32 := if inW q w = true then (if gnight n = true then (if i < -1 then -2 else if i ≤ 1 then (if i = -1 then (ripA (trof q 9 (wN w)) (wN n)).1 else if i = 0 then (ripA (trof q 9 (wN w)) (wN n)).2.1 else (ripA (trof q 9 (wN w)) (wN n)).2.2) else -2) else -2) else -2
def sCold (q : QS) (w x : Int32) : Int32 := if inW q w = true then (if x < 0 then -2 else if x ≤ 1 then (if x = 0 then (bestI (tcold (trof q 9 (wN w))) 30).1 else (bestI (tcold (trof q 9 (wN w))) 30).2) else -2) else -2
def sCome (q : QS) (w x : Int32) : Int32 := if inW q w = true then (if x < 0 then -2 else if x ≤ 1 then (if x = 0 then (bestI (tcome (trof q 9 (wN w))) 20).1 else (bestI (tcome (trof q 9 (wN w))) 20).2) else -2) else -2
def sNever (q : QS) : Int32 := mkB (fun n => decide (n < qtN q) && qoth q 9 n) 32
def qfromB (q : QS) (w n : Nat) : Bool := decide (n < 20) && (qoth q w 9 && qfit q (trf (trof q 9 w) n) w)
def qsortB (q : QS) (w n : Nat) : Bool := decide (n < 3) && (qoth q w 9 && qfit q (trs (trof q 9 w) n) w)
def sWas (q : QS) (w x : Int32) : Int32 := if inW q w = true then (if x < 0 then -2 else if x ≤ 1 then (if x = 0 then mkB (qfromB q (wN w)) 32 else mkB (qsortB q (wN w)) 32) else -2) else -2
def sAsk (q : QS) (w : Int32) : Int32 := if inW q w = true then nI (aminF (qmost q (wN w) (bt (mkB (qfromB q (wN w)) 32))) 29).1 else -2
def sFrost (q : QS) (c l w n x : Int32) : Int64 := if c < 0 then -9223372036854775806 else if 16 < c then -9223372036854775806 else if l < 0 then -9223372036854775806 else if 9 < l then -9223372036854775806 else if inW q w = true then (if gnight n = true then (if x < 0 then -9223372036854775806 else if x ≤ 1 then (if x = 0 then lN (frostN (trof q 9 (wN w)) (wN c) (wN l) (wN n)).1 else lN (frostN (trof q 9 (wN w)) (wN c) (wN l) (wN n)).2) else -9223372036854775806) else -9223372036854775806) else -9223372036854775806
def qsumT (q : QS) (s : Int32) (n : Nat) : Int32 := if qnum q = 0 then 0 else gbc (mkB (fun j => decide (j < 30) && qsh2 q s n j (qnum q)) 32)
def sSummer (q : QS) (s n x : Int32) : Int32 := if n < 0 then -2 else if 30 < n then -2 else if x < 0 then -2 else if x ≤ 1 then (if x = 0 then qsumT q s (wN n) else nI (qse q s (wN n) (qnum q))) else -2
set_option maxRecDepth 100000 in
set_option maxHeartbeats 400000 in
theorem p_longs {q : QS} {μ : gm_M} (hQ : CQ q μ) (w : Int32) : Sat yX11_longs cX11_longs 2 (some .int) 3 [(.ref 0), (.int w)] μ (fun r μ' => r = some (.int (sLongs q w)) ∧ FrR 25 42 μ μ') := by
  refine Sat.of (L := [some (.ref 0), some (.int w)]) (by decide) (fun _ => rfl) (fun _ => rfl) ?_
  refine go_al0 dX11_longs_0 (go_getR (j := 1) fX11_12 rfl rfl dX11_longs_1 (go_il1 dX11_longs_4 (go_V1r mcX1_has mvX1_has kX11_94 rfl dX11_longs_5 rfl rfl (aHasI hQ _) ?_)))
  refine go_ifneB 14 dX11_longs_8 (by decide) (fun h8 => ?_) (fun h8 => ?_)
  · obtain ⟨k, hk, rfl⟩ := inW_of hQ.1 h8
    have hn8 := hQ.1.1
    refine go_al0 dX11_longs_14 (go_getR (j := 1) fX11_12 rfl rfl dX11_longs_15 (go_il1 dX11_longs_18 ?_))
    refine go_V1 mcX1_begin mvX1_begin kX11_155 rfl dX11_longs_19 rfl rfl (aBegin hQ hk) ?_
    rintro _ m19 ⟨rfl, hT19, hF19⟩
    refine go_V0r mcX9_heardLong mvX9_heardLong kX11_173 rfl dX11_longs_22 rfl rfl (aLong hT19) ?_
    refine go_iret dX11_longs_25 ?_
    exact ⟨by simp only [sLongs, if_pos h8, wN_nI (show k < 2 ^ 31 by omega)], (FrR.rf μ).f25 hF19 (by decide) (by decide)⟩
  · refine go_bipush (v := -2) dX11_longs_11 (by decide) ?_
    refine go_iret dX11_longs_13 ?_
    exact ⟨by simp only [sLongs, if_neg (gf h8)], FrR.rf μ⟩

theorem aAge {t : TR} {μ : gm_M} (hR : RO t 30 μ) {n : Nat} (hn : n < 30) : Ret yX9_ageOn cX9_ageOn 2 (some .int) 1 [.ref 25, .int (nI n)] μ (some (.int (nI (ta t (n + 1)).1))) μ := by
  rw [← (hR.1 n hn).1, ← gi_nI (f := μ.1 28) hn (by decide) 0]
  exact sX9_ageOn (nI n) μ
theorem aState {t : TR} {μ : gm_M} (hR : RO t 30 μ) {n : Nat} (hn : n < 30) : Ret yX9_stateOn cX9_stateOn 2 (some .int) 1 [.ref 25, .int (nI n)] μ (some (.int (nI (tst t n)))) μ := by
  rw [← (hR.1 n hn).2.2.2, ← gi_nI (f := μ.1 31) hn (by decide) 0]
  exact sX9_stateOn (nI n) μ
set_option maxRecDepth 100000 in
set_option maxHeartbeats 400000 in
theorem p_at {q : QS} {μ : gm_M} (hQ : CQ q μ) (n w x : Int32) : Sat yX11_at cX11_at 5 (some .int) 3 [(.ref 0), (.int n), (.int w), (.int x)] μ (fun r μ' => r = some (.int (sAt q n w x)) ∧ FrR 25 42 μ μ') := by
  refine Sat.of (L := [some (.ref 0), some (.int n), some (.int w), some (.int x), none]) (by decide) (fun _ => rfl) (fun _ => rfl) ?_
  refine go_il1 dX11_at_0 (go_S1r mcX11_isNight mvX11_isNight kX11_111 dX11_at_1 rfl rfl (sX11_isNight _ _) ?_)
  refine go_ifeqB 27 dX11_at_4 (by decide) (fun h4 => ?_) (fun h4 => ?_)
  · refine go_bipush (v := -2) dX11_at_27 (by decide) ?_
    refine go_iret dX11_at_29 ?_
    exact ⟨by simp only [sAt, if_neg (gf h4)], FrR.rf μ⟩
  · refine go_al0 dX11_at_7 (go_getR (j := 1) fX11_12 rfl rfl dX11_at_8 (go_il2 dX11_at_11 (go_V1r mcX1_has mvX1_has kX11_94 rfl dX11_at_12 rfl rfl (aHasI hQ _) ?_)))
    refine go_ifeqB 27 dX11_at_15 (by decide) (fun h15 => ?_) (fun h15 => ?_)
    · refine go_bipush (v := -2) dX11_at_27 (by decide) ?_
      refine go_iret dX11_at_29 ?_
      exact ⟨by simp only [sAt, if_pos h4, if_neg (gf h15)], FrR.rf μ⟩
    · refine go_il3 dX11_at_18 ?_
      refine go_iflt 27 dX11_at_19 (by decide) (fun h19 => ?_) (fun h19 => ?_)
      · refine go_bipush (v := -2) dX11_at_27 (by decide) ?_
        refine go_iret dX11_at_29 ?_
        exact ⟨by simp only [sAt, if_pos h4, if_pos h15, if_pos h19], FrR.rf μ⟩
      · refine go_il3 dX11_at_22 (go_ic2 dX11_at_23 ?_)
        refine go_cle 30 dX11_at_24 (by decide) (fun h24 => ?_) (fun h24 => ?_)
        · obtain ⟨n, hn, rfl⟩ := gnight_of h4
          obtain ⟨k, hk, rfl⟩ := inW_of hQ.1 h15
          have hn8 := hQ.1.1
          refine go_al0 dX11_at_30 (go_getR (j := 1) fX11_12 rfl rfl dX11_at_31 (go_il2 dX11_at_34 ?_))
          refine go_V1 mcX1_begin mvX1_begin kX11_155 rfl dX11_at_35 rfl rfl (aBegin hQ hk) ?_
          rintro _ m35 ⟨rfl, hT35, hF35⟩
          refine go_as4 dX11_at_38 rfl rfl (go_al4 dX11_at_40 ?_)
          refine go_V0 mcX9_run mvX9_run kX11_159 rfl dX11_at_42 rfl rfl (aRun hT35) ?_
          rintro _ m42 ⟨rfl, hT42, hR42, hE42, hF42⟩
          refine go_il3 dX11_at_45 ?_
          refine go_ifne 56 dX11_at_46 (by decide) (fun h46 => ?_) (fun h46 => ?_)
          · refine go_il3 dX11_at_56 (go_ic1 dX11_at_57 ?_)
            refine go_cne 70 dX11_at_58 (by decide) (fun h58 => ?_) (fun h58 => ?_)
            · refine go_al4 dX11_at_70 (go_il1 dX11_at_72 (go_V1r mcX9_stateOn mvX9_stateOn kX11_170 rfl dX11_at_73 rfl rfl (aState hR42 hn) ?_))
              refine go_iret dX11_at_76 ?_
              refine ⟨?_, ((FrR.rf μ).f25 hF35 (by decide) (by decide)).f25 hF42 (by decide) (by decide)⟩
              simp only [sAt, if_pos h4, if_pos h15, if_neg h19, if_pos h24, if_neg h46, if_neg h58, wN_nI (show k < 2 ^ 31 by omega), wN_nI (show n < 2 ^ 31 by omega)]
              try rfl
            · refine go_al4 dX11_at_61 (go_il1 dX11_at_63 (go_V1r mcX9_heardOn mvX9_heardOn kX11_167 rfl dX11_at_64 rfl rfl (aHeard hR42 hn) (go_goto 76 dX11_at_67 (by decide) ?_)))
              refine go_iret dX11_at_76 ?_
              refine ⟨?_, ((FrR.rf μ).f25 hF35 (by decide) (by decide)).f25 hF42 (by decide) (by decide)⟩
              simp only [sAt, if_pos h4, if_pos h15, if_neg h19, if_pos h24, if_neg h46, if_pos h58, wN_nI (show k < 2 ^ 31 by omega), wN_nI (show n < 2 ^ 31 by omega)]
              try rfl
          · refine go_al4 dX11_at_49 (go_il1 dX11_at_51 (go_V1r mcX9_ageOn mvX9_ageOn kX11_164 rfl dX11_at_52 rfl rfl (aAge hR42 hn) ?_))
            refine go_iret dX11_at_55 ?_
            refine ⟨?_, ((FrR.rf μ).f25 hF35 (by decide) (by decide)).f25 hF42 (by decide) (by decide)⟩
            simp only [sAt, if_pos h4, if_pos h15, if_neg h19, if_pos h24, if_pos h46, wN_nI (show k < 2 ^ 31 by omega), wN_nI (show n < 2 ^ 31 by omega)]
            try rfl
        · refine go_bipush (v := -2) dX11_at_27 (by decide) ?_
          refine go_iret dX11_at_29 ?_
          exact ⟨by simp only [sAt, if_pos h4, if_pos h15, if_neg h19, if_neg h24], FrR.rf μ⟩

set_option maxRecDepth 100000 in
set_option maxHeartbeats 400000 in
theorem p_scream {q : QS} {μ : gm_M} (hQ : CQ q μ) (x : Int32) : Sat yX11_scream cX11_scream 2 (some .int) 4 [(.ref 0), (.int x)] μ (fun r μ' => r = some (.int (sScream q x)) ∧ FrR 25 42 μ μ') := by
  refine Sat.of (L := [some (.ref 0), some (.int x)]) (by decide) (fun _ => rfl) (fun _ => rfl) ?_
  refine go_il1 dX11_scream_0 ?_
  refine go_iflt 9 dX11_scream_1 (by decide) (fun h1 => ?_) (fun h1 => ?_)
  · refine go_bipush (v := -2) dX11_scream_9 (by decide) ?_
    refine go_iret dX11_scream_11 ?_
    exact ⟨by simp only [sScream, if_pos h1], FrR.rf μ⟩
  · refine go_il1 dX11_scream_4 (go_ic1 dX11_scream_5 ?_)
    refine go_cle 12 dX11_scream_6 (by decide) (fun h6 => ?_) (fun h6 => ?_)
    · refine go_al0 dX11_scream_12 (go_getR (j := 32) fX11_21 rfl rfl dX11_scream_13 ?_)
      refine go_V0 mcX7_findScream mvX7_findScream kX11_177 rfl dX11_scream_16 rfl rfl (aX7_findScream hQ) ?_
      rintro _ m16 ⟨rfl, hF16, hA16, hB16⟩
      refine go_il1 dX11_scream_19 ?_
      refine go_ifne 33 dX11_scream_20 (by decide) (fun h20 => ?_) (fun h20 => ?_)
      · refine go_al0 dX11_scream_33 (go_getR (j := 32) fX11_21 rfl rfl dX11_scream_34 (go_getI fX11_183 rfl rfl dX11_scream_37 ?_))
        refine go_iret dX11_scream_40 ?_
        refine ⟨?_, hF16.wide (by decide)⟩
        simp only [sScream, if_neg h1, if_pos h6, if_neg h20]
        first | rw [hA16] | rw [hB16]
      · refine go_al0 dX11_scream_23 (go_getR (j := 32) fX11_21 rfl rfl dX11_scream_24 (go_getI fX11_180 rfl rfl dX11_scream_27 (go_goto 40 dX11_scream_30 (by decide) ?_)))
        refine go_iret dX11_scream_40 ?_
        refine ⟨?_, hF16.wide (by decide)⟩
        simp only [sScream, if_neg h1, if_pos h6, if_pos h20]
        first | rw [hA16] | rw [hB16]
    · refine go_bipush (v := -2) dX11_scream_9 (by decide) ?_
      refine go_iret dX11_scream_11 ?_
      exact ⟨by simp only [sScream, if_neg h1, if_neg h6], FrR.rf μ⟩

theorem bestF_cong {f g : Nat → Nat} {N : Nat} (h : ∀ n, n < N → f n = g n) : ∀ n, n ≤ N → bestF f n = bestF g n := by
  intro n
  induction n with
  | zero => intro _; rfl
  | succ n ih => intro hn; rw [bestF, bestF, ih (by omega), h n (by omega)]
set_option maxRecDepth 100000 in
set_option maxHeartbeats 400000 in
theorem p_chord {q : QS} {μ : gm_M} (hQ : CQ q μ) (l x : Int32) : Sat yX11_chord cX11_chord 3 (some .int) 4 [(.ref 0), (.int l), (.int x)] μ (fun r μ' => r = some (.int (sChord q l x)) ∧ FrR 25 42 μ μ') := by
  refine Sat.of (L := [some (.ref 0), some (.int l), some (.int x)]) (by decide) (fun _ => rfl) (fun _ => rfl) ?_
  refine go_il1 dX11_chord_0 ?_
  refine go_iflt 19 dX11_chord_1 (by decide) (fun h1 => ?_) (fun h1 => ?_)
  · refine go_bipush (v := -2) dX11_chord_19 (by decide) ?_
    refine go_iret dX11_chord_21 ?_
    exact ⟨by simp only [sChord, if_pos h1], FrR.rf μ⟩
  · refine go_il1 dX11_chord_4 (go_bipush (v := 8) dX11_chord_5 (by decide) ?_)
    refine go_cge 19 dX11_chord_7 (by decide) (fun h7 => ?_) (fun h7 => ?_)
    · refine go_bipush (v := -2) dX11_chord_19 (by decide) ?_
      refine go_iret dX11_chord_21 ?_
      exact ⟨by simp only [sChord, if_neg h1, if_pos h7], FrR.rf μ⟩
    · refine go_il2 dX11_chord_10 ?_
      refine go_iflt 19 dX11_chord_11 (by decide) (fun h11 => ?_) (fun h11 => ?_)
      · refine go_bipush (v := -2) dX11_chord_19 (by decide) ?_
        refine go_iret dX11_chord_21 ?_
        exact ⟨by simp only [sChord, if_neg h1, if_neg h7, if_pos h11], FrR.rf μ⟩
      · refine go_il2 dX11_chord_14 (go_ic1 dX11_chord_15 ?_)
        refine go_cle 22 dX11_chord_16 (by decide) (fun h16 => ?_) (fun h16 => ?_)
        · refine go_al0 dX11_chord_22 (go_getR (j := 32) fX11_21 rfl rfl dX11_chord_23 ?_)
          refine go_V0 mcX7_tallyLetters mvX7_tallyLetters kX11_186 rfl dX11_chord_26 rfl rfl (aX7_tallyLetters hQ) ?_
          rintro _ m26 ⟨rfl, hF26, ht26⟩
          obtain ⟨k, hk, rfl⟩ := vp_in_of (gm_in (n := 8) h1 h7 (by decide)) (by decide)
          refine go_al0 dX11_chord_29 (go_getR (j := 32) fX11_21 rfl rfl dX11_chord_30 (go_il1 dX11_chord_33 ?_))
          refine go_V1 mcX7_findChord mvX7_findChord kX11_189 rfl dX11_chord_34 rfl rfl (aX7_findChord hk ht26 (fun i => Nat.lt_of_le_of_lt (qch_le q _ _ _) (by have := hQ.1.1; omega))) ?_
          rintro _ m34 ⟨rfl, hF34, hA34, hB34⟩
          refine go_il2 dX11_chord_37 ?_
          refine go_ifne 51 dX11_chord_38 (by decide) (fun h38 => ?_) (fun h38 => ?_)
          · refine go_al0 dX11_chord_51 (go_getR (j := 32) fX11_21 rfl rfl dX11_chord_52 (go_getI fX11_195 rfl rfl dX11_chord_55 ?_))
            refine go_iret dX11_chord_58 ?_
            refine ⟨?_, fun a ha => by rw [hF34 a (by omega)]; exact hF26 a (by omega)⟩
            have e : (fun n => qch q ((30 * k + n) / 30) ((30 * k + n) % 30) (qnum q)) = fun n => if n < 30 then qch q k n (qnum q) else qch q ((30 * k + n) / 30) ((30 * k + n) % 30) (qnum q) := by
              funext n
              split
              · rw [show (30 * k + n) / 30 = k by omega, show (30 * k + n) % 30 = n by omega]
              · rfl
            have e2 : bestF (fun n => qch q ((30 * k + n) / 30) ((30 * k + n) % 30) (qnum q)) 30 = qchord q k := bestF_cong (fun n hn => by rw [show (30 * k + n) / 30 = k by omega, show (30 * k + n) % 30 = n by omega]) 30 (Nat.le_refl _)
            simp only [sChord, if_neg h1, if_neg h7, if_neg h11, if_pos h16, if_neg h38, wN_nI (show k < 2 ^ 31 by omega)]
            first | rw [hA34, e2] | rw [hB34, e2]
          · refine go_al0 dX11_chord_41 (go_getR (j := 32) fX11_21 rfl rfl dX11_chord_42 (go_getI fX11_192 rfl rfl dX11_chord_45 (go_goto 58 dX11_chord_48 (by decide) ?_)))
            refine go_iret dX11_chord_58 ?_
            refine ⟨?_, fun a ha => by rw [hF34 a (by omega)]; exact hF26 a (by omega)⟩
            have e : (fun n => qch q ((30 * k + n) / 30) ((30 * k + n) % 30) (qnum q)) = fun n => if n < 30 then qch q k n (qnum q) else qch q ((30 * k + n) / 30) ((30 * k + n) % 30) (qnum q) := by
              funext n
              split
              · rw [show (30 * k + n) / 30 = k by omega, show (30 * k + n) % 30 = n by omega]
              · rfl
            have e2 : bestF (fun n => qch q ((30 * k + n) / 30) ((30 * k + n) % 30) (qnum q)) 30 = qchord q k := bestF_cong (fun n hn => by rw [show (30 * k + n) / 30 = k by omega, show (30 * k + n) % 30 = n by omega]) 30 (Nat.le_refl _)
            simp only [sChord, if_neg h1, if_neg h7, if_neg h11, if_pos h16, if_pos h38, wN_nI (show k < 2 ^ 31 by omega)]
            first | rw [hA34, e2] | rw [hB34, e2]
        · refine go_bipush (v := -2) dX11_chord_19 (by decide) ?_
          refine go_iret dX11_chord_21 ?_
          exact ⟨by simp only [sChord, if_neg h1, if_neg h7, if_neg h11, if_neg h16], FrR.rf μ⟩

set_option maxRecDepth 100000 in
set_option maxHeartbeats 400000 in
theorem p_hush {q : QS} {μ : gm_M} (hQ : CQ q μ)  : Sat yX11_hush cX11_hush 1 (some .int) 4 [(.ref 0)] μ (fun r μ' => r = some (.int (sHush q)) ∧ FrR 25 42 μ μ') := by
  refine Sat.of (L := [some (.ref 0)]) (by decide) (fun _ => rfl) (fun _ => rfl) ?_
  refine go_al0 dX11_hush_0 (go_getR (j := 32) fX11_21 rfl rfl dX11_hush_1 ?_)
  refine go_V0 mcX7_silentNights mvX7_silentNights kX11_198 rfl dX11_hush_4 rfl rfl (aX7_silentNights hQ) ?_
  rintro _ m4 ⟨v, rfl, hF4, hb4⟩
  refine go_iret dX11_hush_7 ?_
  exact ⟨by rw [sHush, ← mkB_eq hb4], hF4.wide (by decide)⟩

set_option maxRecDepth 100000 in
set_option maxHeartbeats 400000 in
theorem p_never {q : QS} {μ : gm_M} (hQ : CQ q μ)  : Sat yX11_never cX11_never 1 (some .int) 5 [(.ref 0)] μ (fun r μ' => r = some (.int (sNever q)) ∧ FrR 25 42 μ μ') := by
  refine Sat.of (L := [some (.ref 0)]) (by decide) (fun _ => rfl) (fun _ => rfl) ?_
  refine go_al0 dX11_never_0 (go_getR (j := 38) fX11_35 rfl rfl dX11_never_1 ?_)
  refine go_V0 mcX3_neverTurnings mvX3_neverTurnings kX11_238 rfl dX11_never_4 rfl rfl (aX3_neverTurnings hQ) ?_
  rintro _ m4 ⟨v, rfl, hF4, hb4⟩
  refine go_iret dX11_never_7 ?_
  exact ⟨by rw [sNever, ← mkB_eq hb4], hF4.wide (by decide)⟩

set_option maxRecDepth 100000 in
set_option maxHeartbeats 400000 in
theorem p_sale {q : QS} {μ : gm_M} (hQ : CQ q μ)  : Sat yX11_sale cX11_sale 1 (some .int) 5 [(.ref 0)] μ (fun r μ' => r = some (.int (nI (saleC q))) ∧ FrR 25 42 μ μ') := by
  refine Sat.of (L := [some (.ref 0)]) (by decide) (fun _ => rfl) (fun _ => rfl) ?_
  refine go_al0 dX11_sale_0 (go_getR (j := 34) fX11_28 rfl rfl dX11_sale_1 ?_)
  refine go_V0 mcX5_bestSale mvX5_bestSale kX11_232 rfl dX11_sale_4 rfl rfl (aX5_bestSale hQ) ?_
  rintro _ m4 ⟨rfl, hF4⟩
  refine go_iret dX11_sale_7 ?_
  exact ⟨rfl, hF4.wide (by decide)⟩

set_option maxRecDepth 100000 in
set_option maxHeartbeats 400000 in
theorem p_ripe {q : QS} {μ : gm_M} (hQ : CQ q μ) (w n i : Int32) : Sat yX11_ripe cX11_ripe 4 (some .int) 5 [(.ref 0), (.int w), (.int n), (.int i)] μ (fun r μ' => r = some (.int (sRipe q w n i)) ∧ FrR 25 42 μ μ') := by
  refine Sat.of (L := [some (.ref 0), some (.int w), some (.int n), some (.int i)]) (by decide) (fun _ => rfl) (fun _ => rfl) ?_
  refine go_al0 dX11_ripe_0 (go_getR (j := 1) fX11_12 rfl rfl dX11_ripe_1 (go_il1 dX11_ripe_4 (go_V1r mcX1_has mvX1_has kX11_94 rfl dX11_ripe_5 rfl rfl (aHasI hQ _) ?_)))
  refine go_ifeqB 28 dX11_ripe_8 (by decide) (fun h8 => ?_) (fun h8 => ?_)
  · refine go_bipush (v := -2) dX11_ripe_28 (by decide) ?_
    refine go_iret dX11_ripe_30 ?_
    exact ⟨by simp only [sRipe, if_neg (gf h8)], FrR.rf μ⟩
  · refine go_il2 dX11_ripe_11 (go_S1r mcX11_isNight mvX11_isNight kX11_111 dX11_ripe_12 rfl rfl (sX11_isNight _ _) ?_)
    refine go_ifeqB 28 dX11_ripe_15 (by decide) (fun h15 => ?_) (fun h15 => ?_)
    · refine go_bipush (v := -2) dX11_ripe_28 (by decide) ?_
      refine go_iret dX11_ripe_30 ?_
      exact ⟨by simp only [sRipe, if_pos h8, if_neg (gf h15)], FrR.rf μ⟩
    · refine go_il3 dX11_ripe_18 (go_icm1 dX11_ripe_19 ?_)
      refine go_clt 28 dX11_ripe_20 (by decide) (fun h20 => ?_) (fun h20 => ?_)
      · refine go_bipush (v := -2) dX11_ripe_28 (by decide) ?_
        refine go_iret dX11_ripe_30 ?_
        exact ⟨by simp only [sRipe, if_pos h8, if_pos h15, if_pos h20], FrR.rf μ⟩
      · refine go_il3 dX11_ripe_23 (go_ic1 dX11_ripe_24 ?_)
        refine go_cle 31 dX11_ripe_25 (by decide) (fun h25 => ?_) (fun h25 => ?_)
        · obtain ⟨n, hn, rfl⟩ := gnight_of h15
          obtain ⟨k, hk, rfl⟩ := inW_of hQ.1 h8
          have hn8 := hQ.1.1
          refine go_al0 dX11_ripe_31 (go_getR (j := 34) fX11_28 rfl rfl dX11_ripe_32 (go_il1 dX11_ripe_35 (go_il2 dX11_ripe_36 ?_)))
          refine go_V2 mcX5_findRipe mvX5_findRipe kX11_201 rfl dX11_ripe_37 rfl rfl (aX5_findRipe hQ hk hn) ?_
          rintro _ m37 ⟨rfl, hF37, hA37, hB37, hC37⟩
          refine go_il3 dX11_ripe_40 (go_icm1 dX11_ripe_41 ?_)
          refine go_cne 53 dX11_ripe_42 (by decide) (fun h42 => ?_) (fun h42 => ?_)
          · refine go_il3 dX11_ripe_53 ?_
            refine go_ifne 67 dX11_ripe_54 (by decide) (fun h54 => ?_) (fun h54 => ?_)
            · refine go_al0 dX11_ripe_67 (go_getR (j := 34) fX11_28 rfl rfl dX11_ripe_68 (go_getI fX11_211 rfl rfl dX11_ripe_71 ?_))
              refine go_iret dX11_ripe_74 ?_
              refine ⟨?_, hF37.wide (by decide)⟩
              simp only [sRipe, if_pos h8, if_pos h15, if_neg h20, if_pos h25, if_neg h42, if_neg h54, wN_nI (show k < 2 ^ 31 by omega), wN_nI (show n < 2 ^ 31 by omega)]
              first | rw [hA37] | rw [hB37] | rw [hC37]
            · refine go_al0 dX11_ripe_57 (go_getR (j := 34) fX11_28 rfl rfl dX11_ripe_58 (go_getI fX11_208 rfl rfl dX11_ripe_61 (go_goto 74 dX11_ripe_64 (by decide) ?_)))
              refine go_iret dX11_ripe_74 ?_
              refine ⟨?_, hF37.wide (by decide)⟩
              simp only [sRipe, if_pos h8, if_pos h15, if_neg h20, if_pos h25, if_neg h42, if_pos h54, wN_nI (show k < 2 ^ 31 by omega), wN_nI (show n < 2 ^ 31 by omega)]
              first | rw [hA37] | rw [hB37] | rw [hC37]
          · refine go_al0 dX11_ripe_45 (go_getR (j := 34) fX11_28 rfl rfl dX11_ripe_46 (go_getI fX11_205 rfl rfl dX11_ripe_49 ?_))
            refine go_iret dX11_ripe_52 ?_
            refine ⟨?_, hF37.wide (by decide)⟩
            simp only [sRipe, if_pos h8, if_pos h15, if_neg h20, if_pos h25, if_pos h42, wN_nI (show k < 2 ^ 31 by omega), wN_nI (show n < 2 ^ 31 by omega)]
            first | rw [hA37] | rw [hB37] | rw [hC37]
        · refine go_bipush (v := -2) dX11_ripe_28 (by decide) ?_
          refine go_iret dX11_ripe_30 ?_
          exact ⟨by simp only [sRipe, if_pos h8, if_pos h15, if_neg h20, if_neg h25], FrR.rf μ⟩

set_option maxRecDepth 100000 in
set_option maxHeartbeats 400000 in
theorem p_cold {q : QS} {μ : gm_M} (hQ : CQ q μ) (w x : Int32) : Sat yX11_cold cX11_cold 3 (some .int) 4 [(.ref 0), (.int w), (.int x)] μ (fun r μ' => r = some (.int (sCold q w x)) ∧ FrR 25 42 μ μ') := by
  refine Sat.of (L := [some (.ref 0), some (.int w), some (.int x)]) (by decide) (fun _ => rfl) (fun _ => rfl) ?_
  refine go_al0 dX11_cold_0 (go_getR (j := 1) fX11_12 rfl rfl dX11_cold_1 (go_il1 dX11_cold_4 (go_V1r mcX1_has mvX1_has kX11_94 rfl dX11_cold_5 rfl rfl (aHasI hQ _) ?_)))
  refine go_ifeqB 20 dX11_cold_8 (by decide) (fun h8 => ?_) (fun h8 => ?_)
  · refine go_bipush (v := -2) dX11_cold_20 (by decide) ?_
    refine go_iret dX11_cold_22 ?_
    exact ⟨by simp only [sCold, if_neg (gf h8)], FrR.rf μ⟩
  · refine go_il2 dX11_cold_11 ?_
    refine go_iflt 20 dX11_cold_12 (by decide) (fun h12 => ?_) (fun h12 => ?_)
    · refine go_bipush (v := -2) dX11_cold_20 (by decide) ?_
      refine go_iret dX11_cold_22 ?_
      exact ⟨by simp only [sCold, if_pos h8, if_pos h12], FrR.rf μ⟩
    · refine go_il2 dX11_cold_15 (go_ic1 dX11_cold_16 ?_)
      refine go_cle 23 dX11_cold_17 (by decide) (fun h17 => ?_) (fun h17 => ?_)
      · obtain ⟨k, hk, rfl⟩ := inW_of hQ.1 h8
        have hn8 := hQ.1.1
        refine go_al0 dX11_cold_23 (go_getR (j := 34) fX11_28 rfl rfl dX11_cold_24 (go_il1 dX11_cold_27 ?_))
        refine go_V1 mcX5_findCold mvX5_findCold kX11_214 rfl dX11_cold_28 rfl rfl (aX5_findCold hQ hk) ?_
        rintro _ m28 ⟨rfl, hF28, hA28, hB28⟩
        refine go_il2 dX11_cold_31 ?_
        refine go_ifne 45 dX11_cold_32 (by decide) (fun h32 => ?_) (fun h32 => ?_)
        · refine go_al0 dX11_cold_45 (go_getR (j := 34) fX11_28 rfl rfl dX11_cold_46 (go_getI fX11_220 rfl rfl dX11_cold_49 ?_))
          refine go_iret dX11_cold_52 ?_
          refine ⟨?_, hF28.wide (by decide)⟩
          simp only [sCold, if_pos h8, if_neg h12, if_pos h17, if_neg h32, wN_nI (show k < 2 ^ 31 by omega)]
          first | rw [hA28] | rw [hB28]
        · refine go_al0 dX11_cold_35 (go_getR (j := 34) fX11_28 rfl rfl dX11_cold_36 (go_getI fX11_217 rfl rfl dX11_cold_39 (go_goto 52 dX11_cold_42 (by decide) ?_)))
          refine go_iret dX11_cold_52 ?_
          refine ⟨?_, hF28.wide (by decide)⟩
          simp only [sCold, if_pos h8, if_neg h12, if_pos h17, if_pos h32, wN_nI (show k < 2 ^ 31 by omega)]
          first | rw [hA28] | rw [hB28]
      · refine go_bipush (v := -2) dX11_cold_20 (by decide) ?_
        refine go_iret dX11_cold_22 ?_
        exact ⟨by simp only [sCold, if_pos h8, if_neg h12, if_neg h17], FrR.rf μ⟩

set_option maxRecDepth 100000 in
set_option maxHeartbeats 400000 in
theorem p_come {q : QS} {μ : gm_M} (hQ : CQ q μ) (w x : Int32) : Sat yX11_come cX11_come 3 (some .int) 4 [(.ref 0), (.int w), (.int x)] μ (fun r μ' => r = some (.int (sCome q w x)) ∧ FrR 25 42 μ μ') := by
  refine Sat.of (L := [some (.ref 0), some (.int w), some (.int x)]) (by decide) (fun _ => rfl) (fun _ => rfl) ?_
  refine go_al0 dX11_come_0 (go_getR (j := 1) fX11_12 rfl rfl dX11_come_1 (go_il1 dX11_come_4 (go_V1r mcX1_has mvX1_has kX11_94 rfl dX11_come_5 rfl rfl (aHasI hQ _) ?_)))
  refine go_ifeqB 20 dX11_come_8 (by decide) (fun h8 => ?_) (fun h8 => ?_)
  · refine go_bipush (v := -2) dX11_come_20 (by decide) ?_
    refine go_iret dX11_come_22 ?_
    exact ⟨by simp only [sCome, if_neg (gf h8)], FrR.rf μ⟩
  · refine go_il2 dX11_come_11 ?_
    refine go_iflt 20 dX11_come_12 (by decide) (fun h12 => ?_) (fun h12 => ?_)
    · refine go_bipush (v := -2) dX11_come_20 (by decide) ?_
      refine go_iret dX11_come_22 ?_
      exact ⟨by simp only [sCome, if_pos h8, if_pos h12], FrR.rf μ⟩
    · refine go_il2 dX11_come_15 (go_ic1 dX11_come_16 ?_)
      refine go_cle 23 dX11_come_17 (by decide) (fun h17 => ?_) (fun h17 => ?_)
      · obtain ⟨k, hk, rfl⟩ := inW_of hQ.1 h8
        have hn8 := hQ.1.1
        refine go_al0 dX11_come_23 (go_getR (j := 34) fX11_28 rfl rfl dX11_come_24 (go_il1 dX11_come_27 ?_))
        refine go_V1 mcX5_findCome mvX5_findCome kX11_223 rfl dX11_come_28 rfl rfl (aX5_findCome hQ hk) ?_
        rintro _ m28 ⟨rfl, hF28, hA28, hB28⟩
        refine go_il2 dX11_come_31 ?_
        refine go_ifne 45 dX11_come_32 (by decide) (fun h32 => ?_) (fun h32 => ?_)
        · refine go_al0 dX11_come_45 (go_getR (j := 34) fX11_28 rfl rfl dX11_come_46 (go_getI fX11_229 rfl rfl dX11_come_49 ?_))
          refine go_iret dX11_come_52 ?_
          refine ⟨?_, hF28.wide (by decide)⟩
          simp only [sCome, if_pos h8, if_neg h12, if_pos h17, if_neg h32, wN_nI (show k < 2 ^ 31 by omega)]
          first | rw [hA28] | rw [hB28]
        · refine go_al0 dX11_come_35 (go_getR (j := 34) fX11_28 rfl rfl dX11_come_36 (go_getI fX11_226 rfl rfl dX11_come_39 (go_goto 52 dX11_come_42 (by decide) ?_)))
          refine go_iret dX11_come_52 ?_
          refine ⟨?_, hF28.wide (by decide)⟩
          simp only [sCome, if_pos h8, if_neg h12, if_pos h17, if_pos h32, wN_nI (show k < 2 ^ 31 by omega)]
          first | rw [hA28] | rw [hB28]
      · refine go_bipush (v := -2) dX11_come_20 (by decide) ?_
        refine go_iret dX11_come_22 ?_
        exact ⟨by simp only [sCome, if_pos h8, if_neg h12, if_neg h17], FrR.rf μ⟩

set_option maxRecDepth 100000 in
set_option maxHeartbeats 400000 in
theorem p_was {q : QS} {μ : gm_M} (hQ : CQ q μ) (w x : Int32) : Sat yX11_was cX11_was 3 (some .int) 5 [(.ref 0), (.int w), (.int x)] μ (fun r μ' => r = some (.int (sWas q w x)) ∧ FrR 25 42 μ μ') := by
  refine Sat.of (L := [some (.ref 0), some (.int w), some (.int x)]) (by decide) (fun _ => rfl) (fun _ => rfl) ?_
  refine go_al0 dX11_was_0 (go_getR (j := 1) fX11_12 rfl rfl dX11_was_1 (go_il1 dX11_was_4 (go_V1r mcX1_has mvX1_has kX11_94 rfl dX11_was_5 rfl rfl (aHasI hQ _) ?_)))
  refine go_ifeqB 20 dX11_was_8 (by decide) (fun h8 => ?_) (fun h8 => ?_)
  · refine go_bipush (v := -2) dX11_was_20 (by decide) ?_
    refine go_iret dX11_was_22 ?_
    exact ⟨by simp only [sWas, if_neg (gf h8)], FrR.rf μ⟩
  · refine go_il2 dX11_was_11 ?_
    refine go_iflt 20 dX11_was_12 (by decide) (fun h12 => ?_) (fun h12 => ?_)
    · refine go_bipush (v := -2) dX11_was_20 (by decide) ?_
      refine go_iret dX11_was_22 ?_
      exact ⟨by simp only [sWas, if_pos h8, if_pos h12], FrR.rf μ⟩
    · refine go_il2 dX11_was_15 (go_ic1 dX11_was_16 ?_)
      refine go_cle 23 dX11_was_17 (by decide) (fun h17 => ?_) (fun h17 => ?_)
      · obtain ⟨k, hk, rfl⟩ := inW_of hQ.1 h8
        have hn8 := hQ.1.1
        refine go_il2 dX11_was_23 ?_
        refine go_ifne 38 dX11_was_24 (by decide) (fun h24 => ?_) (fun h24 => ?_)
        · refine go_al0 dX11_was_38 (go_getR (j := 38) fX11_35 rfl rfl dX11_was_39 (go_il1 dX11_was_42 ?_))
          refine go_V1 mcX3_fittingSorts mvX3_fittingSorts kX11_244 rfl dX11_was_43 rfl rfl (aX3_fittingSorts hQ hk) ?_
          rintro _ m43 ⟨v, rfl, hF43, hb43⟩
          have hF := hF43
          have hv := mkB_eq (p := qsortB q k) hb43
          refine go_iret dX11_was_46 ?_
          refine ⟨?_, hF.wide (by decide)⟩
          simp only [sWas, if_pos h8, if_neg h12, if_pos h17, if_neg h24, wN_nI (show k < 2 ^ 31 by omega)]
          rw [hv]
        · refine go_al0 dX11_was_27 (go_getR (j := 38) fX11_35 rfl rfl dX11_was_28 (go_il1 dX11_was_31 ?_))
          refine go_V1 mcX3_fromNights mvX3_fromNights kX11_241 rfl dX11_was_32 rfl rfl (aX3_fromNights hQ hk) ?_
          rintro _ m32 ⟨v, rfl, hF32, hb32⟩
          have hF := hF32
          have hv := mkB_eq (p := qfromB q k) hb32
          refine go_goto 46 dX11_was_35 (by decide) ?_
          refine go_iret dX11_was_46 ?_
          refine ⟨?_, hF.wide (by decide)⟩
          simp only [sWas, if_pos h8, if_neg h12, if_pos h17, if_pos h24, wN_nI (show k < 2 ^ 31 by omega)]
          rw [hv]
      · refine go_bipush (v := -2) dX11_was_20 (by decide) ?_
        refine go_iret dX11_was_22 ?_
        exact ⟨by simp only [sWas, if_pos h8, if_neg h12, if_neg h17], FrR.rf μ⟩

set_option maxRecDepth 100000 in
set_option maxHeartbeats 400000 in
theorem p_ask {q : QS} {μ : gm_M} (hQ : CQ q μ) (w : Int32) : Sat yX11_ask cX11_ask 2 (some .int) 5 [(.ref 0), (.int w)] μ (fun r μ' => r = some (.int (sAsk q w)) ∧ FrR 25 42 μ μ') := by
  refine Sat.of (L := [some (.ref 0), some (.int w)]) (by decide) (fun _ => rfl) (fun _ => rfl) ?_
  refine go_al0 dX11_ask_0 (go_getR (j := 1) fX11_12 rfl rfl dX11_ask_1 (go_il1 dX11_ask_4 (go_V1r mcX1_has mvX1_has kX11_94 rfl dX11_ask_5 rfl rfl (aHasI hQ _) ?_)))
  refine go_ifneB 14 dX11_ask_8 (by decide) (fun h8 => ?_) (fun h8 => ?_)
  · obtain ⟨k, hk, rfl⟩ := inW_of hQ.1 h8
    have hn8 := hQ.1.1
    refine go_al0 dX11_ask_14 (go_getR (j := 38) fX11_35 rfl rfl dX11_ask_15 (go_il1 dX11_ask_18 (go_al0 dX11_ask_19 (go_getR (j := 38) fX11_35 rfl rfl dX11_ask_20 (go_il1 dX11_ask_23 ?_)))))
    refine go_V1 mcX3_fromNights mvX3_fromNights kX11_241 rfl dX11_ask_24 rfl rfl (aX3_fromNights hQ hk) ?_
    rintro _ m24 ⟨v, rfl, hF24, hb24⟩
    have hv := mkB_eq (p := qfromB q k) hb24
    refine go_V2 mcX3_nextNight mvX3_nextNight kX11_247 rfl dX11_ask_27 rfl rfl (aX3_nextNight (hQ.frR hF24) hk) ?_
    rintro _ m27 ⟨rfl, hF27⟩
    refine go_iret dX11_ask_30 ?_
    refine ⟨?_, (hF24.wide (by decide)).tr (hF27.wide (by decide))⟩
    simp only [sAsk, if_pos h8, wN_nI (show k < 2 ^ 31 by omega)]
    rw [← hv]
  · refine go_bipush (v := -2) dX11_ask_11 (by decide) ?_
    refine go_iret dX11_ask_13 ?_
    exact ⟨by simp only [sAsk, if_neg (gf h8)], FrR.rf μ⟩

set_option maxRecDepth 100000 in
set_option maxHeartbeats 400000 in
theorem p_frost {q : QS} {μ : gm_M} (hQ : CQ q μ) (c l w n x : Int32) : Sat yX11_frost cX11_frost 7 (some .long) 4 [(.ref 0), (.int c), (.int l), (.int w), (.int n), (.int x)] μ (fun r μ' => r = some (.long (sFrost q c l w n x)) ∧ FrR 25 42 μ μ') := by
  refine Sat.of (L := [some (.ref 0), some (.int c), some (.int l), some (.int w), some (.int n), some (.int x), none]) (by decide) (fun _ => rfl) (fun _ => rfl) ?_
  refine go_il1 dX11_frost_0 ?_
  refine go_iflt 24 dX11_frost_1 (by decide) (fun h1 => ?_) (fun h1 => ?_)
  · refine go_ic0 dX11_frost_24 (go_is6 dX11_frost_25 rfl rfl (go_il6 dX11_frost_27 ?_))
    refine go_ifeq 62 dX11_frost_29 (by decide) (fun _ => ?_) (fun h29 => absurd h29 (by decide))
    refine go_ldc2 dX11_frost_62 nX11_250 ?_
    refine go_lret dX11_frost_65 ?_
    exact ⟨by simp only [sFrost, if_pos h1], FrR.rf μ⟩
  · refine go_il1 dX11_frost_4 (go_bipush (v := 16) dX11_frost_5 (by decide) ?_)
    refine go_cgt 24 dX11_frost_7 (by decide) (fun h7 => ?_) (fun h7 => ?_)
    · refine go_ic0 dX11_frost_24 (go_is6 dX11_frost_25 rfl rfl (go_il6 dX11_frost_27 ?_))
      refine go_ifeq 62 dX11_frost_29 (by decide) (fun _ => ?_) (fun h29 => absurd h29 (by decide))
      refine go_ldc2 dX11_frost_62 nX11_250 ?_
      refine go_lret dX11_frost_65 ?_
      exact ⟨by simp only [sFrost, if_neg h1, if_pos h7], FrR.rf μ⟩
    · refine go_il2 dX11_frost_10 ?_
      refine go_iflt 24 dX11_frost_11 (by decide) (fun h11 => ?_) (fun h11 => ?_)
      · refine go_ic0 dX11_frost_24 (go_is6 dX11_frost_25 rfl rfl (go_il6 dX11_frost_27 ?_))
        refine go_ifeq 62 dX11_frost_29 (by decide) (fun _ => ?_) (fun h29 => absurd h29 (by decide))
        refine go_ldc2 dX11_frost_62 nX11_250 ?_
        refine go_lret dX11_frost_65 ?_
        exact ⟨by simp only [sFrost, if_neg h1, if_neg h7, if_pos h11], FrR.rf μ⟩
      · refine go_il2 dX11_frost_14 (go_bipush (v := 9) dX11_frost_15 (by decide) ?_)
        refine go_cgt 24 dX11_frost_17 (by decide) (fun h17 => ?_) (fun h17 => ?_)
        · refine go_ic0 dX11_frost_24 (go_is6 dX11_frost_25 rfl rfl (go_il6 dX11_frost_27 ?_))
          refine go_ifeq 62 dX11_frost_29 (by decide) (fun _ => ?_) (fun h29 => absurd h29 (by decide))
          refine go_ldc2 dX11_frost_62 nX11_250 ?_
          refine go_lret dX11_frost_65 ?_
          exact ⟨by simp only [sFrost, if_neg h1, if_neg h7, if_neg h11, if_pos h17], FrR.rf μ⟩
        · refine go_ic1 dX11_frost_20 (go_goto 25 dX11_frost_21 (by decide) (go_is6 dX11_frost_25 rfl rfl (go_il6 dX11_frost_27 ?_)))
          refine go_ifeq 62 dX11_frost_29 (by decide) (fun h29 => absurd h29 (by decide)) (fun _ => ?_)
          refine go_al0 dX11_frost_32 (go_getR (j := 1) fX11_12 rfl rfl dX11_frost_33 (go_il3 dX11_frost_36 (go_V1r mcX1_has mvX1_has kX11_94 rfl dX11_frost_37 rfl rfl (aHasI hQ _) ?_)))
          refine go_ifeqB 62 dX11_frost_40 (by decide) (fun h40 => ?_) (fun h40 => ?_)
          · refine go_ldc2 dX11_frost_62 nX11_250 ?_
            refine go_lret dX11_frost_65 ?_
            exact ⟨by simp only [sFrost, if_neg h1, if_neg h7, if_neg h11, if_neg h17, if_neg (gf h40)], FrR.rf μ⟩
          · refine go_il4 dX11_frost_43 (go_S1r mcX11_isNight mvX11_isNight kX11_111 dX11_frost_45 rfl rfl (sX11_isNight _ _) ?_)
            refine go_ifeqB 62 dX11_frost_48 (by decide) (fun h48 => ?_) (fun h48 => ?_)
            · refine go_ldc2 dX11_frost_62 nX11_250 ?_
              refine go_lret dX11_frost_65 ?_
              exact ⟨by simp only [sFrost, if_neg h1, if_neg h7, if_neg h11, if_neg h17, if_pos h40, if_neg (gf h48)], FrR.rf μ⟩
            · refine go_il5 dX11_frost_51 ?_
              refine go_iflt 62 dX11_frost_53 (by decide) (fun h53 => ?_) (fun h53 => ?_)
              · refine go_ldc2 dX11_frost_62 nX11_250 ?_
                refine go_lret dX11_frost_65 ?_
                exact ⟨by simp only [sFrost, if_neg h1, if_neg h7, if_neg h11, if_neg h17, if_pos h40, if_pos h48, if_pos h53], FrR.rf μ⟩
              · refine go_il5 dX11_frost_56 (go_ic1 dX11_frost_58 ?_)
                refine go_cle 66 dX11_frost_59 (by decide) (fun h59 => ?_) (fun h59 => ?_)
                · obtain ⟨n, hn, rfl⟩ := gnight_of h48
                  obtain ⟨k, hk, rfl⟩ := inW_of hQ.1 h40
                  have hn8 := hQ.1.1
                  obtain ⟨c, hc9, rfl⟩ := int_of (B := 16) (N := 16) (by decide) (by decide) h1 (Int32.not_lt.mp h7)
                  obtain ⟨l, hl9, rfl⟩ := int_of (B := 9) (N := 9) (by decide) (by decide) h11 (Int32.not_lt.mp h17)
                  refine go_al0 dX11_frost_66 (go_getR (j := 40) fX11_42 rfl rfl dX11_frost_67 (go_il1 dX11_frost_70 (go_il2 dX11_frost_71 (go_il3 dX11_frost_72 (go_il4 dX11_frost_73 ?_)))))
                  refine go_V4 mcX2_findFrost mvX2_findFrost kX11_252 rfl dX11_frost_75 rfl rfl (aX2_findFrost hQ hc9 hl9 hk hn) ?_
                  rintro _ m75 ⟨rfl, hF75, hA75, hB75⟩
                  refine go_il5 dX11_frost_78 ?_
                  refine go_ifne 93 dX11_frost_80 (by decide) (fun h80 => ?_) (fun h80 => ?_)
                  · refine go_al0 dX11_frost_93 (go_getR (j := 40) fX11_42 rfl rfl dX11_frost_94 (go_getJ fX11_260 rfl rfl dX11_frost_97 ?_))
                    refine go_lret dX11_frost_100 ?_
                    refine ⟨?_, hF75⟩
                    simp only [sFrost, if_neg h1, if_neg h7, if_neg h11, if_neg h17, if_pos h40, if_pos h48, if_neg h53, if_pos h59, if_neg h80, wN_nI (show k < 2 ^ 31 by omega), wN_nI (show n < 2 ^ 31 by omega), wN_nI (show c < 2 ^ 31 by omega), wN_nI (show l < 2 ^ 31 by omega)]
                    first | rw [hA75] | rw [hB75]
                  · refine go_al0 dX11_frost_83 (go_getR (j := 40) fX11_42 rfl rfl dX11_frost_84 (go_getJ fX11_256 rfl rfl dX11_frost_87 (go_goto 100 dX11_frost_90 (by decide) ?_)))
                    refine go_lret dX11_frost_100 ?_
                    refine ⟨?_, hF75⟩
                    simp only [sFrost, if_neg h1, if_neg h7, if_neg h11, if_neg h17, if_pos h40, if_pos h48, if_neg h53, if_pos h59, if_pos h80, wN_nI (show k < 2 ^ 31 by omega), wN_nI (show n < 2 ^ 31 by omega), wN_nI (show c < 2 ^ 31 by omega), wN_nI (show l < 2 ^ 31 by omega)]
                    first | rw [hA75] | rw [hB75]
                · refine go_ldc2 dX11_frost_62 nX11_250 ?_
                  refine go_lret dX11_frost_65 ?_
                  exact ⟨by simp only [sFrost, if_neg h1, if_neg h7, if_neg h11, if_neg h17, if_pos h40, if_pos h48, if_neg h53, if_neg h59], FrR.rf μ⟩

set_option maxRecDepth 100000 in
set_option maxHeartbeats 400000 in
theorem p_summer {q : QS} {μ : gm_M} (hQ : CQ q μ) (s n x : Int32) : Sat yX11_summer cX11_summer 4 (some .int) 4 [(.ref 0), (.int s), (.int n), (.int x)] μ (fun r μ' => r = some (.int (sSummer q s n x)) ∧ FrR 25 42 μ μ') := by
  refine Sat.of (L := [some (.ref 0), some (.int s), some (.int n), some (.int x)]) (by decide) (fun _ => rfl) (fun _ => rfl) ?_
  refine go_il2 dX11_summer_0 ?_
  refine go_iflt 19 dX11_summer_1 (by decide) (fun h1 => ?_) (fun h1 => ?_)
  · refine go_bipush (v := -2) dX11_summer_19 (by decide) ?_
    refine go_iret dX11_summer_21 ?_
    exact ⟨by simp only [sSummer, if_pos h1], FrR.rf μ⟩
  · refine go_il2 dX11_summer_4 (go_bipush (v := 30) dX11_summer_5 (by decide) ?_)
    refine go_cgt 19 dX11_summer_7 (by decide) (fun h7 => ?_) (fun h7 => ?_)
    · refine go_bipush (v := -2) dX11_summer_19 (by decide) ?_
      refine go_iret dX11_summer_21 ?_
      exact ⟨by simp only [sSummer, if_neg h1, if_pos h7], FrR.rf μ⟩
    · refine go_il3 dX11_summer_10 ?_
      refine go_iflt 19 dX11_summer_11 (by decide) (fun h11 => ?_) (fun h11 => ?_)
      · refine go_bipush (v := -2) dX11_summer_19 (by decide) ?_
        refine go_iret dX11_summer_21 ?_
        exact ⟨by simp only [sSummer, if_neg h1, if_neg h7, if_pos h11], FrR.rf μ⟩
      · refine go_il3 dX11_summer_14 (go_ic1 dX11_summer_15 ?_)
        refine go_cle 22 dX11_summer_16 (by decide) (fun h16 => ?_) (fun h16 => ?_)
        · obtain ⟨n, hn, rfl⟩ := int_of (B := 30) (N := 30) (by decide) (by decide) h1 (Int32.not_lt.mp h7)
          refine go_al0 dX11_summer_22 (go_getR (j := 40) fX11_42 rfl rfl dX11_summer_23 (go_il1 dX11_summer_26 (go_il2 dX11_summer_27 ?_)))
          refine go_V2 mcX2_findSummer mvX2_findSummer kX11_263 rfl dX11_summer_28 rfl rfl (aX2_findSummer hQ hn) ?_
          rintro _ m28 ⟨rfl, hF28, hB28, hA28, hC28⟩
          have e5 : m28.1 40 5 = qsumT q s n := by
            unfold qsumT
            by_cases z : qnum q = 0
            · rw [if_pos z]; exact hA28 z
            · rw [if_neg z]
              obtain ⟨b, b1, b2, b3⟩ := hC28 (by omega)
              rw [b1]
              congr 1
              refine mkB_eq (fun j hj => ?_)
              by_cases y : j < 30
              · rw [b2 j y]; simp [y]
              · rw [b3 j (by omega) hj]; simp [y]
          refine go_il3 dX11_summer_31 ?_
          refine go_ifne 45 dX11_summer_32 (by decide) (fun h32 => ?_) (fun h32 => ?_)
          · refine go_al0 dX11_summer_45 (go_getR (j := 40) fX11_42 rfl rfl dX11_summer_46 (go_getI fX11_269 rfl rfl dX11_summer_49 ?_))
            refine go_iret dX11_summer_52 ?_
            refine ⟨?_, hF28.wide (by decide)⟩
            simp only [sSummer, if_neg h1, if_neg h7, if_neg h11, if_pos h16, if_neg h32, wN_nI (show n < 2 ^ 31 by omega)]
            first | rw [e5] | rw [hB28]
          · refine go_al0 dX11_summer_35 (go_getR (j := 40) fX11_42 rfl rfl dX11_summer_36 (go_getI fX11_266 rfl rfl dX11_summer_39 (go_goto 52 dX11_summer_42 (by decide) ?_)))
            refine go_iret dX11_summer_52 ?_
            refine ⟨?_, hF28.wide (by decide)⟩
            simp only [sSummer, if_neg h1, if_neg h7, if_neg h11, if_pos h16, if_pos h32, wN_nI (show n < 2 ^ 31 by omega)]
            first | rw [e5] | rw [hB28]
        · refine go_bipush (v := -2) dX11_summer_19 (by decide) ?_
          refine go_iret dX11_summer_21 ?_
          exact ⟨by simp only [sSummer, if_neg h1, if_neg h7, if_neg h11, if_neg h16], FrR.rf μ⟩

