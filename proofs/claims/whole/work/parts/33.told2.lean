/-! ALL THAT IS TOLD, as the calls tell it: two texts, time, shrill, turnings, knocks, listened, sheets, the latest finding -/
abbrev TX : Type := Nat × (Nat → Nat)
abbrev SHT : Type := Bool × Nat × Nat × (Nat → Int32)
abbrev RS : Type := TX × TX × Nat × Nat × (Nat × (Nat → Nat) × (Nat → Nat)) × (Nat × (Nat → Nat) × (Nat → Nat)) × (Nat × (Nat → Nat) × (Nat → Nat) × (Nat → Nat)) × (Nat → SHT) × Int32
def ra0 (r : RS) : TX := r.1
def ra1 (r : RS) : TX := r.2.1
def rti (r : RS) : Nat := r.2.2.1
def rsr (r : RS) : Nat := r.2.2.2.1
def rtu (r : RS) : Nat × (Nat → Nat) × (Nat → Nat) := r.2.2.2.2.1
def rkn (r : RS) : Nat × (Nat → Nat) × (Nat → Nat) := r.2.2.2.2.2.1
def rli (r : RS) : Nat × (Nat → Nat) × (Nat → Nat) × (Nat → Nat) := r.2.2.2.2.2.2.1
def rst (r : RS) : Nat → SHT := r.2.2.2.2.2.2.2.1
def rfi (r : RS) : Int32 := r.2.2.2.2.2.2.2.2
def qof (r : RS) : QS := (pnum (pres (ra0 r).1 (ra0 r).2).2, pso (pres (ra0 r).1 (ra0 r).2).2, pfr (pres (ra0 r).1 (ra0 r).2).2, psz (pres (ra0 r).1 (ra0 r).2).2, psn (pres (ra0 r).1 (ra0 r).2).2, cwa (ra1 r).1 (ra1 r).2, rti r, rsr r, rtu r, rkn r, rli r)
def rok (r : RS) : Prop := ((ra0 r).1 ≤ 71 ∧ ∀ j, j < (ra0 r).1 → (ra0 r).2 j < 256) ∧ ((ra1 r).1 ≤ 30 ∧ ∀ j, j < (ra1 r).1 → (ra1 r).2 j < 256) ∧ (1 ≤ rti r ∧ rti r ≤ 20) ∧ rsr r ≤ 8 ∧ ((rtu r).1 ≤ 8 ∧ ∀ i, i < (rtu r).1 → (rtu r).2.1 i < 30 ∧ (rtu r).2.2 i < 8) ∧ ((rkn r).1 ≤ 4 ∧ ∀ i, i < (rkn r).1 → (rkn r).2.1 i < 30 ∧ (rkn r).2.2 i < 8) ∧ ((rli r).1 ≤ 8 ∧ ∀ i, i < (rli r).1 → (rli r).2.1 i < 30 ∧ (rli r).2.2.1 i < 8 ∧ (rli r).2.2.2 i ≤ 8) ∧ (∀ s, s < 4 → (rst r s).2.1 ≤ 2 ∧ (rst r s).2.2.1 ≤ 60)
theorem rok_q {r : RS} (h : rok r) : qok (qof r) := by
  obtain ⟨h1, h2, h3, h4, h5, h6, h7, h8⟩ := h
  have g := pres_good h1.2
  exact ⟨g.1, g.2, fun n _ => cwa_le n, h3, h4, h5, h6, h7⟩
/-- the class's cells hold all that is told -/
def CW (r : RS) (μ : gm_M) : Prop := μ.1 2 1 = nI (ra0 r).1 ∧ (∀ j, j < (ra0 r).1 → μ.1 3 j = nI ((ra0 r).2 j)) ∧ μ.1 6 5 = oI (pres (ra0 r).1 (ra0 r).2).1 ∧ PIw (pres (ra0 r).1 (ra0 r).2).2 μ
def CC (r : RS) (μ : gm_M) : Prop := μ.1 4 1 = nI (ra1 r).1 ∧ (∀ j, j < (ra1 r).1 → μ.1 5 j = nI ((ra1 r).2 j)) ∧ μ.1 11 2 = oI (cavF (ra1 r).1 (ra1 r).2) ∧ μ.1 11 1 = nI (figs (ra1 r).1 (ra1 r).2) ∧ ∀ n, n < 30 → μ.1 12 n = nI (cwa (ra1 r).1 (ra1 r).2 n)
def CM (r : RS) (μ : gm_M) : Prop := (μ.1 1 8 = nI (rti r) ∧ μ.1 1 9 = nI (rsr r)) ∧ (μ.1 13 3 = nI (rtu r).1 ∧ ∀ i, i < (rtu r).1 → μ.1 14 i = nI ((rtu r).2.1 i) ∧ μ.1 15 i = nI ((rtu r).2.2 i)) ∧ (μ.1 17 3 = nI (rkn r).1 ∧ ∀ i, i < (rkn r).1 → μ.1 18 i = nI ((rkn r).2.1 i) ∧ μ.1 19 i = nI ((rkn r).2.2 i)) ∧ (μ.1 21 3 = nI (rli r).1 ∧ ∀ i, i < (rli r).1 → μ.1 22 i = nI ((rli r).2.1 i) ∧ μ.1 23 i = nI ((rli r).2.2.1 i) ∧ μ.1 24 i = nI ((rli r).2.2.2 i))
def CS (r : RS) (μ : gm_M) : Prop := (∀ s, s < 4 → μ.1 (44 + s) 1 = gb (rst r s).1 ∧ μ.1 (44 + s) 2 = nI (rst r s).2.1 ∧ μ.1 (44 + s) 3 = nI (rst r s).2.2.1 ∧ ∀ i, i < 60 → μ.1 (48 + s) i = (rst r s).2.2.2 i) ∧ μ.1 0 6 = rfi r
def CA (r : RS) (μ : gm_M) : Prop := rok r ∧ CW r μ ∧ CC r μ ∧ CM r μ ∧ CS r μ
theorem CA.q {r : RS} {μ : gm_M} (h : CA r μ) : CQ (qof r) μ := by
  obtain ⟨h0, ⟨a1, a2, a3, a4⟩, ⟨b1, b2, b3, b4, b5⟩, ⟨c1, c2, c3, c4⟩, d⟩ := h
  exact ⟨rok_q h0, a4.1, a4.2, b5, c1.1, c1.2, c2, c3, c4⟩
theorem CW.cong {r : RS} {μ μ' : gm_M} (h : CW r μ) (e : ∀ c, c = 2 ∨ c = 3 ∨ (6 ≤ c ∧ c ≤ 10) → μ'.1 c = μ.1 c) : CW r μ' := by
  obtain ⟨a1, a2, a3, a4⟩ := h
  refine ⟨by rw [e 2 (by omega)]; exact a1, by rw [e 3 (by omega)]; exact a2, by rw [e 6 (by omega)]; exact a3, ?_⟩
  unfold PIw
  rw [e 6 (by omega), e 7 (by omega), e 8 (by omega), e 9 (by omega), e 10 (by omega)]
  exact a4
theorem CC.cong {r : RS} {μ μ' : gm_M} (h : CC r μ) (e : ∀ c, c = 4 ∨ c = 5 ∨ c = 11 ∨ c = 12 → μ'.1 c = μ.1 c) : CC r μ' := by
  unfold CC
  rw [e 4 (by omega), e 5 (by omega), e 11 (by omega), e 12 (by omega)]
  exact h
theorem CM.cong {r : RS} {μ μ' : gm_M} (h : CM r μ) (e : ∀ c, c = 1 ∨ (13 ≤ c ∧ c ≤ 24) → μ'.1 c = μ.1 c) : CM r μ' := by
  unfold CM
  rw [e 1 (by omega), e 13 (by omega), e 14 (by omega), e 15 (by omega), e 17 (by omega), e 18 (by omega), e 19 (by omega), e 21 (by omega), e 22 (by omega), e 23 (by omega), e 24 (by omega)]
  exact h
theorem CS.cong {r : RS} {μ μ' : gm_M} (h : CS r μ) (e : ∀ c, c = 0 ∨ (44 ≤ c ∧ c ≤ 51) → μ'.1 c = μ.1 c) : CS r μ' := by
  refine ⟨fun s hs => ?_, by rw [e 0 (by omega)]; exact h.2⟩
  rw [e (44 + s) (by omega), e (48 + s) (by omega)]
  exact h.1 s hs
theorem CA.fr {r : RS} {μ μ' : gm_M} (h : CA r μ) (e : FrR 25 42 μ μ') : CA r μ' :=
  ⟨h.1, h.2.1.cong (fun c hc => e c (by omega)), h.2.2.1.cong (fun c hc => e c (by omega)), h.2.2.2.1.cong (fun c hc => e c (by omega)), h.2.2.2.2.cong (fun c hc => e c (by omega))⟩
/-! set -/
def sSet (r : RS) (x v : Int32) : Int32 := if x = 0 then (if v < 1 then -2 else if 20 < v then -2 else nI (rti r)) else if x = 1 then (if v < 0 then -2 else if 8 < v then -2 else nI (rsr r)) else -2
def nSet (r : RS) (x v : Int32) : RS := if x = 0 then (if v < 1 then r else if 20 < v then r else (ra0 r, ra1 r, wN v, rsr r, rtu r, rkn r, rli r, rst r, rfi r)) else if x = 1 then (if v < 0 then r else if 8 < v then r else (ra0 r, ra1 r, rti r, wN v, rtu r, rkn r, rli r, rst r, rfi r)) else r
set_option maxRecDepth 100000 in
set_option maxHeartbeats 400000 in
theorem p_set {r : RS} {μ : gm_M} (hC : CA r μ) (x v : Int32) : Sat yX11_set cX11_set 4 (some .int) 0 [(.ref 0), (.int x), (.int v)] μ (fun r' μ' => r' = some (.int (sSet r x v)) ∧ CA (nSet r x v) μ' ∧ FrR 0 51 μ μ') := by
  refine Sat.of (L := [some (.ref 0), some (.int x), some (.int v), none]) (by decide) (fun _ => rfl) (fun _ => rfl) ?_
  refine go_bipush (v := -2) dX11_set_0 (by decide) (go_is3 dX11_set_2 rfl rfl (go_il1 dX11_set_3 ?_))
  refine go_ifne 37 dX11_set_4 (by decide) (fun h4 => ?_) (fun h4 => ?_)
  · refine go_il1 dX11_set_37 (go_ic1 dX11_set_38 ?_)
    refine go_cne 68 dX11_set_39 (by decide) (fun h39 => ?_) (fun h39 => ?_)
    · refine go_il3 dX11_set_68 ?_
      refine go_iret dX11_set_69 ?_
      simp only [sSet, nSet, if_neg h4, if_neg h39]
      exact ⟨trivial, hC, FrR.rf μ⟩
    · refine go_il2 dX11_set_42 ?_
      refine go_iflt 68 dX11_set_43 (by decide) (fun h43 => ?_) (fun h43 => ?_)
      · refine go_il3 dX11_set_68 ?_
        refine go_iret dX11_set_69 ?_
        simp only [sSet, nSet, if_neg h4, if_pos h39, if_pos h43]
        exact ⟨trivial, hC, FrR.rf μ⟩
      · refine go_il2 dX11_set_46 (go_bipush (v := 8) dX11_set_47 (by decide) ?_)
        refine go_cgt 68 dX11_set_49 (by decide) (fun h49 => ?_) (fun h49 => ?_)
        · refine go_il3 dX11_set_68 ?_
          refine go_iret dX11_set_69 ?_
          simp only [sSet, nSet, if_neg h4, if_pos h39, if_neg h43, if_pos h49]
          exact ⟨trivial, hC, FrR.rf μ⟩
        · refine go_al0 dX11_set_52 (go_getR (j := 1) fX11_12 rfl rfl dX11_set_53 (go_getI fX11_120 rfl rfl dX11_set_56 (go_is3 dX11_set_59 rfl rfl (go_al0 dX11_set_60 (go_getR (j := 1) fX11_12 rfl rfl dX11_set_61 (go_il2 dX11_set_64 (go_putI fX11_120 rfl rfl dX11_set_65 (go_il3 dX11_set_68 ?_))))))))
          refine go_iret dX11_set_69 ?_
          simp only [sSet, nSet, if_neg h4, if_pos h39, if_neg h43, if_neg h49]
          obtain ⟨k, hk, rfl⟩ := int_of (B := 8) (N := 8) (by decide) (by decide) h43 (Int32.not_lt.mp h49)
          rw [wN_nI (by omega)]
          obtain ⟨⟨o1, o2, o3, o4, o5, o6, o7, o8⟩, a, b, ⟨⟨c1, c2⟩, c3⟩, d⟩ := hC
          refine ⟨by rw [show (μ.1 1 9) = nI (rsr r) from c2], ⟨⟨o1, o2, o3, hk, o5, o6, o7, o8⟩, a.cong (fun c hc => gm_In _ _ _ (by omega)), b.cong (fun c hc => gm_In _ _ _ (by omega)), ⟨⟨?_, ?_⟩, c3⟩, d.cong (fun c hc => gm_In _ _ _ (by omega))⟩, (FrR.rf μ).I _ _ (by decide) (by decide)⟩
          · rw [gm_Io _ _ _ (by decide)]; exact c1
          · rw [gm_Is]; rfl
  · refine go_il2 dX11_set_7 (go_ic1 dX11_set_8 ?_)
    refine go_clt 37 dX11_set_9 (by decide) (fun h9 => ?_) (fun h9 => ?_)
    · refine go_il1 dX11_set_37 (go_ic1 dX11_set_38 ?_)
      refine go_cne 68 dX11_set_39 (by decide) (fun h39 => ?_) (fun h39 => ?_)
      · refine go_il3 dX11_set_68 ?_
        refine go_iret dX11_set_69 ?_
        simp only [sSet, nSet, if_pos h4, if_pos h9]
        exact ⟨trivial, hC, FrR.rf μ⟩
      · refine go_il2 dX11_set_42 ?_
        refine go_iflt 68 dX11_set_43 (by decide) (fun h43 => ?_) (fun h43 => ?_)
        · refine go_il3 dX11_set_68 ?_
          refine go_iret dX11_set_69 ?_
          rw [h4] at h39
          exact absurd h39 (by decide)
        · refine go_il2 dX11_set_46 (go_bipush (v := 8) dX11_set_47 (by decide) ?_)
          refine go_cgt 68 dX11_set_49 (by decide) (fun h49 => ?_) (fun h49 => ?_)
          · refine go_il3 dX11_set_68 ?_
            refine go_iret dX11_set_69 ?_
            rw [h4] at h39
            exact absurd h39 (by decide)
          · refine go_al0 dX11_set_52 (go_getR (j := 1) fX11_12 rfl rfl dX11_set_53 (go_getI fX11_120 rfl rfl dX11_set_56 (go_is3 dX11_set_59 rfl rfl (go_al0 dX11_set_60 (go_getR (j := 1) fX11_12 rfl rfl dX11_set_61 (go_il2 dX11_set_64 (go_putI fX11_120 rfl rfl dX11_set_65 (go_il3 dX11_set_68 ?_))))))))
            refine go_iret dX11_set_69 ?_
            rw [h4] at h39
            exact absurd h39 (by decide)
    · refine go_il2 dX11_set_12 (go_bipush (v := 20) dX11_set_13 (by decide) ?_)
      refine go_cgt 37 dX11_set_15 (by decide) (fun h15 => ?_) (fun h15 => ?_)
      · refine go_il1 dX11_set_37 (go_ic1 dX11_set_38 ?_)
        refine go_cne 68 dX11_set_39 (by decide) (fun h39 => ?_) (fun h39 => ?_)
        · refine go_il3 dX11_set_68 ?_
          refine go_iret dX11_set_69 ?_
          simp only [sSet, nSet, if_pos h4, if_neg h9, if_pos h15]
          exact ⟨trivial, hC, FrR.rf μ⟩
        · refine go_il2 dX11_set_42 ?_
          refine go_iflt 68 dX11_set_43 (by decide) (fun h43 => ?_) (fun h43 => ?_)
          · refine go_il3 dX11_set_68 ?_
            refine go_iret dX11_set_69 ?_
            rw [h4] at h39
            exact absurd h39 (by decide)
          · refine go_il2 dX11_set_46 (go_bipush (v := 8) dX11_set_47 (by decide) ?_)
            refine go_cgt 68 dX11_set_49 (by decide) (fun h49 => ?_) (fun h49 => ?_)
            · refine go_il3 dX11_set_68 ?_
              refine go_iret dX11_set_69 ?_
              rw [h4] at h39
              exact absurd h39 (by decide)
            · refine go_al0 dX11_set_52 (go_getR (j := 1) fX11_12 rfl rfl dX11_set_53 (go_getI fX11_120 rfl rfl dX11_set_56 (go_is3 dX11_set_59 rfl rfl (go_al0 dX11_set_60 (go_getR (j := 1) fX11_12 rfl rfl dX11_set_61 (go_il2 dX11_set_64 (go_putI fX11_120 rfl rfl dX11_set_65 (go_il3 dX11_set_68 ?_))))))))
              refine go_iret dX11_set_69 ?_
              rw [h4] at h39
              exact absurd h39 (by decide)
      · refine go_al0 dX11_set_18 (go_getR (j := 1) fX11_12 rfl rfl dX11_set_19 (go_getI fX11_117 rfl rfl dX11_set_22 (go_is3 dX11_set_25 rfl rfl (go_al0 dX11_set_26 (go_getR (j := 1) fX11_12 rfl rfl dX11_set_27 (go_il2 dX11_set_30 (go_putI fX11_117 rfl rfl dX11_set_31 (go_goto 68 dX11_set_34 (by decide) (go_il3 dX11_set_68 ?_)))))))))
        refine go_iret dX11_set_69 ?_
        simp only [sSet, nSet, if_pos h4, if_neg h9, if_neg h15]
        obtain ⟨k, hk, rfl⟩ := int_of (B := 20) (N := 20) (by decide) (by decide) (fun z => h9 (by exact Int32.lt_trans z (by decide))) (Int32.not_lt.mp h15)
        have hk1 : 1 ≤ k := by
          rcases Nat.eq_zero_or_pos k with z | z
          · exact absurd (by rw [z]; decide) h9
          · exact z
        rw [wN_nI (by omega)]
        obtain ⟨⟨o1, o2, o3, o4, o5, o6, o7, o8⟩, a, b, ⟨⟨c1, c2⟩, c3⟩, d⟩ := hC
        refine ⟨by rw [show (μ.1 1 8) = nI (rti r) from c1], ⟨⟨o1, o2, ⟨hk1, hk⟩, o4, o5, o6, o7, o8⟩, a.cong (fun c hc => gm_In _ _ _ (by omega)), b.cong (fun c hc => gm_In _ _ _ (by omega)), ⟨⟨?_, ?_⟩, c3⟩, d.cong (fun c hc => gm_In _ _ _ (by omega))⟩, (FrR.rf μ).I _ _ (by decide) (by decide)⟩
        · rw [gm_Is]; rfl
        · rw [gm_Io _ _ _ (by decide)]; exact c2

def sMark13 (N : Nat) (x y : Int32) : Int32 := if gnight x = true then (if y < 0 then -2 else if y < 8 then (if N < 8 then nI (N + 1) else -4) else -2) else -2
def bMark13 (N : Nat) (x y : Int32) : Bool := gnight x && (decide (¬ y < 0) && (decide (y < 8) && decide (N < 8)))
set_option maxRecDepth 100000 in
set_option maxHeartbeats 400000 in
theorem aX11_addMark_13 {μ : gm_M} {N : Nat} (hN : μ.1 13 3 = nI N) (hN2 : N ≤ 8) (x y z : Int32) : Ret yX11_addMark cX11_addMark 4 (some .int) 1 [(.ref 13), (.int x), (.int y), (.int z)] μ (some (.int (sMark13 N x y))) (if bMark13 N x y = true then cap13 μ x y z else μ) := by
  refine Sat.of (L := [some (.ref 13), some (.int x), some (.int y), some (.int z)]) (by decide) (fun _ => rfl) (fun _ => rfl) ?_
  refine go_il1 dX11_addMark_0 (go_S1r mcX11_isNight mvX11_isNight kX11_111 dX11_addMark_1 rfl rfl (sX11_isNight _ _) ?_)
  refine go_ifeqB 17 dX11_addMark_4 (by decide) (fun h4 => ?_) (fun h4 => ?_)
  · refine go_bipush (v := -2) dX11_addMark_17 (by decide) ?_
    refine go_iret dX11_addMark_19 ?_
    refine ⟨by simp only [sMark13, if_neg (gf h4)], ?_⟩
    rw [if_neg]
    simp [bMark13, h4]
  · refine go_il2 dX11_addMark_7 ?_
    refine go_iflt 17 dX11_addMark_8 (by decide) (fun h8 => ?_) (fun h8 => ?_)
    · refine go_bipush (v := -2) dX11_addMark_17 (by decide) ?_
      refine go_iret dX11_addMark_19 ?_
      refine ⟨by simp only [sMark13, if_pos h4, if_pos h8], ?_⟩
      rw [if_neg]
      simp [bMark13, h4, h8]
    · refine go_il2 dX11_addMark_11 (go_bipush (v := 8) dX11_addMark_12 (by decide) ?_)
      refine go_clt 20 dX11_addMark_14 (by decide) (fun h14 => ?_) (fun h14 => ?_)
      · refine go_al0 dX11_addMark_20 (go_V0r mcX4_isFull mvX4_isFull kX11_361 rfl dX11_addMark_21 rfl rfl (sX4_isFull_13 _) ?_)
        refine go_ifeqB 30 dX11_addMark_24 (by decide) (fun h24 => ?_) (fun h24 => ?_)
        · refine go_al0 dX11_addMark_30 (go_il1 dX11_addMark_31 (go_il2 dX11_addMark_32 (go_il3 dX11_addMark_33 (go_V3v mcX4_append mvX4_append kX11_362 rfl dX11_addMark_34 rfl rfl (sX4_append_13 _ _ _ _ (by rw [hN]; exact nI_pos (by omega)) (by simpa using h24)) (go_al0 dX11_addMark_37 (go_getI fX11_134 rfl rfl dX11_addMark_38 ?_))))))
          refine go_iret dX11_addMark_41 ?_
          have e24 : (μ.1 13 3 < nI 8) = (N < 8) := by rw [hN]; exact propext (nI_ltI (by omega) (by decide))
          have hNn : N < 8 := by simpa [e24] using h24
          refine ⟨?_, ?_⟩
          · simp only [sMark13, if_pos h4, if_neg h8, if_pos h14, if_pos hNn]
            show some (Value.int ((cap13 μ x y z).1 13 3)) = _
            rw [cap13, gm_Is, hN, nI_1]
          · rw [if_pos]
            simp [bMark13, hNn, h4, h8, h14]
        · refine go_bipush (v := -4) dX11_addMark_27 (by decide) ?_
          refine go_iret dX11_addMark_29 ?_
          have e24 : (μ.1 13 3 < nI 8) = (N < 8) := by rw [hN]; exact propext (nI_ltI (by omega) (by decide))
          have hNn : ¬ N < 8 := by simpa [e24] using h24
          refine ⟨by simp only [sMark13, if_pos h4, if_neg h8, if_pos h14, if_neg hNn], ?_⟩
          rw [if_neg]
          simp [bMark13, hNn]
      · refine go_bipush (v := -2) dX11_addMark_17 (by decide) ?_
        refine go_iret dX11_addMark_19 ?_
        refine ⟨by simp only [sMark13, if_pos h4, if_neg h8, if_neg h14], ?_⟩
        rw [if_neg]
        simp [bMark13, h4, h8, h14]

def sMark17 (N : Nat) (x y : Int32) : Int32 := if gnight x = true then (if y < 0 then -2 else if y < 8 then (if N < 4 then nI (N + 1) else -4) else -2) else -2
def bMark17 (N : Nat) (x y : Int32) : Bool := gnight x && (decide (¬ y < 0) && (decide (y < 8) && decide (N < 4)))
set_option maxRecDepth 100000 in
set_option maxHeartbeats 400000 in
theorem aX11_addMark_17 {μ : gm_M} {N : Nat} (hN : μ.1 17 3 = nI N) (hN2 : N ≤ 4) (x y z : Int32) : Ret yX11_addMark cX11_addMark 4 (some .int) 1 [(.ref 17), (.int x), (.int y), (.int z)] μ (some (.int (sMark17 N x y))) (if bMark17 N x y = true then cap17 μ x y z else μ) := by
  refine Sat.of (L := [some (.ref 17), some (.int x), some (.int y), some (.int z)]) (by decide) (fun _ => rfl) (fun _ => rfl) ?_
  refine go_il1 dX11_addMark_0 (go_S1r mcX11_isNight mvX11_isNight kX11_111 dX11_addMark_1 rfl rfl (sX11_isNight _ _) ?_)
  refine go_ifeqB 17 dX11_addMark_4 (by decide) (fun h4 => ?_) (fun h4 => ?_)
  · refine go_bipush (v := -2) dX11_addMark_17 (by decide) ?_
    refine go_iret dX11_addMark_19 ?_
    refine ⟨by simp only [sMark17, if_neg (gf h4)], ?_⟩
    rw [if_neg]
    simp [bMark17, h4]
  · refine go_il2 dX11_addMark_7 ?_
    refine go_iflt 17 dX11_addMark_8 (by decide) (fun h8 => ?_) (fun h8 => ?_)
    · refine go_bipush (v := -2) dX11_addMark_17 (by decide) ?_
      refine go_iret dX11_addMark_19 ?_
      refine ⟨by simp only [sMark17, if_pos h4, if_pos h8], ?_⟩
      rw [if_neg]
      simp [bMark17, h4, h8]
    · refine go_il2 dX11_addMark_11 (go_bipush (v := 8) dX11_addMark_12 (by decide) ?_)
      refine go_clt 20 dX11_addMark_14 (by decide) (fun h14 => ?_) (fun h14 => ?_)
      · refine go_al0 dX11_addMark_20 (go_V0r mcX4_isFull mvX4_isFull kX11_361 rfl dX11_addMark_21 rfl rfl (sX4_isFull_17 _) ?_)
        refine go_ifeqB 30 dX11_addMark_24 (by decide) (fun h24 => ?_) (fun h24 => ?_)
        · refine go_al0 dX11_addMark_30 (go_il1 dX11_addMark_31 (go_il2 dX11_addMark_32 (go_il3 dX11_addMark_33 (go_V3v mcX4_append mvX4_append kX11_362 rfl dX11_addMark_34 rfl rfl (sX4_append_17 _ _ _ _ (by rw [hN]; exact nI_pos (by omega)) (by simpa using h24)) (go_al0 dX11_addMark_37 (go_getI fX11_134 rfl rfl dX11_addMark_38 ?_))))))
          refine go_iret dX11_addMark_41 ?_
          have e24 : (μ.1 17 3 < nI 4) = (N < 4) := by rw [hN]; exact propext (nI_ltI (by omega) (by decide))
          have hNn : N < 4 := by simpa [e24] using h24
          refine ⟨?_, ?_⟩
          · simp only [sMark17, if_pos h4, if_neg h8, if_pos h14, if_pos hNn]
            show some (Value.int ((cap17 μ x y z).1 17 3)) = _
            rw [cap17, gm_Is, hN, nI_1]
          · rw [if_pos]
            simp [bMark17, hNn, h4, h8, h14]
        · refine go_bipush (v := -4) dX11_addMark_27 (by decide) ?_
          refine go_iret dX11_addMark_29 ?_
          have e24 : (μ.1 17 3 < nI 4) = (N < 4) := by rw [hN]; exact propext (nI_ltI (by omega) (by decide))
          have hNn : ¬ N < 4 := by simpa [e24] using h24
          refine ⟨by simp only [sMark17, if_pos h4, if_neg h8, if_pos h14, if_neg hNn], ?_⟩
          rw [if_neg]
          simp [bMark17, hNn]
      · refine go_bipush (v := -2) dX11_addMark_17 (by decide) ?_
        refine go_iret dX11_addMark_19 ?_
        refine ⟨by simp only [sMark17, if_pos h4, if_neg h8, if_neg h14], ?_⟩
        rw [if_neg]
        simp [bMark17, h4, h8, h14]

def sMark21 (N : Nat) (x y : Int32) : Int32 := if gnight x = true then (if y < 0 then -2 else if y < 8 then (if N < 8 then nI (N + 1) else -4) else -2) else -2
def bMark21 (N : Nat) (x y : Int32) : Bool := gnight x && (decide (¬ y < 0) && (decide (y < 8) && decide (N < 8)))
set_option maxRecDepth 100000 in
set_option maxHeartbeats 400000 in
theorem aX11_addMark_21 {μ : gm_M} {N : Nat} (hN : μ.1 21 3 = nI N) (hN2 : N ≤ 8) (x y z : Int32) : Ret yX11_addMark cX11_addMark 4 (some .int) 1 [(.ref 21), (.int x), (.int y), (.int z)] μ (some (.int (sMark21 N x y))) (if bMark21 N x y = true then cap21 μ x y z else μ) := by
  refine Sat.of (L := [some (.ref 21), some (.int x), some (.int y), some (.int z)]) (by decide) (fun _ => rfl) (fun _ => rfl) ?_
  refine go_il1 dX11_addMark_0 (go_S1r mcX11_isNight mvX11_isNight kX11_111 dX11_addMark_1 rfl rfl (sX11_isNight _ _) ?_)
  refine go_ifeqB 17 dX11_addMark_4 (by decide) (fun h4 => ?_) (fun h4 => ?_)
  · refine go_bipush (v := -2) dX11_addMark_17 (by decide) ?_
    refine go_iret dX11_addMark_19 ?_
    refine ⟨by simp only [sMark21, if_neg (gf h4)], ?_⟩
    rw [if_neg]
    simp [bMark21, h4]
  · refine go_il2 dX11_addMark_7 ?_
    refine go_iflt 17 dX11_addMark_8 (by decide) (fun h8 => ?_) (fun h8 => ?_)
    · refine go_bipush (v := -2) dX11_addMark_17 (by decide) ?_
      refine go_iret dX11_addMark_19 ?_
      refine ⟨by simp only [sMark21, if_pos h4, if_pos h8], ?_⟩
      rw [if_neg]
      simp [bMark21, h4, h8]
    · refine go_il2 dX11_addMark_11 (go_bipush (v := 8) dX11_addMark_12 (by decide) ?_)
      refine go_clt 20 dX11_addMark_14 (by decide) (fun h14 => ?_) (fun h14 => ?_)
      · refine go_al0 dX11_addMark_20 (go_V0r mcX4_isFull mvX4_isFull kX11_361 rfl dX11_addMark_21 rfl rfl (sX4_isFull_21 _) ?_)
        refine go_ifeqB 30 dX11_addMark_24 (by decide) (fun h24 => ?_) (fun h24 => ?_)
        · refine go_al0 dX11_addMark_30 (go_il1 dX11_addMark_31 (go_il2 dX11_addMark_32 (go_il3 dX11_addMark_33 (go_V3v mcX4_append mvX4_append kX11_362 rfl dX11_addMark_34 rfl rfl (sX4_append_21 _ _ _ _ (by rw [hN]; exact nI_pos (by omega)) (by simpa using h24)) (go_al0 dX11_addMark_37 (go_getI fX11_134 rfl rfl dX11_addMark_38 ?_))))))
          refine go_iret dX11_addMark_41 ?_
          have e24 : (μ.1 21 3 < nI 8) = (N < 8) := by rw [hN]; exact propext (nI_ltI (by omega) (by decide))
          have hNn : N < 8 := by simpa [e24] using h24
          refine ⟨?_, ?_⟩
          · simp only [sMark21, if_pos h4, if_neg h8, if_pos h14, if_pos hNn]
            show some (Value.int ((cap21 μ x y z).1 21 3)) = _
            rw [cap21, gm_Is, hN, nI_1]
          · rw [if_pos]
            simp [bMark21, hNn, h4, h8, h14]
        · refine go_bipush (v := -4) dX11_addMark_27 (by decide) ?_
          refine go_iret dX11_addMark_29 ?_
          have e24 : (μ.1 21 3 < nI 8) = (N < 8) := by rw [hN]; exact propext (nI_ltI (by omega) (by decide))
          have hNn : ¬ N < 8 := by simpa [e24] using h24
          refine ⟨by simp only [sMark21, if_pos h4, if_neg h8, if_pos h14, if_neg hNn], ?_⟩
          rw [if_neg]
          simp [bMark21, hNn]
      · refine go_bipush (v := -2) dX11_addMark_17 (by decide) ?_
        refine go_iret dX11_addMark_19 ?_
        refine ⟨by simp only [sMark21, if_pos h4, if_neg h8, if_neg h14], ?_⟩
        rw [if_neg]
        simp [bMark21, h4, h8, h14]

