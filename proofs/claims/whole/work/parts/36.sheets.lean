/-! sheets -/
theorem shS {k : Nat} (h : k < 4) : gm_sh (44 + k) = some (.inr (6, [48 + k + 2, 0, 0, 0])) := by
  match k, h with
  | 0, _ => rfl
  | 1, _ => rfl
  | 2, _ => rfl
  | 3, _ => rfl
theorem shQ {k : Nat} (h : k < 4) : gm_sh (48 + k) = some (.inl (0, 60)) := by
  match k, h with
  | 0, _ => rfl
  | 1, _ => rfl
  | 2, _ => rfl
  | 3, _ => rfl
def inS (x : Int32) : Bool := decide (¬ x < 0) && decide (¬ 4 ≤ x)
def inF (x : Int32) : Bool := decide (¬ x < 0) && decide (¬ 3 ≤ x)
theorem inS_of {x : Int32} (h : inS x = true) : ∃ k, k < 4 ∧ x = nI k := by
  unfold inS at h
  simp only [Bool.and_eq_true, decide_eq_true_eq] at h
  exact vp_in_of (gm_in (n := 4) h.1 h.2 (by decide)) (by decide)
theorem inF_of {x : Int32} (h : inF x = true) : ∃ k, k < 3 ∧ x = nI k := by
  unfold inF at h
  simp only [Bool.and_eq_true, decide_eq_true_eq] at h
  exact vp_in_of (gm_in (n := 3) h.1 h.2 (by decide)) (by decide)
def wSF (r : RS) (k : Nat) (t : SHT) (v : Int32) : RS := (ra0 r, ra1 r, rti r, rsr r, rtu r, rkn r, rli r, fun s => if s = k then t else rst r s, v)
def wF (r : RS) (v : Int32) : RS := (ra0 r, ra1 r, rti r, rsr r, rtu r, rkn r, rli r, rst r, v)
theorem CA_sheet {r : RS} {μ μ' : gm_M} (hC : CA r μ) {k : Nat} (hk : k < 4) {t : SHT} {v : Int32} (ht : t.2.1 ≤ 2 ∧ t.2.2.1 ≤ 60) (e : ∀ c, c ≠ 44 + k → c ≠ 48 + k → c ≠ 0 → μ'.1 c = μ.1 c) (h1 : μ'.1 (44 + k) 1 = gb t.1) (h2 : μ'.1 (44 + k) 2 = nI t.2.1) (h3 : μ'.1 (44 + k) 3 = nI t.2.2.1) (h4 : ∀ i, i < 60 → μ'.1 (48 + k) i = t.2.2.2 i) (h0 : μ'.1 0 6 = v) : CA (wSF r k t v) μ' ∧ FrR 0 51 μ μ' := by
  obtain ⟨⟨o1, o2, o3, o4, o5, o6, o7, o8⟩, ha, hb, hc, hd⟩ := hC
  refine ⟨⟨⟨o1, o2, o3, o4, o5, o6, o7, fun s hs => ?_⟩, ha.cong (fun c hc => e c (by omega) (by omega) (by omega)), hb.cong (fun c hc => e c (by omega) (by omega) (by omega)), hc.cong (fun c hc => e c (by omega) (by omega) (by omega)), ⟨fun s hs => ?_, h0⟩⟩, fun c hc => e c (by omega) (by omega) (by omega)⟩
  · show (if s = k then t else rst r s).2.1 ≤ 2 ∧ (if s = k then t else rst r s).2.2.1 ≤ 60
    by_cases z : s = k
    · rw [if_pos z]; exact ht
    · rw [if_neg z]; exact o8 s hs
  · show μ'.1 (44 + s) 1 = gb (if s = k then t else rst r s).1 ∧ μ'.1 (44 + s) 2 = nI (if s = k then t else rst r s).2.1 ∧ μ'.1 (44 + s) 3 = nI (if s = k then t else rst r s).2.2.1 ∧ ∀ i, i < 60 → μ'.1 (48 + s) i = (if s = k then t else rst r s).2.2.2 i
    by_cases z : s = k
    · subst z; rw [if_pos rfl]; exact ⟨h1, h2, h3, h4⟩
    · rw [if_neg z, e (44 + s) (by omega) (by omega) (by omega), e (48 + s) (by omega) (by omega) (by omega)]
      exact hd.1 s hs
theorem CA_find {r : RS} {μ : gm_M} (hC : CA r μ) (v : Int32) : CA (wF r v) (gm_I μ 0 6 v) ∧ FrR 0 51 μ (gm_I μ 0 6 v) := by
  obtain ⟨ho, ha, hb, hc, hd⟩ := hC
  refine ⟨⟨ho, ha.cong (fun c hc => gm_In _ _ _ (by omega)), hb.cong (fun c hc => gm_In _ _ _ (by omega)), hc.cong (fun c hc => gm_In _ _ _ (by omega)), ⟨fun s hs => ?_, gm_Is _ _ _ _⟩⟩, (FrR.rf μ).I _ _ (by decide) (by decide)⟩
  rw [gm_In _ _ _ (by omega), gm_In _ _ _ (by omega)]
  exact hd.1 s hs
def sSheet (x f n : Int32) : Int32 := if inS x = true then (if inF f = true then (if n ≤ 60 then (if 0 ≤ n then n else -15) else -2) else -2) else -2
def nSheet (r : RS) (x f n : Int32) : RS := if inS x = true then (if inF f = true then (if n ≤ 60 then (if 0 ≤ n then wSF r (wN x) (false, wN f, wN n, fun _ => 0) (rfi r) else wF r 5) else r) else r) else r
def sLose (r : RS) (x : Int32) : Int32 := if inS x = true then (if (rst r (wN x)).1 = true then -11 else nI (rst r (wN x)).2.2.1) else -2
def nLose (r : RS) (x : Int32) : RS := if inS x = true then (if (rst r (wN x)).1 = true then wF r 1 else wSF r (wN x) (true, (rst r (wN x)).2) (rfi r)) else r
/-- what is found at an item: 0 for nothing -/
def lackS (t : SHT) (f i : Int32) : Int32 := if t.1 = true then 1 else if nI t.2.1 = f then (if i < 0 then 2 else if i < nI t.2.2.1 then 0 else 2) else 3
def sPut (r : RS) (x f i : Int32) : Int32 := if inS x = true then (if inF f = true then (if lackS (rst r (wN x)) f i = 0 then 1 else -10 - lackS (rst r (wN x)) f i) else -2) else -2
def nPut (r : RS) (x f i v : Int32) : RS := if inS x = true then (if inF f = true then (if lackS (rst r (wN x)) f i = 0 then wSF r (wN x) ((rst r (wN x)).1, (rst r (wN x)).2.1, (rst r (wN x)).2.2.1, fun j => if j = wN i then csnar (nI (rst r (wN x)).2.1) v else (rst r (wN x)).2.2.2 j) (rfi r) else wF r (lackS (rst r (wN x)) f i)) else r) else r
def sGet (r : RS) (x f i : Int32) : Int32 := if inS x = true then (if inF f = true then (if lackS (rst r (wN x)) f i = 0 then (rst r (wN x)).2.2.2 (wN i) else -2147483648) else -2147483648) else -2147483648
def nGet (r : RS) (x f i : Int32) : RS := if inS x = true then (if inF f = true then (if lackS (rst r (wN x)) f i = 0 then r else wF r (lackS (rst r (wN x)) f i)) else r) else r
theorem lackS_ok {t : SHT} {f i : Int32} (ht : t.2.2.1 ≤ 60) (h : lackS t f i = 0) : t.1 = false ∧ ∃ j, j < t.2.2.1 ∧ i = nI j := by
  unfold lackS at h
  cases hl : t.1 with
  | true => rw [hl, if_pos rfl] at h; exact absurd h (by decide)
  | false =>
    rw [hl, if_neg (by decide)] at h
    refine ⟨rfl, ?_⟩
    split at h
    · split at h
      · exact absurd h (by decide)
      · split at h
        · exact vp_in_of (gm_in3 (by assumption) (by assumption) rfl (by omega)) (by omega)
        · exact absurd h (by decide)
    · exact absurd h (by decide)
set_option maxRecDepth 100000 in
set_option maxHeartbeats 400000 in
theorem p_sheet {r : RS} {μ : gm_M} (hC : CA r μ) (x f n : Int32) : Sat yX11_sheet cX11_sheet 4 (some .int) 2 [(.ref 0), (.int x), (.int f), (.int n)] μ (fun r' μ' => r' = some (.int (sSheet x f n)) ∧ CA (nSheet r x f n) μ' ∧ FrR 0 51 μ μ') := by
  refine Sat.of (L := [some (.ref 0), some (.int x), some (.int f), some (.int n)]) (by decide) (fun _ => rfl) (fun _ => rfl) ?_
  refine go_al0 dX11_sheet_0 (go_il1 dX11_sheet_1 (go_V1r mcX11_isSheet mvX11_isSheet kX11_139 rfl dX11_sheet_2 rfl rfl (sX11_isSheet _ _) ?_))
  refine go_ifeqB 21 dX11_sheet_5 (by decide) (fun h5 => ?_) (fun h5 => ?_)
  · refine go_bipush (v := -2) dX11_sheet_21 (by decide) ?_
    refine go_iret dX11_sheet_23 ?_
    simp only [sSheet, nSheet, if_neg (gf (show inS _ = false from h5))]
    exact ⟨trivial, hC, FrR.rf μ⟩
  · refine go_il2 dX11_sheet_8 (go_S1r mcX11_isForm mvX11_isForm kX11_272 dX11_sheet_9 rfl rfl (sX11_isForm _ _) ?_)
    refine go_ifeqB 21 dX11_sheet_12 (by decide) (fun h12 => ?_) (fun h12 => ?_)
    · refine go_bipush (v := -2) dX11_sheet_21 (by decide) ?_
      refine go_iret dX11_sheet_23 ?_
      simp only [sSheet, nSheet, if_pos (show inS _ = true from h5), if_neg (gf (show inF _ = false from h12))]
      exact ⟨trivial, hC, FrR.rf μ⟩
    · refine go_il3 dX11_sheet_15 (go_bipush (v := 60) dX11_sheet_16 (by decide) ?_)
      refine go_cle 24 dX11_sheet_18 (by decide) (fun h18 => ?_) (fun h18 => ?_)
      · refine go_il3 dX11_sheet_24 ?_
        refine go_ifge 34 dX11_sheet_25 (by decide) (fun h25 => ?_) (fun h25 => ?_)
        · obtain ⟨k, hk, rfl⟩ := inS_of (show inS x = true from h5)
          refine go_al0 dX11_sheet_34 (go_getR (j := 43) fX11_48 rfl rfl dX11_sheet_35 (go_il1 dX11_sheet_38 (go_aald rfl (vp_in_nI hk (by decide)) dX11_sheet_39 ?_)))
          rw [nI_clamp (show k < 2 ^ 31 by omega)]
          refine go_il2 dX11_sheet_40 (go_il3 dX11_sheet_41 (go_V2v mcX6_renew mvX6_renew kX11_275 (shS hk) dX11_sheet_42 rfl rfl (sX6_renew (shS hk) (shQ hk) _ _ _) (go_il3 dX11_sheet_45 ?_)))
          refine go_iret dX11_sheet_46 ?_
          simp only [sSheet, nSheet, if_pos (show inS _ = true from h5), if_pos (show inF _ = true from h12), if_pos h18, if_pos h25]
          obtain ⟨f0, hf0, rfl⟩ := inF_of (show inF f = true from h12)
          obtain ⟨n0, hn0, rfl⟩ := int_of (B := 60) (N := 60) (by decide) (by decide) (fun z => absurd z (Int32.not_lt.mpr h25)) h18
          rw [wN_nI (by omega), wN_nI (by omega), wN_nI (by omega)]
          have n1 : 48 + k ≠ 44 + k := by omega
          refine ⟨trivial, CA_sheet hC hk (t := (false, f0, n0, fun _ => 0)) ⟨by show f0 ≤ 2; omega, hn0⟩ (fun c h1 h2 h3 => ?_) ?_ ?_ ?_ (fun i hi => ?_) ?_⟩
          · unfold csren
            rw [gm_In _ _ _ h1, gm_In _ _ _ h1, gm_In _ _ _ h1]
            simp [gm_fill, gm_aI, h2]
          · unfold csren
            rw [gm_Io _ _ _ (by decide), gm_Io _ _ _ (by decide), gm_Is]; rfl
          · unfold csren
            rw [gm_Io _ _ _ (by decide), gm_Is]
          · unfold csren
            rw [gm_Is]
          · unfold csren
            rw [gm_In _ _ _ n1, gm_In _ _ _ n1, gm_In _ _ _ n1]
            simp [gm_fill, gm_aI, hi]
          · unfold csren
            rw [gm_In _ _ _ (by omega), gm_In _ _ _ (by omega), gm_In _ _ _ (by omega)]
            have : (0 : Nat) ≠ 48 + k := by omega
            simp [gm_fill, gm_aI, this]
            exact hC.2.2.2.2.2
        · refine go_al0 dX11_sheet_28 (go_ic5 dX11_sheet_29 (go_V1r mcX11_found mvX11_found kX11_146 rfl dX11_sheet_30 rfl rfl (sX11_found _ _) ?_))
          refine go_iret dX11_sheet_33 ?_
          simp only [sSheet, nSheet, if_pos (show inS _ = true from h5), if_pos (show inF _ = true from h12), if_pos h18, if_neg h25]
          exact ⟨by decide, CA_find hC 5⟩
      · refine go_bipush (v := -2) dX11_sheet_21 (by decide) ?_
        refine go_iret dX11_sheet_23 ?_
        simp only [sSheet, nSheet, if_pos (show inS _ = true from h5), if_pos (show inF _ = true from h12), if_neg h18]
        exact ⟨trivial, hC, FrR.rf μ⟩

set_option maxRecDepth 100000 in
set_option maxHeartbeats 400000 in
theorem p_lose {r : RS} {μ : gm_M} (hC : CA r μ) (x : Int32) : Sat yX11_lose cX11_lose 2 (some .int) 1 [(.ref 0), (.int x)] μ (fun r' μ' => r' = some (.int (sLose r x)) ∧ CA (nLose r x) μ' ∧ FrR 0 51 μ μ') := by
  refine Sat.of (L := [some (.ref 0), some (.int x)]) (by decide) (fun _ => rfl) (fun _ => rfl) ?_
  refine go_al0 dX11_lose_0 (go_il1 dX11_lose_1 (go_V1r mcX11_isSheet mvX11_isSheet kX11_139 rfl dX11_lose_2 rfl rfl (sX11_isSheet _ _) ?_))
  refine go_ifneB 11 dX11_lose_5 (by decide) (fun h5 => ?_) (fun h5 => ?_)
  · obtain ⟨k, hk, rfl⟩ := inS_of (show inS x = true from h5)
    refine go_al0 dX11_lose_11 (go_getR (j := 43) fX11_48 rfl rfl dX11_lose_12 (go_il1 dX11_lose_15 (go_aald rfl (vp_in_nI hk (by decide)) dX11_lose_16 ?_)))
    rw [nI_clamp (show k < 2 ^ 31 by omega)]
    refine go_getI fX11_142 (shS hk) rfl dX11_lose_17 ?_
    refine go_ifeq 29 dX11_lose_20 (by decide) (fun h20 => ?_) (fun h20 => ?_)
    · refine go_al0 dX11_lose_29 (go_getR (j := 43) fX11_48 rfl rfl dX11_lose_30 (go_il1 dX11_lose_33 (go_aald rfl (vp_in_nI hk (by decide)) dX11_lose_34 ?_)))
      rw [nI_clamp (show k < 2 ^ 31 by omega)]
      refine go_ic1 dX11_lose_35 (go_putZ1 fX11_142 (shS hk) rfl dX11_lose_36 (go_al0 dX11_lose_39 (go_getR (j := 43) fX11_48 rfl rfl dX11_lose_40 (go_il1 dX11_lose_43 (go_aald rfl (vp_in_nI hk (by decide)) dX11_lose_44 ?_)))))
      rw [nI_clamp (show k < 2 ^ 31 by omega)]
      refine go_getI fX11_149 (shS hk) rfl dX11_lose_45 ?_
      refine go_iret dX11_lose_48 ?_
      have hs := hC.2.2.2.2.1 k hk
      have hl : (rst r k).1 = false := by
        have := h20
        rw [hs.1] at this
        exact gb_eq0.mp this
      simp only [sLose, nLose, if_pos (show inS _ = true from h5)]
      rw [wN_nI (by omega), if_neg (gf hl), if_neg (gf hl)]
      refine ⟨by rw [gm_Io _ _ _ (by decide), hs.2.2.1], CA_sheet hC hk (t := (true, (rst r k).2)) (hC.1.2.2.2.2.2.2.2 k hk) (fun c h1 h2 h3 => gm_In _ _ _ h1) (by rw [gm_Is]; rfl) (by rw [gm_Io _ _ _ (by decide)]; exact hs.2.1) (by rw [gm_Io _ _ _ (by decide)]; exact hs.2.2.1) (fun i hi => by rw [gm_In _ _ _ (by omega)]; exact hs.2.2.2 i hi) (by rw [gm_In _ _ _ (by omega)]; exact hC.2.2.2.2.2)⟩
    · refine go_al0 dX11_lose_23 (go_ic1 dX11_lose_24 (go_V1r mcX11_found mvX11_found kX11_146 rfl dX11_lose_25 rfl rfl (sX11_found _ _) ?_))
      refine go_iret dX11_lose_28 ?_
      have hs := hC.2.2.2.2.1 k hk
      have hl : (rst r k).1 = true := by
        have := h20
        rw [hs.1] at this
        cases hc : (rst r k).1 with
        | true => rfl
        | false => rw [hc] at this; exact absurd rfl this
      simp only [sLose, nLose, if_pos (show inS _ = true from h5)]
      rw [wN_nI (by omega), if_pos hl, if_pos hl]
      exact ⟨by decide, CA_find hC 1⟩
  · refine go_bipush (v := -2) dX11_lose_8 (by decide) ?_
    refine go_iret dX11_lose_10 ?_
    simp only [sLose, nLose, if_neg (gf (show inS _ = false from h5))]
    exact ⟨trivial, hC, FrR.rf μ⟩

set_option maxRecDepth 100000 in
set_option maxHeartbeats 400000 in
theorem aX11_findingAt {k : Nat} (hk : k < 4) {t : SHT} {μ : gm_M} (h1 : μ.1 (44 + k) 1 = gb t.1) (h2 : μ.1 (44 + k) 2 = nI t.2.1) (h3 : μ.1 (44 + k) 3 = nI t.2.2.1) (f i : Int32) : Ret yX11_findingAt cX11_findingAt 3 (some .int) 0 [(.ref (44 + k)), (.int f), (.int i)] μ (some (.int (lackS t f i))) μ := by
  refine Sat.of (L := [some (.ref (44 + k)), some (.int f), some (.int i)]) (by decide) (fun _ => rfl) (fun _ => rfl) ?_
  refine go_al0 dX11_findingAt_0 (go_getI fX11_142 (shS hk) rfl dX11_findingAt_1 ?_)
  refine go_ifeq 9 dX11_findingAt_4 (by decide) (fun h4 => ?_) (fun h4 => ?_)
  · refine go_al0 dX11_findingAt_9 (go_getI fX11_286 (shS hk) rfl dX11_findingAt_10 (go_il1 dX11_findingAt_13 ?_))
    refine go_ceq 19 dX11_findingAt_14 (by decide) (fun h14 => ?_) (fun h14 => ?_)
    · refine go_il2 dX11_findingAt_19 ?_
      refine go_iflt 31 dX11_findingAt_20 (by decide) (fun h20 => ?_) (fun h20 => ?_)
      · refine go_ic2 dX11_findingAt_31 (go_goto 36 dX11_findingAt_32 (by decide) ?_)
        refine go_iret dX11_findingAt_36 ?_
        have e1 : t.1 = false := by
          have := h4
          rw [h1] at this
          exact gb_eq0.mp this
        have e2 : nI t.2.1 = f := by rw [← h2]; exact h14
        exact ⟨by rw [lackS, if_neg (gf e1), if_pos e2, if_pos h20], rfl⟩
      · refine go_il2 dX11_findingAt_23 (go_al0 dX11_findingAt_24 (go_getI fX11_149 (shS hk) rfl dX11_findingAt_25 ?_))
        refine go_clt 35 dX11_findingAt_28 (by decide) (fun h28 => ?_) (fun h28 => ?_)
        · refine go_ic0 dX11_findingAt_35 ?_
          refine go_iret dX11_findingAt_36 ?_
          have e1 : t.1 = false := by
            have := h4
            rw [h1] at this
            exact gb_eq0.mp this
          have e2 : nI t.2.1 = f := by rw [← h2]; exact h14
          have e3 : i < nI t.2.2.1 := by rw [← h3]; exact h28
          exact ⟨by rw [lackS, if_neg (gf e1), if_pos e2, if_neg h20, if_pos e3], rfl⟩
        · refine go_ic2 dX11_findingAt_31 (go_goto 36 dX11_findingAt_32 (by decide) ?_)
          refine go_iret dX11_findingAt_36 ?_
          have e1 : t.1 = false := by
            have := h4
            rw [h1] at this
            exact gb_eq0.mp this
          have e2 : nI t.2.1 = f := by rw [← h2]; exact h14
          have e3 : ¬ i < nI t.2.2.1 := by rw [← h3]; exact h28
          exact ⟨by rw [lackS, if_neg (gf e1), if_pos e2, if_neg h20, if_neg e3], rfl⟩
    · refine go_ic3 dX11_findingAt_17 ?_
      refine go_iret dX11_findingAt_18 ?_
      have e1 : t.1 = false := by
        have := h4
        rw [h1] at this
        exact gb_eq0.mp this
      have e2 : ¬ nI t.2.1 = f := by rw [← h2]; exact h14
      exact ⟨by rw [lackS, if_neg (gf e1), if_neg e2], rfl⟩
  · refine go_ic1 dX11_findingAt_7 ?_
    refine go_iret dX11_findingAt_8 ?_
    have e1 : t.1 = true := by
      have := h4
      rw [h1] at this
      cases hc : t.1 with
      | true => rfl
      | false => rw [hc] at this; exact absurd rfl this
    exact ⟨by rw [lackS, if_pos e1], rfl⟩

set_option maxRecDepth 100000 in
set_option maxHeartbeats 400000 in
theorem p_put {r : RS} {μ : gm_M} (hC : CA r μ) (x f i v : Int32) : Sat yX11_put cX11_put 6 (some .int) 1 [(.ref 0), (.int x), (.int f), (.int i), (.int v)] μ (fun r' μ' => r' = some (.int (sPut r x f i)) ∧ CA (nPut r x f i v) μ' ∧ FrR 0 51 μ μ') := by
  refine Sat.of (L := [some (.ref 0), some (.int x), some (.int f), some (.int i), some (.int v), none]) (by decide) (fun _ => rfl) (fun _ => rfl) ?_
  refine go_al0 dX11_put_0 (go_il1 dX11_put_1 (go_V1r mcX11_isSheet mvX11_isSheet kX11_139 rfl dX11_put_2 rfl rfl (sX11_isSheet _ _) ?_))
  refine go_ifeqB 15 dX11_put_5 (by decide) (fun h5 => ?_) (fun h5 => ?_)
  · refine go_bipush (v := -2) dX11_put_15 (by decide) ?_
    refine go_iret dX11_put_17 ?_
    simp only [sPut, nPut, if_neg (gf (show inS _ = false from h5))]
    exact ⟨trivial, hC, FrR.rf μ⟩
  · refine go_il2 dX11_put_8 (go_S1r mcX11_isForm mvX11_isForm kX11_272 dX11_put_9 rfl rfl (sX11_isForm _ _) ?_)
    refine go_ifneB 18 dX11_put_12 (by decide) (fun h12 => ?_) (fun h12 => ?_)
    · obtain ⟨k, hk, rfl⟩ := inS_of (show inS x = true from h5)
      refine go_al0 dX11_put_18 (go_getR (j := 43) fX11_48 rfl rfl dX11_put_19 (go_il1 dX11_put_22 (go_aald rfl (vp_in_nI hk (by decide)) dX11_put_23 ?_)))
      rw [nI_clamp (show k < 2 ^ 31 by omega)]
      refine go_il2 dX11_put_24 (go_il3 dX11_put_25 (go_S3r mcX11_findingAt mvX11_findingAt kX11_278 dX11_put_26 rfl rfl (aX11_findingAt hk (hC.2.2.2.2.1 k hk).1 (hC.2.2.2.2.1 k hk).2.1 (hC.2.2.2.2.1 k hk).2.2.1 _ _) (go_is5 dX11_put_29 rfl rfl (go_il5 dX11_put_31 ?_))))
      refine go_ifeq 43 dX11_put_33 (by decide) (fun h33 => ?_) (fun h33 => ?_)
      · have hz60 := (hC.1.2.2.2.2.2.2.2 k hk).2
        obtain ⟨hlost, j, hj, rfl⟩ := lackS_ok hz60 h33
        refine go_al0 dX11_put_43 (go_getR (j := 43) fX11_48 rfl rfl dX11_put_44 (go_il1 dX11_put_47 (go_aald rfl (vp_in_nI hk (by decide)) dX11_put_48 ?_)))
        rw [nI_clamp (show k < 2 ^ 31 by omega)]
        refine go_il3 dX11_put_49 (go_il4 dX11_put_50 (go_V2v mcX6_place mvX6_place kX11_282 (shS hk) dX11_put_52 rfl rfl (sX6_place (shS hk) (shQ hk) (j := j) (by omega) _ _) (go_ic1 dX11_put_55 ?_)))
        refine go_iret dX11_put_56 ?_
        simp only [sPut, nPut, if_pos (show inS _ = true from h5), if_pos (show inF _ = true from h12)]
        rw [wN_nI (by omega), if_pos h33, if_pos h33, wN_nI (by omega)]
        have hs := hC.2.2.2.2.1 k hk
        refine ⟨rfl, CA_sheet hC hk (hC.1.2.2.2.2.2.2.2 k hk) (fun c h1 h2 h3 => gm_In _ _ _ h2) (by rw [gm_In _ _ _ (by omega)]; exact hs.1) (by rw [gm_In _ _ _ (by omega)]; exact hs.2.1) (by rw [gm_In _ _ _ (by omega)]; exact hs.2.2.1) (fun a ha => ?_) (by rw [gm_In _ _ _ (by omega)]; exact hC.2.2.2.2.2)⟩
        rw [gm_I1, if_pos rfl, hs.2.1]
        show _ = if a = j then _ else _
        by_cases z : a = j
        · rw [if_pos z, if_pos z]
        · rw [if_neg z, if_neg z]; exact hs.2.2.2 a ha
      · refine go_al0 dX11_put_36 (go_il5 dX11_put_37 (go_V1r mcX11_found mvX11_found kX11_146 rfl dX11_put_39 rfl rfl (sX11_found _ _) ?_))
        refine go_iret dX11_put_42 ?_
        simp only [sPut, nPut, if_pos (show inS _ = true from h5), if_pos (show inF _ = true from h12)]
        rw [wN_nI (by omega), if_neg h33, if_neg h33]
        exact ⟨rfl, CA_find hC _⟩
    · refine go_bipush (v := -2) dX11_put_15 (by decide) ?_
      refine go_iret dX11_put_17 ?_
      simp only [sPut, nPut, if_pos (show inS _ = true from h5), if_neg (gf (show inF _ = false from h12))]
      exact ⟨trivial, hC, FrR.rf μ⟩

set_option maxRecDepth 100000 in
set_option maxHeartbeats 400000 in
theorem p_get {r : RS} {μ : gm_M} (hC : CA r μ) (x f i : Int32) : Sat yX11_get cX11_get 5 (some .int) 2 [(.ref 0), (.int x), (.int f), (.int i)] μ (fun r' μ' => r' = some (.int (sGet r x f i)) ∧ CA (nGet r x f i) μ' ∧ FrR 0 51 μ μ') := by
  refine Sat.of (L := [some (.ref 0), some (.int x), some (.int f), some (.int i), none]) (by decide) (fun _ => rfl) (fun _ => rfl) ?_
  refine go_al0 dX11_get_0 (go_il1 dX11_get_1 (go_V1r mcX11_isSheet mvX11_isSheet kX11_139 rfl dX11_get_2 rfl rfl (sX11_isSheet _ _) ?_))
  refine go_ifeqB 15 dX11_get_5 (by decide) (fun h5 => ?_) (fun h5 => ?_)
  · refine go_ldcw dX11_get_15 nX11_285 ?_
    refine go_iret dX11_get_18 ?_
    simp only [sGet, nGet, if_neg (gf (show inS _ = false from h5))]
    exact ⟨trivial, hC, FrR.rf μ⟩
  · refine go_il2 dX11_get_8 (go_S1r mcX11_isForm mvX11_isForm kX11_272 dX11_get_9 rfl rfl (sX11_isForm _ _) ?_)
    refine go_ifneB 19 dX11_get_12 (by decide) (fun h12 => ?_) (fun h12 => ?_)
    · obtain ⟨k, hk, rfl⟩ := inS_of (show inS x = true from h5)
      refine go_al0 dX11_get_19 (go_getR (j := 43) fX11_48 rfl rfl dX11_get_20 (go_il1 dX11_get_23 (go_aald rfl (vp_in_nI hk (by decide)) dX11_get_24 ?_)))
      rw [nI_clamp (show k < 2 ^ 31 by omega)]
      refine go_il2 dX11_get_25 (go_il3 dX11_get_26 (go_S3r mcX11_findingAt mvX11_findingAt kX11_278 dX11_get_27 rfl rfl (aX11_findingAt hk (hC.2.2.2.2.1 k hk).1 (hC.2.2.2.2.1 k hk).2.1 (hC.2.2.2.2.1 k hk).2.2.1 _ _) (go_is4 dX11_get_30 rfl rfl (go_il4 dX11_get_32 ?_))))
      refine go_ifeq 48 dX11_get_34 (by decide) (fun h34 => ?_) (fun h34 => ?_)
      · refine go_al0 dX11_get_48 (go_getR (j := 43) fX11_48 rfl rfl dX11_get_49 (go_il1 dX11_get_52 (go_aald rfl (vp_in_nI hk (by decide)) dX11_get_53 ?_)))
        rw [nI_clamp (show k < 2 ^ 31 by omega)]
        refine go_il3 dX11_get_54 (go_V1r mcX6_itemAt mvX6_itemAt kX11_152 (shS hk) dX11_get_55 rfl rfl (sX6_itemAt (shS hk) (shQ hk) _ _) ?_)
        refine go_iret dX11_get_58 ?_
        simp only [sGet, nGet, if_pos (show inS _ = true from h5), if_pos (show inF _ = true from h12)]
        rw [wN_nI (by omega), if_pos h34, if_pos h34]
        have hz60 := (hC.1.2.2.2.2.2.2.2 k hk).2
        obtain ⟨hlost, j, hj, rfl⟩ := lackS_ok hz60 h34
        refine ⟨?_, hC, FrR.rf μ⟩
        rw [gi_nI (by omega) (by decide), wN_nI (by omega), (hC.2.2.2.2.1 k hk).2.2.2 j (by omega)]
      · refine go_al0 dX11_get_37 (go_il4 dX11_get_38 (go_V1r mcX11_found mvX11_found kX11_146 rfl dX11_get_40 rfl rfl (sX11_found _ _) (go_pop dX11_get_43 rfl (go_ldcw dX11_get_44 nX11_285 ?_))))
        refine go_iret dX11_get_47 ?_
        simp only [sGet, nGet, if_pos (show inS _ = true from h5), if_pos (show inF _ = true from h12)]
        rw [wN_nI (by omega), if_neg h34, if_neg h34]
        exact ⟨rfl, CA_find hC _⟩
    · refine go_ldcw dX11_get_15 nX11_285 ?_
      refine go_iret dX11_get_18 ?_
      simp only [sGet, nGet, if_pos (show inS _ = true from h5), if_neg (gf (show inF _ = false from h12))]
      exact ⟨trivial, hC, FrR.rf μ⟩

