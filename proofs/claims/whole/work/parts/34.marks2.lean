/-! turnings, knocks, what is listened -/
def wTu (r : RS) (t : Nat × (Nat → Nat) × (Nat → Nat)) : RS := (ra0 r, ra1 r, rti r, rsr r, t, rkn r, rli r, rst r, rfi r)
def wKn (r : RS) (t : Nat × (Nat → Nat) × (Nat → Nat)) : RS := (ra0 r, ra1 r, rti r, rsr r, rtu r, t, rli r, rst r, rfi r)
def wLi (r : RS) (t : Nat × (Nat → Nat) × (Nat → Nat) × (Nat → Nat)) : RS := (ra0 r, ra1 r, rti r, rsr r, rtu r, rkn r, t, rst r, rfi r)
def nTurn (r : RS) (x y : Int32) : RS := if bMark13 (rtu r).1 x y = true then wTu r ((rtu r).1 + 1, updN (rtu r).2.1 (rtu r).1 (wN x), updN (rtu r).2.2 (rtu r).1 (wN y)) else r
def nKnock (r : RS) (x y : Int32) : RS := if bMark17 (rkn r).1 x y = true then wKn r ((rkn r).1 + 1, updN (rkn r).2.1 (rkn r).1 (wN x), updN (rkn r).2.2 (rkn r).1 (wN y)) else r
def nListen (r : RS) (x y z : Int32) : RS := if z < 0 then r else if z ≤ 8 then (if bMark21 (rli r).1 x y = true then wLi r ((rli r).1 + 1, updN (rli r).2.1 (rli r).1 (wN x), updN (rli r).2.2.1 (rli r).1 (wN y), updN (rli r).2.2.2 (rli r).1 (wN z)) else r) else r
def sListen (r : RS) (x y z : Int32) : Int32 := if z < 0 then -2 else if z ≤ 8 then sMark21 (rli r).1 x y else -2
theorem y8_of {y : Int32} (h1 : ¬ y < 0) (h2 : y < 8) : ∃ l, l < 8 ∧ y = nI l := vp_in_of (gm_in3 (n := 8) h1 h2 (by decide) (by decide)) (by decide)
theorem CA_Turn {r : RS} {μ : gm_M} (hC : CA r μ) {k l : Nat} {z : Int32} (hk : k < 30) (hl : l < 8) (hN : (rtu r).1 < 8) : CA (wTu r ((rtu r).1 + 1, updN (rtu r).2.1 (rtu r).1 k, updN (rtu r).2.2 (rtu r).1 l)) (cap13 μ (nI k) (nI l) z) ∧ FrR 0 51 μ (cap13 μ (nI k) (nI l) z) := by
  obtain ⟨⟨o1, o2, o3, o4, o5, o6, o7, o8⟩, ha, hb, ⟨c1, c2, c3, c4⟩, hd⟩ := hC
  have hn : μ.1 13 3 = nI (rtu r).1 := c2.1
  have hfr : ∀ i, i ≠ 13 → i ≠ 14 → i ≠ 15 → i ≠ 16 → (cap13 μ (nI k) (nI l) z).1 i = μ.1 i := by
    intro i h1 h2 h3 h4
    unfold cap13
    rw [gm_In _ _ _ h1, gm_In _ _ _ h4, gm_In _ _ _ h3, gm_In _ _ _ h2]
  have eN : (μ.1 13 3).toNatClampNeg = (rtu r).1 := by rw [hn]; exact nI_clamp (by omega)
  have e3 : (cap13 μ (nI k) (nI l) z).1 13 3 = nI ((rtu r).1 + 1) := by unfold cap13; rw [gm_Is, hn, nI_1]
  have e4 : ∀ i, (cap13 μ (nI k) (nI l) z).1 14 i = if i = (rtu r).1 then nI k else μ.1 14 i := by
    intro i; unfold cap13; rw [gm_In _ _ _ (by decide), gm_In _ _ _ (by decide), gm_In _ _ _ (by decide), gm_I1, if_pos rfl, eN]
  have e5 : ∀ i, (cap13 μ (nI k) (nI l) z).1 15 i = if i = (rtu r).1 then nI l else μ.1 15 i := by
    intro i; unfold cap13; rw [gm_In _ _ _ (by decide), gm_In _ _ _ (by decide), gm_I1, if_pos rfl, eN]; rfl
  have e6 : ∀ i, (cap13 μ (nI k) (nI l) z).1 16 i = if i = (rtu r).1 then z else μ.1 16 i := by
    intro i; unfold cap13; rw [gm_In _ _ _ (by decide), gm_I1, if_pos rfl, eN]; rfl
  refine ⟨⟨⟨o1, o2, o3, o4, ⟨by show _ + 1 ≤ 8; omega, fun i hi => ?_⟩, o6, o7, o8⟩, ha.cong (fun i hi => hfr i (by omega) (by omega) (by omega) (by omega)), hb.cong (fun i hi => hfr i (by omega) (by omega) (by omega) (by omega)), ⟨⟨by rw [hfr 1 (by decide) (by decide) (by decide) (by decide)]; exact c1.1, by rw [hfr 1 (by decide) (by decide) (by decide) (by decide)]; exact c1.2⟩, ⟨e3, fun i hi => ?_⟩, ⟨by rw [hfr 17 (by decide) (by decide) (by decide) (by decide)]; exact c3.1, by rw [hfr 18 (by decide) (by decide) (by decide) (by decide), hfr 19 (by decide) (by decide) (by decide) (by decide)]; exact c3.2⟩, ⟨by rw [hfr 21 (by decide) (by decide) (by decide) (by decide)]; exact c4.1, by rw [hfr 22 (by decide) (by decide) (by decide) (by decide), hfr 23 (by decide) (by decide) (by decide) (by decide), hfr 24 (by decide) (by decide) (by decide) (by decide)]; exact c4.2⟩⟩, hd.cong (fun i hi => hfr i (by omega) (by omega) (by omega) (by omega))⟩, fun i hi => hfr i (by omega) (by omega) (by omega) (by omega)⟩
  · have hi : i < (rtu r).1 + 1 := hi
    show updN (rtu r).2.1 (rtu r).1 k i < 30 ∧ updN (rtu r).2.2 (rtu r).1 l i < 8
    unfold updN
    by_cases z9 : i = (rtu r).1
    · simp only [if_pos z9]; exact ⟨hk, hl⟩
    · simp only [if_neg z9]; exact o5.2 i (by omega)
  · have hi : i < (rtu r).1 + 1 := hi
    show _ = nI (updN (rtu r).2.1 (rtu r).1 k i) ∧ _ = nI (updN (rtu r).2.2 (rtu r).1 l i)
    rw [e4, e5]
    unfold updN
    by_cases z9 : i = (rtu r).1
    · simp only [if_pos z9]; exact ⟨trivial, trivial⟩
    · simp only [if_neg z9]; exact c2.2 i (by omega)
theorem CA_Knock {r : RS} {μ : gm_M} (hC : CA r μ) {k l : Nat} {z : Int32} (hk : k < 30) (hl : l < 8) (hN : (rkn r).1 < 4) : CA (wKn r ((rkn r).1 + 1, updN (rkn r).2.1 (rkn r).1 k, updN (rkn r).2.2 (rkn r).1 l)) (cap17 μ (nI k) (nI l) z) ∧ FrR 0 51 μ (cap17 μ (nI k) (nI l) z) := by
  obtain ⟨⟨o1, o2, o3, o4, o5, o6, o7, o8⟩, ha, hb, ⟨c1, c2, c3, c4⟩, hd⟩ := hC
  have hn : μ.1 17 3 = nI (rkn r).1 := c3.1
  have hfr : ∀ i, i ≠ 17 → i ≠ 18 → i ≠ 19 → i ≠ 20 → (cap17 μ (nI k) (nI l) z).1 i = μ.1 i := by
    intro i h1 h2 h3 h4
    unfold cap17
    rw [gm_In _ _ _ h1, gm_In _ _ _ h4, gm_In _ _ _ h3, gm_In _ _ _ h2]
  have eN : (μ.1 17 3).toNatClampNeg = (rkn r).1 := by rw [hn]; exact nI_clamp (by omega)
  have e3 : (cap17 μ (nI k) (nI l) z).1 17 3 = nI ((rkn r).1 + 1) := by unfold cap17; rw [gm_Is, hn, nI_1]
  have e4 : ∀ i, (cap17 μ (nI k) (nI l) z).1 18 i = if i = (rkn r).1 then nI k else μ.1 18 i := by
    intro i; unfold cap17; rw [gm_In _ _ _ (by decide), gm_In _ _ _ (by decide), gm_In _ _ _ (by decide), gm_I1, if_pos rfl, eN]
  have e5 : ∀ i, (cap17 μ (nI k) (nI l) z).1 19 i = if i = (rkn r).1 then nI l else μ.1 19 i := by
    intro i; unfold cap17; rw [gm_In _ _ _ (by decide), gm_In _ _ _ (by decide), gm_I1, if_pos rfl, eN]; rfl
  have e6 : ∀ i, (cap17 μ (nI k) (nI l) z).1 20 i = if i = (rkn r).1 then z else μ.1 20 i := by
    intro i; unfold cap17; rw [gm_In _ _ _ (by decide), gm_I1, if_pos rfl, eN]; rfl
  refine ⟨⟨⟨o1, o2, o3, o4, o5, ⟨by show _ + 1 ≤ 4; omega, fun i hi => ?_⟩, o7, o8⟩, ha.cong (fun i hi => hfr i (by omega) (by omega) (by omega) (by omega)), hb.cong (fun i hi => hfr i (by omega) (by omega) (by omega) (by omega)), ⟨⟨by rw [hfr 1 (by decide) (by decide) (by decide) (by decide)]; exact c1.1, by rw [hfr 1 (by decide) (by decide) (by decide) (by decide)]; exact c1.2⟩, ⟨by rw [hfr 13 (by decide) (by decide) (by decide) (by decide)]; exact c2.1, by rw [hfr 14 (by decide) (by decide) (by decide) (by decide), hfr 15 (by decide) (by decide) (by decide) (by decide)]; exact c2.2⟩, ⟨e3, fun i hi => ?_⟩, ⟨by rw [hfr 21 (by decide) (by decide) (by decide) (by decide)]; exact c4.1, by rw [hfr 22 (by decide) (by decide) (by decide) (by decide), hfr 23 (by decide) (by decide) (by decide) (by decide), hfr 24 (by decide) (by decide) (by decide) (by decide)]; exact c4.2⟩⟩, hd.cong (fun i hi => hfr i (by omega) (by omega) (by omega) (by omega))⟩, fun i hi => hfr i (by omega) (by omega) (by omega) (by omega)⟩
  · have hi : i < (rkn r).1 + 1 := hi
    show updN (rkn r).2.1 (rkn r).1 k i < 30 ∧ updN (rkn r).2.2 (rkn r).1 l i < 8
    unfold updN
    by_cases z9 : i = (rkn r).1
    · simp only [if_pos z9]; exact ⟨hk, hl⟩
    · simp only [if_neg z9]; exact o6.2 i (by omega)
  · have hi : i < (rkn r).1 + 1 := hi
    show _ = nI (updN (rkn r).2.1 (rkn r).1 k i) ∧ _ = nI (updN (rkn r).2.2 (rkn r).1 l i)
    rw [e4, e5]
    unfold updN
    by_cases z9 : i = (rkn r).1
    · simp only [if_pos z9]; exact ⟨trivial, trivial⟩
    · simp only [if_neg z9]; exact c3.2 i (by omega)
theorem CA_Listen {r : RS} {μ : gm_M} (hC : CA r μ) {k l : Nat} {zz : Nat} (hk : k < 30) (hl : l < 8) (hz : zz ≤ 8) (hN : (rli r).1 < 8) : CA (wLi r ((rli r).1 + 1, updN (rli r).2.1 (rli r).1 k, updN (rli r).2.2.1 (rli r).1 l, updN (rli r).2.2.2 (rli r).1 zz)) (cap21 μ (nI k) (nI l) (nI zz)) ∧ FrR 0 51 μ (cap21 μ (nI k) (nI l) (nI zz)) := by
  obtain ⟨⟨o1, o2, o3, o4, o5, o6, o7, o8⟩, ha, hb, ⟨c1, c2, c3, c4⟩, hd⟩ := hC
  have hn : μ.1 21 3 = nI (rli r).1 := c4.1
  have hfr : ∀ i, i ≠ 21 → i ≠ 22 → i ≠ 23 → i ≠ 24 → (cap21 μ (nI k) (nI l) (nI zz)).1 i = μ.1 i := by
    intro i h1 h2 h3 h4
    unfold cap21
    rw [gm_In _ _ _ h1, gm_In _ _ _ h4, gm_In _ _ _ h3, gm_In _ _ _ h2]
  have eN : (μ.1 21 3).toNatClampNeg = (rli r).1 := by rw [hn]; exact nI_clamp (by omega)
  have e3 : (cap21 μ (nI k) (nI l) (nI zz)).1 21 3 = nI ((rli r).1 + 1) := by unfold cap21; rw [gm_Is, hn, nI_1]
  have e4 : ∀ i, (cap21 μ (nI k) (nI l) (nI zz)).1 22 i = if i = (rli r).1 then nI k else μ.1 22 i := by
    intro i; unfold cap21; rw [gm_In _ _ _ (by decide), gm_In _ _ _ (by decide), gm_In _ _ _ (by decide), gm_I1, if_pos rfl, eN]
  have e5 : ∀ i, (cap21 μ (nI k) (nI l) (nI zz)).1 23 i = if i = (rli r).1 then nI l else μ.1 23 i := by
    intro i; unfold cap21; rw [gm_In _ _ _ (by decide), gm_In _ _ _ (by decide), gm_I1, if_pos rfl, eN]; rfl
  have e6 : ∀ i, (cap21 μ (nI k) (nI l) (nI zz)).1 24 i = if i = (rli r).1 then (nI zz) else μ.1 24 i := by
    intro i; unfold cap21; rw [gm_In _ _ _ (by decide), gm_I1, if_pos rfl, eN]; rfl
  refine ⟨⟨⟨o1, o2, o3, o4, o5, o6, ⟨by show _ + 1 ≤ 8; omega, fun i hi => ?_⟩, o8⟩, ha.cong (fun i hi => hfr i (by omega) (by omega) (by omega) (by omega)), hb.cong (fun i hi => hfr i (by omega) (by omega) (by omega) (by omega)), ⟨⟨by rw [hfr 1 (by decide) (by decide) (by decide) (by decide)]; exact c1.1, by rw [hfr 1 (by decide) (by decide) (by decide) (by decide)]; exact c1.2⟩, ⟨by rw [hfr 13 (by decide) (by decide) (by decide) (by decide)]; exact c2.1, by rw [hfr 14 (by decide) (by decide) (by decide) (by decide), hfr 15 (by decide) (by decide) (by decide) (by decide)]; exact c2.2⟩, ⟨by rw [hfr 17 (by decide) (by decide) (by decide) (by decide)]; exact c3.1, by rw [hfr 18 (by decide) (by decide) (by decide) (by decide), hfr 19 (by decide) (by decide) (by decide) (by decide)]; exact c3.2⟩, ⟨e3, fun i hi => ?_⟩⟩, hd.cong (fun i hi => hfr i (by omega) (by omega) (by omega) (by omega))⟩, fun i hi => hfr i (by omega) (by omega) (by omega) (by omega)⟩
  · have hi : i < (rli r).1 + 1 := hi
    show updN (rli r).2.1 (rli r).1 k i < 30 ∧ updN (rli r).2.2.1 (rli r).1 l i < 8 ∧ updN (rli r).2.2.2 (rli r).1 zz i ≤ 8
    unfold updN
    by_cases z9 : i = (rli r).1
    · simp only [if_pos z9]; exact ⟨hk, hl, hz⟩
    · simp only [if_neg z9]; exact o7.2 i (by omega)
  · have hi : i < (rli r).1 + 1 := hi
    show _ = nI (updN (rli r).2.1 (rli r).1 k i) ∧ _ = nI (updN (rli r).2.2.1 (rli r).1 l i) ∧ _ = nI (updN (rli r).2.2.2 (rli r).1 zz i)
    rw [e4, e5, e6]
    unfold updN
    by_cases z9 : i = (rli r).1
    · simp only [if_pos z9]; exact ⟨trivial, trivial, trivial⟩
    · simp only [if_neg z9]; exact c4.2 i (by omega)
set_option maxRecDepth 100000 in
set_option maxHeartbeats 400000 in
theorem p_turning {r : RS} {μ : gm_M} (hC : CA r μ) (x y : Int32) : Sat yX11_turning cX11_turning 3 (some .int) 2 [(.ref 0), (.int x), (.int y)] μ (fun r' μ' => r' = some (.int (sMark13 (rtu r).1 x y)) ∧ CA (nTurn r x y) μ' ∧ FrR 0 51 μ μ') := by
  refine Sat.of (L := [some (.ref 0), some (.int x), some (.int y)]) (by decide) (fun _ => rfl) (fun _ => rfl) ?_
  refine go_al0 dX11_turning_0 (go_getR (j := 1) fX11_12 rfl rfl dX11_turning_1 (go_getR (j := 13) fX11_123 rfl rfl dX11_turning_4 (go_il1 dX11_turning_7 (go_il2 dX11_turning_8 (go_bipush (v := 8) dX11_turning_9 (by decide) (go_S4r mcX11_addMark mvX11_addMark kX11_127 dX11_turning_11 rfl rfl (aX11_addMark_13 hC.2.2.2.1.2.1.1 hC.1.2.2.2.2.1.1 _ _ _) ?_))))))
  refine go_iret dX11_turning_14 ?_
  refine ⟨rfl, ?_⟩
  unfold nTurn
  by_cases hb : bMark13 (rtu r).1 x y = true
  · rw [if_pos hb, if_pos hb]
    have h := hb
    unfold bMark13 at h
    simp only [Bool.and_eq_true, decide_eq_true_eq] at h
    obtain ⟨k, hk, rfl⟩ := gnight_of h.1
    obtain ⟨l, hl, rfl⟩ := y8_of h.2.1 h.2.2.1
    rw [wN_nI (by omega), wN_nI (by omega)]
    exact CA_Turn hC hk hl h.2.2.2
  · rw [if_neg hb, if_neg hb]
    exact ⟨hC, FrR.rf μ⟩

set_option maxRecDepth 100000 in
set_option maxHeartbeats 400000 in
theorem p_knock {r : RS} {μ : gm_M} (hC : CA r μ) (x y : Int32) : Sat yX11_knock cX11_knock 3 (some .int) 2 [(.ref 0), (.int x), (.int y)] μ (fun r' μ' => r' = some (.int (sMark17 (rkn r).1 x y)) ∧ CA (nKnock r x y) μ' ∧ FrR 0 51 μ μ') := by
  refine Sat.of (L := [some (.ref 0), some (.int x), some (.int y)]) (by decide) (fun _ => rfl) (fun _ => rfl) ?_
  refine go_al0 dX11_knock_0 (go_getR (j := 1) fX11_12 rfl rfl dX11_knock_1 (go_getR (j := 17) fX11_131 rfl rfl dX11_knock_4 (go_il1 dX11_knock_7 (go_il2 dX11_knock_8 (go_bipush (v := 8) dX11_knock_9 (by decide) (go_S4r mcX11_addMark mvX11_addMark kX11_127 dX11_knock_11 rfl rfl (aX11_addMark_17 hC.2.2.2.1.2.2.1.1 hC.1.2.2.2.2.2.1.1 _ _ _) ?_))))))
  refine go_iret dX11_knock_14 ?_
  refine ⟨rfl, ?_⟩
  unfold nKnock
  by_cases hb : bMark17 (rkn r).1 x y = true
  · rw [if_pos hb, if_pos hb]
    have h := hb
    unfold bMark17 at h
    simp only [Bool.and_eq_true, decide_eq_true_eq] at h
    obtain ⟨k, hk, rfl⟩ := gnight_of h.1
    obtain ⟨l, hl, rfl⟩ := y8_of h.2.1 h.2.2.1
    rw [wN_nI (by omega), wN_nI (by omega)]
    exact CA_Knock hC hk hl h.2.2.2
  · rw [if_neg hb, if_neg hb]
    exact ⟨hC, FrR.rf μ⟩

set_option maxRecDepth 100000 in
set_option maxHeartbeats 400000 in
theorem p_listen {r : RS} {μ : gm_M} (hC : CA r μ) (x y z : Int32) : Sat yX11_listen cX11_listen 4 (some .int) 2 [(.ref 0), (.int x), (.int y), (.int z)] μ (fun r' μ' => r' = some (.int (sListen r x y z)) ∧ CA (nListen r x y z) μ' ∧ FrR 0 51 μ μ') := by
  refine Sat.of (L := [some (.ref 0), some (.int x), some (.int y), some (.int z)]) (by decide) (fun _ => rfl) (fun _ => rfl) ?_
  refine go_il3 dX11_listen_0 ?_
  refine go_iflt 10 dX11_listen_1 (by decide) (fun h1 => ?_) (fun h1 => ?_)
  · refine go_bipush (v := -2) dX11_listen_10 (by decide) ?_
    refine go_iret dX11_listen_12 ?_
    simp only [sListen, nListen, if_pos h1]
    exact ⟨trivial, hC, FrR.rf μ⟩
  · refine go_il3 dX11_listen_4 (go_bipush (v := 8) dX11_listen_5 (by decide) ?_)
    refine go_cle 13 dX11_listen_7 (by decide) (fun h7 => ?_) (fun h7 => ?_)
    · refine go_al0 dX11_listen_13 (go_getR (j := 1) fX11_12 rfl rfl dX11_listen_14 (go_getR (j := 21) fX11_235 rfl rfl dX11_listen_17 (go_il1 dX11_listen_20 (go_il2 dX11_listen_21 (go_il3 dX11_listen_22 (go_S4r mcX11_addMark mvX11_addMark kX11_127 dX11_listen_23 rfl rfl (aX11_addMark_21 hC.2.2.2.1.2.2.2.1 hC.1.2.2.2.2.2.2.1.1 _ _ _) ?_))))))
      refine go_iret dX11_listen_26 ?_
      simp only [sListen, nListen, if_neg h1, if_pos h7]
      refine ⟨trivial, ?_⟩
      by_cases hb : bMark21 (rli r).1 x y = true
      · rw [if_pos hb, if_pos hb]
        have h := hb
        unfold bMark21 at h
        simp only [Bool.and_eq_true, decide_eq_true_eq] at h
        obtain ⟨k, hk, rfl⟩ := gnight_of h.1
        obtain ⟨l, hl, rfl⟩ := y8_of h.2.1 h.2.2.1
        obtain ⟨zz, hz, rfl⟩ := int_of (B := 8) (N := 8) (by decide) (by decide) h1 h7
        rw [wN_nI (by omega), wN_nI (by omega), wN_nI (by omega)]
        exact CA_Listen hC hk hl hz h.2.2.2
      · rw [if_neg hb, if_neg hb]
        exact ⟨hC, FrR.rf μ⟩
    · refine go_bipush (v := -2) dX11_listen_10 (by decide) ?_
      refine go_iret dX11_listen_12 ?_
      simp only [sListen, nListen, if_neg h1, if_neg h7]
      exact ⟨trivial, hC, FrR.rf μ⟩

theorem CA_num {r : RS} {μ : gm_M} (hC : CA r μ) {v : Nat} : (v ≤ (rtu r).1 → CA (wTu r (v, (rtu r).2)) (gm_I μ 13 3 (nI v))) ∧ (v ≤ (rkn r).1 → CA (wKn r (v, (rkn r).2)) (gm_I μ 17 3 (nI v))) ∧ (v ≤ (rli r).1 → CA (wLi r (v, (rli r).2)) (gm_I μ 21 3 (nI v))) := by
  obtain ⟨⟨o1, o2, o3, o4, o5, o6, o7, o8⟩, ha, hb, ⟨c1, c2, c3, c4⟩, hd⟩ := hC
  refine ⟨fun hv => ?_, fun hv => ?_, fun hv => ?_⟩
  · exact ⟨⟨o1, o2, o3, o4, ⟨Nat.le_trans hv o5.1, fun i hi => o5.2 i (Nat.lt_of_lt_of_le hi hv)⟩, o6, o7, o8⟩, ha.cong (fun i hi => gm_In _ _ _ (by omega)), hb.cong (fun i hi => gm_In _ _ _ (by omega)), ⟨c1, ⟨by rw [gm_Is]; rfl, fun i hi => c2.2 i (Nat.lt_of_lt_of_le hi hv)⟩, c3, c4⟩, hd.cong (fun i hi => gm_In _ _ _ (by omega))⟩
  · exact ⟨⟨o1, o2, o3, o4, o5, ⟨Nat.le_trans hv o6.1, fun i hi => o6.2 i (Nat.lt_of_lt_of_le hi hv)⟩, o7, o8⟩, ha.cong (fun i hi => gm_In _ _ _ (by omega)), hb.cong (fun i hi => gm_In _ _ _ (by omega)), ⟨c1, c2, ⟨by rw [gm_Is]; rfl, fun i hi => c3.2 i (Nat.lt_of_lt_of_le hi hv)⟩, c4⟩, hd.cong (fun i hi => gm_In _ _ _ (by omega))⟩
  · exact ⟨⟨o1, o2, o3, o4, o5, o6, ⟨Nat.le_trans hv o7.1, fun i hi => o7.2 i (Nat.lt_of_lt_of_le hi hv)⟩, o8⟩, ha.cong (fun i hi => gm_In _ _ _ (by omega)), hb.cong (fun i hi => gm_In _ _ _ (by omega)), ⟨c1, c2, c3, ⟨by rw [gm_Is]; rfl, fun i hi => c4.2 i (Nat.lt_of_lt_of_le hi hv)⟩⟩, hd.cong (fun i hi => gm_In _ _ _ (by omega))⟩
def sBack (r : RS) (x : Int32) : Int32 := if x < 0 then -2 else if x ≤ 1 then (if x = 0 then (if (rtu r).1 = 0 then -3 else nI ((rtu r).1 - 1)) else (if (rkn r).1 = 0 then -3 else nI ((rkn r).1 - 1))) else -2
def nBack (r : RS) (x : Int32) : RS := if x < 0 then r else if x ≤ 1 then (if x = 0 then wTu r ((rtu r).1 - 1, (rtu r).2) else wKn r ((rkn r).1 - 1, (rkn r).2)) else r
set_option maxRecDepth 100000 in
set_option maxHeartbeats 400000 in
theorem p_back {r : RS} {μ : gm_M} (hC : CA r μ) (x : Int32) : Sat yX11_back cX11_back 3 (some .int) 0 [(.ref 0), (.int x)] μ (fun r' μ' => r' = some (.int (sBack r x)) ∧ CA (nBack r x) μ' ∧ FrR 0 51 μ μ') := by
  refine Sat.of (L := [some (.ref 0), some (.int x), none]) (by decide) (fun _ => rfl) (fun _ => rfl) ?_
  refine go_il1 dX11_back_0 ?_
  refine go_iflt 9 dX11_back_1 (by decide) (fun h1 => ?_) (fun h1 => ?_)
  · refine go_bipush (v := -2) dX11_back_9 (by decide) ?_
    refine go_iret dX11_back_11 ?_
    simp only [sBack, nBack, if_pos h1]
    exact ⟨trivial, hC, FrR.rf μ⟩
  · refine go_il1 dX11_back_4 (go_ic1 dX11_back_5 ?_)
    refine go_cle 12 dX11_back_6 (by decide) (fun h6 => ?_) (fun h6 => ?_)
    · refine go_il1 dX11_back_12 ?_
      refine go_ifne 26 dX11_back_13 (by decide) (fun h13 => ?_) (fun h13 => ?_)
      · refine go_al0 dX11_back_26 (go_getR (j := 1) fX11_12 rfl rfl dX11_back_27 (go_getR (j := 17) fX11_131 rfl rfl dX11_back_30 (go_as2 dX11_back_33 rfl rfl (go_al2 dX11_back_34 (go_getI fX11_134 rfl rfl dX11_back_35 ?_)))))
        refine go_ifgt 44 dX11_back_38 (by decide) (fun h38 => ?_) (fun h38 => ?_)
        · refine go_al2 dX11_back_44 (go_dup dX11_back_45 rfl (go_getI fX11_134 rfl rfl dX11_back_46 (go_ic1 dX11_back_49 (go_isub dX11_back_50 (go_putI fX11_134 rfl rfl dX11_back_51 (go_al2 dX11_back_54 (go_getI fX11_134 rfl rfl dX11_back_55 ?_)))))))
          refine go_iret dX11_back_58 ?_
          have hb8 := hC.1.2.2.2.2.2.1.1
          have hn : μ.1 17 3 = nI (rkn r).1 := hC.2.2.2.1.2.2.1.1
          simp only [sBack, nBack, if_neg h1, if_pos h6, if_neg h13]
          have hz : ¬ (rkn r).1 = 0 := by
            intro z
            have h9 : (0 : Int32) < μ.1 17 3 := h38
            rw [hn, z] at h9
            exact absurd h9 (by decide)
          have e1 : μ.1 17 3 - 1 = nI ((rkn r).1 - 1) := by rw [hn, nI_lit1, pk_sub (by omega)]
          rw [if_neg hz, e1]
          refine ⟨by rw [gm_Is], (CA_num hC).2.1 (by omega), (FrR.rf μ).I _ _ (by decide) (by decide)⟩
        · refine go_bipush (v := -3) dX11_back_41 (by decide) ?_
          refine go_iret dX11_back_43 ?_
          have hb8 := hC.1.2.2.2.2.2.1.1
          have hn : μ.1 17 3 = nI (rkn r).1 := hC.2.2.2.1.2.2.1.1
          simp only [sBack, nBack, if_neg h1, if_pos h6, if_neg h13]
          have hz : (rkn r).1 = 0 := by
            rcases Nat.eq_zero_or_pos (rkn r).1 with z | z
            · exact z
            · exact absurd (show (0 : Int32) < μ.1 17 3 from by rw [hn, ← nI_0]; exact nI_lt z (by omega)) h38
          rw [if_pos hz]
          refine ⟨rfl, ?_, FrR.rf μ⟩
          rw [show (rkn r).1 - 1 = (rkn r).1 by omega]
          exact hC
      · refine go_al0 dX11_back_16 (go_getR (j := 1) fX11_12 rfl rfl dX11_back_17 (go_getR (j := 13) fX11_123 rfl rfl dX11_back_20 (go_goto 33 dX11_back_23 (by decide) (go_as2 dX11_back_33 rfl rfl (go_al2 dX11_back_34 (go_getI fX11_134 rfl rfl dX11_back_35 ?_))))))
        refine go_ifgt 44 dX11_back_38 (by decide) (fun h38 => ?_) (fun h38 => ?_)
        · refine go_al2 dX11_back_44 (go_dup dX11_back_45 rfl (go_getI fX11_134 rfl rfl dX11_back_46 (go_ic1 dX11_back_49 (go_isub dX11_back_50 (go_putI fX11_134 rfl rfl dX11_back_51 (go_al2 dX11_back_54 (go_getI fX11_134 rfl rfl dX11_back_55 ?_)))))))
          refine go_iret dX11_back_58 ?_
          have hb8 := hC.1.2.2.2.2.1.1
          have hn : μ.1 13 3 = nI (rtu r).1 := hC.2.2.2.1.2.1.1
          simp only [sBack, nBack, if_neg h1, if_pos h6, if_pos h13]
          have hz : ¬ (rtu r).1 = 0 := by
            intro z
            have h9 : (0 : Int32) < μ.1 13 3 := h38
            rw [hn, z] at h9
            exact absurd h9 (by decide)
          have e1 : μ.1 13 3 - 1 = nI ((rtu r).1 - 1) := by rw [hn, nI_lit1, pk_sub (by omega)]
          rw [if_neg hz, e1]
          refine ⟨by rw [gm_Is], (CA_num hC).1 (by omega), (FrR.rf μ).I _ _ (by decide) (by decide)⟩
        · refine go_bipush (v := -3) dX11_back_41 (by decide) ?_
          refine go_iret dX11_back_43 ?_
          have hb8 := hC.1.2.2.2.2.1.1
          have hn : μ.1 13 3 = nI (rtu r).1 := hC.2.2.2.1.2.1.1
          simp only [sBack, nBack, if_neg h1, if_pos h6, if_pos h13]
          have hz : (rtu r).1 = 0 := by
            rcases Nat.eq_zero_or_pos (rtu r).1 with z | z
            · exact z
            · exact absurd (show (0 : Int32) < μ.1 13 3 from by rw [hn, ← nI_0]; exact nI_lt z (by omega)) h38
          rw [if_pos hz]
          refine ⟨rfl, ?_, FrR.rf μ⟩
          rw [show (rtu r).1 - 1 = (rtu r).1 by omega]
          exact hC
    · refine go_bipush (v := -2) dX11_back_9 (by decide) ?_
      refine go_iret dX11_back_11 ?_
      simp only [sBack, nBack, if_neg h1, if_neg h6]
      exact ⟨trivial, hC, FrR.rf μ⟩

set_option maxRecDepth 100000 in
set_option maxHeartbeats 400000 in
theorem p_forget {r : RS} {μ : gm_M} (hC : CA r μ) : Sat yX11_forget cX11_forget 2 (some .int) 0 [(.ref 0)] μ (fun r' μ' => r' = some (.int (nI (rli r).1)) ∧ CA (wLi r (0, (rli r).2)) μ' ∧ FrR 0 51 μ μ') := by
  refine Sat.of (L := [some (.ref 0), none]) (by decide) (fun _ => rfl) (fun _ => rfl) ?_
  refine go_al0 dX11_forget_0 (go_getR (j := 1) fX11_12 rfl rfl dX11_forget_1 (go_getR (j := 21) fX11_235 rfl rfl dX11_forget_4 (go_getI fX11_134 rfl rfl dX11_forget_7 (go_is1 dX11_forget_10 rfl rfl (go_al0 dX11_forget_11 (go_getR (j := 1) fX11_12 rfl rfl dX11_forget_12 (go_getR (j := 21) fX11_235 rfl rfl dX11_forget_15 (go_ic0 dX11_forget_18 (go_putI fX11_134 rfl rfl dX11_forget_19 (go_il1 dX11_forget_22 ?_))))))))))
  refine go_iret dX11_forget_23 ?_
  refine ⟨?_, (CA_num hC (v := 0)).2.2 (Nat.zero_le _), (FrR.rf μ).I _ _ (by decide) (by decide)⟩
  rw [hC.2.2.2.1.2.2.2.1]

