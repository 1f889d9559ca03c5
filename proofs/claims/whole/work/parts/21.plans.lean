/-! PLANS (34): which night had better be colder, on which it had better have come, what to turn -/
def trw (t : TR) (n v : Nat) : TR := (tso t, tfr t, tsz t, tti t, tsh t, tsn t, ttu t, tkn t, fun j => if j = n then v else twa t j)
def trf (t : TR) (f : Nat) : TR := (tso t, f, tsz t, tti t, tsh t, tsn t, ttu t, tkn t, twa t)
def trs (t : TR) (s : Nat) : TR := (s, tfr t, tsz t, tti t, tsh t, tsn t, ttu t, tkn t, twa t)
def trt (t : TR) (g : Nat → Bool) : TR := (tso t, tfr t, tsz t, tti t, tsh t, tsn t, g, tkn t, twa t)
theorem TI.warm {t : TR} {μ : gm_M} (h : TI t μ) {n v : Nat} (hv : v ≤ 9) : TI (trw t n v) (gm_I μ 27 n (nI v)) := by
  obtain ⟨⟨k1, k2, k3, k4, k5, k6, k7, k8, k9⟩, h6, h7, h8, h11, h9, h10, h12, h26, h27⟩ := h
  refine ⟨⟨k1, k2, k3, k4, k5, k6, k7, k8, fun j hj => ?_⟩, h6, h7, h8, h11, h9, h10, h12, h26, fun j hj => ?_⟩
  · show (if j = n then v else twa t j) ≤ 9
    split
    · exact hv
    · exact k9 j hj
  · rw [gm_I1, if_pos rfl]
    show _ = nI (if j = n then v else twa t j)
    by_cases c : j = n
    · rw [if_pos c, if_pos c]
    · rw [if_neg c, if_neg c]; exact h27 j hj
theorem TI.from {t : TR} {μ : gm_M} (h : TI t μ) {f : Nat} (hf : f ≤ 19) : TI (trf t f) (gm_I μ 25 7 (nI f)) := by
  obtain ⟨⟨k1, k2, k3, k4, k5, k6, k7, k8, k9⟩, h6, h7, h8, h11, h9, h10, h12, h26, h27⟩ := h
  exact ⟨⟨k1, hf, k3, k4, k5, k6, k7, k8, k9⟩, h6, rfl, h8, h11, h9, h10, h12, h26, h27⟩
theorem TI.sort {t : TR} {μ : gm_M} (h : TI t μ) {s : Nat} (hs : s ≤ 2) : TI (trs t s) (gm_I μ 25 6 (nI s)) := by
  obtain ⟨⟨k1, k2, k3, k4, k5, k6, k7, k8, k9⟩, h6, h7, h8, h11, h9, h10, h12, h26, h27⟩ := h
  exact ⟨⟨hs, k2, k3, k4, k5, k6, k7, k8, k9⟩, rfl, h7, h8, h11, h9, h10, h12, h26, h27⟩
theorem TI.turn {t : TR} {μ : gm_M} (h : TI t μ) {b : Int32} {g : Nat → Bool} (hg : ∀ n, n < 30 → bt b n = g n) : TI (trt t g) (gm_I μ 25 9 b) := by
  obtain ⟨⟨k1, k2, k3, k4, k5, k6, k7, k8, k9⟩, h6, h7, h8, h11, h9, h10, h12, h26, h27⟩ := h
  exact ⟨⟨k1, k2, k3, k4, k5, k6, k7, k8, k9⟩, h6, h7, h8, h11, hg, h10, h12, h26, h27⟩
theorem Fr25.I {μ μ' : gm_M} (h : Fr25 μ μ') {c : Nat} (k : Nat) (v : Int32) (h1 : 25 ≤ c) (h2 : c ≤ 31) : Fr25 μ (gm_I μ' c k v) := ⟨fun a ha => by rw [gm_In μ' k v (fun e => ha (by omega))]; exact h.1 a ha, h.2⟩
theorem aWarm {t : TR} {μ : gm_M} (h : TI t μ) {n : Nat} (hn : n < 30) : Ret yX9_warmthOn cX9_warmthOn 2 (some .int) 1 [.ref 25, .int (nI n)] μ (some (.int (nI (twa t n)))) μ := by
  rw [← h.2.2.2.2.2.2.2.2.2 n hn, ← gi_nI (f := μ.1 27) hn (by decide) 5]
  exact sX9_warmthOn (nI n) μ
/-- the best of the first n by f, from -1 on -/
def bestI (f : Nat → Int32) : Nat → Int32 × Int32
  | 0 => (-1, -1)
  | n + 1 => if f n ≤ (bestI f n).2 then bestI f n else (nI n, f n)
def tcold (t : TR) (n : Nat) : Int32 := nI (tct (trw t n 0) 30)
def tcome (t : TR) (n : Nat) : Int32 := oI (tm (trf t n) 29)
set_option maxRecDepth 100000 in
set_option maxHeartbeats 400000 in
theorem aX5_cold_loop {t : TR} {μ : gm_M} {d1 : Option Value} : ∀ (k n : Nat) (d4 d5 : Option Value) (m : gm_M), 30 - n = k → n ≤ 30 → FrR 25 34 μ m → TI t m → m.1 34 7 = (bestI (tcold t) n).1 → m.1 34 8 = (bestI (tcold t) n).2 → Go yX5_findCold cX5_findCold 6 none 3 21 [some (.ref 34), d1, some (.ref 25), some (.int (nI n)), d4, d5] [] m (fun r μ' => r = none ∧ FrR 25 34 μ μ' ∧ μ'.1 34 7 = (bestI (tcold (t)) 30).1 ∧ μ'.1 34 8 = (bestI (tcold (t)) 30).2) := by
  intro k
  induction k using Nat.strongRecOn with
  | ind k ih =>
    intro n d4 d5 m hk hj hF hT h7 h8
    refine go_il3 dX5_findCold_21 (go_bipush (v := 30) dX5_findCold_22 (by decide) ?_)
    refine go_cge 79 dX5_findCold_24 (by decide) (fun h24 => ?_) (fun h24 => ?_)
    · refine go_vret dX5_findCold_79 ?_
      have he : n = 30 := Nat.le_antisymm hj ((gm_bdN (by decide) (by decide) (by omega)).mp h24)
      subst he
      exact ⟨rfl, hF, h7, h8⟩
    · have hlt : n < 30 := Nat.not_le.mp (fun z => h24 ((gm_bdN (by decide) (by decide) (by omega)).mpr z))
      refine go_al2 dX5_findCold_27 (go_il3 dX5_findCold_28 (go_V1r mcX9_warmthOn mvX9_warmthOn kX5_83 rfl dX5_findCold_29 rfl rfl (aWarm hT hlt) (go_is4 dX5_findCold_32 rfl rfl (go_al2 dX5_findCold_34 (go_il3 dX5_findCold_35 (go_ic0 dX5_findCold_36 (go_V2v mcX9_warmTo mvX9_warmTo kX5_86 rfl dX5_findCold_37 rfl rfl (sX9_warmTo hlt _ _) (go_al2 dX5_findCold_40 (go_V0r mcX9_heardLong mvX9_heardLong kX5_90 rfl dX5_findCold_41 rfl rfl (aLong (hT.warm (n := n) (v := 0) (by omega))) (go_is5 dX5_findCold_44 rfl rfl (go_al2 dX5_findCold_46 (go_il3 dX5_findCold_47 (go_il4 dX5_findCold_48 ?_)))))))))))))
      refine go_V2v mcX9_warmTo mvX9_warmTo kX5_86 rfl dX5_findCold_50 rfl rfl (sX9_warmTo hlt _ _) (go_il5 dX5_findCold_53 (go_al0 dX5_findCold_55 (go_getI fX5_80 rfl rfl dX5_findCold_56 ?_)))
      refine go_cle 73 dX5_findCold_59 (by decide) (fun h59 => ?_) (fun h59 => ?_)
      · refine go_inc3 (k := 1) dX5_findCold_73 (by decide) rfl rfl (go_goto 21 dX5_findCold_76 (by decide) ?_)
        have hT2 : TI t (gm_I (gm_I m 27 n 0) 27 n (nI (twa t n))) := by
          refine hT.cong (fun k _ _ => rfl) rfl ?_
          funext j
          rw [gm_I1, if_pos rfl]
          by_cases c : j = n
          · rw [if_pos c, c, hT.2.2.2.2.2.2.2.2.2 n hlt]
          · rw [if_neg c, gm_I1, if_pos rfl, if_neg c]
        have hS : FrR 25 34 μ (gm_I (gm_I m 27 n 0) 27 n (nI (twa t n))) := (hF.I _ _ (by decide) (by decide)).I _ _ (by decide) (by decide)
        have e8 : (gm_I (gm_I m 27 n 0) 27 n (nI (twa t n))).1 34 8 = (bestI (tcold t) n).2 := h8
        rw [e8] at h59
        rw [nI_1]
        refine ih (30 - (n + 1)) (by omega) (n + 1) _ _ _ rfl (by omega) hS hT2 ?_ ?_
        · rw [bestI, if_pos (show tcold t n ≤ _ from h59)]; exact h7
        · rw [bestI, if_pos (show tcold t n ≤ _ from h59)]; exact h8
      · refine go_al0 dX5_findCold_62 (go_il3 dX5_findCold_63 (go_putI fX5_77 rfl rfl dX5_findCold_64 (go_al0 dX5_findCold_67 (go_il5 dX5_findCold_68 (go_putI fX5_80 rfl rfl dX5_findCold_70 (go_inc3 (k := 1) dX5_findCold_73 (by decide) rfl rfl (go_goto 21 dX5_findCold_76 (by decide) ?_)))))))
        have hT2 : TI t (gm_I (gm_I m 27 n 0) 27 n (nI (twa t n))) := by
          refine hT.cong (fun k _ _ => rfl) rfl ?_
          funext j
          rw [gm_I1, if_pos rfl]
          by_cases c : j = n
          · rw [if_pos c, c, hT.2.2.2.2.2.2.2.2.2 n hlt]
          · rw [if_neg c, gm_I1, if_pos rfl, if_neg c]
        have hS : FrR 25 34 μ (gm_I (gm_I m 27 n 0) 27 n (nI (twa t n))) := (hF.I _ _ (by decide) (by decide)).I _ _ (by decide) (by decide)
        have e8 : (gm_I (gm_I m 27 n 0) 27 n (nI (twa t n))).1 34 8 = (bestI (tcold t) n).2 := h8
        rw [e8] at h59
        rw [nI_1]
        refine ih (30 - (n + 1)) (by omega) (n + 1) _ _ _ rfl (by omega) ((hS.I 7 _ (by decide) (by decide)).I 8 _ (by decide) (by decide)) (hT2.cong (fun k _ _ => rfl) rfl rfl) ?_ ?_
        · rw [gm_Io _ _ _ (by decide), gm_Is, bestI, if_neg (show ¬ tcold t n ≤ _ from h59)]
        · rw [gm_Is, bestI, if_neg (show ¬ tcold t n ≤ _ from h59)]; rfl
set_option maxRecDepth 100000 in
set_option maxHeartbeats 400000 in
theorem aX5_findCold {q : QS} {μ : gm_M} {w : Nat} (hQ : CQ q μ) (hw : w < qnum q) : Sat yX5_findCold cX5_findCold 6 none 3 [(.ref 34), (.int (nI w))] μ (fun r μ' => r = none ∧ FrR 25 34 μ μ' ∧ μ'.1 34 7 = (bestI (tcold (trof q 9 w)) 30).1 ∧ μ'.1 34 8 = (bestI (tcold (trof q 9 w)) 30).2) := by
  refine Sat.of (L := [some (.ref 34), some (.int (nI w)), none, none, none, none]) (by decide) (fun _ => rfl) (fun _ => rfl) ?_
  refine go_al0 dX5_findCold_0 (go_getR (j := 1) fX5_21 rfl rfl dX5_findCold_1 (go_il1 dX5_findCold_4 ?_))
  refine go_V1 mcX1_begin mvX1_begin kX5_25 rfl dX5_findCold_5 rfl rfl (aBegin hQ hw) ?_
  rintro _ m5 ⟨rfl, hT5, hF5⟩
  refine go_as2 dX5_findCold_8 rfl rfl (go_al0 dX5_findCold_9 (go_icm1 dX5_findCold_10 (go_putI fX5_77 rfl rfl dX5_findCold_11 (go_al0 dX5_findCold_14 (go_icm1 dX5_findCold_15 (go_putI fX5_80 rfl rfl dX5_findCold_16 (go_ic0 dX5_findCold_19 (go_is3 dX5_findCold_20 rfl rfl ?_))))))))
  exact aX5_cold_loop _ 0 _ _ _ rfl (Nat.zero_le _) ((((FrR.rf μ).f25 hF5 (by decide) (by decide)).I 7 _ (by decide) (by decide)).I 8 _ (by decide) (by decide)) (hT5.cong (fun k _ _ => rfl) rfl rfl) (by rw [gm_Io _ _ _ (by decide), gm_Is]; rfl) (by rw [gm_Is]; rfl)

theorem trf_trf (t : TR) (a b : Nat) : trf (trf t a) b = trf t b := rfl
theorem trf_self (t : TR) : trf t (tfr t) = t := rfl
theorem aSole29 {t : TR} {μ : gm_M} (h : TI t μ) : Ret yX9_soleMoment cX9_soleMoment 5 (some .int) 2 [.ref 25, .int 29] μ (some (.int (oI (tm t 29)))) μ := aSole h (x := 29) (by decide)
set_option maxRecDepth 100000 in
set_option maxHeartbeats 400000 in
theorem aX5_come_loop {t : TR} {μ : gm_M} {d1 : Option Value} : ∀ (k n f0 : Nat) (d4 : Option Value) (m : gm_M), 20 - n = k → n ≤ 20 → FrR 25 34 μ m → TI (trf t f0) m → m.1 34 9 = (bestI (tcome t) n).1 → m.1 34 10 = (bestI (tcome t) n).2 → Go yX5_findCome cX5_findCome 5 none 3 21 [some (.ref 34), d1, some (.ref 25), some (.int (nI n)), d4] [] m (fun r μ' => r = none ∧ FrR 25 34 μ μ' ∧ μ'.1 34 9 = (bestI (tcome (t)) 20).1 ∧ μ'.1 34 10 = (bestI (tcome (t)) 20).2) := by
  intro k
  induction k using Nat.strongRecOn with
  | ind k ih =>
    intro n f0 d4 m hk hj hF hT h7 h8
    refine go_il3 dX5_findCome_21 (go_bipush (v := 20) dX5_findCome_22 (by decide) ?_)
    refine go_cge 66 dX5_findCome_24 (by decide) (fun h24 => ?_) (fun h24 => ?_)
    · refine go_vret dX5_findCome_66 ?_
      have he : n = 20 := Nat.le_antisymm hj ((gm_bdN (by decide) (by decide) (by omega)).mp h24)
      subst he
      exact ⟨rfl, hF, h7, h8⟩
    · have hlt : n < 20 := Nat.not_le.mp (fun z => h24 ((gm_bdN (by decide) (by decide) (by omega)).mpr z))
      have hT2 : TI (trf t n) (gm_I m 25 7 (nI n)) := trf_trf t f0 n ▸ hT.from (f := n) (by omega)
      refine go_al2 dX5_findCome_27 (go_il3 dX5_findCome_28 (go_putI fX5_61 rfl rfl dX5_findCome_29 (go_al2 dX5_findCome_32 (go_bipush (v := 29) dX5_findCome_33 (by decide) (go_V1r mcX9_soleMoment mvX9_soleMoment kX5_41 rfl dX5_findCome_35 rfl rfl (aSole29 hT2) (go_is4 dX5_findCome_38 rfl rfl (go_il4 dX5_findCome_40 (go_al0 dX5_findCome_42 (go_getI fX5_97 rfl rfl dX5_findCome_43 ?_)))))))))
      refine go_cle 60 dX5_findCome_46 (by decide) (fun h46 => ?_) (fun h46 => ?_)
      · refine go_inc3 (k := 1) dX5_findCome_60 (by decide) rfl rfl (go_goto 21 dX5_findCome_63 (by decide) ?_)
        have hS : FrR 25 34 μ (gm_I m 25 7 (nI n)) := hF.I _ _ (by decide) (by decide)
        have e8 : (gm_I m 25 7 (nI n)).1 34 10 = (bestI (tcome t) n).2 := h8
        rw [e8] at h46
        rw [nI_1]
        refine ih (20 - (n + 1)) (by omega) (n + 1) n _ _ rfl (by omega) hS hT2 ?_ ?_
        · rw [bestI, if_pos (show tcome t n ≤ _ from h46)]; exact h7
        · rw [bestI, if_pos (show tcome t n ≤ _ from h46)]; exact h8
      · refine go_al0 dX5_findCome_49 (go_il3 dX5_findCome_50 (go_putI fX5_94 rfl rfl dX5_findCome_51 (go_al0 dX5_findCome_54 (go_il4 dX5_findCome_55 (go_putI fX5_97 rfl rfl dX5_findCome_57 (go_inc3 (k := 1) dX5_findCome_60 (by decide) rfl rfl (go_goto 21 dX5_findCome_63 (by decide) ?_)))))))
        have hS : FrR 25 34 μ (gm_I m 25 7 (nI n)) := hF.I _ _ (by decide) (by decide)
        have e8 : (gm_I m 25 7 (nI n)).1 34 10 = (bestI (tcome t) n).2 := h8
        rw [e8] at h46
        rw [nI_1]
        refine ih (20 - (n + 1)) (by omega) (n + 1) n _ _ rfl (by omega) ((hS.I 9 _ (by decide) (by decide)).I 10 _ (by decide) (by decide)) (hT2.cong (fun k _ _ => rfl) rfl rfl) ?_ ?_
        · rw [gm_Io _ _ _ (by decide), gm_Is, bestI, if_neg (show ¬ tcome t n ≤ _ from h46)]
        · rw [gm_Is, bestI, if_neg (show ¬ tcome t n ≤ _ from h46)]; rfl
set_option maxRecDepth 100000 in
set_option maxHeartbeats 400000 in
theorem aX5_findCome {q : QS} {μ : gm_M} {w : Nat} (hQ : CQ q μ) (hw : w < qnum q) : Sat yX5_findCome cX5_findCome 5 none 3 [(.ref 34), (.int (nI w))] μ (fun r μ' => r = none ∧ FrR 25 34 μ μ' ∧ μ'.1 34 9 = (bestI (tcome (trof q 9 w)) 20).1 ∧ μ'.1 34 10 = (bestI (tcome (trof q 9 w)) 20).2) := by
  refine Sat.of (L := [some (.ref 34), some (.int (nI w)), none, none, none]) (by decide) (fun _ => rfl) (fun _ => rfl) ?_
  refine go_al0 dX5_findCome_0 (go_getR (j := 1) fX5_21 rfl rfl dX5_findCome_1 (go_il1 dX5_findCome_4 ?_))
  refine go_V1 mcX1_begin mvX1_begin kX5_25 rfl dX5_findCome_5 rfl rfl (aBegin hQ hw) ?_
  rintro _ m5 ⟨rfl, hT5, hF5⟩
  refine go_as2 dX5_findCome_8 rfl rfl (go_al0 dX5_findCome_9 (go_icm1 dX5_findCome_10 (go_putI fX5_94 rfl rfl dX5_findCome_11 (go_al0 dX5_findCome_14 (go_icm1 dX5_findCome_15 (go_putI fX5_97 rfl rfl dX5_findCome_16 (go_ic0 dX5_findCome_19 (go_is3 dX5_findCome_20 rfl rfl ?_))))))))
  exact aX5_come_loop _ 0 (tfr (trof q 9 w)) _ _ rfl (Nat.zero_le _) ((((FrR.rf μ).f25 hF5 (by decide) (by decide)).I 9 _ (by decide) (by decide)).I 10 _ (by decide) (by decide)) (hT5.cong (fun k _ _ => rfl) rfl rfl) (by rw [gm_Io _ _ _ (by decide), gm_Is]; rfl) (by rw [gm_Is]; rfl)

