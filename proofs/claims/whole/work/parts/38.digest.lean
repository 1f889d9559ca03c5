set_option maxRecDepth 100000 in
set_option maxHeartbeats 400000 in
theorem aX5_cold_loop2 {t : TR} {μ : gm_M} {d1 : Option Value} : ∀ (k n : Nat) (d4 d5 : Option Value) (m : gm_M), 30 - n = k → n ≤ 30 → FrR 25 34 μ m → TI t m → m.1 34 7 = (bestI (tcold t) n).1 → m.1 34 8 = (bestI (tcold t) n).2 → (∀ k, k ≠ 7 → k ≠ 8 → m.1 34 k = μ.1 34 k) → Go yX5_findCold cX5_findCold 6 none 3 21 [some (.ref 34), d1, some (.ref 25), some (.int (nI n)), d4, d5] [] m (fun r μ' => r = none ∧ FrR 25 34 μ μ' ∧ μ'.1 34 7 = (bestI (tcold (t)) 30).1 ∧ μ'.1 34 8 = (bestI (tcold (t)) 30).2 ∧ ∀ k, k ≠ 7 → k ≠ 8 → μ'.1 34 k = μ.1 34 k) := by
  intro k
  induction k using Nat.strongRecOn with
  | ind k ih =>
    intro n d4 d5 m hk hj hF hT h7 h8 hO
    refine go_il3 dX5_findCold_21 (go_bipush (v := 30) dX5_findCold_22 (by decide) ?_)
    refine go_cge 79 dX5_findCold_24 (by decide) (fun h24 => ?_) (fun h24 => ?_)
    · refine go_vret dX5_findCold_79 ?_
      have he : n = 30 := Nat.le_antisymm hj ((gm_bdN (by decide) (by decide) (by omega)).mp h24)
      subst he
      exact ⟨rfl, hF, h7, h8, hO⟩
    · have hlt : n < 30 := Nat.not_le.mp (fun z => h24 ((gm_bdN (by decide) (by decide) (by omega)).mpr z))
      refine go_al2 dX5_findCold_27 (go_il3 dX5_findCold_28 (go_V1r mcX9_warmthOn mvX9_warmthOn kX5_83 rfl dX5_findCold_29 rfl rfl (aWarm hT hlt) (go_is4 dX5_findCold_32 rfl rfl (go_al2 dX5_findCold_34 (go_il3 dX5_findCold_35 (go_ic0 dX5_findCold_36 (go_V2v mcX9_warmTo mvX9_warmTo kX5_86 rfl dX5_findCold_37 rfl rfl (sX9_warmTo hlt _ _) (go_al2 dX5_findCold_40 (go_V0r mcX9_heardLong mvX9_heardLong kX5_90 rfl dX5_findCold_41 rfl rfl (aLong (hT.warm (n := n) (v := 0) (by omega))) (go_is5 dX5_findCold_44 rfl rfl (go_al2 dX5_findCold_46 (go_il3 dX5_findCold_47 (go_il4 dX5_findCold_48 ?_)))))))))))))
      refine go_V2v mcX9_warmTo mvX9_warmTo kX5_86 rfl dX5_findCold_50 rfl rfl (sX9_warmTo hlt _ _) (go_il5 dX5_findCold_53 (go_al0 dX5_findCold_55 (go_getI fX5_80 rfl rfl dX5_findCold_56 ?_)))
      refine go_cle 73 dX5_findCold_59 (by decide) (fun h59 => ?_) (fun h59 => ?_)
      · refine go_inc3 (k := 1) dX5_findCold_73 (by decide) rfl rfl (go_goto 21 dX5_findCold_76 (by decide) ?_)
        have hT2 : TI t (gm_I (gm_I m 27 n 0) 27 n (nI (twa t n))) := by
          refine hT.cong (fun k _ _ => rfl) rfl ?_
          funext j
          rw [gm_I1, if_pos rfl]
          by_cases c : j = n
          · rw [if_pos c, c, hT.2.2.2.2.2.2.2.2.2 n hlt]
          · rw [if_neg c, gm_I1, if_pos rfl, if_neg c]
        have hS : FrR 25 34 μ (gm_I (gm_I m 27 n 0) 27 n (nI (twa t n))) := (hF.I _ _ (by decide) (by decide)).I _ _ (by decide) (by decide)
        have e8 : (gm_I (gm_I m 27 n 0) 27 n (nI (twa t n))).1 34 8 = (bestI (tcold t) n).2 := h8
        rw [e8] at h59
        rw [nI_1]
        refine ih (30 - (n + 1)) (by omega) (n + 1) _ _ _ rfl (by omega) hS hT2 ?_ ?_ ?_
        · rw [bestI, if_pos (show tcold t n ≤ _ from h59)]; exact h7
        · rw [bestI, if_pos (show tcold t n ≤ _ from h59)]; exact h8
        · exact hO
      · refine go_al0 dX5_findCold_62 (go_il3 dX5_findCold_63 (go_putI fX5_77 rfl rfl dX5_findCold_64 (go_al0 dX5_findCold_67 (go_il5 dX5_findCold_68 (go_putI fX5_80 rfl rfl dX5_findCold_70 (go_inc3 (k := 1) dX5_findCold_73 (by decide) rfl rfl (go_goto 21 dX5_findCold_76 (by decide) ?_)))))))
        have hT2 : TI t (gm_I (gm_I m 27 n 0) 27 n (nI (twa t n))) := by
          refine hT.cong (fun k _ _ => rfl) rfl ?_
          funext j
          rw [gm_I1, if_pos rfl]
          by_cases c : j = n
          · rw [if_pos c, c, hT.2.2.2.2.2.2.2.2.2 n hlt]
          · rw [if_neg c, gm_I1, if_pos rfl, if_neg c]
        have hS : FrR 25 34 μ (gm_I (gm_I m 27 n 0) 27 n (nI (twa t n))) := (hF.I _ _ (by decide) (by decide)).I _ _ (by decide) (by decide)
        have e8 : (gm_I (gm_I m 27 n 0) 27 n (nI (twa t n))).1 34 8 = (bestI (tcold t) n).2 := h8
        rw [e8] at h59
        rw [nI_1]
        refine ih (30 - (n + 1)) (by omega) (n + 1) _ _ _ rfl (by omega) ((hS.I 7 _ (by decide) (by decide)).I 8 _ (by decide) (by decide)) (hT2.cong (fun k _ _ => rfl) rfl rfl) ?_ ?_ ?_
        · rw [gm_Io _ _ _ (by decide), gm_Is, bestI, if_neg (show ¬ tcold t n ≤ _ from h59)]
        · rw [gm_Is, bestI, if_neg (show ¬ tcold t n ≤ _ from h59)]; rfl
        · intro k z1 z2; rw [gm_Io _ _ _ z2, gm_Io _ _ _ z1]; exact hO k z1 z2
set_option maxRecDepth 100000 in
set_option maxHeartbeats 400000 in
theorem aX5_findCold2 {q : QS} {μ : gm_M} {w : Nat} (hQ : CQ q μ) (hw : w < qnum q) : Sat yX5_findCold cX5_findCold 6 none 3 [(.ref 34), (.int (nI w))] μ (fun r μ' => r = none ∧ FrR 25 34 μ μ' ∧ μ'.1 34 7 = (bestI (tcold (trof q 9 w)) 30).1 ∧ μ'.1 34 8 = (bestI (tcold (trof q 9 w)) 30).2 ∧ ∀ k, k ≠ 7 → k ≠ 8 → μ'.1 34 k = μ.1 34 k) := by
  refine Sat.of (L := [some (.ref 34), some (.int (nI w)), none, none, none, none]) (by decide) (fun _ => rfl) (fun _ => rfl) ?_
  refine go_al0 dX5_findCold_0 (go_getR (j := 1) fX5_21 rfl rfl dX5_findCold_1 (go_il1 dX5_findCold_4 ?_))
  refine go_V1 mcX1_begin mvX1_begin kX5_25 rfl dX5_findCold_5 rfl rfl (aBegin hQ hw) ?_
  rintro _ m5 ⟨rfl, hT5, hF5⟩
  refine go_as2 dX5_findCold_8 rfl rfl (go_al0 dX5_findCold_9 (go_icm1 dX5_findCold_10 (go_putI fX5_77 rfl rfl dX5_findCold_11 (go_al0 dX5_findCold_14 (go_icm1 dX5_findCold_15 (go_putI fX5_80 rfl rfl dX5_findCold_16 (go_ic0 dX5_findCold_19 (go_is3 dX5_findCold_20 rfl rfl ?_))))))))
  exact aX5_cold_loop2 _ 0 _ _ _ rfl (Nat.zero_le _) ((((FrR.rf μ).f25 hF5 (by decide) (by decide)).I 7 _ (by decide) (by decide)).I 8 _ (by decide) (by decide)) (hT5.cong (fun k _ _ => rfl) rfl rfl) (by rw [gm_Io _ _ _ (by decide), gm_Is]; rfl) (by rw [gm_Is]; rfl) (fun k z1 z2 => by rw [gm_Io _ _ _ z2, gm_Io _ _ _ z1, hF5.1 34 (by decide)])

set_option maxRecDepth 100000 in
set_option maxHeartbeats 400000 in
theorem aX5_come_loop2 {t : TR} {μ : gm_M} {d1 : Option Value} : ∀ (k n f0 : Nat) (d4 : Option Value) (m : gm_M), 20 - n = k → n ≤ 20 → FrR 25 34 μ m → TI (trf t f0) m → m.1 34 9 = (bestI (tcome t) n).1 → m.1 34 10 = (bestI (tcome t) n).2 → (∀ k, k ≠ 9 → k ≠ 10 → m.1 34 k = μ.1 34 k) → Go yX5_findCome cX5_findCome 5 none 3 21 [some (.ref 34), d1, some (.ref 25), some (.int (nI n)), d4] [] m (fun r μ' => r = none ∧ FrR 25 34 μ μ' ∧ μ'.1 34 9 = (bestI (tcome (t)) 20).1 ∧ μ'.1 34 10 = (bestI (tcome (t)) 20).2 ∧ ∀ k, k ≠ 9 → k ≠ 10 → μ'.1 34 k = μ.1 34 k) := by
  intro k
  induction k using Nat.strongRecOn with
  | ind k ih =>
    intro n f0 d4 m hk hj hF hT h7 h8 hO
    refine go_il3 dX5_findCome_21 (go_bipush (v := 20) dX5_findCome_22 (by decide) ?_)
    refine go_cge 66 dX5_findCome_24 (by decide) (fun h24 => ?_) (fun h24 => ?_)
    · refine go_vret dX5_findCome_66 ?_
      have he : n = 20 := Nat.le_antisymm hj ((gm_bdN (by decide) (by decide) (by omega)).mp h24)
      subst he
      exact ⟨rfl, hF, h7, h8, hO⟩
    · have hlt : n < 20 := Nat.not_le.mp (fun z => h24 ((gm_bdN (by decide) (by decide) (by omega)).mpr z))
      have hT2 : TI (trf t n) (gm_I m 25 7 (nI n)) := trf_trf t f0 n ▸ hT.from (f := n) (by omega)
      refine go_al2 dX5_findCome_27 (go_il3 dX5_findCome_28 (go_putI fX5_61 rfl rfl dX5_findCome_29 (go_al2 dX5_findCome_32 (go_bipush (v := 29) dX5_findCome_33 (by decide) (go_V1r mcX9_soleMoment mvX9_soleMoment kX5_41 rfl dX5_findCome_35 rfl rfl (aSole29 hT2) (go_is4 dX5_findCome_38 rfl rfl (go_il4 dX5_findCome_40 (go_al0 dX5_findCome_42 (go_getI fX5_97 rfl rfl dX5_findCome_43 ?_)))))))))
      refine go_cle 60 dX5_findCome_46 (by decide) (fun h46 => ?_) (fun h46 => ?_)
      · refine go_inc3 (k := 1) dX5_findCome_60 (by decide) rfl rfl (go_goto 21 dX5_findCome_63 (by decide) ?_)
        have hS : FrR 25 34 μ (gm_I m 25 7 (nI n)) := hF.I _ _ (by decide) (by decide)
        have e8 : (gm_I m 25 7 (nI n)).1 34 10 = (bestI (tcome t) n).2 := h8
        rw [e8] at h46
        rw [nI_1]
        refine ih (20 - (n + 1)) (by omega) (n + 1) n _ _ rfl (by omega) hS hT2 ?_ ?_ ?_
        · rw [bestI, if_pos (show tcome t n ≤ _ from h46)]; exact h7
        · rw [bestI, if_pos (show tcome t n ≤ _ from h46)]; exact h8
        · exact hO
      · refine go_al0 dX5_findCome_49 (go_il3 dX5_findCome_50 (go_putI fX5_94 rfl rfl dX5_findCome_51 (go_al0 dX5_findCome_54 (go_il4 dX5_findCome_55 (go_putI fX5_97 rfl rfl dX5_findCome_57 (go_inc3 (k := 1) dX5_findCome_60 (by decide) rfl rfl (go_goto 21 dX5_findCome_63 (by decide) ?_)))))))
        have hS : FrR 25 34 μ (gm_I m 25 7 (nI n)) := hF.I _ _ (by decide) (by decide)
        have e8 : (gm_I m 25 7 (nI n)).1 34 10 = (bestI (tcome t) n).2 := h8
        rw [e8] at h46
        rw [nI_1]
        refine ih (20 - (n + 1)) (by omega) (n + 1) n _ _ rfl (by omega) ((hS.I 9 _ (by decide) (by decide)).I 10 _ (by decide) (by decide)) (hT2.cong (fun k _ _ => rfl) rfl rfl) ?_ ?_ ?_
        · rw [gm_Io _ _ _ (by decide), gm_Is, bestI, if_neg (show ¬ tcome t n ≤ _ from h46)]
        · rw [gm_Is, bestI, if_neg (show ¬ tcome t n ≤ _ from h46)]; rfl
        · intro k z1 z2; rw [gm_Io _ _ _ z2, gm_Io _ _ _ z1]; exact hO k z1 z2
set_option maxRecDepth 100000 in
set_option maxHeartbeats 400000 in
theorem aX5_findCome2 {q : QS} {μ : gm_M} {w : Nat} (hQ : CQ q μ) (hw : w < qnum q) : Sat yX5_findCome cX5_findCome 5 none 3 [(.ref 34), (.int (nI w))] μ (fun r μ' => r = none ∧ FrR 25 34 μ μ' ∧ μ'.1 34 9 = (bestI (tcome (trof q 9 w)) 20).1 ∧ μ'.1 34 10 = (bestI (tcome (trof q 9 w)) 20).2 ∧ ∀ k, k ≠ 9 → k ≠ 10 → μ'.1 34 k = μ.1 34 k) := by
  refine Sat.of (L := [some (.ref 34), some (.int (nI w)), none, none, none]) (by decide) (fun _ => rfl) (fun _ => rfl) ?_
  refine go_al0 dX5_findCome_0 (go_getR (j := 1) fX5_21 rfl rfl dX5_findCome_1 (go_il1 dX5_findCome_4 ?_))
  refine go_V1 mcX1_begin mvX1_begin kX5_25 rfl dX5_findCome_5 rfl rfl (aBegin hQ hw) ?_
  rintro _ m5 ⟨rfl, hT5, hF5⟩
  refine go_as2 dX5_findCome_8 rfl rfl (go_al0 dX5_findCome_9 (go_icm1 dX5_findCome_10 (go_putI fX5_94 rfl rfl dX5_findCome_11 (go_al0 dX5_findCome_14 (go_icm1 dX5_findCome_15 (go_putI fX5_97 rfl rfl dX5_findCome_16 (go_ic0 dX5_findCome_19 (go_is3 dX5_findCome_20 rfl rfl ?_))))))))
  exact aX5_come_loop2 _ 0 (tfr (trof q 9 w)) _ _ rfl (Nat.zero_le _) ((((FrR.rf μ).f25 hF5 (by decide) (by decide)).I 9 _ (by decide) (by decide)).I 10 _ (by decide) (by decide)) (hT5.cong (fun k _ _ => rfl) rfl rfl) (by rw [gm_Io _ _ _ (by decide), gm_Is]; rfl) (by rw [gm_Is]; rfl) (fun k z1 z2 => by rw [gm_Io _ _ _ z2, gm_Io _ _ _ z1, hF5.1 34 (by decide)])

/-! CHEESEEAR: the digest -/
def mx (h v : Int64) : Int64 := 31 * h + v
def mixN (f : Nat → Int64) : Nat → Int64 → Int64
  | 0, h => h
  | n + 1, h => mx (mixN f n h) (f n)
def whl (F : Nat → Int64 → Int64) : Nat → Int64 → Int64
  | 0, h => h
  | n + 1, h => F n (whl F n h)
def dWn (j : Nat) : Nat := if j = 0 then 0 else if j = 1 then 9 else if j = 2 then 19 else 29
def dAn (j : Nat) : Nat := if j = 0 then 0 else if j = 1 then 5 else if j = 2 then 12 else 29
def dNi (q : QS) (w n : Nat) (h : Int64) : Int64 := mx (mx (mx h (nI (ta (trof q 9 w) (n + 1)).1).toInt64) (oI (qhe q w n)).toInt64) (nI (tst (trof q 9 w) n)).toInt64
def dWh (q : QS) (w : Nat) (x : Nat) : Int64 := (if x = 0 then nI (qso q w) else if x = 1 then nI (qfr q w) else if x = 2 then nI (qsz q w) else wlet q w (x - 3)).toInt64
def dN (q : QS) (w : Nat) (h : Int64) : Int64 := mx (whl (fun j => dNi q w (dAn j)) 4 (mixN (dWh q w) 8 h)) (nI (tct (trof q 9 w) 30)).toInt64
def dP (q : QS) (w : Nat) (h : Int64) : Int64 := mx (mx (mx (mx (mx (mx h (ripA (trof q 9 w) 12).1.toInt64) (ripA (trof q 9 w) 12).2.1.toInt64) (bestI (tcold (trof q 9 w)) 30).1.toInt64) (bestI (tcold (trof q 9 w)) 30).2.toInt64) (bestI (tcome (trof q 9 w)) 20).1.toInt64) (bestI (tcome (trof q 9 w)) 20).2.toInt64
def dC (q : QS) (w : Nat) (h : Int64) : Int64 := mx (mx (mx (mx (mx h (mkB (qfromB q w) 32).toInt64) (mkB (qsortB q w) 32).toInt64) (nI (aminF (qmost q w (bt (mkB (qfromB q w) 32))) 29).1).toInt64) (lN (frostN (trof q 9 w) 5 5 12).1)) (lN (frostN (trof q 9 w) 5 5 12).2)
def dCh (q : QS) (l : Nat) (h : Int64) : Int64 := mx (mx h (oI ((qchord q l).map (·.1))).toInt64) (oI ((qchord q l).map (·.2))).toInt64
def dA (q : QS) (h : Int64) : Int64 := mx (mx (mx (mx (mx (whl (dCh q) 8 (mx (mx h (oI ((qscr q (qnum q)).map (·.1))).toInt64) (oI ((qscr q (qnum q)).map (·.2))).toInt64)) (sHush q).toInt64) (nI (saleC q)).toInt64) (sNever q).toInt64) (qsumT q 7 20).toInt64) (nI (qse q 7 20 (qnum q))).toInt64
def dW (q : QS) (w : Nat) (h : Int64) : Int64 := dC q w (dP q w (dN q w h))
def sDig (r : RS) : Int64 := dA (qof r) (whl (dW (qof r)) (qnum (qof r)) (mixN (fun j => (nI (qwa (qof r) (dWn j))).toInt64) 4 (mx (mx (mixN (fun j => (sCount r (nI j)).toInt64) 8 17) (oI (pres (ra0 r).1 (ra0 r).2).1).toInt64) (oI (cavF (ra1 r).1 (ra1 r).2)).toInt64)))
theorem gm_W2_t {j : Nat} (h : j < 4) : gm_W2 (nI j).toNatClampNeg = nI (dAn j) ∧ dAn j < 30 := by
  match j, h with
  | 0, _ => decide
  | 1, _ => decide
  | 2, _ => decide
  | 3, _ => decide
theorem gm_W1_t {j : Nat} (h : j < 4) : gm_W1 (nI j).toNatClampNeg = nI (dWn j) ∧ dWn j < 30 := by
  match j, h with
  | 0, _ => decide
  | 1, _ => decide
  | 2, _ => decide
  | 3, _ => decide
theorem sWheel_in {q : QS} (hq : qok q) {w x : Nat} (hw : w < qnum q) (hx : x < 8) : (sWheel q (nI w) (nI x)).toInt64 = dWh q w x := by
  have h8 := hq.1
  have e : inW q (nI w) = true := by
    unfold inW
    simp only [Bool.and_eq_true, decide_eq_true_eq]
    exact ⟨nI_pos (by omega), fun z => by rw [nI_leI (by omega) (by omega)] at z; omega⟩
  unfold sWheel dWh
  rw [if_pos e, if_neg (nI_pos (by omega)), if_pos (show nI x ≤ 7 from (nI_leI (show x < 2 ^ 31 by omega) (show 7 < 2 ^ 31 by decide)).mpr (by omega)), wN_nI (by omega), wN_nI (by omega)]
  match x, hx with
  | 0, _ => rfl
  | 1, _ => rfl
  | 2, _ => rfl
  | 3, _ => rfl
  | 4, _ => rfl
  | 5, _ => rfl
  | 6, _ => rfl
  | 7, _ => rfl
set_option maxRecDepth 100000 in
set_option maxHeartbeats 400000 in
theorem aX11_mn2 {q : QS} {μ m : gm_M} {w : Nat} {h1 h0 : Int64} (hT : TI (trof q 9 w) m) (hR : RO (trof q 9 w) 30 m) (hF : FrR 25 42 μ m) : ∀ (k_ n : Nat) (d8 : Option Value), 4 - n = k_ → n ≤ 4 → Go yX11_mixNights cX11_mixNights 9 (some .long) 3 54 [some (.ref 0), some (.long h0), none, some (.int (nI w)), some (.long (whl (fun j => dNi q w (dAn j)) n h1)), none, some (.ref 25), some (.int (nI n)), d8] [] m (fun r μ' => r = some (.long (mx (whl (fun j => dNi q w (dAn j)) 4 h1) (nI (tct (trof q 9 w) 30)).toInt64)) ∧ FrR 25 42 μ μ') := by
  intro k_
  induction k_ using Nat.strongRecOn with
  | ind k_ ih =>
    intro n d8  hk_ hj 
    refine go_il7 dX11_mixNights_54 (go_gets1 fX11_358 dX11_mixNights_56 (go_slen1 dX11_mixNights_59 ?_))
    refine go_cge 128 dX11_mixNights_60 (by decide) (fun h60 => ?_) (fun h60 => ?_)
    · have he : n = 4 := Nat.le_antisymm hj ((gm_bdN (by decide) (by decide) (by omega)).mp h60)
      refine go_ldc2 dX11_mixNights_128 nX11_327 (go_ll4 dX11_mixNights_131 (go_lmul dX11_mixNights_133 (go_al6 dX11_mixNights_134 (go_V0r mcX9_heardLong mvX9_heardLong kX11_173 rfl dX11_mixNights_136 rfl rfl (aLong hT) (go_i2l dX11_mixNights_139 (go_ladd dX11_mixNights_140 ?_))))))
      refine go_lret dX11_mixNights_141 ?_
      subst he
      exact ⟨rfl, hF⟩
    · have hlt : n < 4 := Nat.not_le.mp (fun zz => h60 ((gm_bdN (by decide) (by decide) (by omega)).mpr zz))
      refine go_gets1 fX11_358 dX11_mixNights_63 (go_il7 dX11_mixNights_66 (go_sald1 (vp_in_nI hlt (by decide)) dX11_mixNights_68 ?_))
      rw [(gm_W2_t hlt).1]
      have hn30 := (gm_W2_t hlt).2
      refine go_is8 dX11_mixNights_69 rfl rfl (go_ldc2 dX11_mixNights_71 nX11_327 (go_ll4 dX11_mixNights_74 (go_lmul dX11_mixNights_76 (go_al6 dX11_mixNights_77 (go_il8 dX11_mixNights_79 (go_V1r mcX9_ageOn mvX9_ageOn kX11_164 rfl dX11_mixNights_81 rfl rfl (aAge hR hn30) (go_i2l dX11_mixNights_84 (go_ladd dX11_mixNights_85 (go_ls4 dX11_mixNights_86 rfl rfl (go_ldc2 dX11_mixNights_88 nX11_327 (go_ll4 dX11_mixNights_91 (go_lmul dX11_mixNights_93 (go_al6 dX11_mixNights_94 ?_)))))))))))))
      refine go_il8 dX11_mixNights_96 (go_V1r mcX9_heardOn mvX9_heardOn kX11_167 rfl dX11_mixNights_98 rfl rfl (aHeard hR hn30) (go_i2l dX11_mixNights_101 (go_ladd dX11_mixNights_102 (go_ls4 dX11_mixNights_103 rfl rfl (go_ldc2 dX11_mixNights_105 nX11_327 (go_ll4 dX11_mixNights_108 (go_lmul dX11_mixNights_110 (go_al6 dX11_mixNights_111 (go_il8 dX11_mixNights_113 (go_V1r mcX9_stateOn mvX9_stateOn kX11_170 rfl dX11_mixNights_115 rfl rfl (aState hR hn30) (go_i2l dX11_mixNights_118 (go_ladd dX11_mixNights_119 (go_ls4 dX11_mixNights_120 rfl rfl ?_)))))))))))))
      refine go_inc7 (k := 1) dX11_mixNights_122 (by decide) rfl rfl (go_goto 54 dX11_mixNights_125 (by decide) ?_)
      rw [nI_1]
      exact ih (4 - (n + 1)) (by omega) (n + 1) _ rfl (by omega)

set_option maxRecDepth 100000 in
set_option maxHeartbeats 400000 in
theorem aX11_mn1 {q : QS} {μ m : gm_M} {w : Nat} (hQ : CQ q μ) (hw : w < qnum q) (hF : FrR 25 42 μ m) (h1 h0 : Int64) (d6 d7 d8 : Option Value) : Go yX11_mixNights cX11_mixNights 9 (some .long) 3 36 [some (.ref 0), some (.long h0), none, some (.int (nI w)), some (.long h1), none, d6, d7, d8] [] m (fun r μ' => r = some (.long (mx (whl (fun j => dNi q w (dAn j)) 4 h1) (nI (tct (trof q 9 w) 30)).toInt64)) ∧ FrR 25 42 μ μ') := by
  refine go_al0 dX11_mixNights_36 (go_getR (j := 1) fX11_12 rfl rfl dX11_mixNights_37 (go_il3 dX11_mixNights_40 ?_))
  refine go_V1 mcX1_begin mvX1_begin kX11_155 rfl dX11_mixNights_41 rfl rfl (aBegin (hQ.frR hF) hw) ?_
  rintro _ m41 ⟨rfl, hT41, hF41⟩
  refine go_as6 dX11_mixNights_44 rfl rfl (go_al6 dX11_mixNights_46 ?_)
  refine go_V0 mcX9_run mvX9_run kX11_159 rfl dX11_mixNights_48 rfl rfl (aRun hT41) ?_
  rintro _ m48 ⟨rfl, hT48, hR48, hE48, hF48⟩
  refine go_ic0 dX11_mixNights_51 (go_is7 dX11_mixNights_52 rfl rfl ?_)
  exact aX11_mn2 hT48 hR48 ((hF.f25 hF41 (by decide) (by decide)).f25 hF48 (by decide) (by decide)) _ 0 _ rfl (by decide)
set_option maxRecDepth 100000 in
set_option maxHeartbeats 400000 in
theorem aX11_mn0 {q : QS} {μ : gm_M} {w : Nat} {h0 : Int64} {d7 d8 : Option Value} (hQ : CQ q μ) (hw : w < qnum q) : ∀ (k_ n : Nat) (m : gm_M), 8 - n = k_ → n ≤ 8 → (FrR 25 42 μ m) → Go yX11_mixNights cX11_mixNights 9 (some .long) 3 6 [some (.ref 0), some (.long h0), none, some (.int (nI w)), some (.long (mixN (dWh q w) n h0)), none, some (.int (nI n)), d7, d8] [] m (fun r μ' => r = some (.long (dN q w h0)) ∧ FrR 25 42 μ μ') := by
  intro k_
  induction k_ using Nat.strongRecOn with
  | ind k_ ih =>
    intro n m  hk_ hj hF
    refine go_il6 dX11_mixNights_6 (go_bipush (v := 7) dX11_mixNights_8 (by decide) ?_)
    refine go_cgt 36 dX11_mixNights_10 (by decide) (fun h10 => ?_) (fun h10 => ?_)
    · have he : n = 8 := Nat.le_antisymm hj ((gm_bdG (by decide) (by decide) (by decide) (by omega)).mp h10)
      subst he
      exact aX11_mn1 hQ hw hF _ _ _ _ _
    · have hlt : n < 8 := Nat.not_le.mp (fun zz => h10 ((gm_bdG (by decide) (by decide) (by decide) (by omega)).mpr zz))
      refine go_ldc2 dX11_mixNights_13 nX11_327 (go_ll4 dX11_mixNights_16 (go_lmul dX11_mixNights_18 (go_al0 dX11_mixNights_19 (go_il3 dX11_mixNights_20 (go_il6 dX11_mixNights_21 ?_)))))
      refine go_V2 mcX11_wheel mvX11_wheel kX11_355 rfl dX11_mixNights_23 rfl rfl (p_wheel (hQ.frR hF) _ _) ?_
      rintro _ m23 ⟨rfl, hF23⟩
      refine go_i2l dX11_mixNights_26 (go_ladd dX11_mixNights_27 (go_ls4 dX11_mixNights_28 rfl rfl (go_inc6 (k := 1) dX11_mixNights_30 (by decide) rfl rfl (go_goto 6 dX11_mixNights_33 (by decide) ?_))))
      rw [nI_1, sWheel_in hQ.1 hw hlt]
      exact ih (8 - (n + 1)) (by omega) (n + 1) _ rfl (by omega) (hF.tr hF23)

set_option maxRecDepth 100000 in
set_option maxHeartbeats 400000 in
theorem a_mixNights {q : QS} {μ : gm_M} {w : Nat} (hQ : CQ q μ) (hw : w < qnum q) (h0 : Int64) : Sat yX11_mixNights cX11_mixNights 9 (some .long) 3 [(.ref 0), (.long h0), (.int (nI w))] μ (fun r μ' => r = some (.long (dN q w h0)) ∧ FrR 25 42 μ μ') := by
  refine Sat.of (L := [some (.ref 0), some (.long h0), none, some (.int (nI w)), none, none, none, none, none]) (by decide) (fun _ => rfl) (fun _ => rfl) ?_
  refine go_ll1 dX11_mixNights_0 (go_ls4 dX11_mixNights_1 rfl rfl (go_ic0 dX11_mixNights_3 (go_is6 dX11_mixNights_4 rfl rfl ?_)))
  exact aX11_mn0 hQ hw _ 0 _ rfl (by decide) (FrR.rf μ)

theorem aX5_findRipe12 {q : QS} {μ : gm_M} {w : Nat} (hQ : CQ q μ) (hw : w < qnum q) : Sat yX5_findRipe cX5_findRipe 4 none 4 [.ref 34, .int (nI w), .int 12] μ (fun r μ' => r = none ∧ FrR 25 34 μ μ' ∧ μ'.1 34 4 = (ripA (trof q 9 w) 12).1 ∧ μ'.1 34 5 = (ripA (trof q 9 w) 12).2.1 ∧ μ'.1 34 6 = (ripA (trof q 9 w) 12).2.2) := aX5_findRipe hQ hw (x := 12) (by decide)
theorem aX2_frost5 {q : QS} {μ : gm_M} {w : Nat} (hQ : CQ q μ) (hw : w < qnum q) : Sat yX2_findFrost cX2_findFrost 8 none 3 [.ref 40, .int 5, .int 5, .int (nI w), .int 12] μ (fun r μ' => r = none ∧ FrR 25 42 μ μ' ∧ μ'.2 40 3 = lN (frostN (trof q 9 w) 5 5 12).1 ∧ μ'.2 40 4 = lN (frostN (trof q 9 w) 5 5 12).2) := aX2_findFrost hQ (c := 5) (last := 5) (x := 12) (by decide) (by decide) hw (by decide)
theorem aX2_sum7 {q : QS} {μ : gm_M} (hQ : CQ q μ) : Sat yX2_findSummer cX2_findSummer 6 none 3 [.ref 40, .int 7, .int 20] μ (fun r μ' => r = none ∧ FrR 25 40 μ μ' ∧ μ'.1 40 6 = nI (qse q 7 20 (qnum q)) ∧ μ'.1 40 5 = qsumT q 7 20) := by
  refine Sat.post ?_ (aX2_findSummer hQ (s := 7) (n := 20) (by decide))
  rintro _ m ⟨rfl, h1, h2, h3, h4⟩
  refine ⟨rfl, h1, h2, ?_⟩
  unfold qsumT
  by_cases z : qnum q = 0
  · rw [if_pos z]; exact h3 z
  · rw [if_neg z]
    obtain ⟨b, b1, b2, b3⟩ := h4 (by omega)
    rw [b1]
    congr 1
    refine mkB_eq (fun j hj => ?_)
    by_cases y : j < 30
    · rw [b2 j y]; simp [y]
    · rw [b3 j (by omega) hj]; simp [y]
set_option maxRecDepth 100000 in
set_option maxHeartbeats 400000 in
theorem a_mixPlans {q : QS} {μ : gm_M} {w : Nat} (hQ : CQ q μ) (hw : w < qnum q) (h0 : Int64) : Sat yX11_mixPlans cX11_mixPlans 6 (some .long) 5 [(.ref 0), (.long h0), (.int (nI w))] μ (fun r μ' => r = some (.long (dP q w h0)) ∧ FrR 25 42 μ μ') := by
  refine Sat.of (L := [some (.ref 0), some (.long h0), none, some (.int (nI w)), none, none]) (by decide) (fun _ => rfl) (fun _ => rfl) ?_
  refine go_al0 dX11_mixPlans_0 (go_getR (j := 34) fX11_28 rfl rfl dX11_mixPlans_1 (go_il3 dX11_mixPlans_4 (go_bipush (v := 12) dX11_mixPlans_5 (by decide) ?_)))
  refine go_V2 mcX5_findRipe mvX5_findRipe kX11_201 rfl dX11_mixPlans_7 rfl rfl (aX5_findRipe12 hQ hw) ?_
  rintro _ m7 ⟨rfl, hF7, hA7, hB7, hC7⟩
  refine go_al0 dX11_mixPlans_10 (go_getR (j := 34) fX11_28 rfl rfl dX11_mixPlans_11 (go_il3 dX11_mixPlans_14 ?_))
  refine go_V1 mcX5_findCold mvX5_findCold kX11_214 rfl dX11_mixPlans_15 rfl rfl (aX5_findCold2 (hQ.frR hF7) hw) ?_
  rintro _ m15 ⟨rfl, hF15, hA15, hB15, hO15⟩
  refine go_al0 dX11_mixPlans_18 (go_getR (j := 34) fX11_28 rfl rfl dX11_mixPlans_19 (go_il3 dX11_mixPlans_22 ?_))
  refine go_V1 mcX5_findCome mvX5_findCome kX11_223 rfl dX11_mixPlans_23 rfl rfl (aX5_findCome2 (hQ.frR (hF7.tr hF15)) hw) ?_
  rintro _ m23 ⟨rfl, hF23, hA23, hB23, hO23⟩
  refine go_ldc2 dX11_mixPlans_26 nX11_327 (go_ll1 dX11_mixPlans_29 (go_lmul dX11_mixPlans_30 (go_al0 dX11_mixPlans_31 (go_getR (j := 34) fX11_28 rfl rfl dX11_mixPlans_32 (go_getI fX11_205 rfl rfl dX11_mixPlans_35 (go_i2l dX11_mixPlans_38 (go_ladd dX11_mixPlans_39 (go_ls4 dX11_mixPlans_40 rfl rfl (go_ldc2 dX11_mixPlans_42 nX11_327 (go_ll4 dX11_mixPlans_45 (go_lmul dX11_mixPlans_47 (go_al0 dX11_mixPlans_48 (go_getR (j := 34) fX11_28 rfl rfl dX11_mixPlans_49 ?_)))))))))))))
  refine go_getI fX11_208 rfl rfl dX11_mixPlans_52 (go_i2l dX11_mixPlans_55 (go_ladd dX11_mixPlans_56 (go_ls4 dX11_mixPlans_57 rfl rfl (go_ldc2 dX11_mixPlans_59 nX11_327 (go_ll4 dX11_mixPlans_62 (go_lmul dX11_mixPlans_64 (go_al0 dX11_mixPlans_65 (go_getR (j := 34) fX11_28 rfl rfl dX11_mixPlans_66 (go_getI fX11_217 rfl rfl dX11_mixPlans_69 (go_i2l dX11_mixPlans_72 (go_ladd dX11_mixPlans_73 (go_ls4 dX11_mixPlans_74 rfl rfl (go_ldc2 dX11_mixPlans_76 nX11_327 ?_)))))))))))))
  refine go_ll4 dX11_mixPlans_79 (go_lmul dX11_mixPlans_81 (go_al0 dX11_mixPlans_82 (go_getR (j := 34) fX11_28 rfl rfl dX11_mixPlans_83 (go_getI fX11_220 rfl rfl dX11_mixPlans_86 (go_i2l dX11_mixPlans_89 (go_ladd dX11_mixPlans_90 (go_ls4 dX11_mixPlans_91 rfl rfl (go_ldc2 dX11_mixPlans_93 nX11_327 (go_ll4 dX11_mixPlans_96 (go_lmul dX11_mixPlans_98 (go_al0 dX11_mixPlans_99 (go_getR (j := 34) fX11_28 rfl rfl dX11_mixPlans_100 (go_getI fX11_226 rfl rfl dX11_mixPlans_103 ?_)))))))))))))
  refine go_i2l dX11_mixPlans_106 (go_ladd dX11_mixPlans_107 (go_ls4 dX11_mixPlans_108 rfl rfl (go_ldc2 dX11_mixPlans_110 nX11_327 (go_ll4 dX11_mixPlans_113 (go_lmul dX11_mixPlans_115 (go_al0 dX11_mixPlans_116 (go_getR (j := 34) fX11_28 rfl rfl dX11_mixPlans_117 (go_getI fX11_229 rfl rfl dX11_mixPlans_120 (go_i2l dX11_mixPlans_123 (go_ladd dX11_mixPlans_124 ?_))))))))))
  refine go_lret dX11_mixPlans_125 ?_
  refine ⟨?_, (((hF7.tr hF15).tr hF23).wide (by decide))⟩
  rw [hA23, hB23, hO23 4 (by decide) (by decide), hO23 5 (by decide) (by decide), hO23 7 (by decide) (by decide), hO23 8 (by decide) (by decide), hA15, hB15, hO15 4 (by decide) (by decide), hO15 5 (by decide) (by decide), hA7, hB7]
  rfl

set_option maxRecDepth 100000 in
set_option maxHeartbeats 400000 in
theorem a_mixClues {q : QS} {μ : gm_M} {w : Nat} (hQ : CQ q μ) (hw : w < qnum q) (h0 : Int64) : Sat yX11_mixClues cX11_mixClues 7 (some .long) 5 [(.ref 0), (.long h0), (.int (nI w))] μ (fun r μ' => r = some (.long (dC q w h0)) ∧ FrR 25 42 μ μ') := by
  refine Sat.of (L := [some (.ref 0), some (.long h0), none, some (.int (nI w)), none, none, none]) (by decide) (fun _ => rfl) (fun _ => rfl) ?_
  refine go_al0 dX11_mixClues_0 (go_getR (j := 38) fX11_35 rfl rfl dX11_mixClues_1 (go_il3 dX11_mixClues_4 ?_))
  refine go_V1 mcX3_fromNights mvX3_fromNights kX11_241 rfl dX11_mixClues_5 rfl rfl (aX3_fromNights hQ hw) ?_
  rintro _ m5 ⟨v5, rfl, hF5, hb5⟩
  have hv5 := mkB_eq (p := qfromB q w) hb5
  refine go_is4 dX11_mixClues_8 rfl rfl (go_ldc2 dX11_mixClues_10 nX11_327 (go_ll1 dX11_mixClues_13 (go_lmul dX11_mixClues_14 (go_il4 dX11_mixClues_15 (go_i2l dX11_mixClues_17 (go_ladd dX11_mixClues_18 (go_ls5 dX11_mixClues_19 rfl rfl (go_ldc2 dX11_mixClues_21 nX11_327 (go_ll5 dX11_mixClues_24 (go_lmul dX11_mixClues_26 (go_al0 dX11_mixClues_27 (go_getR (j := 38) fX11_35 rfl rfl dX11_mixClues_28 (go_il3 dX11_mixClues_31 ?_)))))))))))))
  refine go_V1 mcX3_fittingSorts mvX3_fittingSorts kX11_244 rfl dX11_mixClues_32 rfl rfl (aX3_fittingSorts (hQ.frR hF5) hw) ?_
  rintro _ m32 ⟨v32, rfl, hF32, hb32⟩
  have hv32 := mkB_eq (p := qsortB q w) hb32
  refine go_i2l dX11_mixClues_35 (go_ladd dX11_mixClues_36 (go_ls5 dX11_mixClues_37 rfl rfl (go_ldc2 dX11_mixClues_39 nX11_327 (go_ll5 dX11_mixClues_42 (go_lmul dX11_mixClues_44 (go_al0 dX11_mixClues_45 (go_getR (j := 38) fX11_35 rfl rfl dX11_mixClues_46 (go_il3 dX11_mixClues_49 (go_il4 dX11_mixClues_50 ?_)))))))))
  refine go_V2 mcX3_nextNight mvX3_nextNight kX11_247 rfl dX11_mixClues_52 rfl rfl (aX3_nextNight (hQ.frR (hF5.tr hF32)) hw) ?_
  rintro _ m52 ⟨rfl, hF52⟩
  refine go_i2l dX11_mixClues_55 (go_ladd dX11_mixClues_56 (go_ls5 dX11_mixClues_57 rfl rfl (go_al0 dX11_mixClues_59 (go_getR (j := 40) fX11_42 rfl rfl dX11_mixClues_60 (go_ic5 dX11_mixClues_63 (go_ic5 dX11_mixClues_64 (go_il3 dX11_mixClues_65 (go_bipush (v := 12) dX11_mixClues_66 (by decide) ?_))))))))
  refine go_V4 mcX2_findFrost mvX2_findFrost kX11_252 rfl dX11_mixClues_68 rfl rfl (aX2_frost5 (hQ.frR (((hF5.tr hF32).wide (by decide)).tr hF52)) hw) ?_
  rintro _ m68 ⟨rfl, hF68, hA68, hB68⟩
  refine go_ldc2 dX11_mixClues_71 nX11_327 (go_ll5 dX11_mixClues_74 (go_lmul dX11_mixClues_76 (go_al0 dX11_mixClues_77 (go_getR (j := 40) fX11_42 rfl rfl dX11_mixClues_78 (go_getJ fX11_256 rfl rfl dX11_mixClues_81 (go_ladd dX11_mixClues_84 (go_ls5 dX11_mixClues_85 rfl rfl (go_ldc2 dX11_mixClues_87 nX11_327 (go_ll5 dX11_mixClues_90 (go_lmul dX11_mixClues_92 (go_al0 dX11_mixClues_93 (go_getR (j := 40) fX11_42 rfl rfl dX11_mixClues_94 (go_getJ fX11_260 rfl rfl dX11_mixClues_97 ?_)))))))))))))
  refine go_ladd dX11_mixClues_100 ?_
  refine go_lret dX11_mixClues_101 ?_
  refine ⟨?_, ((((hF5.tr hF32).wide (by decide)).tr hF52).wide (by decide)).tr hF68⟩
  rw [hA68, hB68, hv5, hv32]
  rfl

set_option maxRecDepth 100000 in
set_option maxHeartbeats 400000 in
theorem aX11_ma2 {q : QS} {μ m : gm_M} (hQ : CQ q μ) (hF : FrR 25 42 μ m) (h1 h0 : Int64) (d5 : Option Value) : Go yX11_mixAll cX11_mixAll 6 (some .long) 5 99 [some (.ref 0), some (.long h0), none, some (.long h1), none, d5] [] m (fun r μ' => r = some (.long (mx (mx (mx (mx (mx h1 (sHush q).toInt64) (nI (saleC q)).toInt64) (sNever q).toInt64) (qsumT q 7 20).toInt64) (nI (qse q 7 20 (qnum q))).toInt64)) ∧ FrR 25 42 μ μ') := by
  refine go_ldc2 dX11_mixAll_99 nX11_327 (go_ll3 dX11_mixAll_102 (go_lmul dX11_mixAll_103 (go_al0 dX11_mixAll_104 (go_getR (j := 32) fX11_21 rfl rfl dX11_mixAll_105 ?_))))
  refine go_V0 mcX7_silentNights mvX7_silentNights kX11_198 rfl dX11_mixAll_108 rfl rfl (aX7_silentNights (hQ.frR hF)) ?_
  rintro _ m108 ⟨v108, rfl, hF108, hb108⟩
  have hv108 := mkB_eq hb108
  refine go_i2l dX11_mixAll_111 (go_ladd dX11_mixAll_112 (go_ls3 dX11_mixAll_113 rfl rfl (go_ldc2 dX11_mixAll_114 nX11_327 (go_ll3 dX11_mixAll_117 (go_lmul dX11_mixAll_118 (go_al0 dX11_mixAll_119 (go_getR (j := 34) fX11_28 rfl rfl dX11_mixAll_120 ?_)))))))
  refine go_V0 mcX5_bestSale mvX5_bestSale kX11_232 rfl dX11_mixAll_123 rfl rfl (aX5_bestSale (hQ.frR (hF.tr (hF108.wide (by decide))))) ?_
  rintro _ m123 ⟨rfl, hF123⟩
  refine go_i2l dX11_mixAll_126 (go_ladd dX11_mixAll_127 (go_ls3 dX11_mixAll_128 rfl rfl (go_ldc2 dX11_mixAll_129 nX11_327 (go_ll3 dX11_mixAll_132 (go_lmul dX11_mixAll_133 (go_al0 dX11_mixAll_134 (go_getR (j := 38) fX11_35 rfl rfl dX11_mixAll_135 ?_)))))))
  refine go_V0 mcX3_neverTurnings mvX3_neverTurnings kX11_238 rfl dX11_mixAll_138 rfl rfl (aX3_neverTurnings (hQ.frR ((hF.tr (hF108.wide (by decide))).tr (hF123.wide (by decide))))) ?_
  rintro _ m138 ⟨v138, rfl, hF138, hb138⟩
  have hv138 := mkB_eq hb138
  refine go_i2l dX11_mixAll_141 (go_ladd dX11_mixAll_142 (go_ls3 dX11_mixAll_143 rfl rfl (go_al0 dX11_mixAll_144 (go_getR (j := 40) fX11_42 rfl rfl dX11_mixAll_145 (go_bipush (v := 7) dX11_mixAll_148 (by decide) (go_bipush (v := 20) dX11_mixAll_150 (by decide) ?_))))))
  refine go_V2 mcX2_findSummer mvX2_findSummer kX11_263 rfl dX11_mixAll_152 rfl rfl (aX2_sum7 (hQ.frR (((hF.tr (hF108.wide (by decide))).tr (hF123.wide (by decide))).tr (hF138.wide (by decide))))) ?_
  rintro _ m152 ⟨rfl, hF152, hB152, hA152⟩
  refine go_ldc2 dX11_mixAll_155 nX11_327 (go_ll3 dX11_mixAll_158 (go_lmul dX11_mixAll_159 (go_al0 dX11_mixAll_160 (go_getR (j := 40) fX11_42 rfl rfl dX11_mixAll_161 (go_getI fX11_266 rfl rfl dX11_mixAll_164 (go_i2l dX11_mixAll_167 (go_ladd dX11_mixAll_168 (go_ls3 dX11_mixAll_169 rfl rfl (go_ldc2 dX11_mixAll_170 nX11_327 (go_ll3 dX11_mixAll_173 (go_lmul dX11_mixAll_174 (go_al0 dX11_mixAll_175 (go_getR (j := 40) fX11_42 rfl rfl dX11_mixAll_176 ?_)))))))))))))
  refine go_getI fX11_269 rfl rfl dX11_mixAll_179 (go_i2l dX11_mixAll_182 (go_ladd dX11_mixAll_183 ?_))
  refine go_lret dX11_mixAll_184 ?_
  refine ⟨?_, (((hF.tr (hF108.wide (by decide))).tr (hF123.wide (by decide))).tr (hF138.wide (by decide))).tr (hF152.wide (by decide))⟩
  rw [hA152, hB152, hv108, hv138]
  rfl
set_option maxRecDepth 100000 in
set_option maxHeartbeats 400000 in
theorem aX11_ma1 {q : QS} {μ : gm_M} {h1 h0 : Int64} (hQ : CQ q μ) : ∀ (k_ n : Nat) (m : gm_M), 8 - n = k_ → n ≤ 8 → (FrR 25 42 μ m) → (∀ i, i < 240 → m.1 33 i = nI (qch q (i / 30) (i % 30) (qnum q))) → Go yX11_mixAll cX11_mixAll 6 (some .long) 5 47 [some (.ref 0), some (.long h0), none, some (.long (whl (dCh q) n h1)), none, some (.int (nI n))] [] m (fun r μ' => r = some (.long (mx (mx (mx (mx (mx (whl (dCh q) 8 h1) (sHush q).toInt64) (nI (saleC q)).toInt64) (sNever q).toInt64) (qsumT q 7 20).toInt64) (nI (qse q 7 20 (qnum q))).toInt64)) ∧ FrR 25 42 μ μ') := by
  intro k_
  induction k_ using Nat.strongRecOn with
  | ind k_ ih =>
    intro n m  hk_ hj hF ht
    refine go_il5 dX11_mixAll_47 (go_bipush (v := 8) dX11_mixAll_49 (by decide) ?_)
    refine go_cge 99 dX11_mixAll_51 (by decide) (fun h51 => ?_) (fun h51 => ?_)
    · have he : n = 8 := Nat.le_antisymm hj ((gm_bdN (by decide) (by decide) (by omega)).mp h51)
      subst he
      exact aX11_ma2 hQ hF _ _ _
    · have hlt : n < 8 := Nat.not_le.mp (fun zz => h51 ((gm_bdN (by decide) (by decide) (by omega)).mpr zz))
      refine go_al0 dX11_mixAll_54 (go_getR (j := 32) fX11_21 rfl rfl dX11_mixAll_55 (go_il5 dX11_mixAll_58 ?_))
      refine go_V1 mcX7_findChord mvX7_findChord kX11_189 rfl dX11_mixAll_60 rfl rfl (aX7_findChord hlt ht (fun i => Nat.lt_of_le_of_lt (qch_le q _ _ _) (by have := hQ.1.1; omega))) ?_
      rintro _ m60 ⟨rfl, hF60, hA60, hB60⟩
      refine go_ldc2 dX11_mixAll_63 nX11_327 (go_ll3 dX11_mixAll_66 (go_lmul dX11_mixAll_67 (go_al0 dX11_mixAll_68 (go_getR (j := 32) fX11_21 rfl rfl dX11_mixAll_69 (go_getI fX11_192 rfl rfl dX11_mixAll_72 (go_i2l dX11_mixAll_75 (go_ladd dX11_mixAll_76 (go_ls3 dX11_mixAll_77 rfl rfl (go_ldc2 dX11_mixAll_78 nX11_327 (go_ll3 dX11_mixAll_81 (go_lmul dX11_mixAll_82 (go_al0 dX11_mixAll_83 (go_getR (j := 32) fX11_21 rfl rfl dX11_mixAll_84 ?_)))))))))))))
      refine go_getI fX11_195 rfl rfl dX11_mixAll_87 (go_i2l dX11_mixAll_90 (go_ladd dX11_mixAll_91 (go_ls3 dX11_mixAll_92 rfl rfl (go_inc5 (k := 1) dX11_mixAll_93 (by decide) rfl rfl (go_goto 47 dX11_mixAll_96 (by decide) ?_)))))
      have e2 : bestF (fun n_1 => qch q ((30 * n + n_1) / 30) ((30 * n + n_1) % 30) (qnum q)) 30 = qchord q n := bestF_cong (fun x hx => by rw [show (30 * n + x) / 30 = n by omega, show (30 * n + x) % 30 = x by omega]) 30 (Nat.le_refl _)
      rw [nI_1, hA60, hB60, e2]
      exact ih (8 - (n + 1)) (by omega) (n + 1) _ rfl (by omega) (fun c hc => by rw [hF60 c (by omega)]; exact hF c hc) (fun i hi => by rw [hF60 33 (by decide)]; exact ht i hi)

set_option maxRecDepth 100000 in
set_option maxHeartbeats 400000 in
theorem a_mixAll {q : QS} {μ : gm_M} (hQ : CQ q μ) (h0 : Int64) : Sat yX11_mixAll cX11_mixAll 6 (some .long) 5 [(.ref 0), (.long h0)] μ (fun r μ' => r = some (.long (dA q h0)) ∧ FrR 25 42 μ μ') := by
  refine Sat.of (L := [some (.ref 0), some (.long h0), none, none, none, none]) (by decide) (fun _ => rfl) (fun _ => rfl) ?_
  refine go_al0 dX11_mixAll_0 (go_getR (j := 32) fX11_21 rfl rfl dX11_mixAll_1 ?_)
  refine go_V0 mcX7_findScream mvX7_findScream kX11_177 rfl dX11_mixAll_4 rfl rfl (aX7_findScream hQ) ?_
  rintro _ m4 ⟨rfl, hF4, hA4, hB4⟩
  refine go_ldc2 dX11_mixAll_7 nX11_327 (go_ll1 dX11_mixAll_10 (go_lmul dX11_mixAll_11 (go_al0 dX11_mixAll_12 (go_getR (j := 32) fX11_21 rfl rfl dX11_mixAll_13 (go_getI fX11_180 rfl rfl dX11_mixAll_16 (go_i2l dX11_mixAll_19 (go_ladd dX11_mixAll_20 (go_ls3 dX11_mixAll_21 rfl rfl (go_ldc2 dX11_mixAll_22 nX11_327 (go_ll3 dX11_mixAll_25 (go_lmul dX11_mixAll_26 (go_al0 dX11_mixAll_27 (go_getR (j := 32) fX11_21 rfl rfl dX11_mixAll_28 ?_)))))))))))))
  refine go_getI fX11_183 rfl rfl dX11_mixAll_31 (go_i2l dX11_mixAll_34 (go_ladd dX11_mixAll_35 (go_ls3 dX11_mixAll_36 rfl rfl (go_al0 dX11_mixAll_37 (go_getR (j := 32) fX11_21 rfl rfl dX11_mixAll_38 ?_)))))
  refine go_V0 mcX7_tallyLetters mvX7_tallyLetters kX11_186 rfl dX11_mixAll_41 rfl rfl (aX7_tallyLetters (hQ.frR hF4)) ?_
  rintro _ m41 ⟨rfl, hF41, ht41⟩
  refine go_ic0 dX11_mixAll_44 (go_is5 dX11_mixAll_45 rfl rfl ?_)
  rw [hA4, hB4]
  exact aX11_ma1 hQ _ 0 _ rfl (by decide) ((hF4.tr hF41).wide (by decide)) ht41

theorem FrR.inn {m m' : gm_M} (h : FrR 25 42 m m') : FrR 0 51 m m' := fun c hc => h c (by omega)
theorem sWarm_in {q : QS} {n : Nat} (h : n < 30) : sWarm q (nI n) = nI (qwa q n) := by
  unfold sWarm
  rw [if_pos (gnight_nI h), wN_nI (by omega)]
set_option maxRecDepth 100000 in
set_option maxHeartbeats 400000 in
theorem aX11_dg3 {r : RS} {μ : gm_M} {h1 : Int64} (hn8 : qnum (qof r) ≤ 8) : ∀ (k_ n : Nat) (m : gm_M), qnum (qof r) - n = k_ → n ≤ qnum (qof r) → (CA r m) → (FrR 0 51 μ m) → Go yX11_digest cX11_digest 4 (some .long) 6 92 [some (.ref 0), some (.long (whl (dW (qof r)) n h1)), none, some (.int (nI n))] [] m (fun r' μ' => r' = some (.long (dA (qof r) (whl (dW (qof r)) (qnum (qof r)) h1))) ∧ CA r μ' ∧ FrR 0 51 μ μ') := by
  intro k_
  induction k_ using Nat.strongRecOn with
  | ind k_ ih =>
    intro n m  hk_ hj hC hF
    refine go_il3 dX11_digest_92 (go_al0 dX11_digest_93 (go_getR (j := 1) fX11_12 rfl rfl dX11_digest_94 (go_getR (j := 6) fX11_78 rfl rfl dX11_digest_97 (go_getI fX11_308 rfl rfl dX11_digest_100 ?_))))
    refine go_cge 133 dX11_digest_103 (by decide) (fun h103 => ?_) (fun h103 => ?_)
    · have he : n = qnum (qof r) := Nat.le_antisymm hj ((gm_bdN hC.q.2.1 (by omega) (by omega)).mp h103)
      refine go_al0 dX11_digest_133 (go_ll1 dX11_digest_134 ?_)
      refine go_V1 mcX11_mixAll mvX11_mixAll kX11_351 rfl dX11_digest_135 rfl rfl (a_mixAll hC.q _) ?_
      rintro _ m135 ⟨rfl, hF135⟩
      refine go_lret dX11_digest_138 ?_
      subst he
      exact ⟨rfl, hC.fr hF135, hF.tr hF135.inn⟩
    · have hlt : n < qnum (qof r) := Nat.not_le.mp (fun zz => h103 ((gm_bdN hC.q.2.1 (by omega) (by omega)).mpr zz))
      refine go_al0 dX11_digest_106 (go_ll1 dX11_digest_107 (go_il3 dX11_digest_108 ?_))
      refine go_V2 mcX11_mixNights mvX11_mixNights kX11_341 rfl dX11_digest_109 rfl rfl (a_mixNights hC.q hlt _) ?_
      rintro _ m109 ⟨rfl, hF109⟩
      refine go_ls1 dX11_digest_112 rfl rfl (go_al0 dX11_digest_113 (go_ll1 dX11_digest_114 (go_il3 dX11_digest_115 ?_)))
      refine go_V2 mcX11_mixPlans mvX11_mixPlans kX11_345 rfl dX11_digest_116 rfl rfl (a_mixPlans (hC.fr hF109).q hlt _) ?_
      rintro _ m116 ⟨rfl, hF116⟩
      refine go_ls1 dX11_digest_119 rfl rfl (go_al0 dX11_digest_120 (go_ll1 dX11_digest_121 (go_il3 dX11_digest_122 ?_)))
      refine go_V2 mcX11_mixClues mvX11_mixClues kX11_348 rfl dX11_digest_123 rfl rfl (a_mixClues (hC.fr (hF109.tr hF116)).q hlt _) ?_
      rintro _ m123 ⟨rfl, hF123⟩
      refine go_ls1 dX11_digest_126 rfl rfl (go_inc3 (k := 1) dX11_digest_127 (by decide) rfl rfl (go_goto 92 dX11_digest_130 (by decide) ?_))
      rw [nI_1]
      exact ih (qnum (qof r) - (n + 1)) (by omega) (n + 1) _ rfl (by omega) (hC.fr ((hF109.tr hF116).tr hF123)) (hF.tr ((hF109.tr hF116).tr hF123).inn)

set_option maxRecDepth 100000 in
set_option maxHeartbeats 400000 in
theorem aX11_dg2 {r : RS} {μ : gm_M} {h1 : Int64} : ∀ (k_ n : Nat) (m : gm_M), 4 - n = k_ → n ≤ 4 → (CA r m) → (FrR 0 51 μ m) → Go yX11_digest cX11_digest 4 (some .long) 6 59 [some (.ref 0), some (.long (mixN (fun j => (nI (qwa (qof r) (dWn j))).toInt64) n h1)), none, some (.int (nI n))] [] m (fun r' μ' => r' = some (.long (dA (qof r) (whl (dW (qof r)) (qnum (qof r)) (mixN (fun j => (nI (qwa (qof r) (dWn j))).toInt64) 4 h1)))) ∧ CA r μ' ∧ FrR 0 51 μ μ') := by
  intro k_
  induction k_ using Nat.strongRecOn with
  | ind k_ ih =>
    intro n m  hk_ hj hC hF
    refine go_il3 dX11_digest_59 (go_gets0 fX11_335 dX11_digest_60 (go_slen0 dX11_digest_63 ?_))
    refine go_cge 90 dX11_digest_64 (by decide) (fun h64 => ?_) (fun h64 => ?_)
    · have he : n = 4 := Nat.le_antisymm hj ((gm_bdN (by decide) (by decide) (by omega)).mp h64)
      subst he
      refine go_ic0 dX11_digest_90 (go_is3 dX11_digest_91 rfl rfl ?_)
      exact aX11_dg3 hC.q.1.1 _ 0 _ rfl (Nat.zero_le _) hC hF
    · have hlt : n < 4 := Nat.not_le.mp (fun zz => h64 ((gm_bdN (by decide) (by decide) (by omega)).mpr zz))
      refine go_ldc2 dX11_digest_67 nX11_327 (go_ll1 dX11_digest_70 (go_lmul dX11_digest_71 (go_al0 dX11_digest_72 (go_gets0 fX11_335 dX11_digest_73 (go_il3 dX11_digest_76 (go_sald0 (vp_in_nI hlt (by decide)) dX11_digest_77 ?_))))))
      rw [(gm_W1_t hlt).1]
      refine go_V1 mcX11_warm mvX11_warm kX11_338 rfl dX11_digest_78 rfl rfl (p_warm hC.q _) ?_
      rintro _ m78 ⟨rfl, hF78⟩
      refine go_i2l dX11_digest_81 (go_ladd dX11_digest_82 (go_ls1 dX11_digest_83 rfl rfl (go_inc3 (k := 1) dX11_digest_84 (by decide) rfl rfl (go_goto 59 dX11_digest_87 (by decide) ?_))))
      rw [nI_1, sWarm_in (gm_W1_t hlt).2]
      exact ih (4 - (n + 1)) (by omega) (n + 1) _ rfl (by omega) (hC.fr hF78) (hF.tr hF78.inn)

set_option maxRecDepth 100000 in
set_option maxHeartbeats 400000 in
theorem aX11_dg1 {r : RS} {μ m : gm_M} (hC : CA r m) (hF : FrR 0 51 μ m) (h1 : Int64) (d3 : Option Value) : Go yX11_digest cX11_digest 4 (some .long) 6 31 [some (.ref 0), some (.long h1), none, d3] [] m (fun r' μ' => r' = some (.long (dA (qof r) (whl (dW (qof r)) (qnum (qof r)) (mixN (fun j => (nI (qwa (qof r) (dWn j))).toInt64) 4 (mx (mx h1 (oI (pres (ra0 r).1 (ra0 r).2).1).toInt64) (oI (cavF (ra1 r).1 (ra1 r).2)).toInt64))))) ∧ CA r μ' ∧ FrR 0 51 μ μ') := by
  refine go_ldc2 dX11_digest_31 nX11_327 (go_ll1 dX11_digest_34 (go_lmul dX11_digest_35 (go_al0 dX11_digest_36 (go_ic0 dX11_digest_37 ?_))))
  refine go_V1 mcX11_fault mvX11_fault kX11_332 rfl dX11_digest_38 rfl rfl (p_fault0 hC) ?_
  rintro _ m38 ⟨rfl, hC38, hF38⟩
  refine go_i2l dX11_digest_41 (go_ladd dX11_digest_42 (go_ls1 dX11_digest_43 rfl rfl (go_ldc2 dX11_digest_44 nX11_327 (go_ll1 dX11_digest_47 (go_lmul dX11_digest_48 (go_al0 dX11_digest_49 (go_ic1 dX11_digest_50 ?_)))))))
  refine go_V1 mcX11_fault mvX11_fault kX11_332 rfl dX11_digest_51 rfl rfl (p_fault1 hC38) ?_
  rintro _ m51 ⟨rfl, hC51, hF51⟩
  refine go_i2l dX11_digest_54 (go_ladd dX11_digest_55 (go_ls1 dX11_digest_56 rfl rfl (go_ic0 dX11_digest_57 (go_is3 dX11_digest_58 rfl rfl ?_))))
  exact aX11_dg2 _ 0 _ rfl (by decide) hC51 ((hF.tr hF38).tr hF51)
set_option maxRecDepth 100000 in
set_option maxHeartbeats 400000 in
theorem aX11_dg0 {r : RS} {μ : gm_M} : ∀ (k_ n : Nat) (m : gm_M), 8 - n = k_ → n ≤ 8 → (CA r m) → (FrR 0 51 μ m) → Go yX11_digest cX11_digest 4 (some .long) 6 6 [some (.ref 0), some (.long (mixN (fun j => (sCount r (nI j)).toInt64) n 17)), none, some (.int (nI n))] [] m (fun r' μ' => r' = some (.long (sDig r)) ∧ CA r μ' ∧ FrR 0 51 μ μ') := by
  intro k_
  induction k_ using Nat.strongRecOn with
  | ind k_ ih =>
    intro n m  hk_ hj hC hF
    refine go_il3 dX11_digest_6 (go_bipush (v := 7) dX11_digest_7 (by decide) ?_)
    refine go_cgt 31 dX11_digest_9 (by decide) (fun h9 => ?_) (fun h9 => ?_)
    · have he : n = 8 := Nat.le_antisymm hj ((gm_bdG (by decide) (by decide) (by decide) (by omega)).mp h9)
      subst he
      exact aX11_dg1 hC hF _ _
    · have hlt : n < 8 := Nat.not_le.mp (fun zz => h9 ((gm_bdG (by decide) (by decide) (by decide) (by omega)).mpr zz))
      refine go_ldc2 dX11_digest_12 nX11_327 (go_ll1 dX11_digest_15 (go_lmul dX11_digest_16 (go_al0 dX11_digest_17 (go_il3 dX11_digest_18 ?_))))
      refine go_V1 mcX11_count mvX11_count kX11_329 rfl dX11_digest_19 rfl rfl (p_count hC _) ?_
      rintro _ m19 ⟨rfl, hC19, hF19⟩
      refine go_i2l dX11_digest_22 (go_ladd dX11_digest_23 (go_ls1 dX11_digest_24 rfl rfl (go_inc3 (k := 1) dX11_digest_25 (by decide) rfl rfl (go_goto 6 dX11_digest_28 (by decide) ?_))))
      rw [nI_1]
      exact ih (8 - (n + 1)) (by omega) (n + 1) _ rfl (by omega) hC19 (hF.tr hF19)

set_option maxRecDepth 100000 in
set_option maxHeartbeats 400000 in
theorem p_digest {r : RS} {μ : gm_M} (hC : CA r μ) : Sat yX11_digest cX11_digest 4 (some .long) 6 [(.ref 0)] μ (fun r' μ' => r' = some (.long (sDig r)) ∧ CA r μ' ∧ FrR 0 51 μ μ') := by
  refine Sat.of (L := [some (.ref 0), none, none, none]) (by decide) (fun _ => rfl) (fun _ => rfl) ?_
  refine go_ldc2 dX11_digest_0 nX11_325 (go_ls1 dX11_digest_3 rfl rfl (go_ic0 dX11_digest_4 (go_is3 dX11_digest_5 rfl rfl ?_)))
  exact aX11_dg0 _ 0 _ rfl (by decide) hC (FrR.rf μ)

