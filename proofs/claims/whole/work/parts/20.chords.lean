/-! SURVEY: chords -/
theorem aHeard {t : TR} {μ : gm_M} (hR : RO t 30 μ) {n : Nat} (hn : n < 30) : Ret yX9_heardOn cX9_heardOn 2 (some .int) 1 [.ref 25, .int (nI n)] μ (some (.int (oI ((tm t n).map (tsn t))))) μ := by
  rw [← (hR.1 n hn).2.2.1, ← gi_nI (f := μ.1 30) hn (by decide) (-1)]
  exact sX9_heardOn (nI n) μ
/-- what is heard of the wheel k on night n -/
abbrev qhe (q : QS) (k n : Nat) : Option Nat := (tm (trof q 9 k) n).map (qsn q k)
theorem qhe_lt {q : QS} (h : qok q) {k n l : Nat} (hk : k < qnum q) (hl : qhe q k n = some l) : l < 8 := by
  unfold qhe at hl
  cases ho : tm (trof q 9 k) n with
  | none => rw [ho] at hl; cases hl
  | some m =>
    rw [ho] at hl
    cases hl
    exact (h.2.1 k hk).2.2.2.2 m (tm_lt ho)
/-- on how many of the first k wheels the letter l is heard on night n -/
def qch (q : QS) (l n : Nat) : Nat → Nat
  | 0 => 0
  | k + 1 => qch q l n k + (if qhe q k n = some l then 1 else 0)
theorem qch_le (q : QS) (l n k : Nat) : qch q l n k ≤ k := by
  induction k with
  | zero => exact Nat.le_refl 0
  | succ k ih => rw [qch]; split <;> omega
def tal (q : QS) (w n i : Nat) : Nat := qch q (i / 30) (i % 30) w + (if i % 30 < n ∧ qhe q w (i % 30) = some (i / 30) then 1 else 0)
theorem tal_0 (q : QS) (w i : Nat) : tal q w 0 i = qch q (i / 30) (i % 30) w := by unfold tal; rw [if_neg (by omega)]; rfl
theorem tal_30 (q : QS) (w i : Nat) : tal q w 30 i = qch q (i / 30) (i % 30) (w + 1) := by
  unfold tal
  have : i % 30 < 30 := Nat.mod_lt _ (by decide)
  rw [qch]
  by_cases c : qhe q w (i % 30) = some (i / 30)
  · rw [if_pos ⟨this, c⟩, if_pos c]
  · rw [if_neg (fun z => c z.2), if_neg c]
theorem tal_none {q : QS} {w n : Nat} (h : qhe q w n = none) (i : Nat) : tal q w (n + 1) i = tal q w n i := by
  unfold tal
  congr 1
  by_cases c : i % 30 < n ∧ qhe q w (i % 30) = some (i / 30)
  · rw [if_pos c, if_pos ⟨by omega, c.2⟩]
  · rw [if_neg c, if_neg]
    rintro ⟨z1, z2⟩
    apply c
    refine ⟨?_, z2⟩
    rcases Nat.lt_or_ge (i % 30) n with z | z
    · exact z
    · have e : i % 30 = n := by omega
      rw [e, h] at z2
      cases z2
theorem tal_some {q : QS} {w n l : Nat} (hn : n < 30) (h : qhe q w n = some l) (i : Nat) : tal q w (n + 1) i = if i = 30 * l + n then tal q w n i + 1 else tal q w n i := by
  unfold tal
  by_cases e : i = 30 * l + n
  · rw [if_pos e]
    have e1 : i % 30 = n := by omega
    have e2 : i / 30 = l := by omega
    rw [e1, e2, if_pos ⟨by omega, h⟩, if_neg (by omega)]
  · rw [if_neg e]
    congr 1
    by_cases c : i % 30 < n ∧ qhe q w (i % 30) = some (i / 30)
    · rw [if_pos c, if_pos ⟨by omega, c.2⟩]
    · rw [if_neg c, if_neg]
      rintro ⟨z1, z2⟩
      apply c
      refine ⟨?_, z2⟩
      rcases Nat.lt_or_ge (i % 30) n with z | z
      · exact z
      · exfalso
        have e1 : i % 30 = n := by omega
        rw [e1, h] at z2
        have e2 : l = i / 30 := by injection z2
        apply e
        omega
set_option maxRecDepth 100000 in
set_option maxHeartbeats 400000 in
theorem aX7_tal_in {q : QS} {μ mr : gm_M} {w : Nat} (hQ : CQ q μ) (hw : w < qnum q) (hR : RO (trof q 9 w) 30 mr) {Post : Option Value → gm_M → Prop} (K : ∀ (d3 d4 d5 : Option Value) (m : gm_M), FrR 33 33 mr m → (∀ i, i < 240 → m.1 33 i = nI (tal q w 30 i)) → Go yX7_tallyLetters cX7_tallyLetters 6 none 3 93 [some (.ref 32), some (.int (nI w)), some (.ref 25), d3, d4, d5] [] m Post) : ∀ (k n : Nat) (d4 d5 : Option Value) (m : gm_M), 30 - n = k → n ≤ 30 → FrR 33 33 mr m → (∀ i, i < 240 → m.1 33 i = nI (tal q w n i)) → Go yX7_tallyLetters cX7_tallyLetters 6 none 3 39 [some (.ref 32), some (.int (nI w)), some (.ref 25), some (.int (nI n)), d4, d5] [] m Post := by
  intro k
  induction k using Nat.strongRecOn with
  | ind k ih =>
    intro n d4 d5 m hk hj hF ht
    refine go_il3 dX7_tallyLetters_39 (go_bipush (v := 30) dX7_tallyLetters_40 (by decide) ?_)
    refine go_cge 93 dX7_tallyLetters_42 (by decide) (fun h42 => ?_) (fun h42 => ?_)
    · have he : n = 30 := Nat.le_antisymm hj ((gm_bdN (by decide) (by decide) (by omega)).mp h42)
      subst he
      exact K _ _ _ _ hF ht
    · have hlt : n < 30 := Nat.not_le.mp (fun z => h42 ((gm_bdN (by decide) (by decide) (by omega)).mpr z))
      refine go_al2 dX7_tallyLetters_45 (go_il3 dX7_tallyLetters_46 (go_V1r mcX9_heardOn mvX9_heardOn kX7_56 rfl dX7_tallyLetters_47 rfl rfl (aHeard ((show RO (trof q 9 w) 30 m from ⟨by rw [hF 28 (by decide), hF 29 (by decide), hF 30 (by decide), hF 31 (by decide)]; exact hR.1, by rw [hF 25 (by decide)]; exact hR.2⟩)) hlt) (go_is4 dX7_tallyLetters_50 rfl rfl (go_il4 dX7_tallyLetters_52 (go_bipush (v := 30) dX7_tallyLetters_54 (by decide) (go_imul dX7_tallyLetters_56 (go_il3 dX7_tallyLetters_57 (go_iadd dX7_tallyLetters_58 (go_is5 dX7_tallyLetters_59 rfl rfl (go_il4 dX7_tallyLetters_61 ?_))))))))))
      refine go_iflt 87 dX7_tallyLetters_63 (by decide) (fun h63 => ?_) (fun h63 => ?_)
      · refine go_inc3 (k := 1) dX7_tallyLetters_87 (by decide) rfl rfl (go_goto 39 dX7_tallyLetters_90 (by decide) ?_)
        have hl : qhe q w n = none := by
          cases hl : qhe q w n with
          | none => rfl
          | some l => exact absurd (show nI l < 0 from by rw [show (tm (trof q 9 w) n).map (tsn (trof q 9 w)) = some l from hl] at h63; exact h63) (nI_pos (by have := qhe_lt hQ.1 hw hl; omega))
        rw [nI_1]
        refine ih (30 - (n + 1)) (by omega) (n + 1) _ _ _ rfl (by omega) hF (fun i hi => ?_)
        rw [tal_none hl i, ht i hi]
      · obtain ⟨l, hl⟩ : ∃ l, qhe q w n = some l := by
          cases hl : qhe q w n with
          | none => exact absurd (show oI ((tm (trof q 9 w) n).map (tsn (trof q 9 w))) < 0 from by rw [show (tm (trof q 9 w) n).map (tsn (trof q 9 w)) = none from hl]; decide) h63
          | some l => exact ⟨l, rfl⟩
        have hl8 := qhe_lt hQ.1 hw hl
        have eI : oI ((tm (trof q 9 w) n).map (tsn (trof q 9 w))) * 30 + nI n = nI (30 * l + n) := by
          rw [show (tm (trof q 9 w) n).map (tsn (trof q 9 w)) = some l from hl, show (30 : Int32) = nI 30 from by decide]
          show nI l * nI 30 + nI n = _
          rw [pk_mul, nI_add, Nat.mul_comm]
        rw [eI]
        refine go_il5 dX7_tallyLetters_66 (go_al0 dX7_tallyLetters_68 (go_getR (j := 33) fX7_9 rfl rfl dX7_tallyLetters_69 (go_alenI rfl dX7_tallyLetters_72 ?_)))
        refine go_cge 87 dX7_tallyLetters_73 (by decide) (fun h73 => ?_) (fun h73 => ?_)
        · refine go_inc3 (k := 1) dX7_tallyLetters_87 (by decide) rfl rfl (go_goto 39 dX7_tallyLetters_90 (by decide) ?_)
          exact absurd h73 (nI_ge (by omega) (by decide))
        · refine go_al0 dX7_tallyLetters_76 (go_getR (j := 33) fX7_9 rfl rfl dX7_tallyLetters_77 (go_il5 dX7_tallyLetters_80 (go_dup2 dX7_tallyLetters_82 rfl rfl (go_iald rfl (vp_in_nI (by omega) (by decide)) dX7_tallyLetters_83 (go_ic1 dX7_tallyLetters_84 (go_iadd dX7_tallyLetters_85 (go_iast rfl (vp_in_nI (by omega) (by decide)) dX7_tallyLetters_86 (go_inc3 (k := 1) dX7_tallyLetters_87 (by decide) rfl rfl (go_goto 39 dX7_tallyLetters_90 (by decide) ?_)))))))))
          rw [nI_1, nI_clamp (by omega)]
          refine ih (30 - (n + 1)) (by omega) (n + 1) _ _ _ rfl (by omega) (hF.I _ _ (by decide) (by decide)) (fun i hi => ?_)
          rw [tal_some hlt hl i, gm_I1, if_pos rfl]
          by_cases c : i = 30 * l + n
          · rw [if_pos c, if_pos c, ht _ (by omega), nI_1, c]
          · rw [if_neg c, if_neg c, ht i hi]
set_option maxRecDepth 100000 in
set_option maxHeartbeats 400000 in
theorem aX7_tal_out {q : QS} {μ : gm_M} (hQ : CQ q μ) : ∀ (k w : Nat) (d2 d3 d4 d5 : Option Value) (m : gm_M), qnum q - w = k → w ≤ qnum q → FrR 25 33 μ m → (∀ i, i < 240 → m.1 33 i = nI (qch q (i / 30) (i % 30) w)) → Go yX7_tallyLetters cX7_tallyLetters 6 none 3 10 [some (.ref 32), some (.int (nI w)), d2, d3, d4, d5] [] m (fun r μ' => r = none ∧ FrR 25 33 μ μ' ∧ ∀ i, i < 240 → μ'.1 33 i = nI (qch q (i / 30) (i % 30) (qnum q))) := by
  have hn8 := hQ.1.1
  intro k
  induction k using Nat.strongRecOn with
  | ind k ih =>
    intro w d2 d3 d4 d5 m hk hj hF ht
    refine go_il1 dX7_tallyLetters_10 (go_al0 dX7_tallyLetters_11 (go_getR (j := 1) fX7_15 rfl rfl dX7_tallyLetters_12 (go_getR (j := 6) fX7_26 rfl rfl dX7_tallyLetters_15 (go_getI fX7_32 rfl rfl dX7_tallyLetters_18 ?_))))
    refine go_cge 99 dX7_tallyLetters_21 (by decide) (fun h21 => ?_) (fun h21 => ?_)
    · refine go_vret dX7_tallyLetters_99 ?_
      have he : w = qnum q := Nat.le_antisymm hj ((gm_bdN (hQ.frR hF).2.1 (by omega) (by omega)).mp h21)
      subst he
      exact ⟨rfl, hF, ht⟩
    · have hlt : w < qnum q := Nat.not_le.mp (fun z => h21 ((gm_bdN (hQ.frR hF).2.1 (by omega) (by omega)).mpr z))
      refine go_al0 dX7_tallyLetters_24 (go_getR (j := 1) fX7_15 rfl rfl dX7_tallyLetters_25 (go_il1 dX7_tallyLetters_28 ?_))
      refine go_V1 mcX1_begin mvX1_begin kX7_37 rfl dX7_tallyLetters_29 rfl rfl (aBegin (hQ.frR hF) hlt) ?_
      rintro _ m29 ⟨rfl, hT29, hF29⟩
      refine go_as2 dX7_tallyLetters_32 rfl rfl (go_al2 dX7_tallyLetters_33 ?_)
      refine go_V0 mcX9_run mvX9_run kX7_41 rfl dX7_tallyLetters_34 rfl rfl (aRun hT29) ?_
      rintro _ m34 ⟨rfl, hT34, hR34, hE34, hF34⟩
      refine go_ic0 dX7_tallyLetters_37 (go_is3 dX7_tallyLetters_38 rfl rfl ?_)
      have hS : FrR 25 33 μ m34 := (hF.f25 hF29 (by decide) (by decide)).f25 hF34 (by decide) (by decide)
      have ht0 : ∀ i, i < 240 → m34.1 33 i = nI (tal q w 0 i) := fun i hi => by rw [tal_0, hF34.1 33 (by decide), hF29.1 33 (by decide)]; exact ht i hi
      rw [← nI_0]
      refine aX7_tal_in hQ hlt hR34 ?_ _ 0 _ _ _ rfl (Nat.zero_le _) (FrR.rf _) ht0
      intro d3 d4 d5 m9 hF9 ht9
      refine go_inc1 (k := 1) dX7_tallyLetters_93 (by decide) rfl rfl (go_goto 10 dX7_tallyLetters_96 (by decide) ?_)
      rw [nI_1]
      refine ih (qnum q - (w + 1)) (by omega) (w + 1) _ _ _ _ _ rfl (by omega) (fun c hc => ?_) (fun i hi => ?_)
      · rw [hF9 c (by omega)]; exact hS c hc
      · rw [ht9 i hi, tal_30]
set_option maxRecDepth 100000 in
set_option maxHeartbeats 400000 in
theorem aX7_tallyLetters {q : QS} {μ : gm_M} (hQ : CQ q μ) : Sat yX7_tallyLetters cX7_tallyLetters 6 none 3 [(.ref 32)] μ (fun r μ' => r = none ∧ FrR 25 33 μ μ' ∧ ∀ i, i < 240 → μ'.1 33 i = nI (qch q (i / 30) (i % 30) (qnum q))) := by
  refine Sat.of (L := [some (.ref 32), none, none, none, none, none]) (by decide) (fun _ => rfl) (fun _ => rfl) ?_
  refine go_al0 dX7_tallyLetters_0 (go_getR (j := 33) fX7_9 rfl rfl dX7_tallyLetters_1 (go_ic0 dX7_tallyLetters_4 (go_S2v mcJ7_fill_53178 mvJ7_fill_53178 kX7_50 dX7_tallyLetters_5 rfl rfl (sJ7_fillI rfl (by decide) _ _) (go_ic0 dX7_tallyLetters_8 (go_is1 dX7_tallyLetters_9 rfl rfl ?_)))))
  refine aX7_tal_out hQ _ 0 _ _ _ _ _ rfl (Nat.zero_le _) (fun c hc => ?_) (fun i hi => ?_)
  · have : c ≠ 33 := by omega
    simp [gm_fill, gm_aI, this]
  · simp [gm_fill, gm_aI, hi, qch]
    exact nI_0.symm

/-- the best of the first n nights by f: the night and the number -/
def bestF (f : Nat → Nat) : Nat → Option (Nat × Nat)
  | 0 => none
  | n + 1 => match bestF f n with
    | none => if 0 < f n then some (n, f n) else none
    | some p => if p.2 < f n then some (n, f n) else some p
theorem bestF_lt (f : Nat → Nat) : ∀ {n : Nat} {p : Nat × Nat}, bestF f n = some p → p.1 < n ∧ p.2 = f p.1 ∧ 0 < p.2 := by
  intro n
  induction n with
  | zero => intro p h; cases h
  | succ n ih =>
    intro p h
    rw [bestF] at h
    cases hb : bestF f n with
    | none =>
      rw [hb] at h
      dsimp only at h
      split at h
      · cases h; exact ⟨by show n < n + 1; omega, rfl, by assumption⟩
      · cases h
    | some p0 =>
      rw [hb] at h
      dsimp only at h
      have h0 := ih hb
      split at h
      · cases h; exact ⟨by show n < n + 1; omega, rfl, by show 0 < f n; omega⟩
      · cases h; exact ⟨by omega, h0.2⟩
theorem bestF_step (f : Nat → Nat) (n : Nat) (hf : ∀ i, f i < 2 ^ 20) : (oI ((bestF f (n + 1)).map (·.1)) = if nI (f n) ≤ (if oI ((bestF f n).map (·.2)) < 0 then 0 else oI ((bestF f n).map (·.2))) then oI ((bestF f n).map (·.1)) else nI n) ∧ (oI ((bestF f (n + 1)).map (·.2)) = if nI (f n) ≤ (if oI ((bestF f n).map (·.2)) < 0 then 0 else oI ((bestF f n).map (·.2))) then oI ((bestF f n).map (·.2)) else nI (f n)) := by
  have hn := hf n
  rw [bestF]
  cases hb : bestF f n with
  | none =>
    rw [if_pos (show oI (Option.map (fun x : Nat × Nat => x.2) none) < 0 from by decide)]
    dsimp only
    by_cases c : 0 < f n
    · have e : ¬ nI (f n) ≤ 0 := nI_nle c (by omega)
      rw [if_pos c, if_neg e, if_neg e]; exact ⟨rfl, rfl⟩
    · have e : nI (f n) ≤ 0 := by rw [show f n = 0 by omega]; decide
      rw [if_neg c, if_pos e, if_pos e]; exact ⟨rfl, rfl⟩
  | some p =>
    have hp := bestF_lt f hb
    have hp2 := hf p.1
    rw [if_neg (show ¬ oI (Option.map (fun x : Nat × Nat => x.2) (some p)) < 0 from nI_pos (by show p.2 < _; omega))]
    have e3 : (nI (f n) ≤ oI (Option.map (fun x : Nat × Nat => x.2) (some p))) = (f n ≤ p.2) := propext (nI_leI (by omega) (by show p.2 < _; omega))
    dsimp only
    by_cases c : p.2 < f n
    · rw [if_pos c, if_neg (by rw [e3]; omega), if_neg (by rw [e3]; omega)]; exact ⟨rfl, rfl⟩
    · rw [if_neg c, if_pos (by rw [e3]; omega), if_pos (by rw [e3]; omega)]; exact ⟨rfl, rfl⟩
theorem aItemC {F : Nat → Nat} {μ m : gm_M} {l n : Nat} (hl : l < 8) (hn : n < 30) (h33 : m.1 33 = μ.1 33) (ht : ∀ i, i < 240 → μ.1 33 i = nI (F i)) : Ret yX11_itemOr cX11_itemOr 3 (some .int) 0 [.ref 33, .int (nI l * 30 + nI n), .int 0] m (some (.int (nI (F (30 * l + n))))) m := by
  have e : nI l * 30 + nI n = nI (30 * l + n) := by rw [show (30 : Int32) = nI 30 from by decide, pk_mul, nI_add, Nat.mul_comm]
  have := sX11_itemOr (c := 33) (n := 240) rfl (by decide) (nI l * 30 + nI n) 0 m
  rw [e, gi_nI (by omega) (by decide), h33, ht _ (by omega)] at this
  rw [e]
  exact this
set_option maxRecDepth 100000 in
set_option maxHeartbeats 400000 in
theorem aX7_ch_loop {F : Nat → Nat} {μ : gm_M} {l : Nat} (hl : l < 8) (ht : ∀ i, i < 240 → μ.1 33 i = nI (F i)) (hFs : ∀ i, F i < 2 ^ 20) : ∀ (k n : Nat) (d3 : Option Value) (m : gm_M), 30 - n = k → n ≤ 30 → FrR 32 32 μ m → m.1 32 4 = oI ((bestF (fun n => F (30 * l + n)) n).map (·.1)) → m.1 32 5 = oI ((bestF (fun n => F (30 * l + n)) n).map (·.2)) → Go yX7_findChord cX7_findChord 4 none 1 12 [some (.ref 32), some (.int (nI l)), some (.int (nI n)), d3] [] m (fun r μ' => r = none ∧ FrR 32 32 μ μ' ∧ μ'.1 32 4 = oI ((bestF (fun n => F (30 * l + n)) 30).map (·.1)) ∧ μ'.1 32 5 = oI ((bestF (fun n => F (30 * l + n)) 30).map (·.2))) := by
  intro k
  induction k using Nat.strongRecOn with
  | ind k ih =>
    intro n d3 m hk hj hF h4 h5
    refine go_il2 dX7_findChord_12 (go_bipush (v := 30) dX7_findChord_13 (by decide) ?_)
    refine go_cge 61 dX7_findChord_15 (by decide) (fun h15 => ?_) (fun h15 => ?_)
    · refine go_vret dX7_findChord_61 ?_
      have he : n = 30 := Nat.le_antisymm hj ((gm_bdN (by decide) (by decide) (by omega)).mp h15)
      subst he
      exact ⟨rfl, hF, h4, h5⟩
    · have hlt : n < 30 := Nat.not_le.mp (fun z => h15 ((gm_bdN (by decide) (by decide) (by omega)).mpr z))
      refine go_al0 dX7_findChord_18 (go_getR (j := 33) fX7_9 rfl rfl dX7_findChord_19 (go_il1 dX7_findChord_22 (go_bipush (v := 30) dX7_findChord_23 (by decide) (go_imul dX7_findChord_25 (go_il2 dX7_findChord_26 (go_iadd dX7_findChord_27 (go_ic0 dX7_findChord_28 (go_SN3r mcX11_itemOr mvX11_itemOr kX7_66 dX7_findChord_29 rfl rfl (aItemC hl hlt (hF 33 (by decide)) ht) (go_is3 dX7_findChord_32 rfl rfl (go_il3 dX7_findChord_33 (go_al0 dX7_findChord_34 (go_getI fX7_63 rfl rfl dX7_findChord_35 (go_ic0 dX7_findChord_38 ?_)))))))))))))
      refine go_max kX7_70 dX7_findChord_39 rfl rfl ?_
      refine go_cle 55 dX7_findChord_42 (by decide) (fun h42 => ?_) (fun h42 => ?_)
      · refine go_inc2 (k := 1) dX7_findChord_55 (by decide) rfl rfl (go_goto 12 dX7_findChord_58 (by decide) ?_)
        rw [nI_1]
        rw [h5] at h42
        refine ih (30 - (n + 1)) (by omega) (n + 1) _ _ rfl (by omega) hF ?_ ?_
        · rw [h4, (bestF_step (fun n => F (30 * l + n)) n (fun i => hFs _)).1, if_pos h42]
        · rw [h5, (bestF_step (fun n => F (30 * l + n)) n (fun i => hFs _)).2, if_pos h42]
      · refine go_al0 dX7_findChord_45 (go_il2 dX7_findChord_46 (go_putI fX7_60 rfl rfl dX7_findChord_47 (go_al0 dX7_findChord_50 (go_il3 dX7_findChord_51 (go_putI fX7_63 rfl rfl dX7_findChord_52 (go_inc2 (k := 1) dX7_findChord_55 (by decide) rfl rfl (go_goto 12 dX7_findChord_58 (by decide) ?_)))))))
        rw [nI_1]
        rw [h5] at h42
        refine ih (30 - (n + 1)) (by omega) (n + 1) _ _ rfl (by omega) ((hF.I 4 _ (by decide) (by decide)).I 5 _ (by decide) (by decide)) ?_ ?_
        · rw [gm_Io _ _ _ (by decide), gm_Is, (bestF_step (fun n => F (30 * l + n)) n (fun i => hFs _)).1, if_neg h42]
        · rw [gm_Is, (bestF_step (fun n => F (30 * l + n)) n (fun i => hFs _)).2, if_neg h42]
set_option maxRecDepth 100000 in
set_option maxHeartbeats 400000 in
theorem aX7_findChord {F : Nat → Nat} {μ : gm_M} {l : Nat} (hl : l < 8) (ht : ∀ i, i < 240 → μ.1 33 i = nI (F i)) (hFs : ∀ i, F i < 2 ^ 20) : Sat yX7_findChord cX7_findChord 4 none 1 [(.ref 32), (.int (nI l))] μ (fun r μ' => r = none ∧ FrR 32 32 μ μ' ∧ μ'.1 32 4 = oI ((bestF (fun n => F (30 * l + n)) 30).map (·.1)) ∧ μ'.1 32 5 = oI ((bestF (fun n => F (30 * l + n)) 30).map (·.2))) := by
  refine Sat.of (L := [some (.ref 32), some (.int (nI l)), none, none]) (by decide) (fun _ => rfl) (fun _ => rfl) ?_
  refine go_al0 dX7_findChord_0 (go_icm1 dX7_findChord_1 (go_putI fX7_60 rfl rfl dX7_findChord_2 (go_al0 dX7_findChord_5 (go_icm1 dX7_findChord_6 (go_putI fX7_63 rfl rfl dX7_findChord_7 (go_ic0 dX7_findChord_10 (go_is2 dX7_findChord_11 rfl rfl ?_)))))))
  exact aX7_ch_loop hl ht hFs _ 0 _ _ rfl (Nat.zero_le _) (((FrR.rf μ).I 4 _ (by decide) (by decide)).I 5 _ (by decide) (by decide)) (by rw [gm_Io _ _ _ (by decide), gm_Is]; rfl) (by rw [gm_Is]; rfl)

