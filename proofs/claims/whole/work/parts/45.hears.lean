/-! THE MODEL: scream, chord, hush, the eaten -/
def scN : Option (Nat × Nat) → Nat
  | none => 30
  | some p => p.1
theorem scN_le (q : QS) (k : Nat) : scN (qscr q k) ≤ 30 := by
  cases h : qscr q k with
  | none => exact Nat.le_refl 30
  | some p => have := qscr_lt q h; show p.1 ≤ 30; omega
theorem qscr_none {q : QS} {k : Nat} (h : ∀ i, i < scN (qscr q k) → tscr (trof q 9 k) i = false) : qscr q (k + 1) = qscr q k := by
  rw [qscr]
  cases hf : firstN (tscr (trof q 9 k)) 30 0 with
  | none => rfl
  | some n =>
    obtain ⟨h1, h2, h3⟩ := firstN_lt hf
    cases hq : qscr q k with
    | none => rw [hq] at h; have := h n (by show n < 30; omega); rw [h3] at this; cases this
    | some p =>
      rw [hq] at h
      by_cases z : n < p.1
      · have := h n z; rw [h3] at this; cases this
      · show (if n < p.1 then _ else _) = _
        rw [if_neg z]
theorem qscr_some {q : QS} {k n : Nat} (hn : n < scN (qscr q k)) (h : ∀ i, i < n → tscr (trof q 9 k) i = false) (h1 : tscr (trof q 9 k) n = true) : qscr q (k + 1) = some (n, k) := by
  have hle := scN_le q k
  have hf : firstN (tscr (trof q 9 k)) 30 0 = some n := by
    have := firstN_some (p := tscr (trof q 9 k)) 30 0 n (by omega) (fun i hi => by rw [Nat.zero_add]; exact h i hi) (by rw [Nat.zero_add]; exact h1)
    rw [Nat.zero_add] at this; exact this
  rw [qscr, hf]
  cases hq : qscr q k with
  | none => rfl
  | some p =>
    rw [hq] at hn
    have hn : n < p.1 := hn
    show (if n < p.1 then _ else _) = _
    rw [if_pos hn]
theorem scW_none {q : QS} {k : Nat} (hk : k ≤ 2 ^ 20) (h : oI ((qscr q k).map (·.2)) = -1) : qscr q k = none := by
  cases hq : qscr q k with
  | none => rfl
  | some p =>
    rw [hq] at h
    have := qscr_lt q hq
    exact absurd h (nI_ne_m1 (by show p.2 < _; omega))
theorem tscr_no {t : TR} {n : Nat} (h : tm t n = none) : tscr t n = false := by unfold tscr; rw [h]
theorem tscr_cell {t : TR} (ht : tok t) {n : Nat} (h1 : ¬ oI ((tm t n).map (tsn t)) = -1) : tscr t n = decide (¬ oI ((tm t n).map (tsn t)) < nI (tsh t)) := by
  unfold tscr
  cases h : tm t n with
  | none => rw [h] at h1; exact absurd rfl h1
  | some m =>
    have hm := tm_lt h
    have h8 := ht.2.2.2.2.2.2.2.1 m hm
    have hs := ht.2.2.2.2.2.2.1
    show tsc t m = decide (¬ nI (tsn t m) < nI (tsh t))
    have e : (nI (tsn t m) < nI (tsh t)) = (tsn t m < tsh t) := propext (nI_ltI (by omega) (by omega))
    unfold tsc
    simp [e, hm]
def scrA (q : QS) (x : Int32) : Int32 := if x = 0 then oI ((qscr q (qnum q)).map (·.1)) else oI ((qscr q (qnum q)).map (·.2))
theorem sScream_g (q : QS) (x : Int32) : sScream q x = if gin x 0 1 = true then scrA q x else -2 := by
  unfold sScream scrA; rw [ite_gin]
set_option maxRecDepth 100000 in
set_option maxHeartbeats 400000 in
theorem mSc_found {n k : Nat} {x : Int32} {m : gm_M} {Post : Option Value → gm_M → Prop} (hn : n < 2 ^ 20) (K : Go yX12_screamOf cX12_screamOf 6 (some .int) 7 12 [some (.ref 52), some (.int x), some (.int (nI n)), some (.int (nI k)), some (.int (nI (k + 1))), some (.int (nI (n + 1)))] [] m Post) : Go yX12_screamOf cX12_screamOf 6 (some .int) 7 30 [some (.ref 52), some (.int x), some (.int (nI n)), some (.int (nI k)), some (.int (nI k)), some (.int (nI (n + 1)))] [] m Post := by
  refine go_il5 dX12_screamOf_30 (go_il2 dX12_screamOf_32 ?_)
  refine go_cge 73 dX12_screamOf_33 (by decide) (fun h33 => ?_) (fun h33 => ?_)
  · refine go_inc4 (k := 1) dX12_screamOf_73 (by decide) rfl rfl (go_goto 12 dX12_screamOf_76 (by decide) ?_)
    rw [nI_1]
    exact K
  · exact absurd ((nI_leI (by omega) (by omega)).mpr (Nat.le_succ n)) h33
set_option maxRecDepth 100000 in
set_option maxHeartbeats 400000 in
theorem mSc_in {q : QS} {k : Nat} {x : Int32} {m : gm_M} {Post : Option Value → gm_M → Prop} (ht : tok (trof q 9 k)) (h10 : m.1 52 10 = nI (tsh (trof q 9 k))) (hO : MO (trof q 9 k) 30 m) (K : ∀ d5 : Option Value, Go yX12_screamOf cX12_screamOf 6 (some .int) 7 12 [some (.ref 52), some (.int x), some (.int (nI (scN (qscr q (k + 1))))), some (.int (oI ((qscr q (k + 1)).map (·.2)))), some (.int (nI (k + 1))), d5] [] m Post) : ∀ (k_ n : Nat), scN (qscr q k) - n = k_ → n ≤ scN (qscr q k) → (∀ i, i < n → tscr (trof q 9 k) i = false) → Go yX12_screamOf cX12_screamOf 6 (some .int) 7 30 [some (.ref 52), some (.int x), some (.int (nI (scN (qscr q k)))), some (.int (oI ((qscr q k).map (·.2)))), some (.int (nI k)), some (.int (nI n))] [] m (Post) := by
  have hle30 := scN_le q k
  intro k_
  induction k_ using Nat.strongRecOn with
  | ind k_ ih =>
    intro n  hk_ hj hno
    refine go_il5 dX12_screamOf_30 (go_il2 dX12_screamOf_32 ?_)
    refine go_cge 73 dX12_screamOf_33 (by decide) (fun h33 => ?_) (fun h33 => ?_)
    · have he : n = scN (qscr q k) := Nat.le_antisymm hj ((gm_bdN rfl (by omega) (by omega)).mp h33)
      refine go_inc4 (k := 1) dX12_screamOf_73 (by decide) rfl rfl (go_goto 12 dX12_screamOf_76 (by decide) ?_)
      subst he
      have e7 := qscr_none hno
      have h9 := K (some (.int (nI (scN (qscr q k)))))
      rw [e7] at h9
      rw [nI_1]
      exact h9
    · have hlt : n < scN (qscr q k) := Nat.not_le.mp (fun zz => h33 ((gm_bdN rfl (by omega) (by omega)).mpr zz))
      refine go_al0 dX12_screamOf_36 (go_getR (j := 66) fX12_49 rfl rfl dX12_screamOf_37 (go_il5 dX12_screamOf_40 (go_iald rfl (vp_in_nI (show n < 30 by omega) (by decide)) dX12_screamOf_42 ?_)))
      rw [nI_clamp (show n < 2 ^ 31 by omega), (hO n (by omega)).2.1]
      refine go_icm1 dX12_screamOf_43 ?_
      refine go_ceq 67 dX12_screamOf_44 (by decide) (fun h44 => ?_) (fun h44 => ?_)
      · refine go_inc5 (k := 1) dX12_screamOf_67 (by decide) rfl rfl (go_goto 30 dX12_screamOf_70 (by decide) ?_)
        have e9 : tscr (trof q 9 k) n = false := tscr_no ((heard_none ht).mp h44)
        rw [nI_1]
        refine ih (scN (qscr q k) - (n + 1)) (by omega) (n + 1) rfl (by omega) (fun i hi => ?_)
        by_cases z : i = n
        · rw [z]; exact e9
        · exact hno i (by omega)
      · refine go_al0 dX12_screamOf_47 (go_getR (j := 66) fX12_49 rfl rfl dX12_screamOf_48 (go_il5 dX12_screamOf_51 (go_iald rfl (vp_in_nI (show n < 30 by omega) (by decide)) dX12_screamOf_53 ?_)))
        rw [nI_clamp (show n < 2 ^ 31 by omega), (hO n (by omega)).2.1]
        refine go_al0 dX12_screamOf_54 (go_getI fX12_99 rfl rfl dX12_screamOf_55 ?_)
        rw [h10]
        refine go_clt 67 dX12_screamOf_58 (by decide) (fun h58 => ?_) (fun h58 => ?_)
        · refine go_inc5 (k := 1) dX12_screamOf_67 (by decide) rfl rfl (go_goto 30 dX12_screamOf_70 (by decide) ?_)
          have e8 := tscr_cell ht h44
          have e9 : tscr (trof q 9 k) n = false := by rw [e8]; exact decide_eq_false (not_not_intro h58)
          rw [nI_1]
          refine ih (scN (qscr q k) - (n + 1)) (by omega) (n + 1) rfl (by omega) (fun i hi => ?_)
          by_cases z : i = n
          · rw [z]; exact e9
          · exact hno i (by omega)
        · refine go_il5 dX12_screamOf_61 (go_is2 dX12_screamOf_63 rfl rfl (go_il4 dX12_screamOf_64 (go_is3 dX12_screamOf_66 rfl rfl (go_inc5 (k := 1) dX12_screamOf_67 (by decide) rfl rfl (go_goto 30 dX12_screamOf_70 (by decide) ?_)))))
          have e8 := tscr_cell ht h44
          have e9 : tscr (trof q 9 k) n = true := by rw [e8]; exact decide_eq_true h58
          have e7 := qscr_some hlt hno e9
          have h9 := K (some (.int (nI (n + 1))))
          rw [e7] at h9
          rw [nI_1]
          exact mSc_found (by omega) h9

set_option maxRecDepth 100000 in
set_option maxHeartbeats 400000 in
theorem mSc_loop {r : RS} {μ : gm_M} {x : Int32} (hn8 : qnum (qof r) ≤ 8) : ∀ (k_ k : Nat) (d5 : Option Value) (m : gm_M), qnum (qof r) - k = k_ → k ≤ qnum (qof r) → (RDp r μ m) → (WN (qwa (qof r)) m) → Go yX12_screamOf cX12_screamOf 6 (some .int) 7 12 [some (.ref 52), some (.int x), some (.int (nI (scN (qscr (qof r) k)))), some (.int (oI ((qscr (qof r) k).map (·.2)))), some (.int (nI k)), d5] [] m (fun r' μ' => r' = some (.int (scrA (qof r) x)) ∧ RDp r μ μ') := by
  intro k_
  induction k_ using Nat.strongRecOn with
  | ind k_ ih =>
    intro k d5  m  hk_ hj hR hW
    refine go_il4 dX12_screamOf_12 (go_al0 dX12_screamOf_14 (go_getI fX12_119 rfl rfl dX12_screamOf_15 ?_))
    refine go_cge 79 dX12_screamOf_18 (by decide) (fun h18 => ?_) (fun h18 => ?_)
    · have he : k = qnum (qof r) := Nat.le_antisymm hj ((gm_bdN hR.1.2.1 (by omega) (by omega)).mp h18)
      refine go_il3 dX12_screamOf_79 (go_icm1 dX12_screamOf_80 ?_)
      refine go_cne 88 dX12_screamOf_81 (by decide) (fun h81 => ?_) (fun h81 => ?_)
      · refine go_il1 dX12_screamOf_88 ?_
        refine go_ifne 96 dX12_screamOf_89 (by decide) (fun h89 => ?_) (fun h89 => ?_)
        · refine go_il3 dX12_screamOf_96 ?_
          refine go_iret dX12_screamOf_97 ?_
          subst he
          refine ⟨?_, hR⟩
          unfold scrA
          rw [if_neg h89]
        · refine go_il2 dX12_screamOf_92 (go_goto 97 dX12_screamOf_93 (by decide) ?_)
          refine go_iret dX12_screamOf_97 ?_
          subst he
          refine ⟨?_, hR⟩
          unfold scrA
          rw [if_pos h89]
          cases hS : qscr (qof r) (qnum (qof r)) with
          | none => rw [hS] at h81; exact absurd rfl h81
          | some p => rfl
      · refine go_icm1 dX12_screamOf_84 (go_goto 97 dX12_screamOf_85 (by decide) ?_)
        refine go_iret dX12_screamOf_97 ?_
        subst he
        refine ⟨?_, hR⟩
        unfold scrA
        rw [scW_none (by omega) h81]
        split <;> rfl
    · have hlt : k < qnum (qof r) := Nat.not_le.mp (fun zz => h18 ((gm_bdN hR.1.2.1 (by omega) (by omega)).mpr zz))
      refine go_al0 dX12_screamOf_21 (go_il4 dX12_screamOf_22 ?_)
      refine go_V1 mcX12_runs mvX12_runs kX12_193 rfl dX12_screamOf_24 rfl rfl (mRuns hR.1 hlt hW) ?_
      rintro _ m24 ⟨rfl, hF24, hO24⟩
      refine go_ic0 dX12_screamOf_27 (go_is5 dX12_screamOf_28 rfl rfl ?_)
      rw [← nI_0]
      exact mSc_in (trof_ok hR.1.1 hlt) (by rw [hF24.2 10 (by decide)]; exact hR.1.2.2.2.2.1.2) hO24 (fun d5 => ih (qnum (qof r) - (k + 1)) (by omega) (k + 1) d5 _ rfl (by omega) (hR.fl hF24.rl) (hW.fr hF24)) _ 0 rfl (Nat.zero_le _) (fun i hi => absurd hi (Nat.not_lt_zero i))

set_option maxRecDepth 100000 in
set_option maxHeartbeats 400000 in
theorem mScreamOf {r : RS} {μ : gm_M} (hA : MA r μ) (x : Int32) : Sat yX12_screamOf cX12_screamOf 6 (some .int) 7 [(.ref 52), (.int x)] μ (fun r' μ' => r' = some (.int (scrA (qof r) x)) ∧ RDp r μ μ') := by
  refine Sat.of (L := [some (.ref 52), some (.int x), none, none, none, none]) (by decide) (fun _ => rfl) (fun _ => rfl) ?_
  refine go_al0 dX12_screamOf_0 ?_
  refine go_V0 mcX12_asTold mvX12_asTold kX12_190 rfl dX12_screamOf_1 rfl rfl (mAsTold hA) ?_
  rintro _ m1 ⟨rfl, hR1, hW1⟩
  refine go_bipush (v := 30) dX12_screamOf_4 (by decide) (go_is2 dX12_screamOf_6 rfl rfl (go_icm1 dX12_screamOf_7 (go_is3 dX12_screamOf_8 rfl rfl (go_ic0 dX12_screamOf_9 (go_is4 dX12_screamOf_10 rfl rfl ?_)))))
  rw [← nI_0]
  exact mSc_loop hR1.1.1.1 _ 0 _ _ rfl (Nat.zero_le _) hR1 hW1

set_option maxRecDepth 100000 in
set_option maxHeartbeats 400000 in
theorem m_scream {r : RS} {μ : gm_M} (hA : MA r μ) (x : Int32) : Sat yX12_scream cX12_scream 2 (some .int) 8 [(.ref 52), (.int x)] μ (fun r' μ' => r' = some (.int (sScream (qof r) x)) ∧ FX lQ fQ μ μ') := by
  refine Sat.of (L := [some (.ref 52), some (.int x)]) (by decide) (fun _ => rfl) (fun _ => rfl) ?_
  refine go_il1 dX12_scream_0 (go_ic0 dX12_scream_1 (go_ic1 dX12_scream_2 (go_S3r mcX12_in mvX12_in kX12_104 dX12_scream_3 rfl rfl (sX12_in _ _ _ _) ?_)))
  refine go_ifeqB 17 dX12_scream_6 (by decide) (fun h6 => ?_) (fun h6 => ?_)
  · refine go_bipush (v := -2) dX12_scream_17 (by decide) ?_
    refine go_iret dX12_scream_19 ?_
    exact ⟨by rw [sScream_g, if_neg (gf h6)], FX.rf μ⟩
  · refine go_al0 dX12_scream_9 (go_il1 dX12_scream_10 ?_)
    refine go_V1 mcX12_screamOf mvX12_screamOf kX12_209 rfl dX12_scream_11 rfl rfl (mScreamOf hA x) ?_
    rintro _ m11 ⟨rfl, hR11⟩
    refine go_goto 19 dX12_scream_14 (by decide) ?_
    refine go_iret dX12_scream_19 ?_
    exact ⟨by rw [sScream_g, if_pos h6], hR11.2.2⟩

def bfM (f : Nat → Nat) (n : Nat) : Nat := match bestF f n with
  | none => 0
  | some p => p.2
theorem bfM_le {f : Nat → Nat} {B : Nat} (h : ∀ i, f i ≤ B) (n : Nat) : bfM f n ≤ B := by
  unfold bfM
  cases hb : bestF f n with
  | none => exact Nat.zero_le _
  | some p => have := bestF_lt f hb; show p.2 ≤ B; rw [this.2.1]; exact h _
theorem bestF_keep {f : Nat → Nat} {n : Nat} (h : f n ≤ bfM f n) : bestF f (n + 1) = bestF f n ∧ bfM f (n + 1) = bfM f n := by
  have e : bestF f (n + 1) = bestF f n := by
    rw [bestF]
    unfold bfM at h
    cases hb : bestF f n with
    | none => rw [hb] at h; have h : f n ≤ 0 := h; show (if 0 < f n then _ else _) = _; rw [if_neg (by omega)]
    | some p => rw [hb] at h; have h : f n ≤ p.2 := h; show (if p.2 < f n then _ else _) = _; rw [if_neg (by omega)]
  exact ⟨e, by unfold bfM; rw [e]⟩
theorem bestF_new {f : Nat → Nat} {n : Nat} (h : ¬ f n ≤ bfM f n) : bestF f (n + 1) = some (n, f n) ∧ bfM f (n + 1) = f n := by
  have e : bestF f (n + 1) = some (n, f n) := by
    rw [bestF]
    unfold bfM at h
    cases hb : bestF f n with
    | none => rw [hb] at h; have h : ¬ f n ≤ 0 := h; show (if 0 < f n then _ else _) = _; rw [if_pos (by omega)]
    | some p => rw [hb] at h; have h : ¬ f n ≤ p.2 := h; show (if p.2 < f n then _ else _) = _; rw [if_pos (by omega)]
  exact ⟨e, by unfold bfM; rw [e]⟩
def chA (q : QS) (l : Nat) (x : Int32) : Int32 := if x = 0 then oI ((qchord q l).map (·.1)) else oI ((qchord q l).map (·.2))
theorem sChord_g (q : QS) (l x : Int32) : sChord q l x = if gin l 0 7 = true then (if gin x 0 1 = true then chA q (wN l) x else -2) else -2 := by
  unfold sChord chA
  rw [ite_gin, ← ite_gin2 (x := l)]
  have e : (8 ≤ l) = (7 < l) := propext (by
    rw [Int32.lt_iff_toInt_lt, Int32.le_iff_toInt_le]
    have e1 : (8 : Int32).toInt = 8 := by decide
    have e2 : (7 : Int32).toInt = 7 := by decide
    rw [e1, e2]; omega)
  simp only [e]
def chI (q : QS) (l k n i : Nat) : Nat := qch q l i k + (if i < n ∧ qhe q k i = some l then 1 else 0)
theorem chI_0 (q : QS) (l k i : Nat) : chI q l k 0 i = qch q l i k := by unfold chI; rw [if_neg (by omega)]; rfl
theorem chI_30 (q : QS) (l k : Nat) {i : Nat} (hi : i < 30) : chI q l k 30 i = qch q l i (k + 1) := by
  unfold chI; rw [qch]
  by_cases z : qhe q k i = some l
  · rw [if_pos ⟨hi, z⟩, if_pos z]
  · rw [if_neg (fun y => z y.2), if_neg z]
theorem chI_s (q : QS) (l k n i : Nat) : chI q l k (n + 1) i = chI q l k n i + (if i = n ∧ qhe q k n = some l then 1 else 0) := by
  unfold chI
  by_cases z : qhe q k i = some l
  · by_cases y : i = n
    · subst y; rw [if_pos ⟨by omega, z⟩, if_neg (by omega), if_pos ⟨rfl, z⟩]
    · rw [if_neg (fun h : i = n ∧ _ => y h.1)]
      by_cases x : i < n
      · rw [if_pos ⟨by omega, z⟩, if_pos ⟨x, z⟩]
      · rw [if_neg (by omega), if_neg (by omega)]
  · rw [if_neg (fun h => z h.2), if_neg (fun h => z h.2), if_neg (fun h : i = n ∧ _ => z (h.1 ▸ h.2))]
theorem heard_eq {q : QS} (hq : qok q) {k : Nat} (hk : k < qnum q) {n l : Nat} (hl : l < 8) : oI ((tm (trof q 9 k) n).map (tsn (trof q 9 k))) = nI l ↔ qhe q k n = some l := by
  refine oI_eq (fun j hj => ?_) (by omega)
  have := qhe_lt hq hk hj
  omega
set_option maxRecDepth 100000 in
set_option maxHeartbeats 400000 in
theorem mCh_loop3 {r : RS} {μ m : gm_M} {l : Nat} {x : Int32} {lv : Int32} (hn8 : qnum (qof r) ≤ 8) (hR : RDp r μ m) (h68 : ∀ i, i < 30 → m.1 68 i = nI (qch (qof r) l i (qnum (qof r)))) : ∀ (k_ n : Nat), 30 - n = k_ → n ≤ 30 → Go yX12_chordOf cX12_chordOf 6 (some .int) 7 96 [some (.ref 52), some (.int lv), some (.int x), some (.int (oI ((bestF (fun n => qch (qof r) l n (qnum (qof r))) n).map (·.1)))), some (.int (nI (bfM (fun n => qch (qof r) l n (qnum (qof r))) n))), some (.int (nI n))] [] m (fun r' μ' => r' = some (.int (chA (qof r) l x)) ∧ RDp r μ μ') := by
  intro k_
  induction k_ using Nat.strongRecOn with
  | ind k_ ih =>
    intro n  hk_ hj 
    refine go_il5 dX12_chordOf_96 (go_bipush (v := 30) dX12_chordOf_98 (by decide) ?_)
    refine go_cge 154 dX12_chordOf_100 (by decide) (fun h100 => ?_) (fun h100 => ?_)
    · have he : n = 30 := Nat.le_antisymm hj ((gm_bdN (by decide) (by decide) (by omega)).mp h100)
      refine go_il3 dX12_chordOf_154 (go_icm1 dX12_chordOf_155 ?_)
      refine go_ceq 163 dX12_chordOf_156 (by decide) (fun h156 => ?_) (fun h156 => ?_)
      · refine go_il3 dX12_chordOf_163 (go_goto 169 dX12_chordOf_164 (by decide) ?_)
        refine go_iret dX12_chordOf_169 ?_
        subst he
        refine ⟨?_, hR⟩
        have e0 : qchord (qof r) l = none := by
          cases hS : qchord (qof r) l with
          | none => rfl
          | some p =>
            have hp := bestF_lt _ hS
            unfold qchord at hS
            rw [hS] at h156
            exact absurd h156 (nI_ne_m1 (by show p.1 < _; omega))
        unfold chA
        have e1 := e0
        unfold qchord at e1
        rw [e0, e1]
        split <;> rfl
      · refine go_il2 dX12_chordOf_159 ?_
        refine go_ifne 167 dX12_chordOf_160 (by decide) (fun h160 => ?_) (fun h160 => ?_)
        · refine go_il4 dX12_chordOf_167 ?_
          refine go_iret dX12_chordOf_169 ?_
          subst he
          refine ⟨?_, hR⟩
          rw [chA, if_neg h160]
          unfold qchord bfM
          cases hS : bestF (fun n => qch (qof r) l n (qnum (qof r))) 30 with
          | none => rw [hS] at h156; exact absurd rfl h156
          | some p => rfl
        · refine go_il3 dX12_chordOf_163 (go_goto 169 dX12_chordOf_164 (by decide) ?_)
          refine go_iret dX12_chordOf_169 ?_
          subst he
          exact ⟨by rw [chA, if_pos h160]; rfl, hR⟩
    · have hlt : n < 30 := Nat.not_le.mp (fun zz => h100 ((gm_bdN (by decide) (by decide) (by omega)).mpr zz))
      refine go_al0 dX12_chordOf_103 (go_getR (j := 68) fX12_55 rfl rfl dX12_chordOf_104 (go_il5 dX12_chordOf_107 (go_iald rfl (vp_in_nI hlt (by decide)) dX12_chordOf_109 ?_)))
      rw [nI_clamp (show n < 2 ^ 31 by omega), h68 n hlt]
      refine go_il4 dX12_chordOf_110 ?_
      refine go_cle 120 dX12_chordOf_112 (by decide) (fun h112 => ?_) (fun h112 => ?_)
      · refine go_il3 dX12_chordOf_120 (go_is3 dX12_chordOf_121 rfl rfl (go_al0 dX12_chordOf_122 (go_getR (j := 68) fX12_55 rfl rfl dX12_chordOf_123 (go_il5 dX12_chordOf_126 (go_iald rfl (vp_in_nI hlt (by decide)) dX12_chordOf_128 ?_)))))
        rw [nI_clamp (show n < 2 ^ 31 by omega), h68 n hlt]
        refine go_il4 dX12_chordOf_129 ?_
        refine go_cle 144 dX12_chordOf_131 (by decide) (fun h131 => ?_) (fun h131 => ?_)
        · refine go_il4 dX12_chordOf_144 (go_is4 dX12_chordOf_146 rfl rfl (go_inc5 (k := 1) dX12_chordOf_148 (by decide) rfl rfl (go_goto 96 dX12_chordOf_151 (by decide) ?_)))
          have hf8 := qch_le (qof r) l n (qnum (qof r))
          have hb8 := bfM_le (f := fun n => qch (qof r) l n (qnum (qof r))) (B := 8) (fun i => Nat.le_trans (qch_le _ _ _ _) hn8) n
          have e9 := bestF_keep (f := fun n => qch (qof r) l n (qnum (qof r))) ((nI_leI (by omega) (by omega)).mp h112)
          rw [nI_1, ← e9.1, ← e9.2]
          exact ih (30 - (n + 1)) (by omega) (n + 1) rfl (by omega)
        · refine go_al0 dX12_chordOf_134 (go_getR (j := 68) fX12_55 rfl rfl dX12_chordOf_135 (go_il5 dX12_chordOf_138 (go_iald rfl (vp_in_nI hlt (by decide)) dX12_chordOf_140 ?_)))
          rw [nI_clamp (show n < 2 ^ 31 by omega), h68 n hlt]
          refine go_goto 146 dX12_chordOf_141 (by decide) (go_is4 dX12_chordOf_146 rfl rfl (go_inc5 (k := 1) dX12_chordOf_148 (by decide) rfl rfl (go_goto 96 dX12_chordOf_151 (by decide) ?_)))
          exact absurd h112 h131
      · refine go_il5 dX12_chordOf_115 (go_goto 121 dX12_chordOf_117 (by decide) (go_is3 dX12_chordOf_121 rfl rfl (go_al0 dX12_chordOf_122 (go_getR (j := 68) fX12_55 rfl rfl dX12_chordOf_123 (go_il5 dX12_chordOf_126 (go_iald rfl (vp_in_nI hlt (by decide)) dX12_chordOf_128 ?_))))))
        rw [nI_clamp (show n < 2 ^ 31 by omega), h68 n hlt]
        refine go_il4 dX12_chordOf_129 ?_
        refine go_cle 144 dX12_chordOf_131 (by decide) (fun h131 => ?_) (fun h131 => ?_)
        · refine go_il4 dX12_chordOf_144 (go_is4 dX12_chordOf_146 rfl rfl (go_inc5 (k := 1) dX12_chordOf_148 (by decide) rfl rfl (go_goto 96 dX12_chordOf_151 (by decide) ?_)))
          exact absurd h131 h112
        · refine go_al0 dX12_chordOf_134 (go_getR (j := 68) fX12_55 rfl rfl dX12_chordOf_135 (go_il5 dX12_chordOf_138 (go_iald rfl (vp_in_nI hlt (by decide)) dX12_chordOf_140 ?_)))
          rw [nI_clamp (show n < 2 ^ 31 by omega), h68 n hlt]
          refine go_goto 146 dX12_chordOf_141 (by decide) (go_is4 dX12_chordOf_146 rfl rfl (go_inc5 (k := 1) dX12_chordOf_148 (by decide) rfl rfl (go_goto 96 dX12_chordOf_151 (by decide) ?_)))
          have hf8 := qch_le (qof r) l n (qnum (qof r))
          have hb8 := bfM_le (f := fun n => qch (qof r) l n (qnum (qof r))) (B := 8) (fun i => Nat.le_trans (qch_le _ _ _ _) hn8) n
          have e9 := bestF_new (f := fun n => qch (qof r) l n (qnum (qof r))) (fun z => h112 ((nI_leI (by omega) (by omega)).mpr z))
          have h9 := ih (30 - (n + 1)) (by omega) (n + 1) rfl (by omega)
          rw [e9.1, e9.2] at h9
          rw [nI_1]
          exact h9

set_option maxRecDepth 100000 in
set_option maxHeartbeats 400000 in
theorem mCh_in {q : QS} {k l : Nat} {x : Int32} {mr : gm_M} {Post : Option Value → gm_M → Prop} {d5 : Option Value} (hq : qok q) (hk : k < qnum q) (hl : l < 8) (hO : MO (trof q 9 k) 30 mr) (K : ∀ (d4 : Option Value) (m : gm_M), FX [68] [] mr m → (∀ i, i < 30 → m.1 68 i = nI (qch q l i (k + 1))) → Go yX12_chordOf cX12_chordOf 6 (some .int) 7 27 [some (.ref 52), some (.int (nI l)), some (.int x), some (.int (nI (k + 1))), d4, d5] [] m Post) : ∀ (k_ n : Nat) (m : gm_M), 30 - n = k_ → n ≤ 30 → (FX [68] [] mr m) → (∀ i, i < 30 → m.1 68 i = nI (chI q l k n i)) → Go yX12_chordOf cX12_chordOf 6 (some .int) 7 43 [some (.ref 52), some (.int (nI l)), some (.int x), some (.int (nI k)), some (.int (nI n)), d5] [] m (Post) := by
  intro k_
  induction k_ using Nat.strongRecOn with
  | ind k_ ih =>
    intro n m  hk_ hj hF h68
    refine go_il4 dX12_chordOf_43 (go_bipush (v := 30) dX12_chordOf_45 (by decide) ?_)
    refine go_cge 82 dX12_chordOf_47 (by decide) (fun h47 => ?_) (fun h47 => ?_)
    · have he : n = 30 := Nat.le_antisymm hj ((gm_bdN (by decide) (by decide) (by omega)).mp h47)
      refine go_inc3 (k := 1) dX12_chordOf_82 (by decide) rfl rfl (go_goto 27 dX12_chordOf_85 (by decide) ?_)
      subst he
      rw [nI_1]
      exact K _ m hF (fun i hi => by rw [h68 i hi, chI_30 q l k hi])
    · have hlt : n < 30 := Nat.not_le.mp (fun zz => h47 ((gm_bdN (by decide) (by decide) (by omega)).mpr zz))
      refine go_al0 dX12_chordOf_50 (go_getR (j := 68) fX12_55 rfl rfl dX12_chordOf_51 (go_il4 dX12_chordOf_54 (go_dup2 dX12_chordOf_56 rfl rfl (go_iald rfl (vp_in_nI hlt (by decide)) dX12_chordOf_57 ?_))))
      rw [nI_clamp (show n < 2 ^ 31 by omega), h68 n hlt]
      refine go_al0 dX12_chordOf_58 (go_getR (j := 66) fX12_49 rfl rfl dX12_chordOf_59 (go_il4 dX12_chordOf_62 (go_iald rfl (vp_in_nI hlt (by decide)) dX12_chordOf_64 ?_)))
      rw [nI_clamp (show n < 2 ^ 31 by omega), hF.1 66 (by decide) (by decide), (hO n hlt).2.1]
      refine go_il1 dX12_chordOf_65 ?_
      refine go_cne 73 dX12_chordOf_66 (by decide) (fun h66 => ?_) (fun h66 => ?_)
      · refine go_ic0 dX12_chordOf_73 (go_iadd dX12_chordOf_74 (go_iast rfl (vp_in_nI hlt (by decide)) dX12_chordOf_75 ?_))
        rw [nI_clamp (show n < 2 ^ 31 by omega)]
        refine go_inc4 (k := 1) dX12_chordOf_76 (by decide) rfl rfl (go_goto 43 dX12_chordOf_79 (by decide) ?_)
        have e9 : ¬ qhe q k n = some l := fun z => h66 ((heard_eq hq hk hl).mpr z)
        rw [nI_1]
        refine ih (30 - (n + 1)) (by omega) (n + 1) _ rfl (by omega) (hF.I _ _ (by decide) (by decide)) (fun i hi => ?_)
        rw [gm_I1, if_pos rfl, chI_s]
        by_cases z : i = n
        · subst z; rw [if_pos rfl, if_neg (fun y => e9 y.2), Int32.add_zero]; rfl
        · rw [if_neg z, if_neg (fun y : i = n ∧ _ => z y.1)]; exact h68 i hi
      · refine go_ic1 dX12_chordOf_69 (go_goto 74 dX12_chordOf_70 (by decide) (go_iadd dX12_chordOf_74 (go_iast rfl (vp_in_nI hlt (by decide)) dX12_chordOf_75 ?_)))
        rw [nI_clamp (show n < 2 ^ 31 by omega)]
        refine go_inc4 (k := 1) dX12_chordOf_76 (by decide) rfl rfl (go_goto 43 dX12_chordOf_79 (by decide) ?_)
        have e9 : qhe q k n = some l := (heard_eq hq hk hl).mp h66
        rw [nI_1, nI_1]
        refine ih (30 - (n + 1)) (by omega) (n + 1) _ rfl (by omega) (hF.I _ _ (by decide) (by decide)) (fun i hi => ?_)
        rw [gm_I1, if_pos rfl, chI_s]
        by_cases z : i = n
        · subst z; rw [if_pos rfl, if_pos ⟨rfl, e9⟩]
        · rw [if_neg z, if_neg (fun y : i = n ∧ _ => z y.1)]; exact h68 i hi

set_option maxRecDepth 100000 in
set_option maxHeartbeats 400000 in
theorem mCh_loop2 {r : RS} {μ : gm_M} {l : Nat} {x : Int32} {d5 : Option Value} (hn8 : qnum (qof r) ≤ 8) (hl : l < 8) : ∀ (k_ k : Nat) (d4 : Option Value) (m : gm_M), qnum (qof r) - k = k_ → k ≤ qnum (qof r) → (RDp r μ m) → (WN (qwa (qof r)) m) → (∀ i, i < 30 → m.1 68 i = nI (qch (qof r) l i k)) → Go yX12_chordOf cX12_chordOf 6 (some .int) 7 27 [some (.ref 52), some (.int (nI l)), some (.int x), some (.int (nI k)), d4, d5] [] m (fun r' μ' => r' = some (.int (chA (qof r) l x)) ∧ RDp r μ μ') := by
  intro k_
  induction k_ using Nat.strongRecOn with
  | ind k_ ih =>
    intro k d4  m  hk_ hj hR hW h68
    refine go_il3 dX12_chordOf_27 (go_al0 dX12_chordOf_28 (go_getI fX12_119 rfl rfl dX12_chordOf_29 ?_))
    refine go_cge 88 dX12_chordOf_32 (by decide) (fun h32 => ?_) (fun h32 => ?_)
    · have he : k = qnum (qof r) := Nat.le_antisymm hj ((gm_bdN hR.1.2.1 (by omega) (by omega)).mp h32)
      refine go_icm1 dX12_chordOf_88 (go_is3 dX12_chordOf_89 rfl rfl (go_ic0 dX12_chordOf_90 (go_is4 dX12_chordOf_91 rfl rfl (go_ic0 dX12_chordOf_93 (go_is5 dX12_chordOf_94 rfl rfl ?_)))))
      subst he
      rw [← nI_0]
      exact mCh_loop3 hn8 hR h68 _ 0 rfl (by decide)
    · have hlt : k < qnum (qof r) := Nat.not_le.mp (fun zz => h32 ((gm_bdN hR.1.2.1 (by omega) (by omega)).mpr zz))
      refine go_al0 dX12_chordOf_35 (go_il3 dX12_chordOf_36 ?_)
      refine go_V1 mcX12_runs mvX12_runs kX12_193 rfl dX12_chordOf_37 rfl rfl (mRuns hR.1 hlt hW) ?_
      rintro _ m37 ⟨rfl, hF37, hO37⟩
      refine go_ic0 dX12_chordOf_40 (go_is4 dX12_chordOf_41 rfl rfl ?_)
      rw [← nI_0]
      exact mCh_in hR.1.1 hlt hl hO37 (fun d4 m' hF' h' => ih (qnum (qof r) - (k + 1)) (by omega) (k + 1) d4 _ rfl (by omega) ((hR.fl hF37.rl).fl (hF'.wide (by decide) (fun x hx => by cases hx))) (by unfold WN; rw [hF'.1 64 (by decide) (by decide)]; exact hW.fr hF37) h') _ 0 _ rfl (Nat.zero_le _) (FX.rf _) (fun i hi => by rw [chI_0, hF37.1 68 (by decide) (by decide)]; exact h68 i hi)

set_option maxRecDepth 100000 in
set_option maxHeartbeats 400000 in
theorem mCh_loop1 {r : RS} {μ : gm_M} {l : Nat} {x : Int32} {d4 d5 : Option Value} (hn8 : qnum (qof r) ≤ 8) (hl : l < 8) : ∀ (k_ n : Nat) (m : gm_M), 30 - n = k_ → n ≤ 30 → (RDp r μ m) → (WN (qwa (qof r)) m) → (∀ i, i < n → m.1 68 i = nI 0) → Go yX12_chordOf cX12_chordOf 6 (some .int) 7 6 [some (.ref 52), some (.int (nI l)), some (.int x), some (.int (nI n)), d4, d5] [] m (fun r' μ' => r' = some (.int (chA (qof r) l x)) ∧ RDp r μ μ') := by
  intro k_
  induction k_ using Nat.strongRecOn with
  | ind k_ ih =>
    intro n m  hk_ hj hR hW h68
    refine go_il3 dX12_chordOf_6 (go_bipush (v := 30) dX12_chordOf_7 (by decide) ?_)
    refine go_cge 25 dX12_chordOf_9 (by decide) (fun h9 => ?_) (fun h9 => ?_)
    · have he : n = 30 := Nat.le_antisymm hj ((gm_bdN (by decide) (by decide) (by omega)).mp h9)
      refine go_ic0 dX12_chordOf_25 (go_is3 dX12_chordOf_26 rfl rfl ?_)
      subst he
      rw [← nI_0]
      exact mCh_loop2 hn8 hl _ 0 _ _ rfl (Nat.zero_le _) hR hW h68
    · have hlt : n < 30 := Nat.not_le.mp (fun zz => h9 ((gm_bdN (by decide) (by decide) (by omega)).mpr zz))
      refine go_al0 dX12_chordOf_12 (go_getR (j := 68) fX12_55 rfl rfl dX12_chordOf_13 (go_il3 dX12_chordOf_16 (go_ic0 dX12_chordOf_17 (go_iast rfl (vp_in_nI hlt (by decide)) dX12_chordOf_18 ?_))))
      rw [nI_clamp (show n < 2 ^ 31 by omega)]
      refine go_inc3 (k := 1) dX12_chordOf_19 (by decide) rfl rfl (go_goto 6 dX12_chordOf_22 (by decide) ?_)
      rw [nI_1]
      refine ih (30 - (n + 1)) (by omega) (n + 1) _ rfl (by omega) (hR.fl ((FX.rf m).I _ _ (by decide) (by decide))) hW (fun i hi => ?_)
      rw [gm_I1, if_pos rfl]
      by_cases z : i = n
      · rw [if_pos z]; rfl
      · rw [if_neg z]; exact h68 i (by omega)

set_option maxRecDepth 100000 in
set_option maxHeartbeats 400000 in
theorem mChordOf {r : RS} {μ : gm_M} (hA : MA r μ) {l : Nat} (hl : l < 8) (x : Int32) : Sat yX12_chordOf cX12_chordOf 6 (some .int) 7 [(.ref 52), (.int (nI l)), (.int x)] μ (fun r' μ' => r' = some (.int (chA (qof r) l x)) ∧ RDp r μ μ') := by
  refine Sat.of (L := [some (.ref 52), some (.int (nI l)), some (.int x), none, none, none]) (by decide) (fun _ => rfl) (fun _ => rfl) ?_
  refine go_al0 dX12_chordOf_0 ?_
  refine go_V0 mcX12_asTold mvX12_asTold kX12_190 rfl dX12_chordOf_1 rfl rfl (mAsTold hA) ?_
  rintro _ m1 ⟨rfl, hR1, hW1⟩
  refine go_ic0 dX12_chordOf_4 (go_is3 dX12_chordOf_5 rfl rfl ?_)
  rw [← nI_0]
  exact mCh_loop1 hR1.1.1.1 hl _ 0 _ rfl (by decide) hR1 hW1 (fun i hi => absurd hi (Nat.not_lt_zero i))

set_option maxRecDepth 100000 in
set_option maxHeartbeats 400000 in
theorem m_chord {r : RS} {μ : gm_M} (hA : MA r μ) (l x : Int32) : Sat yX12_chord cX12_chord 3 (some .int) 8 [(.ref 52), (.int l), (.int x)] μ (fun r' μ' => r' = some (.int (sChord (qof r) l x)) ∧ FX lQ fQ μ μ') := by
  refine Sat.of (L := [some (.ref 52), some (.int l), some (.int x)]) (by decide) (fun _ => rfl) (fun _ => rfl) ?_
  refine go_il1 dX12_chord_0 (go_ic0 dX12_chord_1 (go_bipush (v := 7) dX12_chord_2 (by decide) (go_S3r mcX12_in mvX12_in kX12_104 dX12_chord_4 rfl rfl (sX12_in _ _ _ _) ?_)))
  refine go_ifeqB 28 dX12_chord_7 (by decide) (fun h7 => ?_) (fun h7 => ?_)
  · refine go_bipush (v := -2) dX12_chord_28 (by decide) ?_
    refine go_iret dX12_chord_30 ?_
    exact ⟨by rw [sChord_g, if_neg (gf h7)], FX.rf μ⟩
  · refine go_il2 dX12_chord_10 (go_ic0 dX12_chord_11 (go_ic1 dX12_chord_12 (go_S3r mcX12_in mvX12_in kX12_104 dX12_chord_13 rfl rfl (sX12_in _ _ _ _) ?_)))
    refine go_ifeqB 28 dX12_chord_16 (by decide) (fun h16 => ?_) (fun h16 => ?_)
    · refine go_bipush (v := -2) dX12_chord_28 (by decide) ?_
      refine go_iret dX12_chord_30 ?_
      exact ⟨by rw [sChord_g, if_pos h7, if_neg (gf h16)], FX.rf μ⟩
    · obtain ⟨l, hl7, rfl⟩ := gin_of (N := 7) (by decide) (by decide) h7
      refine go_al0 dX12_chord_19 (go_il1 dX12_chord_20 (go_il2 dX12_chord_21 ?_))
      refine go_V2 mcX12_chordOf mvX12_chordOf kX12_212 rfl dX12_chord_22 rfl rfl (mChordOf hA (show l < 8 by omega) x) ?_
      rintro _ m22 ⟨rfl, hR22⟩
      refine go_goto 30 dX12_chord_25 (by decide) ?_
      refine go_iret dX12_chord_30 ?_
      exact ⟨by rw [sChord_g, if_pos h7, if_pos h16, wN_nI (by omega)], hR22.2.2⟩

set_option maxRecDepth 100000 in
set_option maxHeartbeats 400000 in
theorem mHu_in {q : QS} {k : Nat} {m : gm_M} {Post : Option Value → gm_M → Prop} (ht : tok (trof q 9 k)) (hO : MO (trof q 9 k) 30 m) (K : ∀ (b : Int32) (d3 : Option Value), (∀ i, i < 32 → bt b i = (decide (i < 30) && !qhd q i (k + 1))) → Go yX12_hushNow cX12_hushNow 4 (some .int) 7 9 [some (.ref 52), some (.int b), some (.int (nI (k + 1))), d3] [] m Post) : ∀ (k_ n : Nat) (b : Int32), 30 - n = k_ → n ≤ 30 → (∀ i, i < 32 → bt b i = (decide (i < 30) && !(qhd q i k || (decide (i < n) && (tm (trof q 9 k) i).isSome)))) → Go yX12_hushNow cX12_hushNow 4 (some .int) 7 24 [some (.ref 52), some (.int b), some (.int (nI k)), some (.int (nI n))] [] m (Post) := by
  intro k_
  induction k_ using Nat.strongRecOn with
  | ind k_ ih =>
    intro n b  hk_ hj hb
    refine go_il3 dX12_hushNow_24 (go_bipush (v := 30) dX12_hushNow_25 (by decide) ?_)
    refine go_cge 58 dX12_hushNow_27 (by decide) (fun h27 => ?_) (fun h27 => ?_)
    · have he : n = 30 := Nat.le_antisymm hj ((gm_bdN (by decide) (by decide) (by omega)).mp h27)
      refine go_inc2 (k := 1) dX12_hushNow_58 (by decide) rfl rfl (go_goto 9 dX12_hushNow_61 (by decide) ?_)
      subst he
      rw [nI_1]
      exact K _ _ (fun i hi => by rw [hb i hi, qhd]; by_cases z : i < 30 <;> simp [z])
    · have hlt : n < 30 := Nat.not_le.mp (fun zz => h27 ((gm_bdN (by decide) (by decide) (by omega)).mpr zz))
      refine go_il1 dX12_hushNow_30 (go_al0 dX12_hushNow_31 (go_getR (j := 66) fX12_49 rfl rfl dX12_hushNow_32 (go_il3 dX12_hushNow_35 (go_iald rfl (vp_in_nI hlt (by decide)) dX12_hushNow_36 ?_))))
      rw [nI_clamp (show n < 2 ^ 31 by omega), (hO n hlt).2.1]
      refine go_icm1 dX12_hushNow_37 ?_
      refine go_ceq 49 dX12_hushNow_38 (by decide) (fun h38 => ?_) (fun h38 => ?_)
      · refine go_icm1 dX12_hushNow_49 (go_iand dX12_hushNow_50 (go_is1 dX12_hushNow_51 rfl rfl (go_inc3 (k := 1) dX12_hushNow_52 (by decide) rfl rfl (go_goto 24 dX12_hushNow_55 (by decide) ?_))))
        rw [nI_1]
        refine ih (30 - (n + 1)) (by omega) (n + 1) _ rfl (by omega) (fun i hi => ?_)
        have e9 := (heard_none ht).mp h38
        rw [b_and, b_m1 i hi, Bool.and_true, hb i hi]
        by_cases z : i = n
        · subst z; rw [e9]; simp
        · have : (i < n + 1) = (i < n) := propext (by omega)
          simp [this]
      · refine go_ic1 dX12_hushNow_41 (go_il3 dX12_hushNow_42 (go_ishl dX12_hushNow_43 (go_icm1 dX12_hushNow_44 (go_ixor dX12_hushNow_45 (go_goto 50 dX12_hushNow_46 (by decide) (go_iand dX12_hushNow_50 (go_is1 dX12_hushNow_51 rfl rfl (go_inc3 (k := 1) dX12_hushNow_52 (by decide) rfl rfl (go_goto 24 dX12_hushNow_55 (by decide) ?_)))))))))
        rw [nI_1]
        refine ih (30 - (n + 1)) (by omega) (n + 1) _ rfl (by omega) (fun i hi => ?_)
        have e9 : (tm (trof q 9 k) n).isSome = true := by
          cases hc : tm (trof q 9 k) n with
          | none => exact absurd ((heard_none ht).mpr hc) h38
          | some _ => rfl
        rw [b_and, b_xor, b_m1 i hi, b_one (by omega) hi, hb i hi]
        by_cases z : i = n
        · subst z; simp [e9]
        · have : (i < n + 1) = (i < n) := propext (by omega)
          simp [this, z]

set_option maxRecDepth 100000 in
set_option maxHeartbeats 400000 in
theorem mHu_loop {r : RS} {μ : gm_M} (hn8 : qnum (qof r) ≤ 8) : ∀ (k_ k : Nat) (b : Int32) (d3 : Option Value) (m : gm_M), qnum (qof r) - k = k_ → k ≤ qnum (qof r) → (RDp r μ m) → (WN (qwa (qof r)) m) → (∀ i, i < 32 → bt b i = (decide (i < 30) && !qhd (qof r) i k)) → Go yX12_hushNow cX12_hushNow 4 (some .int) 7 9 [some (.ref 52), some (.int b), some (.int (nI k)), d3] [] m (fun r' μ' => r' = some (.int (sHush (qof r))) ∧ RDp r μ μ') := by
  intro k_
  induction k_ using Nat.strongRecOn with
  | ind k_ ih =>
    intro k b  d3  m  hk_ hj hR hW hb
    refine go_il2 dX12_hushNow_9 (go_al0 dX12_hushNow_10 (go_getI fX12_119 rfl rfl dX12_hushNow_11 ?_))
    refine go_cge 64 dX12_hushNow_14 (by decide) (fun h14 => ?_) (fun h14 => ?_)
    · have he : k = qnum (qof r) := Nat.le_antisymm hj ((gm_bdN hR.1.2.1 (by omega) (by omega)).mp h14)
      refine go_il1 dX12_hushNow_64 ?_
      refine go_iret dX12_hushNow_65 ?_
      subst he
      exact ⟨by rw [mkB_eq hb]; rfl, hR⟩
    · have hlt : k < qnum (qof r) := Nat.not_le.mp (fun zz => h14 ((gm_bdN hR.1.2.1 (by omega) (by omega)).mpr zz))
      refine go_al0 dX12_hushNow_17 (go_il2 dX12_hushNow_18 ?_)
      refine go_V1 mcX12_runs mvX12_runs kX12_193 rfl dX12_hushNow_19 rfl rfl (mRuns hR.1 hlt hW) ?_
      rintro _ m19 ⟨rfl, hF19, hO19⟩
      refine go_ic0 dX12_hushNow_22 (go_is3 dX12_hushNow_23 rfl rfl ?_)
      rw [← nI_0]
      exact mHu_in (trof_ok hR.1.1 hlt) hO19 (fun b d3 hb => ih (qnum (qof r) - (k + 1)) (by omega) (k + 1) b d3 _ rfl (by omega) (hR.fl hF19.rl) (hW.fr hF19) hb) _ 0 _ rfl (Nat.zero_le _) (fun i hi => by rw [hb i hi]; simp)

set_option maxRecDepth 100000 in
set_option maxHeartbeats 400000 in
theorem mHushNow {r : RS} {μ : gm_M} (hA : MA r μ) : Sat yX12_hushNow cX12_hushNow 4 (some .int) 7 [(.ref 52)] μ (fun r' μ' => r' = some (.int (sHush (qof r))) ∧ RDp r μ μ') := by
  refine Sat.of (L := [some (.ref 52), none, none, none]) (by decide) (fun _ => rfl) (fun _ => rfl) ?_
  refine go_al0 dX12_hushNow_0 ?_
  refine go_V0 mcX12_asTold mvX12_asTold kX12_190 rfl dX12_hushNow_1 rfl rfl (mAsTold hA) ?_
  rintro _ m1 ⟨rfl, hR1, hW1⟩
  refine go_ldc dX12_hushNow_4 nX12_215 (go_is1 dX12_hushNow_6 rfl rfl (go_ic0 dX12_hushNow_7 (go_is2 dX12_hushNow_8 rfl rfl ?_)))
  rw [← nI_0]
  exact mHu_loop hR1.1.1.1 _ 0 _ _ _ rfl (Nat.zero_le _) hR1 hW1 (fun i hi => by rw [b_30 i hi]; simp [qhd])

set_option maxRecDepth 100000 in
set_option maxHeartbeats 400000 in
theorem m_hush {r : RS} {μ : gm_M} (hA : MA r μ) : Sat yX12_hush cX12_hush 1 (some .int) 8 [(.ref 52)] μ (fun r' μ' => r' = some (.int (sHush (qof r))) ∧ FX lQ fQ μ μ') := by
  refine Sat.of (L := [some (.ref 52)]) (by decide) (fun _ => rfl) (fun _ => rfl) ?_
  refine go_al0 dX12_hush_0 ?_
  refine go_V0 mcX12_hushNow mvX12_hushNow kX12_216 rfl dX12_hush_1 rfl rfl (mHushNow hA) ?_
  rintro _ m1 ⟨rfl, hR1⟩
  refine go_iret dX12_hush_4 ?_
  exact ⟨rfl, hR1.2.2⟩

def tec (t : TR) : Nat → Nat
  | 0 => 0
  | n + 1 => tec t n + (if tst t n = 3 then 1 else 0)
theorem tec_eq (t : TR) : ∀ n, tec t n = if (ta t n).2 = true then 1 else 0 := by
  intro n
  induction n with
  | zero => rfl
  | succ n ih =>
    rw [tec, ih]
    cases hg : (ta t n).2 with
    | true =>
      have e1 := ta_gone (b := n + 1) (Nat.le_succ n) hg
      have hs : ¬ tst t n = 3 := by
        unfold tst
        rw [hg]
        split
        · decide
        · rw [if_pos rfl]; decide
      rw [if_pos rfl, if_neg hs, if_pos e1]
    | false =>
      rw [if_neg (by decide)]
      by_cases hf : tfr t ≤ n
      · have e1 : ta t (n + 1) = ((ta t n).1 + tgr t n (twa t n), tea t ((ta t n).1 + tgr t n (twa t n))) := by simp only [ta]; rw [if_pos ⟨hf, hg⟩]
        have htm : tm t n = tmo t (ta t (n + 1)).1 := by unfold tm; rw [if_pos ⟨hf, hg⟩]
        have e2 : (ta t (n + 1)).2 = tea t (ta t (n + 1)).1 := by rw [e1]
        cases hg2 : (ta t (n + 1)).2 with
        | true =>
          rw [hg2] at e2
          have h3 := e2.symm
          unfold tea tsc at h3
          simp only [Bool.and_eq_true, decide_eq_true_eq] at h3
          have h4 : ¬ tm t n = none := by rw [htm]; unfold tmo; rw [if_pos h3.2.1]; exact fun z => by cases z
          have hs : tst t n = 3 := by unfold tst; rw [if_neg (by omega), hg, if_neg (by decide), if_neg h4, hg2, if_pos rfl]
          rw [if_pos hs, if_pos rfl]
        | false =>
          have hs : ¬ tst t n = 3 := by
            unfold tst
            rw [if_neg (by omega), hg, if_neg (by decide), hg2]
            split
            · decide
            · rw [if_neg (by decide)]; decide
          rw [if_neg hs, if_neg (by decide)]
      · have e1 : ta t (n + 1) = ta t n := by simp only [ta]; rw [if_neg (fun z => hf z.1)]
        have hs : ¬ tst t n = 3 := by unfold tst; rw [if_pos (by omega)]; decide
        rw [if_neg hs, e1, hg, if_neg (by decide)]
theorem tst_le (t : TR) (n : Nat) : tst t n ≤ 4 := by
  unfold tst
  repeat' split
  all_goals omega
set_option maxRecDepth 100000 in
set_option maxHeartbeats 400000 in
theorem mEa_in {t : TR} {c k : Nat} {m : gm_M} {Post : Option Value → gm_M → Prop} (hO : MO t 30 m) (K : ∀ (d3 : Option Value), Go yX12_eatenNow cX12_eatenNow 4 (some .int) 7 8 [some (.ref 52), some (.int (nI (c + tec t 30))), some (.int (nI (k + 1))), d3] [] m Post) : ∀ (k_ n : Nat), 30 - n = k_ → n ≤ 30 → Go yX12_eatenNow cX12_eatenNow 4 (some .int) 7 23 [some (.ref 52), some (.int (nI (c + tec t n))), some (.int (nI k)), some (.int (nI n))] [] m (Post) := by
  intro k_
  induction k_ using Nat.strongRecOn with
  | ind k_ ih =>
    intro n  hk_ hj 
    refine go_il3 dX12_eatenNow_23 (go_bipush (v := 30) dX12_eatenNow_24 (by decide) ?_)
    refine go_cge 53 dX12_eatenNow_26 (by decide) (fun h26 => ?_) (fun h26 => ?_)
    · have he : n = 30 := Nat.le_antisymm hj ((gm_bdN (by decide) (by decide) (by omega)).mp h26)
      refine go_inc2 (k := 1) dX12_eatenNow_53 (by decide) rfl rfl (go_goto 8 dX12_eatenNow_56 (by decide) ?_)
      subst he
      rw [nI_1]
      exact K _
    · have hlt : n < 30 := Nat.not_le.mp (fun zz => h26 ((gm_bdN (by decide) (by decide) (by omega)).mpr zz))
      refine go_il1 dX12_eatenNow_29 (go_al0 dX12_eatenNow_30 (go_getR (j := 67) fX12_52 rfl rfl dX12_eatenNow_31 (go_il3 dX12_eatenNow_34 (go_iald rfl (vp_in_nI hlt (by decide)) dX12_eatenNow_35 ?_))))
      rw [nI_clamp (show n < 2 ^ 31 by omega), (hO n hlt).2.2]
      refine go_ic3 dX12_eatenNow_36 ?_
      refine go_cne 44 dX12_eatenNow_37 (by decide) (fun h37 => ?_) (fun h37 => ?_)
      · refine go_ic0 dX12_eatenNow_44 (go_iadd dX12_eatenNow_45 (go_is1 dX12_eatenNow_46 rfl rfl (go_inc3 (k := 1) dX12_eatenNow_47 (by decide) rfl rfl (go_goto 23 dX12_eatenNow_50 (by decide) ?_))))
        have h4 := tst_le t n
        have e8 : ¬ tst t n = 3 := fun z => h37 (by rw [z]; rfl)
        have e9 : c + tec t n = c + tec t (n + 1) := by rw [tec, if_neg e8]; omega
        rw [Int32.add_zero, nI_1, e9]
        exact ih (30 - (n + 1)) (by omega) (n + 1) rfl (by omega)
      · refine go_ic1 dX12_eatenNow_40 (go_goto 45 dX12_eatenNow_41 (by decide) (go_iadd dX12_eatenNow_45 (go_is1 dX12_eatenNow_46 rfl rfl (go_inc3 (k := 1) dX12_eatenNow_47 (by decide) rfl rfl (go_goto 23 dX12_eatenNow_50 (by decide) ?_)))))
        have h4 := tst_le t n
        have e8 : tst t n = 3 := (nI_eq (by omega) (by decide)).mp h37
        have e9 : c + tec t n + 1 = c + tec t (n + 1) := by rw [tec, if_pos e8]; omega
        rw [nI_1, nI_1, e9]
        exact ih (30 - (n + 1)) (by omega) (n + 1) rfl (by omega)

set_option maxRecDepth 100000 in
set_option maxHeartbeats 400000 in
theorem mEa_loop {r : RS} {μ : gm_M} (hn8 : qnum (qof r) ≤ 8) : ∀ (k_ k : Nat) (d3 : Option Value) (m : gm_M), qnum (qof r) - k = k_ → k ≤ qnum (qof r) → (RDp r μ m) → (WN (qwa (qof r)) m) → Go yX12_eatenNow cX12_eatenNow 4 (some .int) 7 8 [some (.ref 52), some (.int (nI (qea (qof r) k))), some (.int (nI k)), d3] [] m (fun r' μ' => r' = some (.int (nI (qea (qof r) (qnum (qof r))))) ∧ RDp r μ μ') := by
  intro k_
  induction k_ using Nat.strongRecOn with
  | ind k_ ih =>
    intro k d3  m  hk_ hj hR hW
    refine go_il2 dX12_eatenNow_8 (go_al0 dX12_eatenNow_9 (go_getI fX12_119 rfl rfl dX12_eatenNow_10 ?_))
    refine go_cge 59 dX12_eatenNow_13 (by decide) (fun h13 => ?_) (fun h13 => ?_)
    · have he : k = qnum (qof r) := Nat.le_antisymm hj ((gm_bdN hR.1.2.1 (by omega) (by omega)).mp h13)
      refine go_il1 dX12_eatenNow_59 ?_
      refine go_iret dX12_eatenNow_60 ?_
      subst he
      exact ⟨rfl, hR⟩
    · have hlt : k < qnum (qof r) := Nat.not_le.mp (fun zz => h13 ((gm_bdN hR.1.2.1 (by omega) (by omega)).mpr zz))
      refine go_al0 dX12_eatenNow_16 (go_il2 dX12_eatenNow_17 ?_)
      refine go_V1 mcX12_runs mvX12_runs kX12_193 rfl dX12_eatenNow_18 rfl rfl (mRuns hR.1 hlt hW) ?_
      rintro _ m18 ⟨rfl, hF18, hO18⟩
      refine go_ic0 dX12_eatenNow_21 (go_is3 dX12_eatenNow_22 rfl rfl ?_)
      have e9 : qea (qof r) k + tec (trof (qof r) 9 k) 30 = qea (qof r) (k + 1) := by rw [tec_eq, qea]
      have h9 := mEa_in (t := trof (qof r) 9 k) (c := qea (qof r) k) (k := k) (m := m18) hO18 (fun d3 => by rw [e9]; exact ih (qnum (qof r) - (k + 1)) (by omega) (k + 1) d3 _ rfl (by omega) (hR.fl hF18.rl) (hW.fr hF18)) _ 0 rfl (Nat.zero_le _)
      exact h9

set_option maxRecDepth 100000 in
set_option maxHeartbeats 400000 in
theorem mEatenNow {r : RS} {μ : gm_M} (hA : MA r μ) : Sat yX12_eatenNow cX12_eatenNow 4 (some .int) 7 [(.ref 52)] μ (fun r' μ' => r' = some (.int (nI (qea (qof r) (qnum (qof r))))) ∧ RDp r μ μ') := by
  refine Sat.of (L := [some (.ref 52), none, none, none]) (by decide) (fun _ => rfl) (fun _ => rfl) ?_
  refine go_al0 dX12_eatenNow_0 ?_
  refine go_V0 mcX12_asTold mvX12_asTold kX12_190 rfl dX12_eatenNow_1 rfl rfl (mAsTold hA) ?_
  rintro _ m1 ⟨rfl, hR1, hW1⟩
  refine go_ic0 dX12_eatenNow_4 (go_is1 dX12_eatenNow_5 rfl rfl (go_ic0 dX12_eatenNow_6 (go_is2 dX12_eatenNow_7 rfl rfl ?_)))
  rw [← nI_0]
  exact mEa_loop hR1.1.1.1 _ 0 _ _ rfl (Nat.zero_le _) hR1 hW1

set_option maxRecDepth 100000 in
set_option maxHeartbeats 400000 in
theorem mSumOf {r : RS} {μ : gm_M} (hA : MA r μ) (x : Int32) : Sat yX12_sumOf cX12_sumOf 3 (some .int) 8 [(.ref 52), (.int x)] μ (fun r' μ' => r' = some (.int (if x = 0 then nI (qnum (qof r)) else if x = 1 then nI (figs (ra1 r).1 (ra1 r).2) else nI (qea (qof r) (qnum (qof r))))) ∧ RDp r μ μ') := by
  refine Sat.of (L := [some (.ref 52), some (.int x), none]) (by decide) (fun _ => rfl) (fun _ => rfl) ?_
  refine go_al0 dX12_sumOf_0 ?_
  refine go_V0 mcX12_eatenNow mvX12_eatenNow kX12_282 rfl dX12_sumOf_1 rfl rfl (mEatenNow hA) ?_
  rintro _ m1 ⟨rfl, hR1⟩
  refine go_is2 dX12_sumOf_4 rfl rfl (go_il1 dX12_sumOf_5 ?_)
  refine go_ifne 16 dX12_sumOf_6 (by decide) (fun h6 => ?_) (fun h6 => ?_)
  · refine go_il1 dX12_sumOf_16 (go_ic1 dX12_sumOf_17 ?_)
    refine go_cne 28 dX12_sumOf_18 (by decide) (fun h18 => ?_) (fun h18 => ?_)
    · refine go_il2 dX12_sumOf_28 ?_
      refine go_iret dX12_sumOf_29 ?_
      exact ⟨by rw [if_neg h6, if_neg h18], hR1⟩
    · refine go_al0 dX12_sumOf_21 (go_getI fX12_126 rfl rfl dX12_sumOf_22 ?_)
      rw [hR1.2.1]
      refine go_goto 29 dX12_sumOf_25 (by decide) ?_
      refine go_iret dX12_sumOf_29 ?_
      exact ⟨by rw [if_neg h6, if_pos h18], hR1⟩
  · refine go_al0 dX12_sumOf_9 (go_getI fX12_119 rfl rfl dX12_sumOf_10 ?_)
    rw [hR1.1.2.1]
    refine go_goto 29 dX12_sumOf_13 (by decide) ?_
    refine go_iret dX12_sumOf_29 ?_
    exact ⟨by rw [if_pos h6], hR1⟩

