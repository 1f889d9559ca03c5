/-! CHANCES (40): other summers -/
def lseed (s : Int32) : Nat → Int32
  | 0 => s
  | j + 1 => 1103515245 * lseed s j + 12345
def lotI (x : Int32) : Int32 := (x.toUInt32 >>> ((16 : Int32).toUInt32 &&& Int32.toUInt32 31)).toInt32 - (x.toUInt32 >>> ((16 : Int32).toUInt32 &&& Int32.toUInt32 31)).toInt32 / 10 * 10
def lotN (x : Int32) : Nat := x.toBitVec.toNat / 2 ^ 16 % 10
theorem lot_t (x : Int32) : lotI x = nI (lotN x) ∧ lotN x ≤ 9 := by
  have hb : x.toBitVec.toNat < 2 ^ 32 := x.toBitVec.isLt
  have hk : x.toBitVec.toNat / 2 ^ 16 < 65536 := by omega
  have e : (x.toUInt32 >>> ((16 : Int32).toUInt32 &&& Int32.toUInt32 31)).toInt32 = nI (x.toBitVec.toNat / 2 ^ 16) := by
    apply Int32.toBitVec_inj.mp
    apply BitVec.eq_of_toNat_eq
    rw [pk_ushr x 16 16 (by decide), pk_tn (by omega)]
  unfold lotI lotN
  rw [e, show (10 : Int32) = nI 10 from by decide, pk_rem (by omega) (by decide) (by decide)]
  exact ⟨rfl, by omega⟩
/-- the warmth of night j by lots -/
def lwa (s : Int32) (n j : Nat) : Nat := if j < n then lotN (lseed s (j + 1)) else 5
theorem lwa_le (s : Int32) (n j : Nat) : lwa s n j ≤ 9 := by
  unfold lwa
  split
  · exact (lot_t _).2
  · omega
def trwa (t : TR) (g : Nat → Nat) : TR := (tso t, tfr t, tsz t, tti t, tsh t, tsn t, ttu t, tkn t, g)
theorem TI.wa {t : TR} {μ : gm_M} (h : TI t μ) {g : Nat → Nat} (hg : ∀ n, n < 30 → twa t n = g n) : TI (trwa t g) μ := by
  obtain ⟨⟨k1, k2, k3, k4, k5, k6, k7, k8, k9⟩, h6, h7, h8, h11, h9, h10, h12, h26, h27⟩ := h
  exact ⟨⟨k1, k2, k3, k4, k5, k6, k7, k8, fun n hn => by show g n ≤ 9; rw [← hg n hn]; exact k9 n hn⟩, h6, h7, h8, h11, h9, h10, h12, h26, fun n hn => by show _ = nI (g n); rw [← hg n hn]; exact h27 n hn⟩
/-- the warmth of the first j nights by lots -/
def lwb (t : TR) (s : Int32) (n j : Nat) : TR := trwa t (fun i => if i < j then lwa s n i else twa t i)
theorem TI.lot {t : TR} {m : gm_M} {s : Int32} {n j : Nat} (h : TI (lwb t s n j) m) : TI (lwb t s n (j + 1)) (gm_I m 27 j (nI (lwa s n j))) := by
  refine TI.wa (t := trw (lwb t s n j) j (lwa s n j)) (h.warm (lwa_le s n j)) (fun i hi => ?_)
  show (if i = j then lwa s n j else if i < j then lwa s n i else twa t i) = if i < j + 1 then lwa s n i else twa t i
  by_cases c : i = j
  · subst c; simp
  · have e : (i < j + 1) = (i < j) := propext (by omega)
    simp [c, e]
set_option maxRecDepth 100000 in
set_option maxHeartbeats 400000 in
theorem aX2_lots_loop {t : TR} {μ : gm_M} {s : Int32} {n : Nat} (hn : n ≤ 30) : ∀ (k j : Nat) (m : gm_M), 30 - j = k → j ≤ 30 → TI (lwb t s n j) m → Fr25 μ m → Go yX2_warmByLots cX2_warmByLots 5 none 1 5 [some (.ref 25), some (.int s), some (.int (nI n)), some (.int (lseed s (min j n))), some (.int (nI j))] [] m (fun r μ' => r = none ∧ TI (trwa t (lwa s n)) μ' ∧ Fr25 μ μ') := by
  intro k
  induction k using Nat.strongRecOn with
  | ind k ih =>
    intro j m hk hj hT hF
    refine go_il4 dX2_warmByLots_5 (go_bipush (v := 30) dX2_warmByLots_7 (by decide) ?_)
    refine go_cge 56 dX2_warmByLots_9 (by decide) (fun h9 => ?_) (fun h9 => ?_)
    · refine go_vret dX2_warmByLots_56 ?_
      have he : j = 30 := Nat.le_antisymm hj ((gm_bdN (by decide) (by decide) (by omega)).mp h9)
      subst he
      refine ⟨rfl, ?_, hF⟩
      exact hT.wa (fun i hi => by show (if i < 30 then lwa s n i else twa t i) = lwa s n i; rw [if_pos hi])
    · have hlt : j < 30 := Nat.not_le.mp (fun z => h9 ((gm_bdN (by decide) (by decide) (by omega)).mpr z))
      refine go_il4 dX2_warmByLots_12 (go_il2 dX2_warmByLots_14 ?_)
      refine go_cge 43 dX2_warmByLots_15 (by decide) (fun h15 => ?_) (fun h15 => ?_)
      · refine go_al0 dX2_warmByLots_43 (go_il4 dX2_warmByLots_44 (go_ic5 dX2_warmByLots_46 (go_V2v mcX9_warmTo mvX9_warmTo kX2_126 rfl dX2_warmByLots_47 rfl rfl (sX9_warmTo hlt _ _) (go_inc4 (k := 1) dX2_warmByLots_50 (by decide) rfl rfl (go_goto 5 dX2_warmByLots_53 (by decide) ?_)))))
        have hlw : lwa s n j = 5 := by unfold lwa; rw [if_neg (by have := (nI_leI (by omega) (by omega)).mp h15; omega)]
        have hT2 : TI (lwb t s n (j + 1)) (gm_I m 27 j 5) := by have := hT.lot; rw [hlw] at this; exact this
        have e : min j n = min (j + 1) n := by have := (nI_leI (by omega) (by omega)).mp h15; omega
        rw [nI_1, e]
        exact ih (30 - (j + 1)) (by omega) (j + 1) _ rfl (by omega) hT2 (hF.I _ _ (by decide) (by decide))
      · refine go_ldc dX2_warmByLots_18 nX2_125 (go_il3 dX2_warmByLots_20 (go_imul dX2_warmByLots_21 (go_sipush (v := 12345) dX2_warmByLots_22 (by decide) (go_iadd dX2_warmByLots_25 (go_is3 dX2_warmByLots_26 rfl rfl (go_al0 dX2_warmByLots_27 (go_il4 dX2_warmByLots_28 (go_il3 dX2_warmByLots_30 (go_bipush (v := 16) dX2_warmByLots_31 (by decide) (go_iushr dX2_warmByLots_33 (go_bipush (v := 10) dX2_warmByLots_34 (by decide) (go_irem dX2_warmByLots_36 (by decide) (go_V2v mcX9_warmTo mvX9_warmTo kX2_126 rfl dX2_warmByLots_37 rfl rfl (sX9_warmTo hlt _ _) ?_)))))))))))))
        refine go_goto 50 dX2_warmByLots_40 (by decide) (go_inc4 (k := 1) dX2_warmByLots_50 (by decide) rfl rfl (go_goto 5 dX2_warmByLots_53 (by decide) ?_))
        have hjn : j < n := Nat.not_le.mp (fun z => h15 ((nI_leI (by omega) (by omega)).mpr z))
        have e1 : min j n = j := by omega
        have e2 : min (j + 1) n = j + 1 := by omega
        have hlw : lwa s n j = lotN (lseed s (j + 1)) := by unfold lwa; rw [if_pos hjn]
        have hv : lotI (lseed s (j + 1)) = nI (lwa s n j) := by rw [hlw]; exact (lot_t _).1
        have h := ih (30 - (j + 1)) (by omega) (j + 1) _ rfl (by omega) hT.lot (hF.I _ _ (by decide) (by decide))
        rw [← hv, e2] at h
        rw [nI_1, e1]
        exact h
set_option maxRecDepth 100000 in
set_option maxHeartbeats 400000 in
theorem aX2_warmByLots {t : TR} {μ : gm_M} {s : Int32} {n : Nat} (hn : n ≤ 30) (hT : TI t μ) : Sat yX2_warmByLots cX2_warmByLots 5 none 1 [(.ref 25), (.int s), (.int (nI n))] μ (fun r μ' => r = none ∧ TI (trwa t (lwa s n)) μ' ∧ Fr25 μ μ') := by
  refine Sat.of (L := [some (.ref 25), some (.int s), some (.int (nI n)), none, none]) (by decide) (fun _ => rfl) (fun _ => rfl) ?_
  refine go_il1 dX2_warmByLots_0 (go_is3 dX2_warmByLots_1 rfl rfl (go_ic0 dX2_warmByLots_2 (go_is4 dX2_warmByLots_3 rfl rfl ?_)))
  have h0 : TI (lwb t s n 0) μ := hT.wa (fun i _ => rfl)
  have h := aX2_lots_loop hn _ 0 μ rfl (Nat.zero_le _) h0 (Fr25.rf μ)
  rw [show min 0 n = 0 by omega] at h
  exact h

/-- the wheel k in another summer -/
def trsu (q : QS) (s : Int32) (n k : Nat) : TR := trwa (trof q 9 k) (lwa s n)
def qsh2 (q : QS) (s : Int32) (n j : Nat) : Nat → Bool
  | 0 => true
  | k + 1 => qsh2 q s n j k && (tm (trsu q s n k) j).isSome
def qse (q : QS) (s : Int32) (n : Nat) : Nat → Nat
  | 0 => 0
  | k + 1 => qse q s n k + (if (ta (trsu q s n k) 30).2 = true then 1 else 0)
set_option maxRecDepth 100000 in
set_option maxHeartbeats 400000 in
theorem aX2_sum_loop {q : QS} {μ : gm_M} {s : Int32} {n : Nat} (hQ : CQ q μ) (hn : n ≤ 30) : ∀ (k w : Nat) (b : Int32) (d5 : Option Value) (m : gm_M), qnum q - w = k → w ≤ qnum q → FrR 25 40 μ m → m.1 40 5 = 0 → m.1 40 6 = nI (qse q s n w) → (∀ j, j < 30 → bt b j = qsh2 q s n j w) → (∀ j, 30 ≤ j → j < 32 → bt b j = false) → Go yX2_findSummer cX2_findSummer 6 none 3 16 [some (.ref 40), some (.int s), some (.int (nI n)), some (.int b), some (.int (nI w)), d5] [] m (fun r μ' => r = none ∧ FrR 25 40 μ μ' ∧ μ'.1 40 6 = nI (qse q s n (qnum q)) ∧ (qnum q = 0 → μ'.1 40 5 = 0) ∧ (0 < qnum q → ∃ b : Int32, μ'.1 40 5 = gbc b ∧ (∀ j, j < 30 → bt b j = qsh2 q s n j (qnum q)) ∧ ∀ j, 30 ≤ j → j < 32 → bt b j = false)) := by
  have hn8 := hQ.1.1
  intro k
  induction k using Nat.strongRecOn with
  | ind k ih =>
    intro w b d5 m hk hj hF h5 h6 hb hb2
    refine go_il4 dX2_findSummer_16 (go_al0 dX2_findSummer_18 (go_getR (j := 1) fX2_18 rfl rfl dX2_findSummer_19 (go_getR (j := 6) fX2_97 rfl rfl dX2_findSummer_22 (go_getI fX2_101 rfl rfl dX2_findSummer_25 ?_))))
    refine go_cge 90 dX2_findSummer_28 (by decide) (fun h28 => ?_) (fun h28 => ?_)
    · refine go_al0 dX2_findSummer_90 (go_getR (j := 1) fX2_18 rfl rfl dX2_findSummer_91 (go_getR (j := 6) fX2_97 rfl rfl dX2_findSummer_94 (go_getI fX2_101 rfl rfl dX2_findSummer_97 ?_)))
      refine go_ifle 111 dX2_findSummer_100 (by decide) (fun h100 => ?_) (fun h100 => ?_)
      · refine go_vret dX2_findSummer_111 ?_
        have he : w = qnum q := Nat.le_antisymm hj ((gm_bdN (hQ.frR hF).2.1 (by omega) (by omega)).mp h28)
        subst he
        have e4 : m.1 6 4 = nI (qnum q) := (hQ.frR hF).2.1
        have hz : qnum q = 0 := by
          rw [e4] at h100
          rcases Nat.eq_zero_or_pos (qnum q) with z | z
          · exact z
          · exact absurd h100 (nI_nle z (by omega))
        exact ⟨rfl, hF, h6, fun _ => h5, fun z => by omega⟩
      · refine go_al0 dX2_findSummer_103 (go_il3 dX2_findSummer_104 (go_S1r mcJ6_bitCount_0f7a4 mvJ6_bitCount_0f7a4 kX2_120 dX2_findSummer_105 rfl rfl (sJ6_bitCount _ _) (go_putI fX2_90 rfl rfl dX2_findSummer_108 ?_)))
        refine go_vret dX2_findSummer_111 ?_
        have he : w = qnum q := Nat.le_antisymm hj ((gm_bdN (hQ.frR hF).2.1 (by omega) (by omega)).mp h28)
        subst he
        have e4 : m.1 6 4 = nI (qnum q) := (hQ.frR hF).2.1
        refine ⟨rfl, hF.I _ _ (by decide) (by decide), by rw [gm_Io _ _ _ (by decide)]; exact h6, fun z => ?_, fun _ => ⟨b, by rw [gm_Is], hb, hb2⟩⟩
        exfalso
        apply h100
        rw [e4, z]
        decide
    · have hlt : w < qnum q := Nat.not_le.mp (fun z => h28 ((gm_bdN (hQ.frR hF).2.1 (by omega) (by omega)).mpr z))
      refine go_al0 dX2_findSummer_31 (go_getR (j := 1) fX2_18 rfl rfl dX2_findSummer_32 (go_il4 dX2_findSummer_35 ?_))
      refine go_V1 mcX1_begin mvX1_begin kX2_22 rfl dX2_findSummer_37 rfl rfl (aBegin (hQ.frR hF) hlt) ?_
      rintro _ m37 ⟨rfl, hT37, hF37⟩
      refine go_as5 dX2_findSummer_40 rfl rfl (go_al5 dX2_findSummer_42 (go_il1 dX2_findSummer_44 (go_il2 dX2_findSummer_45 ?_)))
      refine go_S3 mcX2_warmByLots mvX2_warmByLots kX2_106 dX2_findSummer_46 rfl rfl (aX2_warmByLots hn hT37) ?_
      rintro _ m46 ⟨rfl, hT46, hF46⟩
      refine go_al5 dX2_findSummer_49 ?_
      refine go_V0 mcX9_run mvX9_run kX2_110 rfl dX2_findSummer_51 rfl rfl (aRun hT46) ?_
      rintro _ m51 ⟨rfl, hT51, hR51, hE51, hF51⟩
      refine go_il3 dX2_findSummer_54 (go_al5 dX2_findSummer_55 (go_getI fX2_113 rfl rfl dX2_findSummer_57 (go_iand dX2_findSummer_60 (go_is3 dX2_findSummer_61 rfl rfl (go_al0 dX2_findSummer_62 (go_dup dX2_findSummer_63 rfl (go_getI fX2_93 rfl rfl dX2_findSummer_64 (go_al5 dX2_findSummer_67 (go_getI fX2_116 rfl rfl dX2_findSummer_69 ?_)))))))))
      refine go_ifeq 79 dX2_findSummer_72 (by decide) (fun h72 => ?_) (fun h72 => ?_)
      · refine go_ic0 dX2_findSummer_79 (go_iadd dX2_findSummer_80 (go_putI fX2_93 rfl rfl dX2_findSummer_81 (go_inc4 (k := 1) dX2_findSummer_84 (by decide) rfl rfl (go_goto 16 dX2_findSummer_87 (by decide) ?_))))
        have hS : FrR 25 40 μ m51 := ((hF.f25 hF37 (by decide) (by decide)).f25 hF46 (by decide) (by decide)).f25 hF51 (by decide) (by decide)
        have e2 : (ta (trsu q s n w) 30).2 = false := by
          have h := h72
          rw [show m51.1 25 14 = gb (ta (trsu q s n w) 30).2 from hE51] at h
          cases hc : (ta (trsu q s n w) 30).2 with
          | true => first | rfl | (rw [hc] at h; exact absurd h (by decide))
          | false => first | rfl | (rw [hc] at h; exact absurd rfl h)
        have e6 : m51.1 40 6 = nI (qse q s n w) := by rw [hF51.1 40 (by decide), hF46.1 40 (by decide), hF37.1 40 (by decide)]; exact h6
        have e5 : m51.1 40 5 = 0 := by rw [hF51.1 40 (by decide), hF46.1 40 (by decide), hF37.1 40 (by decide)]; exact h5
        rw [nI_1]
        refine ih (qnum q - (w + 1)) (by omega) (w + 1) _ _ _ rfl (by omega) (hS.I _ _ (by decide) (by decide)) ?_ ?_ (fun j hj => ?_) (fun j hj1 hj2 => ?_)
        · rw [gm_Io _ _ _ (by decide)]; exact e5
        · rw [gm_Is, e6, qse, e2]
          rw [← nI_0, nI_add]; rfl
        · rw [b_and, hb j hj, hR51.2 j hj, qsh2]
          simp [hj, trsu]
        · rw [b_and, hb2 j hj1 hj2]; rfl
      · refine go_ic1 dX2_findSummer_75 (go_goto 80 dX2_findSummer_76 (by decide) (go_iadd dX2_findSummer_80 (go_putI fX2_93 rfl rfl dX2_findSummer_81 (go_inc4 (k := 1) dX2_findSummer_84 (by decide) rfl rfl (go_goto 16 dX2_findSummer_87 (by decide) ?_)))))
        have hS : FrR 25 40 μ m51 := ((hF.f25 hF37 (by decide) (by decide)).f25 hF46 (by decide) (by decide)).f25 hF51 (by decide) (by decide)
        have e2 : (ta (trsu q s n w) 30).2 = true := by
          have h := h72
          rw [show m51.1 25 14 = gb (ta (trsu q s n w) 30).2 from hE51] at h
          cases hc : (ta (trsu q s n w) 30).2 with
          | true => first | rfl | (rw [hc] at h; exact absurd h (by decide))
          | false => first | rfl | (rw [hc] at h; exact absurd rfl h)
        have e6 : m51.1 40 6 = nI (qse q s n w) := by rw [hF51.1 40 (by decide), hF46.1 40 (by decide), hF37.1 40 (by decide)]; exact h6
        have e5 : m51.1 40 5 = 0 := by rw [hF51.1 40 (by decide), hF46.1 40 (by decide), hF37.1 40 (by decide)]; exact h5
        rw [nI_1]
        refine ih (qnum q - (w + 1)) (by omega) (w + 1) _ _ _ rfl (by omega) (hS.I _ _ (by decide) (by decide)) ?_ ?_ (fun j hj => ?_) (fun j hj1 hj2 => ?_)
        · rw [gm_Io _ _ _ (by decide)]; exact e5
        · rw [gm_Is, e6, qse, e2]
          exact nI_1 _
        · rw [b_and, hb j hj, hR51.2 j hj, qsh2]
          simp [hj, trsu]
        · rw [b_and, hb2 j hj1 hj2]; rfl
set_option maxRecDepth 100000 in
set_option maxHeartbeats 400000 in
theorem aX2_findSummer {q : QS} {μ : gm_M} {s : Int32} {n : Nat} (hQ : CQ q μ) (hn : n ≤ 30) : Sat yX2_findSummer cX2_findSummer 6 none 3 [(.ref 40), (.int s), (.int (nI n))] μ (fun r μ' => r = none ∧ FrR 25 40 μ μ' ∧ μ'.1 40 6 = nI (qse q s n (qnum q)) ∧ (qnum q = 0 → μ'.1 40 5 = 0) ∧ (0 < qnum q → ∃ b : Int32, μ'.1 40 5 = gbc b ∧ (∀ j, j < 30 → bt b j = qsh2 q s n j (qnum q)) ∧ ∀ j, 30 ≤ j → j < 32 → bt b j = false)) := by
  refine Sat.of (L := [some (.ref 40), some (.int s), some (.int (nI n)), none, none, none]) (by decide) (fun _ => rfl) (fun _ => rfl) ?_
  refine go_al0 dX2_findSummer_0 (go_ic0 dX2_findSummer_1 (go_putI fX2_90 rfl rfl dX2_findSummer_2 (go_al0 dX2_findSummer_5 (go_ic0 dX2_findSummer_6 (go_putI fX2_93 rfl rfl dX2_findSummer_7 (go_ldc dX2_findSummer_10 nX2_96 (go_is3 dX2_findSummer_12 rfl rfl (go_ic0 dX2_findSummer_13 (go_is4 dX2_findSummer_14 rfl rfl ?_)))))))))
  exact aX2_sum_loop hQ hn _ 0 _ _ _ rfl (Nat.zero_le _) (((FrR.rf μ).I 5 _ (by decide) (by decide)).I 6 _ (by decide) (by decide)) (by rw [gm_Io _ _ _ (by decide), gm_Is]) (by rw [gm_Is]; rfl) (fun j hj => by rw [b_30 j (by omega)]; simp [hj, qsh2]) (fun j h1 h2 => by rw [b_30 j h2]; simp; omega)

