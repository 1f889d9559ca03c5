/-! THE MODEL: what was heard -/
def allB (p : Nat → Bool) : Nat → Bool
  | 0 => true
  | i + 1 => allB p i && p i
theorem allB_iff {p : Nat → Bool} : ∀ n, allB p n = true ↔ ∀ i, i < n → p i = true := by
  intro n
  induction n with
  | zero => exact ⟨fun _ i hi => absurd hi (Nat.not_lt_zero i), fun _ => rfl⟩
  | succ n ih =>
    rw [allB, Bool.and_eq_true, ih]
    refine ⟨fun h i hi => ?_, fun h => ⟨fun i hi => h i (by omega), h n (by omega)⟩⟩
    by_cases z : i = n
    · rw [z]; exact h.2
    · exact h.1 i (by omega)
theorem allB_no {p : Nat → Bool} {i n : Nat} (h : allB p i = false) (hi : i ≤ n) : allB p n = false := by
  cases hc : allB p n with
  | false => rfl
  | true =>
    have : allB p i = true := (allB_iff i).mpr (fun j hj => (allB_iff n).mp hc j (by omega))
    rw [this] at h; cases h
theorem allN_iff {p : Nat → Bool} : ∀ k j, allN p k j = true ↔ ∀ i, j ≤ i → i < j + k → p i = true := by
  intro k
  induction k with
  | zero => intro j; exact ⟨fun _ i h1 h2 => by omega, fun _ => rfl⟩
  | succ k ih =>
    intro j
    rw [allN, Bool.and_eq_true, ih]
    refine ⟨fun h i h1 h2 => ?_, fun h => ⟨h j (by omega) (by omega), fun i h1 h2 => h i (by omega) (by omega)⟩⟩
    by_cases z : i = j
    · rw [z]; exact h.1
    · exact h.2 i (by omega) (by omega)
theorem anyB_iff {p : Nat → Bool} : ∀ n, anyB p n = true ↔ ∃ i, i < n ∧ p i = true := by
  intro n
  induction n with
  | zero => exact ⟨fun h => (by cases h), fun h => absurd h.choose_spec.1 (Nat.not_lt_zero _)⟩
  | succ n ih =>
    rw [anyB, Bool.or_eq_true, ih]
    constructor
    · rintro (⟨i, h1, h2⟩ | h)
      · exact ⟨i, by omega, h2⟩
      · exact ⟨n, by omega, h⟩
    · rintro ⟨i, h1, h2⟩
      by_cases z : i = n
      · rw [z] at h2; exact Or.inr h2
      · exact Or.inl ⟨i, by omega, h2⟩
def hp (q : QS) (wo i : Nat) : Bool := decide (qlw q i < qnum q) && decide (qll q i = hcode (trof q wo (qlw q i)) (qln q i))
def hall (q : QS) (wo : Nat) : Bool := allB (hp q wo) (qlN q)
theorem hall_iff {q : QS} {wo : Nat} : hall q wo = true ↔ ∀ i, i < qlN q → qlw q i < qnum q ∧ qll q i = hcode (trof q wo (qlw q i)) (qln q i) := by
  unfold hall
  rw [allB_iff]
  constructor
  · intro h i hi
    have := h i hi
    unfold hp at this
    rwa [Bool.and_eq_true, decide_eq_true_eq, decide_eq_true_eq] at this
  · intro h i hi
    unfold hp
    rw [Bool.and_eq_true, decide_eq_true_eq, decide_eq_true_eq]
    exact h i hi
theorem qfit_iff {q : QS} {t : TR} {w : Nat} : qfit q t w = true ↔ ∀ i, i < qlN q → qlw q i = w → qll q i = hcode t (qln q i) := by
  unfold qfit
  rw [allN_iff]
  constructor
  · intro h i hi hw
    have := h i (Nat.zero_le _) (by omega)
    unfold qfitp at this
    rw [Bool.or_eq_true, decide_eq_true_eq, decide_eq_true_eq] at this
    rcases this with z | z
    · exact absurd hw z
    · exact z
  · intro h i _ hi
    unfold qfitp
    rw [Bool.or_eq_true, decide_eq_true_eq, decide_eq_true_eq]
    by_cases z : qlw q i = w
    · exact Or.inr (h i (by omega) z)
    · exact Or.inl z
theorem qoth_iff {q : QS} (hq : qok q) {but wo : Nat} : qoth q but wo = true ↔ ∀ i, i < qlN q → qlw q i = but ∨ (qlw q i < qnum q ∧ qll q i = hcode (trof q wo (qlw q i)) (qln q i)) := by
  have hl := hq.2.2.2.2.2.2.2.2
  unfold qoth
  rw [allN_iff]
  constructor
  · intro h i hi
    have h8 := (hl i hi).2.1
    have := h (qlw q i) (Nat.zero_le _) (by omega)
    unfold qothp at this
    rw [Bool.or_eq_true, Bool.or_eq_true, decide_eq_true_eq] at this
    rcases this with z | z | z
    · exact Or.inl z
    · exfalso
      have : anyB (fun j => decide (qlw q j = qlw q i)) (qlN q) = true := (anyB_iff _).mpr ⟨i, hi, by simp⟩
      rw [this] at z; cases z
    · rw [Bool.and_eq_true, decide_eq_true_eq] at z
      exact Or.inr ⟨z.1, qfit_iff.mp z.2 i hi rfl⟩
  · intro h w _ hw
    unfold qothp
    rw [Bool.or_eq_true, Bool.or_eq_true, decide_eq_true_eq]
    by_cases z : w = but
    · exact Or.inl z
    · refine Or.inr ?_
      cases ha : anyB (fun j => decide (qlw q j = w)) (qlN q) with
      | false => exact Or.inl rfl
      | true =>
        obtain ⟨i, hi, e⟩ := (anyB_iff _).mp ha
        have e : qlw q i = w := by simpa using e
        refine Or.inr ?_
        rw [Bool.and_eq_true, decide_eq_true_eq]
        refine ⟨?_, qfit_iff.mpr (fun j hj ej => ?_)⟩
        · rcases h i hi with y | y
          · exact absurd (e.symm.trans y) z
          · rw [← e]; exact y.1
        · rcases h j hj with y | y
          · exact absurd (ej.symm.trans y) z
          · rw [← ej]; exact y.2
theorem oth_all {q : QS} (hq : qok q) (wo : Nat) : qoth q 9 wo = hall q wo := by
  have hl := hq.2.2.2.2.2.2.2.2
  rw [Bool.eq_iff_iff, qoth_iff hq, hall_iff]
  constructor
  · intro h i hi
    rcases h i hi with z | z
    · have := (hl i hi).2.1; omega
    · exact z
  · intro h i hi; exact Or.inr (h i hi)
theorem from_all {q : QS} (hq : qok q) {w v : Nat} (hw : w < qnum q) : (qoth q w 9 && qfit q (trf (trof q 9 w) v) w) = hall (qfrm q w v) 9 := by
  rw [Bool.eq_iff_iff, Bool.and_eq_true, qoth_iff hq, qfit_iff, hall_iff]
  constructor
  · rintro ⟨h1, h2⟩ i hi
    show qlw q i < qnum q ∧ qll q i = hcode (trof (qfrm q w v) 9 (qlw q i)) (qln q i)
    by_cases z : qlw q i = w
    · rw [z, trof_frm]; exact ⟨hw, h2 i hi z⟩
    · rw [trof_frm_o _ _ _ z]
      rcases h1 i hi with y | y
      · exact absurd y z
      · exact y
  · intro h
    have h : ∀ i, i < qlN q → qlw q i < qnum q ∧ qll q i = hcode (trof (qfrm q w v) 9 (qlw q i)) (qln q i) := h
    refine ⟨fun i hi => ?_, fun i hi e => ?_⟩
    · by_cases z : qlw q i = w
      · exact Or.inl z
      · have := h i hi
        rw [trof_frm_o _ _ _ z] at this
        exact Or.inr this
    · have := h i hi
      rw [e, trof_frm] at this
      exact this.2
theorem sort_all {q : QS} (hq : qok q) {w v : Nat} (hw : w < qnum q) : (qoth q w 9 && qfit q (trs (trof q 9 w) v) w) = hall (qsrt q w v) 9 := by
  rw [Bool.eq_iff_iff, Bool.and_eq_true, qoth_iff hq, qfit_iff, hall_iff]
  constructor
  · rintro ⟨h1, h2⟩ i hi
    show qlw q i < qnum q ∧ qll q i = hcode (trof (qsrt q w v) 9 (qlw q i)) (qln q i)
    by_cases z : qlw q i = w
    · rw [z, trof_srt]; exact ⟨hw, h2 i hi z⟩
    · rw [trof_srt_o _ _ _ z]
      rcases h1 i hi with y | y
      · exact absurd y z
      · exact y
  · intro h
    have h : ∀ i, i < qlN q → qlw q i < qnum q ∧ qll q i = hcode (trof (qsrt q w v) 9 (qlw q i)) (qln q i) := h
    refine ⟨fun i hi => ?_, fun i hi e => ?_⟩
    · by_cases z : qlw q i = w
      · exact Or.inl z
      · have := h i hi
        rw [trof_srt_o _ _ _ z] at this
        exact Or.inr this
    · have := h i hi
      rw [e, trof_srt] at this
      exact this.2
set_option maxRecDepth 100000 in
set_option maxHeartbeats 400000 in
theorem mIH_loop {q : QS} {μ : gm_M} {wo : Nat} {no : Int32} (hQ : XQ q μ) (hW : WN (qwa q) μ) (hno : ∀ i, i < qtN q → bt no i = decide (i = wo)) : ∀ (k_ i : Nat) (d4 : Option Value) (m : gm_M), qlN q - i = k_ → i ≤ qlN q → (FX lR fR μ m) → Go yX12_isHeard cX12_isHeard 5 (some .boolean) 3 4 [some (.ref 52), some (.int no), some (.int (gb (allB (hp q wo) i))), some (.int (nI i)), d4] [] m (fun r' μ' => r' = some (.int (gb (hall q wo))) ∧ FX lR fR μ μ') := by
  have h8 := hQ.1.1
  have hl8 := hQ.1.2.2.2.2.2.2.2.1
  intro k_
  induction k_ using Nat.strongRecOn with
  | ind k_ ih =>
    intro i d4  m  hk_ hj hF
    refine go_il3 dX12_isHeard_4 (go_al0 dX12_isHeard_5 (go_getI fX12_237 rfl rfl dX12_isHeard_6 ?_))
    refine go_cge 107 dX12_isHeard_9 (by decide) (fun h9 => ?_) (fun h9 => ?_)
    · have he : i = qlN q := Nat.le_antisymm hj ((gm_bdN (show m.1 52 27 = nI (qlN q) from by rw [hF.2 27 (by decide)]; exact hQ.2.2.2.2.2.2.2.1) (by omega) (by omega)).mp h9)
      refine go_il2 dX12_isHeard_107 ?_
      refine go_zret dX12_isHeard_108 (gb_nar _) ?_
      subst he
      exact ⟨rfl, hF⟩
    · have hlt : i < qlN q := Nat.not_le.mp (fun zz => h9 ((gm_bdN (show m.1 52 27 = nI (qlN q) from by rw [hF.2 27 (by decide)]; exact hQ.2.2.2.2.2.2.2.1) (by omega) (by omega)).mpr zz))
      have hQm := hQ.fr hF
      have hL := hQm.2.2.2.2.2.2.2.2 i hlt
      have hb := hQ.1.2.2.2.2.2.2.2.2 i hlt
      refine go_il2 dX12_isHeard_12 ?_
      refine go_ifeqB 107 dX12_isHeard_13 (by decide) (fun h13 => ?_) (fun h13 => ?_)
      · refine go_il2 dX12_isHeard_107 ?_
        refine go_zret dX12_isHeard_108 (gb_nar _) ?_
        have e9 := allB_no h13 (show i ≤ qlN q by omega)
        exact ⟨by unfold hall; rw [e9, h13], hF⟩
      · refine go_al0 dX12_isHeard_16 (go_getR (j := 73) fX12_70 rfl rfl dX12_isHeard_17 (go_il3 dX12_isHeard_20 (go_iald rfl (vp_in_nI (show i < 8 by omega) (by decide)) dX12_isHeard_21 ?_)))
        rw [nI_clamp (show i < 2 ^ 31 by omega), hL.2.1]
        refine go_al0 dX12_isHeard_22 (go_getI fX12_119 rfl rfl dX12_isHeard_23 ?_)
        rw [hQm.2.1]
        refine go_cge 33 dX12_isHeard_26 (by decide) (fun h26 => ?_) (fun h26 => ?_)
        · refine go_ic0 dX12_isHeard_33 (go_is2 dX12_isHeard_34 rfl rfl (go_il2 dX12_isHeard_35 ?_))
          refine go_ifeq 101 dX12_isHeard_36 (by decide) (fun _ => ?_) (fun h36 => absurd h36 (by decide))
          refine go_inc3 (k := 1) dX12_isHeard_101 (by decide) rfl rfl (go_goto 4 dX12_isHeard_104 (by decide) ?_)
          have e9 : hp q wo i = false := by
            have h7 := h26
            rw [nI_leI (by omega) (by omega)] at h7
            unfold hp; rw [decide_eq_false (by omega)]; rfl
          have h9 := fun d4 => ih (qlN q - (i + 1)) (by omega) (i + 1) d4 m rfl (by omega) hF
          rw [show allB (hp q wo) (i + 1) = (allB (hp q wo) i && hp q wo i) from rfl, h13, e9] at h9
          rw [nI_1]
          exact h9 _
        · refine go_ic1 dX12_isHeard_29 (go_goto 34 dX12_isHeard_30 (by decide) (go_is2 dX12_isHeard_34 rfl rfl (go_il2 dX12_isHeard_35 ?_)))
          refine go_ifeq 101 dX12_isHeard_36 (by decide) (fun h36 => absurd h36 (by decide)) (fun _ => ?_)
          have hlw : qlw q i < qnum q := by
            have h7 := h26
            rw [nI_leI (by omega) (by omega)] at h7
            omega
          have htok := trof_ok (wo := wo) hQ.1 hlw
          refine go_al0 dX12_isHeard_39 (go_al0 dX12_isHeard_40 (go_getR (j := 73) fX12_70 rfl rfl dX12_isHeard_41 (go_il3 dX12_isHeard_44 (go_iald rfl (vp_in_nI (show i < 8 by omega) (by decide)) dX12_isHeard_45 ?_))))
          rw [nI_clamp (show i < 2 ^ 31 by omega), hL.2.1]
          refine go_il1 dX12_isHeard_46 ?_
          refine go_V2 mcX12_turns mvX12_turns kX12_182 rfl dX12_isHeard_47 rfl rfl (mTurns (k := qlw q i) hQm (by omega) hno) ?_
          rintro _ m47 ⟨rfl, hF47, hB47, hK47⟩
          have hF1 : FX lR fR μ m47 := hF.tr hF47.er
          have hM := MT_of (wo := wo) (hQ.fr hF1) hlw (hW.fr hF1) hB47 hK47
          refine go_al0 dX12_isHeard_50 (go_al0 dX12_isHeard_51 (go_getR (j := 73) fX12_70 rfl rfl dX12_isHeard_52 (go_il3 dX12_isHeard_55 (go_iald rfl (vp_in_nI (show i < 8 by omega) (by decide)) dX12_isHeard_56 ?_))))
          rw [nI_clamp (show i < 2 ^ 31 by omega), hF47.1 73 (by decide) (by decide), hL.2.1]
          refine go_V1 mcX12_goes mvX12_goes kX12_186 rfl dX12_isHeard_57 rfl rfl (mGoes hM) ?_
          rintro _ m57 ⟨rfl, hF57, hO57⟩
          have hO : MO (trof q wo (qlw q i)) 30 m57 := hO57
          refine go_al0 dX12_isHeard_60 (go_getR (j := 66) fX12_49 rfl rfl dX12_isHeard_61 (go_al0 dX12_isHeard_64 (go_getR (j := 72) fX12_67 rfl rfl dX12_isHeard_65 (go_il3 dX12_isHeard_68 (go_iald rfl (vp_in_nI (show i < 8 by omega) (by decide)) dX12_isHeard_69 ?_)))))
          rw [nI_clamp (show i < 2 ^ 31 by omega), hF57.1 72 (by decide) (by decide), hF47.1 72 (by decide) (by decide), hL.1]
          refine go_iald rfl (vp_in_nI hb.1 (by decide)) dX12_isHeard_70 ?_
          rw [nI_clamp (show qln q i < 2 ^ 31 by omega), (hO _ hb.1).2.1]
          refine go_is4 dX12_isHeard_71 rfl rfl (go_il4 dX12_isHeard_73 (go_icm1 dX12_isHeard_75 ?_))
          refine go_cne 84 dX12_isHeard_76 (by decide) (fun h76 => ?_) (fun h76 => ?_)
          · refine go_il4 dX12_isHeard_84 (go_al0 dX12_isHeard_86 (go_getR (j := 74) fX12_73 rfl rfl dX12_isHeard_87 (go_il3 dX12_isHeard_90 (go_iald rfl (vp_in_nI (show i < 8 by omega) (by decide)) dX12_isHeard_91 ?_))))
            rw [nI_clamp (show i < 2 ^ 31 by omega), hF57.1 74 (by decide) (by decide), hF47.1 74 (by decide) (by decide), hL.2.2]
            refine go_cne 99 dX12_isHeard_92 (by decide) (fun h92 => ?_) (fun h92 => ?_)
            · refine go_ic0 dX12_isHeard_99 (go_is2 dX12_isHeard_100 rfl rfl (go_inc3 (k := 1) dX12_isHeard_101 (by decide) rfl rfl (go_goto 4 dX12_isHeard_104 (by decide) ?_)))
              have hc := hcode_I htok (qln q i)
              rw [if_neg h76] at hc
              have e8 : ¬ qll q i = hcode (trof q wo (qlw q i)) (qln q i) := fun z => h92 (by rw [hc.1, z])
              have e9 : hp q wo i = false := by unfold hp; rw [decide_eq_false e8, Bool.and_false]
              have h9 := fun d4 => ih (qlN q - (i + 1)) (by omega) (i + 1) d4 m57 rfl (by omega) (hF1.tr hF57.ef)
              rw [show allB (hp q wo) (i + 1) = (allB (hp q wo) i && hp q wo i) from rfl, h13, e9] at h9
              rw [nI_1]
              exact h9 _
            · refine go_ic1 dX12_isHeard_95 (go_goto 100 dX12_isHeard_96 (by decide) (go_is2 dX12_isHeard_100 rfl rfl (go_inc3 (k := 1) dX12_isHeard_101 (by decide) rfl rfl (go_goto 4 dX12_isHeard_104 (by decide) ?_))))
              have hc := hcode_I htok (qln q i)
              rw [if_neg h76] at hc
              have e8 : qll q i = hcode (trof q wo (qlw q i)) (qln q i) := by
                have h7 := h92
                rw [hc.1] at h7
                exact ((nI_eq (by omega) (by omega)).mp h7).symm
              have e9 : hp q wo i = true := by unfold hp; rw [decide_eq_true hlw, decide_eq_true e8]; rfl
              have h9 := fun d4 => ih (qlN q - (i + 1)) (by omega) (i + 1) d4 m57 rfl (by omega) (hF1.tr hF57.ef)
              rw [show allB (hp q wo) (i + 1) = (allB (hp q wo) i && hp q wo i) from rfl, h13, e9] at h9
              rw [nI_1]
              exact h9 _
          · refine go_bipush (v := 8) dX12_isHeard_79 (by decide) (go_goto 86 dX12_isHeard_81 (by decide) (go_al0 dX12_isHeard_86 (go_getR (j := 74) fX12_73 rfl rfl dX12_isHeard_87 (go_il3 dX12_isHeard_90 (go_iald rfl (vp_in_nI (show i < 8 by omega) (by decide)) dX12_isHeard_91 ?_)))))
            rw [nI_clamp (show i < 2 ^ 31 by omega), hF57.1 74 (by decide) (by decide), hF47.1 74 (by decide) (by decide), hL.2.2]
            refine go_cne 99 dX12_isHeard_92 (by decide) (fun h92 => ?_) (fun h92 => ?_)
            · refine go_ic0 dX12_isHeard_99 (go_is2 dX12_isHeard_100 rfl rfl (go_inc3 (k := 1) dX12_isHeard_101 (by decide) rfl rfl (go_goto 4 dX12_isHeard_104 (by decide) ?_)))
              have hc := hcode_I htok (qln q i)
              rw [if_pos h76] at hc
              have e8 : ¬ qll q i = hcode (trof q wo (qlw q i)) (qln q i) := fun z => h92 (by rw [hc.1, z])
              have e9 : hp q wo i = false := by unfold hp; rw [decide_eq_false e8, Bool.and_false]
              have h9 := fun d4 => ih (qlN q - (i + 1)) (by omega) (i + 1) d4 m57 rfl (by omega) (hF1.tr hF57.ef)
              rw [show allB (hp q wo) (i + 1) = (allB (hp q wo) i && hp q wo i) from rfl, h13, e9] at h9
              rw [nI_1]
              exact h9 _
            · refine go_ic1 dX12_isHeard_95 (go_goto 100 dX12_isHeard_96 (by decide) (go_is2 dX12_isHeard_100 rfl rfl (go_inc3 (k := 1) dX12_isHeard_101 (by decide) rfl rfl (go_goto 4 dX12_isHeard_104 (by decide) ?_))))
              have hc := hcode_I htok (qln q i)
              rw [if_pos h76] at hc
              have e8 : qll q i = hcode (trof q wo (qlw q i)) (qln q i) := by
                have h7 := h92
                rw [hc.1] at h7
                exact ((nI_eq (by omega) (by omega)).mp h7).symm
              have e9 : hp q wo i = true := by unfold hp; rw [decide_eq_true hlw, decide_eq_true e8]; rfl
              have h9 := fun d4 => ih (qlN q - (i + 1)) (by omega) (i + 1) d4 m57 rfl (by omega) (hF1.tr hF57.ef)
              rw [show allB (hp q wo) (i + 1) = (allB (hp q wo) i && hp q wo i) from rfl, h13, e9] at h9
              rw [nI_1]
              exact h9 _

set_option maxRecDepth 100000 in
set_option maxHeartbeats 400000 in
theorem mIsHeard {q : QS} {μ : gm_M} {wo : Nat} {no : Int32} (hQ : XQ q μ) (hW : WN (qwa q) μ) (hno : ∀ i, i < qtN q → bt no i = decide (i = wo)) : Sat yX12_isHeard cX12_isHeard 5 (some .boolean) 3 [(.ref 52), (.int no)] μ (fun r' μ' => r' = some (.int (gb (hall q wo))) ∧ FX lR fR μ μ') := by
  refine Sat.of (L := [some (.ref 52), some (.int no), none, none, none]) (by decide) (fun _ => rfl) (fun _ => rfl) ?_
  refine go_ic1 dX12_isHeard_0 (go_is2 dX12_isHeard_1 rfl rfl (go_ic0 dX12_isHeard_2 (go_is3 dX12_isHeard_3 rfl rfl ?_)))
  rw [← nI_0]
  exact mIH_loop hQ hW hno _ 0 _ _ rfl (Nat.zero_le _) (FX.rf μ)

theorem no1 {N i : Nat} (hN : N ≤ 8) (hi : i < 8) : ∀ j, j < N → bt ((1 : Int32) <<< (nI i &&& 31)) j = decide (j = i) := fun j hj => b_one (by omega) (by omega)
set_option maxRecDepth 100000 in
set_option maxHeartbeats 400000 in
theorem mNe_loop {r : RS} {μ : gm_M} (ht8 : qtN (qof r) ≤ 8) : ∀ (k_ i : Nat) (b : Int32) (m : gm_M), qtN (qof r) - i = k_ → i ≤ qtN (qof r) → (RDp r μ m) → (WN (qwa (qof r)) m) → (∀ j, j < 32 → bt b j = (decide (j < i) && hall (qof r) j)) → Go yX12_neverNow cX12_neverNow 3 (some .int) 7 8 [some (.ref 52), some (.int b), some (.int (nI i))] [] m (fun r' μ' => r' = some (.int (sNever (qof r))) ∧ RDp r μ μ') := by
  intro k_
  induction k_ using Nat.strongRecOn with
  | ind k_ ih =>
    intro i b  m  hk_ hj hR hW hb
    refine go_il2 dX12_neverNow_8 (go_al0 dX12_neverNow_9 (go_getI fX12_154 rfl rfl dX12_neverNow_10 ?_))
    refine go_cge 42 dX12_neverNow_13 (by decide) (fun h13 => ?_) (fun h13 => ?_)
    · have he : i = qtN (qof r) := Nat.le_antisymm hj ((gm_bdN hR.1.2.2.2.2.2.1.1 (by omega) (by omega)).mp h13)
      refine go_il1 dX12_neverNow_42 ?_
      refine go_iret dX12_neverNow_43 ?_
      subst he
      refine ⟨?_, hR⟩
      rw [mkB_eq hb]
      unfold sNever
      simp only [oth_all hR.1.1]
    · have hlt : i < qtN (qof r) := Nat.not_le.mp (fun zz => h13 ((gm_bdN hR.1.2.2.2.2.2.1.1 (by omega) (by omega)).mpr zz))
      refine go_il1 dX12_neverNow_16 (go_al0 dX12_neverNow_17 (go_ic1 dX12_neverNow_18 (go_il2 dX12_neverNow_19 (go_ishl dX12_neverNow_20 ?_))))
      refine go_V1 mcX12_isHeard mvX12_isHeard kX12_240 rfl dX12_neverNow_21 rfl rfl (mIsHeard hR.1 hW (no1 ht8 (by omega))) ?_
      rintro _ m21 ⟨rfl, hF21⟩
      refine go_ifeqB 33 dX12_neverNow_24 (by decide) (fun h24 => ?_) (fun h24 => ?_)
      · refine go_ic0 dX12_neverNow_33 (go_ior dX12_neverNow_34 (go_is1 dX12_neverNow_35 rfl rfl (go_inc2 (k := 1) dX12_neverNow_36 (by decide) rfl rfl (go_goto 8 dX12_neverNow_39 (by decide) ?_))))
        rw [nI_1]
        refine ih (qtN (qof r) - (i + 1)) (by omega) (i + 1) _ _ rfl (by omega) (hR.fl hF21.rl) (hW.fr hF21) (fun j hj => ?_)
        rw [b_or, b_0, Bool.or_false, hb j hj]
        by_cases z : j = i
        · subst z; simp; exact h24
        · have : (j < i + 1) = (j < i) := propext (by omega)
          simp [this]
      · refine go_ic1 dX12_neverNow_27 (go_il2 dX12_neverNow_28 (go_ishl dX12_neverNow_29 (go_goto 34 dX12_neverNow_30 (by decide) (go_ior dX12_neverNow_34 (go_is1 dX12_neverNow_35 rfl rfl (go_inc2 (k := 1) dX12_neverNow_36 (by decide) rfl rfl (go_goto 8 dX12_neverNow_39 (by decide) ?_)))))))
        rw [nI_1]
        refine ih (qtN (qof r) - (i + 1)) (by omega) (i + 1) _ _ rfl (by omega) (hR.fl hF21.rl) (hW.fr hF21) (fun j hj => ?_)
        rw [b_or, b_one (by omega) hj, hb j hj]
        by_cases z : j = i
        · subst z; simp; exact h24
        · have : (j < i + 1) = (j < i) := propext (by omega)
          simp [this, z]

set_option maxRecDepth 100000 in
set_option maxHeartbeats 400000 in
theorem mNeverNow {r : RS} {μ : gm_M} (hA : MA r μ) : Sat yX12_neverNow cX12_neverNow 3 (some .int) 7 [(.ref 52)] μ (fun r' μ' => r' = some (.int (sNever (qof r))) ∧ RDp r μ μ') := by
  refine Sat.of (L := [some (.ref 52), none, none]) (by decide) (fun _ => rfl) (fun _ => rfl) ?_
  refine go_al0 dX12_neverNow_0 ?_
  refine go_V0 mcX12_asTold mvX12_asTold kX12_190 rfl dX12_neverNow_1 rfl rfl (mAsTold hA) ?_
  rintro _ m1 ⟨rfl, hR1, hW1⟩
  refine go_ic0 dX12_neverNow_4 (go_is1 dX12_neverNow_5 rfl rfl (go_ic0 dX12_neverNow_6 (go_is2 dX12_neverNow_7 rfl rfl ?_)))
  rw [← nI_0]
  exact mNe_loop hR1.1.1.2.2.2.2.2.1.1 _ 0 _ _ rfl (Nat.zero_le _) hR1 hW1 (fun j hj => by rw [nI_0, b_0]; simp)

set_option maxRecDepth 100000 in
set_option maxHeartbeats 400000 in
theorem m_never {r : RS} {μ : gm_M} (hA : MA r μ) : Sat yX12_never cX12_never 1 (some .int) 8 [(.ref 52)] μ (fun r' μ' => r' = some (.int (sNever (qof r))) ∧ FX lQ fQ μ μ') := by
  refine Sat.of (L := [some (.ref 52)]) (by decide) (fun _ => rfl) (fun _ => rfl) ?_
  refine go_al0 dX12_never_0 ?_
  refine go_V0 mcX12_neverNow mvX12_neverNow kX12_243 rfl dX12_never_1 rfl rfl (mNeverNow hA) ?_
  rintro _ m1 ⟨rfl, hR1⟩
  refine go_iret dX12_never_4 ?_
  exact ⟨rfl, hR1.2.2⟩

