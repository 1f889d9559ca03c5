/-! THE MODEL: turns, runs -/
def WN (g : Nat → Nat) (m : gm_M) : Prop := ∀ n, n < 30 → m.1 64 n = nI (g n) ∧ g n ≤ 9
theorem WN.fr {g : Nat → Nat} {m m' : gm_M} (h : WN g m) (e : FX lR fR m m') : WN g m' := by
  unfold WN; rw [e.1 64 (by decide) (by decide)]; exact h
def anyT (q : QS) (wo k n : Nat) (i : Nat) : Bool := anyB (fun i => decide (i ≠ wo) && (decide (qtw q i = k) && decide (qtn q i = n))) i
def anyK (q : QS) (k n : Nat) (i : Nat) : Bool := anyB (fun i => decide (qkw q i = k) && decide (qkn q i = n)) i
theorem or_bit {x : Int32} {a n : Nat} (ha : a < 30) (hn : n < 30) : bt (x ||| (1 : Int32) <<< (nI a &&& 31)) n = (bt x n || decide (a = n)) := by
  rw [b_or, b_one (by omega) (by omega)]
  by_cases e : n = a
  · subst e; simp
  · have : ¬ a = n := fun z => e z.symm
    simp [e, this]
theorem or_0 {x : Int32} {n : Nat} : bt (x ||| 0) n = bt x n := by rw [b_or, b_0, Bool.or_false]
set_option maxRecDepth 100000 in
set_option maxHeartbeats 400000 in
theorem mTu_loop2 {q : QS} {μ : gm_M} {wo k : Nat} {no : Int32} (hQ : XQ q μ) (hk8 : k < 8) : ∀ (k_ i : Nat) (m : gm_M), qkN q - i = k_ → i ≤ qkN q → (FX [] fR μ m) → (∀ n, n < 30 → bt (m.1 52 18) n = anyT q wo k n (qtN q)) → (∀ n, n < 30 → bt (m.1 52 19) n = anyK q k n i) → Go yX12_turns cX12_turns 4 none 1 67 [some (.ref 52), some (.int (nI k)), some (.int no), some (.int (nI i))] [] m (fun r μ' => r = none ∧ FX [] fR μ μ' ∧ (∀ n, n < 30 → bt (μ'.1 52 18) n = anyT q wo k n (qtN q)) ∧ ∀ n, n < 30 → bt (μ'.1 52 19) n = anyK q k n (qkN q)) := by
  have hq := hQ.1
  have hN8 := hQ.1.2.2.2.2.2.1.1
  have hK4 := hQ.1.2.2.2.2.2.2.1.1
  intro k_
  induction k_ using Nat.strongRecOn with
  | ind k_ ih =>
    intro i m  hk_ hj hF hB hK
    refine go_il3 dX12_turns_67 (go_al0 dX12_turns_68 (go_getI fX12_157 rfl rfl dX12_turns_69 ?_))
    refine go_cge 112 dX12_turns_72 (by decide) (fun h72 => ?_) (fun h72 => ?_)
    · have he : i = qkN q := Nat.le_antisymm hj ((gm_bdN (by rw [hF.2 14 (by decide)]; exact hQ.2.2.2.2.2.2.1.1) (by omega) (by omega)).mp h72)
      refine go_vret dX12_turns_112 ?_
      subst he
      exact ⟨rfl, hF, hB, hK⟩
    · have hlt : i < qkN q := Nat.not_le.mp (fun zz => h72 ((gm_bdN (by rw [hF.2 14 (by decide)]; exact hQ.2.2.2.2.2.2.1.1) (by omega) (by omega)).mpr zz))
      have hbi := hQ.1.2.2.2.2.2.2.1.2 i hlt
      have h61 : m.1 63 i = nI (qkw q i) := by rw [hF.1 63 (by decide) (by decide)]; exact (hQ.2.2.2.2.2.2.1.2 i hlt).2
      have h60 : m.1 62 i = nI (qkn q i) := by rw [hF.1 62 (by decide) (by decide)]; exact (hQ.2.2.2.2.2.2.1.2 i hlt).1
      refine go_al0 dX12_turns_75 (go_dup dX12_turns_76 rfl (go_getI fX12_172 rfl rfl dX12_turns_77 (go_al0 dX12_turns_80 (go_getR (j := 63) fX12_40 rfl rfl dX12_turns_81 (go_il3 dX12_turns_84 (go_iald rfl (vp_in_nI (by omega) (by decide)) dX12_turns_85 ?_))))))
      rw [nI_clamp (show i < 2 ^ 31 by omega), h61]
      refine go_il1 dX12_turns_86 ?_
      refine go_cne 101 dX12_turns_87 (by decide) (fun h87 => ?_) (fun h87 => ?_)
      · refine go_ic0 dX12_turns_101 (go_ior dX12_turns_102 (go_putI fX12_172 rfl rfl dX12_turns_103 (go_inc3 (k := 1) dX12_turns_106 (by decide) rfl rfl (go_goto 67 dX12_turns_109 (by decide) ?_))))
        rw [nI_1]
        refine ih (qkN q - (i + 1)) (by omega) (i + 1) _ rfl (by omega) (hF.F _ (by decide)) (fun n hn => by rw [gm_Io _ _ _ (by decide)]; exact hB n hn) (fun n hn => ?_)
        have hb9 := hK n hn
        have e9 : ¬ qkw q i = k := fun z => h87 (by rw [z])
        rw [gm_Is, or_0, hb9]; unfold anyK; rw [show anyB _ (i + 1) = (anyB _ i || _) from rfl]; simp [e9]
      · refine go_ic1 dX12_turns_90 (go_al0 dX12_turns_91 (go_getR (j := 62) fX12_37 rfl rfl dX12_turns_92 (go_il3 dX12_turns_95 (go_iald rfl (vp_in_nI (by omega) (by decide)) dX12_turns_96 ?_))))
        rw [nI_clamp (show i < 2 ^ 31 by omega), h60]
        refine go_ishl dX12_turns_97 (go_goto 102 dX12_turns_98 (by decide) (go_ior dX12_turns_102 (go_putI fX12_172 rfl rfl dX12_turns_103 (go_inc3 (k := 1) dX12_turns_106 (by decide) rfl rfl (go_goto 67 dX12_turns_109 (by decide) ?_)))))
        rw [nI_1]
        refine ih (qkN q - (i + 1)) (by omega) (i + 1) _ rfl (by omega) (hF.F _ (by decide)) (fun n hn => by rw [gm_Io _ _ _ (by decide)]; exact hB n hn) (fun n hn => ?_)
        have hb9 := hK n hn
        have e8 : qkw q i = k := (nI_eq (by omega) (by omega)).mp h87
        rw [gm_Is, or_bit hbi.1 hn, hb9]; unfold anyK; rw [show anyB _ (i + 1) = (anyB _ i || _) from rfl]; simp [e8]

set_option maxRecDepth 100000 in
set_option maxHeartbeats 400000 in
theorem mTu_loop1 {q : QS} {μ : gm_M} {wo k : Nat} {no : Int32} (hQ : XQ q μ) (hk8 : k < 8) (hno : ∀ i, i < qtN q → bt no i = decide (i = wo)) : ∀ (k_ i : Nat) (m : gm_M), qtN q - i = k_ → i ≤ qtN q → (FX [] fR μ m) → (∀ n, n < 30 → bt (m.1 52 18) n = anyT q wo k n i) → (∀ n, n < 30 → bt (m.1 52 19) n = anyK q k n 0) → Go yX12_turns cX12_turns 4 none 1 12 [some (.ref 52), some (.int (nI k)), some (.int no), some (.int (nI i))] [] m (fun r μ' => r = none ∧ FX [] fR μ μ' ∧ (∀ n, n < 30 → bt (μ'.1 52 18) n = anyT q wo k n (qtN q)) ∧ ∀ n, n < 30 → bt (μ'.1 52 19) n = anyK q k n (qkN q)) := by
  have hq := hQ.1
  have hN8 := hQ.1.2.2.2.2.2.1.1
  have hK4 := hQ.1.2.2.2.2.2.2.1.1
  intro k_
  induction k_ using Nat.strongRecOn with
  | ind k_ ih =>
    intro i m  hk_ hj hF hB hK
    refine go_il3 dX12_turns_12 (go_al0 dX12_turns_13 (go_getI fX12_154 rfl rfl dX12_turns_14 ?_))
    refine go_cge 65 dX12_turns_17 (by decide) (fun h17 => ?_) (fun h17 => ?_)
    · have he : i = qtN q := Nat.le_antisymm hj ((gm_bdN (by rw [hF.2 11 (by decide)]; exact hQ.2.2.2.2.2.1.1) (by omega) (by omega)).mp h17)
      refine go_ic0 dX12_turns_65 (go_is3 dX12_turns_66 rfl rfl ?_)
      subst he
      rw [← nI_0]
      exact mTu_loop2 hQ hk8 _ 0 _ rfl (Nat.zero_le _) hF hB hK
    · have hlt : i < qtN q := Nat.not_le.mp (fun zz => h17 ((gm_bdN (by rw [hF.2 11 (by decide)]; exact hQ.2.2.2.2.2.1.1) (by omega) (by omega)).mpr zz))
      have hbi := hQ.1.2.2.2.2.2.1.2 i hlt
      have h61 : m.1 61 i = nI (qtw q i) := by rw [hF.1 61 (by decide) (by decide)]; exact (hQ.2.2.2.2.2.1.2 i hlt).2
      have h60 : m.1 60 i = nI (qtn q i) := by rw [hF.1 60 (by decide) (by decide)]; exact (hQ.2.2.2.2.2.1.2 i hlt).1
      refine go_al0 dX12_turns_20 (go_dup dX12_turns_21 rfl (go_getI fX12_169 rfl rfl dX12_turns_22 (go_al0 dX12_turns_25 (go_getR (j := 61) fX12_34 rfl rfl dX12_turns_26 (go_il3 dX12_turns_29 (go_iald rfl (vp_in_nI (by omega) (by decide)) dX12_turns_30 ?_))))))
      rw [nI_clamp (show i < 2 ^ 31 by omega), h61]
      refine go_il1 dX12_turns_31 ?_
      refine go_cne 54 dX12_turns_32 (by decide) (fun h32 => ?_) (fun h32 => ?_)
      · refine go_ic0 dX12_turns_54 (go_ior dX12_turns_55 (go_putI fX12_169 rfl rfl dX12_turns_56 (go_inc3 (k := 1) dX12_turns_59 (by decide) rfl rfl (go_goto 12 dX12_turns_62 (by decide) ?_))))
        rw [nI_1]
        refine ih (qtN q - (i + 1)) (by omega) (i + 1) _ rfl (by omega) (hF.F _ (by decide)) (fun n hn => ?_) (fun n hn => by rw [gm_Io _ _ _ (by decide)]; exact hK n hn)
        have hb9 := hB n hn
        have e9 : ¬ qtw q i = k := fun z => h32 (by rw [z])
        rw [gm_Is, or_0, hb9]; unfold anyT; rw [show anyB _ (i + 1) = (anyB _ i || _) from rfl]; simp [e9]
      · refine go_il2 dX12_turns_35 (go_il3 dX12_turns_36 (go_S2r mcX12_isIn mvX12_isIn kX12_175 dX12_turns_37 rfl rfl (aIsIn (by omega) _) ?_))
        refine go_ifneB 54 dX12_turns_40 (by decide) (fun h40 => ?_) (fun h40 => ?_)
        · refine go_ic0 dX12_turns_54 (go_ior dX12_turns_55 (go_putI fX12_169 rfl rfl dX12_turns_56 (go_inc3 (k := 1) dX12_turns_59 (by decide) rfl rfl (go_goto 12 dX12_turns_62 (by decide) ?_))))
          rw [nI_1]
          refine ih (qtN q - (i + 1)) (by omega) (i + 1) _ rfl (by omega) (hF.F _ (by decide)) (fun n hn => ?_) (fun n hn => by rw [gm_Io _ _ _ (by decide)]; exact hK n hn)
          have hb9 := hB n hn
          have e9 : i = wo := by have := hno i hlt; rw [h40] at this; exact (decide_eq_true_eq.mp this.symm)
          rw [gm_Is, or_0, hb9]; unfold anyT; rw [show anyB _ (i + 1) = (anyB _ i || _) from rfl]; simp [e9]
        · refine go_ic1 dX12_turns_43 (go_al0 dX12_turns_44 (go_getR (j := 60) fX12_31 rfl rfl dX12_turns_45 (go_il3 dX12_turns_48 (go_iald rfl (vp_in_nI (by omega) (by decide)) dX12_turns_49 ?_))))
          rw [nI_clamp (show i < 2 ^ 31 by omega), h60]
          refine go_ishl dX12_turns_50 (go_goto 55 dX12_turns_51 (by decide) (go_ior dX12_turns_55 (go_putI fX12_169 rfl rfl dX12_turns_56 (go_inc3 (k := 1) dX12_turns_59 (by decide) rfl rfl (go_goto 12 dX12_turns_62 (by decide) ?_)))))
          rw [nI_1]
          refine ih (qtN q - (i + 1)) (by omega) (i + 1) _ rfl (by omega) (hF.F _ (by decide)) (fun n hn => ?_) (fun n hn => by rw [gm_Io _ _ _ (by decide)]; exact hK n hn)
          have hb9 := hB n hn
          have e9 : ¬ i = wo := by have := hno i hlt; rw [h40] at this; exact (decide_eq_false_iff_not.mp this.symm)
          have e8 : qtw q i = k := (nI_eq (by omega) (by omega)).mp h32
          rw [gm_Is, or_bit hbi.1 hn, hb9]; unfold anyT; rw [show anyB _ (i + 1) = (anyB _ i || _) from rfl]; simp [e9, e8]

set_option maxRecDepth 100000 in
set_option maxHeartbeats 400000 in
theorem mTurns {q : QS} {μ : gm_M} {wo k : Nat} {no : Int32} (hQ : XQ q μ) (hk8 : k < 8) (hno : ∀ i, i < qtN q → bt no i = decide (i = wo)) : Sat yX12_turns cX12_turns 4 none 1 [(.ref 52), (.int (nI k)), (.int no)] μ (fun r μ' => r = none ∧ FX [] fR μ μ' ∧ (∀ n, n < 30 → bt (μ'.1 52 18) n = anyT q wo k n (qtN q)) ∧ ∀ n, n < 30 → bt (μ'.1 52 19) n = anyK q k n (qkN q)) := by
  refine Sat.of (L := [some (.ref 52), some (.int (nI k)), some (.int no), none]) (by decide) (fun _ => rfl) (fun _ => rfl) ?_
  refine go_al0 dX12_turns_0 (go_ic0 dX12_turns_1 (go_putI fX12_169 rfl rfl dX12_turns_2 (go_al0 dX12_turns_5 (go_ic0 dX12_turns_6 (go_putI fX12_172 rfl rfl dX12_turns_7 (go_ic0 dX12_turns_10 (go_is3 dX12_turns_11 rfl rfl ?_)))))))
  rw [← nI_0]
  exact mTu_loop1 hQ hk8 hno _ 0 _ rfl (Nat.zero_le _) (((FX.rf μ).F _ (by decide)).F _ (by decide)) (fun n hn => by rw [gm_Io _ _ _ (by decide), gm_Is, nI_0, b_0]; rfl) (fun n hn => by rw [gm_Is, nI_0, b_0]; rfl)

theorem MT_of {q : QS} {m : gm_M} {wo k : Nat} {g : Nat → Nat} {T : Nat → Bool} (hQ : XQ q m) (hk : k < qnum q) (hW : WN g m) (h18 : ∀ n, n < 30 → bt (m.1 52 18) n = T n) (h19 : ∀ n, n < 30 → bt (m.1 52 19) n = anyK q k n (qkN q)) : MT (trt (trwa (trof q wo k) g) T) k m := by
  have ho := trof_ok (wo := wo) hQ.1 hk
  obtain ⟨o1, o2, o3, o4, o5, o6, o7, o8, o9⟩ := ho
  have hr := hQ.2.2.1 k hk
  have h8 := hQ.1.1
  exact ⟨⟨o1, o2, o3, o4, o5, o6, o7, o8, fun n hn => (hW n hn).2⟩, by omega, hr.1, hr.2.1, hr.2.2.1, hr.2.2.2, hQ.2.2.2.2.1.1, hQ.2.2.2.2.1.2, h18, h19, fun n hn => (hW n hn).1⟩
theorem FX.er {l : List Nat} {m m' : gm_M} (h : FX [] fR m m') : FX l fR m m' := h.wide (fun x hx => by cases hx) (fun x hx => hx)
theorem FX.ef {f : List Nat} {m m' : gm_M} (h : FX lR [] m m') : FX lR f m m' := h.wide (fun x hx => hx) (fun x hx => by cases hx)
theorem XQ.fr {q : QS} {m m' : gm_M} (h : XQ q m) (e : FX lR fR m m') : XQ q m' := h.fl e.rl
theorem no0 (q : QS) (h : qok q) : ∀ i, i < qtN q → bt 0 i = decide (i = 9) := fun i hi => by
  have := h.2.2.2.2.2.1.1
  rw [b_0, decide_eq_false (by omega)]
set_option maxRecDepth 100000 in
set_option maxHeartbeats 400000 in
theorem mRuns {q : QS} {μ : gm_M} {k : Nat} {g : Nat → Nat} (hQ : XQ q μ) (hk : k < qnum q) (hW : WN g μ) : Sat yX12_runs cX12_runs 2 none 3 [(.ref 52), (.int (nI k))] μ (fun r μ' => r = none ∧ FX lR fR μ μ' ∧ MO (trwa (trof q 9 k) g) 30 μ') := by
  refine Sat.of (L := [some (.ref 52), some (.int (nI k))]) (by decide) (fun _ => rfl) (fun _ => rfl) ?_
  refine go_al0 dX12_runs_0 (go_il1 dX12_runs_1 (go_ic0 dX12_runs_2 ?_))
  refine go_V2 mcX12_turns mvX12_turns kX12_182 rfl dX12_runs_3 rfl rfl (mTurns hQ (show k < 8 by have := hQ.1.1; omega) (no0 q hQ.1)) ?_
  rintro _ m3 ⟨rfl, hF3, hB3, hK3⟩
  have hF1 : FX lR fR μ m3 := hF3.er
  have hM := MT_of (wo := 9) (hQ.fr hF1) hk (hW.fr hF1) hB3 hK3
  refine go_al0 dX12_runs_6 (go_il1 dX12_runs_7 ?_)
  refine go_V1 mcX12_goes mvX12_goes kX12_186 rfl dX12_runs_8 rfl rfl (mGoes hM) ?_
  rintro _ m8 ⟨rfl, hF8, hO8⟩
  refine go_vret dX12_runs_11 ?_
  exact ⟨rfl, hF1.tr hF8.ef, hO8⟩

