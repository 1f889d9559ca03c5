/-! CHANCES: cold by chance -/
theorem gm_Jn (μ : gm_M) {c a : Nat} (k : Nat) (v : Int64) (h : a ≠ c) : (gm_J μ c k v).2 a = μ.2 a := by simp [gm_J, h]
theorem gm_Js (μ : gm_M) (c k : Nat) (v : Int64) : (gm_J μ c k v).2 c k = v := by rw [gm_J2, if_pos rfl, if_pos rfl]
theorem gm_Jo (μ : gm_M) (c : Nat) {k j : Nat} (v : Int64) (h : j ≠ k) : (gm_J μ c k v).2 c j = μ.2 c j := by rw [gm_J2, if_pos rfl, if_neg h]
/-- an age at which the wheel isn't over -/
def okA (t : TR) (a : Nat) : Bool := (tmo t a).isSome && decide (a < 100)
/-- the weights of the next night, out of the first b ages -/
def fwst (t : TR) (c s g0 g1 : Nat) (w : Nat → Nat) : Nat → Nat → Nat
  | 0, _ => 0
  | b + 1, a => fwst t c s g0 g1 w b a + ((if a = b + g0 ∧ okA t a = true then w b * c else 0) + (if a = b + g1 ∧ okA t a = true then w b * (s - c) else 0))
theorem TI.j {t : TR} {μ : gm_M} (h : TI t μ) (c k : Nat) (v : Int64) : TI t (gm_J μ c k v) := h.cong (fun _ _ _ => rfl) rfl rfl
def cweigh (t : TR) (μ : gm_M) (a : Nat) (w : Int64) : gm_M := if okA t a = true then gm_J μ 42 a (μ.2 42 a + w) else μ
theorem cweigh_1 (t : TR) (μ : gm_M) (a : Nat) (w : Int64) : (cweigh t μ a w).1 = μ.1 := by unfold cweigh; split <;> rfl
theorem cweigh_2 (t : TR) (μ : gm_M) (a : Nat) (w : Int64) {c : Nat} (h : c ≠ 42) : (cweigh t μ a w).2 c = μ.2 c := by
  unfold cweigh
  split
  · exact gm_Jn _ _ _ h
  · rfl
theorem cweigh_42 (t : TR) (μ : gm_M) (a : Nat) (w : Int64) (i : Nat) : (cweigh t μ a w).2 42 i = μ.2 42 i + (if i = a ∧ okA t i = true then w else 0) := by
  unfold cweigh
  by_cases h : okA t a = true
  · rw [if_pos h, gm_J2, if_pos rfl]
    by_cases e : i = a
    · subst e; rw [if_pos rfl, if_pos ⟨rfl, h⟩]
    · rw [if_neg e, if_neg (fun z => e z.1), Int64.add_zero]
  · rw [if_neg h, if_neg, Int64.add_zero]
    rintro ⟨rfl, z⟩
    exact h z
set_option maxRecDepth 100000 in
set_option maxHeartbeats 400000 in
theorem aX2_weigh {t : TR} {μ : gm_M} {a : Nat} (hT : TI t μ) (ha : a < 2 ^ 20) (x : Int64) : Ret yX2_weigh cX2_weigh 5 none 1 [(.ref 40), (.ref 25), (.int (nI a)), (.long x)] μ none (cweigh t μ a x) := by
  refine Sat.of (L := [some (.ref 40), some (.ref 25), some (.int (nI a)), some (.long x), none]) (by decide) (fun _ => rfl) (fun _ => rfl) ?_
  refine go_al1 dX2_weigh_0 (go_il2 dX2_weigh_1 (go_V1r mcX9_momentAt mvX9_momentAt kX2_83 rfl dX2_weigh_2 rfl rfl (sX9_momentAt _ _) (go_icm1 dX2_weigh_5 ?_)))
  refine go_ceq 32 dX2_weigh_6 (by decide) (fun h6 => ?_) (fun h6 => ?_)
  · refine go_vret dX2_weigh_32 ?_
    refine ⟨rfl, ?_⟩
    have : okA t a = false := by
      unfold okA
      rw [cmom_t hT ha, oI_m1 (fun k q => by have := (tmo_lt q).1; have := hT.1.2.2.2.1; omega)] at h6
      rw [h6]; rfl
    rw [cweigh, if_neg (gf this)]
  · refine go_il2 dX2_weigh_9 ?_
    refine go_iflt 32 dX2_weigh_10 (by decide) (fun h10 => ?_) (fun h10 => ?_)
    · refine go_vret dX2_weigh_32 ?_
      exact absurd h10 (nI_pos (by omega))
    · refine go_il2 dX2_weigh_13 (go_al0 dX2_weigh_14 (go_getR (j := 42) fX2_15 rfl rfl dX2_weigh_15 (go_alenJ rfl dX2_weigh_18 ?_)))
      refine go_cge 32 dX2_weigh_19 (by decide) (fun h19 => ?_) (fun h19 => ?_)
      · refine go_vret dX2_weigh_32 ?_
        refine ⟨rfl, ?_⟩
        have : okA t a = false := by
          unfold okA
          have := (nI_leI (by decide) (by omega)).mp h19
          simp
          intro _
          exact this
        rw [cweigh, if_neg (gf this)]
      · refine go_al0 dX2_weigh_22 (go_getR (j := 42) fX2_15 rfl rfl dX2_weigh_23 (go_il2 dX2_weigh_26 (go_dup2 dX2_weigh_27 rfl rfl (go_lald rfl (gm_in h10 h19 (by decide)) dX2_weigh_28 (go_ll3 dX2_weigh_29 (go_ladd dX2_weigh_30 (go_last rfl (gm_in h10 h19 (by decide)) dX2_weigh_31 ?_)))))))
        refine go_vret dX2_weigh_32 ?_
        refine ⟨rfl, ?_⟩
        have h1 : a < 100 := Nat.not_le.mp (fun z => h19 (nI_le z (by omega)))
        have : okA t a = true := by
          unfold okA
          rw [cmom_t hT ha, oI_m1 (fun k q => by have := (tmo_lt q).1; have := hT.1.2.2.2.1; omega)] at h6
          cases ho : tmo t a with
          | none => exact absurd ho h6
          | some m => simp [h1]
        rw [cweigh, if_pos this, nI_clamp (by omega)]

theorem aGrow {t : TR} {μ : gm_M} (h : TI t μ) {n w : Nat} (hn : n < 30) (hw : w < 2 ^ 20) : Ret yX9_growth cX9_growth 5 (some .int) 1 [.ref 25, .int (nI n), .int (nI w)] μ (some (.int (nI (tgr t n w)))) μ := by
  rw [← cgrow_t h hn hw]
  exact sX9_growth _ _ _
theorem aGrow0 {t : TR} {μ : gm_M} (h : TI t μ) {n : Nat} (hn : n < 30) : Ret yX9_growth cX9_growth 5 (some .int) 1 [.ref 25, .int (nI n), .int 0] μ (some (.int (nI (tgr t n 0)))) μ := aGrow h hn (w := 0) (by decide)
theorem lg_cmp_0 {x : Int64} : lg_cmp x 0 = 0 ↔ x = 0 := by
  unfold lg_cmp
  constructor
  · intro h
    split at h
    · rename_i h1; exact absurd h (by decide)
    · split at h
      · assumption
      · exact absurd h (by decide)
  · rintro rfl; decide
set_option maxRecDepth 100000 in
set_option maxHeartbeats 400000 in
theorem aX2_wn_loop {t : TR} {μ : gm_M} {c s g0 g1 : Nat} {w : Nat → Nat} {d2 : Option Value} (hcs : c ≤ s) (hs : s ≤ 16) (hg0 : g0 ≤ 16) (hg1 : g1 ≤ 16) : ∀ (k b : Nat) (m : gm_M), 100 - b = k → b ≤ 100 → FrR 40 42 μ m → m.2 40 = μ.2 40 → TI t m → (∀ a, a < 100 → m.2 41 a = lN (w a)) → (∀ a, a < 100 → m.2 42 a = lN (fwst t c s g0 g1 w b a)) → Go yX2_weighNight cX2_weighNight 8 none 2 31 [some (.ref 40), some (.ref 25), d2, some (.int (nI c)), some (.int (nI s)), some (.int (nI g0)), some (.int (nI g1)), some (.int (nI b))] [] m (fun r μ' => r = none ∧ FrR 40 42 μ μ' ∧ μ'.2 40 = μ.2 40 ∧ ∀ a, a < 100 → μ'.2 41 a = lN (fwst t c s (g0) (g1) w 100 a)) := by
  intro k
  induction k using Nat.strongRecOn with
  | ind k ih =>
    intro b m hk hj hF h40 hT h41 h42
    refine go_il7 dX2_weighNight_31 (go_al0 dX2_weighNight_33 (go_getR (j := 41) fX2_9 rfl rfl dX2_weighNight_34 (go_alenJ rfl dX2_weighNight_37 ?_)))
    refine go_cge 102 dX2_weighNight_38 (by decide) (fun h38 => ?_) (fun h38 => ?_)
    · have he : b = 100 := Nat.le_antisymm hj ((gm_bdN (by decide) (by decide) (by omega)).mp h38)
      subst he
      refine go_al0 dX2_weighNight_102 (go_getR (j := 42) fX2_15 rfl rfl dX2_weighNight_103 (go_ic0 dX2_weighNight_106 (go_al0 dX2_weighNight_107 (go_getR (j := 41) fX2_9 rfl rfl dX2_weighNight_108 (go_ic0 dX2_weighNight_111 ?_)))))
      refine go_al0 dX2_weighNight_112 (go_getR (j := 42) fX2_15 rfl rfl dX2_weighNight_113 (go_alenJ rfl dX2_weighNight_116 (go_al0 dX2_weighNight_117 (go_getR (j := 41) fX2_9 rfl rfl dX2_weighNight_118 (go_alenJ rfl dX2_weighNight_121 ?_)))))
      refine go_min kX2_72 dX2_weighNight_122 rfl rfl (go_copyJn 0 0 100 (by decide) (by decide) (by decide) (by decide) (by decide) (by decide) (by decide) kX2_77 rfl rfl rfl rfl dX2_weighNight_125 ?_)
      refine go_vret dX2_weighNight_128 ?_
      refine ⟨rfl, hF, h40, fun a ha => ?_⟩
      show va_cpy (m.2 42) (m.2 41) 0 0 100 a = _
      rw [pk_cpy_in (by omega) (by omega), show 0 + (a - 0) = a by omega]
      exact h42 a ha
    · have hlt : b < 100 := Nat.not_le.mp (fun z => h38 ((gm_bdN (by decide) (by decide) (by omega)).mpr z))
      refine go_al0 dX2_weighNight_41 (go_getR (j := 41) fX2_9 rfl rfl dX2_weighNight_42 (go_il7 dX2_weighNight_45 (go_lald rfl (vp_in_nI hlt (by decide)) dX2_weighNight_47 (go_lc0 dX2_weighNight_48 (go_lcmp dX2_weighNight_49 ?_)))))
      refine go_ifeq 96 dX2_weighNight_50 (by decide) (fun h50 => ?_) (fun h50 => ?_)
      · refine go_inc7 (k := 1) dX2_weighNight_96 (by decide) rfl rfl (go_goto 31 dX2_weighNight_99 (by decide) ?_)
        have hz : lN (w b) = 0 := by
          have := lg_cmp_0.mp h50
          rw [nI_clamp (by omega), h41 b hlt] at this
          exact this
        rw [nI_1]
        refine ih (100 - (b + 1)) (by omega) (b + 1) _ rfl (by omega) hF h40 hT h41 (fun a ha => ?_)
        rw [h42 a ha, fwst]
        have z1 : ∀ k, lN (w b * k) = lN 0 := fun k => by rw [← lN_mul, hz, Int64.zero_mul]; rfl
        rw [← lN_add, ← lN_add]
        have z2 : lN (if a = b + g0 ∧ okA t a = true then w b * c else 0) = lN 0 := by split; exact z1 c; rfl
        have z3 : lN (if a = b + g1 ∧ okA t a = true then w b * (s - c) else 0) = lN 0 := by split; exact z1 _; rfl
        rw [z2, z3, lN_add, lN_add]
        rfl
      · refine go_al0 dX2_weighNight_53 (go_al1 dX2_weighNight_54 (go_il7 dX2_weighNight_55 (go_il5 dX2_weighNight_57 (go_iadd dX2_weighNight_59 ?_))))
        rw [nI_add]
        refine go_al0 dX2_weighNight_60 (go_getR (j := 41) fX2_9 rfl rfl dX2_weighNight_61 (go_il7 dX2_weighNight_64 (go_lald rfl (vp_in_nI hlt (by decide)) dX2_weighNight_66 (go_il3 dX2_weighNight_67 (go_i2l dX2_weighNight_68 ?_)))))
        refine go_lmul dX2_weighNight_69 (go_V3v mcX2_weigh mvX2_weigh kX2_68 rfl dX2_weighNight_70 rfl rfl (aX2_weigh (a := b + g0) hT (by omega) _) (go_al0 dX2_weighNight_73 (go_al1 dX2_weighNight_74 (go_il7 dX2_weighNight_75 (go_il6 dX2_weighNight_77 ?_)))))
        refine go_iadd dX2_weighNight_79 ?_
        rw [nI_add]
        refine go_al0 dX2_weighNight_80 (go_getR (j := 41) fX2_9 rfl rfl dX2_weighNight_81 (go_il7 dX2_weighNight_84 (go_lald rfl (vp_in_nI hlt (by decide)) dX2_weighNight_86 (go_il4 dX2_weighNight_87 (go_il3 dX2_weighNight_89 ?_)))))
        refine go_isub dX2_weighNight_90 (go_i2l dX2_weighNight_91 (go_lmul dX2_weighNight_92 (go_V3v mcX2_weigh mvX2_weigh kX2_68 rfl dX2_weighNight_93 rfl rfl (aX2_weigh (a := b + g1) (hT.cong (fun k _ _ => by rw [cweigh_1]) (by rw [cweigh_1]) (by rw [cweigh_1])) (by omega) _) (go_inc7 (k := 1) dX2_weighNight_96 (by decide) rfl rfl (go_goto 31 dX2_weighNight_99 (by decide) ?_)))))
        rw [nI_1]
        refine ih (100 - (b + 1)) (by omega) (b + 1) _ rfl (by omega) (fun a ha => by rw [cweigh_1, cweigh_1]; exact hF a ha) (by rw [cweigh_2 _ _ _ _ (by decide), cweigh_2 _ _ _ _ (by decide)]; exact h40) (hT.cong (fun k _ _ => by rw [cweigh_1, cweigh_1]) (by rw [cweigh_1, cweigh_1]) (by rw [cweigh_1, cweigh_1])) (fun a ha => ?_) (fun a ha => ?_)
        · rw [cweigh_2 _ _ _ _ (by decide), cweigh_2 _ _ _ _ (by decide)]; exact h41 a ha
        · rw [cweigh_42, cweigh_42, h42 a ha, fwst, cweigh_2 _ _ _ _ (by decide), nI_clamp (by omega), h41 b hlt, nI_l (by omega), pk_sub hcs, nI_l (by omega), lN_mul, lN_mul, Int64.add_assoc]
          have z2 : (if a = b + g0 ∧ okA t a = true then lN (w b * c) else 0) = lN (if a = b + g0 ∧ okA t a = true then w b * c else 0) := by split <;> rfl
          have z3 : (if a = b + g1 ∧ okA t a = true then lN (w b * (s - c)) else 0) = lN (if a = b + g1 ∧ okA t a = true then w b * (s - c) else 0) := by split <;> rfl
          rw [z2, z3, lN_add, lN_add]
set_option maxRecDepth 100000 in
set_option maxHeartbeats 400000 in
theorem aX2_weighNight {t : TR} {μ : gm_M} {n c s : Nat} {w : Nat → Nat} (hcs : c ≤ s) (hs : s ≤ 16) (hT : TI t μ) (hn : n < 30) (h41 : ∀ a, a < 100 → μ.2 41 a = lN (w a)) : Sat yX2_weighNight cX2_weighNight 8 none 2 [(.ref 40), (.ref 25), (.int (nI n)), (.int (nI c)), (.int (nI s))] μ (fun r μ' => r = none ∧ FrR 40 42 μ μ' ∧ μ'.2 40 = μ.2 40 ∧ ∀ a, a < 100 → μ'.2 41 a = lN (fwst t c s (tgr t n 0) (tgr t n (twa t n)) w 100 a)) := by
  refine Sat.of (L := [some (.ref 40), some (.ref 25), some (.int (nI n)), some (.int (nI c)), some (.int (nI s)), none, none, none]) (by decide) (fun _ => rfl) (fun _ => rfl) ?_
  refine go_al0 dX2_weighNight_0 (go_getR (j := 42) fX2_15 rfl rfl dX2_weighNight_1 (go_lc0 dX2_weighNight_4 (go_S2v mcJ7_fill_d0a16 mvJ7_fill_d0a16 kX2_41 dX2_weighNight_5 rfl rfl (sJ7_fillJ rfl (by decide) _ _) ?_)))
  have hT0 : TI t (gm_filJ μ 42 100 0) := hT.cong (fun _ _ _ => rfl) rfl rfl
  refine go_al1 dX2_weighNight_8 (go_il2 dX2_weighNight_9 (go_ic0 dX2_weighNight_10 (go_V2r mcX9_growth mvX9_growth kX2_60 rfl dX2_weighNight_11 rfl rfl (aGrow0 hT0 hn) (go_is5 dX2_weighNight_14 rfl rfl (go_al1 dX2_weighNight_16 (go_il2 dX2_weighNight_17 (go_al1 dX2_weighNight_18 (go_il2 dX2_weighNight_19 (go_V1r mcX9_warmthOn mvX9_warmthOn kX2_64 rfl dX2_weighNight_20 rfl rfl (aWarm hT0 hn) (go_V2r mcX9_growth mvX9_growth kX2_60 rfl dX2_weighNight_23 rfl rfl (aGrow hT0 hn (by have := hT.1.2.2.2.2.2.2.2.2 n hn; omega)) (go_is6 dX2_weighNight_26 rfl rfl (go_ic0 dX2_weighNight_28 (go_is7 dX2_weighNight_29 rfl rfl ?_)))))))))))))
  refine aX2_wn_loop hcs hs (tgr_le (by omega)) (tgr_le (hT.1.2.2.2.2.2.2.2.2 n hn)) _ 0 _ rfl (Nat.zero_le _) (fun a _ => rfl) (by simp [gm_filJ, gm_aJ]) hT0 (fun a ha => ?_) (fun a ha => ?_)
  · have e : (gm_filJ μ 42 100 0).2 41 = μ.2 41 := by simp [gm_filJ, gm_aJ]
    rw [e]
    exact h41 a ha
  · show (if 42 = 42 then (fun j => if j < 100 then (0 : Int64) else μ.2 42 j) else μ.2 42) a = _
    rw [if_pos rfl, if_pos ha]
    rfl

set_option maxRecDepth 100000 in
set_option maxHeartbeats 400000 in
theorem aX2_dr_loop {t : TR} {μ : gm_M} {w : Nat → Nat} : ∀ (k b : Nat) (m : gm_M), 100 - b = k → b ≤ 100 → FrR 40 42 μ m → m.2 40 = μ.2 40 → TI t m → (∀ a, a < 100 → m.2 41 a = lN (if a < b ∧ tea t a = true then 0 else w a)) → Go yX2_dropEaten cX2_dropEaten 3 none 2 2 [some (.ref 40), some (.ref 25), some (.int (nI b))] [] m (fun r μ' => r = none ∧ FrR 40 42 μ μ' ∧ μ'.2 40 = μ.2 40 ∧ ∀ a, a < 100 → μ'.2 41 a = lN (if tea t a = true then 0 else w a)) := by
  intro k
  induction k using Nat.strongRecOn with
  | ind k ih =>
    intro b m hk hj hF h40 hT h41
    refine go_il2 dX2_dropEaten_2 (go_al0 dX2_dropEaten_3 (go_getR (j := 41) fX2_9 rfl rfl dX2_dropEaten_4 (go_alenJ rfl dX2_dropEaten_7 ?_)))
    refine go_cge 36 dX2_dropEaten_8 (by decide) (fun h8 => ?_) (fun h8 => ?_)
    · refine go_vret dX2_dropEaten_36 ?_
      have he : b = 100 := Nat.le_antisymm hj ((gm_bdN (by decide) (by decide) (by omega)).mp h8)
      subst he
      refine ⟨rfl, hF, h40, fun a ha => ?_⟩
      rw [h41 a ha]
      have : (a < 100 ∧ tea t a = true) = (tea t a = true) := propext ⟨fun z => z.2, fun z => ⟨ha, z⟩⟩
      simp only [this]
    · have hlt : b < 100 := Nat.not_le.mp (fun z => h8 ((gm_bdN (by decide) (by decide) (by omega)).mpr z))
      refine go_al1 dX2_dropEaten_11 (go_al1 dX2_dropEaten_12 (go_il2 dX2_dropEaten_13 (go_V1r mcX9_momentAt mvX9_momentAt kX2_83 rfl dX2_dropEaten_14 rfl rfl (sX9_momentAt _ _) (go_V1r mcX9_isEatenAt mvX9_isEatenAt kX2_86 rfl dX2_dropEaten_17 rfl rfl (sX9_isEatenAt _ _) ?_))))
      refine go_ifeqB 30 dX2_dropEaten_20 (by decide) (fun h20 => ?_) (fun h20 => ?_)
      · refine go_inc2 (k := 1) dX2_dropEaten_30 (by decide) rfl rfl (go_goto 2 dX2_dropEaten_33 (by decide) ?_)
        have e20 : tea t b = false := by
          have := h20
          rw [cmom_t hT (by omega), ceat_t hT] at this
          exact this
        rw [nI_1]
        refine ih (100 - (b + 1)) (by omega) (b + 1) _ rfl (by omega) hF h40 hT (fun a ha => ?_)
        rw [h41 a ha]
        by_cases e : a = b
        · subst e
          simp [e20]
        · have : (a < b + 1 ∧ tea t a = true) = (a < b ∧ tea t a = true) := propext (by constructor <;> rintro ⟨z1, z2⟩ <;> exact ⟨by omega, z2⟩)
          simp only [this]
      · refine go_al0 dX2_dropEaten_23 (go_getR (j := 41) fX2_9 rfl rfl dX2_dropEaten_24 (go_il2 dX2_dropEaten_27 (go_lc0 dX2_dropEaten_28 (go_last rfl (vp_in_nI hlt (by decide)) dX2_dropEaten_29 (go_inc2 (k := 1) dX2_dropEaten_30 (by decide) rfl rfl (go_goto 2 dX2_dropEaten_33 (by decide) ?_))))))
        have e20 : tea t b = true := by
          have := h20
          rw [cmom_t hT (by omega), ceat_t hT] at this
          exact this
        rw [nI_1]
        rw [nI_clamp (by omega)]
        refine ih (100 - (b + 1)) (by omega) (b + 1) _ rfl (by omega) hF (by rw [gm_Jn _ _ _ (by decide)]; exact h40) (hT.j _ _ _) (fun a ha => ?_)
        rw [gm_J2, if_pos rfl]
        by_cases e : a = b
        · subst e
          rw [if_pos rfl, if_pos ⟨by omega, e20⟩]
          rfl
        · rw [if_neg e, h41 a ha]
          have : (a < b + 1 ∧ tea t a = true) = (a < b ∧ tea t a = true) := propext (by constructor <;> rintro ⟨z1, z2⟩ <;> exact ⟨by omega, z2⟩)
          simp only [this]
set_option maxRecDepth 100000 in
set_option maxHeartbeats 400000 in
theorem aX2_dropEaten {t : TR} {μ : gm_M} {w : Nat → Nat} (hT : TI t μ) (h41 : ∀ a, a < 100 → μ.2 41 a = lN (w a)) : Sat yX2_dropEaten cX2_dropEaten 3 none 2 [(.ref 40), (.ref 25)] μ (fun r μ' => r = none ∧ FrR 40 42 μ μ' ∧ μ'.2 40 = μ.2 40 ∧ ∀ a, a < 100 → μ'.2 41 a = lN (if tea t a = true then 0 else w a)) := by
  refine Sat.of (L := [some (.ref 40), some (.ref 25), none]) (by decide) (fun _ => rfl) (fun _ => rfl) ?_
  refine go_ic0 dX2_dropEaten_0 (go_is2 dX2_dropEaten_1 rfl rfl ?_)
  exact aX2_dr_loop _ 0 _ rfl (Nat.zero_le _) (FrR.rf μ) rfl hT (fun a ha => by rw [h41 a ha, if_neg (by omega)])

