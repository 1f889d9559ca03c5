/-! CLUES (38): what may have been -/
/-- what is heard as it is listened: 8 for nothing -/
def hcode (t : TR) (n : Nat) : Nat := match tm t n with
  | none => 8
  | some m => tsn t m
def allN (p : Nat → Bool) : Nat → Nat → Bool
  | 0, _ => true
  | k + 1, j => p j && allN p k (j + 1)
def qfitp (q : QS) (t : TR) (w i : Nat) : Bool := decide (qlw q i ≠ w) || decide (qll q i = hcode t (qln q i))
def qfit (q : QS) (t : TR) (w : Nat) : Bool := allN (qfitp q t w) (qlN q) 0
theorem hcode_I {t : TR} (h : tok t) (n : Nat) : (if oI ((tm t n).map (tsn t)) = -1 then (8 : Int32) else oI ((tm t n).map (tsn t))) = nI (hcode t n) ∧ hcode t n ≤ 8 := by
  unfold hcode
  cases ho : tm t n with
  | none => exact ⟨rfl, Nat.le_refl 8⟩
  | some m =>
    have hm := h.2.2.2.2.2.2.2.1 m (tm_lt ho)
    refine ⟨?_, by show tsn t m ≤ 8; omega⟩
    show (if nI (tsn t m) = -1 then 8 else nI (tsn t m)) = nI (tsn t m)
    rw [if_neg (nI_ne_m1 (by omega))]
theorem aItem {c n i v : Nat} {x : Int32} {μ : gm_M} (hs : gm_sh c = some (.inl (0, n))) (hn : n < 2 ^ 31) (hi : i < n) (hv : μ.1 c i = nI v) : Ret yX11_itemOr cX11_itemOr 3 (some .int) 0 [.ref c, .int (nI i), .int x] μ (some (.int (nI v))) μ := by
  have := sX11_itemOr hs hn (nI i) x μ
  rw [gi_nI hi hn, hv] at this
  exact this
theorem aHas {q : QS} {μ : gm_M} (hQ : CQ q μ) {w : Nat} (hw : w < 2 ^ 20) : Ret yX1_has cX1_has 2 (some .boolean) 0 [.ref 1, .int (nI w)] μ (some (.int (gb (decide (w < qnum q))))) μ := by
  have := sX1_has (nI w) μ
  have e1 : ¬ nI w < 0 := nI_pos (by omega)
  have e2 : (nI (qnum q) ≤ nI w) = (qnum q ≤ w) := propext (nI_leI (by have := hQ.1.1; omega) (by omega))
  have e3 : (decide (¬ nI w < 0) && decide (¬ nI (qnum q) ≤ nI w)) = decide (w < qnum q) := by
    simp [e1, e2]
  rw [hQ.2.1, e3] at this
  exact this
set_option maxRecDepth 100000 in
set_option maxHeartbeats 400000 in
theorem aX3_fits_loop {q : QS} {t : TR} {μ : gm_M} {w : Nat} (hQ : CQ q μ) (hR : RO t 30 μ) (ht : tok t) (hw : w < 2 ^ 20) : ∀ (k i : Nat) (d5 : Option Value), qlN q - i = k → i ≤ qlN q → Go yX3_fits cX3_fits 6 (some .boolean) 2 11 [some (.ref 38), some (.ref 25), some (.int (nI w)), some (.ref 21), some (.int (nI i)), d5] [] μ (fun r μ' => r = some (.int (gb (allN (qfitp q t w) k i))) ∧ μ' = μ) := by
  have hl8 := hQ.1.2.2.2.2.2.2.2.1
  intro k
  induction k using Nat.strongRecOn with
  | ind k ih =>
    intro i d5 hk hj
    refine go_il4 dX3_fits_11 (go_al3 dX3_fits_13 (go_getI fX3_25 rfl rfl dX3_fits_14 ?_))
    refine go_cge 85 dX3_fits_17 (by decide) (fun h17 => ?_) (fun h17 => ?_)
    · have he : qlN q ≤ i := (gm_bdN hQ.2.2.2.2.2.2.2.2.1 (by omega) (by omega)).mp h17
      refine go_ic1 dX3_fits_85 ?_
      refine go_zret dX3_fits_86 rfl ?_
      obtain rfl : k = 0 := by omega
      exact ⟨rfl, rfl⟩
    · have hlt : i < qlN q := Nat.not_le.mp (fun z => h17 ((gm_bdN hQ.2.2.2.2.2.2.2.2.1 (by omega) (by omega)).mpr z))
      have hb := hQ.1.2.2.2.2.2.2.2.2 i hlt
      refine go_al3 dX3_fits_20 (go_getR (j := 23) fX3_101 rfl rfl dX3_fits_21 (go_il4 dX3_fits_24 (go_icm1 dX3_fits_26 (go_SN3r mcX11_itemOr mvX11_itemOr kX3_78 dX3_fits_27 rfl rfl (aItem rfl (by decide) (by have := hQ.1.2.2.2.2.2.2.2.1; omega) (hQ.2.2.2.2.2.2.2.2.2 i hlt).2.1) (go_il2 dX3_fits_30 ?_)))))
      refine go_cne 79 dX3_fits_31 (by decide) (fun h31 => ?_) (fun h31 => ?_)
      · refine go_inc4 (k := 1) dX3_fits_79 (by decide) rfl rfl (go_goto 11 dX3_fits_82 (by decide) ?_)
        obtain ⟨k, rfl⟩ : ∃ z, k = z + 1 := ⟨k - 1, by omega⟩
        have hp : qfitp q t w i = true := by
          unfold qfitp
          have e1 : ¬ qlw q i = w := fun z => h31 (by rw [z])
          simp [e1]
        rw [nI_1]
        refine Go.post ?_ (ih k (by omega) (i + 1) _ (by omega) (by omega))
        rintro r m ⟨rfl, rfl⟩
        exact ⟨by rw [allN, hp]; rfl, rfl⟩
      · refine go_al1 dX3_fits_34 (go_al3 dX3_fits_35 (go_getR (j := 22) fX3_104 rfl rfl dX3_fits_36 (go_il4 dX3_fits_39 (go_icm1 dX3_fits_41 (go_SN3r mcX11_itemOr mvX11_itemOr kX3_78 dX3_fits_42 rfl rfl (aItem rfl (by decide) (by have := hQ.1.2.2.2.2.2.2.2.1; omega) (hQ.2.2.2.2.2.2.2.2.2 i hlt).1) (go_V1r mcX9_heardOn mvX9_heardOn kX3_71 rfl dX3_fits_45 rfl rfl (aHeard hR (hQ.1.2.2.2.2.2.2.2.2 i hlt).1) (go_is5 dX3_fits_48 rfl rfl (go_al3 dX3_fits_50 (go_getR (j := 24) fX3_107 rfl rfl dX3_fits_51 (go_il4 dX3_fits_54 (go_bipush (v := 8) dX3_fits_56 (by decide) (go_SN3r mcX11_itemOr mvX11_itemOr kX3_78 dX3_fits_58 rfl rfl (aItem rfl (by decide) (by have := hQ.1.2.2.2.2.2.2.2.1; omega) (hQ.2.2.2.2.2.2.2.2.2 i hlt).2.2) (go_il5 dX3_fits_61 ?_)))))))))))))
        refine go_icm1 dX3_fits_63 ?_
        refine go_cne 72 dX3_fits_64 (by decide) (fun h64 => ?_) (fun h64 => ?_)
        · refine go_il5 dX3_fits_72 ?_
          refine go_ceq 79 dX3_fits_74 (by decide) (fun h74 => ?_) (fun h74 => ?_)
          · refine go_inc4 (k := 1) dX3_fits_79 (by decide) rfl rfl (go_goto 11 dX3_fits_82 (by decide) ?_)
            obtain ⟨k, rfl⟩ : ∃ z, k = z + 1 := ⟨k - 1, by omega⟩
            have hp : qfitp q t w i = true := by
              unfold qfitp
              have e2 : qll q i = hcode t (qln q i) := by
                have h := (hcode_I ht (qln q i))
                have h1 := h.1
                rw [if_neg h64] at h1
                exact (nI_eq (by omega) (by omega)).mp (h74.trans h1)
              simp [e2]
            rw [nI_1]
            refine Go.post ?_ (ih k (by omega) (i + 1) _ (by omega) (by omega))
            rintro r m ⟨rfl, rfl⟩
            exact ⟨by rw [allN, hp]; rfl, rfl⟩
          · refine go_ic0 dX3_fits_77 ?_
            refine go_zret dX3_fits_78 rfl ?_
            obtain ⟨k, rfl⟩ : ∃ z, k = z + 1 := ⟨k - 1, by omega⟩
            have hn : qfitp q t w i = false := by
              unfold qfitp
              have e1 : qlw q i = w := (nI_eq (by omega) (by omega)).mp h31
              have e2 : ¬ qll q i = hcode t (qln q i) := by
                intro z
                apply h74
                have := (hcode_I ht (qln q i)).1
                rw [if_neg h64] at this
                rw [z]
                exact this.symm
              simp [e1, e2]
            exact ⟨by rw [allN, hn]; rfl, rfl⟩
        · refine go_bipush (v := 8) dX3_fits_67 (by decide) (go_goto 74 dX3_fits_69 (by decide) ?_)
          refine go_ceq 79 dX3_fits_74 (by decide) (fun h74 => ?_) (fun h74 => ?_)
          · refine go_inc4 (k := 1) dX3_fits_79 (by decide) rfl rfl (go_goto 11 dX3_fits_82 (by decide) ?_)
            obtain ⟨k, rfl⟩ : ∃ z, k = z + 1 := ⟨k - 1, by omega⟩
            have hp : qfitp q t w i = true := by
              unfold qfitp
              have e2 : qll q i = hcode t (qln q i) := by
                have h := (hcode_I ht (qln q i))
                have h1 := h.1
                rw [if_pos h64] at h1
                exact (nI_eq (by omega) (by omega)).mp (h74.trans h1)
              simp [e2]
            rw [nI_1]
            refine Go.post ?_ (ih k (by omega) (i + 1) _ (by omega) (by omega))
            rintro r m ⟨rfl, rfl⟩
            exact ⟨by rw [allN, hp]; rfl, rfl⟩
          · refine go_ic0 dX3_fits_77 ?_
            refine go_zret dX3_fits_78 rfl ?_
            obtain ⟨k, rfl⟩ : ∃ z, k = z + 1 := ⟨k - 1, by omega⟩
            have hn : qfitp q t w i = false := by
              unfold qfitp
              have e1 : qlw q i = w := (nI_eq (by omega) (by omega)).mp h31
              have e2 : ¬ qll q i = hcode t (qln q i) := by
                intro z
                apply h74
                have := (hcode_I ht (qln q i)).1
                rw [if_pos h64] at this
                rw [z]
                exact this.symm
              simp [e1, e2]
            exact ⟨by rw [allN, hn]; rfl, rfl⟩
set_option maxRecDepth 100000 in
set_option maxHeartbeats 400000 in
theorem aX3_fits {q : QS} {t : TR} {μ : gm_M} {w : Nat} (hQ : CQ q μ) (hR : RO t 30 μ) (ht : tok t) (hw : w < 2 ^ 20) : Ret yX3_fits cX3_fits 6 (some .boolean) 2 [(.ref 38), (.ref 25), (.int (nI w))] μ (some (.int (gb (qfit q t w)))) μ := by
  refine Sat.of (L := [some (.ref 38), some (.ref 25), some (.int (nI w)), none, none, none]) (by decide) (fun _ => rfl) (fun _ => rfl) ?_
  refine go_al0 dX3_fits_0 (go_getR (j := 1) fX3_15 rfl rfl dX3_fits_1 (go_getR (j := 21) fX3_88 rfl rfl dX3_fits_4 (go_as3 dX3_fits_7 rfl rfl (go_ic0 dX3_fits_8 (go_is4 dX3_fits_9 rfl rfl ?_)))))
  exact aX3_fits_loop hQ hR ht hw _ 0 _ rfl (Nat.zero_le _)

theorem cno_zero {f g : Nat → Int32} {n N w wo' : Nat} {wo : Int32} {tn tw : Nat → Nat} (hN : N ≤ n) (hn : n < 2 ^ 20) (hw : w < 2 ^ 20) (hwo : ∀ i, i < N → (nI i = wo ↔ i = wo')) (hwo2 : N ≤ wo') (hf : ∀ i, i < N → f i = nI (tn i) ∧ g i = nI (tw i)) (hb : ∀ i, i < N → tn i < 30 ∧ tw i < 8) : cno f g n (nI w) wo N = 0 ↔ anyB (fun i => decide (tw i = w)) N = false := by
  constructor
  · intro h
    cases hc : anyB (fun i => decide (tw i = w)) N with
    | false => rfl
    | true =>
      exfalso
      have : ∃ i, i < N ∧ tw i = w := by
        clear h hf hb hwo hN hwo2
        induction N with
        | zero => cases hc
        | succ N ih =>
          rw [anyB] at hc
          rcases Bool.or_eq_true_iff.mp hc with z | z
          · obtain ⟨i, h1, h2⟩ := ih z; exact ⟨i, by omega, h2⟩
          · exact ⟨N, by omega, by simpa using z⟩
      obtain ⟨i, hi, hiw⟩ := this
      have hb1 := (hb i hi).1
      have hbit := cno_t (tn := tn) (tw := tw) hN hn hw hwo hf hb N (Nat.le_refl N) (tn i) hb1
      rw [h, b_0] at hbit
      have : anyB (fun i_1 => decide (i_1 ≠ wo') && (decide (tw i_1 = w) && decide (tn i_1 = tn i))) N = true := by
        clear h hbit hf hb hwo hN hb1
        have key : ∀ M, i < M → M ≤ N → anyB (fun i_1 => decide (i_1 ≠ wo') && (decide (tw i_1 = w) && decide (tn i_1 = tn i))) M = true := by
          intro M
          induction M with
          | zero => intro z; omega
          | succ M ih =>
            intro z1 z2
            rw [anyB]
            by_cases e : i = M
            · subst e
              have : i ≠ wo' := by omega
              simp [this, hiw]
            · rw [ih (by omega) (by omega)]; rfl
        exact key N hi (Nat.le_refl N)
      rw [this] at hbit
      cases hbit
  · intro h
    have key : ∀ M, M ≤ N → anyB (fun i => decide (tw i = w)) M = false → cno f g n (nI w) wo M = 0 := by
      intro M
      induction M with
      | zero => intro _ _; rfl
      | succ M ih =>
        intro hM hh
        rw [anyB] at hh
        have h1 := Bool.or_eq_false_iff.mp hh
        have h2 : ¬ tw M = w := by simpa using h1.2
        obtain ⟨f1, f2⟩ := hf M (by omega)
        have hb2 := hb M (by omega)
        rw [cno, ih (by omega) h1.1, gi_nI (by omega) (by omega), gi_nI (by omega) (by omega), f1, f2]
        split
        · rfl
        · rw [if_neg (fun z => h2 ((nI_eq (by omega) (by omega)).mp z))]
    exact key N (Nat.le_refl N) h
def qothp (q : QS) (but wo w : Nat) : Bool := decide (w = but) || (!(anyB (fun i => decide (qlw q i = w)) (qlN q)) || (decide (w < qnum q) && qfit q (trof q wo w) w))
def qoth (q : QS) (but wo : Nat) : Bool := allN (qothp q but wo) 8 0
set_option maxRecDepth 100000 in
set_option maxHeartbeats 400000 in
theorem aX3_oth_loop {q : QS} {μ : gm_M} {but wo : Nat} {but3 wo3 : Int32} (hQ : CQ q μ) (hbut : ∀ i, i < 8 → (nI i = but3 ↔ i = but)) (hwo : ∀ i, i < qtN q → (nI i = wo3 ↔ i = wo)) : ∀ (k w : Nat) (d4 : Option Value) (m : gm_M), 8 - w = k → w ≤ 8 → FrR 25 31 μ m → Go yX3_othersFit cX3_othersFit 5 (some .boolean) 3 2 [some (.ref 38), some (.int but3), some (.int wo3), some (.int (nI w)), d4] [] m (fun r μ' => r = some (.int (gb (allN (qothp q but wo) k w))) ∧ FrR 25 31 μ μ') := by
  have hl8 := hQ.1.2.2.2.2.2.2.2.1
  have ht8 := hQ.1.2.2.2.2.2.1.1
  intro k
  induction k using Nat.strongRecOn with
  | ind k ih =>
    intro w d4 m hk hj hF
    refine go_il3 dX3_othersFit_2 (go_bipush (v := 8) dX3_othersFit_3 (by decide) ?_)
    refine go_cge 91 dX3_othersFit_5 (by decide) (fun h5 => ?_) (fun h5 => ?_)
    · have he : 8 ≤ w := (gm_bdN (by decide) (by decide) (by omega)).mp h5
      refine go_ic1 dX3_othersFit_91 ?_
      refine go_zret dX3_othersFit_92 rfl ?_
      obtain rfl : k = 0 := by omega
      exact ⟨rfl, hF⟩
    · have hlt : w < 8 := Nat.not_le.mp (fun z => h5 ((gm_bdN (by decide) (by decide) (by omega)).mpr z))
      refine go_il3 dX3_othersFit_8 (go_il1 dX3_othersFit_9 ?_)
      refine go_ceq 85 dX3_othersFit_10 (by decide) (fun h10 => ?_) (fun h10 => ?_)
      · refine go_inc3 (k := 1) dX3_othersFit_85 (by decide) rfl rfl (go_goto 2 dX3_othersFit_88 (by decide) ?_)
        obtain ⟨k, rfl⟩ : ∃ z, k = z + 1 := ⟨k - 1, by omega⟩
        have hp : qothp q but wo w = true := by
          unfold qothp
          simp [(hbut w (by omega)).mp h10]
        rw [nI_1]
        refine Go.post ?_ (ih k (by omega) (w + 1) _ _ (by omega) (by omega) hF)
        rintro r m9 ⟨h1, h2⟩
        exact ⟨by rw [h1, allN, hp]; rfl, h2⟩
      · refine go_al0 dX3_othersFit_13 (go_getR (j := 1) fX3_15 rfl rfl dX3_othersFit_14 (go_getR (j := 21) fX3_88 rfl rfl dX3_othersFit_17 (go_il3 dX3_othersFit_20 (go_icm1 dX3_othersFit_21 (go_V2r mcX4_nightsOf mvX4_nightsOf kX3_91 rfl dX3_othersFit_22 rfl rfl (sX4_nightsOf_21 _ _ _ (hQ.frR hF).2.2.2.2.2.2.2.2.1 (by omega)) ?_)))))
        refine go_ifeq 85 dX3_othersFit_25 (by decide) (fun h25 => ?_) (fun h25 => ?_)
        · refine go_inc3 (k := 1) dX3_othersFit_85 (by decide) rfl rfl (go_goto 2 dX3_othersFit_88 (by decide) ?_)
          obtain ⟨k, rfl⟩ : ∃ z, k = z + 1 := ⟨k - 1, by omega⟩
          have z25 := cno_zero (wo' := 9) (tn := qln q) (tw := qlw q) (wo := -1) (w := w) (n := 8) (f := m.1 22) (g := m.1 23) hl8 (by decide) (by omega) (fun i hi => ⟨fun z => absurd z (nI_ne_m1 (by omega)), fun z => by omega⟩) (by omega) (fun i hi => ⟨((hQ.frR hF).2.2.2.2.2.2.2.2.2 i hi).1, ((hQ.frR hF).2.2.2.2.2.2.2.2.2 i hi).2.1⟩) (fun i hi => ⟨(hQ.1.2.2.2.2.2.2.2.2 i hi).1, (hQ.1.2.2.2.2.2.2.2.2 i hi).2.1⟩)
          have hp : qothp q but wo w = true := by
            unfold qothp
            rw [z25.mp h25]
            simp
          rw [nI_1]
          refine Go.post ?_ (ih k (by omega) (w + 1) _ _ (by omega) (by omega) hF)
          rintro r m9 ⟨h1, h2⟩
          exact ⟨by rw [h1, allN, hp]; rfl, h2⟩
        · refine go_al0 dX3_othersFit_28 (go_getR (j := 1) fX3_15 rfl rfl dX3_othersFit_29 (go_il3 dX3_othersFit_32 (go_V1r mcX1_has mvX1_has kX3_94 rfl dX3_othersFit_33 rfl rfl (aHas (hQ.frR hF) (by omega)) ?_)))
          refine go_ifneB 41 dX3_othersFit_36 (by decide) (fun h36 => ?_) (fun h36 => ?_)
          · have hwn : w < qnum q := by simpa using h36
            refine go_al0 dX3_othersFit_41 (go_getR (j := 1) fX3_15 rfl rfl dX3_othersFit_42 (go_il3 dX3_othersFit_45 ?_))
            refine go_V1 mcX1_begin mvX1_begin kX3_35 rfl dX3_othersFit_46 rfl rfl (aBegin (hQ.frR hF) hwn) ?_
            rintro _ m46 ⟨rfl, hT46, hF46⟩
            have hQ46 := (hQ.frR hF).fr hF46
            have hT2 : TI (trof q wo w) (gm_I m46 25 9 (cno (m46.1 14) (m46.1 15) 8 (nI w) wo3 (qtN q))) := hT46.turn (fun n hn => cno_t (wo' := wo) hQ.1.2.2.2.2.2.1.1 (by decide) (by omega) hwo hQ46.2.2.2.2.2.2.1.2 hQ.1.2.2.2.2.2.1.2 _ (Nat.le_refl _) n hn)
            refine go_as4 dX3_othersFit_49 rfl rfl (go_al4 dX3_othersFit_51 (go_al0 dX3_othersFit_53 (go_getR (j := 1) fX3_15 rfl rfl dX3_othersFit_54 (go_getR (j := 13) fX3_19 rfl rfl dX3_othersFit_57 (go_il3 dX3_othersFit_60 (go_il2 dX3_othersFit_61 (go_V2r mcX4_nightsOf mvX4_nightsOf kX3_91 rfl dX3_othersFit_62 rfl rfl (sX4_nightsOf_13 _ _ _ hQ46.2.2.2.2.2.2.1.1 (by omega)) (go_putI fX3_98 rfl rfl dX3_othersFit_65 (go_al4 dX3_othersFit_68 ?_)))))))))
            refine go_V0 mcX9_run mvX9_run kX3_44 rfl dX3_othersFit_70 rfl rfl (aRun hT2) ?_
            rintro _ m70 ⟨rfl, hT70, hR70, hE70, hF70⟩
            have hS : FrR 25 31 μ m70 := ((hF.f25 hF46 (by decide) (by decide)).I _ _ (by decide) (by decide)).f25 hF70 (by decide) (by decide)
            refine go_al0 dX3_othersFit_73 (go_al4 dX3_othersFit_74 (go_il3 dX3_othersFit_76 (go_V2r mcX3_fits mvX3_fits kX3_47 rfl dX3_othersFit_77 rfl rfl (aX3_fits (hQ.frR hS) hR70 hT70.1 (by omega)) ?_)))
            refine go_ifneB 85 dX3_othersFit_80 (by decide) (fun h80 => ?_) (fun h80 => ?_)
            · refine go_inc3 (k := 1) dX3_othersFit_85 (by decide) rfl rfl (go_goto 2 dX3_othersFit_88 (by decide) ?_)
              obtain ⟨k, rfl⟩ : ∃ z, k = z + 1 := ⟨k - 1, by omega⟩
              have hp : qothp q but wo w = true := by
                unfold qothp
                rw [h80, h36]
                simp
              rw [nI_1]
              refine Go.post ?_ (ih k (by omega) (w + 1) _ _ (by omega) (by omega) hS)
              rintro r m9 ⟨h1, h2⟩
              exact ⟨by rw [h1, allN, hp]; rfl, h2⟩
            · refine go_ic0 dX3_othersFit_83 ?_
              refine go_zret dX3_othersFit_84 rfl ?_
              obtain ⟨k, rfl⟩ : ∃ z, k = z + 1 := ⟨k - 1, by omega⟩
              have e1 : ¬ w = but := fun z => h10 ((hbut w (by omega)).mpr z)
              have z25 := cno_zero (wo' := 9) (tn := qln q) (tw := qlw q) (wo := -1) (w := w) (n := 8) (f := m.1 22) (g := m.1 23) hl8 (by decide) (by omega) (fun i hi => ⟨fun z => absurd z (nI_ne_m1 (by omega)), fun z => by omega⟩) (by omega) (fun i hi => ⟨((hQ.frR hF).2.2.2.2.2.2.2.2.2 i hi).1, ((hQ.frR hF).2.2.2.2.2.2.2.2.2 i hi).2.1⟩) (fun i hi => ⟨(hQ.1.2.2.2.2.2.2.2.2 i hi).1, (hQ.1.2.2.2.2.2.2.2.2 i hi).2.1⟩)
              have e2 : anyB (fun i => decide (qlw q i = w)) (qlN q) = true := by
                cases hc : anyB (fun i => decide (qlw q i = w)) (qlN q) with
                | true => rfl
                | false => exact absurd (z25.mpr hc) h25
              have hn : qothp q but wo w = false := by
                unfold qothp
                rw [e2, h80]
                simp [e1]
              exact ⟨by rw [allN, hn]; rfl, hS⟩
          · refine go_ic0 dX3_othersFit_39 ?_
            refine go_zret dX3_othersFit_40 rfl ?_
            obtain ⟨k, rfl⟩ : ∃ z, k = z + 1 := ⟨k - 1, by omega⟩
            have e1 : ¬ w = but := fun z => h10 ((hbut w (by omega)).mpr z)
            have z25 := cno_zero (wo' := 9) (tn := qln q) (tw := qlw q) (wo := -1) (w := w) (n := 8) (f := m.1 22) (g := m.1 23) hl8 (by decide) (by omega) (fun i hi => ⟨fun z => absurd z (nI_ne_m1 (by omega)), fun z => by omega⟩) (by omega) (fun i hi => ⟨((hQ.frR hF).2.2.2.2.2.2.2.2.2 i hi).1, ((hQ.frR hF).2.2.2.2.2.2.2.2.2 i hi).2.1⟩) (fun i hi => ⟨(hQ.1.2.2.2.2.2.2.2.2 i hi).1, (hQ.1.2.2.2.2.2.2.2.2 i hi).2.1⟩)
            have e2 : anyB (fun i => decide (qlw q i = w)) (qlN q) = true := by
              cases hc : anyB (fun i => decide (qlw q i = w)) (qlN q) with
              | true => rfl
              | false => exact absurd (z25.mpr hc) h25
            have hn : qothp q but wo w = false := by
              unfold qothp
              rw [e2, h36]
              simp [e1]
            exact ⟨by rw [allN, hn]; rfl, hF⟩
set_option maxRecDepth 100000 in
set_option maxHeartbeats 400000 in
theorem aX3_othersFit {q : QS} {μ : gm_M} {but wo : Nat} {but3 wo3 : Int32} (hQ : CQ q μ) (hbut : ∀ i, i < 8 → (nI i = but3 ↔ i = but)) (hwo : ∀ i, i < qtN q → (nI i = wo3 ↔ i = wo)) : Sat yX3_othersFit cX3_othersFit 5 (some .boolean) 3 [(.ref 38), (.int but3), (.int wo3)] μ (fun r μ' => r = some (.int (gb (qoth q but wo))) ∧ FrR 25 31 μ μ') := by
  refine Sat.of (L := [some (.ref 38), some (.int but3), some (.int wo3), none, none]) (by decide) (fun _ => rfl) (fun _ => rfl) ?_
  refine go_ic0 dX3_othersFit_0 (go_is3 dX3_othersFit_1 rfl rfl ?_)
  exact aX3_oth_loop hQ hbut hwo _ 0 _ _ rfl (Nat.zero_le _) (FrR.rf μ)

theorem qm1 {q : QS} (h : qok q) : ∀ i, i < qtN q → (nI i = -1 ↔ i = 9) := fun i hi => ⟨fun z => absurd z (nI_ne_m1 (by have := h.2.2.2.2.2.1.1; omega)), fun z => by have := h.2.2.2.2.2.1.1; omega⟩
theorem qm2 : ∀ i, i < 8 → (nI i = -1 ↔ i = 9) := fun i hi => ⟨fun z => absurd z (nI_ne_m1 (by omega)), fun z => by omega⟩
theorem qm3 {w : Nat} (hw : w < 2 ^ 20) (N : Nat) (hN : N ≤ 8) : ∀ i, i < N → (nI i = nI w ↔ i = w) := fun i hi => nI_eq (by omega) (by omega)
set_option maxRecDepth 100000 in
set_option maxHeartbeats 400000 in
theorem aX3_nev_loop {q : QS} {μ : gm_M} (hQ : CQ q μ) : ∀ (k i : Nat) (b : Int32) (m : gm_M), qtN q - i = k → i ≤ qtN q → FrR 25 31 μ m → (∀ n, n < 32 → bt b n = (decide (n < i) && qoth q 9 n)) → Go yX3_neverTurnings cX3_neverTurnings 3 (some .int) 4 4 [some (.ref 38), some (.int b), some (.int (nI i))] [] m (fun r μ' => ∃ v : Int32, r = some (.int v) ∧ FrR 25 31 μ μ' ∧ ∀ n, n < 32 → bt v n = (decide (n < qtN q) && qoth q 9 n)) := by
  have ht8 := hQ.1.2.2.2.2.2.1.1
  intro k
  induction k using Nat.strongRecOn with
  | ind k ih =>
    intro i b m hk hj hF hb
    refine go_il2 dX3_neverTurnings_4 (go_al0 dX3_neverTurnings_5 (go_getR (j := 1) fX3_15 rfl rfl dX3_neverTurnings_6 (go_getR (j := 13) fX3_19 rfl rfl dX3_neverTurnings_9 (go_getI fX3_25 rfl rfl dX3_neverTurnings_12 ?_))))
    refine go_cge 39 dX3_neverTurnings_15 (by decide) (fun h15 => ?_) (fun h15 => ?_)
    · refine go_il1 dX3_neverTurnings_39 ?_
      refine go_iret dX3_neverTurnings_40 ?_
      have he : i = qtN q := Nat.le_antisymm hj ((gm_bdN (hQ.frR hF).2.2.2.2.2.2.1.1 (by omega) (by omega)).mp h15)
      subst he
      exact ⟨_, rfl, hF, hb⟩
    · have hlt : i < qtN q := Nat.not_le.mp (fun z => h15 ((gm_bdN (hQ.frR hF).2.2.2.2.2.2.1.1 (by omega) (by omega)).mpr z))
      refine go_al0 dX3_neverTurnings_18 (go_icm1 dX3_neverTurnings_19 (go_il2 dX3_neverTurnings_20 ?_))
      refine go_V2 mcX3_othersFit mvX3_othersFit kX3_31 rfl dX3_neverTurnings_21 rfl rfl (aX3_othersFit (but := 9) (wo := i) (hQ.frR hF) qm2 (qm3 (by omega) _ ht8)) ?_
      rintro _ m21 ⟨rfl, hF21⟩
      refine go_ifeqB 33 dX3_neverTurnings_24 (by decide) (fun h24 => ?_) (fun h24 => ?_)
      · refine go_inc2 (k := 1) dX3_neverTurnings_33 (by decide) rfl rfl (go_goto 4 dX3_neverTurnings_36 (by decide) ?_)
        rw [nI_1]
        refine ih (qtN q - (i + 1)) (by omega) (i + 1) _ _ rfl (by omega) (hF.tr hF21) (fun n hn => ?_)
        rw [hb n hn]
        by_cases c : n = i
        · subst c
          simp [h24]
        · have e : (n < i + 1) = (n < i) := propext (by omega)
          simp [e]
      · refine go_il1 dX3_neverTurnings_27 (go_ic1 dX3_neverTurnings_28 (go_il2 dX3_neverTurnings_29 (go_ishl dX3_neverTurnings_30 (go_ior dX3_neverTurnings_31 (go_is1 dX3_neverTurnings_32 rfl rfl (go_inc2 (k := 1) dX3_neverTurnings_33 (by decide) rfl rfl (go_goto 4 dX3_neverTurnings_36 (by decide) ?_)))))))
        rw [nI_1]
        refine ih (qtN q - (i + 1)) (by omega) (i + 1) _ _ rfl (by omega) (hF.tr hF21) (fun n hn => ?_)
        rw [b_or, hb n hn, b_one (by omega) hn]
        by_cases c : n = i
        · subst c
          simp [h24]
        · have e : (n < i + 1) = (n < i) := propext (by omega)
          simp [c, e]
set_option maxRecDepth 100000 in
set_option maxHeartbeats 400000 in
theorem aX3_neverTurnings {q : QS} {μ : gm_M} (hQ : CQ q μ) : Sat yX3_neverTurnings cX3_neverTurnings 3 (some .int) 4 [(.ref 38)] μ (fun r μ' => ∃ v : Int32, r = some (.int v) ∧ FrR 25 31 μ μ' ∧ ∀ n, n < 32 → bt v n = (decide (n < qtN q) && qoth q 9 n)) := by
  refine Sat.of (L := [some (.ref 38), none, none]) (by decide) (fun _ => rfl) (fun _ => rfl) ?_
  refine go_ic0 dX3_neverTurnings_0 (go_is1 dX3_neverTurnings_1 rfl rfl (go_ic0 dX3_neverTurnings_2 (go_is2 dX3_neverTurnings_3 rfl rfl ?_)))
  exact aX3_nev_loop hQ _ 0 _ _ rfl (Nat.zero_le _) (FrR.rf μ) (fun n _ => by rw [b_0]; simp)

set_option maxRecDepth 100000 in
set_option maxHeartbeats 400000 in
theorem aX3_fromNights_loop {q : QS} {μ : gm_M} {w : Nat} (hQ : CQ q μ) (hw : w < qnum q) (hoth : qoth q w 9 = true) : ∀ (k j f0 : Nat) (b : Int32) (m : gm_M), 20 - j = k → j ≤ 20 → FrR 25 31 μ m → TI (trf (trof q 9 w) f0) m → (∀ n, n < 32 → bt b n = (decide (n < j) && qfit q (trf (trof q 9 w) n) w)) → Go yX3_fromNights cX3_fromNights 5 (some .int) 4 25 [some (.ref 38), some (.int (nI w)), some (.ref 25), some (.int b), some (.int (nI j))] [] m (fun r μ' => ∃ v : Int32, r = some (.int v) ∧ FrR 25 31 μ μ' ∧ ∀ n, n < 32 → bt v n = (decide (n < 20) && (qoth q w 9 && qfit q (trf (trof q 9 w) n) w))) := by
  have hn8 := hQ.1.1
  intro k
  induction k using Nat.strongRecOn with
  | ind k ih =>
    intro j f0 b m hk hj hF hT hb
    refine go_il4 dX3_fromNights_25 (go_bipush (v := 20) dX3_fromNights_27 (by decide) ?_)
    refine go_cge 64 dX3_fromNights_29 (by decide) (fun h29 => ?_) (fun h29 => ?_)
    · refine go_il3 dX3_fromNights_64 ?_
      refine go_iret dX3_fromNights_65 ?_
      have he : j = 20 := Nat.le_antisymm hj ((gm_bdN (by decide) (by decide) (by omega)).mp h29)
      subst he
      exact ⟨_, rfl, hF, fun n hn => by rw [hb n hn, hoth]; simp⟩
    · have hlt : j < 20 := Nat.not_le.mp (fun z => h29 ((gm_bdN (by decide) (by decide) (by omega)).mpr z))
      have hT2 : TI (trf (trof q 9 w) j) (gm_I m 25 7 (nI j)) := (hT.from (by omega))
      refine go_al2 dX3_fromNights_32 (go_il4 dX3_fromNights_33 (go_putI fX3_39 rfl rfl dX3_fromNights_35 (go_al2 dX3_fromNights_38 ?_)))
      refine go_V0 mcX9_run mvX9_run kX3_44 rfl dX3_fromNights_39 rfl rfl (aRun hT2) ?_
      rintro _ m39 ⟨rfl, hT39, hR39, hE39, hF39⟩
      have hS : FrR 25 31 μ m39 := (hF.I _ _ (by decide) (by decide)).f25 hF39 (by decide) (by decide)
      refine go_al0 dX3_fromNights_42 (go_al2 dX3_fromNights_43 (go_il1 dX3_fromNights_44 (go_V2r mcX3_fits mvX3_fits kX3_47 rfl dX3_fromNights_45 rfl rfl (aX3_fits (hQ.frR hS) hR39 hT39.1 (by omega)) ?_)))
      refine go_ifeqB 58 dX3_fromNights_48 (by decide) (fun h48 => ?_) (fun h48 => ?_)
      · refine go_inc4 (k := 1) dX3_fromNights_58 (by decide) rfl rfl (go_goto 25 dX3_fromNights_61 (by decide) ?_)
        rw [nI_1]
        refine ih (20 - (j + 1)) (by omega) (j + 1) j _ _ rfl (by omega) hS hT39 (fun n hn => ?_)
        rw [hb n hn]
        by_cases c : n = j
        · subst c
          simp [h48]
        · have e : (n < j + 1) = (n < j) := propext (by omega)
          simp [e]
      · refine go_il3 dX3_fromNights_51 (go_ic1 dX3_fromNights_52 (go_il4 dX3_fromNights_53 (go_ishl dX3_fromNights_55 (go_ior dX3_fromNights_56 (go_is3 dX3_fromNights_57 rfl rfl (go_inc4 (k := 1) dX3_fromNights_58 (by decide) rfl rfl (go_goto 25 dX3_fromNights_61 (by decide) ?_)))))))
        rw [nI_1]
        refine ih (20 - (j + 1)) (by omega) (j + 1) j _ _ rfl (by omega) hS hT39 (fun n hn => ?_)
        rw [b_or, hb n hn, b_one (by omega) hn]
        by_cases c : n = j
        · subst c
          simp [h48]
        · have e : (n < j + 1) = (n < j) := propext (by omega)
          simp [c, e]
set_option maxRecDepth 100000 in
set_option maxHeartbeats 400000 in
theorem aX3_fromNights {q : QS} {μ : gm_M} {w : Nat} (hQ : CQ q μ) (hw : w < qnum q) : Sat yX3_fromNights cX3_fromNights 5 (some .int) 4 [(.ref 38), (.int (nI w))] μ (fun r μ' => ∃ v : Int32, r = some (.int v) ∧ FrR 25 31 μ μ' ∧ ∀ n, n < 32 → bt v n = (decide (n < 20) && (qoth q w 9 && qfit q (trf (trof q 9 w) n) w))) := by
  refine Sat.of (L := [some (.ref 38), some (.int (nI w)), none, none, none]) (by decide) (fun _ => rfl) (fun _ => rfl) ?_
  refine go_al0 dX3_fromNights_0 (go_il1 dX3_fromNights_1 (go_icm1 dX3_fromNights_2 ?_))
  refine go_V2 mcX3_othersFit mvX3_othersFit kX3_31 rfl dX3_fromNights_3 rfl rfl (aX3_othersFit (but := w) (wo := 9) hQ (qm3 (by have := hQ.1.1; omega) 8 (by decide)) (qm1 hQ.1)) ?_
  rintro _ m3 ⟨rfl, hF3⟩
  refine go_ifneB 11 dX3_fromNights_6 (by decide) (fun h6 => ?_) (fun h6 => ?_)
  · refine go_al0 dX3_fromNights_11 (go_getR (j := 1) fX3_15 rfl rfl dX3_fromNights_12 (go_il1 dX3_fromNights_15 ?_))
    refine go_V1 mcX1_begin mvX1_begin kX3_35 rfl dX3_fromNights_16 rfl rfl (aBegin (hQ.frR hF3) hw) ?_
    rintro _ m16 ⟨rfl, hT16, hF16⟩
    refine go_as2 dX3_fromNights_19 rfl rfl (go_ic0 dX3_fromNights_20 (go_is3 dX3_fromNights_21 rfl rfl (go_ic0 dX3_fromNights_22 (go_is4 dX3_fromNights_23 rfl rfl ?_))))
    exact aX3_fromNights_loop hQ hw h6 _ 0 (tfr (trof q 9 w)) _ _ rfl (Nat.zero_le _) (hF3.f25 hF16 (by decide) (by decide)) hT16 (fun n _ => by rw [b_0]; simp)
  · refine go_ic0 dX3_fromNights_9 ?_
    refine go_iret dX3_fromNights_10 ?_
    exact ⟨_, rfl, hF3, fun n _ => by rw [b_0, h6]; simp⟩

set_option maxRecDepth 100000 in
set_option maxHeartbeats 400000 in
theorem aX3_fittingSorts_loop {q : QS} {μ : gm_M} {w : Nat} (hQ : CQ q μ) (hw : w < qnum q) (hoth : qoth q w 9 = true) : ∀ (k j f0 : Nat) (b : Int32) (m : gm_M), 3 - j = k → j ≤ 3 → FrR 25 31 μ m → TI (trs (trof q 9 w) f0) m → (∀ n, n < 32 → bt b n = (decide (n < j) && qfit q (trs (trof q 9 w) n) w)) → Go yX3_fittingSorts cX3_fittingSorts 5 (some .int) 4 25 [some (.ref 38), some (.int (nI w)), some (.ref 25), some (.int b), some (.int (nI j))] [] m (fun r μ' => ∃ v : Int32, r = some (.int v) ∧ FrR 25 31 μ μ' ∧ ∀ n, n < 32 → bt v n = (decide (n < 3) && (qoth q w 9 && qfit q (trs (trof q 9 w) n) w))) := by
  have hn8 := hQ.1.1
  intro k
  induction k using Nat.strongRecOn with
  | ind k ih =>
    intro j f0 b m hk hj hF hT hb
    refine go_il4 dX3_fittingSorts_25 (go_ic2 dX3_fittingSorts_27 ?_)
    refine go_cgt 63 dX3_fittingSorts_28 (by decide) (fun h28 => ?_) (fun h28 => ?_)
    · refine go_il3 dX3_fittingSorts_63 ?_
      refine go_iret dX3_fittingSorts_64 ?_
      have he : j = 3 := by
        rcases Nat.lt_or_ge j 3 with z | z
        · exact absurd h28 (by rw [nI_lit2]; exact nI_nlt (by omega) (by omega))
        · omega
      subst he
      exact ⟨_, rfl, hF, fun n hn => by rw [hb n hn, hoth]; simp⟩
    · have hlt : j < 3 := by
        rcases Nat.lt_or_ge j 3 with z | z
        · exact z
        · exact absurd (by rw [nI_lit2]; exact nI_lt (by omega) (by omega)) h28
      have hT2 : TI (trs (trof q 9 w) j) (gm_I m 25 6 (nI j)) := (hT.sort (by omega))
      refine go_al2 dX3_fittingSorts_31 (go_il4 dX3_fittingSorts_32 (go_putI fX3_51 rfl rfl dX3_fittingSorts_34 (go_al2 dX3_fittingSorts_37 ?_)))
      refine go_V0 mcX9_run mvX9_run kX3_44 rfl dX3_fittingSorts_38 rfl rfl (aRun hT2) ?_
      rintro _ m38 ⟨rfl, hT38, hR38, hE38, hF38⟩
      have hS : FrR 25 31 μ m38 := (hF.I _ _ (by decide) (by decide)).f25 hF38 (by decide) (by decide)
      refine go_al0 dX3_fittingSorts_41 (go_al2 dX3_fittingSorts_42 (go_il1 dX3_fittingSorts_43 (go_V2r mcX3_fits mvX3_fits kX3_47 rfl dX3_fittingSorts_44 rfl rfl (aX3_fits (hQ.frR hS) hR38 hT38.1 (by omega)) ?_)))
      refine go_ifeqB 57 dX3_fittingSorts_47 (by decide) (fun h47 => ?_) (fun h47 => ?_)
      · refine go_inc4 (k := 1) dX3_fittingSorts_57 (by decide) rfl rfl (go_goto 25 dX3_fittingSorts_60 (by decide) ?_)
        rw [nI_1]
        refine ih (3 - (j + 1)) (by omega) (j + 1) j _ _ rfl (by omega) hS hT38 (fun n hn => ?_)
        rw [hb n hn]
        by_cases c : n = j
        · subst c
          simp [h47]
        · have e : (n < j + 1) = (n < j) := propext (by omega)
          simp [e]
      · refine go_il3 dX3_fittingSorts_50 (go_ic1 dX3_fittingSorts_51 (go_il4 dX3_fittingSorts_52 (go_ishl dX3_fittingSorts_54 (go_ior dX3_fittingSorts_55 (go_is3 dX3_fittingSorts_56 rfl rfl (go_inc4 (k := 1) dX3_fittingSorts_57 (by decide) rfl rfl (go_goto 25 dX3_fittingSorts_60 (by decide) ?_)))))))
        rw [nI_1]
        refine ih (3 - (j + 1)) (by omega) (j + 1) j _ _ rfl (by omega) hS hT38 (fun n hn => ?_)
        rw [b_or, hb n hn, b_one (by omega) hn]
        by_cases c : n = j
        · subst c
          simp [h47]
        · have e : (n < j + 1) = (n < j) := propext (by omega)
          simp [c, e]
set_option maxRecDepth 100000 in
set_option maxHeartbeats 400000 in
theorem aX3_fittingSorts {q : QS} {μ : gm_M} {w : Nat} (hQ : CQ q μ) (hw : w < qnum q) : Sat yX3_fittingSorts cX3_fittingSorts 5 (some .int) 4 [(.ref 38), (.int (nI w))] μ (fun r μ' => ∃ v : Int32, r = some (.int v) ∧ FrR 25 31 μ μ' ∧ ∀ n, n < 32 → bt v n = (decide (n < 3) && (qoth q w 9 && qfit q (trs (trof q 9 w) n) w))) := by
  refine Sat.of (L := [some (.ref 38), some (.int (nI w)), none, none, none]) (by decide) (fun _ => rfl) (fun _ => rfl) ?_
  refine go_al0 dX3_fittingSorts_0 (go_il1 dX3_fittingSorts_1 (go_icm1 dX3_fittingSorts_2 ?_))
  refine go_V2 mcX3_othersFit mvX3_othersFit kX3_31 rfl dX3_fittingSorts_3 rfl rfl (aX3_othersFit (but := w) (wo := 9) hQ (qm3 (by have := hQ.1.1; omega) 8 (by decide)) (qm1 hQ.1)) ?_
  rintro _ m3 ⟨rfl, hF3⟩
  refine go_ifneB 11 dX3_fittingSorts_6 (by decide) (fun h6 => ?_) (fun h6 => ?_)
  · refine go_al0 dX3_fittingSorts_11 (go_getR (j := 1) fX3_15 rfl rfl dX3_fittingSorts_12 (go_il1 dX3_fittingSorts_15 ?_))
    refine go_V1 mcX1_begin mvX1_begin kX3_35 rfl dX3_fittingSorts_16 rfl rfl (aBegin (hQ.frR hF3) hw) ?_
    rintro _ m16 ⟨rfl, hT16, hF16⟩
    refine go_as2 dX3_fittingSorts_19 rfl rfl (go_ic0 dX3_fittingSorts_20 (go_is3 dX3_fittingSorts_21 rfl rfl (go_ic0 dX3_fittingSorts_22 (go_is4 dX3_fittingSorts_23 rfl rfl ?_))))
    exact aX3_fittingSorts_loop hQ hw h6 _ 0 (tso (trof q 9 w)) _ _ rfl (Nat.zero_le _) (hF3.f25 hF16 (by decide) (by decide)) hT16 (fun n _ => by rw [b_0]; simp)
  · refine go_ic0 dX3_fittingSorts_9 ?_
    refine go_iret dX3_fittingSorts_10 ?_
    exact ⟨_, rfl, hF3, fun n _ => by rw [b_0, h6]; simp⟩

