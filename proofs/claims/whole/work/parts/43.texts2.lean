/-! THE MODEL: both texts read -/
theorem pz_x (m : gm_M) : PIx pz m := fun k hk => absurd hk (Nat.not_lt_zero k)
theorem PIx.T2 {p : PS} {m : gm_M} (h : PIx p m) : PIx (pT2 p) m := h
theorem firstN_some {p : Nat → Bool} : ∀ (k a j : Nat), j < k → (∀ i, i < j → p (a + i) = false) → p (a + j) = true → firstN p k a = some (a + j) := by
  intro k
  induction k with
  | zero => intro a j h; exact absurd h (Nat.not_lt_zero j)
  | succ k ih =>
    intro a j h h1 h2
    rw [firstN]
    cases j with
    | zero => rw [if_pos (show p a = true from h2)]; rfl
    | succ j =>
      rw [if_neg (show ¬ p a = true from gf (h1 0 (Nat.zero_lt_succ j)))]
      rw [ih (a + 1) j (by omega) (fun i hi => by have := h1 (i + 1) (by omega); rw [show a + 1 + i = a + (i + 1) by omega]; exact this) (by rw [show a + 1 + j = a + (j + 1) by omega]; exact h2)]
      congr 1; omega
theorem firstN_no {p : Nat → Bool} : ∀ (k a : Nat), (∀ i, i < k → p (a + i) = false) → firstN p k a = none := by
  intro k
  induction k with
  | zero => intro a _; rfl
  | succ k ih =>
    intro a h
    rw [firstN, if_neg (show ¬ p a = true from gf (h 0 (by omega)))]
    exact ih (a + 1) (fun i hi => by have := h (i + 1) (by omega); rw [show a + 1 + i = a + (i + 1) by omega]; exact this)
set_option maxRecDepth 100000 in
set_option maxHeartbeats 400000 in
theorem mRWs_loop {N : Nat} {f : Nat → Nat} {μ : gm_M} : ∀ (k_ a n : Nat) (p : PS) (d3 : Option Value) (m : gm_M), 72 - a = k_ → a ≤ N → TXm N f m → prd f a = (p, none) → pnum p = n → pstg p = 0 → m.1 52 2 = 0 → PIx p m → FX lP [2] μ m → Go yX12_readsWheels cX12_readsWheels 4 (some .int) 3 9 [some (.ref 52), some (.int (nI n)), some (.int (nI a)), d3] [] m (fun r μ' => r = some (.int (oI (pres N f).1)) ∧ μ'.1 52 2 = nI (pnum (pres N f).2) ∧ PIx (pres N f).2 μ' ∧ FX lP [2] μ μ') := by
  intro k_
  induction k_ using Nat.strongRecOn with
  | ind k_ ih =>
    intro a n p d3 m hk_ ha hTm hpr hpn hps h2 hp hF
    have hN71 := hTm.1
    have hok0 := prd_ok (N := N) (f := f) (fun j hj => (hTm.2.2 j hj).2) a ha
    rw [hpr] at hok0
    have hn : n ≤ 8 := hpn ▸ hok0.1
    have hpz : ∀ k, k < n → psz p k ≤ 5 := fun k hk => (hok0.2.2.2 k (by rw [hpn]; exact hk)).2.2.1
    refine go_il2 dX12_readsWheels_9 (go_al0 dX12_readsWheels_10 (go_getR (j := 53) fX12_7 rfl rfl dX12_readsWheels_11 (go_ic0 dX12_readsWheels_14 (go_iald rfl (vp_in_nI (n := 0) (by decide) (by decide)) dX12_readsWheels_15 ?_))))
    rw [show (0 : Int32).toNatClampNeg = 0 from rfl, hTm.2.1]
    refine go_clt 23 dX12_readsWheels_16 (by decide) (fun h16 => ?_) (fun h16 => ?_)
    · have h0 : 0 < N := by
        have h9 := h16
        rw [nI_ltI (by omega) (by omega)] at h9
        omega
      refine go_al0 dX12_readsWheels_23 (go_il1 dX12_readsWheels_24 (go_il2 dX12_readsWheels_25 ?_))
      refine go_V2 mcX12_readsWheel mvX12_readsWheel kX12_122 rfl dX12_readsWheels_26 rfl rfl (mRW hn hp hpn hps hTm hpr ha h0 hpz) ?_
      rintro _ m26 ⟨v, rfl, hF26, hv⟩
      have hT26 : TXm N f m26 := hTm.cong (fun c hc => hF26.1 c (by omega) (by intro z; simp at z; omega))
      refine go_is3 dX12_readsWheels_29 rfl rfl (go_il3 dX12_readsWheels_30 ?_)
      refine go_ifge 40 dX12_readsWheels_31 (by decide) (fun h31 => ?_) (fun h31 => ?_)
      · obtain ⟨j, p', ev, hj1, hj5, hjN, hpr', hn', hs', hP', hstop⟩ : (∃ j p', v = nI (3 + j) ∧ 1 ≤ j ∧ j ≤ 5 ∧ a + 3 + j ≤ N ∧ prd f (a + 3 + j) = (p', none) ∧ pnum p' = n + 1 ∧ pstg p' = 3 + j ∧ PIx p' m26 ∧ (a + 3 + j < N → f (a + 3 + j) ≠ 59 → ptake p' (f (a + 3 + j)) = none)) := by
          rcases hv with ⟨hv, _⟩ | hv
          · exact absurd hv (Int32.not_lt.mpr h31)
          · exact hv
        subst ev
        refine go_inc1 (k := 1) dX12_readsWheels_40 (by decide) rfl rfl (go_il2 dX12_readsWheels_43 (go_il3 dX12_readsWheels_44 (go_iadd dX12_readsWheels_45 (go_is2 dX12_readsWheels_46 rfl rfl ?_))))
        rw [nI_add, show a + (3 + j) = a + 3 + j by omega]
        refine go_il2 dX12_readsWheels_47 (go_al0 dX12_readsWheels_48 (go_getR (j := 53) fX12_7 rfl rfl dX12_readsWheels_49 (go_ic0 dX12_readsWheels_52 (go_iald rfl (vp_in_nI (n := 0) (by decide) (by decide)) dX12_readsWheels_53 ?_))))
        rw [show (0 : Int32).toNatClampNeg = 0 from rfl, hT26.2.1]
        refine go_cne 64 dX12_readsWheels_54 (by decide) (fun h54 => ?_) (fun h54 => ?_)
        · refine go_al0 dX12_readsWheels_64 (go_il2 dX12_readsWheels_65 (go_V1r mcX12_byteAt mvX12_byteAt kX12_112 rfl dX12_readsWheels_66 rfl rfl (mByteAt hT26 (by omega)) (go_bipush (v := 59) dX12_readsWheels_69 (by decide) ?_)))
          refine go_ceq 76 dX12_readsWheels_71 (by decide) (fun h71 => ?_) (fun h71 => ?_)
          · refine go_inc2 (k := 1) dX12_readsWheels_76 (by decide) rfl rfl (go_goto 9 dX12_readsWheels_79 (by decide) ?_)
            have ea : a + 3 + j < N := by
              have : ¬ a + 3 + j = N := fun z => h54 (by rw [z])
              omega
            have he59 : f (a + 3 + j) = 59 := by
              have h9 := h71
              rw [mby, if_pos ea] at h9
              exact (nI_eq (by have := (hTm.2.2 _ ea).2; omega) (by decide)).mp h9
            have hk2 : ptake p' (f (a + 3 + j)) = some (pT2 p') := by
              unfold ptake
              rw [if_neg (by omega), if_neg (by omega), if_pos he59, if_pos (by omega)]
            have hok := prd_ok (N := N) (f := f) (fun j hj => (hTm.2.2 j hj).2) (a + 3 + j + 1) (by omega)
            rw [prd_some hpr' hk2] at hok
            rw [nI_1, nI_1]
            exact ih (72 - (a + 3 + j + 1)) (by omega) (a + 3 + j + 1) (n + 1) (pT2 p') _ _ rfl (by omega) (hT26.cong (fun c hc => rfl)) (prd_some hpr' hk2) hn' rfl (by rw [hF26.2 2 (by decide)]; exact h2) hP'.T2 (hF.tr (hF26.wide (fun x hx => hx) (fun x hx => by cases hx)))
          · refine go_il2 dX12_readsWheels_74 ?_
            refine go_iret dX12_readsWheels_75 ?_
            have ea : a + 3 + j < N := by
              have : ¬ a + 3 + j = N := fun z => h54 (by rw [z])
              omega
            have hne : f (a + 3 + j) ≠ 59 := fun z => h71 (by rw [mby, if_pos ea, z]; rfl)
            have ep := pres_stop hpr' (by omega) h0 (fun _ => hstop ea hne) (fun z => by omega)
            rw [ep]
            exact ⟨rfl, by rw [hF26.2 2 (by decide), h2]; rfl, pz_x _, hF.tr (hF26.wide (fun x hx => hx) (fun x hx => by cases hx))⟩
        · refine go_al0 dX12_readsWheels_57 (go_il1 dX12_readsWheels_58 (go_putI fX12_119 rfl rfl dX12_readsWheels_59 (go_icm1 dX12_readsWheels_62 ?_)))
          refine go_iret dX12_readsWheels_63 ?_
          have ea : a + 3 + j = N := (nI_eq (by omega) (by omega)).mp h54
          have ep := pres_ok (ea ▸ hpr') (by omega)
          rw [ep]
          refine ⟨rfl, by rw [gm_Is, hn', nI_1], fun k hk => ?_, (hF.tr (hF26.wide (fun x hx => hx) (fun x hx => by cases hx))).F _ (by decide)⟩
          rw [gm_In _ _ _ (by decide), gm_In _ _ _ (by decide), gm_In _ _ _ (by decide), gm_In _ _ _ (by decide)]
          exact hP' k hk
      · refine go_il2 dX12_readsWheels_34 (go_il3 dX12_readsWheels_35 (go_isub dX12_readsWheels_36 (go_ic1 dX12_readsWheels_37 (go_isub dX12_readsWheels_38 ?_))))
        refine go_iret dX12_readsWheels_39 ?_
        rcases hv with ⟨_, x, hx, ex⟩ | ⟨j, p', ev, _⟩
        · rw [hx]
          exact ⟨by rw [ex]; rfl, by rw [hF26.2 2 (by decide), h2]; rfl, pz_x _, hF.tr (hF26.wide (fun x hx => hx) (fun x hx => by cases hx))⟩
        · exact absurd (by rw [ev]; exact Int32.not_lt.mp (nI_pos (by omega))) h31
    · refine go_il2 dX12_readsWheels_19 ?_
      refine go_ifle 82 dX12_readsWheels_20 (by decide) (fun h20 => ?_) (fun h20 => ?_)
      · refine go_icm1 dX12_readsWheels_82 ?_
        refine go_iret dX12_readsWheels_83 ?_
        have e0 : a = 0 := by
          have h9 := h20
          rw [← nI_0, nI_leI (by omega) (by decide)] at h9
          omega
        have eN : N = 0 := by
          have h9 := h16
          rw [nI_ltI (by omega) (by omega)] at h9
          omega
        subst eN
        refine ⟨rfl, ?_, fun k hk => absurd hk (Nat.not_lt_zero k), hF⟩
        rw [h2]; rfl
      · have h0 : 0 < N := by
          have h9 := h20
          rw [← nI_0, nI_leI (by omega) (by decide)] at h9
          omega
        refine go_al0 dX12_readsWheels_23 (go_il1 dX12_readsWheels_24 (go_il2 dX12_readsWheels_25 ?_))
        refine go_V2 mcX12_readsWheel mvX12_readsWheel kX12_122 rfl dX12_readsWheels_26 rfl rfl (mRW hn hp hpn hps hTm hpr ha h0 hpz) ?_
        rintro _ m26 ⟨v, rfl, hF26, hv⟩
        have hT26 : TXm N f m26 := hTm.cong (fun c hc => hF26.1 c (by omega) (by intro z; simp at z; omega))
        refine go_is3 dX12_readsWheels_29 rfl rfl (go_il3 dX12_readsWheels_30 ?_)
        refine go_ifge 40 dX12_readsWheels_31 (by decide) (fun h31 => ?_) (fun h31 => ?_)
        · obtain ⟨j, p', ev, hj1, hj5, hjN, hpr', hn', hs', hP', hstop⟩ : (∃ j p', v = nI (3 + j) ∧ 1 ≤ j ∧ j ≤ 5 ∧ a + 3 + j ≤ N ∧ prd f (a + 3 + j) = (p', none) ∧ pnum p' = n + 1 ∧ pstg p' = 3 + j ∧ PIx p' m26 ∧ (a + 3 + j < N → f (a + 3 + j) ≠ 59 → ptake p' (f (a + 3 + j)) = none)) := by
            rcases hv with ⟨hv, _⟩ | hv
            · exact absurd hv (Int32.not_lt.mpr h31)
            · exact hv
          subst ev
          refine go_inc1 (k := 1) dX12_readsWheels_40 (by decide) rfl rfl (go_il2 dX12_readsWheels_43 (go_il3 dX12_readsWheels_44 (go_iadd dX12_readsWheels_45 (go_is2 dX12_readsWheels_46 rfl rfl ?_))))
          rw [nI_add, show a + (3 + j) = a + 3 + j by omega]
          refine go_il2 dX12_readsWheels_47 (go_al0 dX12_readsWheels_48 (go_getR (j := 53) fX12_7 rfl rfl dX12_readsWheels_49 (go_ic0 dX12_readsWheels_52 (go_iald rfl (vp_in_nI (n := 0) (by decide) (by decide)) dX12_readsWheels_53 ?_))))
          rw [show (0 : Int32).toNatClampNeg = 0 from rfl, hT26.2.1]
          refine go_cne 64 dX12_readsWheels_54 (by decide) (fun h54 => ?_) (fun h54 => ?_)
          · refine go_al0 dX12_readsWheels_64 (go_il2 dX12_readsWheels_65 (go_V1r mcX12_byteAt mvX12_byteAt kX12_112 rfl dX12_readsWheels_66 rfl rfl (mByteAt hT26 (by omega)) (go_bipush (v := 59) dX12_readsWheels_69 (by decide) ?_)))
            refine go_ceq 76 dX12_readsWheels_71 (by decide) (fun h71 => ?_) (fun h71 => ?_)
            · refine go_inc2 (k := 1) dX12_readsWheels_76 (by decide) rfl rfl (go_goto 9 dX12_readsWheels_79 (by decide) ?_)
              have ea : a + 3 + j < N := by
                have : ¬ a + 3 + j = N := fun z => h54 (by rw [z])
                omega
              have he59 : f (a + 3 + j) = 59 := by
                have h9 := h71
                rw [mby, if_pos ea] at h9
                exact (nI_eq (by have := (hTm.2.2 _ ea).2; omega) (by decide)).mp h9
              have hk2 : ptake p' (f (a + 3 + j)) = some (pT2 p') := by
                unfold ptake
                rw [if_neg (by omega), if_neg (by omega), if_pos he59, if_pos (by omega)]
              have hok := prd_ok (N := N) (f := f) (fun j hj => (hTm.2.2 j hj).2) (a + 3 + j + 1) (by omega)
              rw [prd_some hpr' hk2] at hok
              rw [nI_1, nI_1]
              exact ih (72 - (a + 3 + j + 1)) (by omega) (a + 3 + j + 1) (n + 1) (pT2 p') _ _ rfl (by omega) (hT26.cong (fun c hc => rfl)) (prd_some hpr' hk2) hn' rfl (by rw [hF26.2 2 (by decide)]; exact h2) hP'.T2 (hF.tr (hF26.wide (fun x hx => hx) (fun x hx => by cases hx)))
            · refine go_il2 dX12_readsWheels_74 ?_
              refine go_iret dX12_readsWheels_75 ?_
              have ea : a + 3 + j < N := by
                have : ¬ a + 3 + j = N := fun z => h54 (by rw [z])
                omega
              have hne : f (a + 3 + j) ≠ 59 := fun z => h71 (by rw [mby, if_pos ea, z]; rfl)
              have ep := pres_stop hpr' (by omega) h0 (fun _ => hstop ea hne) (fun z => by omega)
              rw [ep]
              exact ⟨rfl, by rw [hF26.2 2 (by decide), h2]; rfl, pz_x _, hF.tr (hF26.wide (fun x hx => hx) (fun x hx => by cases hx))⟩
          · refine go_al0 dX12_readsWheels_57 (go_il1 dX12_readsWheels_58 (go_putI fX12_119 rfl rfl dX12_readsWheels_59 (go_icm1 dX12_readsWheels_62 ?_)))
            refine go_iret dX12_readsWheels_63 ?_
            have ea : a + 3 + j = N := (nI_eq (by omega) (by omega)).mp h54
            have ep := pres_ok (ea ▸ hpr') (by omega)
            rw [ep]
            refine ⟨rfl, by rw [gm_Is, hn', nI_1], fun k hk => ?_, (hF.tr (hF26.wide (fun x hx => hx) (fun x hx => by cases hx))).F _ (by decide)⟩
            rw [gm_In _ _ _ (by decide), gm_In _ _ _ (by decide), gm_In _ _ _ (by decide), gm_In _ _ _ (by decide)]
            exact hP' k hk
        · refine go_il2 dX12_readsWheels_34 (go_il3 dX12_readsWheels_35 (go_isub dX12_readsWheels_36 (go_ic1 dX12_readsWheels_37 (go_isub dX12_readsWheels_38 ?_))))
          refine go_iret dX12_readsWheels_39 ?_
          rcases hv with ⟨_, x, hx, ex⟩ | ⟨j, p', ev, _⟩
          · rw [hx]
            exact ⟨by rw [ex]; rfl, by rw [hF26.2 2 (by decide), h2]; rfl, pz_x _, hF.tr (hF26.wide (fun x hx => hx) (fun x hx => by cases hx))⟩
          · exact absurd (by rw [ev]; exact Int32.not_lt.mp (nI_pos (by omega))) h31
set_option maxRecDepth 100000 in
set_option maxHeartbeats 400000 in
theorem mReadsWheels {N : Nat} {f : Nat → Nat} {μ : gm_M} (hT : TXm N f μ) : Sat yX12_readsWheels cX12_readsWheels 4 (some .int) 3 [(.ref 52)] μ (fun r μ' => r = some (.int (oI (pres N f).1)) ∧ μ'.1 52 2 = nI (pnum (pres N f).2) ∧ PIx (pres N f).2 μ' ∧ FX lP [2] μ μ') := by
  refine Sat.of (L := [some (.ref 52), none, none, none]) (by decide) (fun _ => rfl) (fun _ => rfl) ?_
  refine go_ic0 dX12_readsWheels_0 (go_is1 dX12_readsWheels_1 rfl rfl (go_ic0 dX12_readsWheels_2 (go_is2 dX12_readsWheels_3 rfl rfl (go_al0 dX12_readsWheels_4 (go_ic0 dX12_readsWheels_5 (go_putI fX12_119 rfl rfl dX12_readsWheels_6 ?_))))))
  rw [← nI_0]
  exact mRWs_loop _ 0 0 pz _ _ rfl (Nat.zero_le _) (hT.cong (fun c hc => gm_In _ _ _ (by omega))) rfl rfl rfl (gm_Is _ _ _ _) (pz_x _) ((FX.rf μ).F _ (by decide))

def TXc (N : Nat) (f : Nat → Nat) (m : gm_M) : Prop := N ≤ 30 ∧ m.1 53 1 = nI N ∧ ∀ j, j < N → m.1 54 (71 + j) = nI (f j) ∧ f j < 256
theorem TXc.cong {N : Nat} {f : Nat → Nat} {m m' : gm_M} (h : TXc N f m) (e : ∀ c, c = 53 ∨ c = 54 → m'.1 c = m.1 c) : TXc N f m' := by
  unfold TXc; rw [e 53 (by omega), e 54 (by omega)]; exact h
theorem figs_none {N : Nat} {f : Nat → Nat} (h : cavF N f = none) : figs N f = N := by unfold figs; rw [if_pos h]
theorem figs_some {N x : Nat} {f : Nat → Nat} (h : cavF N f = some x) : figs N f = 0 := by unfold figs; rw [if_neg (by rw [h]; exact fun z => by cases z)]
theorem cwa_some {N x n : Nat} {f : Nat → Nat} (h : cavF N f = some x) : cwa N f n = 5 := by unfold cwa; rw [figs_some h, if_neg (by omega)]
set_option maxRecDepth 100000 in
set_option maxHeartbeats 400000 in
theorem mRC_loop3 {N : Nat} {f : Nat → Nat} {μ : gm_M} (hT : TXc N f μ) (hok : ∀ i, i < N → cavp f i = false) : ∀ (k_ j : Nat) (m : gm_M), N - j = k_ → j ≤ N → (∀ i, i < j → m.1 59 i = nI (f i - 48)) → (∀ i, j ≤ i → i < 30 → m.1 59 i = 5) → (FX [59] [7] μ m) → Go yX12_readsCave cX12_readsCave 2 (some .int) 1 67 [some (.ref 52), some (.int (nI j))] [] m (fun r μ' => r = some (.int (oI (cavF N f))) ∧ μ'.1 52 7 = nI (figs N f) ∧ (∀ n, n < 30 → μ'.1 59 n = nI (cwa N f n)) ∧ FX [59] [7] μ μ') := by
  have hN30 := hT.1
  intro k_
  induction k_ using Nat.strongRecOn with
  | ind k_ ih =>
    intro j m  hk_ hj hA hB hF
    refine go_il1 dX12_readsCave_67 (go_al0 dX12_readsCave_68 (go_getR (j := 53) fX12_7 rfl rfl dX12_readsCave_69 (go_ic1 dX12_readsCave_72 (go_iald rfl (vp_in_nI (n := 1) (by decide) (by decide)) dX12_readsCave_73 ?_))))
    rw [show (1 : Int32).toNatClampNeg = 1 from rfl, (show m.1 53 1 = nI N from by rw [hF.1 53 (by decide) (by decide)]; exact hT.2.1)]
    refine go_cge 101 dX12_readsCave_74 (by decide) (fun h74 => ?_) (fun h74 => ?_)
    · have he : j = N := Nat.le_antisymm hj ((gm_bdN rfl (by omega) (by omega)).mp h74)
      have hTm : TXc N f m := hT.cong (fun c hc => hF.1 c (by omega) (by intro z; simp at z; omega))
      refine go_al0 dX12_readsCave_101 (go_al0 dX12_readsCave_102 (go_getR (j := 53) fX12_7 rfl rfl dX12_readsCave_103 (go_ic1 dX12_readsCave_106 (go_iald rfl (vp_in_nI (n := 1) (by decide) (by decide)) dX12_readsCave_107 (go_putI fX12_126 rfl rfl dX12_readsCave_108 (go_icm1 dX12_readsCave_111 ?_))))))
      refine go_iret dX12_readsCave_112 ?_
      subst he
      have e0 : cavF j f = none := firstN_no _ _ (fun i hi => by rw [Nat.zero_add]; exact hok i hi)
      refine ⟨by rw [e0]; rfl, by rw [gm_Is, figs_none e0, show (1 : Int32).toNatClampNeg = 1 from rfl, hTm.2.1], fun n hn => ?_, hF.F _ (by decide)⟩
      rw [gm_In _ _ _ (by decide)]
      unfold cwa
      rw [figs_none e0]
      by_cases z : n < j
      · rw [if_pos z]; exact hA n z
      · rw [if_neg z]; exact hB n (by omega) hn
    · have hlt : j < N := Nat.not_le.mp (fun zz => h74 ((gm_bdN rfl (by omega) (by omega)).mpr zz))
      have hTm : TXc N f m := hT.cong (fun c hc => hF.1 c (by omega) (by intro z; simp at z; omega))
      have h48 : 48 ≤ f j := by
        have h9 := hok j hlt
        unfold cavp at h9
        simp at h9
        omega
      refine go_al0 dX12_readsCave_77 (go_getR (j := 59) fX12_28 rfl rfl dX12_readsCave_78 (go_il1 dX12_readsCave_81 (go_al0 dX12_readsCave_82 (go_getR (j := 54) fX12_13 rfl rfl dX12_readsCave_83 (go_bipush (v := 71) dX12_readsCave_86 (by decide) (go_il1 dX12_readsCave_88 (go_iadd dX12_readsCave_89 (go_iald rfl (by rw [show (71 : Int32) = nI 71 from rfl, nI_add]; exact vp_in_nI (by omega) (by decide)) dX12_readsCave_90 ?_))))))))
      rw [show (71 : Int32) = nI 71 from rfl, nI_add, nI_clamp (by omega), (hTm.2.2 j hlt).1]
      refine go_bipush (v := 48) dX12_readsCave_91 (by decide) (go_isub dX12_readsCave_93 ?_)
      rw [show (48 : Int32) = nI 48 from rfl, pk_sub h48]
      refine go_iast rfl (vp_in_nI (by omega) (by decide)) dX12_readsCave_94 ?_
      rw [nI_clamp (by omega)]
      refine go_inc1 (k := 1) dX12_readsCave_95 (by decide) rfl rfl (go_goto 67 dX12_readsCave_98 (by decide) ?_)
      rw [nI_1]
      refine ih (N - (j + 1)) (by omega) (j + 1) _ rfl (by omega) (fun i hi => ?_) (fun i h1 h2 => ?_) (hF.I _ _ (by decide) (by decide))
      · rw [gm_I1, if_pos rfl]
        by_cases z : i = j
        · rw [if_pos z, z]
        · rw [if_neg z]; exact hA i (by omega)
      · rw [gm_I1, if_pos rfl, if_neg (by omega)]; exact hB i (by omega) h2

set_option maxRecDepth 100000 in
set_option maxHeartbeats 400000 in
theorem mRC_loop2 {N : Nat} {f : Nat → Nat} {μ m : gm_M} (hT : TXc N f μ) (hB : ∀ i, i < 30 → m.1 59 i = 5) (h7 : m.1 52 7 = 0) (hF : FX [59] [7] μ m) : ∀ (k_ j : Nat), N - j = k_ → j ≤ N → (∀ i, i < j → cavp f i = false) → Go yX12_readsCave cX12_readsCave 2 (some .int) 1 28 [some (.ref 52), some (.int (nI j))] [] m (fun r μ' => r = some (.int (oI (cavF N f))) ∧ μ'.1 52 7 = nI (figs N f) ∧ (∀ n, n < 30 → μ'.1 59 n = nI (cwa N f n)) ∧ FX [59] [7] μ μ') := by
  have hN30 := hT.1
  intro k_
  induction k_ using Nat.strongRecOn with
  | ind k_ ih =>
    intro j  hk_ hj hok
    refine go_il1 dX12_readsCave_28 (go_al0 dX12_readsCave_29 (go_getR (j := 53) fX12_7 rfl rfl dX12_readsCave_30 (go_ic1 dX12_readsCave_33 (go_iald rfl (vp_in_nI (n := 1) (by decide) (by decide)) dX12_readsCave_34 ?_))))
    rw [show (1 : Int32).toNatClampNeg = 1 from rfl, (show m.1 53 1 = nI N from by rw [hF.1 53 (by decide) (by decide)]; exact hT.2.1)]
    refine go_cge 65 dX12_readsCave_35 (by decide) (fun h35 => ?_) (fun h35 => ?_)
    · have he : j = N := Nat.le_antisymm hj ((gm_bdN rfl (by omega) (by omega)).mp h35)
      refine go_ic0 dX12_readsCave_65 (go_is1 dX12_readsCave_66 rfl rfl ?_)
      subst he
      rw [← nI_0]
      exact mRC_loop3 hT hok _ 0 m rfl (Nat.zero_le _) (fun i hi => absurd hi (Nat.not_lt_zero i)) (fun i _ h2 => hB i h2) hF
    · have hlt : j < N := Nat.not_le.mp (fun zz => h35 ((gm_bdN rfl (by omega) (by omega)).mpr zz))
      have hTm : TXc N f m := hT.cong (fun c hc => hF.1 c (by omega) (by intro z; simp at z; omega))
      refine go_al0 dX12_readsCave_38 (go_getR (j := 54) fX12_13 rfl rfl dX12_readsCave_39 (go_bipush (v := 71) dX12_readsCave_42 (by decide) (go_il1 dX12_readsCave_44 (go_iadd dX12_readsCave_45 (go_iald rfl (by rw [show (71 : Int32) = nI 71 from rfl, nI_add]; exact vp_in_nI (by omega) (by decide)) dX12_readsCave_46 ?_)))))
      rw [show (71 : Int32) = nI 71 from rfl, nI_add, nI_clamp (by omega), (hTm.2.2 j hlt).1]
      refine go_bipush (v := 48) dX12_readsCave_47 (by decide) (go_bipush (v := 57) dX12_readsCave_49 (by decide) (go_S3r mcX12_in mvX12_in kX12_104 dX12_readsCave_51 rfl rfl (sX12_in _ _ _ _) ?_))
      refine go_ifneB 59 dX12_readsCave_54 (by decide) (fun h54 => ?_) (fun h54 => ?_)
      · refine go_inc1 (k := 1) dX12_readsCave_59 (by decide) rfl rfl (go_goto 28 dX12_readsCave_62 (by decide) ?_)
        have hgood : cavp f j = false := by
          have hg : gin (nI (f j)) (nI 48) (nI 57) = true := h54
          rw [gin_nI (by have := (hTm.2.2 j hlt).2; omega) (by decide) (by decide)] at hg
          unfold cavp
          simp at hg ⊢
          omega
        rw [nI_1]
        refine ih (N - (j + 1)) (by omega) (j + 1) rfl (by omega) (fun i hi => ?_)
        by_cases z : i = j
        · rw [z]; exact hgood
        · exact hok i (by omega)
      · refine go_il1 dX12_readsCave_57 ?_
        refine go_iret dX12_readsCave_58 ?_
        have hbad : cavp f j = true := by
          have hg : gin (nI (f j)) (nI 48) (nI 57) = false := h54
          rw [gin_nI (by have := (hTm.2.2 j hlt).2; omega) (by decide) (by decide)] at hg
          unfold cavp
          simp at hg ⊢
          omega
        have e0 : cavF N f = some j := by
          have := firstN_some (p := cavp f) N 0 j hlt (fun i hi => by rw [Nat.zero_add]; exact hok i hi) (by rw [Nat.zero_add]; exact hbad)
          rw [Nat.zero_add] at this; exact this
        refine ⟨by rw [e0]; rfl, by rw [h7, figs_some e0]; rfl, fun n hn => by rw [cwa_some e0]; exact hB n hn, hF⟩

set_option maxRecDepth 100000 in
set_option maxHeartbeats 400000 in
theorem mRC_loop1 {N : Nat} {f : Nat → Nat} {μ : gm_M} (hT : TXc N f μ) : ∀ (k_ j : Nat) (m : gm_M), 30 - j = k_ → j ≤ 30 → (∀ i, i < j → m.1 59 i = 5) → (m.1 52 7 = 0) → (FX [59] [7] μ m) → Go yX12_readsCave cX12_readsCave 2 (some .int) 1 7 [some (.ref 52), some (.int (nI j))] [] m (fun r μ' => r = some (.int (oI (cavF N f))) ∧ μ'.1 52 7 = nI (figs N f) ∧ (∀ n, n < 30 → μ'.1 59 n = nI (cwa N f n)) ∧ FX [59] [7] μ μ') := by
  intro k_
  induction k_ using Nat.strongRecOn with
  | ind k_ ih =>
    intro j m  hk_ hj hA h7 hF
    refine go_il1 dX12_readsCave_7 (go_bipush (v := 30) dX12_readsCave_8 (by decide) ?_)
    refine go_cge 26 dX12_readsCave_10 (by decide) (fun h10 => ?_) (fun h10 => ?_)
    · have he : j = 30 := Nat.le_antisymm hj ((gm_bdN (by decide) (by decide) (by omega)).mp h10)
      refine go_ic0 dX12_readsCave_26 (go_is1 dX12_readsCave_27 rfl rfl ?_)
      subst he
      rw [← nI_0]
      exact mRC_loop2 hT hA h7 hF _ 0 rfl (Nat.zero_le _) (fun i hi => absurd hi (Nat.not_lt_zero i))
    · have hlt : j < 30 := Nat.not_le.mp (fun zz => h10 ((gm_bdN (by decide) (by decide) (by omega)).mpr zz))
      refine go_al0 dX12_readsCave_13 (go_getR (j := 59) fX12_28 rfl rfl dX12_readsCave_14 (go_il1 dX12_readsCave_17 (go_ic5 dX12_readsCave_18 (go_iast rfl (vp_in_nI hlt (by decide)) dX12_readsCave_19 ?_))))
      rw [nI_clamp (by omega)]
      refine go_inc1 (k := 1) dX12_readsCave_20 (by decide) rfl rfl (go_goto 7 dX12_readsCave_23 (by decide) ?_)
      rw [nI_1]
      refine ih (30 - (j + 1)) (by omega) (j + 1) _ rfl (by omega) (fun i hi => ?_) h7 (hF.I _ _ (by decide) (by decide))
      rw [gm_I1, if_pos rfl]
      by_cases z : i = j
      · rw [if_pos z]
      · rw [if_neg z]; exact hA i (by omega)

set_option maxRecDepth 100000 in
set_option maxHeartbeats 400000 in
theorem mReadsCave {N : Nat} {f : Nat → Nat} {μ : gm_M} (hT : TXc N f μ) : Sat yX12_readsCave cX12_readsCave 2 (some .int) 1 [(.ref 52)] μ (fun r μ' => r = some (.int (oI (cavF N f))) ∧ μ'.1 52 7 = nI (figs N f) ∧ (∀ n, n < 30 → μ'.1 59 n = nI (cwa N f n)) ∧ FX [59] [7] μ μ') := by
  refine Sat.of (L := [some (.ref 52), none]) (by decide) (fun _ => rfl) (fun _ => rfl) ?_
  refine go_al0 dX12_readsCave_0 (go_ic0 dX12_readsCave_1 (go_putI fX12_126 rfl rfl dX12_readsCave_2 (go_ic0 dX12_readsCave_5 (go_is1 dX12_readsCave_6 rfl rfl ?_))))
  rw [← nI_0]
  exact mRC_loop1 hT _ 0 _ rfl (by decide) (fun i hi => absurd hi (Nat.not_lt_zero i)) (gm_Is _ _ _ _) ((FX.rf μ).F _ (by decide))

