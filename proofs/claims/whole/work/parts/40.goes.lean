/-! THE MODEL: one wheel through the nights -/
def MT (t : TR) (k : Nat) (m : gm_M) : Prop := tok t ∧ k < 8 ∧ m.1 55 k = nI (tso t) ∧ m.1 56 k = nI (tfr t) ∧ m.1 57 k = nI (tsz t) ∧ (∀ j, j < tsz t → m.1 58 (5 * k + j) = nI (tsn t j)) ∧ m.1 52 9 = nI (tti t) ∧ m.1 52 10 = nI (tsh t) ∧ (∀ n, n < 30 → bt (m.1 52 18) n = ttu t n) ∧ (∀ n, n < 30 → bt (m.1 52 19) n = tkn t n) ∧ (∀ n, n < 30 → m.1 64 n = nI (twa t n))
theorem MT.cong {t : TR} {k : Nat} {m m' : gm_M} (h : MT t k m) (e : ∀ c, (55 ≤ c ∧ c ≤ 58) ∨ c = 64 → m'.1 c = m.1 c) (g : ∀ j, j = 9 ∨ j = 10 ∨ j = 18 ∨ j = 19 → m'.1 52 j = m.1 52 j) : MT t k m' := by
  unfold MT
  rw [e 55 (by omega), e 56 (by omega), e 57 (by omega), e 58 (by omega), e 64 (by omega), g 9 (by omega), g 10 (by omega), g 18 (by omega), g 19 (by omega)]
  exact h
def MO (t : TR) (n : Nat) (m : gm_M) : Prop := ∀ j, j < n → m.1 65 j = nI (ta t (j + 1)).1 ∧ m.1 66 j = oI ((tm t j).map (tsn t)) ∧ m.1 67 j = nI (tst t j)
set_option maxRecDepth 100000 in
set_option maxHeartbeats 400000 in
theorem mGrows {t : TR} {μ : gm_M} {k n : Nat} (hM : MT t k μ) (hn : n < 30) : Ret yX12_grows cX12_grows 7 (some .int) 1 [(.ref 52), (.int (nI k)), (.int (nI n))] μ (some (.int (nI (tgr t n (twa t n))))) μ := by
  have hk := hM.2.1
  have hs2 := hM.1.1
  have a18 : ∀ j, j < 30 → Ret yX12_isIn cX12_isIn 2 (some .boolean) 0 [.int (μ.1 52 18), .int (nI j)] μ (some (.int (gb (ttu t j)))) μ := fun j hj => by rw [← hM.2.2.2.2.2.2.2.2.1 j hj]; exact aIsIn (by omega) μ
  have a18b : ∀ j, j < 30 → ¬ nI j ≤ 0 → Ret yX12_isIn cX12_isIn 2 (some .boolean) 0 [.int (μ.1 52 18), .int (nI j - 1)] μ (some (.int (gb (ttu t (j - 1))))) μ := fun j hj h0 => by
    have h1 : 1 ≤ j := by
      rcases Nat.eq_zero_or_pos j with z | z
      · exact absurd (by rw [z]; decide) h0
      · exact z
    rw [nI_lit1, pk_sub h1]; exact a18 (j - 1) (by omega)
  have a19 : ∀ j, j < 30 → Ret yX12_isIn cX12_isIn 2 (some .boolean) 0 [.int (μ.1 52 19), .int (nI j)] μ (some (.int (gb (tkn t j)))) μ := fun j hj => by rw [← hM.2.2.2.2.2.2.2.2.2.1 j hj]; exact aIsIn (by omega) μ
  refine Sat.of (L := [some (.ref 52), some (.int (nI k)), some (.int (nI n)), none, none, none, none]) (by decide) (fun _ => rfl) (fun _ => rfl) ?_
  refine go_al0 dX12_grows_0 (go_getR (j := 64) fX12_43 rfl rfl dX12_grows_1 (go_il2 dX12_grows_4 (go_iald rfl (vp_in_nI hn (by decide)) dX12_grows_5 ?_)))
  rw [nI_clamp (show n < 2 ^ 31 by omega), hM.2.2.2.2.2.2.2.2.2.2 n hn]
  refine go_is3 dX12_grows_6 rfl rfl (go_al0 dX12_grows_7 (go_getI fX12_169 rfl rfl dX12_grows_8 (go_il2 dX12_grows_11 (go_S2r mcX12_isIn mvX12_isIn kX12_175 dX12_grows_12 rfl rfl (a18 n hn) (go_is4 dX12_grows_15 rfl rfl (go_il2 dX12_grows_17 ?_))))))
  refine go_ifle 38 dX12_grows_18 (by decide) (fun h18 => ?_) (fun h18 => ?_)
  · refine go_ic0 dX12_grows_38 (go_is5 dX12_grows_39 rfl rfl (go_al0 dX12_grows_41 (go_getR (j := 55) fX12_16 rfl rfl dX12_grows_42 (go_il1 dX12_grows_45 (go_iald rfl (vp_in_nI (show k < 9 by omega) (by decide)) dX12_grows_46 ?_)))))
    rw [nI_clamp (show k < 2 ^ 31 by omega), hM.2.2.1]
    refine go_ifne 70 dX12_grows_47 (by decide) (fun h47 => ?_) (fun h47 => ?_)
    · refine go_al0 dX12_grows_70 (go_getR (j := 55) fX12_16 rfl rfl dX12_grows_71 (go_il1 dX12_grows_74 (go_iald rfl (vp_in_nI (show k < 9 by omega) (by decide)) dX12_grows_75 ?_)))
      rw [nI_clamp (show k < 2 ^ 31 by omega), hM.2.2.1]
      refine go_ic1 dX12_grows_76 ?_
      refine go_cne 97 dX12_grows_77 (by decide) (fun h77 => ?_) (fun h77 => ?_)
      · refine go_il3 dX12_grows_97 (go_ic1 dX12_grows_98 (go_iadd dX12_grows_99 (go_is6 dX12_grows_100 rfl rfl (go_il6 dX12_grows_102 (go_al0 dX12_grows_104 (go_getI fX12_172 rfl rfl dX12_grows_105 (go_il2 dX12_grows_108 (go_S2r mcX12_isIn mvX12_isIn kX12_175 dX12_grows_109 rfl rfl (a19 n hn) ?_))))))))
        refine go_ifeqB 119 dX12_grows_112 (by decide) (fun h112 => ?_) (fun h112 => ?_)
        · refine go_ic0 dX12_grows_119 (go_iadd dX12_grows_120 ?_)
          refine go_iret dX12_grows_121 ?_
          have n0 : ¬ 0 < n := by
            have h9 := h18
            rw [← nI_0, nI_leI (by omega) (by decide)] at h9
            omega
          have hw := hM.1.2.2.2.2.2.2.2.2 n hn
          have e0 : tso t = 2 := by
            have h8 : ¬ tso t = 0 := fun z => h47 (by rw [z]; rfl)
            have h9 : ¬ tso t = 1 := fun z => h77 (by rw [z]; rfl)
            omega
          refine ⟨?_, rfl⟩
          show some (Value.int (nI (twa t n) + 1 + 0)) = _
          rw [nI_1, Int32.add_zero]
          simp [tgr, n0, e0, h112]
        · refine go_ic2 dX12_grows_115 (go_goto 120 dX12_grows_116 (by decide) (go_iadd dX12_grows_120 ?_))
          refine go_iret dX12_grows_121 ?_
          have n0 : ¬ 0 < n := by
            have h9 := h18
            rw [← nI_0, nI_leI (by omega) (by decide)] at h9
            omega
          have hw := hM.1.2.2.2.2.2.2.2.2 n hn
          have e0 : tso t = 2 := by
            have h8 : ¬ tso t = 0 := fun z => h47 (by rw [z]; rfl)
            have h9 : ¬ tso t = 1 := fun z => h77 (by rw [z]; rfl)
            omega
          refine ⟨?_, rfl⟩
          show some (Value.int (nI (twa t n) + 1 + 2)) = _
          rw [nI_1, nI_lit2, nI_add]
          simp [tgr, n0, e0, h112]
      · refine go_il4 dX12_grows_80 ?_
        refine go_ifeqB 89 dX12_grows_82 (by decide) (fun h82 => ?_) (fun h82 => ?_)
        · refine go_il3 dX12_grows_89 (go_il3 dX12_grows_90 (go_ic2 dX12_grows_91 (go_idiv dX12_grows_92 (by decide) (go_iadd dX12_grows_93 (go_goto 100 dX12_grows_94 (by decide) (go_is6 dX12_grows_100 rfl rfl (go_il6 dX12_grows_102 (go_al0 dX12_grows_104 (go_getI fX12_172 rfl rfl dX12_grows_105 (go_il2 dX12_grows_108 (go_S2r mcX12_isIn mvX12_isIn kX12_175 dX12_grows_109 rfl rfl (a19 n hn) ?_)))))))))))
          refine go_ifeqB 119 dX12_grows_112 (by decide) (fun h112 => ?_) (fun h112 => ?_)
          · refine go_ic0 dX12_grows_119 (go_iadd dX12_grows_120 ?_)
            refine go_iret dX12_grows_121 ?_
            have n0 : ¬ 0 < n := by
              have h9 := h18
              rw [← nI_0, nI_leI (by omega) (by decide)] at h9
              omega
            have hw := hM.1.2.2.2.2.2.2.2.2 n hn
            have e0 : tso t = 1 := by
              have h9 : nI (tso t) = nI 1 := h77
              exact (nI_eq (by omega) (by decide)).mp h9
            refine ⟨?_, rfl⟩
            show some (Value.int (nI (twa t n) + nI (twa t n) / 2 + 0)) = _
            rw [nI_half (by omega), nI_add, Int32.add_zero]
            simp [tgr, n0, e0, h82, h112]
          · refine go_ic2 dX12_grows_115 (go_goto 120 dX12_grows_116 (by decide) (go_iadd dX12_grows_120 ?_))
            refine go_iret dX12_grows_121 ?_
            have n0 : ¬ 0 < n := by
              have h9 := h18
              rw [← nI_0, nI_leI (by omega) (by decide)] at h9
              omega
            have hw := hM.1.2.2.2.2.2.2.2.2 n hn
            have e0 : tso t = 1 := by
              have h9 : nI (tso t) = nI 1 := h77
              exact (nI_eq (by omega) (by decide)).mp h9
            refine ⟨?_, rfl⟩
            show some (Value.int (nI (twa t n) + nI (twa t n) / 2 + 2)) = _
            rw [nI_half (by omega), nI_add, nI_lit2, nI_add]
            simp [tgr, n0, e0, h82, h112]
        · refine go_ic0 dX12_grows_85 (go_goto 100 dX12_grows_86 (by decide) (go_is6 dX12_grows_100 rfl rfl (go_il6 dX12_grows_102 (go_al0 dX12_grows_104 (go_getI fX12_172 rfl rfl dX12_grows_105 (go_il2 dX12_grows_108 (go_S2r mcX12_isIn mvX12_isIn kX12_175 dX12_grows_109 rfl rfl (a19 n hn) ?_)))))))
          refine go_ifeqB 119 dX12_grows_112 (by decide) (fun h112 => ?_) (fun h112 => ?_)
          · refine go_ic0 dX12_grows_119 (go_iadd dX12_grows_120 ?_)
            refine go_iret dX12_grows_121 ?_
            have n0 : ¬ 0 < n := by
              have h9 := h18
              rw [← nI_0, nI_leI (by omega) (by decide)] at h9
              omega
            have hw := hM.1.2.2.2.2.2.2.2.2 n hn
            have e0 : tso t = 1 := by
              have h9 : nI (tso t) = nI 1 := h77
              exact (nI_eq (by omega) (by decide)).mp h9
            refine ⟨?_, rfl⟩
            show some (Value.int (nI 0 + 0)) = _
            rw [Int32.add_zero]
            simp [tgr, n0, e0, h82, h112]
          · refine go_ic2 dX12_grows_115 (go_goto 120 dX12_grows_116 (by decide) (go_iadd dX12_grows_120 ?_))
            refine go_iret dX12_grows_121 ?_
            have n0 : ¬ 0 < n := by
              have h9 := h18
              rw [← nI_0, nI_leI (by omega) (by decide)] at h9
              omega
            have hw := hM.1.2.2.2.2.2.2.2.2 n hn
            have e0 : tso t = 1 := by
              have h9 : nI (tso t) = nI 1 := h77
              exact (nI_eq (by omega) (by decide)).mp h9
            refine ⟨?_, rfl⟩
            show some (Value.int (nI 0 + 2)) = _
            rw [nI_lit2, nI_add]
            simp [tgr, n0, e0, h82, h112]
    · refine go_il4 dX12_grows_50 ?_
      refine go_ifneB 60 dX12_grows_52 (by decide) (fun h52 => ?_) (fun h52 => ?_)
      · refine go_il3 dX12_grows_60 (go_goto 100 dX12_grows_61 (by decide) (go_is6 dX12_grows_100 rfl rfl (go_il6 dX12_grows_102 (go_al0 dX12_grows_104 (go_getI fX12_172 rfl rfl dX12_grows_105 (go_il2 dX12_grows_108 (go_S2r mcX12_isIn mvX12_isIn kX12_175 dX12_grows_109 rfl rfl (a19 n hn) ?_)))))))
        refine go_ifeqB 119 dX12_grows_112 (by decide) (fun h112 => ?_) (fun h112 => ?_)
        · refine go_ic0 dX12_grows_119 (go_iadd dX12_grows_120 ?_)
          refine go_iret dX12_grows_121 ?_
          have n0 : ¬ 0 < n := by
            have h9 := h18
            rw [← nI_0, nI_leI (by omega) (by decide)] at h9
            omega
          have hw := hM.1.2.2.2.2.2.2.2.2 n hn
          have e0 : tso t = 0 := by
            have h9 : nI (tso t) = nI 0 := by rw [nI_0]; exact h47
            exact (nI_eq (by omega) (by decide)).mp h9
          refine ⟨?_, rfl⟩
          show some (Value.int (nI (twa t n) + 0)) = _
          rw [Int32.add_zero]
          simp [tgr, n0, e0, h52, h112]
        · refine go_ic2 dX12_grows_115 (go_goto 120 dX12_grows_116 (by decide) (go_iadd dX12_grows_120 ?_))
          refine go_iret dX12_grows_121 ?_
          have n0 : ¬ 0 < n := by
            have h9 := h18
            rw [← nI_0, nI_leI (by omega) (by decide)] at h9
            omega
          have hw := hM.1.2.2.2.2.2.2.2.2 n hn
          have e0 : tso t = 0 := by
            have h9 : nI (tso t) = nI 0 := by rw [nI_0]; exact h47
            exact (nI_eq (by omega) (by decide)).mp h9
          refine ⟨?_, rfl⟩
          show some (Value.int (nI (twa t n) + 2)) = _
          rw [nI_lit2, nI_add]
          simp [tgr, n0, e0, h52, h112]
      · refine go_il5 dX12_grows_55 ?_
        refine go_ifeq 64 dX12_grows_57 (by decide) (fun _ => ?_) (fun h57 => absurd h57 (by decide))
        refine go_il3 dX12_grows_64 (go_ic2 dX12_grows_65 (go_idiv dX12_grows_66 (by decide) (go_goto 100 dX12_grows_67 (by decide) (go_is6 dX12_grows_100 rfl rfl (go_il6 dX12_grows_102 (go_al0 dX12_grows_104 (go_getI fX12_172 rfl rfl dX12_grows_105 (go_il2 dX12_grows_108 (go_S2r mcX12_isIn mvX12_isIn kX12_175 dX12_grows_109 rfl rfl (a19 n hn) ?_)))))))))
        refine go_ifeqB 119 dX12_grows_112 (by decide) (fun h112 => ?_) (fun h112 => ?_)
        · refine go_ic0 dX12_grows_119 (go_iadd dX12_grows_120 ?_)
          refine go_iret dX12_grows_121 ?_
          have n0 : ¬ 0 < n := by
            have h9 := h18
            rw [← nI_0, nI_leI (by omega) (by decide)] at h9
            omega
          have hw := hM.1.2.2.2.2.2.2.2.2 n hn
          have e0 : tso t = 0 := by
            have h9 : nI (tso t) = nI 0 := by rw [nI_0]; exact h47
            exact (nI_eq (by omega) (by decide)).mp h9
          refine ⟨?_, rfl⟩
          show some (Value.int (nI (twa t n) / 2 + 0)) = _
          rw [nI_half (by omega), Int32.add_zero]
          simp [tgr, n0, e0, h52, h112]
        · refine go_ic2 dX12_grows_115 (go_goto 120 dX12_grows_116 (by decide) (go_iadd dX12_grows_120 ?_))
          refine go_iret dX12_grows_121 ?_
          have n0 : ¬ 0 < n := by
            have h9 := h18
            rw [← nI_0, nI_leI (by omega) (by decide)] at h9
            omega
          have hw := hM.1.2.2.2.2.2.2.2.2 n hn
          have e0 : tso t = 0 := by
            have h9 : nI (tso t) = nI 0 := by rw [nI_0]; exact h47
            exact (nI_eq (by omega) (by decide)).mp h9
          refine ⟨?_, rfl⟩
          show some (Value.int (nI (twa t n) / 2 + 2)) = _
          rw [nI_half (by omega), nI_lit2, nI_add]
          simp [tgr, n0, e0, h52, h112]
  · refine go_al0 dX12_grows_21 (go_getI fX12_169 rfl rfl dX12_grows_22 (go_il2 dX12_grows_25 (go_ic1 dX12_grows_26 (go_isub dX12_grows_27 (go_S2r mcX12_isIn mvX12_isIn kX12_175 dX12_grows_28 rfl rfl (a18b n hn h18) ?_)))))
    refine go_ifeqB 38 dX12_grows_31 (by decide) (fun h31 => ?_) (fun h31 => ?_)
    · refine go_ic0 dX12_grows_38 (go_is5 dX12_grows_39 rfl rfl (go_al0 dX12_grows_41 (go_getR (j := 55) fX12_16 rfl rfl dX12_grows_42 (go_il1 dX12_grows_45 (go_iald rfl (vp_in_nI (show k < 9 by omega) (by decide)) dX12_grows_46 ?_)))))
      rw [nI_clamp (show k < 2 ^ 31 by omega), hM.2.2.1]
      refine go_ifne 70 dX12_grows_47 (by decide) (fun h47 => ?_) (fun h47 => ?_)
      · refine go_al0 dX12_grows_70 (go_getR (j := 55) fX12_16 rfl rfl dX12_grows_71 (go_il1 dX12_grows_74 (go_iald rfl (vp_in_nI (show k < 9 by omega) (by decide)) dX12_grows_75 ?_)))
        rw [nI_clamp (show k < 2 ^ 31 by omega), hM.2.2.1]
        refine go_ic1 dX12_grows_76 ?_
        refine go_cne 97 dX12_grows_77 (by decide) (fun h77 => ?_) (fun h77 => ?_)
        · refine go_il3 dX12_grows_97 (go_ic1 dX12_grows_98 (go_iadd dX12_grows_99 (go_is6 dX12_grows_100 rfl rfl (go_il6 dX12_grows_102 (go_al0 dX12_grows_104 (go_getI fX12_172 rfl rfl dX12_grows_105 (go_il2 dX12_grows_108 (go_S2r mcX12_isIn mvX12_isIn kX12_175 dX12_grows_109 rfl rfl (a19 n hn) ?_))))))))
          refine go_ifeqB 119 dX12_grows_112 (by decide) (fun h112 => ?_) (fun h112 => ?_)
          · refine go_ic0 dX12_grows_119 (go_iadd dX12_grows_120 ?_)
            refine go_iret dX12_grows_121 ?_
            have n0 : 0 < n := by
              have h9 := h18
              rw [← nI_0, nI_leI (by omega) (by decide)] at h9
              omega
            have hw := hM.1.2.2.2.2.2.2.2.2 n hn
            have e0 : tso t = 2 := by
              have h8 : ¬ tso t = 0 := fun z => h47 (by rw [z]; rfl)
              have h9 : ¬ tso t = 1 := fun z => h77 (by rw [z]; rfl)
              omega
            refine ⟨?_, rfl⟩
            show some (Value.int (nI (twa t n) + 1 + 0)) = _
            rw [nI_1, Int32.add_zero]
            simp [tgr, n0, e0, h112]
          · refine go_ic2 dX12_grows_115 (go_goto 120 dX12_grows_116 (by decide) (go_iadd dX12_grows_120 ?_))
            refine go_iret dX12_grows_121 ?_
            have n0 : 0 < n := by
              have h9 := h18
              rw [← nI_0, nI_leI (by omega) (by decide)] at h9
              omega
            have hw := hM.1.2.2.2.2.2.2.2.2 n hn
            have e0 : tso t = 2 := by
              have h8 : ¬ tso t = 0 := fun z => h47 (by rw [z]; rfl)
              have h9 : ¬ tso t = 1 := fun z => h77 (by rw [z]; rfl)
              omega
            refine ⟨?_, rfl⟩
            show some (Value.int (nI (twa t n) + 1 + 2)) = _
            rw [nI_1, nI_lit2, nI_add]
            simp [tgr, n0, e0, h112]
        · refine go_il4 dX12_grows_80 ?_
          refine go_ifeqB 89 dX12_grows_82 (by decide) (fun h82 => ?_) (fun h82 => ?_)
          · refine go_il3 dX12_grows_89 (go_il3 dX12_grows_90 (go_ic2 dX12_grows_91 (go_idiv dX12_grows_92 (by decide) (go_iadd dX12_grows_93 (go_goto 100 dX12_grows_94 (by decide) (go_is6 dX12_grows_100 rfl rfl (go_il6 dX12_grows_102 (go_al0 dX12_grows_104 (go_getI fX12_172 rfl rfl dX12_grows_105 (go_il2 dX12_grows_108 (go_S2r mcX12_isIn mvX12_isIn kX12_175 dX12_grows_109 rfl rfl (a19 n hn) ?_)))))))))))
            refine go_ifeqB 119 dX12_grows_112 (by decide) (fun h112 => ?_) (fun h112 => ?_)
            · refine go_ic0 dX12_grows_119 (go_iadd dX12_grows_120 ?_)
              refine go_iret dX12_grows_121 ?_
              have n0 : 0 < n := by
                have h9 := h18
                rw [← nI_0, nI_leI (by omega) (by decide)] at h9
                omega
              have hw := hM.1.2.2.2.2.2.2.2.2 n hn
              have e0 : tso t = 1 := by
                have h9 : nI (tso t) = nI 1 := h77
                exact (nI_eq (by omega) (by decide)).mp h9
              refine ⟨?_, rfl⟩
              show some (Value.int (nI (twa t n) + nI (twa t n) / 2 + 0)) = _
              rw [nI_half (by omega), nI_add, Int32.add_zero]
              simp [tgr, n0, e0, h82, h112]
            · refine go_ic2 dX12_grows_115 (go_goto 120 dX12_grows_116 (by decide) (go_iadd dX12_grows_120 ?_))
              refine go_iret dX12_grows_121 ?_
              have n0 : 0 < n := by
                have h9 := h18
                rw [← nI_0, nI_leI (by omega) (by decide)] at h9
                omega
              have hw := hM.1.2.2.2.2.2.2.2.2 n hn
              have e0 : tso t = 1 := by
                have h9 : nI (tso t) = nI 1 := h77
                exact (nI_eq (by omega) (by decide)).mp h9
              refine ⟨?_, rfl⟩
              show some (Value.int (nI (twa t n) + nI (twa t n) / 2 + 2)) = _
              rw [nI_half (by omega), nI_add, nI_lit2, nI_add]
              simp [tgr, n0, e0, h82, h112]
          · refine go_ic0 dX12_grows_85 (go_goto 100 dX12_grows_86 (by decide) (go_is6 dX12_grows_100 rfl rfl (go_il6 dX12_grows_102 (go_al0 dX12_grows_104 (go_getI fX12_172 rfl rfl dX12_grows_105 (go_il2 dX12_grows_108 (go_S2r mcX12_isIn mvX12_isIn kX12_175 dX12_grows_109 rfl rfl (a19 n hn) ?_)))))))
            refine go_ifeqB 119 dX12_grows_112 (by decide) (fun h112 => ?_) (fun h112 => ?_)
            · refine go_ic0 dX12_grows_119 (go_iadd dX12_grows_120 ?_)
              refine go_iret dX12_grows_121 ?_
              have n0 : 0 < n := by
                have h9 := h18
                rw [← nI_0, nI_leI (by omega) (by decide)] at h9
                omega
              have hw := hM.1.2.2.2.2.2.2.2.2 n hn
              have e0 : tso t = 1 := by
                have h9 : nI (tso t) = nI 1 := h77
                exact (nI_eq (by omega) (by decide)).mp h9
              refine ⟨?_, rfl⟩
              show some (Value.int (nI 0 + 0)) = _
              rw [Int32.add_zero]
              simp [tgr, n0, e0, h82, h112]
            · refine go_ic2 dX12_grows_115 (go_goto 120 dX12_grows_116 (by decide) (go_iadd dX12_grows_120 ?_))
              refine go_iret dX12_grows_121 ?_
              have n0 : 0 < n := by
                have h9 := h18
                rw [← nI_0, nI_leI (by omega) (by decide)] at h9
                omega
              have hw := hM.1.2.2.2.2.2.2.2.2 n hn
              have e0 : tso t = 1 := by
                have h9 : nI (tso t) = nI 1 := h77
                exact (nI_eq (by omega) (by decide)).mp h9
              refine ⟨?_, rfl⟩
              show some (Value.int (nI 0 + 2)) = _
              rw [nI_lit2, nI_add]
              simp [tgr, n0, e0, h82, h112]
      · refine go_il4 dX12_grows_50 ?_
        refine go_ifneB 60 dX12_grows_52 (by decide) (fun h52 => ?_) (fun h52 => ?_)
        · refine go_il3 dX12_grows_60 (go_goto 100 dX12_grows_61 (by decide) (go_is6 dX12_grows_100 rfl rfl (go_il6 dX12_grows_102 (go_al0 dX12_grows_104 (go_getI fX12_172 rfl rfl dX12_grows_105 (go_il2 dX12_grows_108 (go_S2r mcX12_isIn mvX12_isIn kX12_175 dX12_grows_109 rfl rfl (a19 n hn) ?_)))))))
          refine go_ifeqB 119 dX12_grows_112 (by decide) (fun h112 => ?_) (fun h112 => ?_)
          · refine go_ic0 dX12_grows_119 (go_iadd dX12_grows_120 ?_)
            refine go_iret dX12_grows_121 ?_
            have n0 : 0 < n := by
              have h9 := h18
              rw [← nI_0, nI_leI (by omega) (by decide)] at h9
              omega
            have hw := hM.1.2.2.2.2.2.2.2.2 n hn
            have e0 : tso t = 0 := by
              have h9 : nI (tso t) = nI 0 := by rw [nI_0]; exact h47
              exact (nI_eq (by omega) (by decide)).mp h9
            refine ⟨?_, rfl⟩
            show some (Value.int (nI (twa t n) + 0)) = _
            rw [Int32.add_zero]
            simp [tgr, n0, e0, h52, h31, h112]
          · refine go_ic2 dX12_grows_115 (go_goto 120 dX12_grows_116 (by decide) (go_iadd dX12_grows_120 ?_))
            refine go_iret dX12_grows_121 ?_
            have n0 : 0 < n := by
              have h9 := h18
              rw [← nI_0, nI_leI (by omega) (by decide)] at h9
              omega
            have hw := hM.1.2.2.2.2.2.2.2.2 n hn
            have e0 : tso t = 0 := by
              have h9 : nI (tso t) = nI 0 := by rw [nI_0]; exact h47
              exact (nI_eq (by omega) (by decide)).mp h9
            refine ⟨?_, rfl⟩
            show some (Value.int (nI (twa t n) + 2)) = _
            rw [nI_lit2, nI_add]
            simp [tgr, n0, e0, h52, h31, h112]
        · refine go_il5 dX12_grows_55 ?_
          refine go_ifeq 64 dX12_grows_57 (by decide) (fun _ => ?_) (fun h57 => absurd h57 (by decide))
          refine go_il3 dX12_grows_64 (go_ic2 dX12_grows_65 (go_idiv dX12_grows_66 (by decide) (go_goto 100 dX12_grows_67 (by decide) (go_is6 dX12_grows_100 rfl rfl (go_il6 dX12_grows_102 (go_al0 dX12_grows_104 (go_getI fX12_172 rfl rfl dX12_grows_105 (go_il2 dX12_grows_108 (go_S2r mcX12_isIn mvX12_isIn kX12_175 dX12_grows_109 rfl rfl (a19 n hn) ?_)))))))))
          refine go_ifeqB 119 dX12_grows_112 (by decide) (fun h112 => ?_) (fun h112 => ?_)
          · refine go_ic0 dX12_grows_119 (go_iadd dX12_grows_120 ?_)
            refine go_iret dX12_grows_121 ?_
            have n0 : 0 < n := by
              have h9 := h18
              rw [← nI_0, nI_leI (by omega) (by decide)] at h9
              omega
            have hw := hM.1.2.2.2.2.2.2.2.2 n hn
            have e0 : tso t = 0 := by
              have h9 : nI (tso t) = nI 0 := by rw [nI_0]; exact h47
              exact (nI_eq (by omega) (by decide)).mp h9
            refine ⟨?_, rfl⟩
            show some (Value.int (nI (twa t n) / 2 + 0)) = _
            rw [nI_half (by omega), Int32.add_zero]
            simp [tgr, n0, e0, h52, h31, h112]
          · refine go_ic2 dX12_grows_115 (go_goto 120 dX12_grows_116 (by decide) (go_iadd dX12_grows_120 ?_))
            refine go_iret dX12_grows_121 ?_
            have n0 : 0 < n := by
              have h9 := h18
              rw [← nI_0, nI_leI (by omega) (by decide)] at h9
              omega
            have hw := hM.1.2.2.2.2.2.2.2.2 n hn
            have e0 : tso t = 0 := by
              have h9 : nI (tso t) = nI 0 := by rw [nI_0]; exact h47
              exact (nI_eq (by omega) (by decide)).mp h9
            refine ⟨?_, rfl⟩
            show some (Value.int (nI (twa t n) / 2 + 2)) = _
            rw [nI_half (by omega), nI_lit2, nI_add]
            simp [tgr, n0, e0, h52, h31, h112]
    · refine go_ic1 dX12_grows_34 (go_goto 39 dX12_grows_35 (by decide) (go_is5 dX12_grows_39 rfl rfl (go_al0 dX12_grows_41 (go_getR (j := 55) fX12_16 rfl rfl dX12_grows_42 (go_il1 dX12_grows_45 (go_iald rfl (vp_in_nI (show k < 9 by omega) (by decide)) dX12_grows_46 ?_))))))
      rw [nI_clamp (show k < 2 ^ 31 by omega), hM.2.2.1]
      refine go_ifne 70 dX12_grows_47 (by decide) (fun h47 => ?_) (fun h47 => ?_)
      · refine go_al0 dX12_grows_70 (go_getR (j := 55) fX12_16 rfl rfl dX12_grows_71 (go_il1 dX12_grows_74 (go_iald rfl (vp_in_nI (show k < 9 by omega) (by decide)) dX12_grows_75 ?_)))
        rw [nI_clamp (show k < 2 ^ 31 by omega), hM.2.2.1]
        refine go_ic1 dX12_grows_76 ?_
        refine go_cne 97 dX12_grows_77 (by decide) (fun h77 => ?_) (fun h77 => ?_)
        · refine go_il3 dX12_grows_97 (go_ic1 dX12_grows_98 (go_iadd dX12_grows_99 (go_is6 dX12_grows_100 rfl rfl (go_il6 dX12_grows_102 (go_al0 dX12_grows_104 (go_getI fX12_172 rfl rfl dX12_grows_105 (go_il2 dX12_grows_108 (go_S2r mcX12_isIn mvX12_isIn kX12_175 dX12_grows_109 rfl rfl (a19 n hn) ?_))))))))
          refine go_ifeqB 119 dX12_grows_112 (by decide) (fun h112 => ?_) (fun h112 => ?_)
          · refine go_ic0 dX12_grows_119 (go_iadd dX12_grows_120 ?_)
            refine go_iret dX12_grows_121 ?_
            have n0 : 0 < n := by
              have h9 := h18
              rw [← nI_0, nI_leI (by omega) (by decide)] at h9
              omega
            have hw := hM.1.2.2.2.2.2.2.2.2 n hn
            have e0 : tso t = 2 := by
              have h8 : ¬ tso t = 0 := fun z => h47 (by rw [z]; rfl)
              have h9 : ¬ tso t = 1 := fun z => h77 (by rw [z]; rfl)
              omega
            refine ⟨?_, rfl⟩
            show some (Value.int (nI (twa t n) + 1 + 0)) = _
            rw [nI_1, Int32.add_zero]
            simp [tgr, n0, e0, h112]
          · refine go_ic2 dX12_grows_115 (go_goto 120 dX12_grows_116 (by decide) (go_iadd dX12_grows_120 ?_))
            refine go_iret dX12_grows_121 ?_
            have n0 : 0 < n := by
              have h9 := h18
              rw [← nI_0, nI_leI (by omega) (by decide)] at h9
              omega
            have hw := hM.1.2.2.2.2.2.2.2.2 n hn
            have e0 : tso t = 2 := by
              have h8 : ¬ tso t = 0 := fun z => h47 (by rw [z]; rfl)
              have h9 : ¬ tso t = 1 := fun z => h77 (by rw [z]; rfl)
              omega
            refine ⟨?_, rfl⟩
            show some (Value.int (nI (twa t n) + 1 + 2)) = _
            rw [nI_1, nI_lit2, nI_add]
            simp [tgr, n0, e0, h112]
        · refine go_il4 dX12_grows_80 ?_
          refine go_ifeqB 89 dX12_grows_82 (by decide) (fun h82 => ?_) (fun h82 => ?_)
          · refine go_il3 dX12_grows_89 (go_il3 dX12_grows_90 (go_ic2 dX12_grows_91 (go_idiv dX12_grows_92 (by decide) (go_iadd dX12_grows_93 (go_goto 100 dX12_grows_94 (by decide) (go_is6 dX12_grows_100 rfl rfl (go_il6 dX12_grows_102 (go_al0 dX12_grows_104 (go_getI fX12_172 rfl rfl dX12_grows_105 (go_il2 dX12_grows_108 (go_S2r mcX12_isIn mvX12_isIn kX12_175 dX12_grows_109 rfl rfl (a19 n hn) ?_)))))))))))
            refine go_ifeqB 119 dX12_grows_112 (by decide) (fun h112 => ?_) (fun h112 => ?_)
            · refine go_ic0 dX12_grows_119 (go_iadd dX12_grows_120 ?_)
              refine go_iret dX12_grows_121 ?_
              have n0 : 0 < n := by
                have h9 := h18
                rw [← nI_0, nI_leI (by omega) (by decide)] at h9
                omega
              have hw := hM.1.2.2.2.2.2.2.2.2 n hn
              have e0 : tso t = 1 := by
                have h9 : nI (tso t) = nI 1 := h77
                exact (nI_eq (by omega) (by decide)).mp h9
              refine ⟨?_, rfl⟩
              show some (Value.int (nI (twa t n) + nI (twa t n) / 2 + 0)) = _
              rw [nI_half (by omega), nI_add, Int32.add_zero]
              simp [tgr, n0, e0, h82, h112]
            · refine go_ic2 dX12_grows_115 (go_goto 120 dX12_grows_116 (by decide) (go_iadd dX12_grows_120 ?_))
              refine go_iret dX12_grows_121 ?_
              have n0 : 0 < n := by
                have h9 := h18
                rw [← nI_0, nI_leI (by omega) (by decide)] at h9
                omega
              have hw := hM.1.2.2.2.2.2.2.2.2 n hn
              have e0 : tso t = 1 := by
                have h9 : nI (tso t) = nI 1 := h77
                exact (nI_eq (by omega) (by decide)).mp h9
              refine ⟨?_, rfl⟩
              show some (Value.int (nI (twa t n) + nI (twa t n) / 2 + 2)) = _
              rw [nI_half (by omega), nI_add, nI_lit2, nI_add]
              simp [tgr, n0, e0, h82, h112]
          · refine go_ic0 dX12_grows_85 (go_goto 100 dX12_grows_86 (by decide) (go_is6 dX12_grows_100 rfl rfl (go_il6 dX12_grows_102 (go_al0 dX12_grows_104 (go_getI fX12_172 rfl rfl dX12_grows_105 (go_il2 dX12_grows_108 (go_S2r mcX12_isIn mvX12_isIn kX12_175 dX12_grows_109 rfl rfl (a19 n hn) ?_)))))))
            refine go_ifeqB 119 dX12_grows_112 (by decide) (fun h112 => ?_) (fun h112 => ?_)
            · refine go_ic0 dX12_grows_119 (go_iadd dX12_grows_120 ?_)
              refine go_iret dX12_grows_121 ?_
              have n0 : 0 < n := by
                have h9 := h18
                rw [← nI_0, nI_leI (by omega) (by decide)] at h9
                omega
              have hw := hM.1.2.2.2.2.2.2.2.2 n hn
              have e0 : tso t = 1 := by
                have h9 : nI (tso t) = nI 1 := h77
                exact (nI_eq (by omega) (by decide)).mp h9
              refine ⟨?_, rfl⟩
              show some (Value.int (nI 0 + 0)) = _
              rw [Int32.add_zero]
              simp [tgr, n0, e0, h82, h112]
            · refine go_ic2 dX12_grows_115 (go_goto 120 dX12_grows_116 (by decide) (go_iadd dX12_grows_120 ?_))
              refine go_iret dX12_grows_121 ?_
              have n0 : 0 < n := by
                have h9 := h18
                rw [← nI_0, nI_leI (by omega) (by decide)] at h9
                omega
              have hw := hM.1.2.2.2.2.2.2.2.2 n hn
              have e0 : tso t = 1 := by
                have h9 : nI (tso t) = nI 1 := h77
                exact (nI_eq (by omega) (by decide)).mp h9
              refine ⟨?_, rfl⟩
              show some (Value.int (nI 0 + 2)) = _
              rw [nI_lit2, nI_add]
              simp [tgr, n0, e0, h82, h112]
      · refine go_il4 dX12_grows_50 ?_
        refine go_ifneB 60 dX12_grows_52 (by decide) (fun h52 => ?_) (fun h52 => ?_)
        · refine go_il3 dX12_grows_60 (go_goto 100 dX12_grows_61 (by decide) (go_is6 dX12_grows_100 rfl rfl (go_il6 dX12_grows_102 (go_al0 dX12_grows_104 (go_getI fX12_172 rfl rfl dX12_grows_105 (go_il2 dX12_grows_108 (go_S2r mcX12_isIn mvX12_isIn kX12_175 dX12_grows_109 rfl rfl (a19 n hn) ?_)))))))
          refine go_ifeqB 119 dX12_grows_112 (by decide) (fun h112 => ?_) (fun h112 => ?_)
          · refine go_ic0 dX12_grows_119 (go_iadd dX12_grows_120 ?_)
            refine go_iret dX12_grows_121 ?_
            have n0 : 0 < n := by
              have h9 := h18
              rw [← nI_0, nI_leI (by omega) (by decide)] at h9
              omega
            have hw := hM.1.2.2.2.2.2.2.2.2 n hn
            have e0 : tso t = 0 := by
              have h9 : nI (tso t) = nI 0 := by rw [nI_0]; exact h47
              exact (nI_eq (by omega) (by decide)).mp h9
            refine ⟨?_, rfl⟩
            show some (Value.int (nI (twa t n) + 0)) = _
            rw [Int32.add_zero]
            simp [tgr, n0, e0, h52, h31, h112]
          · refine go_ic2 dX12_grows_115 (go_goto 120 dX12_grows_116 (by decide) (go_iadd dX12_grows_120 ?_))
            refine go_iret dX12_grows_121 ?_
            have n0 : 0 < n := by
              have h9 := h18
              rw [← nI_0, nI_leI (by omega) (by decide)] at h9
              omega
            have hw := hM.1.2.2.2.2.2.2.2.2 n hn
            have e0 : tso t = 0 := by
              have h9 : nI (tso t) = nI 0 := by rw [nI_0]; exact h47
              exact (nI_eq (by omega) (by decide)).mp h9
            refine ⟨?_, rfl⟩
            show some (Value.int (nI (twa t n) + 2)) = _
            rw [nI_lit2, nI_add]
            simp [tgr, n0, e0, h52, h31, h112]
        · refine go_il5 dX12_grows_55 ?_
          refine go_ifeq 64 dX12_grows_57 (by decide) (fun h57 => absurd h57 (by decide)) (fun _ => ?_)
          refine go_il3 dX12_grows_60 (go_goto 100 dX12_grows_61 (by decide) (go_is6 dX12_grows_100 rfl rfl (go_il6 dX12_grows_102 (go_al0 dX12_grows_104 (go_getI fX12_172 rfl rfl dX12_grows_105 (go_il2 dX12_grows_108 (go_S2r mcX12_isIn mvX12_isIn kX12_175 dX12_grows_109 rfl rfl (a19 n hn) ?_)))))))
          refine go_ifeqB 119 dX12_grows_112 (by decide) (fun h112 => ?_) (fun h112 => ?_)
          · refine go_ic0 dX12_grows_119 (go_iadd dX12_grows_120 ?_)
            refine go_iret dX12_grows_121 ?_
            have n0 : 0 < n := by
              have h9 := h18
              rw [← nI_0, nI_leI (by omega) (by decide)] at h9
              omega
            have hw := hM.1.2.2.2.2.2.2.2.2 n hn
            have e0 : tso t = 0 := by
              have h9 : nI (tso t) = nI 0 := by rw [nI_0]; exact h47
              exact (nI_eq (by omega) (by decide)).mp h9
            refine ⟨?_, rfl⟩
            show some (Value.int (nI (twa t n) + 0)) = _
            rw [Int32.add_zero]
            simp [tgr, n0, e0, h52, h31, h112]
          · refine go_ic2 dX12_grows_115 (go_goto 120 dX12_grows_116 (by decide) (go_iadd dX12_grows_120 ?_))
            refine go_iret dX12_grows_121 ?_
            have n0 : 0 < n := by
              have h9 := h18
              rw [← nI_0, nI_leI (by omega) (by decide)] at h9
              omega
            have hw := hM.1.2.2.2.2.2.2.2.2 n hn
            have e0 : tso t = 0 := by
              have h9 : nI (tso t) = nI 0 := by rw [nI_0]; exact h47
              exact (nI_eq (by omega) (by decide)).mp h9
            refine ⟨?_, rfl⟩
            show some (Value.int (nI (twa t n) + 2)) = _
            rw [nI_lit2, nI_add]
            simp [tgr, n0, e0, h52, h31, h112]

theorem ta_there {t : TR} {n : Nat} (h1 : tfr t ≤ n) (h2 : (ta t n).2 = false) : ta t (n + 1) = ((ta t n).1 + tgr t n (twa t n), tea t ((ta t n).1 + tgr t n (twa t n))) := by simp only [ta]; rw [if_pos ⟨h1, h2⟩]
theorem ta_away {t : TR} {n : Nat} (h1 : n < tfr t) : ta t (n + 1) = ta t n := by simp only [ta]; rw [if_neg (by omega)]
theorem ta_gone1 {t : TR} {n : Nat} (h2 : (ta t n).2 = true) : ta t (n + 1) = ta t n := by simp only [ta]; rw [if_neg (by simp [h2])]
theorem nI_div {a b : Nat} (ha : a < 2 ^ 31) (hb : b < 2 ^ 31) (h0 : 0 < b) : nI a / nI b = nI (a / b) := pk_div ha h0 hb
theorem MO.put {t : TR} {n : Nat} {m : gm_M} (h : MO t n m) {a b c : Int32} (h1 : a = nI (ta t (n + 1)).1) (h2 : b = oI ((tm t n).map (tsn t))) (h3 : c = nI (tst t n)) : MO t (n + 1) (gm_I (gm_I (gm_I m 65 n a) 66 n b) 67 n c) := by
  intro j hj
  have e65 : (gm_I (gm_I (gm_I m 65 n a) 66 n b) 67 n c).1 65 j = if j = n then a else m.1 65 j := by simp [gm_I1]
  have e66 : (gm_I (gm_I (gm_I m 65 n a) 66 n b) 67 n c).1 66 j = if j = n then b else m.1 66 j := by simp [gm_I1]
  have e67 : (gm_I (gm_I (gm_I m 65 n a) 66 n b) 67 n c).1 67 j = if j = n then c else m.1 67 j := by simp [gm_I1]
  rw [e65, e66, e67]
  by_cases z : j = n
  · rw [if_pos z, if_pos z, if_pos z, z]; exact ⟨h1, h2, h3⟩
  · rw [if_neg z, if_neg z, if_neg z]; exact h j (by omega)
set_option maxRecDepth 100000 in
set_option maxHeartbeats 400000 in
theorem mGo_loop {t : TR} {μ : gm_M} {k : Nat} : ∀ (k_ n : Nat) (d5 d6 d7 d8 d9 : Option Value) (m : gm_M), 30 - n = k_ → n ≤ 30 → (MT t k m) → (MO t n m) → (FX lR [] μ m) → Go yX12_goes cX12_goes 10 none 2 7 [some (.ref 52), some (.int (nI k)), some (.int (nI (ta t n).1)), some (.int (gb (ta t n).2)), some (.int (nI n)), d5, d6, d7, d8, d9] [] m (fun r μ' => r = none ∧ FX lR [] μ μ' ∧ MO t 30 μ') := by
  intro k_
  induction k_ using Nat.strongRecOn with
  | ind k_ ih =>
    intro n d5 d6 d7 d8 d9  m  hk_ hj hM hO hF
    refine go_il4 dX12_goes_7 (go_bipush (v := 30) dX12_goes_9 (by decide) ?_)
    refine go_cge 226 dX12_goes_11 (by decide) (fun h11 => ?_) (fun h11 => ?_)
    · have he : n = 30 := Nat.le_antisymm hj ((gm_bdN (by decide) (by decide) (by omega)).mp h11)
      refine go_vret dX12_goes_226 ?_
      subst he
      exact ⟨rfl, hF, hO⟩
    · have hlt : n < 30 := Nat.not_le.mp (fun zz => h11 ((gm_bdN (by decide) (by decide) (by omega)).mpr zz))
      have hk := hM.2.1
      have hok := hM.1
      have hs2 : tso t ≤ 2 := hM.1.1
      have hf19 : tfr t ≤ 19 := hM.1.2.1
      have hz5 : tsz t ≤ 5 := hM.1.2.2.2.1
      have ht1 : 1 ≤ tti t := hM.1.2.2.2.2.1
      have ht20 : tti t ≤ 20 := hM.1.2.2.2.2.2.1
      have hs8 : tsh t ≤ 8 := hM.1.2.2.2.2.2.2.1
      have hti0 : ¬ nI (tti t) = 0 := by rw [← nI_0]; intro z; rw [nI_eq (by omega) (by decide)] at z; omega
      have ga0 : n < tfr t → (ta t n).2 = false := fun z => by rw [ta_before n (by omega)]
      refine go_il4 dX12_goes_14 (go_al0 dX12_goes_16 (go_getR (j := 56) fX12_19 rfl rfl dX12_goes_17 (go_il1 dX12_goes_20 (go_iald rfl (vp_in_nI (show k < 9 by omega) (by decide)) dX12_goes_21 ?_))))
      rw [nI_clamp (show k < 2 ^ 31 by omega), hM.2.2.2.1]
      refine go_clt 33 dX12_goes_22 (by decide) (fun h22 => ?_) (fun h22 => ?_)
      · refine go_ic0 dX12_goes_33 (go_is5 dX12_goes_34 rfl rfl (go_il2 dX12_goes_36 (go_il5 dX12_goes_37 ?_)))
        refine go_ifeq 52 dX12_goes_39 (by decide) (fun _ => ?_) (fun h39 => absurd h39 (by decide))
        refine go_ic0 dX12_goes_52 (go_iadd dX12_goes_53 ?_)
        refine go_is2 dX12_goes_54 rfl rfl (go_il2 dX12_goes_55 (go_al0 dX12_goes_56 (go_getI fX12_95 rfl rfl dX12_goes_57 ?_)))
        rw [hM.2.2.2.2.2.2.1]
        refine go_idiv dX12_goes_60 hti0 ?_
        refine go_is6 dX12_goes_61 rfl rfl (go_il5 dX12_goes_63 ?_)
        refine go_ifeq 83 dX12_goes_65 (by decide) (fun _ => ?_) (fun h65 => absurd h65 (by decide))
        refine go_ic0 dX12_goes_83 (go_is7 dX12_goes_84 rfl rfl (go_il7 dX12_goes_86 ?_))
        refine go_ifeq 105 dX12_goes_88 (by decide) (fun _ => ?_) (fun h88 => absurd h88 (by decide))
        refine go_icm1 dX12_goes_105 (go_is8 dX12_goes_106 rfl rfl (go_il7 dX12_goes_108 ?_))
        refine go_ifeq 136 dX12_goes_110 (by decide) (fun _ => ?_) (fun h110 => absurd h110 (by decide))
        refine go_ic0 dX12_goes_136 (go_is9 dX12_goes_137 rfl rfl (go_al0 dX12_goes_139 (go_getR (j := 65) fX12_46 rfl rfl dX12_goes_140 (go_il4 dX12_goes_143 (go_il2 dX12_goes_145 (go_iast rfl (vp_in_nI hlt (by decide)) dX12_goes_146 ?_))))))
        rw [nI_clamp (show n < 2 ^ 31 by omega)]
        refine go_al0 dX12_goes_147 (go_getR (j := 66) fX12_49 rfl rfl dX12_goes_148 (go_il4 dX12_goes_151 (go_il8 dX12_goes_153 (go_iast rfl (vp_in_nI hlt (by decide)) dX12_goes_155 ?_))))
        rw [nI_clamp (show n < 2 ^ 31 by omega)]
        refine go_al0 dX12_goes_156 (go_getR (j := 67) fX12_52 rfl rfl dX12_goes_157 (go_il4 dX12_goes_160 (go_il4 dX12_goes_162 (go_al0 dX12_goes_164 (go_getR (j := 56) fX12_19 rfl rfl dX12_goes_165 (go_il1 dX12_goes_168 (go_iald rfl (vp_in_nI (show k < 9 by omega) (by decide)) dX12_goes_169 ?_)))))))
        rw [nI_clamp (show k < 2 ^ 31 by omega), gm_In _ _ _ (by decide), gm_In _ _ _ (by decide), hM.2.2.2.1]
        refine go_cge 177 dX12_goes_170 (by decide) (fun h170 => ?_) (fun h170 => ?_)
        · exact absurd h170 (Int32.not_le.mpr h22)
        · refine go_ic0 dX12_goes_173 (go_goto 204 dX12_goes_174 (by decide) (go_iast rfl (vp_in_nI hlt (by decide)) dX12_goes_204 ?_))
          rw [nI_clamp (show n < 2 ^ 31 by omega)]
          refine go_il3 dX12_goes_205 ?_
          refine go_ifneB 214 dX12_goes_206 (by decide) (fun h206 => ?_) (fun h206 => ?_)
          · exact absurd h206 (gf (ga0 ((nI_ltI (by omega) (by omega)).mp h22)))
          · refine go_il9 dX12_goes_209 ?_
            refine go_ifeq 218 dX12_goes_211 (by decide) (fun _ => ?_) (fun h211 => absurd h211 (by decide))
            refine go_ic0 dX12_goes_218 (go_is3 dX12_goes_219 rfl rfl (go_inc4 (k := 1) dX12_goes_220 (by decide) rfl rfl (go_goto 7 dX12_goes_223 (by decide) ?_)))
            have hlf : n < tfr t := (nI_ltI (by omega) (by omega)).mp h22
            have e1 := ta_away hlf
            have e2 : (ta t (n + 1)).2 = false := by rw [e1]; exact ga0 hlf
            have e3 : tm t n = none := tm_before hlf
            rw [nI_1]
            have eS : nI (tst t n) = (0 : Int32) := by unfold tst; rw [if_pos hlf]; rfl
            have eL : oI ((tm t n).map (tsn t)) = (-1 : Int32) := by rw [e3]; rfl
            have h99 := fun d5 d6 d7 d8 d9 => ih (30 - (n + 1)) (by omega) (n + 1) d5 d6 d7 d8 d9 (gm_I (gm_I (gm_I m 65 n (nI (ta t (n + 1)).1)) 66 n (oI ((tm t n).map (tsn t)))) 67 n (nI (tst t n))) rfl (by omega) (hM.cong (fun c hc => by rw [gm_In _ _ _ (by omega), gm_In _ _ _ (by omega), gm_In _ _ _ (by omega)]) (fun j hj => rfl)) (hO.put rfl rfl rfl) (((hF.I _ _ (by decide) (by decide)).I _ _ (by decide) (by decide)).I _ _ (by decide) (by decide))
            rw [eS, eL, e2] at h99
            rw [e1] at h99
            rw [Int32.add_zero]
            exact h99 _ _ _ _ _
      · refine go_il3 dX12_goes_25 ?_
        refine go_ifneB 33 dX12_goes_26 (by decide) (fun h26 => ?_) (fun h26 => ?_)
        · refine go_ic0 dX12_goes_33 (go_is5 dX12_goes_34 rfl rfl (go_il2 dX12_goes_36 (go_il5 dX12_goes_37 ?_)))
          refine go_ifeq 52 dX12_goes_39 (by decide) (fun _ => ?_) (fun h39 => absurd h39 (by decide))
          refine go_ic0 dX12_goes_52 (go_iadd dX12_goes_53 ?_)
          refine go_is2 dX12_goes_54 rfl rfl (go_il2 dX12_goes_55 (go_al0 dX12_goes_56 (go_getI fX12_95 rfl rfl dX12_goes_57 ?_)))
          rw [hM.2.2.2.2.2.2.1]
          refine go_idiv dX12_goes_60 hti0 ?_
          refine go_is6 dX12_goes_61 rfl rfl (go_il5 dX12_goes_63 ?_)
          refine go_ifeq 83 dX12_goes_65 (by decide) (fun _ => ?_) (fun h65 => absurd h65 (by decide))
          refine go_ic0 dX12_goes_83 (go_is7 dX12_goes_84 rfl rfl (go_il7 dX12_goes_86 ?_))
          refine go_ifeq 105 dX12_goes_88 (by decide) (fun _ => ?_) (fun h88 => absurd h88 (by decide))
          refine go_icm1 dX12_goes_105 (go_is8 dX12_goes_106 rfl rfl (go_il7 dX12_goes_108 ?_))
          refine go_ifeq 136 dX12_goes_110 (by decide) (fun _ => ?_) (fun h110 => absurd h110 (by decide))
          refine go_ic0 dX12_goes_136 (go_is9 dX12_goes_137 rfl rfl (go_al0 dX12_goes_139 (go_getR (j := 65) fX12_46 rfl rfl dX12_goes_140 (go_il4 dX12_goes_143 (go_il2 dX12_goes_145 (go_iast rfl (vp_in_nI hlt (by decide)) dX12_goes_146 ?_))))))
          rw [nI_clamp (show n < 2 ^ 31 by omega)]
          refine go_al0 dX12_goes_147 (go_getR (j := 66) fX12_49 rfl rfl dX12_goes_148 (go_il4 dX12_goes_151 (go_il8 dX12_goes_153 (go_iast rfl (vp_in_nI hlt (by decide)) dX12_goes_155 ?_))))
          rw [nI_clamp (show n < 2 ^ 31 by omega)]
          refine go_al0 dX12_goes_156 (go_getR (j := 67) fX12_52 rfl rfl dX12_goes_157 (go_il4 dX12_goes_160 (go_il4 dX12_goes_162 (go_al0 dX12_goes_164 (go_getR (j := 56) fX12_19 rfl rfl dX12_goes_165 (go_il1 dX12_goes_168 (go_iald rfl (vp_in_nI (show k < 9 by omega) (by decide)) dX12_goes_169 ?_)))))))
          rw [nI_clamp (show k < 2 ^ 31 by omega), gm_In _ _ _ (by decide), gm_In _ _ _ (by decide), hM.2.2.2.1]
          refine go_cge 177 dX12_goes_170 (by decide) (fun h170 => ?_) (fun h170 => ?_)
          · refine go_il3 dX12_goes_177 ?_
            refine go_ifeqB 185 dX12_goes_178 (by decide) (fun h178 => ?_) (fun h178 => ?_)
            · exact absurd h26 (gf h178)
            · refine go_ic4 dX12_goes_181 (go_goto 204 dX12_goes_182 (by decide) (go_iast rfl (vp_in_nI hlt (by decide)) dX12_goes_204 ?_))
              rw [nI_clamp (show n < 2 ^ 31 by omega)]
              refine go_il3 dX12_goes_205 ?_
              refine go_ifneB 214 dX12_goes_206 (by decide) (fun h206 => ?_) (fun h206 => ?_)
              · refine go_ic1 dX12_goes_214 (go_goto 219 dX12_goes_215 (by decide) (go_is3 dX12_goes_219 rfl rfl (go_inc4 (k := 1) dX12_goes_220 (by decide) rfl rfl (go_goto 7 dX12_goes_223 (by decide) ?_))))
                have hlf : ¬ n < tfr t := fun z => h22 ((nI_ltI (by omega) (by omega)).mpr z)
                have e1 := ta_gone1 h26
                have e2 : (ta t (n + 1)).2 = true := by rw [e1]; exact h26
                have e3 : tm t n = none := tm_gone h26 (Nat.le_refl _)
                rw [nI_1]
                have eS : nI (tst t n) = (4 : Int32) := by unfold tst; rw [if_neg hlf, if_pos h26]; rfl
                have eL : oI ((tm t n).map (tsn t)) = (-1 : Int32) := by rw [e3]; rfl
                have h99 := fun d5 d6 d7 d8 d9 => ih (30 - (n + 1)) (by omega) (n + 1) d5 d6 d7 d8 d9 (gm_I (gm_I (gm_I m 65 n (nI (ta t (n + 1)).1)) 66 n (oI ((tm t n).map (tsn t)))) 67 n (nI (tst t n))) rfl (by omega) (hM.cong (fun c hc => by rw [gm_In _ _ _ (by omega), gm_In _ _ _ (by omega), gm_In _ _ _ (by omega)]) (fun j hj => rfl)) (hO.put rfl rfl rfl) (((hF.I _ _ (by decide) (by decide)).I _ _ (by decide) (by decide)).I _ _ (by decide) (by decide))
                rw [eS, eL, e2] at h99
                rw [e1] at h99
                rw [Int32.add_zero]
                exact h99 _ _ _ _ _
              · exact absurd h26 (gf h206)
          · exact absurd (Int32.not_le.mp h170) h22
        · refine go_ic1 dX12_goes_29 (go_goto 34 dX12_goes_30 (by decide) (go_is5 dX12_goes_34 rfl rfl (go_il2 dX12_goes_36 (go_il5 dX12_goes_37 ?_))))
          refine go_ifeq 52 dX12_goes_39 (by decide) (fun h39 => absurd h39 (by decide)) (fun _ => ?_)
          refine go_al0 dX12_goes_42 (go_il1 dX12_goes_43 (go_il4 dX12_goes_44 (go_V2r mcX12_grows mvX12_grows kX12_179 rfl dX12_goes_46 rfl rfl (mGrows hM hlt) ?_)))
          have e1 := ta_there (t := t) (n := n) (Nat.not_lt.mp (fun z => h22 ((nI_ltI (by omega) (by omega)).mpr z))) h26
          have hgr := tgr_le (t := t) (n := n) (hM.1.2.2.2.2.2.2.2.2 n hlt)
          have hle := ta_le hM.1 n (by omega)
          have e1a : (ta t (n + 1)).1 = (ta t n).1 + tgr t n (twa t n) := by rw [e1]
          have hte : (ta t (n + 1)).2 = tea t (ta t (n + 1)).1 := by rw [e1]
          have htm : tm t n = tmo t (ta t (n + 1)).1 := by unfold tm; rw [if_pos ⟨Nat.not_lt.mp (fun z => h22 ((nI_ltI (by omega) (by omega)).mpr z)), h26⟩]
          have hdv := Nat.div_le_self (ta t (n + 1)).1 (tti t)
          refine go_goto 53 dX12_goes_49 (by decide) (go_iadd dX12_goes_53 ?_)
          rw [nI_add, ← e1a]
          refine go_is2 dX12_goes_54 rfl rfl (go_il2 dX12_goes_55 (go_al0 dX12_goes_56 (go_getI fX12_95 rfl rfl dX12_goes_57 ?_)))
          rw [hM.2.2.2.2.2.2.1]
          refine go_idiv dX12_goes_60 hti0 ?_
          rw [nI_div (by omega) (by omega) (by omega)]
          refine go_is6 dX12_goes_61 rfl rfl (go_il5 dX12_goes_63 ?_)
          refine go_ifeq 83 dX12_goes_65 (by decide) (fun h65 => absurd h65 (by decide)) (fun _ => ?_)
          refine go_il6 dX12_goes_68 (go_al0 dX12_goes_70 (go_getR (j := 57) fX12_22 rfl rfl dX12_goes_71 (go_il1 dX12_goes_74 (go_iald rfl (vp_in_nI (show k < 9 by omega) (by decide)) dX12_goes_75 ?_))))
          rw [nI_clamp (show k < 2 ^ 31 by omega), hM.2.2.2.2.1]
          refine go_cge 83 dX12_goes_76 (by decide) (fun h76 => ?_) (fun h76 => ?_)
          · refine go_ic0 dX12_goes_83 (go_is7 dX12_goes_84 rfl rfl (go_il7 dX12_goes_86 ?_))
            refine go_ifeq 105 dX12_goes_88 (by decide) (fun _ => ?_) (fun h88 => absurd h88 (by decide))
            refine go_icm1 dX12_goes_105 (go_is8 dX12_goes_106 rfl rfl (go_il7 dX12_goes_108 ?_))
            refine go_ifeq 136 dX12_goes_110 (by decide) (fun _ => ?_) (fun h110 => absurd h110 (by decide))
            refine go_ic0 dX12_goes_136 (go_is9 dX12_goes_137 rfl rfl (go_al0 dX12_goes_139 (go_getR (j := 65) fX12_46 rfl rfl dX12_goes_140 (go_il4 dX12_goes_143 (go_il2 dX12_goes_145 (go_iast rfl (vp_in_nI hlt (by decide)) dX12_goes_146 ?_))))))
            rw [nI_clamp (show n < 2 ^ 31 by omega)]
            refine go_al0 dX12_goes_147 (go_getR (j := 66) fX12_49 rfl rfl dX12_goes_148 (go_il4 dX12_goes_151 (go_il8 dX12_goes_153 (go_iast rfl (vp_in_nI hlt (by decide)) dX12_goes_155 ?_))))
            rw [nI_clamp (show n < 2 ^ 31 by omega)]
            refine go_al0 dX12_goes_156 (go_getR (j := 67) fX12_52 rfl rfl dX12_goes_157 (go_il4 dX12_goes_160 (go_il4 dX12_goes_162 (go_al0 dX12_goes_164 (go_getR (j := 56) fX12_19 rfl rfl dX12_goes_165 (go_il1 dX12_goes_168 (go_iald rfl (vp_in_nI (show k < 9 by omega) (by decide)) dX12_goes_169 ?_)))))))
            rw [nI_clamp (show k < 2 ^ 31 by omega), gm_In _ _ _ (by decide), gm_In _ _ _ (by decide), hM.2.2.2.1]
            refine go_cge 177 dX12_goes_170 (by decide) (fun h170 => ?_) (fun h170 => ?_)
            · refine go_il3 dX12_goes_177 ?_
              refine go_ifeqB 185 dX12_goes_178 (by decide) (fun h178 => ?_) (fun h178 => ?_)
              · refine go_il7 dX12_goes_185 ?_
                refine go_ifne 194 dX12_goes_187 (by decide) (fun h187 => absurd h187 (by decide)) (fun _ => ?_)
                refine go_ic2 dX12_goes_190 (go_goto 204 dX12_goes_191 (by decide) (go_iast rfl (vp_in_nI hlt (by decide)) dX12_goes_204 ?_))
                rw [nI_clamp (show n < 2 ^ 31 by omega)]
                refine go_il3 dX12_goes_205 ?_
                refine go_ifneB 214 dX12_goes_206 (by decide) (fun h206 => ?_) (fun h206 => ?_)
                · exact absurd h206 (gf h26)
                · refine go_il9 dX12_goes_209 ?_
                  refine go_ifeq 218 dX12_goes_211 (by decide) (fun _ => ?_) (fun h211 => absurd h211 (by decide))
                  refine go_ic0 dX12_goes_218 (go_is3 dX12_goes_219 rfl rfl (go_inc4 (k := 1) dX12_goes_220 (by decide) rfl rfl (go_goto 7 dX12_goes_223 (by decide) ?_)))
                  have hlf : ¬ n < tfr t := fun z => h22 ((nI_ltI (by omega) (by omega)).mpr z)
                  have hsm : ¬ (ta t (n + 1)).1 / tti t < tsz t := by
                    have h9 := h76
                    rw [nI_leI (by omega) (by omega)] at h9
                    omega
                  have e3 : tm t n = none := by rw [htm]; unfold tmo; rw [if_neg hsm]
                  have e2 : (ta t (n + 1)).2 = false := by rw [hte]; unfold tea tsc; simp [hsm]
                  rw [nI_1]
                  have eS : nI (tst t n) = (2 : Int32) := by unfold tst; rw [if_neg hlf, if_neg (gf h26), if_pos e3]; rfl
                  have eL : oI ((tm t n).map (tsn t)) = (-1 : Int32) := by rw [e3]; rfl
                  have h99 := fun d5 d6 d7 d8 d9 => ih (30 - (n + 1)) (by omega) (n + 1) d5 d6 d7 d8 d9 (gm_I (gm_I (gm_I m 65 n (nI (ta t (n + 1)).1)) 66 n (oI ((tm t n).map (tsn t)))) 67 n (nI (tst t n))) rfl (by omega) (hM.cong (fun c hc => by rw [gm_In _ _ _ (by omega), gm_In _ _ _ (by omega), gm_In _ _ _ (by omega)]) (fun j hj => rfl)) (hO.put rfl rfl rfl) (((hF.I _ _ (by decide) (by decide)).I _ _ (by decide) (by decide)).I _ _ (by decide) (by decide))
                  rw [eS, eL, e2] at h99
                  exact h99 _ _ _ _ _
              · exact absurd h178 (gf h26)
            · exact absurd (Int32.not_le.mp h170) h22
          · refine go_ic1 dX12_goes_79 (go_goto 84 dX12_goes_80 (by decide) (go_is7 dX12_goes_84 rfl rfl (go_il7 dX12_goes_86 ?_)))
            refine go_ifeq 105 dX12_goes_88 (by decide) (fun h88 => absurd h88 (by decide)) (fun _ => ?_)
            refine go_al0 dX12_goes_91 (go_getR (j := 58) fX12_25 rfl rfl dX12_goes_92 (go_ic5 dX12_goes_95 (go_il1 dX12_goes_96 (go_imul dX12_goes_97 (go_il6 dX12_goes_98 (go_iadd dX12_goes_100 ?_))))))
            have hsm0 : (ta t (n + 1)).1 / tti t < tsz t := by
              have h9 := h76
              rw [nI_leI (by omega) (by omega)] at h9
              omega
            rw [show (5 : Int32) = nI 5 from rfl, pk_mul, nI_add]
            refine go_iald rfl (vp_in_nI (by omega) (by decide)) dX12_goes_101 ?_
            rw [nI_clamp (by omega), hM.2.2.2.2.2.1 _ hsm0]
            refine go_goto 106 dX12_goes_102 (by decide) (go_is8 dX12_goes_106 rfl rfl (go_il7 dX12_goes_108 ?_))
            refine go_ifeq 136 dX12_goes_110 (by decide) (fun h110 => absurd h110 (by decide)) (fun _ => ?_)
            refine go_il8 dX12_goes_113 (go_al0 dX12_goes_115 (go_getI fX12_99 rfl rfl dX12_goes_116 ?_))
            rw [hM.2.2.2.2.2.2.2.1]
            refine go_clt 136 dX12_goes_119 (by decide) (fun h119 => ?_) (fun h119 => ?_)
            · refine go_ic0 dX12_goes_136 (go_is9 dX12_goes_137 rfl rfl (go_al0 dX12_goes_139 (go_getR (j := 65) fX12_46 rfl rfl dX12_goes_140 (go_il4 dX12_goes_143 (go_il2 dX12_goes_145 (go_iast rfl (vp_in_nI hlt (by decide)) dX12_goes_146 ?_))))))
              rw [nI_clamp (show n < 2 ^ 31 by omega)]
              refine go_al0 dX12_goes_147 (go_getR (j := 66) fX12_49 rfl rfl dX12_goes_148 (go_il4 dX12_goes_151 (go_il8 dX12_goes_153 (go_iast rfl (vp_in_nI hlt (by decide)) dX12_goes_155 ?_))))
              rw [nI_clamp (show n < 2 ^ 31 by omega)]
              refine go_al0 dX12_goes_156 (go_getR (j := 67) fX12_52 rfl rfl dX12_goes_157 (go_il4 dX12_goes_160 (go_il4 dX12_goes_162 (go_al0 dX12_goes_164 (go_getR (j := 56) fX12_19 rfl rfl dX12_goes_165 (go_il1 dX12_goes_168 (go_iald rfl (vp_in_nI (show k < 9 by omega) (by decide)) dX12_goes_169 ?_)))))))
              rw [nI_clamp (show k < 2 ^ 31 by omega), gm_In _ _ _ (by decide), gm_In _ _ _ (by decide), hM.2.2.2.1]
              refine go_cge 177 dX12_goes_170 (by decide) (fun h170 => ?_) (fun h170 => ?_)
              · refine go_il3 dX12_goes_177 ?_
                refine go_ifeqB 185 dX12_goes_178 (by decide) (fun h178 => ?_) (fun h178 => ?_)
                · refine go_il7 dX12_goes_185 ?_
                  refine go_ifne 194 dX12_goes_187 (by decide) (fun _ => ?_) (fun h187 => absurd h187 (by decide))
                  refine go_il9 dX12_goes_194 ?_
                  refine go_ifeq 203 dX12_goes_196 (by decide) (fun _ => ?_) (fun h196 => absurd h196 (by decide))
                  refine go_ic1 dX12_goes_203 (go_iast rfl (vp_in_nI hlt (by decide)) dX12_goes_204 ?_)
                  rw [nI_clamp (show n < 2 ^ 31 by omega)]
                  refine go_il3 dX12_goes_205 ?_
                  refine go_ifneB 214 dX12_goes_206 (by decide) (fun h206 => ?_) (fun h206 => ?_)
                  · exact absurd h206 (gf h26)
                  · refine go_il9 dX12_goes_209 ?_
                    refine go_ifeq 218 dX12_goes_211 (by decide) (fun _ => ?_) (fun h211 => absurd h211 (by decide))
                    refine go_ic0 dX12_goes_218 (go_is3 dX12_goes_219 rfl rfl (go_inc4 (k := 1) dX12_goes_220 (by decide) rfl rfl (go_goto 7 dX12_goes_223 (by decide) ?_)))
                    have hlf : ¬ n < tfr t := fun z => h22 ((nI_ltI (by omega) (by omega)).mpr z)
                    have hsm : (ta t (n + 1)).1 / tti t < tsz t := by
                      have h9 := h76
                      rw [nI_leI (by omega) (by omega)] at h9
                      omega
                    have e3 : tm t n = some ((ta t (n + 1)).1 / tti t) := by rw [htm]; unfold tmo; rw [if_pos hsm]
                    have e4 : ¬ tm t n = none := by rw [e3]; exact fun z => by cases z
                    have hl8 := hM.1.2.2.2.2.2.2.2.1 _ hsm
                    have e2 : (ta t (n + 1)).2 = false := by
                      have h9 := h119
                      rw [nI_ltI (by omega) (by omega)] at h9
                      rw [hte]; unfold tea tsc; simp; intros; omega
                    rw [nI_1]
                    have eS : nI (tst t n) = (1 : Int32) := by unfold tst; rw [if_neg hlf, if_neg (gf h26), if_neg e4, if_neg (gf e2)]; rfl
                    have eL : oI ((tm t n).map (tsn t)) = (nI (tsn t ((ta t (n + 1)).1 / tti t)) : Int32) := by rw [e3]; rfl
                    have h99 := fun d5 d6 d7 d8 d9 => ih (30 - (n + 1)) (by omega) (n + 1) d5 d6 d7 d8 d9 (gm_I (gm_I (gm_I m 65 n (nI (ta t (n + 1)).1)) 66 n (oI ((tm t n).map (tsn t)))) 67 n (nI (tst t n))) rfl (by omega) (hM.cong (fun c hc => by rw [gm_In _ _ _ (by omega), gm_In _ _ _ (by omega), gm_In _ _ _ (by omega)]) (fun j hj => rfl)) (hO.put rfl rfl rfl) (((hF.I _ _ (by decide) (by decide)).I _ _ (by decide) (by decide)).I _ _ (by decide) (by decide))
                    rw [eS, eL, e2] at h99
                    exact h99 _ _ _ _ _
                · exact absurd h178 (gf h26)
              · exact absurd (Int32.not_le.mp h170) h22
            · refine go_al0 dX12_goes_122 (go_getR (j := 55) fX12_16 rfl rfl dX12_goes_123 (go_il1 dX12_goes_126 (go_iald rfl (vp_in_nI (show k < 9 by omega) (by decide)) dX12_goes_127 ?_)))
              rw [nI_clamp (show k < 2 ^ 31 by omega), hM.2.2.1]
              refine go_ic2 dX12_goes_128 ?_
              refine go_cge 136 dX12_goes_129 (by decide) (fun h129 => ?_) (fun h129 => ?_)
              · refine go_ic0 dX12_goes_136 (go_is9 dX12_goes_137 rfl rfl (go_al0 dX12_goes_139 (go_getR (j := 65) fX12_46 rfl rfl dX12_goes_140 (go_il4 dX12_goes_143 (go_il2 dX12_goes_145 (go_iast rfl (vp_in_nI hlt (by decide)) dX12_goes_146 ?_))))))
                rw [nI_clamp (show n < 2 ^ 31 by omega)]
                refine go_al0 dX12_goes_147 (go_getR (j := 66) fX12_49 rfl rfl dX12_goes_148 (go_il4 dX12_goes_151 (go_il8 dX12_goes_153 (go_iast rfl (vp_in_nI hlt (by decide)) dX12_goes_155 ?_))))
                rw [nI_clamp (show n < 2 ^ 31 by omega)]
                refine go_al0 dX12_goes_156 (go_getR (j := 67) fX12_52 rfl rfl dX12_goes_157 (go_il4 dX12_goes_160 (go_il4 dX12_goes_162 (go_al0 dX12_goes_164 (go_getR (j := 56) fX12_19 rfl rfl dX12_goes_165 (go_il1 dX12_goes_168 (go_iald rfl (vp_in_nI (show k < 9 by omega) (by decide)) dX12_goes_169 ?_)))))))
                rw [nI_clamp (show k < 2 ^ 31 by omega), gm_In _ _ _ (by decide), gm_In _ _ _ (by decide), hM.2.2.2.1]
                refine go_cge 177 dX12_goes_170 (by decide) (fun h170 => ?_) (fun h170 => ?_)
                · refine go_il3 dX12_goes_177 ?_
                  refine go_ifeqB 185 dX12_goes_178 (by decide) (fun h178 => ?_) (fun h178 => ?_)
                  · refine go_il7 dX12_goes_185 ?_
                    refine go_ifne 194 dX12_goes_187 (by decide) (fun _ => ?_) (fun h187 => absurd h187 (by decide))
                    refine go_il9 dX12_goes_194 ?_
                    refine go_ifeq 203 dX12_goes_196 (by decide) (fun _ => ?_) (fun h196 => absurd h196 (by decide))
                    refine go_ic1 dX12_goes_203 (go_iast rfl (vp_in_nI hlt (by decide)) dX12_goes_204 ?_)
                    rw [nI_clamp (show n < 2 ^ 31 by omega)]
                    refine go_il3 dX12_goes_205 ?_
                    refine go_ifneB 214 dX12_goes_206 (by decide) (fun h206 => ?_) (fun h206 => ?_)
                    · exact absurd h206 (gf h26)
                    · refine go_il9 dX12_goes_209 ?_
                      refine go_ifeq 218 dX12_goes_211 (by decide) (fun _ => ?_) (fun h211 => absurd h211 (by decide))
                      refine go_ic0 dX12_goes_218 (go_is3 dX12_goes_219 rfl rfl (go_inc4 (k := 1) dX12_goes_220 (by decide) rfl rfl (go_goto 7 dX12_goes_223 (by decide) ?_)))
                      have hlf : ¬ n < tfr t := fun z => h22 ((nI_ltI (by omega) (by omega)).mpr z)
                      have hsm : (ta t (n + 1)).1 / tti t < tsz t := by
                        have h9 := h76
                        rw [nI_leI (by omega) (by omega)] at h9
                        omega
                      have e3 : tm t n = some ((ta t (n + 1)).1 / tti t) := by rw [htm]; unfold tmo; rw [if_pos hsm]
                      have e4 : ¬ tm t n = none := by rw [e3]; exact fun z => by cases z
                      have hl8 := hM.1.2.2.2.2.2.2.2.1 _ hsm
                      have e2 : (ta t (n + 1)).2 = false := by
                        have h9 := h129
                        rw [nI_lit2, nI_leI (by decide) (by omega)] at h9
                        rw [hte]; unfold tea tsc; simp; intros; omega
                      rw [nI_1]
                      have eS : nI (tst t n) = (1 : Int32) := by unfold tst; rw [if_neg hlf, if_neg (gf h26), if_neg e4, if_neg (gf e2)]; rfl
                      have eL : oI ((tm t n).map (tsn t)) = (nI (tsn t ((ta t (n + 1)).1 / tti t)) : Int32) := by rw [e3]; rfl
                      have h99 := fun d5 d6 d7 d8 d9 => ih (30 - (n + 1)) (by omega) (n + 1) d5 d6 d7 d8 d9 (gm_I (gm_I (gm_I m 65 n (nI (ta t (n + 1)).1)) 66 n (oI ((tm t n).map (tsn t)))) 67 n (nI (tst t n))) rfl (by omega) (hM.cong (fun c hc => by rw [gm_In _ _ _ (by omega), gm_In _ _ _ (by omega), gm_In _ _ _ (by omega)]) (fun j hj => rfl)) (hO.put rfl rfl rfl) (((hF.I _ _ (by decide) (by decide)).I _ _ (by decide) (by decide)).I _ _ (by decide) (by decide))
                      rw [eS, eL, e2] at h99
                      exact h99 _ _ _ _ _
                  · exact absurd h178 (gf h26)
                · exact absurd (Int32.not_le.mp h170) h22
              · refine go_ic1 dX12_goes_132 (go_goto 137 dX12_goes_133 (by decide) (go_is9 dX12_goes_137 rfl rfl (go_al0 dX12_goes_139 (go_getR (j := 65) fX12_46 rfl rfl dX12_goes_140 (go_il4 dX12_goes_143 (go_il2 dX12_goes_145 (go_iast rfl (vp_in_nI hlt (by decide)) dX12_goes_146 ?_)))))))
                rw [nI_clamp (show n < 2 ^ 31 by omega)]
                refine go_al0 dX12_goes_147 (go_getR (j := 66) fX12_49 rfl rfl dX12_goes_148 (go_il4 dX12_goes_151 (go_il8 dX12_goes_153 (go_iast rfl (vp_in_nI hlt (by decide)) dX12_goes_155 ?_))))
                rw [nI_clamp (show n < 2 ^ 31 by omega)]
                refine go_al0 dX12_goes_156 (go_getR (j := 67) fX12_52 rfl rfl dX12_goes_157 (go_il4 dX12_goes_160 (go_il4 dX12_goes_162 (go_al0 dX12_goes_164 (go_getR (j := 56) fX12_19 rfl rfl dX12_goes_165 (go_il1 dX12_goes_168 (go_iald rfl (vp_in_nI (show k < 9 by omega) (by decide)) dX12_goes_169 ?_)))))))
                rw [nI_clamp (show k < 2 ^ 31 by omega), gm_In _ _ _ (by decide), gm_In _ _ _ (by decide), hM.2.2.2.1]
                refine go_cge 177 dX12_goes_170 (by decide) (fun h170 => ?_) (fun h170 => ?_)
                · refine go_il3 dX12_goes_177 ?_
                  refine go_ifeqB 185 dX12_goes_178 (by decide) (fun h178 => ?_) (fun h178 => ?_)
                  · refine go_il7 dX12_goes_185 ?_
                    refine go_ifne 194 dX12_goes_187 (by decide) (fun _ => ?_) (fun h187 => absurd h187 (by decide))
                    refine go_il9 dX12_goes_194 ?_
                    refine go_ifeq 203 dX12_goes_196 (by decide) (fun h196 => absurd h196 (by decide)) (fun _ => ?_)
                    refine go_ic3 dX12_goes_199 (go_goto 204 dX12_goes_200 (by decide) (go_iast rfl (vp_in_nI hlt (by decide)) dX12_goes_204 ?_))
                    rw [nI_clamp (show n < 2 ^ 31 by omega)]
                    refine go_il3 dX12_goes_205 ?_
                    refine go_ifneB 214 dX12_goes_206 (by decide) (fun h206 => ?_) (fun h206 => ?_)
                    · exact absurd h206 (gf h26)
                    · refine go_il9 dX12_goes_209 ?_
                      refine go_ifeq 218 dX12_goes_211 (by decide) (fun h211 => absurd h211 (by decide)) (fun _ => ?_)
                      refine go_ic1 dX12_goes_214 (go_goto 219 dX12_goes_215 (by decide) (go_is3 dX12_goes_219 rfl rfl (go_inc4 (k := 1) dX12_goes_220 (by decide) rfl rfl (go_goto 7 dX12_goes_223 (by decide) ?_))))
                      have hlf : ¬ n < tfr t := fun z => h22 ((nI_ltI (by omega) (by omega)).mpr z)
                      have hsm : (ta t (n + 1)).1 / tti t < tsz t := by
                        have h9 := h76
                        rw [nI_leI (by omega) (by omega)] at h9
                        omega
                      have e3 : tm t n = some ((ta t (n + 1)).1 / tti t) := by rw [htm]; unfold tmo; rw [if_pos hsm]
                      have e4 : ¬ tm t n = none := by rw [e3]; exact fun z => by cases z
                      have hl8 := hM.1.2.2.2.2.2.2.2.1 _ hsm
                      have e2 : (ta t (n + 1)).2 = true := by
                        have h9 := h129
                        have h8 := h119
                        rw [nI_lit2, nI_leI (by decide) (by omega)] at h9
                        rw [nI_ltI (by omega) (by omega)] at h8
                        rw [hte]; unfold tea tsc; simp; omega
                      rw [nI_1]
                      have eS : nI (tst t n) = (3 : Int32) := by unfold tst; rw [if_neg hlf, if_neg (gf h26), if_neg e4, if_pos e2]; rfl
                      have eL : oI ((tm t n).map (tsn t)) = (nI (tsn t ((ta t (n + 1)).1 / tti t)) : Int32) := by rw [e3]; rfl
                      have h99 := fun d5 d6 d7 d8 d9 => ih (30 - (n + 1)) (by omega) (n + 1) d5 d6 d7 d8 d9 (gm_I (gm_I (gm_I m 65 n (nI (ta t (n + 1)).1)) 66 n (oI ((tm t n).map (tsn t)))) 67 n (nI (tst t n))) rfl (by omega) (hM.cong (fun c hc => by rw [gm_In _ _ _ (by omega), gm_In _ _ _ (by omega), gm_In _ _ _ (by omega)]) (fun j hj => rfl)) (hO.put rfl rfl rfl) (((hF.I _ _ (by decide) (by decide)).I _ _ (by decide) (by decide)).I _ _ (by decide) (by decide))
                      rw [eS, eL, e2] at h99
                      exact h99 _ _ _ _ _
                  · exact absurd h178 (gf h26)
                · exact absurd (Int32.not_le.mp h170) h22

set_option maxRecDepth 100000 in
set_option maxHeartbeats 400000 in
theorem mGoes {t : TR} {μ : gm_M} {k : Nat} (hM : MT t k μ) : Sat yX12_goes cX12_goes 10 none 2 [(.ref 52), (.int (nI k))] μ (fun r μ' => r = none ∧ FX lR [] μ μ' ∧ MO t 30 μ') := by
  refine Sat.of (L := [some (.ref 52), some (.int (nI k)), none, none, none, none, none, none, none, none]) (by decide) (fun _ => rfl) (fun _ => rfl) ?_
  refine go_ic0 dX12_goes_0 (go_is2 dX12_goes_1 rfl rfl (go_ic0 dX12_goes_2 (go_is3 dX12_goes_3 rfl rfl (go_ic0 dX12_goes_4 (go_is4 dX12_goes_5 rfl rfl ?_)))))
  exact mGo_loop _ 0 _ _ _ _ _ _ rfl (by decide) hM (fun j hj => absurd hj (Nat.not_lt_zero j)) (FX.rf μ)

