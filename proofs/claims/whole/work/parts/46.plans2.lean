/-! THE MODEL: cold, come -/
theorem MO.cong {t : TR} {n : Nat} {m m' : gm_M} (h : MO t n m) (e : ∀ c, 65 ≤ c → c ≤ 67 → m'.1 c = m.1 c) : MO t n m' := by
  unfold MO; rw [e 65 (by decide) (by decide), e 66 (by decide) (by decide), e 67 (by decide) (by decide)]; exact h
theorem bestI_keep {f : Nat → Int32} {n : Nat} (h : f n ≤ (bestI f n).2) : bestI f (n + 1) = bestI f n := by rw [bestI, if_pos h]
theorem bestI_new {f : Nat → Int32} {n : Nat} (h : ¬ f n ≤ (bestI f n).2) : bestI f (n + 1) = (nI n, f n) := by rw [bestI, if_neg h]
def biA (p : Int32 × Int32) (x : Int32) : Int32 := if x = 0 then p.1 else p.2
theorem sCold_g (q : QS) (w x : Int32) : sCold q w x = if inW q w = true then (if gin x 0 1 = true then biA (bestI (tcold (trof q 9 (wN w))) 30) x else -2) else -2 := by
  unfold sCold biA; rw [ite_gin]
theorem sCome_g (q : QS) (w x : Int32) : sCome q w x = if inW q w = true then (if gin x 0 1 = true then biA (bestI (tcome (trof q 9 (wN w))) 20) x else -2) else -2 := by
  unfold sCome biA; rw [ite_gin]
theorem WN.put {g : Nat → Nat} {m : gm_M} (h : WN g m) (n : Nat) {v : Nat} (hv : v ≤ 9) : WN (fun j => if j = n then v else g j) (gm_I m 64 n (nI v)) := by
  intro j hj
  rw [gm_I1, if_pos rfl]
  by_cases z : j = n
  · rw [if_pos z]; exact ⟨by show nI v = nI (if j = n then v else g j); rw [if_pos z], by show (if j = n then v else g j) ≤ 9; rw [if_pos z]; exact hv⟩
  · rw [if_neg z]; exact ⟨by show _ = nI (if j = n then v else g j); rw [if_neg z]; exact (h j hj).1, by show (if j = n then v else g j) ≤ 9; rw [if_neg z]; exact (h j hj).2⟩
theorem WN.g {g g' : Nat → Nat} {m : gm_M} (h : WN g m) (e : ∀ j, j < 30 → g j = g' j) : WN g' m := fun j hj => ⟨by rw [← e j hj]; exact (h j hj).1, by rw [← e j hj]; exact (h j hj).2⟩
set_option maxRecDepth 100000 in
set_option maxHeartbeats 400000 in
theorem mCo_loop {r : RS} {μ : gm_M} {k : Nat} {x : Int32} (hk : k < qnum (qof r)) : ∀ (k_ n : Nat) (d6 : Option Value) (m : gm_M), 30 - n = k_ → n ≤ 30 → (RDp r μ m) → (WN (qwa (qof r)) m) → Go yX12_coldOf cX12_coldOf 7 (some .int) 7 12 [some (.ref 52), some (.int (nI k)), some (.int x), some (.int (bestI (tcold (trof (qof r) 9 k)) n).1), some (.int (bestI (tcold (trof (qof r) 9 k)) n).2), some (.int (nI n)), d6] [] m (fun r' μ' => r' = some (.int (biA (bestI (tcold (trof (qof r) 9 k)) 30) x)) ∧ RDp r μ μ') := by
  intro k_
  induction k_ using Nat.strongRecOn with
  | ind k_ ih =>
    intro n d6  m  hk_ hj hR hW
    refine go_il5 dX12_coldOf_12 (go_bipush (v := 30) dX12_coldOf_14 (by decide) ?_)
    refine go_cge 88 dX12_coldOf_16 (by decide) (fun h16 => ?_) (fun h16 => ?_)
    · have he : n = 30 := Nat.le_antisymm hj ((gm_bdN (by decide) (by decide) (by omega)).mp h16)
      refine go_il2 dX12_coldOf_88 ?_
      refine go_ifne 96 dX12_coldOf_89 (by decide) (fun h89 => ?_) (fun h89 => ?_)
      · refine go_il4 dX12_coldOf_96 ?_
        refine go_iret dX12_coldOf_98 ?_
        subst he
        exact ⟨by rw [biA, if_neg h89], hR⟩
      · refine go_il3 dX12_coldOf_92 (go_goto 98 dX12_coldOf_93 (by decide) ?_)
        refine go_iret dX12_coldOf_98 ?_
        subst he
        exact ⟨by rw [biA, if_pos h89], hR⟩
    · have hlt : n < 30 := Nat.not_le.mp (fun zz => h16 ((gm_bdN (by decide) (by decide) (by omega)).mpr zz))
      refine go_al0 dX12_coldOf_19 (go_getR (j := 64) fX12_43 rfl rfl dX12_coldOf_20 (go_il5 dX12_coldOf_23 (go_ic0 dX12_coldOf_25 (go_iast rfl (vp_in_nI hlt (by decide)) dX12_coldOf_26 ?_))))
      rw [nI_clamp (show n < 2 ^ 31 by omega), ← nI_0]
      have hFa : FX lL fR m (gm_I m 64 n (nI 0)) := (FX.rf m).I _ _ (by decide) (by decide)
      have hWa := hW.put n (v := 0) (by decide)
      refine go_al0 dX12_coldOf_27 (go_il1 dX12_coldOf_28 ?_)
      refine go_V1 mcX12_runs mvX12_runs kX12_193 rfl dX12_coldOf_29 rfl rfl (mRuns (hR.1.fl hFa) hk hWa) ?_
      rintro _ m29 ⟨rfl, hF29, hO29⟩
      have hRb := (hR.fl hFa).fl hF29.rl
      refine go_al0 dX12_coldOf_32 (go_getR (j := 64) fX12_43 rfl rfl dX12_coldOf_33 (go_il5 dX12_coldOf_36 (go_al0 dX12_coldOf_38 (go_getR (j := 59) fX12_28 rfl rfl dX12_coldOf_39 (go_il5 dX12_coldOf_42 (go_iald rfl (vp_in_nI hlt (by decide)) dX12_coldOf_44 (go_iast rfl (vp_in_nI hlt (by decide)) dX12_coldOf_45 ?_)))))))
      rw [nI_clamp (show n < 2 ^ 31 by omega), hRb.1.2.2.2.1 n hlt]
      have htok : tok (trw (trof (qof r) 9 k) n 0) := by
        obtain ⟨o1, o2, o3, o4, o5, o6, o7, o8, o9⟩ := trof_ok (wo := 9) hR.1.1 hk
        exact ⟨o1, o2, o3, o4, o5, o6, o7, o8, fun j hj => by show (if j = n then 0 else twa (trof (qof r) 9 k) j) ≤ 9; split; exact Nat.zero_le _; exact o9 j hj⟩
      refine go_al0 dX12_coldOf_46 (go_V0r mcX12_heardMany mvX12_heardMany kX12_203 rfl dX12_coldOf_47 rfl rfl (mHeardMany (t := trw (trof (qof r) 9 k) n 0) htok (hO29.cong (fun c h1 h2 => gm_In _ _ _ (by omega)))) (go_is6 dX12_coldOf_50 rfl rfl (go_il6 dX12_coldOf_52 (go_il4 dX12_coldOf_54 ?_))))
      refine go_cle 64 dX12_coldOf_56 (by decide) (fun h56 => ?_) (fun h56 => ?_)
      · refine go_il3 dX12_coldOf_64 (go_is3 dX12_coldOf_65 rfl rfl (go_il6 dX12_coldOf_66 (go_il4 dX12_coldOf_68 ?_)))
        refine go_cle 78 dX12_coldOf_70 (by decide) (fun h70 => ?_) (fun h70 => ?_)
        · refine go_il4 dX12_coldOf_78 (go_is4 dX12_coldOf_80 rfl rfl (go_inc5 (k := 1) dX12_coldOf_82 (by decide) rfl rfl (go_goto 12 dX12_coldOf_85 (by decide) ?_)))
          have h9 := ih (30 - (n + 1)) (by omega) (n + 1) (some (.int (tcold (trof (qof r) 9 k) n))) (gm_I m29 64 n (nI (qwa (qof r) n))) rfl (by omega) (hRb.fl ((FX.rf m29).I _ _ (by decide) (by decide))) (((hWa.fr hF29).put n (v := qwa (qof r) n) (hR.1.1.2.2.1 n hlt)).g (fun j hj => by show (if j = n then qwa (qof r) n else if j = n then 0 else qwa (qof r) j) = _; by_cases z : j = n; rw [if_pos z, z]; rw [if_neg z, if_neg z]))
          rw [bestI_keep (f := tcold (trof (qof r) 9 k)) h56] at h9
          rw [nI_1]
          exact h9
        · refine go_il6 dX12_coldOf_73 (go_goto 80 dX12_coldOf_75 (by decide) (go_is4 dX12_coldOf_80 rfl rfl (go_inc5 (k := 1) dX12_coldOf_82 (by decide) rfl rfl (go_goto 12 dX12_coldOf_85 (by decide) ?_))))
          exact absurd h56 h70
      · refine go_il5 dX12_coldOf_59 (go_goto 65 dX12_coldOf_61 (by decide) (go_is3 dX12_coldOf_65 rfl rfl (go_il6 dX12_coldOf_66 (go_il4 dX12_coldOf_68 ?_))))
        refine go_cle 78 dX12_coldOf_70 (by decide) (fun h70 => ?_) (fun h70 => ?_)
        · refine go_il4 dX12_coldOf_78 (go_is4 dX12_coldOf_80 rfl rfl (go_inc5 (k := 1) dX12_coldOf_82 (by decide) rfl rfl (go_goto 12 dX12_coldOf_85 (by decide) ?_)))
          exact absurd h70 h56
        · refine go_il6 dX12_coldOf_73 (go_goto 80 dX12_coldOf_75 (by decide) (go_is4 dX12_coldOf_80 rfl rfl (go_inc5 (k := 1) dX12_coldOf_82 (by decide) rfl rfl (go_goto 12 dX12_coldOf_85 (by decide) ?_))))
          have h9 := ih (30 - (n + 1)) (by omega) (n + 1) (some (.int (tcold (trof (qof r) 9 k) n))) (gm_I m29 64 n (nI (qwa (qof r) n))) rfl (by omega) (hRb.fl ((FX.rf m29).I _ _ (by decide) (by decide))) (((hWa.fr hF29).put n (v := qwa (qof r) n) (hR.1.1.2.2.1 n hlt)).g (fun j hj => by show (if j = n then qwa (qof r) n else if j = n then 0 else qwa (qof r) j) = _; by_cases z : j = n; rw [if_pos z, z]; rw [if_neg z, if_neg z]))
          rw [bestI_new (f := tcold (trof (qof r) 9 k)) h56] at h9
          rw [nI_1]
          exact h9

set_option maxRecDepth 100000 in
set_option maxHeartbeats 400000 in
theorem mColdOf {r : RS} {μ : gm_M} (hA : MA r μ) {k : Nat} (hk : k < qnum (qof r)) (x : Int32) : Sat yX12_coldOf cX12_coldOf 7 (some .int) 7 [(.ref 52), (.int (nI k)), (.int x)] μ (fun r' μ' => r' = some (.int (biA (bestI (tcold (trof (qof r) 9 k)) 30) x)) ∧ RDp r μ μ') := by
  refine Sat.of (L := [some (.ref 52), some (.int (nI k)), some (.int x), none, none, none, none]) (by decide) (fun _ => rfl) (fun _ => rfl) ?_
  refine go_al0 dX12_coldOf_0 ?_
  refine go_V0 mcX12_asTold mvX12_asTold kX12_190 rfl dX12_coldOf_1 rfl rfl (mAsTold hA) ?_
  rintro _ m1 ⟨rfl, hR1, hW1⟩
  refine go_icm1 dX12_coldOf_4 (go_is3 dX12_coldOf_5 rfl rfl (go_icm1 dX12_coldOf_6 (go_is4 dX12_coldOf_7 rfl rfl (go_ic0 dX12_coldOf_9 (go_is5 dX12_coldOf_10 rfl rfl ?_)))))
  rw [← nI_0]
  exact mCo_loop hk _ 0 _ _ rfl (by decide) hR1 hW1

set_option maxRecDepth 100000 in
set_option maxHeartbeats 400000 in
theorem m_cold {r : RS} {μ : gm_M} (hA : MA r μ) (w x : Int32) : Sat yX12_cold cX12_cold 3 (some .int) 8 [(.ref 52), (.int w), (.int x)] μ (fun r' μ' => r' = some (.int (sCold (qof r) w x)) ∧ FX lQ fQ μ μ') := by
  refine Sat.of (L := [some (.ref 52), some (.int w), some (.int x)]) (by decide) (fun _ => rfl) (fun _ => rfl) ?_
  refine go_al0 dX12_cold_0 (go_il1 dX12_cold_1 ?_)
  refine go_V1 mcX12_isWheel mvX12_isWheel kX12_142 rfl dX12_cold_2 rfl rfl (mIsWheel hA _) ?_
  rintro _ m2 ⟨rfl, hR2⟩
  refine go_ifeqB 26 dX12_cold_5 (by decide) (fun h5 => ?_) (fun h5 => ?_)
  · refine go_bipush (v := -2) dX12_cold_26 (by decide) ?_
    refine go_iret dX12_cold_28 ?_
    exact ⟨by rw [sCold_g, if_neg (gf h5)], hR2.2.2⟩
  · refine go_il2 dX12_cold_8 (go_ic0 dX12_cold_9 (go_ic1 dX12_cold_10 (go_S3r mcX12_in mvX12_in kX12_104 dX12_cold_11 rfl rfl (sX12_in _ _ _ _) ?_)))
    refine go_ifeqB 26 dX12_cold_14 (by decide) (fun h14 => ?_) (fun h14 => ?_)
    · refine go_bipush (v := -2) dX12_cold_26 (by decide) ?_
      refine go_iret dX12_cold_28 ?_
      exact ⟨by rw [sCold_g, if_pos h5, if_neg (gf h14)], hR2.2.2⟩
    · obtain ⟨k, hk, rfl⟩ := inW_of (rok_q hA.1) h5
      refine go_al0 dX12_cold_17 (go_il1 dX12_cold_18 (go_il2 dX12_cold_19 ?_))
      refine go_V2 mcX12_coldOf mvX12_coldOf kX12_228 rfl dX12_cold_20 rfl rfl (mColdOf (hR2.ma hA) hk x) ?_
      rintro _ m20 ⟨rfl, hR20⟩
      refine go_goto 28 dX12_cold_23 (by decide) ?_
      refine go_iret dX12_cold_28 ?_
      exact ⟨by rw [sCold_g, if_pos h5, if_pos h14, wN_nI (by have := hR2.1.1.1; omega)], (hR2.tr hR20).2.2⟩

def qfrm (q : QS) (k v : Nat) : QS := (qnum q, qso q, updN (qfr q) k v, qsz q, qsn q, qwa q, qti q, qsh q, (qtN q, qtn q, qtw q), (qkN q, qkn q, qkw q), (qlN q, qln q, qlw q, qll q))
def qsrt (q : QS) (k v : Nat) : QS := (qnum q, updN (qso q) k v, qfr q, qsz q, qsn q, qwa q, qti q, qsh q, (qtN q, qtn q, qtw q), (qkN q, qkn q, qkw q), (qlN q, qln q, qlw q, qll q))
theorem updN_s (f : Nat → Nat) (k v : Nat) : updN f k v k = v := by unfold updN; rw [if_pos rfl]
theorem updN_o (f : Nat → Nat) {k j : Nat} (v : Nat) (h : j ≠ k) : updN f k v j = f j := by unfold updN; rw [if_neg h]
theorem updN_self (f : Nat → Nat) (k : Nat) : updN f k (f k) = f := by funext j; unfold updN; split; rename_i h; rw [h]; rfl
theorem updN_updN (f : Nat → Nat) (k v v' : Nat) : updN (updN f k v) k v' = updN f k v' := by funext j; unfold updN; split <;> rfl
theorem qfrm_self (q : QS) (k : Nat) : qfrm q k (qfr q k) = q := by unfold qfrm; rw [updN_self]; rfl
theorem qfrm_2 (q : QS) (k v v' : Nat) : qfrm (qfrm q k v) k v' = qfrm q k v' := by
  show (qnum q, qso q, updN (updN (qfr q) k v) k v', _) = (qnum q, qso q, updN (qfr q) k v', _)
  rw [updN_updN]
  rfl
theorem qsrt_self (q : QS) (k : Nat) : qsrt q k (qso q k) = q := by unfold qsrt; rw [updN_self]; rfl
theorem qsrt_2 (q : QS) (k v v' : Nat) : qsrt (qsrt q k v) k v' = qsrt q k v' := by
  show (qnum q, updN (updN (qso q) k v) k v', _) = (qnum q, updN (qso q) k v', _)
  rw [updN_updN]
  rfl
theorem trof_frm (q : QS) (wo k v : Nat) : trof (qfrm q k v) wo k = trf (trof q wo k) v := by
  show (qso q k, updN (qfr q) k v k, _) = (qso q k, v, _)
  rw [updN_s]
  rfl
theorem trof_frm_o (q : QS) (wo : Nat) {k j : Nat} (v : Nat) (h : j ≠ k) : trof (qfrm q k v) wo j = trof q wo j := by
  show (qso q j, updN (qfr q) k v j, _) = (qso q j, qfr q j, _)
  rw [updN_o _ _ h]
  rfl
theorem trof_srt (q : QS) (wo k v : Nat) : trof (qsrt q k v) wo k = trs (trof q wo k) v := by
  show (updN (qso q) k v k, _) = (v, _)
  rw [updN_s]
  rfl
theorem trof_srt_o (q : QS) (wo : Nat) {k j : Nat} (v : Nat) (h : j ≠ k) : trof (qsrt q k v) wo j = trof q wo j := by
  show (updN (qso q) k v j, _) = (qso q j, _)
  rw [updN_o _ _ h]
  rfl
theorem XQ.frm {q : QS} {m : gm_M} (h : XQ q m) {k v : Nat} (hv : v ≤ 19) : XQ (qfrm q k v) (gm_I m 56 k (nI v)) := by
  obtain ⟨h1, h2, h3, h4, h5, h6, h7, h8⟩ := h
  obtain ⟨o1, o2, o3⟩ := h1
  refine ⟨⟨o1, fun j hj => ?_, o3⟩, h2, fun j hj => ?_, h4, h5, h6, h7, h8⟩
  · obtain ⟨a1, a2, a3⟩ := o2 j hj
    refine ⟨a1, ?_, a3⟩
    show updN (qfr q) k v j ≤ 19
    unfold updN
    split
    · exact hv
    · exact a2
  · obtain ⟨a1, a2, a3, a4⟩ := h3 j hj
    refine ⟨a1, ?_, a3, a4⟩
    rw [gm_I1, if_pos rfl]
    show _ = nI (updN (qfr q) k v j)
    unfold updN
    split
    · rfl
    · exact a2
theorem XQ.srt {q : QS} {m : gm_M} (h : XQ q m) {k v : Nat} (hv : v ≤ 2) : XQ (qsrt q k v) (gm_I m 55 k (nI v)) := by
  obtain ⟨h1, h2, h3, h4, h5, h6, h7, h8⟩ := h
  obtain ⟨o1, o2, o3⟩ := h1
  refine ⟨⟨o1, fun j hj => ?_, o3⟩, h2, fun j hj => ?_, h4, h5, h6, h7, h8⟩
  · obtain ⟨a1, a3⟩ := o2 j hj
    refine ⟨?_, a3⟩
    show updN (qso q) k v j ≤ 2
    unfold updN
    split
    · exact hv
    · exact a1
  · obtain ⟨a1, a2, a3, a4⟩ := h3 j hj
    refine ⟨?_, a2, a3, a4⟩
    rw [gm_I1, if_pos rfl]
    show _ = nI (updN (qso q) k v j)
    unfold updN
    split
    · rfl
    · exact a1
/-- in the middle of a question: the wheels as q has them, the rest as told -/
def RDq (r : RS) (q : QS) (μ m : gm_M) : Prop := XQ q m ∧ m.1 52 7 = nI (figs (ra1 r).1 (ra1 r).2) ∧ FX lQ fQ μ m
theorem RDq.fl {r : RS} {q : QS} {μ m m' : gm_M} (h : RDq r q μ m) (e : FX lL fR m m') : RDq r q μ m' := ⟨h.1.fl e, by rw [e.2 7 (by decide)]; exact h.2.1, h.2.2.tr e.lq⟩
theorem RDq.frm {r : RS} {q : QS} {μ m : gm_M} (h : RDq r q μ m) {k v : Nat} (hv : v ≤ 19) : RDq r (qfrm q k v) μ (gm_I m 56 k (nI v)) := ⟨h.1.frm hv, h.2.1, h.2.2.I _ _ (by decide) (by decide)⟩
theorem RDq.srt {r : RS} {q : QS} {μ m : gm_M} (h : RDq r q μ m) {k v : Nat} (hv : v ≤ 2) : RDq r (qsrt q k v) μ (gm_I m 55 k (nI v)) := ⟨h.1.srt hv, h.2.1, h.2.2.I _ _ (by decide) (by decide)⟩
set_option maxRecDepth 100000 in
set_option maxHeartbeats 400000 in
theorem mCm_loop {r : RS} {μ : gm_M} {k : Nat} {x : Int32} (hq : qok (qof r)) (hk : k < qnum (qof r)) : ∀ (k_ n : Nat) (f0 : Nat) (d7 : Option Value) (m : gm_M), 20 - n = k_ → n ≤ 20 → (RDq r (qfrm (qof r) k f0) μ m) → (WN (qwa (qof r)) m) → Go yX12_comeOf cX12_comeOf 8 (some .int) 7 20 [some (.ref 52), some (.int (nI k)), some (.int x), some (.int (nI (qfr (qof r) k))), some (.int (bestI (tcome (trof (qof r) 9 k)) n).1), some (.int (bestI (tcome (trof (qof r) 9 k)) n).2), some (.int (nI n)), d7] [] m (fun r' μ' => r' = some (.int (biA (bestI (tcome (trof (qof r) 9 k)) 20) x)) ∧ RDp r μ μ') := by
  have h8 := hq.1
  have hti1 := hq.2.2.2.1.1
  have hti20 := hq.2.2.2.1.2
  have hti0 : ¬ nI (qti (qof r)) = 0 := by rw [← nI_0]; intro z; rw [nI_eq (by omega) (by decide)] at z; omega
  intro k_
  induction k_ using Nat.strongRecOn with
  | ind k_ ih =>
    intro n f0  d7  m  hk_ hj hR hW
    refine go_il6 dX12_comeOf_20 (go_bipush (v := 20) dX12_comeOf_22 (by decide) ?_)
    refine go_cge 107 dX12_comeOf_24 (by decide) (fun h24 => ?_) (fun h24 => ?_)
    · have he : n = 20 := Nat.le_antisymm hj ((gm_bdN (by decide) (by decide) (by omega)).mp h24)
      refine go_al0 dX12_comeOf_107 (go_getR (j := 56) fX12_19 rfl rfl dX12_comeOf_108 (go_il1 dX12_comeOf_111 (go_il3 dX12_comeOf_112 (go_iast rfl (vp_in_nI (show k < 9 by omega) (by decide)) dX12_comeOf_113 ?_))))
      rw [nI_clamp (show k < 2 ^ 31 by omega)]
      have hRz := hR.frm (k := k) (v := qfr (qof r) k) (hq.2.1 k hk).2.1
      rw [qfrm_2, qfrm_self] at hRz
      refine go_il2 dX12_comeOf_114 ?_
      refine go_ifne 123 dX12_comeOf_115 (by decide) (fun h115 => ?_) (fun h115 => ?_)
      · refine go_il5 dX12_comeOf_123 ?_
        refine go_iret dX12_comeOf_125 ?_
        subst he
        exact ⟨by rw [biA, if_neg h115], hRz⟩
      · refine go_il4 dX12_comeOf_118 (go_goto 125 dX12_comeOf_120 (by decide) ?_)
        refine go_iret dX12_comeOf_125 ?_
        subst he
        exact ⟨by rw [biA, if_pos h115], hRz⟩
    · have hlt : n < 20 := Nat.not_le.mp (fun zz => h24 ((gm_bdN (by decide) (by decide) (by omega)).mpr zz))
      have htok : tok (trf (trof (qof r) 9 k) n) := by
        obtain ⟨o1, o2, o3⟩ := trof_ok (wo := 9) hq hk
        exact ⟨o1, (show n ≤ 19 by omega), o3⟩
      refine go_al0 dX12_comeOf_27 (go_getR (j := 56) fX12_19 rfl rfl dX12_comeOf_28 (go_il1 dX12_comeOf_31 (go_il6 dX12_comeOf_32 (go_iast rfl (vp_in_nI (show k < 9 by omega) (by decide)) dX12_comeOf_34 ?_))))
      rw [nI_clamp (show k < 2 ^ 31 by omega)]
      have hRa := hR.frm (k := k) (v := n) (by omega)
      rw [qfrm_2] at hRa
      have hWa : WN (qwa (qof r)) (gm_I m 56 k (nI n)) := by unfold WN; rw [gm_In _ _ _ (by decide)]; exact hW
      refine go_al0 dX12_comeOf_35 (go_il1 dX12_comeOf_36 ?_)
      refine go_V1 mcX12_runs mvX12_runs kX12_193 rfl dX12_comeOf_37 rfl rfl (mRuns (k := k) hRa.1 hk hWa) ?_
      rintro _ m37 ⟨rfl, hF37, hO37⟩
      rw [show trwa (trof (qfrm (qof r) k n) 9 k) (qwa (qof r)) = trf (trof (qof r) 9 k) n from trof_frm (qof r) 9 k n] at hO37
      have hRb := hRa.fl hF37.rl
      have ho29 := hO37 29 (by decide)
      refine go_al0 dX12_comeOf_40 (go_getR (j := 66) fX12_49 rfl rfl dX12_comeOf_41 (go_bipush (v := 29) dX12_comeOf_44 (by decide) (go_iald rfl (vp_in_nI (n := 29) (by decide) (by decide)) dX12_comeOf_46 ?_)))
      rw [show (29 : Int32).toNatClampNeg = 29 from by decide, ho29.2.1]
      refine go_icm1 dX12_comeOf_47 ?_
      refine go_cne 55 dX12_comeOf_48 (by decide) (fun h48 => ?_) (fun h48 => ?_)
      · refine go_al0 dX12_comeOf_55 (go_getR (j := 65) fX12_46 rfl rfl dX12_comeOf_56 (go_bipush (v := 29) dX12_comeOf_59 (by decide) (go_iald rfl (vp_in_nI (n := 29) (by decide) (by decide)) dX12_comeOf_61 ?_)))
        rw [show (29 : Int32).toNatClampNeg = 29 from by decide, ho29.1]
        refine go_al0 dX12_comeOf_62 (go_getI fX12_95 rfl rfl dX12_comeOf_63 ?_)
        rw [show m37.1 52 9 = nI (qti (qof r)) from hRb.1.2.2.2.2.1.1]
        refine go_idiv dX12_comeOf_66 hti0 ?_
        have e7 : nI (ta (trf (trof (qof r) 9 k) n) (29 + 1)).1 / nI (qti (qof r)) = tcome (trof (qof r) 9 k) n := by
          have hle : (ta (trf (trof (qof r) 9 k) n) (29 + 1)).1 ≤ 480 := ta_le htok 30 (by decide)
          rw [nI_div (by omega) (by omega) (by omega)]
          unfold tcome
          cases hc : tm (trf (trof (qof r) 9 k) n) 29 with
          | none => exact absurd ((heard_none htok).mpr hc) h48
          | some z =>
            have hc2 := hc
            unfold tm at hc2
            split at hc2
            · have := (tmo_lt hc2).2
              rw [this]; rfl
            · cases hc2
        rw [e7]
        refine go_is7 dX12_comeOf_67 rfl rfl (go_il7 dX12_comeOf_69 (go_il5 dX12_comeOf_71 ?_))
        refine go_cle 81 dX12_comeOf_73 (by decide) (fun h73 => ?_) (fun h73 => ?_)
        · refine go_il4 dX12_comeOf_81 (go_is4 dX12_comeOf_83 rfl rfl (go_il7 dX12_comeOf_85 (go_il5 dX12_comeOf_87 ?_)))
          refine go_cle 97 dX12_comeOf_89 (by decide) (fun h89 => ?_) (fun h89 => ?_)
          · refine go_il5 dX12_comeOf_97 (go_is5 dX12_comeOf_99 rfl rfl (go_inc6 (k := 1) dX12_comeOf_101 (by decide) rfl rfl (go_goto 20 dX12_comeOf_104 (by decide) ?_)))
            have h9 := ih (20 - (n + 1)) (by omega) (n + 1) n (some (.int (tcome (trof (qof r) 9 k) n))) m37 rfl (by omega) hRb (hWa.fr hF37)
            rw [bestI_keep (f := tcome (trof (qof r) 9 k)) h73] at h9
            rw [nI_1]
            exact h9
          · refine go_il7 dX12_comeOf_92 (go_goto 99 dX12_comeOf_94 (by decide) (go_is5 dX12_comeOf_99 rfl rfl (go_inc6 (k := 1) dX12_comeOf_101 (by decide) rfl rfl (go_goto 20 dX12_comeOf_104 (by decide) ?_))))
            exact absurd h73 h89
        · refine go_il6 dX12_comeOf_76 (go_goto 83 dX12_comeOf_78 (by decide) (go_is4 dX12_comeOf_83 rfl rfl (go_il7 dX12_comeOf_85 (go_il5 dX12_comeOf_87 ?_))))
          refine go_cle 97 dX12_comeOf_89 (by decide) (fun h89 => ?_) (fun h89 => ?_)
          · refine go_il5 dX12_comeOf_97 (go_is5 dX12_comeOf_99 rfl rfl (go_inc6 (k := 1) dX12_comeOf_101 (by decide) rfl rfl (go_goto 20 dX12_comeOf_104 (by decide) ?_)))
            exact absurd h89 h73
          · refine go_il7 dX12_comeOf_92 (go_goto 99 dX12_comeOf_94 (by decide) (go_is5 dX12_comeOf_99 rfl rfl (go_inc6 (k := 1) dX12_comeOf_101 (by decide) rfl rfl (go_goto 20 dX12_comeOf_104 (by decide) ?_))))
            have h9 := ih (20 - (n + 1)) (by omega) (n + 1) n (some (.int (tcome (trof (qof r) 9 k) n))) m37 rfl (by omega) hRb (hWa.fr hF37)
            rw [bestI_new (f := tcome (trof (qof r) 9 k)) h73] at h9
            rw [nI_1]
            exact h9
      · refine go_icm1 dX12_comeOf_51 (go_goto 67 dX12_comeOf_52 (by decide) ?_)
        have e7 : (-1 : Int32) = tcome (trof (qof r) 9 k) n := by
          unfold tcome
          rw [(heard_none htok).mp h48]
          rfl
        rw [e7]
        refine go_is7 dX12_comeOf_67 rfl rfl (go_il7 dX12_comeOf_69 (go_il5 dX12_comeOf_71 ?_))
        refine go_cle 81 dX12_comeOf_73 (by decide) (fun h73 => ?_) (fun h73 => ?_)
        · refine go_il4 dX12_comeOf_81 (go_is4 dX12_comeOf_83 rfl rfl (go_il7 dX12_comeOf_85 (go_il5 dX12_comeOf_87 ?_)))
          refine go_cle 97 dX12_comeOf_89 (by decide) (fun h89 => ?_) (fun h89 => ?_)
          · refine go_il5 dX12_comeOf_97 (go_is5 dX12_comeOf_99 rfl rfl (go_inc6 (k := 1) dX12_comeOf_101 (by decide) rfl rfl (go_goto 20 dX12_comeOf_104 (by decide) ?_)))
            have h9 := ih (20 - (n + 1)) (by omega) (n + 1) n (some (.int (tcome (trof (qof r) 9 k) n))) m37 rfl (by omega) hRb (hWa.fr hF37)
            rw [bestI_keep (f := tcome (trof (qof r) 9 k)) h73] at h9
            rw [nI_1]
            exact h9
          · refine go_il7 dX12_comeOf_92 (go_goto 99 dX12_comeOf_94 (by decide) (go_is5 dX12_comeOf_99 rfl rfl (go_inc6 (k := 1) dX12_comeOf_101 (by decide) rfl rfl (go_goto 20 dX12_comeOf_104 (by decide) ?_))))
            exact absurd h73 h89
        · refine go_il6 dX12_comeOf_76 (go_goto 83 dX12_comeOf_78 (by decide) (go_is4 dX12_comeOf_83 rfl rfl (go_il7 dX12_comeOf_85 (go_il5 dX12_comeOf_87 ?_))))
          refine go_cle 97 dX12_comeOf_89 (by decide) (fun h89 => ?_) (fun h89 => ?_)
          · refine go_il5 dX12_comeOf_97 (go_is5 dX12_comeOf_99 rfl rfl (go_inc6 (k := 1) dX12_comeOf_101 (by decide) rfl rfl (go_goto 20 dX12_comeOf_104 (by decide) ?_)))
            exact absurd h89 h73
          · refine go_il7 dX12_comeOf_92 (go_goto 99 dX12_comeOf_94 (by decide) (go_is5 dX12_comeOf_99 rfl rfl (go_inc6 (k := 1) dX12_comeOf_101 (by decide) rfl rfl (go_goto 20 dX12_comeOf_104 (by decide) ?_))))
            have h9 := ih (20 - (n + 1)) (by omega) (n + 1) n (some (.int (tcome (trof (qof r) 9 k) n))) m37 rfl (by omega) hRb (hWa.fr hF37)
            rw [bestI_new (f := tcome (trof (qof r) 9 k)) h73] at h9
            rw [nI_1]
            exact h9

set_option maxRecDepth 100000 in
set_option maxHeartbeats 400000 in
theorem mComeOf {r : RS} {μ : gm_M} (hA : MA r μ) {k : Nat} (hk : k < qnum (qof r)) (x : Int32) : Sat yX12_comeOf cX12_comeOf 8 (some .int) 7 [(.ref 52), (.int (nI k)), (.int x)] μ (fun r' μ' => r' = some (.int (biA (bestI (tcome (trof (qof r) 9 k)) 20) x)) ∧ RDp r μ μ') := by
  have h8 := (rok_q hA.1).1
  refine Sat.of (L := [some (.ref 52), some (.int (nI k)), some (.int x), none, none, none, none, none]) (by decide) (fun _ => rfl) (fun _ => rfl) ?_
  refine go_al0 dX12_comeOf_0 ?_
  refine go_V0 mcX12_asTold mvX12_asTold kX12_190 rfl dX12_comeOf_1 rfl rfl (mAsTold hA) ?_
  rintro _ m1 ⟨rfl, hR1, hW1⟩
  refine go_al0 dX12_comeOf_4 (go_getR (j := 56) fX12_19 rfl rfl dX12_comeOf_5 (go_il1 dX12_comeOf_8 (go_iald rfl (vp_in_nI (show k < 9 by omega) (by decide)) dX12_comeOf_9 ?_)))
  rw [nI_clamp (show k < 2 ^ 31 by omega), (hR1.1.2.2.1 k hk).2.1]
  refine go_is3 dX12_comeOf_10 rfl rfl (go_icm1 dX12_comeOf_11 (go_is4 dX12_comeOf_12 rfl rfl (go_icm1 dX12_comeOf_14 (go_is5 dX12_comeOf_15 rfl rfl (go_ic0 dX12_comeOf_17 (go_is6 dX12_comeOf_18 rfl rfl ?_))))))
  rw [← nI_0]
  exact mCm_loop hR1.1.1 hk _ 0 (qfr (qof r) k) _ _ rfl (by decide) (by rw [qfrm_self]; exact hR1) hW1

set_option maxRecDepth 100000 in
set_option maxHeartbeats 400000 in
theorem m_come {r : RS} {μ : gm_M} (hA : MA r μ) (w x : Int32) : Sat yX12_come cX12_come 3 (some .int) 8 [(.ref 52), (.int w), (.int x)] μ (fun r' μ' => r' = some (.int (sCome (qof r) w x)) ∧ FX lQ fQ μ μ') := by
  refine Sat.of (L := [some (.ref 52), some (.int w), some (.int x)]) (by decide) (fun _ => rfl) (fun _ => rfl) ?_
  refine go_al0 dX12_come_0 (go_il1 dX12_come_1 ?_)
  refine go_V1 mcX12_isWheel mvX12_isWheel kX12_142 rfl dX12_come_2 rfl rfl (mIsWheel hA _) ?_
  rintro _ m2 ⟨rfl, hR2⟩
  refine go_ifeqB 26 dX12_come_5 (by decide) (fun h5 => ?_) (fun h5 => ?_)
  · refine go_bipush (v := -2) dX12_come_26 (by decide) ?_
    refine go_iret dX12_come_28 ?_
    exact ⟨by rw [sCome_g, if_neg (gf h5)], hR2.2.2⟩
  · refine go_il2 dX12_come_8 (go_ic0 dX12_come_9 (go_ic1 dX12_come_10 (go_S3r mcX12_in mvX12_in kX12_104 dX12_come_11 rfl rfl (sX12_in _ _ _ _) ?_)))
    refine go_ifeqB 26 dX12_come_14 (by decide) (fun h14 => ?_) (fun h14 => ?_)
    · refine go_bipush (v := -2) dX12_come_26 (by decide) ?_
      refine go_iret dX12_come_28 ?_
      exact ⟨by rw [sCome_g, if_pos h5, if_neg (gf h14)], hR2.2.2⟩
    · obtain ⟨k, hk, rfl⟩ := inW_of (rok_q hA.1) h5
      refine go_al0 dX12_come_17 (go_il1 dX12_come_18 (go_il2 dX12_come_19 ?_))
      refine go_V2 mcX12_comeOf mvX12_comeOf kX12_231 rfl dX12_come_20 rfl rfl (mComeOf (hR2.ma hA) hk x) ?_
      rintro _ m20 ⟨rfl, hR20⟩
      refine go_goto 28 dX12_come_23 (by decide) ?_
      refine go_iret dX12_come_28 ?_
      exact ⟨by rw [sCome_g, if_pos h5, if_pos h14, wN_nI (by have := hR2.1.1.1; omega)], (hR2.tr hR20).2.2⟩

