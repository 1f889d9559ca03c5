/-! THE MODEL: back, forget, sheets -/
theorem FrR.F {lo hi : Nat} {μ μ' : gm_M} (h : FrR lo hi μ μ') : FrR lo hi μ μ' := h
theorem gin_inS (x : Int32) : gin x 0 3 = inS x := by
  have e : (3 < x) = (4 ≤ x) := propext (by
    rw [Int32.lt_iff_toInt_lt, Int32.le_iff_toInt_le]
    have e1 : (3 : Int32).toInt = 3 := by decide
    have e2 : (4 : Int32).toInt = 4 := by decide
    rw [e1, e2]; omega)
  unfold gin inS; simp only [e]
theorem gin_inF (x : Int32) : gin x 0 2 = inF x := by
  have e : (2 < x) = (3 ≤ x) := propext (by
    rw [Int32.lt_iff_toInt_lt, Int32.le_iff_toInt_le]
    have e1 : (2 : Int32).toInt = 2 := by decide
    have e2 : (3 : Int32).toInt = 3 := by decide
    rw [e1, e2]; omega)
  unfold gin inF; simp only [e]
theorem MA.fi {r : RS} {μ : gm_M} (h : MA r μ) (v : Int32) : MA (wF r v) (gm_I μ 52 37 v) ∧ FrR 52 80 μ (gm_I μ 52 37 v) := by
  obtain ⟨o, m0, m1, c, d⟩ := h
  refine ⟨⟨o, MT0.cong (r := r) m0 (fun c hc => gm_In _ _ _ (by omega)), MT1.cong (r := r) m1 (fun c hc => gm_In _ _ _ (by omega)), MM.cong (r := r) c (fun c hc => gm_In _ _ _ (by omega)) (fun k hk => gm_Io _ _ _ (by omega)), ⟨?_, gm_Is _ _ _ _⟩⟩, fun c hc => gm_In _ _ _ (by omega)⟩
  show ∀ s, s < 4 → _
  rw [gm_In _ _ _ (by decide), gm_In _ _ _ (by decide), gm_In _ _ _ (by decide), gm_In _ _ _ (by decide)]
  exact d.1
/-- one sheet set anew -/
theorem MA.sh {r : RS} {μ μ' : gm_M} (h : MA r μ) {k : Nat} (hk : k < 4) {t : SHT} (ht : t.2.1 ≤ 2 ∧ t.2.2.1 ≤ 60) (e : ∀ c, c ≠ 76 → c ≠ 77 → c ≠ 78 → c ≠ 79 → c ≠ 80 → μ'.1 c = μ.1 c) (h76 : ∀ s, μ'.1 76 s = if s = k then gb (!t.1) else μ.1 76 s) (h77 : ∀ s, μ'.1 77 s = if s = k then nI t.2.1 else μ.1 77 s) (h78 : ∀ s, μ'.1 78 s = if s = k then nI t.2.2.1 else μ.1 78 s) (h79 : ∀ i, i < 60 → μ'.1 79 (60 * k + i) = t.2.2.2 i) (h79' : ∀ s, s ≠ k → ∀ i, i < 60 → μ'.1 79 (60 * s + i) = μ.1 79 (60 * s + i)) : MA (wSF r k t (rfi r)) μ' ∧ FrR 52 80 μ μ' := by
  obtain ⟨o, m0, m1, c, d⟩ := h
  refine ⟨⟨?_, MT0.cong (r := r) m0 (fun c hc => e c (by omega) (by omega) (by omega) (by omega) (by omega)), MT1.cong (r := r) m1 (fun c hc => e c (by omega) (by omega) (by omega) (by omega) (by omega)), MM.cong (r := r) c (fun c hc => e c (by omega) (by omega) (by omega) (by omega) (by omega)) (fun k _ => by rw [e 52 (by decide) (by decide) (by decide) (by decide) (by decide)]), ⟨fun s hs => ?_, by rw [e 52 (by decide) (by decide) (by decide) (by decide) (by decide)]; exact d.2⟩⟩, fun c hc => e c (by omega) (by omega) (by omega) (by omega) (by omega)⟩
  · obtain ⟨o1, o2, o3, o4, o5, o6, o7, o8⟩ := o
    refine ⟨o1, o2, o3, o4, o5, o6, o7, fun s hs => ?_⟩
    show (if s = k then t else rst r s).2.1 ≤ 2 ∧ (if s = k then t else rst r s).2.2.1 ≤ 60
    by_cases z : s = k
    · rw [if_pos z]; exact ht
    · rw [if_neg z]; exact o8 s hs
  · show μ'.1 76 s = gb (!(if s = k then t else rst r s).1) ∧ μ'.1 77 s = nI (if s = k then t else rst r s).2.1 ∧ μ'.1 78 s = nI (if s = k then t else rst r s).2.2.1 ∧ ∀ i, i < 60 → μ'.1 79 (60 * s + i) = (if s = k then t else rst r s).2.2.2 i
    rw [h76, h77, h78]
    by_cases z : s = k
    · subst z
      rw [if_pos rfl, if_pos rfl, if_pos rfl, if_pos rfl]
      exact ⟨rfl, rfl, rfl, h79⟩
    · rw [if_neg z, if_neg z, if_neg z, if_neg z]
      have := d.1 s hs
      exact ⟨this.1, this.2.1, this.2.2.1, fun i hi => by rw [h79' s z i hi]; exact this.2.2.2 i hi⟩
theorem b01 : vp_nar .boolean 1 = 1 ∧ vp_nar .boolean 0 = 0 := by decide
theorem gb_not (b : Bool) : gb (!b) = if b = true then 0 else 1 := by cases b <;> rfl
set_option maxRecDepth 100000 in
set_option maxHeartbeats 400000 in
theorem m_forget {r : RS} {μ : gm_M} (hA : MA r μ) : Sat yX12_forget cX12_forget 2 (some .int) 0 [(.ref 52)] μ (fun r' μ' => r' = some (.int (nI (rli r).1)) ∧ MA (wLi r (0, (rli r).2)) μ' ∧ FrR 52 80 μ μ') := by
  have ho : rok (wLi r (0, (rli r).2)) := by
    obtain ⟨o1, o2, o3, o4, o5, o6, o7, o8⟩ := hA.1
    exact ⟨o1, o2, o3, o4, o5, o6, ⟨Nat.zero_le _, fun i hi => absurd hi (Nat.not_lt_zero i)⟩, o8⟩
  refine Sat.of (L := [some (.ref 52), none]) (by decide) (fun _ => rfl) (fun _ => rfl) ?_
  refine go_al0 dX12_forget_0 (go_getI fX12_237 rfl rfl dX12_forget_1 (go_is1 dX12_forget_4 rfl rfl (go_al0 dX12_forget_5 (go_ic0 dX12_forget_6 (go_putI fX12_237 rfl rfl dX12_forget_7 (go_il1 dX12_forget_10 ?_))))))
  refine go_iret dX12_forget_11 ?_
  have hw := hA.mk (r2 := wLi r (0, (rli r).2)) (μ' := gm_I μ 52 27 0) rfl rfl rfl rfl ho ⟨hA.2.2.2.1.1, hA.2.2.2.1.2.1, hA.2.2.2.1.2.2.1, ⟨gm_Is _ _ _ _, fun i hi => absurd hi (Nat.not_lt_zero i)⟩⟩ (fun c hc => gm_In _ _ _ (by omega)) (gm_Io _ _ _ (by decide))
  exact ⟨by rw [hA.2.2.2.1.2.2.2.1], hw.1, hw.2⟩

theorem sBack_0 (r : RS) : sBack r 0 = (if (rtu r).1 = 0 then -3 else nI ((rtu r).1 - 1)) ∧ nBack r 0 = wTu r ((rtu r).1 - 1, (rtu r).2) := ⟨rfl, rfl⟩
theorem sBack_1 (r : RS) : sBack r 1 = (if (rkn r).1 = 0 then -3 else nI ((rkn r).1 - 1)) ∧ nBack r 1 = wKn r ((rkn r).1 - 1, (rkn r).2) := ⟨rfl, rfl⟩
theorem sBack_b {r : RS} {x : Int32} (h : gin x 0 1 = false) : sBack r x = -2 ∧ nBack r x = r := by
  unfold sBack nBack
  rw [ite_gin, ite_gin, if_neg (gf h), if_neg (gf h)]
  exact ⟨rfl, rfl⟩
theorem Int32_sub0 (x : Int32) : x - 0 = x := Int32.sub_zero x
set_option maxRecDepth 100000 in
set_option maxHeartbeats 400000 in
theorem m_back0 {r : RS} {μ : gm_M} (hA : MA r μ) : Sat yX12_back cX12_back 3 (some .int) 1 [(.ref 52), (.int 0)] μ (fun r' μ' => r' = some (.int (sBack r 0)) ∧ MA (nBack r 0) μ' ∧ FrR 52 80 μ μ') := by
  have hN := hA.1.2.2.2.2.1.1
  refine Sat.of (L := [some (.ref 52), some (.int 0), none]) (by decide) (fun _ => rfl) (fun _ => rfl) ?_
  refine go_il1 dX12_back_0 (go_ic0 dX12_back_1 (go_ic1 dX12_back_2 (go_S3r mcX12_in mvX12_in kX12_104 dX12_back_3 rfl rfl (sX12_in _ _ _ _) ?_)))
  refine go_ifneB 12 dX12_back_6 (by decide) (fun h6 => ?_) (fun h6 => ?_)
  · refine go_il1 dX12_back_12 ?_
    refine go_ifne 23 dX12_back_13 (by decide) (fun h13 => absurd h13 (by decide)) (fun _ => ?_)
    refine go_al0 dX12_back_16 (go_getI fX12_154 rfl rfl dX12_back_17 ?_)
    rw [hA.2.2.2.1.2.1.1]
    refine go_goto 27 dX12_back_20 (by decide) (go_is2 dX12_back_27 rfl rfl (go_il2 dX12_back_28 ?_))
    refine go_ifne 35 dX12_back_29 (by decide) (fun h29 => ?_) (fun h29 => ?_)
    · have e9 : ¬ (rtu r).1 = 0 := fun z => h29 (by rw [z]; rfl)
      refine go_al0 dX12_back_35 (go_dup dX12_back_36 rfl (go_getI fX12_154 rfl rfl dX12_back_37 ?_))
      rw [hA.2.2.2.1.2.1.1]
      refine go_il1 dX12_back_40 ?_
      refine go_ifne 48 dX12_back_41 (by decide) (fun h41 => absurd h41 (by decide)) (fun _ => ?_)
      refine go_ic1 dX12_back_44 (go_goto 49 dX12_back_45 (by decide) (go_isub dX12_back_49 ?_))
      rw [show nI (rtu r).1 - 1 = nI ((rtu r).1 - 1) from by rw [show (1 : Int32) = nI 1 from rfl, pk_sub (by omega)]]
      refine go_putI fX12_154 rfl rfl dX12_back_50 (go_al0 dX12_back_53 (go_dup dX12_back_54 rfl (go_getI fX12_157 rfl rfl dX12_back_55 ?_)))
      rw [gm_Io _ _ _ (by decide), hA.2.2.2.1.2.2.1.1]
      refine go_il1 dX12_back_58 (go_ic1 dX12_back_59 ?_)
      refine go_cne 67 dX12_back_60 (by decide) (fun _ => ?_) (fun h60 => absurd h60 (by decide))
      refine go_ic0 dX12_back_67 (go_isub dX12_back_68 ?_)
      rw [Int32_sub0]
      refine go_putI fX12_157 rfl rfl dX12_back_69 (go_il2 dX12_back_72 (go_ic1 dX12_back_73 (go_isub dX12_back_74 ?_)))
      refine go_iret dX12_back_75 ?_
      have ho : rok (wTu r ((rtu r).1 - 1, (rtu r).2)) := by
        obtain ⟨o1, o2, o3, o4, o5, o6, o7, o8⟩ := hA.1
        exact ⟨o1, o2, o3, o4, ⟨by show (rtu r).1 - 1 ≤ 8; omega, fun i hi => o5.2 i (by have hi : i < (rtu r).1 - 1 := hi; omega)⟩, o6, o7, o8⟩
      have hm : MM (wTu r ((rtu r).1 - 1, (rtu r).2)) (gm_I (gm_I μ 52 11 (nI ((rtu r).1 - 1))) 52 14 (nI (rkn r).1)) := ⟨hA.2.2.2.1.1, ⟨by rw [gm_Io _ _ _ (by decide), gm_Is]; rfl, fun i hi => hA.2.2.2.1.2.1.2 i (by have hi : i < (rtu r).1 - 1 := hi; omega)⟩, ⟨gm_Is _ _ _ _, hA.2.2.2.1.2.2.1.2⟩, hA.2.2.2.1.2.2.2⟩
      have hw := hA.mk (r2 := wTu r ((rtu r).1 - 1, (rtu r).2)) (μ' := gm_I (gm_I μ 52 11 (nI ((rtu r).1 - 1))) 52 14 (nI (rkn r).1)) rfl rfl rfl rfl ho hm (fun c hc => by rw [gm_In _ _ _ (by omega), gm_In _ _ _ (by omega)]) (by rw [gm_Io _ _ _ (by decide), gm_Io _ _ _ (by decide)])
      exact ⟨by rw [(sBack_0 r).1, if_neg e9, show nI (rtu r).1 - 1 = nI ((rtu r).1 - 1) from by rw [show (1 : Int32) = nI 1 from rfl, pk_sub (by omega)]], hw.1, hw.2⟩
    · refine go_bipush (v := -3) dX12_back_32 (by decide) ?_
      refine go_iret dX12_back_34 ?_
      have e9 : (rtu r).1 = 0 := by rw [← nI_0] at h29; exact (nI_eq (by omega) (by decide)).mp h29
      refine ⟨by rw [(sBack_0 r).1, if_pos e9], ?_, FrR.rf μ⟩
      rw [(sBack_0 r).2, show (rtu r).1 - 1 = (rtu r).1 by omega]
      exact hA
  · refine go_bipush (v := -2) dX12_back_9 (by decide) ?_
    refine go_iret dX12_back_11 ?_
    exact absurd h6 (by decide)

set_option maxRecDepth 100000 in
set_option maxHeartbeats 400000 in
theorem m_back1 {r : RS} {μ : gm_M} (hA : MA r μ) : Sat yX12_back cX12_back 3 (some .int) 1 [(.ref 52), (.int 1)] μ (fun r' μ' => r' = some (.int (sBack r 1)) ∧ MA (nBack r 1) μ' ∧ FrR 52 80 μ μ') := by
  have hN := hA.1.2.2.2.2.2.1.1
  refine Sat.of (L := [some (.ref 52), some (.int 1), none]) (by decide) (fun _ => rfl) (fun _ => rfl) ?_
  refine go_il1 dX12_back_0 (go_ic0 dX12_back_1 (go_ic1 dX12_back_2 (go_S3r mcX12_in mvX12_in kX12_104 dX12_back_3 rfl rfl (sX12_in _ _ _ _) ?_)))
  refine go_ifneB 12 dX12_back_6 (by decide) (fun h6 => ?_) (fun h6 => ?_)
  · refine go_il1 dX12_back_12 ?_
    refine go_ifne 23 dX12_back_13 (by decide) (fun _ => ?_) (fun h13 => absurd h13 (by decide))
    refine go_al0 dX12_back_23 (go_getI fX12_157 rfl rfl dX12_back_24 ?_)
    rw [hA.2.2.2.1.2.2.1.1]
    refine go_is2 dX12_back_27 rfl rfl (go_il2 dX12_back_28 ?_)
    refine go_ifne 35 dX12_back_29 (by decide) (fun h29 => ?_) (fun h29 => ?_)
    · have e9 : ¬ (rkn r).1 = 0 := fun z => h29 (by rw [z]; rfl)
      refine go_al0 dX12_back_35 (go_dup dX12_back_36 rfl (go_getI fX12_154 rfl rfl dX12_back_37 ?_))
      rw [hA.2.2.2.1.2.1.1]
      refine go_il1 dX12_back_40 ?_
      refine go_ifne 48 dX12_back_41 (by decide) (fun _ => ?_) (fun h41 => absurd h41 (by decide))
      refine go_ic0 dX12_back_48 (go_isub dX12_back_49 ?_)
      rw [Int32_sub0]
      refine go_putI fX12_154 rfl rfl dX12_back_50 (go_al0 dX12_back_53 (go_dup dX12_back_54 rfl (go_getI fX12_157 rfl rfl dX12_back_55 ?_)))
      rw [gm_Io _ _ _ (by decide), hA.2.2.2.1.2.2.1.1]
      refine go_il1 dX12_back_58 (go_ic1 dX12_back_59 ?_)
      refine go_cne 67 dX12_back_60 (by decide) (fun h60 => absurd h60 (by decide)) (fun _ => ?_)
      refine go_ic1 dX12_back_63 (go_goto 68 dX12_back_64 (by decide) (go_isub dX12_back_68 ?_))
      rw [show nI (rkn r).1 - 1 = nI ((rkn r).1 - 1) from by rw [show (1 : Int32) = nI 1 from rfl, pk_sub (by omega)]]
      refine go_putI fX12_157 rfl rfl dX12_back_69 (go_il2 dX12_back_72 (go_ic1 dX12_back_73 (go_isub dX12_back_74 ?_)))
      refine go_iret dX12_back_75 ?_
      have ho : rok (wKn r ((rkn r).1 - 1, (rkn r).2)) := by
        obtain ⟨o1, o2, o3, o4, o5, o6, o7, o8⟩ := hA.1
        exact ⟨o1, o2, o3, o4, o5, ⟨by show (rkn r).1 - 1 ≤ 4; omega, fun i hi => o6.2 i (by have hi : i < (rkn r).1 - 1 := hi; omega)⟩, o7, o8⟩
      have hm : MM (wKn r ((rkn r).1 - 1, (rkn r).2)) (gm_I (gm_I μ 52 11 (nI (rtu r).1)) 52 14 (nI ((rkn r).1 - 1))) := ⟨hA.2.2.2.1.1, ⟨by rw [gm_Io _ _ _ (by decide), gm_Is]; rfl, hA.2.2.2.1.2.1.2⟩, ⟨gm_Is _ _ _ _, fun i hi => hA.2.2.2.1.2.2.1.2 i (by have hi : i < (rkn r).1 - 1 := hi; omega)⟩, hA.2.2.2.1.2.2.2⟩
      have hw := hA.mk (r2 := wKn r ((rkn r).1 - 1, (rkn r).2)) (μ' := gm_I (gm_I μ 52 11 (nI (rtu r).1)) 52 14 (nI ((rkn r).1 - 1))) rfl rfl rfl rfl ho hm (fun c hc => by rw [gm_In _ _ _ (by omega), gm_In _ _ _ (by omega)]) (by rw [gm_Io _ _ _ (by decide), gm_Io _ _ _ (by decide)])
      exact ⟨by rw [(sBack_1 r).1, if_neg e9, show nI (rkn r).1 - 1 = nI ((rkn r).1 - 1) from by rw [show (1 : Int32) = nI 1 from rfl, pk_sub (by omega)]], hw.1, hw.2⟩
    · refine go_bipush (v := -3) dX12_back_32 (by decide) ?_
      refine go_iret dX12_back_34 ?_
      have e9 : (rkn r).1 = 0 := by rw [← nI_0] at h29; exact (nI_eq (by omega) (by decide)).mp h29
      refine ⟨by rw [(sBack_1 r).1, if_pos e9], ?_, FrR.rf μ⟩
      rw [(sBack_1 r).2, show (rkn r).1 - 1 = (rkn r).1 by omega]
      exact hA
  · refine go_bipush (v := -2) dX12_back_9 (by decide) ?_
    refine go_iret dX12_back_11 ?_
    exact absurd h6 (by decide)

set_option maxRecDepth 100000 in
set_option maxHeartbeats 400000 in
theorem m_backB {r : RS} {μ : gm_M} (hA : MA r μ) {x : Int32} (hx0 : ¬ x = 0) (hx1 : ¬ x = 1) : Sat yX12_back cX12_back 3 (some .int) 1 [(.ref 52), (.int x)] μ (fun r' μ' => r' = some (.int (sBack r x)) ∧ MA (nBack r x) μ' ∧ FrR 52 80 μ μ') := by
  refine Sat.of (L := [some (.ref 52), some (.int x), none]) (by decide) (fun _ => rfl) (fun _ => rfl) ?_
  refine go_il1 dX12_back_0 (go_ic0 dX12_back_1 (go_ic1 dX12_back_2 (go_S3r mcX12_in mvX12_in kX12_104 dX12_back_3 rfl rfl (sX12_in _ _ _ _) ?_)))
  refine go_ifneB 12 dX12_back_6 (by decide) (fun h6 => ?_) (fun h6 => ?_)
  · exact absurd h6 (gf (gin01 hx0 hx1))
  · refine go_bipush (v := -2) dX12_back_9 (by decide) ?_
    refine go_iret dX12_back_11 ?_
    exact ⟨by rw [(sBack_b (gin01 hx0 hx1)).1], by rw [(sBack_b (gin01 hx0 hx1)).2]; exact hA, FrR.rf μ⟩

theorem m_back {r : RS} {μ : gm_M} (hA : MA r μ) (x : Int32) : Sat yX12_back cX12_back 3 (some .int) 1 [.ref 52, .int x] μ (fun r' μ' => r' = some (.int (sBack r x)) ∧ MA (nBack r x) μ' ∧ FrR 52 80 μ μ') := by
  by_cases h0 : x = 0
  · subst h0; exact m_back0 hA
  · by_cases h1 : x = 1
    · subst h1; exact m_back1 hA
    · exact m_backB hA h0 h1
theorem sSheet_g (x f n : Int32) : sSheet x f n = if gin x 0 3 = true then (if gin f 0 2 = true then (if n ≤ 60 then (if 0 ≤ n then n else -15) else -2) else -2) else -2 := by unfold sSheet; rw [gin_inS, gin_inF]
theorem nSheet_g (r : RS) (x f n : Int32) : nSheet r x f n = if gin x 0 3 = true then (if gin f 0 2 = true then (if n ≤ 60 then (if 0 ≤ n then wSF r (wN x) (false, wN f, wN n, fun _ => 0) (rfi r) else wF r 5) else r) else r) else r := by unfold nSheet; rw [gin_inS, gin_inF]
set_option maxRecDepth 100000 in
set_option maxHeartbeats 400000 in
theorem mSh_loop {r : RS} {μ : gm_M} {k f n : Nat} {fv : Int32} (hA : MA r μ) (hk : k < 4) (hf : f ≤ 2) (hn : n ≤ 60) : ∀ (k_ i : Nat) (m : gm_M), 60 - i = k_ → i ≤ 60 → (∀ c, c ≠ 79 → m.1 c = (gm_I (gm_I (gm_I μ 76 k 1) 77 k (nI f)) 78 k (nI n)).1 c) → (∀ j, j < i → m.1 79 (60 * k + j) = 0) → (∀ s, s ≠ k → ∀ j, j < 60 → m.1 79 (60 * s + j) = μ.1 79 (60 * s + j)) → Go yX12_sheet cX12_sheet 5 (some .int) 2 59 [some (.ref 52), some (.int (nI k)), some (.int fv), some (.int (nI n)), some (.int (nI i))] [] m (fun r' μ' => r' = some (.int (nI n)) ∧ MA (wSF r k (false, f, n, fun _ => 0) (rfi r)) μ' ∧ FrR 52 80 μ μ') := by
  intro k_
  induction k_ using Nat.strongRecOn with
  | ind k_ ih =>
    intro i m  hk_ hj hF hZ hO
    refine go_il4 dX12_sheet_59 (go_bipush (v := 60) dX12_sheet_61 (by decide) ?_)
    refine go_cge 85 dX12_sheet_63 (by decide) (fun h63 => ?_) (fun h63 => ?_)
    · have he : i = 60 := Nat.le_antisymm hj ((gm_bdN (by decide) (by decide) (by omega)).mp h63)
      refine go_il3 dX12_sheet_85 ?_
      refine go_iret dX12_sheet_86 ?_
      subst he
      have hw := hA.sh (μ' := m) hk (t := (false, f, n, fun _ => 0)) ⟨hf, hn⟩ (fun c c1 c2 c3 c4 c5 => by rw [hF c (by omega), gm_In _ _ _ c3, gm_In _ _ _ c2, gm_In _ _ _ c1]) (fun s => by rw [hF 76 (by decide), gm_In _ _ _ (by decide), gm_In _ _ _ (by decide), gm_I1, if_pos rfl]; rfl) (fun s => by rw [hF 77 (by decide), gm_In _ _ _ (by decide), gm_I1, if_pos rfl, gm_In _ _ _ (by decide)]) (fun s => by rw [hF 78 (by decide), gm_I1, if_pos rfl, gm_In _ _ _ (by decide), gm_In _ _ _ (by decide)]) hZ hO
      exact ⟨rfl, hw.1, hw.2⟩
    · have hlt : i < 60 := Nat.not_le.mp (fun zz => h63 ((gm_bdN (by decide) (by decide) (by omega)).mpr zz))
      refine go_al0 dX12_sheet_66 (go_getR (j := 79) fX12_89 rfl rfl dX12_sheet_67 (go_bipush (v := 60) dX12_sheet_70 (by decide) (go_il1 dX12_sheet_72 (go_imul dX12_sheet_73 (go_il4 dX12_sheet_74 (go_iadd dX12_sheet_76 (go_ic0 dX12_sheet_77 (go_iast rfl (by rw [show (60 : Int32) = nI 60 from rfl, pk_mul, nI_add]; exact vp_in_nI (show 60 * k + i < 240 by omega) (by decide)) dX12_sheet_78 ?_))))))))
      rw [show (60 : Int32) = nI 60 from rfl, pk_mul, nI_add, nI_clamp (by omega)]
      refine go_inc4 (k := 1) dX12_sheet_79 (by decide) rfl rfl (go_goto 59 dX12_sheet_82 (by decide) ?_)
      rw [nI_1]
      refine ih (60 - (i + 1)) (by omega) (i + 1) _ rfl (by omega) (fun c hc => by rw [gm_In _ _ _ hc]; exact hF c hc) (fun j hj => ?_) (fun s hs j hj => ?_)
      · rw [gm_I1, if_pos rfl]
        by_cases z : j = i
        · rw [if_pos (by omega)]
        · rw [if_neg (by omega)]; exact hZ j (by omega)
      · rw [gm_I1, if_pos rfl, if_neg (by omega)]; exact hO s hs j hj

set_option maxRecDepth 100000 in
set_option maxHeartbeats 400000 in
theorem m_sheet {r : RS} {μ : gm_M} (hA : MA r μ) (x f n : Int32) : Sat yX12_sheet cX12_sheet 5 (some .int) 2 [(.ref 52), (.int x), (.int f), (.int n)] μ (fun r' μ' => r' = some (.int (sSheet x f n)) ∧ MA (nSheet r x f n) μ' ∧ FrR 52 80 μ μ') := by
  refine Sat.of (L := [some (.ref 52), some (.int x), some (.int f), some (.int n), none]) (by decide) (fun _ => rfl) (fun _ => rfl) ?_
  refine go_il1 dX12_sheet_0 (go_S1r mcX12_isSheet mvX12_isSheet kX12_160 dX12_sheet_1 rfl rfl (sX12_isSheet _ _) ?_)
  refine go_ifeqB 22 dX12_sheet_4 (by decide) (fun h4 => ?_) (fun h4 => ?_)
  · refine go_bipush (v := -2) dX12_sheet_22 (by decide) ?_
    refine go_iret dX12_sheet_24 ?_
    exact ⟨by rw [sSheet_g, if_neg (gf h4)], by rw [nSheet_g, if_neg (gf h4)]; exact hA, FrR.rf μ⟩
  · refine go_il2 dX12_sheet_7 (go_ic0 dX12_sheet_8 (go_ic2 dX12_sheet_9 (go_S3r mcX12_in mvX12_in kX12_104 dX12_sheet_10 rfl rfl (sX12_in _ _ _ _) ?_)))
    refine go_ifeqB 22 dX12_sheet_13 (by decide) (fun h13 => ?_) (fun h13 => ?_)
    · refine go_bipush (v := -2) dX12_sheet_22 (by decide) ?_
      refine go_iret dX12_sheet_24 ?_
      exact ⟨by rw [sSheet_g, if_pos h4, if_neg (gf h13)], by rw [nSheet_g, if_pos h4, if_neg (gf h13)]; exact hA, FrR.rf μ⟩
    · refine go_il3 dX12_sheet_16 (go_bipush (v := 60) dX12_sheet_17 (by decide) ?_)
      refine go_cle 25 dX12_sheet_19 (by decide) (fun h19 => ?_) (fun h19 => ?_)
      · refine go_il3 dX12_sheet_25 ?_
        refine go_ifge 35 dX12_sheet_26 (by decide) (fun h26 => ?_) (fun h26 => ?_)
        · obtain ⟨k, hk3, rfl⟩ := gin_of (N := 3) (by decide) (by decide) h4
          obtain ⟨f, hf, rfl⟩ := gin_of (N := 2) (by decide) (by decide) h13
          obtain ⟨n, hn, rfl⟩ := int_of (B := 60) (N := 60) (by decide) (by decide) (Int32.not_lt.mpr h26) h19
          have hk : k < 4 := by omega
          refine go_al0 dX12_sheet_35 (go_getR (j := 76) fX12_79 rfl rfl dX12_sheet_36 (go_il1 dX12_sheet_39 (go_ic1 dX12_sheet_40 (go_zast rfl (vp_in_nI hk (by decide)) dX12_sheet_41 ?_))))
          rw [nI_clamp (show k < 2 ^ 31 by omega), b01.1]
          refine go_al0 dX12_sheet_42 (go_getR (j := 77) fX12_83 rfl rfl dX12_sheet_43 (go_il1 dX12_sheet_46 (go_il2 dX12_sheet_47 (go_iast rfl (vp_in_nI hk (by decide)) dX12_sheet_48 ?_))))
          rw [nI_clamp (show k < 2 ^ 31 by omega)]
          refine go_al0 dX12_sheet_49 (go_getR (j := 78) fX12_86 rfl rfl dX12_sheet_50 (go_il1 dX12_sheet_53 (go_il3 dX12_sheet_54 (go_iast rfl (vp_in_nI hk (by decide)) dX12_sheet_55 ?_))))
          rw [nI_clamp (show k < 2 ^ 31 by omega)]
          refine go_ic0 dX12_sheet_56 (go_is4 dX12_sheet_57 rfl rfl ?_)
          rw [sSheet_g, nSheet_g, if_pos h4, if_pos h13, if_pos h19, if_pos h26, if_pos h4, if_pos h13, if_pos h19, if_pos h26, wN_nI (by omega), wN_nI (by omega), wN_nI (by omega), ← nI_0]
          exact mSh_loop hA hk hf hn _ 0 _ rfl (by decide) (fun c _ => rfl) (fun j hj => absurd hj (Nat.not_lt_zero j)) (fun s _ j _ => by rw [gm_In _ _ _ (by decide), gm_In _ _ _ (by decide), gm_In _ _ _ (by decide)])
        · refine go_al0 dX12_sheet_29 (go_ic5 dX12_sheet_30 (go_V1r mcX12_meets mvX12_meets kX12_163 rfl dX12_sheet_31 rfl rfl (sX12_meets _ _) ?_))
          refine go_iret dX12_sheet_34 ?_
          have hw := hA.fi 5
          exact ⟨by rw [sSheet_g, if_pos h4, if_pos h13, if_pos h19, if_neg h26]; decide, by rw [nSheet_g, if_pos h4, if_pos h13, if_pos h19, if_neg h26]; exact hw.1, hw.2⟩
      · refine go_bipush (v := -2) dX12_sheet_22 (by decide) ?_
        refine go_iret dX12_sheet_24 ?_
        exact ⟨by rw [sSheet_g, if_pos h4, if_pos h13, if_neg h19], by rw [nSheet_g, if_pos h4, if_pos h13, if_neg h19]; exact hA, FrR.rf μ⟩

theorem sLose_g (r : RS) (x : Int32) : sLose r x = (if gin x 0 3 = true then (if (rst r (wN x)).1 = true then -11 else nI (rst r (wN x)).2.2.1) else -2) ∧ nLose r x = if gin x 0 3 = true then (if (rst r (wN x)).1 = true then wF r 1 else wSF r (wN x) (true, (rst r (wN x)).2) (rfi r)) else r := by unfold sLose nLose; rw [gin_inS]; exact ⟨rfl, rfl⟩
theorem bnot_t {b : Bool} (h : (!b) = true) : b = false := by cases b; rfl; cases h
theorem bnot_f {b : Bool} (h : (!b) = false) : b = true := by cases b; cases h; rfl
set_option maxRecDepth 100000 in
set_option maxHeartbeats 400000 in
theorem m_lose {r : RS} {μ : gm_M} (hA : MA r μ) (x : Int32) : Sat yX12_lose cX12_lose 2 (some .int) 2 [(.ref 52), (.int x)] μ (fun r' μ' => r' = some (.int (sLose r x)) ∧ MA (nLose r x) μ' ∧ FrR 52 80 μ μ') := by
  refine Sat.of (L := [some (.ref 52), some (.int x)]) (by decide) (fun _ => rfl) (fun _ => rfl) ?_
  refine go_il1 dX12_lose_0 (go_S1r mcX12_isSheet mvX12_isSheet kX12_160 dX12_lose_1 rfl rfl (sX12_isSheet _ _) ?_)
  refine go_ifneB 10 dX12_lose_4 (by decide) (fun h4 => ?_) (fun h4 => ?_)
  · obtain ⟨k, hk3, rfl⟩ := gin_of (N := 3) (by decide) (by decide) h4
    have hk : k < 4 := by omega
    refine go_al0 dX12_lose_10 (go_getR (j := 76) fX12_79 rfl rfl dX12_lose_11 (go_il1 dX12_lose_14 (go_zald rfl (vp_in_nI hk (by decide)) dX12_lose_15 ?_)))
    rw [nI_clamp (show k < 2 ^ 31 by omega), (hA.2.2.2.2.1 k hk).1]
    refine go_ifneB 25 dX12_lose_16 (by decide) (fun h16 => ?_) (fun h16 => ?_)
    · refine go_al0 dX12_lose_25 (go_getR (j := 76) fX12_79 rfl rfl dX12_lose_26 (go_il1 dX12_lose_29 (go_ic0 dX12_lose_30 (go_zast rfl (vp_in_nI hk (by decide)) dX12_lose_31 ?_))))
      rw [nI_clamp (show k < 2 ^ 31 by omega), b01.2]
      refine go_al0 dX12_lose_32 (go_getR (j := 78) fX12_86 rfl rfl dX12_lose_33 (go_il1 dX12_lose_36 (go_iald rfl (vp_in_nI hk (by decide)) dX12_lose_37 ?_)))
      refine go_iret dX12_lose_38 ?_
      have hw := hA.sh (μ' := gm_I μ 76 k 0) hk (t := (true, (rst r k).2)) (hA.1.2.2.2.2.2.2.2 k hk) (fun c c1 _ _ _ _ => gm_In _ _ _ c1) (fun s => by rw [gm_I1, if_pos rfl]; rfl) (fun s => by rw [gm_In _ _ _ (by decide)]; by_cases z : s = k; rw [if_pos z, z]; exact (hA.2.2.2.2.1 k hk).2.1; rw [if_neg z]) (fun s => by rw [gm_In _ _ _ (by decide)]; by_cases z : s = k; rw [if_pos z, z]; exact (hA.2.2.2.2.1 k hk).2.2.1; rw [if_neg z]) (fun i hi => by rw [gm_In _ _ _ (by decide)]; exact (hA.2.2.2.2.1 k hk).2.2.2 i hi) (fun s _ i _ => by rw [gm_In _ _ _ (by decide)])
      refine ⟨?_, ?_, hw.2⟩
      · rw [(sLose_g r _).1, if_pos h4, wN_nI (by omega), if_neg (gf (bnot_t h16)), nI_clamp (show k < 2 ^ 31 by omega), gm_In _ _ _ (by decide), (hA.2.2.2.2.1 k hk).2.2.1]
      · rw [(sLose_g r _).2, if_pos h4, wN_nI (by omega), if_neg (gf (bnot_t h16))]; exact hw.1
    · refine go_al0 dX12_lose_19 (go_ic1 dX12_lose_20 (go_V1r mcX12_meets mvX12_meets kX12_163 rfl dX12_lose_21 rfl rfl (sX12_meets _ _) ?_))
      refine go_iret dX12_lose_24 ?_
      have hw := hA.fi 1
      exact ⟨by rw [(sLose_g r _).1, if_pos h4, wN_nI (by omega), if_pos (bnot_f h16)]; decide, by rw [(sLose_g r _).2, if_pos h4, wN_nI (by omega), if_pos (bnot_f h16)]; exact hw.1, hw.2⟩
  · refine go_bipush (v := -2) dX12_lose_7 (by decide) ?_
    refine go_iret dX12_lose_9 ?_
    exact ⟨by rw [(sLose_g r x).1, if_neg (gf h4)], by rw [(sLose_g r x).2, if_neg (gf h4)]; exact hA, FrR.rf μ⟩

theorem lack_in {z : Nat} (hz : z ≤ 60) (i : Int32) : (if i < 0 then (2 : Int32) else if i < nI z then 0 else 2) = if gin i 0 (nI z - 1) = true then 0 else 2 := by
  rw [← ite_gin]
  have e : (i < nI z) = (i ≤ nI z - 1) := propext (by
    rw [Int32.lt_iff_toInt_lt, Int32.le_iff_toInt_le, nI_toInt (by omega)]
    cases z with
    | zero =>
      have e : (nI 0 - 1).toInt = -1 := by decide
      rw [e]; omega
    | succ z => rw [nI_pred, nI_toInt (by omega)]; omega)
  simp only [e]
set_option maxRecDepth 100000 in
set_option maxHeartbeats 400000 in
theorem mLacks {r : RS} {μ : gm_M} {k : Nat} (hk : k < 4) (hS : ∀ s, s < 4 → μ.1 76 s = gb (!(rst r s).1) ∧ μ.1 77 s = nI (rst r s).2.1 ∧ μ.1 78 s = nI (rst r s).2.2.1 ∧ ∀ i, i < 60 → μ.1 79 (60 * s + i) = (rst r s).2.2.2 i) (hz : (rst r k).2.2.1 ≤ 60) (f i : Int32) : Ret yX12_lacks cX12_lacks 4 (some .int) 1 [(.ref 52), (.int (nI k)), (.int f), (.int i)] μ (some (.int (lackS (rst r k) f i))) μ := by
  refine Sat.of (L := [some (.ref 52), some (.int (nI k)), some (.int f), some (.int i)]) (by decide) (fun _ => rfl) (fun _ => rfl) ?_
  refine go_al0 dX12_lacks_0 (go_getR (j := 76) fX12_79 rfl rfl dX12_lacks_1 (go_il1 dX12_lacks_4 (go_zald rfl (vp_in_nI hk (by decide)) dX12_lacks_5 ?_)))
  rw [nI_clamp (show k < 2 ^ 31 by omega), (hS k hk).1]
  refine go_ifneB 13 dX12_lacks_6 (by decide) (fun h6 => ?_) (fun h6 => ?_)
  · refine go_al0 dX12_lacks_13 (go_getR (j := 77) fX12_83 rfl rfl dX12_lacks_14 (go_il1 dX12_lacks_17 (go_iald rfl (vp_in_nI hk (by decide)) dX12_lacks_18 ?_)))
    rw [nI_clamp (show k < 2 ^ 31 by omega), (hS k hk).2.1]
    refine go_il2 dX12_lacks_19 ?_
    refine go_ceq 27 dX12_lacks_20 (by decide) (fun h20 => ?_) (fun h20 => ?_)
    · refine go_il3 dX12_lacks_27 (go_ic0 dX12_lacks_28 (go_al0 dX12_lacks_29 (go_getR (j := 78) fX12_86 rfl rfl dX12_lacks_30 (go_il1 dX12_lacks_33 (go_iald rfl (vp_in_nI hk (by decide)) dX12_lacks_34 ?_)))))
      rw [nI_clamp (show k < 2 ^ 31 by omega), (hS k hk).2.2.1]
      refine go_ic1 dX12_lacks_35 (go_isub dX12_lacks_36 (go_S3r mcX12_in mvX12_in kX12_104 dX12_lacks_37 rfl rfl (sX12_in _ _ _ _) ?_))
      refine go_ifeqB 47 dX12_lacks_40 (by decide) (fun h40 => ?_) (fun h40 => ?_)
      · refine go_ic2 dX12_lacks_47 ?_
        refine go_iret dX12_lacks_48 ?_
        exact ⟨by rw [lackS, if_neg (gf (bnot_t h6)), if_pos h20, lack_in hz, if_neg (gf h40)], rfl⟩
      · refine go_ic0 dX12_lacks_43 (go_goto 48 dX12_lacks_44 (by decide) ?_)
        refine go_iret dX12_lacks_48 ?_
        exact ⟨by rw [lackS, if_neg (gf (bnot_t h6)), if_pos h20, lack_in hz, if_pos h40], rfl⟩
    · refine go_ic3 dX12_lacks_23 (go_goto 48 dX12_lacks_24 (by decide) ?_)
      refine go_iret dX12_lacks_48 ?_
      exact ⟨by rw [lackS, if_neg (gf (bnot_t h6)), if_neg h20], rfl⟩
  · refine go_ic1 dX12_lacks_9 (go_goto 48 dX12_lacks_10 (by decide) ?_)
    refine go_iret dX12_lacks_48 ?_
    exact ⟨by rw [lackS, if_pos (bnot_f h6)], rfl⟩

set_option maxRecDepth 100000 in
set_option maxHeartbeats 400000 in
theorem mKeep {μ : gm_M} {k i : Nat} {f : Int32} (hk : k < 4) (hi : i < 60) (h77 : μ.1 77 k = f) (v : Int32) : Ret yX12_keep cX12_keep 4 none 0 [(.ref 52), (.int (nI k)), (.int (nI i)), (.int v)] μ none (gm_I μ 79 (60 * k + i) (csnar f v)) := by
  refine Sat.of (L := [some (.ref 52), some (.int (nI k)), some (.int (nI i)), some (.int v)]) (by decide) (fun _ => rfl) (fun _ => rfl) ?_
  refine go_al0 dX12_keep_0 (go_getR (j := 79) fX12_89 rfl rfl dX12_keep_1 (go_bipush (v := 60) dX12_keep_4 (by decide) (go_il1 dX12_keep_6 (go_imul dX12_keep_7 (go_il2 dX12_keep_8 (go_iadd dX12_keep_9 (go_al0 dX12_keep_10 (go_getR (j := 77) fX12_83 rfl rfl dX12_keep_11 (go_il1 dX12_keep_14 (go_iald rfl (vp_in_nI hk (by decide)) dX12_keep_15 ?_))))))))))
  rw [nI_clamp (show k < 2 ^ 31 by omega), h77]
  refine go_ifne 24 dX12_keep_16 (by decide) (fun h16 => ?_) (fun h16 => ?_)
  · refine go_al0 dX12_keep_24 (go_getR (j := 77) fX12_83 rfl rfl dX12_keep_25 (go_il1 dX12_keep_28 (go_iald rfl (vp_in_nI hk (by decide)) dX12_keep_29 ?_)))
    rw [nI_clamp (show k < 2 ^ 31 by omega), h77]
    refine go_ic1 dX12_keep_30 ?_
    refine go_cne 39 dX12_keep_31 (by decide) (fun h31 => ?_) (fun h31 => ?_)
    · refine go_il3 dX12_keep_39 (go_iast rfl (by rw [show (60 : Int32) = nI 60 from rfl, pk_mul, nI_add]; exact vp_in_nI (show 60 * k + i < 240 by omega) (by decide)) dX12_keep_40 ?_)
      refine go_vret dX12_keep_41 ?_
      rw [show (60 : Int32) = nI 60 from rfl, pk_mul, nI_add, nI_clamp (by omega)]
      exact ⟨rfl, by rw [csnar, if_neg h16, if_neg h31]⟩
    · refine go_il3 dX12_keep_34 (go_i2s dX12_keep_35 (go_goto 40 dX12_keep_36 (by decide) (go_iast rfl (by rw [show (60 : Int32) = nI 60 from rfl, pk_mul, nI_add]; exact vp_in_nI (show 60 * k + i < 240 by omega) (by decide)) dX12_keep_40 ?_)))
      refine go_vret dX12_keep_41 ?_
      rw [show (60 : Int32) = nI 60 from rfl, pk_mul, nI_add, nI_clamp (by omega)]
      exact ⟨rfl, by rw [csnar, if_neg h16, if_pos h31]⟩
  · refine go_il3 dX12_keep_19 (go_i2b dX12_keep_20 (go_goto 40 dX12_keep_21 (by decide) (go_iast rfl (by rw [show (60 : Int32) = nI 60 from rfl, pk_mul, nI_add]; exact vp_in_nI (show 60 * k + i < 240 by omega) (by decide)) dX12_keep_40 ?_)))
    refine go_vret dX12_keep_41 ?_
    rw [show (60 : Int32) = nI 60 from rfl, pk_mul, nI_add, nI_clamp (by omega)]
    exact ⟨rfl, by rw [csnar, if_pos h16]⟩

theorem sPut_g (r : RS) (x f i v : Int32) : sPut r x f i = (if gin x 0 3 = true then (if gin f 0 2 = true then (if lackS (rst r (wN x)) f i = 0 then 1 else -10 - lackS (rst r (wN x)) f i) else -2) else -2) ∧ nPut r x f i v = (if gin x 0 3 = true then (if gin f 0 2 = true then (if lackS (rst r (wN x)) f i = 0 then wSF r (wN x) ((rst r (wN x)).1, (rst r (wN x)).2.1, (rst r (wN x)).2.2.1, fun j => if j = wN i then csnar (nI (rst r (wN x)).2.1) v else (rst r (wN x)).2.2.2 j) (rfi r) else wF r (lackS (rst r (wN x)) f i)) else r) else r) := by
  unfold sPut nPut; rw [gin_inS, gin_inF]; exact ⟨rfl, rfl⟩
theorem sGet_g (r : RS) (x f i : Int32) : sGet r x f i = (if gin x 0 3 = true then (if gin f 0 2 = true then (if lackS (rst r (wN x)) f i = 0 then (rst r (wN x)).2.2.2 (wN i) else -2147483648) else -2147483648) else -2147483648) ∧ nGet r x f i = (if gin x 0 3 = true then (if gin f 0 2 = true then (if lackS (rst r (wN x)) f i = 0 then r else wF r (lackS (rst r (wN x)) f i)) else r) else r) := by
  unfold sGet nGet; rw [gin_inS, gin_inF]; exact ⟨rfl, rfl⟩
theorem lackS_pos {t : SHT} {f i : Int32} : lackS t f i ≤ 0 ↔ lackS t f i = 0 := by
  unfold lackS
  repeat' split
  all_goals decide
theorem MA.keep {r : RS} {μ : gm_M} (h : MA r μ) {k i : Nat} (hk : k < 4) (hi : i < 60) (v : Int32) : MA (wSF r k ((rst r k).1, (rst r k).2.1, (rst r k).2.2.1, fun j => if j = i then v else (rst r k).2.2.2 j) (rfi r)) (gm_I μ 79 (60 * k + i) v) ∧ FrR 52 80 μ (gm_I μ 79 (60 * k + i) v) := by
  refine h.sh hk (t := ((rst r k).1, (rst r k).2.1, (rst r k).2.2.1, fun j => if j = i then v else (rst r k).2.2.2 j)) (h.1.2.2.2.2.2.2.2 k hk) (fun c _ _ _ c4 _ => gm_In _ _ _ c4) (fun s => ?_) (fun s => ?_) (fun s => ?_) (fun j hj => ?_) (fun s hs j hj => ?_)
  · rw [gm_In _ _ _ (by decide)]
    by_cases z : s = k
    · rw [if_pos z, z]; exact (h.2.2.2.2.1 k hk).1
    · rw [if_neg z]
  · rw [gm_In _ _ _ (by decide)]
    by_cases z : s = k
    · rw [if_pos z, z]; exact (h.2.2.2.2.1 k hk).2.1
    · rw [if_neg z]
  · rw [gm_In _ _ _ (by decide)]
    by_cases z : s = k
    · rw [if_pos z, z]; exact (h.2.2.2.2.1 k hk).2.2.1
    · rw [if_neg z]
  · rw [gm_I1, if_pos rfl]
    show _ = if j = i then v else (rst r k).2.2.2 j
    by_cases z : j = i
    · rw [if_pos (by omega), if_pos z]
    · rw [if_neg (by omega), if_neg z]; exact (h.2.2.2.2.1 k hk).2.2.2 j hj
  · rw [gm_I1, if_pos rfl, if_neg (by omega)]
set_option maxRecDepth 100000 in
set_option maxHeartbeats 400000 in
theorem m_put {r : RS} {μ : gm_M} (hA : MA r μ) (x f i v : Int32) : Sat yX12_put cX12_put 6 (some .int) 2 [(.ref 52), (.int x), (.int f), (.int i), (.int v)] μ (fun r' μ' => r' = some (.int (sPut r x f i)) ∧ MA (nPut r x f i v) μ' ∧ FrR 52 80 μ μ') := by
  refine Sat.of (L := [some (.ref 52), some (.int x), some (.int f), some (.int i), some (.int v), none]) (by decide) (fun _ => rfl) (fun _ => rfl) ?_
  refine go_il1 dX12_put_0 (go_S1r mcX12_isSheet mvX12_isSheet kX12_160 dX12_put_1 rfl rfl (sX12_isSheet _ _) ?_)
  refine go_ifeqB 16 dX12_put_4 (by decide) (fun h4 => ?_) (fun h4 => ?_)
  · refine go_bipush (v := -2) dX12_put_16 (by decide) ?_
    refine go_iret dX12_put_18 ?_
    exact ⟨by rw [(sPut_g r x f i v).1, if_neg (gf h4)], by rw [(sPut_g r x f i v).2, if_neg (gf h4)]; exact hA, FrR.rf μ⟩
  · refine go_il2 dX12_put_7 (go_ic0 dX12_put_8 (go_ic2 dX12_put_9 (go_S3r mcX12_in mvX12_in kX12_104 dX12_put_10 rfl rfl (sX12_in _ _ _ _) ?_)))
    refine go_ifneB 19 dX12_put_13 (by decide) (fun h13 => ?_) (fun h13 => ?_)
    · obtain ⟨k, hk3, rfl⟩ := gin_of (N := 3) (by decide) (by decide) h4
      have hk : k < 4 := by omega
      have hz := hA.1.2.2.2.2.2.2.2 k hk
      refine go_al0 dX12_put_19 (go_il1 dX12_put_20 (go_il2 dX12_put_21 (go_il3 dX12_put_22 (go_V3r mcX12_lacks mvX12_lacks kX12_274 rfl dX12_put_23 rfl rfl (mLacks hk hA.2.2.2.2.1 hz.2 f i) (go_is5 dX12_put_26 rfl rfl (go_il5 dX12_put_28 ?_))))))
      refine go_ifle 40 dX12_put_30 (by decide) (fun h30 => ?_) (fun h30 => ?_)
      · have e9 := lackS_pos.mp h30
        obtain ⟨_, j, hj, rfl⟩ := lackS_ok hz.2 e9
        refine go_al0 dX12_put_40 (go_il1 dX12_put_41 (go_il3 dX12_put_42 (go_il4 dX12_put_43 (go_V3v mcX12_keep mvX12_keep kX12_277 rfl dX12_put_45 rfl rfl (mKeep hk (show j < 60 by omega) (hA.2.2.2.2.1 k hk).2.1 v) (go_ic1 dX12_put_48 ?_)))))
        refine go_iret dX12_put_49 ?_
        have hw := hA.keep hk (show j < 60 by omega) (csnar (nI (rst r k).2.1) v)
        exact ⟨by rw [(sPut_g r _ f _ v).1, if_pos h4, if_pos h13, wN_nI (by omega), if_pos e9], by rw [(sPut_g r _ f _ v).2, if_pos h4, if_pos h13, wN_nI (by omega), if_pos e9, wN_nI (by omega)]; exact hw.1, hw.2⟩
      · refine go_al0 dX12_put_33 (go_il5 dX12_put_34 (go_V1r mcX12_meets mvX12_meets kX12_163 rfl dX12_put_36 rfl rfl (sX12_meets _ _) ?_))
        refine go_iret dX12_put_39 ?_
        have e9 : ¬ lackS (rst r k) f i = 0 := fun z => h30 (lackS_pos.mpr z)
        have hw := hA.fi (lackS (rst r k) f i)
        exact ⟨by rw [(sPut_g r _ f i v).1, if_pos h4, if_pos h13, wN_nI (by omega), if_neg e9], by rw [(sPut_g r _ f i v).2, if_pos h4, if_pos h13, wN_nI (by omega), if_neg e9]; exact hw.1, hw.2⟩
    · refine go_bipush (v := -2) dX12_put_16 (by decide) ?_
      refine go_iret dX12_put_18 ?_
      exact ⟨by rw [(sPut_g r x f i v).1, if_pos h4, if_neg (gf h13)], by rw [(sPut_g r x f i v).2, if_pos h4, if_neg (gf h13)]; exact hA, FrR.rf μ⟩

set_option maxRecDepth 100000 in
set_option maxHeartbeats 400000 in
theorem m_get {r : RS} {μ : gm_M} (hA : MA r μ) (x f i : Int32) : Sat yX12_get cX12_get 5 (some .int) 2 [(.ref 52), (.int x), (.int f), (.int i)] μ (fun r' μ' => r' = some (.int (sGet r x f i)) ∧ MA (nGet r x f i) μ' ∧ FrR 52 80 μ μ') := by
  refine Sat.of (L := [some (.ref 52), some (.int x), some (.int f), some (.int i), none]) (by decide) (fun _ => rfl) (fun _ => rfl) ?_
  refine go_il1 dX12_get_0 (go_S1r mcX12_isSheet mvX12_isSheet kX12_160 dX12_get_1 rfl rfl (sX12_isSheet _ _) ?_)
  refine go_ifeqB 16 dX12_get_4 (by decide) (fun h4 => ?_) (fun h4 => ?_)
  · refine go_ldcw dX12_get_16 nX12_281 ?_
    refine go_iret dX12_get_19 ?_
    exact ⟨by rw [(sGet_g r x f i).1, if_neg (gf h4)], by rw [(sGet_g r x f i).2, if_neg (gf h4)]; exact hA, FrR.rf μ⟩
  · refine go_il2 dX12_get_7 (go_ic0 dX12_get_8 (go_ic2 dX12_get_9 (go_S3r mcX12_in mvX12_in kX12_104 dX12_get_10 rfl rfl (sX12_in _ _ _ _) ?_)))
    refine go_ifneB 20 dX12_get_13 (by decide) (fun h13 => ?_) (fun h13 => ?_)
    · obtain ⟨k, hk3, rfl⟩ := gin_of (N := 3) (by decide) (by decide) h4
      have hk : k < 4 := by omega
      have hz := hA.1.2.2.2.2.2.2.2 k hk
      refine go_al0 dX12_get_20 (go_il1 dX12_get_21 (go_il2 dX12_get_22 (go_il3 dX12_get_23 (go_V3r mcX12_lacks mvX12_lacks kX12_274 rfl dX12_get_24 rfl rfl (mLacks hk hA.2.2.2.2.1 hz.2 f i) (go_is4 dX12_get_27 rfl rfl (go_il4 dX12_get_29 ?_))))))
      refine go_ifle 44 dX12_get_31 (by decide) (fun h31 => ?_) (fun h31 => ?_)
      · have e9 := lackS_pos.mp h31
        obtain ⟨_, j, hj, rfl⟩ := lackS_ok hz.2 e9
        refine go_al0 dX12_get_44 (go_getR (j := 79) fX12_89 rfl rfl dX12_get_45 (go_bipush (v := 60) dX12_get_48 (by decide) (go_il1 dX12_get_50 (go_imul dX12_get_51 (go_il3 dX12_get_52 (go_iadd dX12_get_53 ?_))))))
        rw [show (60 : Int32) = nI 60 from rfl, pk_mul, nI_add]
        refine go_iald rfl (vp_in_nI (show 60 * k + j < 240 by omega) (by decide)) dX12_get_54 ?_
        refine go_iret dX12_get_55 ?_
        rw [nI_clamp (show 60 * k + j < 2 ^ 31 by omega), (hA.2.2.2.2.1 k hk).2.2.2 j (by omega)]
        exact ⟨by rw [(sGet_g r _ f _).1, if_pos h4, if_pos h13, wN_nI (by omega), if_pos e9, wN_nI (by omega)], by rw [(sGet_g r _ f _).2, if_pos h4, if_pos h13, wN_nI (by omega), if_pos e9]; exact hA, FrR.rf μ⟩
      · refine go_al0 dX12_get_34 (go_il4 dX12_get_35 (go_putI fX12_271 rfl rfl dX12_get_37 (go_ldcw dX12_get_40 nX12_281 ?_)))
        refine go_iret dX12_get_43 ?_
        have e9 : ¬ lackS (rst r k) f i = 0 := fun z => h31 (lackS_pos.mpr z)
        have hw := hA.fi (lackS (rst r k) f i)
        exact ⟨by rw [(sGet_g r _ f i).1, if_pos h4, if_pos h13, wN_nI (by omega), if_neg e9], by rw [(sGet_g r _ f i).2, if_pos h4, if_pos h13, wN_nI (by omega), if_neg e9]; exact hw.1, hw.2⟩
    · refine go_ldcw dX12_get_16 nX12_281 ?_
      refine go_iret dX12_get_19 ?_
      exact ⟨by rw [(sGet_g r x f i).1, if_pos h4, if_neg (gf h13)], by rw [(sGet_g r x f i).2, if_pos h4, if_neg (gf h13)]; exact hA, FrR.rf μ⟩

