/-! THE MODEL: copy, write, read, count -/
theorem i32_nn {x : Int32} (h : ¬ x < 0) : ∃ k, k < 2 ^ 31 ∧ x = nI k := by
  obtain ⟨k, hk, e⟩ := int_of (x := x) (B := 2147483647) (N := 2147483647) (by decide) (by decide) h (by
    rw [Int32.le_iff_toInt_le]
    have e1 : (2147483647 : Int32).toInt = 2147483647 := by decide
    have := Int32.toInt_lt x
    rw [e1]; omega)
  exact ⟨k, by omega, e⟩
theorem lgt_N {a b : Nat} (ha : a < 2 ^ 63) (hb : b < 2 ^ 63) : (0 < lg_cmp (lN a) (lN b) ↔ b < a) ∧ (lg_cmp (lN a) (lN b) ≤ 0 ↔ a ≤ b) := by
  have key : lg_cmp (lN a) (lN b) = if b < a then 1 else if a = b then 0 else -1 := by
    unfold lg_cmp
    have e1 : (lN a > lN b) = (b < a) := propext (by show lN b < lN a ↔ _; exact pk_lLT hb ha)
    have e2 : (lN a = lN b) = (a = b) := propext (pk_lEQ ha hb)
    simp only [e1, e2]
  rw [key]
  by_cases h1 : b < a
  · rw [if_pos h1]; exact ⟨⟨fun _ => h1, fun _ => by decide⟩, ⟨fun z => absurd z (by decide), fun z => by omega⟩⟩
  · rw [if_neg h1]
    by_cases h2 : a = b
    · rw [if_pos h2]; exact ⟨⟨fun z => absurd z (by decide), fun z => absurd z h1⟩, ⟨fun _ => by omega, fun _ => by decide⟩⟩
    · rw [if_neg h2]; exact ⟨⟨fun z => absurd z (by decide), fun z => absurd z h1⟩, ⟨fun _ => by omega, fun _ => by decide⟩⟩
theorem holdN_nI {z a b : Nat} (ha : a < 2 ^ 31) (hb : b < 2 ^ 31) : holdN z (nI a) (nI b) = decide (a + b ≤ z) := by
  unfold holdN
  rw [decide_eq_true (nI_pos ha), decide_eq_true (nI_pos hb), wN_nI ha, wN_nI hb]; rfl
theorem holdN_n1 {z : Nat} {i n : Int32} (h : i < 0) : holdN z i n = false := by unfold holdN; rw [decide_eq_false (not_not_intro h)]; rfl
theorem holdN_n2 {z : Nat} {i n : Int32} (h : n < 0) : holdN z i n = false := by unfold holdN; rw [decide_eq_false (show ¬ ¬ n < 0 from not_not_intro h)]; simp
def cpC (r : RS) (s i t j n : Int32) : Bool := holdN (rst r (wN s)).2.2.1 i n && holdN (rst r (wN t)).2.2.1 j n
theorem sCopy_g (r : RS) (s i t j n : Int32) : sCopy r s i t j n = (if gin s 0 3 = true then (if gin t 0 3 = true then (if (rst r (wN s)).1 = true then -11 else if (rst r (wN t)).1 = true then -11 else if (rst r (wN s)).2.1 = (rst r (wN t)).2.1 then (if cpC r s i t j n = true then 1 else -12) else -14) else -2) else -2) ∧ nCopy r s i t j n = (if gin s 0 3 = true then (if gin t 0 3 = true then (if (rst r (wN s)).1 = true then wF r 1 else if (rst r (wN t)).1 = true then wF r 1 else if (rst r (wN s)).2.1 = (rst r (wN t)).2.1 then (if cpC r s i t j n = true then wSF r (wN t) ((rst r (wN t)).1, (rst r (wN t)).2.1, (rst r (wN t)).2.2.1, cpS r (wN s) (wN i) (wN t) (wN j) (wN n)) (rfi r) else wF r 2) else wF r 4) else r) else r) := by
  unfold sCopy nCopy cpC
  rw [gin_inS, gin_inS]
  cases holdN (rst r (wN s)).2.2.1 i n <;> cases holdN (rst r (wN t)).2.2.1 j n <;> exact ⟨rfl, rfl⟩
set_option maxRecDepth 100000 in
set_option maxHeartbeats 400000 in
theorem mCp_2 {r : RS} {μ : gm_M} {S a T c b : Nat} (hA : MA r μ) (hS : S < 4) (hT : T < 4) (hab : a + b ≤ 60) (hcb : c + b ≤ 60) : ∀ (k_ k : Nat) (m : gm_M), b - k = k_ → k ≤ b → (∀ x, x ≠ 79 → x ≠ 80 → m.1 x = μ.1 x) → (∀ x, x < b → m.1 80 x = (rst r S).2.2.2 (a + x)) → (∀ y, y < 60 → m.1 79 (60 * T + y) = cpS r S a T c k y) → (∀ s, s ≠ T → ∀ y, y < 60 → m.1 79 (60 * s + y) = μ.1 79 (60 * s + y)) → Go yX12_copy cX12_copy 7 (some .int) 2 157 [some (.ref 52), some (.int (nI S)), some (.int (nI a)), some (.int (nI T)), some (.int (nI c)), some (.int (nI b)), some (.int (nI k))] [] m (fun r' μ' => r' = some (.int (1)) ∧ MA (wSF r T ((rst r T).1, (rst r T).2.1, (rst r T).2.2.1, cpS r S a T c b) (rfi r)) μ' ∧ FrR 52 80 μ μ') := by
  intro k_
  induction k_ using Nat.strongRecOn with
  | ind k_ ih =>
    intro k m  hk_ hj hF h80 hZ hO
    refine go_il6 dX12_copy_157 (go_il5 dX12_copy_159 ?_)
    refine go_cge 192 dX12_copy_161 (by decide) (fun h161 => ?_) (fun h161 => ?_)
    · have he : k = b := Nat.le_antisymm hj ((gm_bdN rfl (by omega) (by omega)).mp h161)
      refine go_ic1 dX12_copy_192 ?_
      refine go_iret dX12_copy_193 ?_
      subst he
      have hw := hA.sh (μ' := m) hT (t := ((rst r T).1, (rst r T).2.1, (rst r T).2.2.1, cpS r S a T c k)) (hA.1.2.2.2.2.2.2.2 T hT) (fun x _ _ _ x4 x5 => hF x x4 x5) (fun s => by rw [hF 76 (by decide) (by decide)]; by_cases z : s = T; rw [if_pos z, z]; exact (hA.2.2.2.2.1 T hT).1; rw [if_neg z]) (fun s => by rw [hF 77 (by decide) (by decide)]; by_cases z : s = T; rw [if_pos z, z]; exact (hA.2.2.2.2.1 T hT).2.1; rw [if_neg z]) (fun s => by rw [hF 78 (by decide) (by decide)]; by_cases z : s = T; rw [if_pos z, z]; exact (hA.2.2.2.2.1 T hT).2.2.1; rw [if_neg z]) hZ hO
      exact ⟨rfl, hw.1, hw.2⟩
    · have hlt : k < b := Nat.not_le.mp (fun zz => h161 ((gm_bdN rfl (by omega) (by omega)).mpr zz))
      refine go_al0 dX12_copy_164 (go_getR (j := 79) fX12_89 rfl rfl dX12_copy_165 (go_bipush (v := 60) dX12_copy_168 (by decide) (go_il3 dX12_copy_170 (go_imul dX12_copy_171 (go_il4 dX12_copy_172 (go_iadd dX12_copy_174 (go_il6 dX12_copy_175 (go_iadd dX12_copy_177 (go_al0 dX12_copy_178 (go_getR (j := 80) fX12_92 rfl rfl dX12_copy_179 (go_il6 dX12_copy_182 (go_iald rfl (vp_in_nI (show k < 60 by omega) (by decide)) dX12_copy_184 ?_))))))))))))
      rw [nI_clamp (show k < 2 ^ 31 by omega), h80 k hlt]
      refine go_iast rfl (by rw [show (60 : Int32) = nI 60 from rfl, pk_mul, nI_add, nI_add]; exact vp_in_nI (show 60 * T + c + k < 240 by omega) (by decide)) dX12_copy_185 ?_
      rw [show (60 : Int32) = nI 60 from rfl, pk_mul, nI_add, nI_add, nI_clamp (by omega)]
      refine go_inc6 (k := 1) dX12_copy_186 (by decide) rfl rfl (go_goto 157 dX12_copy_189 (by decide) ?_)
      rw [nI_1]
      refine ih (b - (k + 1)) (by omega) (k + 1) _ rfl (by omega) (fun x x1 x2 => by rw [gm_In _ _ _ x1]; exact hF x x1 x2) (fun x hx => by rw [gm_In _ _ _ (by decide)]; exact h80 x hx) (fun y hy => ?_) (fun s hs y hy => ?_)
      · rw [gm_I1, if_pos rfl]
        unfold cpS
        by_cases z : y = c + k
        · rw [if_pos (by omega), if_pos (by omega), show a + (y - c) = a + k by omega]
        · rw [if_neg (by omega), hZ y hy]
          unfold cpS
          by_cases z2 : c ≤ y ∧ y < c + k
          · rw [if_pos z2, if_pos (by omega)]
          · rw [if_neg z2, if_neg (by omega)]
      · rw [gm_I1, if_pos rfl, if_neg (by omega)]; exact hO s hs y hy

set_option maxRecDepth 100000 in
set_option maxHeartbeats 400000 in
theorem mCp_1 {r : RS} {μ : gm_M} {S a T c b : Nat} (hA : MA r μ) (hS : S < 4) (hT : T < 4) (hab : a + b ≤ 60) (hcb : c + b ≤ 60) : ∀ (k_ k : Nat) (m : gm_M), b - k = k_ → k ≤ b → (∀ x, x ≠ 80 → m.1 x = μ.1 x) → (∀ x, x < k → m.1 80 x = (rst r S).2.2.2 (a + x)) → Go yX12_copy cX12_copy 7 (some .int) 2 120 [some (.ref 52), some (.int (nI S)), some (.int (nI a)), some (.int (nI T)), some (.int (nI c)), some (.int (nI b)), some (.int (nI k))] [] m (fun r' μ' => r' = some (.int (1)) ∧ MA (wSF r T ((rst r T).1, (rst r T).2.1, (rst r T).2.2.1, cpS r S a T c b) (rfi r)) μ' ∧ FrR 52 80 μ μ') := by
  intro k_
  induction k_ using Nat.strongRecOn with
  | ind k_ ih =>
    intro k m  hk_ hj hF h80
    refine go_il6 dX12_copy_120 (go_il5 dX12_copy_122 ?_)
    refine go_cge 154 dX12_copy_124 (by decide) (fun h124 => ?_) (fun h124 => ?_)
    · have he : k = b := Nat.le_antisymm hj ((gm_bdN rfl (by omega) (by omega)).mp h124)
      refine go_ic0 dX12_copy_154 (go_is6 dX12_copy_155 rfl rfl ?_)
      subst he
      rw [← nI_0]
      refine mCp_2 hA hS hT hab hcb _ 0 m rfl (Nat.zero_le _) (fun x _ x2 => hF x x2) h80 (fun y hy => ?_) (fun s _ y _ => by rw [hF 79 (by decide)])
      rw [hF 79 (by decide), (hA.2.2.2.2.1 T hT).2.2.2 y hy]
      unfold cpS
      rw [if_neg (by omega)]
    · have hlt : k < b := Nat.not_le.mp (fun zz => h124 ((gm_bdN rfl (by omega) (by omega)).mpr zz))
      refine go_al0 dX12_copy_127 (go_getR (j := 80) fX12_92 rfl rfl dX12_copy_128 (go_il6 dX12_copy_131 (go_al0 dX12_copy_133 (go_getR (j := 79) fX12_89 rfl rfl dX12_copy_134 (go_bipush (v := 60) dX12_copy_137 (by decide) (go_il1 dX12_copy_139 (go_imul dX12_copy_140 (go_il2 dX12_copy_141 (go_iadd dX12_copy_142 (go_il6 dX12_copy_143 (go_iadd dX12_copy_145 (go_iald rfl (by rw [show (60 : Int32) = nI 60 from rfl, pk_mul, nI_add, nI_add]; exact vp_in_nI (show 60 * S + a + k < 240 by omega) (by decide)) dX12_copy_146 ?_))))))))))))
      rw [show (60 : Int32) = nI 60 from rfl, pk_mul, nI_add, nI_add, nI_clamp (by omega), hF 79 (by decide), show 60 * S + a + k = 60 * S + (a + k) by omega, (hA.2.2.2.2.1 S hS).2.2.2 (a + k) (by omega)]
      refine go_iast rfl (vp_in_nI (show k < 60 by omega) (by decide)) dX12_copy_147 ?_
      rw [nI_clamp (show k < 2 ^ 31 by omega)]
      refine go_inc6 (k := 1) dX12_copy_148 (by decide) rfl rfl (go_goto 120 dX12_copy_151 (by decide) ?_)
      rw [nI_1]
      refine ih (b - (k + 1)) (by omega) (k + 1) _ rfl (by omega) (fun x x1 => by rw [gm_In _ _ _ x1]; exact hF x x1) (fun x hx => ?_)
      rw [gm_I1, if_pos rfl]
      by_cases z : x = k
      · rw [if_pos z, z]
      · rw [if_neg z]; exact h80 x (by omega)

set_option maxRecDepth 100000 in
set_option maxHeartbeats 400000 in
theorem m_copy {r : RS} {μ : gm_M} (hA : MA r μ) (s i t j n : Int32) : Sat yX12_copy cX12_copy 7 (some .int) 2 [(.ref 52), (.int s), (.int i), (.int t), (.int j), (.int n)] μ (fun r' μ' => r' = some (.int (sCopy r s i t j n)) ∧ MA (nCopy r s i t j n) μ' ∧ FrR 52 80 μ μ') := by
  refine Sat.of (L := [some (.ref 52), some (.int s), some (.int i), some (.int t), some (.int j), some (.int n), none]) (by decide) (fun _ => rfl) (fun _ => rfl) ?_
  refine go_il1 dX12_copy_0 (go_S1r mcX12_isSheet mvX12_isSheet kX12_160 dX12_copy_1 rfl rfl (sX12_isSheet _ _) ?_)
  refine go_ifeqB 14 dX12_copy_4 (by decide) (fun h4 => ?_) (fun h4 => ?_)
  · refine go_bipush (v := -2) dX12_copy_14 (by decide) ?_
    refine go_iret dX12_copy_16 ?_
    exact ⟨by rw [(sCopy_g r s i t j n).1, if_neg (gf h4)], by rw [(sCopy_g r s i t j n).2, if_neg (gf h4)]; exact hA, FrR.rf μ⟩
  · refine go_il3 dX12_copy_7 (go_S1r mcX12_isSheet mvX12_isSheet kX12_160 dX12_copy_8 rfl rfl (sX12_isSheet _ _) ?_)
    refine go_ifneB 17 dX12_copy_11 (by decide) (fun h11 => ?_) (fun h11 => ?_)
    · obtain ⟨S, hS3, rfl⟩ := gin_of (N := 3) (by decide) (by decide) h4
      obtain ⟨T, hT3, rfl⟩ := gin_of (N := 3) (by decide) (by decide) h11
      have hS : S < 4 := by omega
      have hT : T < 4 := by omega
      have hzS := hA.1.2.2.2.2.2.2.2 S hS
      have hzT := hA.1.2.2.2.2.2.2.2 T hT
      refine go_al0 dX12_copy_17 (go_getR (j := 76) fX12_79 rfl rfl dX12_copy_18 (go_il1 dX12_copy_21 (go_zald rfl (vp_in_nI hS (by decide)) dX12_copy_22 ?_)))
      rw [nI_clamp (show S < 2 ^ 31 by omega), (hA.2.2.2.2.1 S hS).1]
      refine go_ifeqB 35 dX12_copy_23 (by decide) (fun h23 => ?_) (fun h23 => ?_)
      · refine go_al0 dX12_copy_35 (go_ic1 dX12_copy_36 (go_V1r mcX12_meets mvX12_meets kX12_163 rfl dX12_copy_37 rfl rfl (sX12_meets _ _) ?_))
        refine go_iret dX12_copy_40 ?_
        have hw := hA.fi 1
        exact ⟨by rw [(sCopy_g r (nI S) i (nI T) j n).1, if_pos h4, if_pos h11, wN_nI (show S < 2 ^ 31 by omega), if_pos (bnot_f h23)]; decide, by rw [(sCopy_g r (nI S) i (nI T) j n).2, if_pos h4, if_pos h11, wN_nI (show S < 2 ^ 31 by omega), if_pos (bnot_f h23)]; exact hw.1, hw.2⟩
      · refine go_al0 dX12_copy_26 (go_getR (j := 76) fX12_79 rfl rfl dX12_copy_27 (go_il3 dX12_copy_30 (go_zald rfl (vp_in_nI hT (by decide)) dX12_copy_31 ?_)))
        rw [nI_clamp (show T < 2 ^ 31 by omega), (hA.2.2.2.2.1 T hT).1]
        refine go_ifneB 41 dX12_copy_32 (by decide) (fun h32 => ?_) (fun h32 => ?_)
        · refine go_al0 dX12_copy_41 (go_getR (j := 77) fX12_83 rfl rfl dX12_copy_42 (go_il1 dX12_copy_45 (go_iald rfl (vp_in_nI hS (by decide)) dX12_copy_46 ?_)))
          rw [nI_clamp (show S < 2 ^ 31 by omega), (hA.2.2.2.2.1 S hS).2.1]
          refine go_al0 dX12_copy_47 (go_getR (j := 77) fX12_83 rfl rfl dX12_copy_48 (go_il3 dX12_copy_51 (go_iald rfl (vp_in_nI hT (by decide)) dX12_copy_52 ?_)))
          rw [nI_clamp (show T < 2 ^ 31 by omega), (hA.2.2.2.2.1 T hT).2.1]
          refine go_ceq 62 dX12_copy_53 (by decide) (fun h53 => ?_) (fun h53 => ?_)
          · refine go_il2 dX12_copy_62 ?_
            refine go_iflt 111 dX12_copy_63 (by decide) (fun h63 => ?_) (fun h63 => ?_)
            · refine go_al0 dX12_copy_111 (go_ic2 dX12_copy_112 (go_V1r mcX12_meets mvX12_meets kX12_163 rfl dX12_copy_113 rfl rfl (sX12_meets _ _) ?_))
              refine go_iret dX12_copy_116 ?_
              have e9 : (rst r S).2.1 = (rst r T).2.1 := (nI_eq (by have := hzS.1; omega) (by have := hzT.1; omega)).mp h53
              have e8 : cpC r (nI S) i (nI T) j n = false := by
                unfold cpC
                rw [holdN_n1 h63]; rfl
              have hw := hA.fi 2
              exact ⟨by rw [(sCopy_g r (nI S) i (nI T) j n).1, if_pos h4, if_pos h11, wN_nI (show S < 2 ^ 31 by omega), wN_nI (show T < 2 ^ 31 by omega), if_neg (gf (bnot_t h23)), if_neg (gf (bnot_t h32)), if_pos e9, if_neg (gf e8)]; decide, by rw [(sCopy_g r (nI S) i (nI T) j n).2, if_pos h4, if_pos h11, wN_nI (show S < 2 ^ 31 by omega), wN_nI (show T < 2 ^ 31 by omega), if_neg (gf (bnot_t h23)), if_neg (gf (bnot_t h32)), if_pos e9, if_neg (gf e8)]; exact hw.1, hw.2⟩
            · refine go_il4 dX12_copy_66 ?_
              refine go_iflt 111 dX12_copy_68 (by decide) (fun h68 => ?_) (fun h68 => ?_)
              · refine go_al0 dX12_copy_111 (go_ic2 dX12_copy_112 (go_V1r mcX12_meets mvX12_meets kX12_163 rfl dX12_copy_113 rfl rfl (sX12_meets _ _) ?_))
                refine go_iret dX12_copy_116 ?_
                have e9 : (rst r S).2.1 = (rst r T).2.1 := (nI_eq (by have := hzS.1; omega) (by have := hzT.1; omega)).mp h53
                have e8 : cpC r (nI S) i (nI T) j n = false := by
                  unfold cpC
                  rw [holdN_n1 (i := j) h68, Bool.and_false]
                have hw := hA.fi 2
                exact ⟨by rw [(sCopy_g r (nI S) i (nI T) j n).1, if_pos h4, if_pos h11, wN_nI (show S < 2 ^ 31 by omega), wN_nI (show T < 2 ^ 31 by omega), if_neg (gf (bnot_t h23)), if_neg (gf (bnot_t h32)), if_pos e9, if_neg (gf e8)]; decide, by rw [(sCopy_g r (nI S) i (nI T) j n).2, if_pos h4, if_pos h11, wN_nI (show S < 2 ^ 31 by omega), wN_nI (show T < 2 ^ 31 by omega), if_neg (gf (bnot_t h23)), if_neg (gf (bnot_t h32)), if_pos e9, if_neg (gf e8)]; exact hw.1, hw.2⟩
              · refine go_il5 dX12_copy_71 ?_
                refine go_iflt 111 dX12_copy_73 (by decide) (fun h73 => ?_) (fun h73 => ?_)
                · refine go_al0 dX12_copy_111 (go_ic2 dX12_copy_112 (go_V1r mcX12_meets mvX12_meets kX12_163 rfl dX12_copy_113 rfl rfl (sX12_meets _ _) ?_))
                  refine go_iret dX12_copy_116 ?_
                  have e9 : (rst r S).2.1 = (rst r T).2.1 := (nI_eq (by have := hzS.1; omega) (by have := hzT.1; omega)).mp h53
                  have e8 : cpC r (nI S) i (nI T) j n = false := by
                    unfold cpC
                    rw [holdN_n2 h73]; rfl
                  have hw := hA.fi 2
                  exact ⟨by rw [(sCopy_g r (nI S) i (nI T) j n).1, if_pos h4, if_pos h11, wN_nI (show S < 2 ^ 31 by omega), wN_nI (show T < 2 ^ 31 by omega), if_neg (gf (bnot_t h23)), if_neg (gf (bnot_t h32)), if_pos e9, if_neg (gf e8)]; decide, by rw [(sCopy_g r (nI S) i (nI T) j n).2, if_pos h4, if_pos h11, wN_nI (show S < 2 ^ 31 by omega), wN_nI (show T < 2 ^ 31 by omega), if_neg (gf (bnot_t h23)), if_neg (gf (bnot_t h32)), if_pos e9, if_neg (gf e8)]; exact hw.1, hw.2⟩
                · obtain ⟨a, ha, rfl⟩ := i32_nn h63
                  obtain ⟨c, hc, rfl⟩ := i32_nn h68
                  obtain ⟨b, hb, rfl⟩ := i32_nn h73
                  refine go_il2 dX12_copy_76 (go_i2l dX12_copy_77 (go_il5 dX12_copy_78 (go_i2l dX12_copy_80 (go_ladd dX12_copy_81 (go_al0 dX12_copy_82 (go_getR (j := 78) fX12_86 rfl rfl dX12_copy_83 (go_il1 dX12_copy_86 (go_iald rfl (vp_in_nI hS (by decide)) dX12_copy_87 ?_))))))))
                  rw [nI_clamp (show S < 2 ^ 31 by omega), (hA.2.2.2.2.1 S hS).2.2.1]
                  refine go_i2l dX12_copy_88 (go_lcmp dX12_copy_89 ?_)
                  rw [nI_l ha, nI_l hb, nI_l (by omega), lN_add]
                  refine go_ifgt 111 dX12_copy_90 (by decide) (fun h90 => ?_) (fun h90 => ?_)
                  · refine go_al0 dX12_copy_111 (go_ic2 dX12_copy_112 (go_V1r mcX12_meets mvX12_meets kX12_163 rfl dX12_copy_113 rfl rfl (sX12_meets _ _) ?_))
                    refine go_iret dX12_copy_116 ?_
                    have e9 : (rst r S).2.1 = (rst r T).2.1 := (nI_eq (by have := hzS.1; omega) (by have := hzT.1; omega)).mp h53
                    have h7 := (lgt_N (by omega) (by omega)).1.mp h90
                    have e8 : cpC r (nI S) (nI a) (nI T) (nI c) (nI b) = false := by
                      unfold cpC
                      rw [wN_nI (show S < 2 ^ 31 by omega), holdN_nI ha hb, decide_eq_false (by omega)]; rfl
                    have hw := hA.fi 2
                    exact ⟨by rw [(sCopy_g r (nI S) (nI a) (nI T) (nI c) (nI b)).1, if_pos h4, if_pos h11, wN_nI (show S < 2 ^ 31 by omega), wN_nI (show T < 2 ^ 31 by omega), if_neg (gf (bnot_t h23)), if_neg (gf (bnot_t h32)), if_pos e9, if_neg (gf e8)]; decide, by rw [(sCopy_g r (nI S) (nI a) (nI T) (nI c) (nI b)).2, if_pos h4, if_pos h11, wN_nI (show S < 2 ^ 31 by omega), wN_nI (show T < 2 ^ 31 by omega), if_neg (gf (bnot_t h23)), if_neg (gf (bnot_t h32)), if_pos e9, if_neg (gf e8)]; exact hw.1, hw.2⟩
                  · refine go_il4 dX12_copy_93 (go_i2l dX12_copy_95 (go_il5 dX12_copy_96 (go_i2l dX12_copy_98 (go_ladd dX12_copy_99 (go_al0 dX12_copy_100 (go_getR (j := 78) fX12_86 rfl rfl dX12_copy_101 (go_il3 dX12_copy_104 (go_iald rfl (vp_in_nI hT (by decide)) dX12_copy_105 ?_))))))))
                    rw [nI_clamp (show T < 2 ^ 31 by omega), (hA.2.2.2.2.1 T hT).2.2.1]
                    refine go_i2l dX12_copy_106 (go_lcmp dX12_copy_107 ?_)
                    rw [nI_l hc, nI_l hb, nI_l (by omega), lN_add]
                    refine go_ifle 117 dX12_copy_108 (by decide) (fun h108 => ?_) (fun h108 => ?_)
                    · refine go_ic0 dX12_copy_117 (go_is6 dX12_copy_118 rfl rfl ?_)
                      have e9 : (rst r S).2.1 = (rst r T).2.1 := (nI_eq (by have := hzS.1; omega) (by have := hzT.1; omega)).mp h53
                      have h6 : a + b ≤ (rst r S).2.2.1 := Nat.not_lt.mp (fun z => h90 ((lgt_N (by omega) (by omega)).1.mpr z))
                      have h7 := (lgt_N (by omega) (by omega)).2.mp h108
                      have e8 : cpC r (nI S) (nI a) (nI T) (nI c) (nI b) = true := by
                        unfold cpC
                        rw [wN_nI (show S < 2 ^ 31 by omega), wN_nI (show T < 2 ^ 31 by omega), holdN_nI ha hb, holdN_nI (a := c) hc hb, decide_eq_true h6, decide_eq_true h7]; rfl
                      rw [(sCopy_g r (nI S) (nI a) (nI T) (nI c) (nI b)).1, (sCopy_g r (nI S) (nI a) (nI T) (nI c) (nI b)).2, if_pos h4, if_pos h4, if_pos h11, if_pos h11, wN_nI (show S < 2 ^ 31 by omega), wN_nI (show T < 2 ^ 31 by omega), wN_nI ha, wN_nI hc, wN_nI hb, if_neg (gf (bnot_t h23)), if_neg (gf (bnot_t h32)), if_neg (gf (bnot_t h23)), if_neg (gf (bnot_t h32)), if_pos e9, if_pos e9, if_pos e8, if_pos e8, ← nI_0]
                      exact mCp_1 hA hS hT (by omega) (by omega) _ 0 μ rfl (Nat.zero_le _) (fun x _ => rfl) (fun x hx => absurd hx (Nat.not_lt_zero x))
                    · refine go_al0 dX12_copy_111 (go_ic2 dX12_copy_112 (go_V1r mcX12_meets mvX12_meets kX12_163 rfl dX12_copy_113 rfl rfl (sX12_meets _ _) ?_))
                      refine go_iret dX12_copy_116 ?_
                      have e9 : (rst r S).2.1 = (rst r T).2.1 := (nI_eq (by have := hzS.1; omega) (by have := hzT.1; omega)).mp h53
                      have h7 : ¬ c + b ≤ (rst r T).2.2.1 := fun z => h108 ((lgt_N (by omega) (by omega)).2.mpr z)
                      have e8 : cpC r (nI S) (nI a) (nI T) (nI c) (nI b) = false := by
                        unfold cpC
                        rw [wN_nI (show T < 2 ^ 31 by omega), holdN_nI (a := c) hc hb, decide_eq_false (by omega), Bool.and_false]
                      have hw := hA.fi 2
                      exact ⟨by rw [(sCopy_g r (nI S) (nI a) (nI T) (nI c) (nI b)).1, if_pos h4, if_pos h11, wN_nI (show S < 2 ^ 31 by omega), wN_nI (show T < 2 ^ 31 by omega), if_neg (gf (bnot_t h23)), if_neg (gf (bnot_t h32)), if_pos e9, if_neg (gf e8)]; decide, by rw [(sCopy_g r (nI S) (nI a) (nI T) (nI c) (nI b)).2, if_pos h4, if_pos h11, wN_nI (show S < 2 ^ 31 by omega), wN_nI (show T < 2 ^ 31 by omega), if_neg (gf (bnot_t h23)), if_neg (gf (bnot_t h32)), if_pos e9, if_neg (gf e8)]; exact hw.1, hw.2⟩
          · refine go_al0 dX12_copy_56 (go_ic4 dX12_copy_57 (go_V1r mcX12_meets mvX12_meets kX12_163 rfl dX12_copy_58 rfl rfl (sX12_meets _ _) ?_))
            refine go_iret dX12_copy_61 ?_
            have e9 : ¬ (rst r S).2.1 = (rst r T).2.1 := fun z => h53 (by rw [z])
            have hw := hA.fi 4
            exact ⟨by rw [(sCopy_g r (nI S) i (nI T) j n).1, if_pos h4, if_pos h11, wN_nI (show S < 2 ^ 31 by omega), wN_nI (show T < 2 ^ 31 by omega), if_neg (gf (bnot_t h23)), if_neg (gf (bnot_t h32)), if_neg e9]; decide, by rw [(sCopy_g r (nI S) i (nI T) j n).2, if_pos h4, if_pos h11, wN_nI (show S < 2 ^ 31 by omega), wN_nI (show T < 2 ^ 31 by omega), if_neg (gf (bnot_t h23)), if_neg (gf (bnot_t h32)), if_neg e9]; exact hw.1, hw.2⟩
        · refine go_al0 dX12_copy_35 (go_ic1 dX12_copy_36 (go_V1r mcX12_meets mvX12_meets kX12_163 rfl dX12_copy_37 rfl rfl (sX12_meets _ _) ?_))
          refine go_iret dX12_copy_40 ?_
          have hw := hA.fi 1
          exact ⟨by rw [(sCopy_g r (nI S) i (nI T) j n).1, if_pos h4, if_pos h11, wN_nI (show S < 2 ^ 31 by omega), wN_nI (show T < 2 ^ 31 by omega), if_neg (gf (bnot_t h23)), if_pos (bnot_f h32)]; decide, by rw [(sCopy_g r (nI S) i (nI T) j n).2, if_pos h4, if_pos h11, wN_nI (show S < 2 ^ 31 by omega), wN_nI (show T < 2 ^ 31 by omega), if_neg (gf (bnot_t h23)), if_pos (bnot_f h32)]; exact hw.1, hw.2⟩
    · refine go_bipush (v := -2) dX12_copy_14 (by decide) ?_
      refine go_iret dX12_copy_16 ?_
      exact ⟨by rw [(sCopy_g r s i t j n).1, if_pos h4, if_neg (gf h11)], by rw [(sCopy_g r s i t j n).2, if_pos h4, if_neg (gf h11)]; exact hA, FrR.rf μ⟩

theorem sWrite_g (r : RS) (w s : Int32) : sWrite r w s = (if inW (qof r) w = true then (if gin s 0 3 = true then (if (rst r (wN s)).1 = true then -11 else nI (min (rst r (wN s)).2.2.1 30)) else -2) else -2) ∧ nWrite r w s = (if inW (qof r) w = true then (if gin s 0 3 = true then (if (rst r (wN s)).1 = true then wF r 1 else wSF r (wN s) (wrT r (wN s) (trof (qof r) 9 (wN w)) (min (rst r (wN s)).2.2.1 30)) (rfi r)) else r) else r) := by
  unfold sWrite nWrite; rw [gin_inS]; exact ⟨rfl, rfl⟩
theorem rst_w (r : RS) (k : Nat) (t : SHT) (v : Int32) : rst (wSF r k t v) k = t := by show (if k = k then t else rst r k) = t; rw [if_pos rfl]
theorem wrT_s (r : RS) (k : Nat) (t : TR) (n : Nat) : ((rst r k).1, (rst r k).2.1, (rst r k).2.2.1, fun j => if j = n then csnar (nI (rst r k).2.1) (oI ((tm t n).map (tsn t))) else (wrT r k t n).2.2.2 j) = wrT r k t (n + 1) := by
  unfold wrT
  congr 3
  funext a
  by_cases z : a = n
  · rw [if_pos z, if_pos (by omega), z]
  · rw [if_neg z]
    show (if a < n then _ else _) = _
    by_cases y : a < n
    · rw [if_pos y, if_pos (by omega)]
    · rw [if_neg y, if_neg (by omega)]
set_option maxRecDepth 100000 in
set_option maxHeartbeats 400000 in
theorem mWr_loop {r : RS} {μ : gm_M} {k : Nat} {t : TR} {d1 : Option Value} (hk : k < 4) (hz : (rst r k).2.1 ≤ 2 ∧ (rst r k).2.2.1 ≤ 60) : ∀ (k_ n : Nat) (m : gm_M), 31 - n = k_ → n ≤ min (rst r k).2.2.1 30 → MA (wSF r k (wrT r k t n) (rfi r)) m → MO t 30 m → FrR 52 80 μ m → Go yX12_write cX12_write 4 (some .int) 8 40 [some (.ref 52), d1, some (.int (nI k)), some (.int (nI n))] [] m (fun r' μ' => r' = some (.int (nI (min (rst r k).2.2.1 30))) ∧ MA (wSF r k (wrT r k t (min (rst r k).2.2.1 30)) (rfi r)) μ' ∧ FrR 52 80 μ μ') := by
  intro k_
  induction k_ using Nat.strongRecOn with
  | ind k_ ih =>
    intro n m hk_ hn hM hO hF
    refine go_il3 dX12_write_40 (go_al0 dX12_write_41 (go_getR (j := 78) fX12_86 rfl rfl dX12_write_42 (go_il2 dX12_write_45 (go_iald rfl (vp_in_nI hk (by decide)) dX12_write_46 ?_))))
    rw [nI_clamp (show k < 2 ^ 31 by omega), (hM.2.2.2.2.1 k hk).2.2.1, rst_w, show (wrT r k t n).2.2.1 = (rst r k).2.2.1 from rfl]
    refine go_cge 74 dX12_write_47 (by decide) (fun h47 => ?_) (fun h47 => ?_)
    · refine go_il3 dX12_write_74 ?_
      refine go_iret dX12_write_75 ?_
      have h7 := h47
      rw [nI_leI (by omega) (by omega)] at h7
      have e9 : n = min (rst r k).2.2.1 30 := by omega
      subst e9
      exact ⟨rfl, hM, hF⟩
    · have hns : n < (rst r k).2.2.1 := by
        have h7 := h47
        rw [nI_leI (by omega) (by omega)] at h7
        omega
      refine go_il3 dX12_write_50 (go_bipush (v := 30) dX12_write_51 (by decide) ?_)
      refine go_cge 74 dX12_write_53 (by decide) (fun h53 => ?_) (fun h53 => ?_)
      · refine go_il3 dX12_write_74 ?_
        refine go_iret dX12_write_75 ?_
        have h7 := h53
        rw [show (30 : Int32) = nI 30 from rfl, nI_leI (by decide) (by omega)] at h7
        have e9 : n = min (rst r k).2.2.1 30 := by omega
        subst e9
        exact ⟨rfl, hM, hF⟩
      · have hn30 : n < 30 := by
          have h7 := h53
          rw [show (30 : Int32) = nI 30 from rfl, nI_leI (by decide) (by omega)] at h7
          omega
        refine go_al0 dX12_write_56 (go_il2 dX12_write_57 (go_il3 dX12_write_58 (go_al0 dX12_write_59 (go_getR (j := 66) fX12_49 rfl rfl dX12_write_60 (go_il3 dX12_write_63 (go_iald rfl (vp_in_nI hn30 (by decide)) dX12_write_64 ?_))))))
        rw [nI_clamp (show n < 2 ^ 31 by omega), (hO n hn30).2.1]
        refine go_V3v mcX12_keep mvX12_keep kX12_277 rfl dX12_write_65 rfl rfl (mKeep hk (show n < 60 by omega) (hM.2.2.2.2.1 k hk).2.1 _) ?_
        rw [rst_w, show (wrT r k t n).2.1 = (rst r k).2.1 from rfl]
        refine go_inc3 (k := 1) dX12_write_68 (by decide) rfl rfl (go_goto 40 dX12_write_71 (by decide) ?_)
        rw [nI_1]
        have hw := hM.keep hk (show n < 60 by omega) (csnar (nI (rst r k).2.1) (oI ((tm t n).map (tsn t))))
        rw [rst_w, wSF_wSF] at hw
        have hw1 := hw.1
        rw [show ((wrT r k t n).1, (wrT r k t n).2.1, (wrT r k t n).2.2.1, fun j => if j = n then csnar (nI (rst r k).2.1) (oI ((tm t n).map (tsn t))) else (wrT r k t n).2.2.2 j) = wrT r k t (n + 1) from wrT_s r k t n] at hw1
        exact ih (31 - (n + 1)) (by omega) (n + 1) _ rfl (by omega) hw1 (hO.cong (fun c c1 c2 => gm_In _ _ _ (by omega))) (hF.tr hw.2)
set_option maxRecDepth 100000 in
set_option maxHeartbeats 400000 in
theorem m_write {r : RS} {μ : gm_M} (hA : MA r μ) (w s : Int32) : Sat yX12_write cX12_write 4 (some .int) 8 [(.ref 52), (.int w), (.int s)] μ (fun r' μ' => r' = some (.int (sWrite r w s)) ∧ MA (nWrite r w s) μ' ∧ FrR 52 80 μ μ') := by
  refine Sat.of (L := [some (.ref 52), some (.int w), some (.int s), none]) (by decide) (fun _ => rfl) (fun _ => rfl) ?_
  refine go_al0 dX12_write_0 (go_il1 dX12_write_1 ?_)
  refine go_V1 mcX12_isWheel mvX12_isWheel kX12_142 rfl dX12_write_2 rfl rfl (mIsWheel hA _) ?_
  rintro _ m2 ⟨rfl, hR2⟩
  refine go_ifeqB 15 dX12_write_5 (by decide) (fun h5 => ?_) (fun h5 => ?_)
  · refine go_bipush (v := -2) dX12_write_15 (by decide) ?_
    refine go_iret dX12_write_17 ?_
    exact ⟨by rw [(sWrite_g r w s).1, if_neg (gf h5)], by rw [(sWrite_g r w s).2, if_neg (gf h5)]; exact hR2.ma hA, hR2.2.2.fm⟩
  · refine go_il2 dX12_write_8 (go_S1r mcX12_isSheet mvX12_isSheet kX12_160 dX12_write_9 rfl rfl (sX12_isSheet _ _) ?_)
    refine go_ifneB 18 dX12_write_12 (by decide) (fun h12 => ?_) (fun h12 => ?_)
    · obtain ⟨k, hk3, rfl⟩ := gin_of (N := 3) (by decide) (by decide) h12
      have hk : k < 4 := by omega
      have hz := hA.1.2.2.2.2.2.2.2 k hk
      have hAm := hR2.ma hA
      refine go_al0 dX12_write_18 (go_getR (j := 76) fX12_79 rfl rfl dX12_write_19 (go_il2 dX12_write_22 (go_zald rfl (vp_in_nI hk (by decide)) dX12_write_23 ?_)))
      rw [nI_clamp (show k < 2 ^ 31 by omega), (hAm.2.2.2.2.1 k hk).1]
      refine go_ifneB 33 dX12_write_24 (by decide) (fun h24 => ?_) (fun h24 => ?_)
      · obtain ⟨v, hv, rfl⟩ := inW_of (rok_q hA.1) h5
        have hv8 := hR2.1.1.1
        refine go_al0 dX12_write_33 (go_il1 dX12_write_34 ?_)
        refine go_V1 mcX12_runsTold mvX12_runsTold kX12_196 rfl dX12_write_35 rfl rfl (mRunsTold hAm hv) ?_
        rintro _ m35 ⟨rfl, hR35, hW35, hO35⟩
        refine go_ic0 dX12_write_38 (go_is3 dX12_write_39 rfl rfl ?_)
        rw [(sWrite_g r (nI v) (nI k)).1, (sWrite_g r (nI v) (nI k)).2, if_pos h5, if_pos h5, if_pos h12, if_pos h12, wN_nI (show k < 2 ^ 31 by omega), wN_nI (show v < 2 ^ 31 by omega), if_neg (gf (bnot_t h24)), if_neg (gf (bnot_t h24)), ← nI_0]
        exact mWr_loop hk hz _ 0 m35 rfl (Nat.zero_le _) (by rw [wrT_0, wSF_self]; exact hR35.ma hAm) hO35 (hR2.2.2.fm.tr hR35.2.2.fm)
      · refine go_al0 dX12_write_27 (go_ic1 dX12_write_28 (go_V1r mcX12_meets mvX12_meets kX12_163 rfl dX12_write_29 rfl rfl (sX12_meets _ _) ?_))
        refine go_iret dX12_write_32 ?_
        have hw := hAm.fi 1
        exact ⟨by rw [(sWrite_g r w _).1, if_pos h5, if_pos h12, wN_nI (by omega), if_pos (bnot_f h24)]; decide, by rw [(sWrite_g r w _).2, if_pos h5, if_pos h12, wN_nI (by omega), if_pos (bnot_f h24)]; exact hw.1, hR2.2.2.fm.tr hw.2⟩
    · refine go_bipush (v := -2) dX12_write_15 (by decide) ?_
      refine go_iret dX12_write_17 ?_
      exact ⟨by rw [(sWrite_g r w s).1, if_pos h5, if_neg (gf h12)], by rw [(sWrite_g r w s).2, if_pos h5, if_neg (gf h12)]; exact hR2.ma hA, hR2.2.2.fm⟩

theorem sRead_g (r : RS) (s : Int32) : sRead r s = (if gin s 0 3 = true then (if (rst r (wN s)).1 = true then -11 else nI (rdLp (rst r (wN s)) 30 0 r).2) else -2) ∧ nRead r s = (if gin s 0 3 = true then (if (rst r (wN s)).1 = true then wF r 1 else (rdLp (rst r (wN s)) 30 0 r).1) else r) := by
  unfold sRead nRead; rw [gin_inS]; exact ⟨rfl, rfl⟩
theorem sMark_le {N : Nat} {x y : Int32} (hN : N ≤ 8) : sMark13 N x y ≤ 0 ↔ sMark13 N x y < 0 := by
  rw [(sMark_g N x y).1]
  split
  · split
    · split
      · refine ⟨fun z => ?_, fun z => ?_⟩
        · rw [← nI_0, nI_leI (by omega) (by decide)] at z; omega
        · exact absurd z (nI_pos (by omega))
      · decide
    · decide
  · decide
set_option maxRecDepth 100000 in
set_option maxHeartbeats 400000 in
theorem mRd_loop {r : RS} {μ : gm_M} {k : Nat} (hk : k < 4) (hz : (rst r k).2.2.1 ≤ 60) : ∀ (k_ i : Nat) (r0 : RS) (m : gm_M), 30 - i = k_ → i ≤ 30 → MA r0 m → rst r0 = rst r → FrR 52 80 μ m → Go yX12_read cX12_read 3 (some .int) 3 27 [some (.ref 52), some (.int (nI k)), some (.int (nI i))] [] m (fun r' μ' => r' = some (.int (nI (rdLp (rst r k) k_ i r0).2)) ∧ MA ((rdLp (rst r k) k_ i r0).1) μ' ∧ FrR 52 80 μ μ') := by
  intro k_
  induction k_ using Nat.strongRecOn with
  | ind k_ ih =>
    intro i r0 m hk_ hi hM hst hF
    have h8 := hM.1.2.2.2.2.1.1
    refine go_ic2 dX12_read_27 (go_il2 dX12_read_28 (go_imul dX12_read_29 (go_ic1 dX12_read_30 (go_iadd dX12_read_31 (go_al0 dX12_read_32 (go_getR (j := 78) fX12_86 rfl rfl dX12_read_33 (go_il1 dX12_read_36 (go_iald rfl (vp_in_nI hk (by decide)) dX12_read_37 ?_))))))))
    rw [show (2 : Int32) = nI 2 from rfl, pk_mul, nI_1, nI_clamp (show k < 2 ^ 31 by omega), (hM.2.2.2.2.1 k hk).2.2.1, hst]
    refine go_cge 82 dX12_read_38 (by decide) (fun h38 => ?_) (fun h38 => ?_)
    · refine go_il2 dX12_read_82 ?_
      refine go_iret dX12_read_83 ?_
      have h7 : ¬ 2 * i + 1 < (rst r k).2.2.1 := by
        have h7 := h38
        rw [nI_leI (by omega) (by omega)] at h7
        omega
      have e9 : rdLp (rst r k) k_ i r0 = (r0, i) := by
        cases k_ with
        | zero => rfl
        | succ z => rw [rdLp, if_neg h7]
      exact ⟨by rw [e9], by rw [e9]; exact hM, hF⟩
    · have hlt : 2 * i + 1 < (rst r k).2.2.1 := by
        have h7 := h38
        rw [nI_leI (by omega) (by omega)] at h7
        omega
      refine go_al0 dX12_read_41 (go_al0 dX12_read_42 (go_getR (j := 79) fX12_89 rfl rfl dX12_read_43 (go_bipush (v := 60) dX12_read_46 (by decide) (go_il1 dX12_read_48 (go_imul dX12_read_49 (go_ic2 dX12_read_50 (go_il2 dX12_read_51 (go_imul dX12_read_52 (go_iadd dX12_read_53 ?_)))))))))
      rw [show (60 : Int32) = nI 60 from rfl, show (2 : Int32) = nI 2 from rfl, pk_mul, pk_mul, nI_add]
      refine go_iald rfl (vp_in_nI (show 60 * k + 2 * i < 240 by omega) (by decide)) dX12_read_54 ?_
      rw [nI_clamp (by omega), (hM.2.2.2.2.1 k hk).2.2.2 (2 * i) (by omega), hst]
      refine go_al0 dX12_read_55 (go_getR (j := 79) fX12_89 rfl rfl dX12_read_56 (go_bipush (v := 60) dX12_read_59 (by decide) (go_il1 dX12_read_61 (go_imul dX12_read_62 (go_ic2 dX12_read_63 (go_il2 dX12_read_64 (go_imul dX12_read_65 (go_iadd dX12_read_66 (go_ic1 dX12_read_67 (go_iadd dX12_read_68 ?_))))))))))
      rw [show (60 : Int32) = nI 60 from rfl, show (2 : Int32) = nI 2 from rfl, pk_mul, pk_mul, nI_add, nI_1]
      refine go_iald rfl (vp_in_nI (show 60 * k + 2 * i + 1 < 240 by omega) (by decide)) dX12_read_69 ?_
      rw [nI_clamp (by omega), show 60 * k + 2 * i + 1 = 60 * k + (2 * i + 1) by omega, (hM.2.2.2.2.1 k hk).2.2.2 (2 * i + 1) (by omega), hst]
      refine go_V2 mcX12_turning mvX12_turning kX12_166 rfl dX12_read_70 rfl rfl (m_turning hM _ _) ?_
      rintro _ m70 ⟨rfl, hM70, hF70⟩
      refine go_ifle 82 dX12_read_73 (by decide) (fun h73 => ?_) (fun h73 => ?_)
      · refine go_il2 dX12_read_82 ?_
        refine go_iret dX12_read_83 ?_
        obtain ⟨z, hz9⟩ : ∃ z, k_ = z + 1 := ⟨k_ - 1, by omega⟩
        have h6 := (sMark_le h8).mp h73
        have e9 : rdLp (rst r k) k_ i r0 = (r0, i) := by rw [hz9, rdLp, if_pos hlt, if_pos h6]
        have e8 : nTurn r0 ((rst r k).2.2.2 (2 * i)) ((rst r k).2.2.2 (2 * i + 1)) = r0 := by unfold nTurn; rw [if_neg (gf ((sMark13_neg h8).mp h6))]
        rw [e8] at hM70
        exact ⟨by rw [e9], by rw [e9]; exact hM70, hF.tr hF70⟩
      · refine go_inc2 (k := 1) dX12_read_76 (by decide) rfl rfl (go_goto 27 dX12_read_79 (by decide) ?_)
        obtain ⟨z, hz9⟩ : ∃ z, k_ = z + 1 := ⟨k_ - 1, by omega⟩
        have h6 : ¬ sMark13 (rtu r0).1 ((rst r k).2.2.2 (2 * i)) ((rst r k).2.2.2 (2 * i + 1)) < 0 := fun y => h73 ((sMark_le h8).mpr y)
        have e9 : rdLp (rst r k) k_ i r0 = rdLp (rst r k) z (i + 1) (nTurn r0 ((rst r k).2.2.2 (2 * i)) ((rst r k).2.2.2 (2 * i + 1))) := by rw [hz9, rdLp, if_pos hlt, if_neg h6]
        rw [nI_1, e9]
        exact ih z (by omega) (i + 1) _ m70 (by omega) (by omega) hM70 (by rw [rst_nTurn]; exact hst) (hF.tr hF70)
set_option maxRecDepth 100000 in
set_option maxHeartbeats 400000 in
theorem m_read {r : RS} {μ : gm_M} (hA : MA r μ) (s : Int32) : Sat yX12_read cX12_read 3 (some .int) 3 [(.ref 52), (.int s)] μ (fun r' μ' => r' = some (.int (sRead r s)) ∧ MA (nRead r s) μ' ∧ FrR 52 80 μ μ') := by
  refine Sat.of (L := [some (.ref 52), some (.int s), none]) (by decide) (fun _ => rfl) (fun _ => rfl) ?_
  refine go_il1 dX12_read_0 (go_S1r mcX12_isSheet mvX12_isSheet kX12_160 dX12_read_1 rfl rfl (sX12_isSheet _ _) ?_)
  refine go_ifneB 10 dX12_read_4 (by decide) (fun h4 => ?_) (fun h4 => ?_)
  · obtain ⟨k, hk3, rfl⟩ := gin_of (N := 3) (by decide) (by decide) h4
    have hk : k < 4 := by omega
    have hz := hA.1.2.2.2.2.2.2.2 k hk
    refine go_al0 dX12_read_10 (go_getR (j := 76) fX12_79 rfl rfl dX12_read_11 (go_il1 dX12_read_14 (go_zald rfl (vp_in_nI hk (by decide)) dX12_read_15 ?_)))
    rw [nI_clamp (show k < 2 ^ 31 by omega), (hA.2.2.2.2.1 k hk).1]
    refine go_ifneB 25 dX12_read_16 (by decide) (fun h16 => ?_) (fun h16 => ?_)
    · refine go_ic0 dX12_read_25 (go_is2 dX12_read_26 rfl rfl ?_)
      rw [(sRead_g r (nI k)).1, (sRead_g r (nI k)).2, if_pos h4, if_pos h4, wN_nI (show k < 2 ^ 31 by omega), if_neg (gf (bnot_t h16)), if_neg (gf (bnot_t h16)), ← nI_0]
      exact mRd_loop hk hz.2 _ 0 r μ rfl (by decide) hA rfl (FrR.rf μ)
    · refine go_al0 dX12_read_19 (go_ic1 dX12_read_20 (go_V1r mcX12_meets mvX12_meets kX12_163 rfl dX12_read_21 rfl rfl (sX12_meets _ _) ?_))
      refine go_iret dX12_read_24 ?_
      have hw := hA.fi 1
      exact ⟨by rw [(sRead_g r _).1, if_pos h4, wN_nI (by omega), if_pos (bnot_f h16)]; decide, by rw [(sRead_g r _).2, if_pos h4, wN_nI (by omega), if_pos (bnot_f h16)]; exact hw.1, hw.2⟩
  · refine go_bipush (v := -2) dX12_read_7 (by decide) ?_
    refine go_iret dX12_read_9 ?_
    exact ⟨by rw [(sRead_g r s).1, if_neg (gf h4)], by rw [(sRead_g r s).2, if_neg (gf h4)]; exact hA, FrR.rf μ⟩

theorem RDm {r : RS} {μ μ' : gm_M} (hA : MA r μ) (h : FX lQ fQ μ μ') : MA r μ' ∧ FX lQ fQ μ μ' := ⟨hA.fx h, h⟩
set_option maxRecDepth 100000 in
set_option maxHeartbeats 400000 in
theorem m_count {r : RS} {μ : gm_M} (hA : MA r μ) (x : Int32) : Sat yX12_count cX12_count 2 (some .int) 9 [(.ref 52), (.int x)] μ (fun r' μ' => r' = some (.int (sCount r x)) ∧ MA r μ' ∧ FX lQ fQ μ μ') := by
  refine Sat.of (L := [some (.ref 52), some (.int x)]) (by decide) (fun _ => rfl) (fun _ => rfl) ?_
  refine go_il1 dX12_count_0 ?_
  by_cases hb : x < 0 ∨ 8 < x
  · refine go_tsOut 87 dX12_count_1 (by rcases hb with hb | hb; exact Or.inl (by simpa using Int32.lt_iff_toInt_lt.mp hb); exact Or.inr (by simpa using Int32.lt_iff_toInt_lt.mp hb)) (by decide) ?_
    refine go_bipush (v := -2) dX12_count_87 (by decide) ?_
    refine go_iret dX12_count_89 ?_
    refine ⟨?_, RDm hA (FX.rf μ)⟩
    unfold sCount
    rcases hb with hb | hb
    · rw [if_pos hb]
    · split
      · rfl
      · rfl
  · obtain ⟨y, hy, rfl⟩ := int_of (x := x) (B := 8) (N := 8) (by decide) (by decide) (fun z => hb (Or.inl z)) (Int32.not_lt.mp (fun z => hb (Or.inr z)))
    match y, hy with
    | 0, _ =>
      refine go_tsIn (off := 51) 52 dX12_count_1 (by decide) (by decide) (by decide) (by decide) ?_
      refine go_al0 dX12_count_52 (go_il1 dX12_count_53 ?_)
      refine go_V1 mcX12_sumOf mvX12_sumOf kX12_285 rfl dX12_count_54 rfl rfl (mSumOf hA _) ?_
      rintro _ m54 ⟨rfl, hR54⟩
      refine go_iret dX12_count_57 ?_
      exact ⟨rfl, RDm hA hR54.2.2⟩
    | 1, _ =>
      refine go_tsIn (off := 51) 52 dX12_count_1 (by decide) (by decide) (by decide) (by decide) ?_
      refine go_al0 dX12_count_52 (go_il1 dX12_count_53 ?_)
      refine go_V1 mcX12_sumOf mvX12_sumOf kX12_285 rfl dX12_count_54 rfl rfl (mSumOf hA _) ?_
      rintro _ m54 ⟨rfl, hR54⟩
      refine go_iret dX12_count_57 ?_
      exact ⟨rfl, RDm hA hR54.2.2⟩
    | 2, _ =>
      refine go_tsIn (off := 57) 58 dX12_count_1 (by decide) (by decide) (by decide) (by decide) ?_
      refine go_al0 dX12_count_58 (go_getR (j := 53) fX12_7 rfl rfl dX12_count_59 (go_il1 dX12_count_62 (go_ic2 dX12_count_63 (go_isub dX12_count_64 (go_iald rfl (by rw [show nI 2 - 2 = nI 0 from by decide]; exact vp_in_nI (by decide) (by decide)) dX12_count_65 ?_)))))
      refine go_iret dX12_count_66 ?_
      rw [show (nI 2 - 2).toNatClampNeg = 0 from by decide, hA.2.1.1]
      exact ⟨rfl, RDm hA (FX.rf μ)⟩
    | 3, _ =>
      refine go_tsIn (off := 57) 58 dX12_count_1 (by decide) (by decide) (by decide) (by decide) ?_
      refine go_al0 dX12_count_58 (go_getR (j := 53) fX12_7 rfl rfl dX12_count_59 (go_il1 dX12_count_62 (go_ic2 dX12_count_63 (go_isub dX12_count_64 (go_iald rfl (by rw [show nI 3 - 2 = nI 1 from by decide]; exact vp_in_nI (by decide) (by decide)) dX12_count_65 ?_)))))
      refine go_iret dX12_count_66 ?_
      rw [show (nI 3 - 2).toNatClampNeg = 1 from by decide, hA.2.2.1.1]
      exact ⟨rfl, RDm hA (FX.rf μ)⟩
    | 4, _ =>
      refine go_tsIn (off := 66) 67 dX12_count_1 (by decide) (by decide) (by decide) (by decide) ?_
      refine go_al0 dX12_count_67 (go_getI fX12_154 rfl rfl dX12_count_68 ?_)
      refine go_iret dX12_count_71 ?_
      rw [hA.2.2.2.1.2.1.1]
      exact ⟨rfl, RDm hA (FX.rf μ)⟩
    | 5, _ =>
      refine go_tsIn (off := 71) 72 dX12_count_1 (by decide) (by decide) (by decide) (by decide) ?_
      refine go_al0 dX12_count_72 (go_getI fX12_157 rfl rfl dX12_count_73 ?_)
      refine go_iret dX12_count_76 ?_
      rw [hA.2.2.2.1.2.2.1.1]
      exact ⟨rfl, RDm hA (FX.rf μ)⟩
    | 6, _ =>
      refine go_tsIn (off := 51) 52 dX12_count_1 (by decide) (by decide) (by decide) (by decide) ?_
      refine go_al0 dX12_count_52 (go_il1 dX12_count_53 ?_)
      refine go_V1 mcX12_sumOf mvX12_sumOf kX12_285 rfl dX12_count_54 rfl rfl (mSumOf hA _) ?_
      rintro _ m54 ⟨rfl, hR54⟩
      refine go_iret dX12_count_57 ?_
      exact ⟨rfl, RDm hA hR54.2.2⟩
    | 7, _ =>
      refine go_tsIn (off := 76) 77 dX12_count_1 (by decide) (by decide) (by decide) (by decide) ?_
      refine go_al0 dX12_count_77 (go_getI fX12_237 rfl rfl dX12_count_78 ?_)
      refine go_iret dX12_count_81 ?_
      rw [hA.2.2.2.1.2.2.2.1]
      exact ⟨rfl, RDm hA (FX.rf μ)⟩
    | 8, _ =>
      refine go_tsIn (off := 81) 82 dX12_count_1 (by decide) (by decide) (by decide) (by decide) ?_
      refine go_al0 dX12_count_82 (go_getI fX12_271 rfl rfl dX12_count_83 ?_)
      refine go_iret dX12_count_86 ?_
      rw [hA.2.2.2.2.2]
      exact ⟨rfl, RDm hA (FX.rf μ)⟩

