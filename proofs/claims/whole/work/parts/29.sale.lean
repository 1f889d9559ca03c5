/-! PLANS: sell, bestSale -/
theorem and_pw : ∀ s, s < 256 → ∀ w, w < 8 → (s &&& 2 ^ w = 0 ↔ s.testBit w = false) := by decide +kernel
theorem xor_pw : ∀ s, s < 256 → ∀ w, w < 8 → s.testBit w = true → s ^^^ 2 ^ w = s - 2 ^ w := by decide +kernel
theorem tb_lt : ∀ s, s < 256 → ∀ w, w < 8 → s < 2 ^ w → s.testBit w = false := by decide +kernel
theorem pw_le : ∀ w, w ≤ 8 → 2 ^ w ≤ 256 := by decide
def slU (w p : Nat) (cur b : Nat → Nat) (s : Nat) : Nat := if p = 0 then cur s else if s.testBit w = true then (if cur s < b (s - 2 ^ w) + p then b (s - 2 ^ w) + p else cur s) else cur s
set_option maxRecDepth 100000 in
set_option maxHeartbeats 400000 in
theorem aX5_sell_loop {μ : gm_M} {w p W : Nat} {cur b : Nat → Nat} (hw : w < 8) (hW : W ≤ 8) (hp6 : p ≤ 6) (hcb : ∀ s, cur s < 2 ^ 20) (hbb : ∀ s, b s < 2 ^ 20) (hb : ∀ s, s < 2 ^ W → μ.1 37 s = nI (b s)) (hp : ¬ p = 0) : ∀ (k x : Nat) (m : gm_M), 2 ^ W - x = k → 2 ^ w ≤ x → x ≤ 2 ^ 9 → FrR 36 36 μ m → (∀ s, s < 2 ^ W → m.1 36 s = nI (if s < x then slU w p cur b s else cur s)) → Go yX5_sell cX5_sell 6 none 1 14 [some (.ref 34), some (.int (nI w)), some (.int (nI p)), some (.int (nI (2 ^ W))), some (.int ((1 : Int32) <<< (nI w &&& 31))), some (.int (nI x))] [] m (fun r μ' => r = none ∧ FrR 36 36 μ μ' ∧ ∀ s, s < 2 ^ W → μ'.1 36 s = nI (slU w p cur b s)) := by
  have hW2 := pw_le W hW
  have h2w : 0 < 2 ^ w := Nat.two_pow_pos w
  intro k
  induction k using Nat.strongRecOn with
  | ind k ih =>
    intro x m hk hx0 hx9 hF hc
    refine go_il5 dX5_sell_14 (go_il3 dX5_sell_16 ?_)
    refine go_cge 73 dX5_sell_17 (by decide) (fun h17 => ?_) (fun h17 => ?_)
    · refine go_vret dX5_sell_73 ?_
      have he : 2 ^ W ≤ x := (nI_leI (by omega) (by omega)).mp h17
      refine ⟨rfl, hF, fun s hs => ?_⟩
      rw [hc s hs, if_pos (by omega)]
    · have hlt : x < 2 ^ W := Nat.not_le.mp (fun z => h17 (nI_le z (by omega)))
      refine go_il5 dX5_sell_20 (go_al0 dX5_sell_22 (go_getR (j := 36) fX5_15 rfl rfl dX5_sell_23 (go_alenI rfl dX5_sell_26 ?_)))
      refine go_cge 73 dX5_sell_27 (by decide) (fun h27 => ?_) (fun h27 => ?_)
      · refine go_vret dX5_sell_73 ?_
        exact absurd h27 (nI_ge (by omega) (by decide))
      · refine go_il5 dX5_sell_30 (go_il4 dX5_sell_32 (go_iand dX5_sell_34 ?_))
        refine go_ifeq 67 dX5_sell_35 (by decide) (fun h35 => ?_) (fun h35 => ?_)
        · refine go_inc5 (k := 1) dX5_sell_67 (by decide) rfl rfl (go_goto 14 dX5_sell_70 (by decide) ?_)
          have hb0 : x.testBit w = false := by
            have := h35
            rw [nI_pw w (by omega), nx_and] at this
            exact (and_pw x (by omega) w hw).mp ((nI_eq (by have : x &&& 2 ^ w ≤ x := Nat.and_le_left; omega) (by decide)).mp (this.trans nI_0.symm))
          rw [nI_1]
          refine ih (2 ^ W - (x + 1)) (by omega) (x + 1) _ rfl (by omega) (by omega) hF (fun s hs => ?_)
          rw [hc s hs]
          by_cases e : s = x
          · subst e
            have e1 : slU w p cur b s = cur s := by unfold slU; rw [if_neg hp, if_neg (gf hb0)]
            rw [if_neg (show ¬ s < s by omega), if_pos (show s < s + 1 by omega), e1]
          · have e1 : (s < x + 1) = (s < x) := propext (by omega)
            simp only [e1]
        · have hb1 : x.testBit w = true := by
            cases hc1 : x.testBit w with
            | true => rfl
            | false =>
              exfalso
              apply h35
              rw [nI_pw w (by omega), nx_and, (and_pw x (by omega) w hw).mpr hc1]
              rfl
          have hxo : nI x ^^^ (1 : Int32) <<< (nI w &&& 31) = nI (x - 2 ^ w) := by rw [nI_pw w (by omega), nx_xor, xor_pw x (by omega) w hw hb1]
          refine go_al0 dX5_sell_38 (go_getR (j := 36) fX5_15 rfl rfl dX5_sell_39 (go_il5 dX5_sell_42 (go_al0 dX5_sell_44 (go_getR (j := 36) fX5_15 rfl rfl dX5_sell_45 (go_il5 dX5_sell_48 (go_iald rfl (vp_in_nI (show x < 256 by omega) (by decide)) dX5_sell_50 (go_al0 dX5_sell_51 (go_getR (j := 37) fX5_18 rfl rfl dX5_sell_52 (go_il5 dX5_sell_55 (go_il4 dX5_sell_57 (go_ixor dX5_sell_59 (go_iald rfl (by rw [hxo]; exact vp_in_nI (show x - 2 ^ w < 256 by omega) (by decide)) dX5_sell_60 (go_il2 dX5_sell_61 ?_)))))))))))))
          refine go_iadd dX5_sell_62 (go_max kX5_64 dX5_sell_63 rfl rfl (go_iast rfl (vp_in_nI (show x < 256 by omega) (by decide)) dX5_sell_66 (go_inc5 (k := 1) dX5_sell_67 (by decide) rfl rfl (go_goto 14 dX5_sell_70 (by decide) ?_))))
          have hb1 : x.testBit w = true := by
            cases hc1 : x.testBit w with
            | true => rfl
            | false =>
              exfalso
              apply h35
              rw [nI_pw w (by omega), nx_and, (and_pw x (by omega) w hw).mpr hc1]
              rfl
          have hxo : nI x ^^^ (1 : Int32) <<< (nI w &&& 31) = nI (x - 2 ^ w) := by rw [nI_pw w (by omega), nx_xor, xor_pw x (by omega) w hw hb1]
          have h37 : m.1 37 = μ.1 37 := hF 37 (by decide)
          have hcx := hc x (by omega)
          rw [if_neg (by omega)] at hcx
          have hv : (if m.1 36 x < m.1 37 (x - 2 ^ w) + nI p then m.1 37 (x - 2 ^ w) + nI p else m.1 36 x) = nI (slU w p cur b x) := by
            have b1 := hcb x
            have b2 := hbb (x - 2 ^ w)
            rw [h37, hcx, hb _ (by omega), nI_add]
            unfold slU
            rw [if_neg hp, if_pos hb1]
            by_cases z : cur x < b (x - 2 ^ w) + p
            · rw [if_pos z, if_pos ((nI_ltI (by omega) (by omega)).mpr z)]
            · rw [if_neg z, if_neg (fun y => z ((nI_ltI (by omega) (by omega)).mp y))]
          rw [nI_1, hxo, nI_clamp (by omega), nI_clamp (by omega), hv]
          refine ih (2 ^ W - (x + 1)) (by omega) (x + 1) _ rfl (by omega) (by omega) (hF.I _ _ (by decide) (by decide)) (fun s hs => ?_)
          rw [gm_I1, if_pos rfl]
          by_cases e : s = x
          · subst e
            rw [if_pos rfl, if_pos (by omega)]
          · rw [if_neg e, hc s hs]
            have e1 : (s < x + 1) = (s < x) := propext (by omega)
            simp only [e1]
set_option maxRecDepth 100000 in
set_option maxHeartbeats 400000 in
theorem aX5_sell {μ : gm_M} {w p W : Nat} {cur b : Nat → Nat} (hw : w < 8) (hW : W ≤ 8) (hp6 : p ≤ 6) (hcb : ∀ s, cur s < 2 ^ 20) (hbb : ∀ s, b s < 2 ^ 20) (hb : ∀ s, s < 2 ^ W → μ.1 37 s = nI (b s)) (hc : ∀ s, s < 2 ^ W → μ.1 36 s = nI (cur s)) : Sat yX5_sell cX5_sell 6 none 1 [(.ref 34), (.int (nI w)), (.int (nI p)), (.int (nI (2 ^ W)))] μ (fun r μ' => r = none ∧ FrR 36 36 μ μ' ∧ ∀ s, s < 2 ^ W → μ'.1 36 s = nI (slU w p cur b s)) := by
  refine Sat.of (L := [some (.ref 34), some (.int (nI w)), some (.int (nI p)), some (.int (nI (2 ^ W))), none, none]) (by decide) (fun _ => rfl) (fun _ => rfl) ?_
  refine go_il2 dX5_sell_0 ?_
  refine go_ifgt 5 dX5_sell_1 (by decide) (fun h1 => ?_) (fun h1 => ?_)
  · refine go_ic1 dX5_sell_5 (go_il1 dX5_sell_6 (go_ishl dX5_sell_7 (go_is4 dX5_sell_8 rfl rfl (go_il4 dX5_sell_10 (go_is5 dX5_sell_12 rfl rfl ?_)))))
    have hp : ¬ p = 0 := fun z => by rw [z] at h1; exact absurd h1 (by decide)
    have h256 := pw_le w (by omega)
    have hW2 := pw_le W hW
    have hloop := aX5_sell_loop hw hW hp6 hcb hbb hb hp _ (2 ^ w) μ rfl (Nat.le_refl _) (by omega) (FrR.rf μ) (fun s hs => ?_)
    · rw [← nI_pw w (by omega)] at hloop
      exact hloop
    · rw [hc s hs]
      by_cases z : s < 2 ^ w
      · rw [if_pos z, slU, if_neg hp, if_neg (gf (tb_lt s (by omega) w hw z))]
      · rw [if_neg z]
  · refine go_vret dX5_sell_4 ?_
    have hp : p = 0 := by
      rcases Nat.eq_zero_or_pos p with z | z
      · exact z
      · exact absurd (show (0 : Int32) < nI p from by rw [← nI_0]; exact nI_lt z (by omega)) h1
    refine ⟨rfl, FrR.rf μ, fun s hs => ?_⟩
    rw [hc s hs, slU, if_pos hp]

theorem aItemP {q : QS} {m : gm_M} {w n : Nat} (hw : w < 8) (hn : n < 30) (hp : m.1 35 (30 * w + n) = nI (priceN (trof q 9 w) n)) : Ret yX11_itemOr cX11_itemOr 3 (some .int) 0 [.ref 35, .int (nI w * 30 + nI n), .int 0] m (some (.int (nI (priceN (trof q 9 w) n)))) m := by
  have e : nI w * 30 + nI n = nI (30 * w + n) := by rw [show (30 : Int32) = nI 30 from by decide, pk_mul, nI_add, Nat.mul_comm]
  have := sX11_itemOr (c := 35) (n := 240) rfl (by decide) (nI w * 30 + nI n) 0 m
  rw [e, gi_nI (by omega) (by decide), hp] at this
  rw [e]
  exact this
theorem qprice_le {q : QS} (h : qok q) : ∀ w n, (fun w n => if w < qnum q then priceN (trof q 9 w) n else 0) w n ≤ 6 := by
  intro w n
  dsimp only
  split
  · exact priceN_le (trof_ok h (by assumption)) n
  · omega
set_option maxRecDepth 100000 in
set_option maxHeartbeats 400000 in
theorem aX5_sale_in {q : QS} {mr : gm_M} {n : Nat} {P9 : Nat → Nat → Nat} (hq : qok q) (hn : n < 30) (hp6 : ∀ w n, P9 w n ≤ 6) (hP9 : ∀ w, w < qnum q → P9 w = priceN (trof q 9 w)) (h35 : ∀ w, w < qnum q → ∀ n, n < 30 → mr.1 35 (30 * w + n) = nI (priceN (trof q 9 w) n)) (h37 : ∀ s, s < 2 ^ qnum q → mr.1 37 s = nI (tkN P9 (qnum q) n s)) {Post : Option Value → gm_M → Prop} (K : ∀ (d3 : Option Value) (m : gm_M), FrR 36 36 mr m → (∀ s, s < 2 ^ qnum q → m.1 36 s = nI (slN (fun w => P9 w n) (tkN P9 (qnum q) n) (qnum q) s)) → Go yX5_bestSale cX5_bestSale 4 (some .int) 4 109 [some (.ref 34), some (.int (nI (qnum q))), some (.int (nI n)), d3] [] m Post) : ∀ (k w : Nat) (m : gm_M), qnum q - w = k → w ≤ qnum q → FrR 36 36 mr m → (∀ s, s < 2 ^ qnum q → m.1 36 s = nI (slN (fun w => P9 w n) (tkN P9 (qnum q) n) w s)) → Go yX5_bestSale cX5_bestSale 4 (some .int) 4 76 [some (.ref 34), some (.int (nI (qnum q))), some (.int (nI n)), some (.int (nI w))] [] m Post := by
  have hn8 := hq.1
  intro k
  induction k using Nat.strongRecOn with
  | ind k ih =>
    intro w m hk hj hF hc
    refine go_il3 dX5_bestSale_76 (go_il1 dX5_bestSale_77 ?_)
    refine go_cge 109 dX5_bestSale_78 (by decide) (fun h78 => ?_) (fun h78 => ?_)
    · have he : w = qnum q := Nat.le_antisymm hj ((nI_leI (by omega) (by omega)).mp h78)
      subst he
      exact K _ _ hF hc
    · have hlt : w < qnum q := Nat.not_le.mp (fun z => h78 (nI_le z (by omega)))
      refine go_al0 dX5_bestSale_81 (go_il3 dX5_bestSale_82 (go_al0 dX5_bestSale_83 (go_getR (j := 35) fX5_9 rfl rfl dX5_bestSale_84 (go_il3 dX5_bestSale_87 (go_bipush (v := 30) dX5_bestSale_88 (by decide) (go_imul dX5_bestSale_90 (go_il2 dX5_bestSale_91 (go_iadd dX5_bestSale_92 (go_ic0 dX5_bestSale_93 (go_SN3r mcX11_itemOr mvX11_itemOr kX5_128 dX5_bestSale_94 rfl rfl (aItemP (by omega) hn (by rw [hF 35 (by decide)]; exact h35 w hlt n hn)) ?_))))))))))
      rw [show nI (priceN (trof q 9 w) n) = nI (P9 w n) from by rw [hP9 w hlt]]
      refine go_ic1 dX5_bestSale_97 (go_il1 dX5_bestSale_98 (go_ishl dX5_bestSale_99 ?_))
      rw [nI_pw _ (by omega)]
      refine go_V3 mcX5_sell mvX5_sell kX5_132 rfl dX5_bestSale_100 rfl rfl (aX5_sell (w := w) (W := qnum q) (b := tkN P9 (qnum q) n) (cur := slN (fun w => P9 w n) (tkN P9 (qnum q) n) w) (by omega) hn8 (hp6 w n) (fun s => by have := slN_le (p := fun w => P9 w n) (b := tkN P9 (qnum q) n) (fun w => hp6 w n) (tkN_le (W := qnum q) hp6 n) w s; omega) (fun s => by have := tkN_le (W := qnum q) hp6 n s; omega) (fun s hs => by rw [hF 37 (by decide)]; exact h37 s hs) hc) ?_
      rintro _ m100 ⟨rfl, hF100, hC100⟩
      refine go_inc3 (k := 1) dX5_bestSale_103 (by decide) rfl rfl (go_goto 76 dX5_bestSale_106 (by decide) ?_)
      rw [nI_1]
      refine ih (qnum q - (w + 1)) (by omega) (w + 1) _ rfl (by omega) (fun a ha => by rw [hF100 a (by omega)]; exact hF a ha) (fun s hs => ?_)
      rw [hC100 s hs]
      rfl
set_option maxRecDepth 100000 in
set_option maxHeartbeats 400000 in
theorem aX5_sale_nights {q : QS} {μ : gm_M} (hQ : CQ q μ) {P9 : Nat → Nat → Nat} (hp6 : ∀ w n, P9 w n ≤ 6) (hP9 : ∀ w, w < qnum q → P9 w = priceN (trof q 9 w)) (hsame : tkN P9 (qnum q) 30 (2 ^ qnum q - 1) = tkN (fun w n => priceN (trof q 9 w) n) (qnum q) 30 (2 ^ qnum q - 1)) : ∀ (k n : Nat) (d3 : Option Value) (m : gm_M), 30 - n = k → n ≤ 30 → FrR 25 37 μ m → (∀ w, w < qnum q → ∀ n, n < 30 → m.1 35 (30 * w + n) = nI (priceN (trof q 9 w) n)) → (∀ s, s < 2 ^ qnum q → m.1 36 s = nI (tkN P9 (qnum q) n s)) → Go yX5_bestSale cX5_bestSale 4 (some .int) 4 52 [some (.ref 34), some (.int (nI (qnum q))), some (.int (nI n)), d3] [] m (fun r μ' => r = some (.int (nI (saleC q))) ∧ FrR 25 37 μ μ') := by
  have hn8 := hQ.1.1
  intro k
  induction k using Nat.strongRecOn with
  | ind k ih =>
    intro n d3 m hk hj hF h35 h36
    refine go_il2 dX5_bestSale_52 (go_bipush (v := 30) dX5_bestSale_53 (by decide) ?_)
    refine go_cge 115 dX5_bestSale_55 (by decide) (fun h55 => ?_) (fun h55 => ?_)
    · refine go_al0 dX5_bestSale_115 (go_getR (j := 36) fX5_15 rfl rfl dX5_bestSale_116 (go_ic1 dX5_bestSale_119 (go_il1 dX5_bestSale_120 (go_ishl dX5_bestSale_121 (go_ic1 dX5_bestSale_122 ?_)))))
      have h256 := pw_le (qnum q) hn8
      have h2p : 0 < 2 ^ qnum q := Nat.two_pow_pos _
      rw [nI_pw _ (by omega)]
      refine go_isub dX5_bestSale_123 ?_
      rw [nI_lit1, pk_sub (by omega)]
      refine go_ic0 dX5_bestSale_124 (go_SN3r mcX11_itemOr mvX11_itemOr kX5_128 dX5_bestSale_125 rfl rfl (aItem (i := 2 ^ qnum q - 1) rfl (by decide) (by omega) (h36 _ (by omega))) ?_)
      refine go_iret dX5_bestSale_128 ?_
      have he : n = 30 := Nat.le_antisymm hj ((gm_bdN (by decide) (by decide) (by omega)).mp h55)
      subst he
      refine ⟨?_, hF⟩
      rw [saleC, hsame]
    · have hlt : n < 30 := Nat.not_le.mp (fun z => h55 ((gm_bdN (by decide) (by decide) (by omega)).mpr z))
      refine go_al0 dX5_bestSale_58 (go_getR (j := 36) fX5_15 rfl rfl dX5_bestSale_59 (go_ic0 dX5_bestSale_62 (go_al0 dX5_bestSale_63 (go_getR (j := 37) fX5_18 rfl rfl dX5_bestSale_64 (go_ic0 dX5_bestSale_67 (go_sipush (v := 256) dX5_bestSale_68 (by decide) (go_copyIn 0 0 256 (by decide) (by decide) (by decide) (by decide) (by decide) (by decide) (by decide) kX5_122 rfl rfl rfl rfl dX5_bestSale_71 (go_ic0 dX5_bestSale_74 (go_is3 dX5_bestSale_75 rfl rfl ?_)))))))))
      rw [← nI_0]
      refine aX5_sale_in (mr := gm_aI m 37 (va_cpy (m.1 36) (m.1 37) 0 0 256)) (P9 := P9) hQ.1 hlt hp6 hP9 (fun w hw n hn => h35 w hw n hn) (fun s hs => ?_) ?_ _ 0 _ rfl (Nat.zero_le _) (FrR.rf _) (fun s hs => ?_)
      · show va_cpy (m.1 36) (m.1 37) 0 0 256 s = _
        have := pw_le (qnum q) hn8
        rw [pk_cpy_in (by omega) (by omega), show 0 + (s - 0) = s by omega]
        exact h36 s hs
      · intro d3 m9 hF9 hc9
        refine go_inc2 (k := 1) dX5_bestSale_109 (by decide) rfl rfl (go_goto 52 dX5_bestSale_112 (by decide) ?_)
        rw [nI_1]
        refine ih (30 - (n + 1)) (by omega) (n + 1) _ _ rfl (by omega) (fun a ha => ?_) (fun w hw k hk => ?_) (fun s hs => by rw [hc9 s hs, tkN])
        · rw [hF9 a (by omega)]
          have : a ≠ 37 := by omega
          show (if a = 37 then _ else m.1 a) = _
          rw [if_neg this]
          exact hF a ha
        · rw [hF9 35 (by decide)]; exact h35 w hw k hk
      · exact h36 s hs
theorem slN_cong {p p' b b' : Nat → Nat} {W : Nat} (hp : ∀ w, w < W → p w = p' w) (hb : ∀ s, b s = b' s) : ∀ w, w ≤ W → ∀ s, slN p b w s = slN p' b' w s := by
  intro w
  induction w with
  | zero => intro _ s; exact hb s
  | succ w ih => intro hw s; rw [slN, slN, hp w (by omega), ih (by omega) s, hb]
theorem tkN_cong {p p' : Nat → Nat → Nat} {W : Nat} (hp : ∀ w, w < W → p w = p' w) : ∀ n s, tkN p W n s = tkN p' W n s := by
  intro n
  induction n with
  | zero => intro s; rfl
  | succ n ih => intro s; rw [tkN, tkN]; exact slN_cong (fun w hw => by rw [hp w hw]) ih W (Nat.le_refl W) s
set_option maxRecDepth 100000 in
set_option maxHeartbeats 400000 in
theorem aX5_sale_prices {q : QS} {μ : gm_M} (hQ : CQ q μ) : ∀ (k w : Nat) (d3 : Option Value) (m : gm_M), qnum q - w = k → w ≤ qnum q → FrR 25 37 μ m → (∀ v, v < w → ∀ n, n < 30 → m.1 35 (30 * v + n) = nI (priceN (trof q 9 v) n)) → (∀ v, w ≤ v → ∀ n, n < 30 → m.1 35 (30 * v + n) = 0 ∨ 8 ≤ v) → Go yX5_bestSale cX5_bestSale 4 (some .int) 4 26 [some (.ref 34), some (.int (nI (qnum q))), some (.int (nI w)), d3] [] m (fun r μ' => r = some (.int (nI (saleC q))) ∧ FrR 25 37 μ μ') := by
  have hn8 := hQ.1.1
  intro k
  induction k using Nat.strongRecOn with
  | ind k ih =>
    intro w d3 m hk hj hF h35 h0
    refine go_il2 dX5_bestSale_26 (go_il1 dX5_bestSale_27 ?_)
    refine go_cge 42 dX5_bestSale_28 (by decide) (fun h28 => ?_) (fun h28 => ?_)
    · have he : w = qnum q := Nat.le_antisymm hj ((nI_leI (by omega) (by omega)).mp h28)
      subst he
      refine go_al0 dX5_bestSale_42 (go_getR (j := 36) fX5_15 rfl rfl dX5_bestSale_43 (go_ic0 dX5_bestSale_46 (go_S2v mcJ7_fill_53178 mvJ7_fill_53178 kX5_112 dX5_bestSale_47 rfl rfl (sJ7_fillI rfl (by decide) _ _) (go_ic0 dX5_bestSale_50 (go_is2 dX5_bestSale_51 rfl rfl ?_)))))
      refine aX5_sale_nights hQ (P9 := fun w n => if w < qnum q then priceN (trof q 9 w) n else 0) (qprice_le hQ.1) (fun w hw => by funext n; rw [if_pos hw]) (tkN_cong (fun w hw => by funext n; rw [if_pos hw]) 30 _) _ 0 _ _ rfl (Nat.zero_le _) (fun a ha => ?_) (fun v hv n hn => ?_) (fun s hs => ?_)
      · have : a ≠ 36 := by omega
        show (if a = 36 then _ else m.1 a) = _
        rw [if_neg this]
        exact hF a ha
      · exact h35 v hv n hn
      · have := pw_le (qnum q) hn8
        show (if 36 = 36 then (fun j => if j < 256 then (0 : Int32) else m.1 36 j) else m.1 36) s = _
        rw [if_pos rfl, if_pos (by omega)]
        rfl
    · have hlt : w < qnum q := Nat.not_le.mp (fun z => h28 (nI_le z (by omega)))
      refine go_al0 dX5_bestSale_31 (go_il2 dX5_bestSale_32 ?_)
      refine go_V1 mcX5_priceLast mvX5_priceLast kX5_118 rfl dX5_bestSale_33 rfl rfl (aX5_priceLast (hQ.frR hF) hlt (fun n hn => (h0 w (Nat.le_refl _) n hn).resolve_right (by omega))) ?_
      rintro _ m33 ⟨rfl, hF33, hP33, hO33⟩
      refine go_inc2 (k := 1) dX5_bestSale_36 (by decide) rfl rfl (go_goto 26 dX5_bestSale_39 (by decide) ?_)
      rw [nI_1]
      refine ih (qnum q - (w + 1)) (by omega) (w + 1) _ _ rfl (by omega) (hF.tr hF33) (fun v hv n hn => ?_) (fun v hv n hn => ?_)
      · by_cases e : v = w
        · subst e; exact hP33 n hn
        · rw [hO33 _ (by omega)]; exact h35 v (by omega) n hn
      · rw [hO33 _ (by omega)]; exact h0 v (by omega) n hn
set_option maxRecDepth 100000 in
set_option maxHeartbeats 400000 in
theorem aX5_bestSale {q : QS} {μ : gm_M} (hQ : CQ q μ) : Sat yX5_bestSale cX5_bestSale 4 (some .int) 4 [(.ref 34)] μ (fun r μ' => r = some (.int (nI (saleC q))) ∧ FrR 25 37 μ μ') := by
  refine Sat.of (L := [some (.ref 34), none, none, none]) (by decide) (fun _ => rfl) (fun _ => rfl) ?_
  refine go_al0 dX5_bestSale_0 (go_getR (j := 1) fX5_21 rfl rfl dX5_bestSale_1 (go_getR (j := 6) fX5_100 rfl rfl dX5_bestSale_4 (go_getI fX5_104 rfl rfl dX5_bestSale_7 (go_bipush (v := 8) dX5_bestSale_10 (by decide) (go_min kX5_109 dX5_bestSale_12 rfl rfl ?_)))))
  have e4 : (if (8 : Int32) < μ.1 6 4 then 8 else μ.1 6 4) = nI (qnum q) := by
    have hn8 := hQ.1.1
    rw [hQ.2.1, if_neg]
    rw [show (8 : Int32) = nI 8 from by decide]
    exact nI_nlt hn8 (by decide)
  rw [e4]
  refine go_is1 dX5_bestSale_15 rfl rfl (go_al0 dX5_bestSale_16 (go_getR (j := 35) fX5_9 rfl rfl dX5_bestSale_17 (go_ic0 dX5_bestSale_20 (go_S2v mcJ7_fill_53178 mvJ7_fill_53178 kX5_112 dX5_bestSale_21 rfl rfl (sJ7_fillI rfl (by decide) _ _) (go_ic0 dX5_bestSale_24 (go_is2 dX5_bestSale_25 rfl rfl ?_))))))
  refine aX5_sale_prices hQ _ 0 _ _ rfl (Nat.zero_le _) (fun a ha => ?_) (fun v hv => by omega) (fun v _ n hn => ?_)
  · have : a ≠ 35 := by omega
    show (if a = 35 then _ else μ.1 a) = _
    rw [if_neg this]
  · rcases Nat.lt_or_ge v 8 with z | z
    · refine Or.inl ?_
      show (if 35 = 35 then (fun j => if j < 240 then (0 : Int32) else μ.1 35 j) else μ.1 35) (30 * v + n) = 0
      rw [if_pos rfl, if_pos (by omega)]
    · exact Or.inr z

