/-! ===== nI under and, xor, >>>, one bit, 65535 ===== -/
theorem nx_and (a b : Nat) : nI a &&& nI b = nI (a &&& b) := by
  apply Int32.toBitVec_inj.1
  show BitVec.ofNat 32 a &&& BitVec.ofNat 32 b = BitVec.ofNat 32 (a &&& b)
  apply BitVec.eq_of_getLsbD_eq
  intro i hi
  simp [hi]
theorem nx_xor (a b : Nat) : nI a ^^^ nI b = nI (a ^^^ b) := by
  apply Int32.toBitVec_inj.1
  show BitVec.ofNat 32 a ^^^ BitVec.ofNat 32 b = BitVec.ofNat 32 (a ^^^ b)
  apply BitVec.eq_of_getLsbD_eq
  intro i hi
  simp [hi]
/-! PLANS: the sale -/
theorem nI_pw : ∀ w, w < 31 → (1 : Int32) <<< (nI w &&& 31) = nI (2 ^ w) := by decide +kernel
/-- how many of the nights from j to 29 it is heard -/
def lastE (t : TR) (j : Nat) : Nat := tct t 30 - tct t j
theorem tct_mono (t : TR) {a b : Nat} (h : a ≤ b) : tct t a ≤ tct t b := by
  induction b with
  | zero => rw [Nat.le_zero.mp h]; exact Nat.le_refl _
  | succ b ih =>
    rcases Nat.lt_or_ge a (b + 1) with q | q
    · rw [tct]; have := ih (by omega); omega
    · rw [show a = b + 1 by omega]; exact Nat.le_refl _
theorem lastE_s (t : TR) {j : Nat} (hj : j < 30) : lastE t j = lastE t (j + 1) + (if (tm t j).isSome = true then 1 else 0) := by
  unfold lastE
  have h1 := tct_mono t (show j + 1 ≤ 30 by omega)
  have h2 : tct t (j + 1) = tct t j + (if (tm t j).isSome = true then 1 else 0) := rfl
  omega
theorem lastE_mono (t : TR) {a b : Nat} (h : a ≤ b) : lastE t b ≤ lastE t a := by
  unfold lastE
  have := tct_mono t h
  omega
theorem lastE_30 (t : TR) : lastE t 30 = 0 := by unfold lastE; omega
/-- what is paid for it on night n: only the last eight nights count -/
def priceN (t : TR) (n : Nat) : Nat := match tm t n with
  | none => 0
  | some m => if lastE t (n + 1) < 8 then m + 1 else 0
theorem priceN_le {t : TR} (h : tok t) (n : Nat) : priceN t n ≤ 6 := by
  unfold priceN
  cases ho : tm t n with
  | none => exact Nat.zero_le _
  | some m =>
    have := tm_lt ho
    have := h.2.2.2.1
    dsimp only
    split <;> omega
/-- behind night n and the first w wheels of it: the most for each set, out of the most b up to the night ahead -/
def slN (p : Nat → Nat) (b : Nat → Nat) : Nat → Nat → Nat
  | 0, s => b s
  | w + 1, s => if p w = 0 then slN p b w s else if s.testBit w = true then (if slN p b w s < b (s - 2 ^ w) + p w then b (s - 2 ^ w) + p w else slN p b w s) else slN p b w s
def tkN (p : Nat → Nat → Nat) (W : Nat) : Nat → Nat → Nat
  | 0, _ => 0
  | n + 1, s => slN (fun w => p w n) (tkN p W n) W s
theorem slN_le {p b : Nat → Nat} {B : Nat} (hp : ∀ w, p w ≤ 6) (hb : ∀ s, b s ≤ B) : ∀ w s, slN p b w s ≤ B + 6 := by
  intro w
  induction w with
  | zero => intro s; have := hb s; exact Nat.le_trans this (by omega)
  | succ w ih =>
    intro s
    have h1 := ih s
    have h2 := hb (s - 2 ^ w)
    have h3 := hp w
    rw [slN]
    repeat' split
    all_goals omega
theorem tkN_le {p : Nat → Nat → Nat} {W : Nat} (hp : ∀ w n, p w n ≤ 6) : ∀ n s, tkN p W n s ≤ 6 * n := by
  intro n
  induction n with
  | zero => intro s; exact Nat.le_refl 0
  | succ n ih =>
    intro s
    rw [tkN]
    exact Nat.le_trans (slN_le (fun w => hp w n) ih W s) (by omega)
def saleC (q : QS) : Nat := tkN (fun w n => priceN (trof q 9 w) n) (qnum q) 30 (2 ^ qnum q - 1)
theorem aMom {t : TR} {μ : gm_M} (hR : RO t 30 μ) {n : Nat} (hn : n < 30) : Ret yX9_momentOn cX9_momentOn 2 (some .int) 1 [.ref 25, .int (nI n)] μ (some (.int (oI (tm t n)))) μ := by
  rw [← (hR.1 n hn).2.1, ← gi_nI (f := μ.1 29) hn (by decide) (-1)]
  exact sX9_momentOn (nI n) μ
set_option maxRecDepth 100000 in
set_option maxHeartbeats 400000 in
theorem aX5_pl_loop {t : TR} {mr : gm_M} {w : Nat} (hw : w < 8) (hR : RO t 30 mr) (hz5 : tsz t ≤ 5) : ∀ (j : Nat) (d5 : Option Value) (m : gm_M), j = j → j ≤ 30 → FrR 35 35 mr m → lastE t j ≤ 8 → (∀ n, j ≤ n ∧ n < 30 → m.1 35 (30 * w + n) = nI (priceN t n)) → (∀ n, n < j → m.1 35 (30 * w + n) = 0) → (∀ k, (k < 30 * w ∨ 30 * w + 30 ≤ k) → m.1 35 k = mr.1 35 k) → Go yX5_priceLast cX5_priceLast 6 none 3 20 [some (.ref 34), some (.int (nI w)), some (.ref 25), some (.int (nI (8 - lastE t j))), some (.int (nI j + (-1))), d5] [] m (fun r μ' => r = none ∧ FrR 35 35 mr μ' ∧ (∀ n, n < 30 → μ'.1 35 (30 * w + n) = nI (priceN t n)) ∧ ∀ k, (k < 30 * w ∨ 30 * w + 30 ≤ k) → μ'.1 35 k = mr.1 35 k) := by
  intro j
  induction j using Nat.strongRecOn with
  | ind j ih =>
    intro d5 m hk hj hF hl8 h1 h2 h3
    refine go_il4 dX5_priceLast_20 ?_
    refine go_iflt 87 dX5_priceLast_22 (by decide) (fun h22 => ?_) (fun h22 => ?_)
    · refine go_vret dX5_priceLast_87 ?_
      have hz : j = 0 := by
        cases j with
        | zero => rfl
        | succ i => rw [pk_m1] at h22; exact absurd h22 (nI_pos (by omega))
      subst hz
      exact ⟨rfl, hF, fun n hn => h1 n (by omega), h3⟩
    · refine go_il3 dX5_priceLast_25 ?_
      refine go_ifle 87 dX5_priceLast_26 (by decide) (fun h26 => ?_) (fun h26 => ?_)
      · refine go_vret dX5_priceLast_87 ?_
        have hz : 8 ≤ lastE t j := by
          rcases Nat.lt_or_ge (lastE t j) 8 with z | z
          · exact absurd h26 (nI_nle (by omega) (by omega))
          · exact z
        refine ⟨rfl, hF, fun n hn => ?_, h3⟩
        rcases Nat.lt_or_ge n j with z | z
        · rw [h2 n z]
          have := lastE_mono t (show n + 1 ≤ j by omega)
          have hp : priceN t n = 0 := by
            unfold priceN
            cases tm t n with
            | none => rfl
            | some m0 => dsimp only; rw [if_neg (by omega)]
          rw [hp]; rfl
        · exact h1 n (by omega)
      · have hpos : 8 - lastE t j ≠ 0 := fun z => h26 (by rw [z]; decide)
        obtain ⟨i, rfl⟩ : ∃ i, j = i + 1 := by
          cases j with
          | zero => exact absurd (show nI 0 + (-1) < 0 from by decide) h22
          | succ i => exact ⟨i, rfl⟩
        rw [pk_m1]
        have eI : nI w * 30 + nI i = nI (30 * w + i) := by rw [show (30 : Int32) = nI 30 from by decide, pk_mul, nI_add, Nat.mul_comm]
        refine go_il1 dX5_priceLast_29 (go_bipush (v := 30) dX5_priceLast_30 (by decide) (go_imul dX5_priceLast_32 (go_il4 dX5_priceLast_33 (go_iadd dX5_priceLast_35 ?_))))
        rw [eI]
        refine go_is5 dX5_priceLast_36 rfl rfl (go_al2 dX5_priceLast_38 (go_il4 dX5_priceLast_39 (go_V1r mcX9_momentOn mvX9_momentOn kX5_139 rfl dX5_priceLast_41 rfl rfl (aMom (show RO t 30 m from ⟨by rw [hF 28 (by decide), hF 29 (by decide), hF 30 (by decide), hF 31 (by decide)]; exact hR.1, by rw [hF 25 (by decide)]; exact hR.2⟩) (n := i) (by omega)) (go_icm1 dX5_priceLast_44 ?_))))
        refine go_ceq 81 dX5_priceLast_45 (by decide) (fun h45 => ?_) (fun h45 => ?_)
        · refine go_inc4 (k := -1) dX5_priceLast_81 (by decide) rfl rfl (go_goto 20 dX5_priceLast_84 (by decide) ?_)
          have hmo : tm t i = none := (oI_m1 (fun k z => by have := tm_lt z; omega)).mp h45
          have hls := lastE_s t (show i < 30 by omega)
          rw [hmo] at hls
          have hls : lastE t i = lastE t (i + 1) := hls
          have hpr : priceN t i = 0 := by unfold priceN; rw [hmo]
          have e8 : nI (8 - lastE t (i + 1)) = nI (8 - lastE t i) := by rw [hls]
          rw [e8]
          refine ih i (by omega) _ _ rfl (by omega) hF (by omega) (fun n hn => ?_) (fun n hn => h2 n (by omega)) h3
          by_cases e : n = i
          · subst e; rw [hpr, h2 n (by omega)]; rfl
          · exact h1 n (by omega)
        · refine go_il5 dX5_priceLast_48 ?_
          refine go_iflt 81 dX5_priceLast_50 (by decide) (fun h50 => ?_) (fun h50 => ?_)
          · refine go_inc4 (k := -1) dX5_priceLast_81 (by decide) rfl rfl (go_goto 20 dX5_priceLast_84 (by decide) ?_)
            exact absurd h50 (nI_pos (by omega))
          · refine go_il5 dX5_priceLast_53 (go_al0 dX5_priceLast_55 (go_getR (j := 35) fX5_9 rfl rfl dX5_priceLast_56 (go_alenI rfl dX5_priceLast_59 ?_)))
            refine go_cge 81 dX5_priceLast_60 (by decide) (fun h60 => ?_) (fun h60 => ?_)
            · refine go_inc4 (k := -1) dX5_priceLast_81 (by decide) rfl rfl (go_goto 20 dX5_priceLast_84 (by decide) ?_)
              exact absurd h60 (nI_ge (by omega) (by decide))
            · refine go_al0 dX5_priceLast_63 (go_getR (j := 35) fX5_9 rfl rfl dX5_priceLast_64 (go_il5 dX5_priceLast_67 (go_al2 dX5_priceLast_69 (go_il4 dX5_priceLast_70 (go_V1r mcX9_momentOn mvX9_momentOn kX5_139 rfl dX5_priceLast_72 rfl rfl (aMom (show RO t 30 m from ⟨by rw [hF 28 (by decide), hF 29 (by decide), hF 30 (by decide), hF 31 (by decide)]; exact hR.1, by rw [hF 25 (by decide)]; exact hR.2⟩) (n := i) (by omega)) (go_ic1 dX5_priceLast_75 (go_iadd dX5_priceLast_76 (go_iast rfl (vp_in_nI (by omega) (by decide)) dX5_priceLast_77 (go_inc3 (k := -1) dX5_priceLast_78 (by decide) rfl rfl (go_inc4 (k := -1) dX5_priceLast_81 (by decide) rfl rfl (go_goto 20 dX5_priceLast_84 (by decide) ?_)))))))))))
              obtain ⟨mo, hmo⟩ : ∃ mo, tm t i = some mo := by
                cases ho : tm t i with
                | none => exact absurd (by rw [ho]; rfl) h45
                | some mo => exact ⟨mo, rfl⟩
              have hz := tm_lt hmo
              have hls := lastE_s t (show i < 30 by omega)
              rw [hmo] at hls
              have hpr : priceN t i = mo + 1 := by unfold priceN; rw [hmo]; dsimp only; rw [if_pos (by omega)]
              have e8 : nI (8 - lastE t (i + 1)) + (-1) = nI (8 - lastE t i) := by
                rw [show 8 - lastE t (i + 1) = (8 - lastE t i) + 1 by simp at hls; omega, pk_m1]
              rw [e8, nI_clamp (by omega)]
              refine ih i (by omega) _ _ rfl (by omega) (hF.I _ _ (by decide) (by decide)) (by simp at hls; omega) (fun n hn => ?_) (fun n hn => ?_) (fun k hk => ?_)
              · rw [gm_I1, if_pos rfl, hmo]
                show (if 30 * w + n = 30 * w + i then nI mo + 1 else m.1 35 (30 * w + n)) = _
                by_cases e : n = i
                · subst e; rw [if_pos rfl, hpr, nI_1]
                · rw [if_neg (by omega)]; exact h1 n (by omega)
              · rw [gm_Io _ _ _ (by omega)]; exact h2 n (by omega)
              · rw [gm_Io _ _ _ (by omega)]; exact h3 k hk
set_option maxRecDepth 100000 in
set_option maxHeartbeats 400000 in
theorem aX5_priceLast {q : QS} {μ : gm_M} {w : Nat} (hQ : CQ q μ) (hw : w < qnum q) (h0 : ∀ n, n < 30 → μ.1 35 (30 * w + n) = 0) : Sat yX5_priceLast cX5_priceLast 6 none 3 [(.ref 34), (.int (nI w))] μ (fun r μ' => r = none ∧ FrR 25 37 μ μ' ∧ (∀ n, n < 30 → μ'.1 35 (30 * w + n) = nI (priceN (trof q 9 w) n)) ∧ ∀ k, (k < 30 * w ∨ 30 * w + 30 ≤ k) → μ'.1 35 k = μ.1 35 k) := by
  refine Sat.of (L := [some (.ref 34), some (.int (nI w)), none, none, none, none]) (by decide) (fun _ => rfl) (fun _ => rfl) ?_
  refine go_al0 dX5_priceLast_0 (go_getR (j := 1) fX5_21 rfl rfl dX5_priceLast_1 (go_il1 dX5_priceLast_4 ?_))
  refine go_V1 mcX1_begin mvX1_begin kX5_25 rfl dX5_priceLast_5 rfl rfl (aBegin hQ hw) ?_
  rintro _ m5 ⟨rfl, hT5, hF5⟩
  refine go_as2 dX5_priceLast_8 rfl rfl (go_al2 dX5_priceLast_9 ?_)
  refine go_V0 mcX9_run mvX9_run kX5_136 rfl dX5_priceLast_10 rfl rfl (aRun hT5) ?_
  rintro _ m10 ⟨rfl, hT10, hR10, hE10, hF10⟩
  refine go_bipush (v := 8) dX5_priceLast_13 (by decide) (go_is3 dX5_priceLast_15 rfl rfl (go_bipush (v := 29) dX5_priceLast_16 (by decide) (go_is4 dX5_priceLast_18 rfl rfl ?_)))
  have hn8 := hQ.1.1
  have e35 : m10.1 35 = μ.1 35 := (hF10.1 35 (by decide)).trans (hF5.1 35 (by decide))
  have e := aX5_pl_loop (w := w) (mr := m10) (by omega) hR10 hT10.1.2.2.2.1 30 none m10 rfl (Nat.le_refl _) (FrR.rf _) (by rw [lastE_30]; omega) (fun n hn => by omega) (fun n hn => by rw [e35]; exact h0 n hn) (fun k _ => rfl)
  rw [lastE_30] at e
  refine Go.post ?_ e
  rintro r m ⟨g1, g2, g3, g4⟩
  refine ⟨g1, fun a ha => ?_, g3, fun k hk => by rw [g4 k hk, e35]⟩
  rw [g2 a (by omega), hF10.1 a (by omega), hF5.1 a (by omega)]

