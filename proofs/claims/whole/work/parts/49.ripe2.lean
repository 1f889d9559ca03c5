/-! THE MODEL: ripe -/
abbrev sg (a : Nat) : Nat → Bool := fun n => decide (n = a)
abbrev pr (a b : Nat) : Nat → Bool := fun n => decide (n = a) || decide (n = b)
theorem ta_cong {t : TR} {G G' : Nat → Bool} {x : Nat} (h : ∀ n, tfr t ≤ n → n ≤ x → tgr (trt t G) n (twa t n) = tgr (trt t G') n (twa t n)) : ∀ n, n ≤ x + 1 → ta (trt t G) n = ta (trt t G') n := by
  intro n
  induction n with
  | zero => intro _; rfl
  | succ n ih =>
    intro hn
    have e := ih (by omega)
    show (if tfr t ≤ n ∧ (ta (trt t G) n).2 = false then ((ta (trt t G) n).1 + tgr (trt t G) n (twa t n), tea t ((ta (trt t G) n).1 + tgr (trt t G) n (twa t n))) else ta (trt t G) n) = (if tfr t ≤ n ∧ (ta (trt t G') n).2 = false then ((ta (trt t G') n).1 + tgr (trt t G') n (twa t n), tea t ((ta (trt t G') n).1 + tgr (trt t G') n (twa t n))) else ta (trt t G') n)
    rw [e]
    by_cases z : tfr t ≤ n
    · rw [h n z (by omega)]
    · rw [if_neg (fun y => z y.1), if_neg (fun y => z y.1)]
theorem tm_cong {t : TR} {G G' : Nat → Bool} {x : Nat} (h : ∀ n, tfr t ≤ n → n ≤ x → tgr (trt t G) n (twa t n) = tgr (trt t G') n (twa t n)) : tm (trt t G) x = tm (trt t G') x := by
  show (if tfr t ≤ x ∧ (ta (trt t G) x).2 = false then tmo t (ta (trt t G) (x + 1)).1 else none) = (if tfr t ≤ x ∧ (ta (trt t G') x).2 = false then tmo t (ta (trt t G') (x + 1)).1 else none)
  rw [ta_cong h x (by omega), ta_cong h (x + 1) (by omega)]
theorem rip_cong {t : TR} {g g' : Nat → Bool} {x : Nat} (h : ∀ n, tfr t ≤ n → n ≤ x → tgr (trt t (fun n => ttu t n || g n)) n (twa t n) = tgr (trt t (fun n => ttu t n || g' n)) n (twa t n)) : rip t x g = rip t x g' := by
  unfold rip; rw [tm_cong h]
theorem rip_far {t : TR} {g g' : Nat → Bool} {x : Nat} (h : ∀ n, tfr t - 1 ≤ n → n ≤ x → g n = g' n) : rip t x g = rip t x g' := by
  refine rip_cong (fun n h1 h2 => ?_)
  show (if tso t = 2 then twa t n + 1 else if tso t = 1 then (if (ttu t n || g n) = true then 0 else twa t n + twa t n / 2) else if (ttu t n || g n) = true ∨ (0 < n ∧ (ttu t (n - 1) || g (n - 1)) = true) then twa t n else twa t n / 2) + (if tkn t n = true then 2 else 0) = (if tso t = 2 then twa t n + 1 else if tso t = 1 then (if (ttu t n || g' n) = true then 0 else twa t n + twa t n / 2) else if (ttu t n || g' n) = true ∨ (0 < n ∧ (ttu t (n - 1) || g' (n - 1)) = true) then twa t n else twa t n / 2) + (if tkn t n = true then 2 else 0)
  rw [h n (by omega) h2]
  rcases Nat.eq_zero_or_pos n with z | z
  · subst z; simp
  · rw [h (n - 1) (by omega) (by omega)]
theorem rip_blue {t : TR} {g g' : Nat → Bool} {x : Nat} (h : tso t = 2) : rip t x g = rip t x g' := by
  refine rip_cong (fun n h1 h2 => ?_)
  show (if tso t = 2 then twa t n + 1 else _) + (if tkn t n = true then 2 else 0) = (if tso t = 2 then twa t n + 1 else _) + (if tkn t n = true then 2 else 0)
  rw [if_pos h, if_pos h]
theorem rip_none (t : TR) (x : Nat) : rip t x (fun _ => false) = decide (tm t x = some (tsz t - 1)) := by
  unfold rip
  have e : trt t (fun n => ttu t n || (fun _ => false) n) = t := by
    show (tso t, tfr t, tsz t, tti t, tsh t, tsn t, (fun n => ttu t n || false), tkn t, twa t) = _
    rw [show (fun n => ttu t n || false) = ttu t from by funext n; exact Bool.or_false _]
    rfl
  rw [e]
theorem ripA_0 {t : TR} {x : Nat} (h : rip t x (fun _ => false) = true) : ripA t x = (0, -1, -1) := by
  rw [rip_none, decide_eq_true_eq] at h
  unfold ripA; rw [if_pos h]
theorem rip_n0 {t : TR} {x : Nat} (h : rip t x (fun _ => false) = false) : ¬ tm t x = some (tsz t - 1) := by
  rw [rip_none, decide_eq_false_iff_not] at h; exact h
theorem rip_in {t : TR} {x a : Nat} (h0 : rip t x (fun _ => false) = false) (h1 : rip t x (sg a) = true) : ¬ tso t = 2 ∧ tfr t - 1 ≤ a ∧ a ≤ x := by
  refine ⟨fun z => ?_, ?_, ?_⟩
  · rw [rip_blue (g' := fun _ => false) z, h0] at h1; cases h1
  · rcases Nat.lt_or_ge a (tfr t - 1) with z | z
    · rw [rip_far (g' := fun _ => false) (fun n k1 k2 => decide_eq_false (by omega)), h0] at h1; cases h1
    · exact z
  · rcases Nat.lt_or_ge x a with z | z
    · rw [rip_far (g' := fun _ => false) (fun n k1 k2 => decide_eq_false (by omega)), h0] at h1; cases h1
    · exact z
theorem ripA_1 {t : TR} {x a : Nat} (h0 : rip t x (fun _ => false) = false) (hn : ∀ c, c < a → rip t x (sg c) = false) (h1 : rip t x (sg a) = true) : ripA t x = (1, nI a, -1) := by
  obtain ⟨i1, i2, i3⟩ := rip_in h0 h1
  have e : ripO t x = some a := by
    unfold ripO
    have := firstN_some (p := fun a => rip t x (fun n => decide (n = a))) (x + 1 - (tfr t - 1)) (tfr t - 1) (a - (tfr t - 1)) (by omega) (fun i hi => hn _ (by omega)) (by rw [show tfr t - 1 + (a - (tfr t - 1)) = a by omega]; exact h1)
    rw [this]; congr 1; omega
  unfold ripA
  rw [if_neg (rip_n0 h0), if_neg i1, e]
theorem pairN_some {p : Nat → Nat → Bool} {x a b : Nat} (hab : a < b) (hb : b ≤ x) (h1 : p a b = true) (h2 : ∀ c, a < c → c < b → p a c = false) : ∀ k a0, a0 ≤ a → a < a0 + k → (∀ c, a0 ≤ c → c < a → ∀ d, c < d → d ≤ x → p c d = false) → pairN p x k a0 = some (a, b) := by
  intro k
  induction k with
  | zero => intro a0 _ _ _; omega
  | succ k ih =>
    intro a0 i1 i2 i3
    rw [pairN]
    by_cases z : a0 = a
    · subst z
      have := firstN_some (p := p a0) (x - a0) (a0 + 1) (b - (a0 + 1)) (by omega) (fun i hi => h2 _ (by omega) (by omega)) (by rw [show a0 + 1 + (b - (a0 + 1)) = b by omega]; exact h1)
      rw [show a0 + 1 + (b - (a0 + 1)) = b by omega] at this
      rw [this]
    · have := firstN_no (p := p a0) (x - a0) (a0 + 1) (fun i hi => i3 a0 (Nat.le_refl _) (by omega) _ (by omega) (by omega))
      rw [this]
      exact ih (a0 + 1) (by omega) (by omega) (fun c c1 c2 => i3 c (by omega) c2)
theorem pairN_no {p : Nat → Nat → Bool} {x : Nat} : ∀ k a0, (∀ c, a0 ≤ c → ∀ d, c < d → d ≤ x → p c d = false) → pairN p x k a0 = none := by
  intro k
  induction k with
  | zero => intro a0 _; rfl
  | succ k ih =>
    intro a0 i3
    have := firstN_no (p := p a0) (x - a0) (a0 + 1) (fun i hi => i3 a0 (Nat.le_refl _) _ (by omega) (by omega))
    rw [pairN, this]
    exact ih (a0 + 1) (fun c c1 => i3 c (by omega))
theorem ripO_no {t : TR} {x : Nat} (hx : x < 30) (hs : ∀ c, c < 30 → rip t x (sg c) = false) : ripO t x = none := firstN_no _ _ (fun i hi => hs _ (by omega))
theorem rip_pr {t : TR} {x a b : Nat} (h0 : rip t x (fun _ => false) = false) (hs : ∀ c, c < 30 → rip t x (sg c) = false) (ha : a < 30) (hb : b < 30) (h1 : rip t x (pr a b) = true) : ¬ tso t = 2 ∧ tfr t - 1 ≤ a ∧ b ≤ x := by
  refine ⟨fun z => ?_, ?_, ?_⟩
  · rw [rip_blue (g' := fun _ => false) z, h0] at h1; cases h1
  · rcases Nat.lt_or_ge a (tfr t - 1) with z | z
    · rw [rip_far (g' := sg b) (fun n k1 k2 => by show (decide (n = a) || decide (n = b)) = decide (n = b); rw [decide_eq_false (show ¬ n = a by omega)]; rfl), hs b hb] at h1; cases h1
    · exact z
  · rcases Nat.lt_or_ge x b with z | z
    · rw [rip_far (g' := sg a) (fun n k1 k2 => by show (decide (n = a) || decide (n = b)) = decide (n = a); rw [decide_eq_false (show ¬ n = b by omega), Bool.or_false]), hs a ha] at h1; cases h1
    · exact z
theorem ripA_2 {t : TR} {x a b : Nat} (hx : x < 30) (h0 : rip t x (fun _ => false) = false) (hs : ∀ c, c < 30 → rip t x (sg c) = false) (hab : a < b) (hb : b < 30) (hn1 : ∀ c, a < c → c < b → rip t x (pr a c) = false) (hn2 : ∀ c, c < a → ∀ d, c < d → d < 30 → rip t x (pr c d) = false) (h1 : rip t x (pr a b) = true) : ripA t x = (2, nI a, nI b) := by
  obtain ⟨i1, i2, i3⟩ := rip_pr h0 hs (by omega) hb h1
  have e : ripT t x = some (a, b) := pairN_some hab i3 h1 hn1 _ _ i2 (by omega) (fun c _ c2 d d1 d2 => hn2 c c2 d d1 (by omega))
  unfold ripA
  rw [if_neg (rip_n0 h0), if_neg i1, ripO_no hx hs, e]
theorem ripA_n {t : TR} {x : Nat} (hx : x < 30) (h0 : rip t x (fun _ => false) = false) (hs : ∀ c, c < 30 → rip t x (sg c) = false) (hn2 : ∀ c d, c < d → d < 30 → rip t x (pr c d) = false) : ripA t x = (-1, -1, -1) := by
  have e : ripT t x = none := pairN_no _ _ (fun c _ d d1 d2 => hn2 c d d1 (by omega))
  unfold ripA
  rw [if_neg (rip_n0 h0), ripO_no hx hs, e]
  split <;> rfl
theorem tm_some_of {t : TR} (ht : tok t) {x : Nat} (h : ¬ oI ((tm t x).map (tsn t)) = -1) : tm t x = some ((ta t (x + 1)).1 / tti t) := by
  cases hc : tm t x with
  | none => exact absurd ((heard_none ht).mpr hc) h
  | some z =>
    have hc2 := hc
    unfold tm at hc2
    split at hc2
    · rw [(tmo_lt hc2).2]
    · cases hc2
def okRow (A : Int32 × Int32 × Int32) (m : gm_M) : Prop := A = (0, -1, -1) ∨ A = (-1, -1, -1) ∨ (A.1 = 1 ∧ m.1 69 0 = A.2.1 ∧ A.2.2 = -1) ∨ (A.1 = 2 ∧ m.1 69 0 = A.2.1 ∧ m.1 69 1 = A.2.2)
def rwA (A : Int32 × Int32 × Int32) (i : Int32) : Int32 := if i = -1 then A.1 else if i = 0 then A.2.1 else A.2.2
theorem sRipe_g (q : QS) (w n i : Int32) : sRipe q w n i = if inW q w = true then (if gin n 0 29 = true then (if gin i (-1) 1 = true then rwA (ripA (trof q 9 (wN w)) (wN n)) i else -2) else -2) else -2 := by
  unfold sRipe rwA; rw [ite_gin, gin_night]
theorem gin3 {i : Int32} (h : gin i (-1) 1 = true) : i = -1 ∨ i = 0 ∨ i = 1 := by
  obtain ⟨h1, h2⟩ := gin_iff.mp h
  rw [Int32.lt_iff_toInt_lt] at h1
  rw [Int32.le_iff_toInt_le] at h2
  have e1 : (-1 : Int32).toInt = -1 := by decide
  have e2 : (1 : Int32).toInt = 1 := by decide
  rw [e1] at h1
  rw [e2] at h2
  have h3 : i.toInt = -1 ∨ i.toInt = 0 ∨ i.toInt = 1 := by omega
  rcases h3 with z | z | z
  · exact Or.inl (Int32.toInt_inj.mp (by rw [z]; decide))
  · exact Or.inr (Or.inl (Int32.toInt_inj.mp (by rw [z]; decide)))
  · exact Or.inr (Or.inr (Int32.toInt_inj.mp (by rw [z]; decide)))
set_option maxRecDepth 100000 in
set_option maxHeartbeats 400000 in
theorem mIsRipe {q : QS} {μ : gm_M} {k x : Nat} {bits : Int32} {g : Nat → Bool} (hQ : XQ q μ) (hW : WN (qwa q) μ) (hk : k < qnum q) (hx : x < 30) (hg : ∀ n, n < 30 → bt bits n = g n) : Sat yX12_isRipe cX12_isRipe 4 (some .boolean) 3 [(.ref 52), (.int (nI k)), (.int (nI x)), (.int bits)] μ (fun r' μ' => r' = some (.int (gb (rip (trof q 9 k) x g))) ∧ FX lR fR μ μ') := by
  have h8 := hQ.1.1
  have hti1 := hQ.1.2.2.2.1.1
  have hti20 := hQ.1.2.2.2.1.2
  have hsz1 := (hQ.1.2.1 k hk).2.2.1
  have hsz5 := (hQ.1.2.1 k hk).2.2.2.1
  have hti0 : ¬ nI (qti q) = 0 := by rw [← nI_0]; intro z; rw [nI_eq (by omega) (by decide)] at z; omega
  refine Sat.of (L := [some (.ref 52), some (.int (nI k)), some (.int (nI x)), some (.int bits)]) (by decide) (fun _ => rfl) (fun _ => rfl) ?_
  refine go_al0 dX12_isRipe_0 (go_il1 dX12_isRipe_1 (go_ic0 dX12_isRipe_2 ?_))
  refine go_V2 mcX12_turns mvX12_turns kX12_182 rfl dX12_isRipe_3 rfl rfl (mTurns hQ (show k < 8 by omega) (no0 q hQ.1)) ?_
  rintro _ m3 ⟨rfl, hF3, hB3, hK3⟩
  have hF1 : FX lR fR μ m3 := hF3.er
  refine go_al0 dX12_isRipe_6 (go_dup dX12_isRipe_7 rfl (go_getI fX12_169 rfl rfl dX12_isRipe_8 (go_il3 dX12_isRipe_11 (go_ior dX12_isRipe_12 (go_putI fX12_169 rfl rfl dX12_isRipe_13 ?_)))))
  have hF2 : FX lR fR μ (gm_I m3 52 18 (m3.1 52 18 ||| bits)) := hF1.F _ (by decide)
  have hM := MT_of (wo := 9) (g := qwa q) (T := fun n => anyT q 9 k n (qtN q) || g n) (hQ.fr hF2) hk (hW.fr hF2) (fun n hn => by rw [gm_Is, b_or, hB3 n hn, hg n hn]) (fun n hn => by rw [gm_Io _ _ _ (by decide)]; exact hK3 n hn)
  refine go_al0 dX12_isRipe_16 (go_il1 dX12_isRipe_17 ?_)
  refine go_V1 mcX12_goes mvX12_goes kX12_186 rfl dX12_isRipe_18 rfl rfl (mGoes hM) ?_
  rintro _ m18 ⟨rfl, hF18, hO18⟩
  have hO : MO (trt (trof q 9 k) (fun n => ttu (trof q 9 k) n || g n)) 30 m18 := hO18
  have htok : tok (trt (trof q 9 k) (fun n => ttu (trof q 9 k) n || g n)) := trof_ok (wo := 9) hQ.1 hk
  have hle : (ta (trt (trof q 9 k) (fun n => ttu (trof q 9 k) n || g n)) (x + 1)).1 ≤ 16 * (x + 1) := ta_le htok (x + 1) (by omega)
  have hQe := (hQ.fr hF2).fr hF18.ef
  refine go_al0 dX12_isRipe_21 (go_getR (j := 66) fX12_49 rfl rfl dX12_isRipe_22 (go_il2 dX12_isRipe_25 (go_iald rfl (vp_in_nI hx (by decide)) dX12_isRipe_26 ?_)))
  rw [nI_clamp (show x < 2 ^ 31 by omega), (hO x hx).2.1]
  refine go_icm1 dX12_isRipe_27 ?_
  refine go_ceq 57 dX12_isRipe_28 (by decide) (fun h28 => ?_) (fun h28 => ?_)
  · refine go_ic0 dX12_isRipe_57 ?_
    refine go_zret dX12_isRipe_58 rfl ?_
    have e : rip (trof q 9 k) x g = false := by
      unfold rip
      rw [(heard_none htok).mp h28]
      rfl
    exact ⟨by rw [e]; rfl, hF2.tr hF18.ef⟩
  · refine go_al0 dX12_isRipe_31 (go_getR (j := 65) fX12_46 rfl rfl dX12_isRipe_32 (go_il2 dX12_isRipe_35 (go_iald rfl (vp_in_nI hx (by decide)) dX12_isRipe_36 ?_)))
    rw [nI_clamp (show x < 2 ^ 31 by omega), (hO x hx).1]
    refine go_al0 dX12_isRipe_37 (go_getI fX12_95 rfl rfl dX12_isRipe_38 ?_)
    rw [hQe.2.2.2.2.1.1]
    refine go_idiv dX12_isRipe_41 hti0 ?_
    rw [nI_div (by omega) (by omega) (by omega)]
    refine go_al0 dX12_isRipe_42 (go_getR (j := 57) fX12_22 rfl rfl dX12_isRipe_43 (go_il1 dX12_isRipe_46 (go_iald rfl (vp_in_nI (show k < 9 by omega) (by decide)) dX12_isRipe_47 ?_)))
    rw [nI_clamp (show k < 2 ^ 31 by omega), (hQe.2.2.1 k hk).2.2.1]
    refine go_ic1 dX12_isRipe_48 (go_isub dX12_isRipe_49 ?_)
    rw [show (1 : Int32) = nI 1 from rfl, pk_sub (by omega)]
    have hdv := Nat.div_le_self (ta (trt (trof q 9 k) (fun n => ttu (trof q 9 k) n || g n)) (x + 1)).1 (qti q)
    refine go_cne 57 dX12_isRipe_50 (by decide) (fun h50 => ?_) (fun h50 => ?_)
    · refine go_ic0 dX12_isRipe_57 ?_
      refine go_zret dX12_isRipe_58 rfl ?_
      have e : rip (trof q 9 k) x g = false := by
        unfold rip
        rw [tm_some_of htok h28]
        exact decide_eq_false (fun z => h50 (congrArg nI (Option.some.inj z)))
      exact ⟨by rw [e]; rfl, hF2.tr hF18.ef⟩
    · refine go_ic1 dX12_isRipe_53 (go_goto 58 dX12_isRipe_54 (by decide) ?_)
      refine go_zret dX12_isRipe_58 rfl ?_
      have e : rip (trof q 9 k) x g = true := by
        unfold rip
        rw [tm_some_of htok h28]
        have h7 := (nI_eq (a := (ta (trt (trof q 9 k) (fun n => ttu (trof q 9 k) n || g n)) (x + 1)).1 / qti q) (b := qsz q k - 1) (by omega) (by omega)).mp h50
        exact decide_eq_true (congrArg some h7)
      exact ⟨by rw [e]; rfl, hF2.tr hF18.ef⟩

set_option maxRecDepth 100000 in
set_option maxHeartbeats 400000 in
theorem mRp_in {r : RS} {μ : gm_M} {k x : Nat} (hk : k < qnum (qof r)) (hx : x < 30) (h0 : rip (trof (qof r) 9 k) x (fun _ => false) = false) (hs : ∀ c, c < 30 → rip (trof (qof r) 9 k) x (sg c) = false) {a : Nat} (ha : a < 30) (hn2 : ∀ c, c < a → ∀ d, c < d → d < 30 → rip (trof (qof r) 9 k) x (pr c d) = false) (K : ∀ (d4 : Option Value) (m : gm_M), RDp r μ m → WN (qwa (qof r)) m → (∀ c, c < (a + 1) → ∀ d, c < d → d < 30 → rip (trof (qof r) 9 k) x (pr c d) = false) → Go yX12_ripeBy cX12_ripeBy 5 (some .int) 7 53 [some (.ref 52), some (.int (nI k)), some (.int (nI x)), some (.int (nI (a + 1))), d4] [] m (fun r' μ' => r' = some (.int (ripA (trof (qof r) 9 k) x).1) ∧ RDp r μ μ' ∧ okRow (ripA (trof (qof r) 9 k) x) μ')) : ∀ (k_ b : Nat) (m : gm_M), 30 - b = k_ → b ≤ 30 → (a < b) → (RDp r μ m) → (WN (qwa (qof r)) m) → (∀ c, a < c → c < b → rip (trof (qof r) 9 k) x (pr a c) = false) → Go yX12_ripeBy cX12_ripeBy 5 (some .int) 7 64 [some (.ref 52), some (.int (nI k)), some (.int (nI x)), some (.int (nI a)), some (.int (nI b))] [] m (fun r' μ' => r' = some (.int (ripA (trof (qof r) 9 k) x).1) ∧ RDp r μ μ' ∧ okRow (ripA (trof (qof r) 9 k) x) μ') := by
  intro k_
  induction k_ using Nat.strongRecOn with
  | ind k_ ih =>
    intro b m  hk_ hj hab hR hW hn1
    refine go_il4 dX12_ripeBy_64 (go_bipush (v := 30) dX12_ripeBy_66 (by decide) ?_)
    refine go_cge 111 dX12_ripeBy_68 (by decide) (fun h68 => ?_) (fun h68 => ?_)
    · have he : b = 30 := Nat.le_antisymm hj ((gm_bdN (by decide) (by decide) (by omega)).mp h68)
      refine go_inc3 (k := 1) dX12_ripeBy_111 (by decide) rfl rfl (go_goto 53 dX12_ripeBy_114 (by decide) ?_)
      subst he
      rw [nI_1]
      refine K _ m hR hW (fun c hc d d1 d2 => ?_)
      rcases Nat.lt_or_ge c a with z | z
      · exact hn2 c z d d1 d2
      · have e : c = a := by omega
        rw [e] at d1 ⊢
        exact hn1 d d1 d2
    · have hlt : b < 30 := Nat.not_le.mp (fun zz => h68 ((gm_bdN (by decide) (by decide) (by omega)).mpr zz))
      refine go_al0 dX12_ripeBy_71 (go_getR (j := 69) fX12_58 rfl rfl dX12_ripeBy_72 (go_ic0 dX12_ripeBy_75 (go_il3 dX12_ripeBy_76 (go_iast rfl (vp_in_nI (n := 0) (by decide) (by decide)) dX12_ripeBy_77 ?_))))
      rw [show (0 : Int32).toNatClampNeg = 0 from rfl]
      refine go_al0 dX12_ripeBy_78 (go_getR (j := 69) fX12_58 rfl rfl dX12_ripeBy_79 (go_ic1 dX12_ripeBy_82 (go_il4 dX12_ripeBy_83 (go_iast rfl (vp_in_nI (n := 1) (by decide) (by decide)) dX12_ripeBy_85 ?_))))
      rw [show (1 : Int32).toNatClampNeg = 1 from rfl]
      have hRa : RDp r μ (gm_I (gm_I m 69 0 (nI a)) 69 1 (nI b)) := hR.fl (((FX.rf m).I _ _ (by decide) (by decide)).I _ _ (by decide) (by decide))
      have hWa : WN (qwa (qof r)) (gm_I (gm_I m 69 0 (nI a)) 69 1 (nI b)) := hW
      refine go_al0 dX12_ripeBy_86 (go_il1 dX12_ripeBy_87 (go_il2 dX12_ripeBy_88 (go_ic1 dX12_ripeBy_89 (go_il3 dX12_ripeBy_90 (go_ishl dX12_ripeBy_91 (go_ic1 dX12_ripeBy_92 (go_il4 dX12_ripeBy_93 (go_ishl dX12_ripeBy_95 (go_ior dX12_ripeBy_96 ?_)))))))))
      refine go_V3 mcX12_isRipe mvX12_isRipe kX12_219 rfl dX12_ripeBy_97 rfl rfl (mIsRipe (g := pr a b) hRa.1 hWa hk hx (fun n hn => by rw [b_or, b_one (by omega) (by omega), b_one (by omega) (by omega)])) ?_
      rintro _ m97 ⟨rfl, hF97⟩
      refine go_ifeqB 105 dX12_ripeBy_100 (by decide) (fun h100 => ?_) (fun h100 => ?_)
      · refine go_inc4 (k := 1) dX12_ripeBy_105 (by decide) rfl rfl (go_goto 64 dX12_ripeBy_108 (by decide) ?_)
        rw [nI_1]
        refine ih (30 - (b + 1)) (by omega) (b + 1) _ rfl (by omega) (by omega) (hRa.fl hF97.rl) (hWa.fr hF97) (fun c c1 c2 => ?_)
        by_cases z : c = b
        · rw [z]; exact h100
        · exact hn1 c c1 (by omega)
      · refine go_ic2 dX12_ripeBy_103 ?_
        refine go_iret dX12_ripeBy_104 ?_
        have e := ripA_2 hx h0 hs hab hlt hn1 hn2 h100
        rw [e]
        exact ⟨rfl, hRa.fl hF97.rl, Or.inr (Or.inr (Or.inr ⟨rfl, by rw [hF97.1 69 (by decide) (by decide), gm_Io _ _ _ (by decide), gm_Is], by rw [hF97.1 69 (by decide) (by decide), gm_Is]⟩))⟩

set_option maxRecDepth 100000 in
set_option maxHeartbeats 400000 in
theorem mRp_two {r : RS} {μ : gm_M} {k x : Nat} (hk : k < qnum (qof r)) (hx : x < 30) (h0 : rip (trof (qof r) 9 k) x (fun _ => false) = false) (hs : ∀ c, c < 30 → rip (trof (qof r) 9 k) x (sg c) = false) : ∀ (k_ a : Nat) (d4 : Option Value) (m : gm_M), 30 - a = k_ → a ≤ 30 → (RDp r μ m) → (WN (qwa (qof r)) m) → (∀ c, c < a → ∀ d, c < d → d < 30 → rip (trof (qof r) 9 k) x (pr c d) = false) → Go yX12_ripeBy cX12_ripeBy 5 (some .int) 7 53 [some (.ref 52), some (.int (nI k)), some (.int (nI x)), some (.int (nI a)), d4] [] m (fun r' μ' => r' = some (.int (ripA (trof (qof r) 9 k) x).1) ∧ RDp r μ μ' ∧ okRow (ripA (trof (qof r) 9 k) x) μ') := by
  intro k_
  induction k_ using Nat.strongRecOn with
  | ind k_ ih =>
    intro a d4  m  hk_ hj hR hW hn2
    refine go_il3 dX12_ripeBy_53 (go_bipush (v := 30) dX12_ripeBy_54 (by decide) ?_)
    refine go_cge 117 dX12_ripeBy_56 (by decide) (fun h56 => ?_) (fun h56 => ?_)
    · have he : a = 30 := Nat.le_antisymm hj ((gm_bdN (by decide) (by decide) (by omega)).mp h56)
      refine go_icm1 dX12_ripeBy_117 ?_
      refine go_iret dX12_ripeBy_118 ?_
      subst he
      have e := ripA_n hx h0 hs (fun c d d1 d2 => hn2 c (by omega) d d1 d2)
      rw [e]
      exact ⟨rfl, hR, Or.inr (Or.inl rfl)⟩
    · have hlt : a < 30 := Nat.not_le.mp (fun zz => h56 ((gm_bdN (by decide) (by decide) (by omega)).mpr zz))
      refine go_il3 dX12_ripeBy_59 (go_ic1 dX12_ripeBy_60 (go_iadd dX12_ripeBy_61 (go_is4 dX12_ripeBy_62 rfl rfl ?_)))
      rw [nI_1]
      exact mRp_in hk hx h0 hs hlt hn2 (fun d4 m' hR' hW' hn' => ih (30 - (a + 1)) (by omega) (a + 1) d4 m' rfl (by omega) hR' hW' hn') _ (a + 1) _ rfl (by omega) (by omega) hR hW (fun c c1 c2 => by omega)

set_option maxRecDepth 100000 in
set_option maxHeartbeats 400000 in
theorem mRp_one {r : RS} {μ : gm_M} {k x : Nat} (hk : k < qnum (qof r)) (hx : x < 30) {d4 : Option Value} (h0 : rip (trof (qof r) 9 k) x (fun _ => false) = false) : ∀ (k_ a : Nat) (m : gm_M), 30 - a = k_ → a ≤ 30 → (RDp r μ m) → (WN (qwa (qof r)) m) → (∀ c, c < a → rip (trof (qof r) 9 k) x (sg c) = false) → Go yX12_ripeBy cX12_ripeBy 5 (some .int) 7 18 [some (.ref 52), some (.int (nI k)), some (.int (nI x)), some (.int (nI a)), d4] [] m (fun r' μ' => r' = some (.int (ripA (trof (qof r) 9 k) x).1) ∧ RDp r μ μ' ∧ okRow (ripA (trof (qof r) 9 k) x) μ') := by
  intro k_
  induction k_ using Nat.strongRecOn with
  | ind k_ ih =>
    intro a m  hk_ hj hR hW hs
    refine go_il3 dX12_ripeBy_18 (go_bipush (v := 30) dX12_ripeBy_19 (by decide) ?_)
    refine go_cge 51 dX12_ripeBy_21 (by decide) (fun h21 => ?_) (fun h21 => ?_)
    · have he : a = 30 := Nat.le_antisymm hj ((gm_bdN (by decide) (by decide) (by omega)).mp h21)
      refine go_ic0 dX12_ripeBy_51 (go_is3 dX12_ripeBy_52 rfl rfl ?_)
      subst he
      rw [← nI_0]
      exact mRp_two hk hx h0 hs _ 0 _ _ rfl (by decide) hR hW (fun c hc => absurd hc (Nat.not_lt_zero c))
    · have hlt : a < 30 := Nat.not_le.mp (fun zz => h21 ((gm_bdN (by decide) (by decide) (by omega)).mpr zz))
      refine go_al0 dX12_ripeBy_24 (go_getR (j := 69) fX12_58 rfl rfl dX12_ripeBy_25 (go_ic0 dX12_ripeBy_28 (go_il3 dX12_ripeBy_29 (go_iast rfl (vp_in_nI (n := 0) (by decide) (by decide)) dX12_ripeBy_30 ?_))))
      rw [show (0 : Int32).toNatClampNeg = 0 from rfl]
      have hRa : RDp r μ (gm_I m 69 0 (nI a)) := hR.fl ((FX.rf m).I _ _ (by decide) (by decide))
      have hWa : WN (qwa (qof r)) (gm_I m 69 0 (nI a)) := hW
      refine go_al0 dX12_ripeBy_31 (go_il1 dX12_ripeBy_32 (go_il2 dX12_ripeBy_33 (go_ic1 dX12_ripeBy_34 (go_il3 dX12_ripeBy_35 (go_ishl dX12_ripeBy_36 ?_)))))
      refine go_V3 mcX12_isRipe mvX12_isRipe kX12_219 rfl dX12_ripeBy_37 rfl rfl (mIsRipe (g := sg a) hRa.1 hWa hk hx (fun n hn => b_one (by omega) (by omega))) ?_
      rintro _ m37 ⟨rfl, hF37⟩
      refine go_ifeqB 45 dX12_ripeBy_40 (by decide) (fun h40 => ?_) (fun h40 => ?_)
      · refine go_inc3 (k := 1) dX12_ripeBy_45 (by decide) rfl rfl (go_goto 18 dX12_ripeBy_48 (by decide) ?_)
        rw [nI_1]
        refine ih (30 - (a + 1)) (by omega) (a + 1) _ rfl (by omega) (hRa.fl hF37.rl) (hWa.fr hF37) (fun c c2 => ?_)
        by_cases z : c = a
        · rw [z]; exact h40
        · exact hs c (by omega)
      · refine go_ic1 dX12_ripeBy_43 ?_
        refine go_iret dX12_ripeBy_44 ?_
        have e := ripA_1 h0 hs h40
        rw [e]
        exact ⟨rfl, hRa.fl hF37.rl, Or.inr (Or.inr (Or.inl ⟨rfl, by rw [hF37.1 69 (by decide) (by decide), gm_Is], rfl⟩))⟩

set_option maxRecDepth 100000 in
set_option maxHeartbeats 400000 in
theorem mRipeBy {r : RS} {μ : gm_M} (hA : MA r μ) {k x : Nat} (hk : k < qnum (qof r)) (hx : x < 30) : Sat yX12_ripeBy cX12_ripeBy 5 (some .int) 7 [(.ref 52), (.int (nI k)), (.int (nI x))] μ (fun r' μ' => r' = some (.int (ripA (trof (qof r) 9 k) x).1) ∧ RDp r μ μ' ∧ okRow (ripA (trof (qof r) 9 k) x) μ') := by
  refine Sat.of (L := [some (.ref 52), some (.int (nI k)), some (.int (nI x)), none, none]) (by decide) (fun _ => rfl) (fun _ => rfl) ?_
  refine go_al0 dX12_ripeBy_0 ?_
  refine go_V0 mcX12_asTold mvX12_asTold kX12_190 rfl dX12_ripeBy_1 rfl rfl (mAsTold hA) ?_
  rintro _ m1 ⟨rfl, hR1, hW1⟩
  refine go_al0 dX12_ripeBy_4 (go_il1 dX12_ripeBy_5 (go_il2 dX12_ripeBy_6 (go_ic0 dX12_ripeBy_7 ?_)))
  refine go_V3 mcX12_isRipe mvX12_isRipe kX12_219 rfl dX12_ripeBy_8 rfl rfl (mIsRipe (g := fun _ => false) hR1.1 hW1 hk hx (fun n hn => b_0 n)) ?_
  rintro _ m8 ⟨rfl, hF8⟩
  refine go_ifeqB 16 dX12_ripeBy_11 (by decide) (fun h11 => ?_) (fun h11 => ?_)
  · refine go_ic0 dX12_ripeBy_16 (go_is3 dX12_ripeBy_17 rfl rfl ?_)
    rw [← nI_0]
    exact mRp_one hk hx h11 _ 0 _ rfl (by decide) (hR1.fl hF8.rl) (hW1.fr hF8) (fun c hc => absurd hc (Nat.not_lt_zero c))
  · refine go_ic0 dX12_ripeBy_14 ?_
    refine go_iret dX12_ripeBy_15 ?_
    have e := ripA_0 h11
    rw [e]
    exact ⟨rfl, hR1.fl hF8.rl, Or.inl rfl⟩

set_option maxRecDepth 100000 in
set_option maxHeartbeats 400000 in
theorem mOfRow_m {A : Int32 × Int32 × Int32} {μ : gm_M} (h : okRow A μ) : Ret yX12_ofRow cX12_ofRow 3 (some .int) 0 [(.ref 52), (.int A.1), (.int (-1))] μ (some (.int A.1)) μ := by
  refine Sat.of (L := [some (.ref 52), some (.int A.1), some (.int (-1))]) (by decide) (fun _ => rfl) (fun _ => rfl) ?_
  refine go_il2 dX12_ofRow_0 (go_icm1 dX12_ofRow_1 ?_)
  refine go_cne 9 dX12_ofRow_2 (by decide) (fun h2 => absurd h2 (by decide)) (fun _ => ?_)
  refine go_il1 dX12_ofRow_5 (go_goto 24 dX12_ofRow_6 (by decide) ?_)
  refine go_iret dX12_ofRow_24 ?_
  exact ⟨rfl, rfl⟩

set_option maxRecDepth 100000 in
set_option maxHeartbeats 400000 in
theorem mOfRow_0 {A : Int32 × Int32 × Int32} {μ : gm_M} (h : okRow A μ) : Ret yX12_ofRow cX12_ofRow 3 (some .int) 0 [(.ref 52), (.int A.1), (.int 0)] μ (some (.int A.2.1)) μ := by
  refine Sat.of (L := [some (.ref 52), some (.int A.1), some (.int 0)]) (by decide) (fun _ => rfl) (fun _ => rfl) ?_
  refine go_il2 dX12_ofRow_0 (go_icm1 dX12_ofRow_1 ?_)
  refine go_cne 9 dX12_ofRow_2 (by decide) (fun _ => ?_) (fun h2 => absurd h2 (by decide))
  refine go_il2 dX12_ofRow_9 (go_il1 dX12_ofRow_10 ?_)
  refine go_cge 23 dX12_ofRow_11 (by decide) (fun h11 => ?_) (fun h11 => ?_)
  · refine go_icm1 dX12_ofRow_23 ?_
    refine go_iret dX12_ofRow_24 ?_
    rcases h with e | e | e | e
    · rw [e]; exact ⟨rfl, rfl⟩
    · rw [e]; exact ⟨rfl, rfl⟩
    · rw [e.1] at h11; exact absurd h11 (by decide)
    · rw [e.1] at h11; exact absurd h11 (by decide)
  · refine go_al0 dX12_ofRow_14 (go_getR (j := 69) fX12_58 rfl rfl dX12_ofRow_15 (go_il2 dX12_ofRow_18 (go_iald rfl (vp_in_nI (n := 0) (by decide) (by decide)) dX12_ofRow_19 (go_goto 24 dX12_ofRow_20 (by decide) ?_))))
    refine go_iret dX12_ofRow_24 ?_
    rcases h with e | e | e | e
    · rw [e] at h11; exact absurd h11 (by decide)
    · rw [e] at h11; exact absurd h11 (by decide)
    · exact ⟨congrArg (fun z => some (Value.int z)) e.2.1, rfl⟩
    · exact ⟨congrArg (fun z => some (Value.int z)) e.2.1, rfl⟩

set_option maxRecDepth 100000 in
set_option maxHeartbeats 400000 in
theorem mOfRow_1 {A : Int32 × Int32 × Int32} {μ : gm_M} (h : okRow A μ) : Ret yX12_ofRow cX12_ofRow 3 (some .int) 0 [(.ref 52), (.int A.1), (.int 1)] μ (some (.int A.2.2)) μ := by
  refine Sat.of (L := [some (.ref 52), some (.int A.1), some (.int 1)]) (by decide) (fun _ => rfl) (fun _ => rfl) ?_
  refine go_il2 dX12_ofRow_0 (go_icm1 dX12_ofRow_1 ?_)
  refine go_cne 9 dX12_ofRow_2 (by decide) (fun _ => ?_) (fun h2 => absurd h2 (by decide))
  refine go_il2 dX12_ofRow_9 (go_il1 dX12_ofRow_10 ?_)
  refine go_cge 23 dX12_ofRow_11 (by decide) (fun h11 => ?_) (fun h11 => ?_)
  · refine go_icm1 dX12_ofRow_23 ?_
    refine go_iret dX12_ofRow_24 ?_
    rcases h with e | e | e | e
    · rw [e]; exact ⟨rfl, rfl⟩
    · rw [e]; exact ⟨rfl, rfl⟩
    · exact ⟨congrArg (fun z => some (Value.int z)) e.2.2.symm, rfl⟩
    · rw [e.1] at h11; exact absurd h11 (by decide)
  · refine go_al0 dX12_ofRow_14 (go_getR (j := 69) fX12_58 rfl rfl dX12_ofRow_15 (go_il2 dX12_ofRow_18 (go_iald rfl (vp_in_nI (n := 1) (by decide) (by decide)) dX12_ofRow_19 (go_goto 24 dX12_ofRow_20 (by decide) ?_))))
    refine go_iret dX12_ofRow_24 ?_
    rcases h with e | e | e | e
    · rw [e] at h11; exact absurd h11 (by decide)
    · rw [e] at h11; exact absurd h11 (by decide)
    · rw [e.1] at h11; exact absurd h11 (by decide)
    · exact ⟨congrArg (fun z => some (Value.int z)) e.2.2, rfl⟩

theorem mOfRow {A : Int32 × Int32 × Int32} {μ : gm_M} {i : Int32} (h : okRow A μ) (hi : i = -1 ∨ i = 0 ∨ i = 1) : Ret yX12_ofRow cX12_ofRow 3 (some .int) 0 [.ref 52, .int A.1, .int i] μ (some (.int (rwA A i))) μ := by
  rcases hi with e | e | e
  · subst e; exact mOfRow_m h
  · subst e; exact mOfRow_0 h
  · subst e; exact mOfRow_1 h
set_option maxRecDepth 100000 in
set_option maxHeartbeats 400000 in
theorem m_ripe {r : RS} {μ : gm_M} (hA : MA r μ) (w n i : Int32) : Sat yX12_ripe cX12_ripe 4 (some .int) 8 [(.ref 52), (.int w), (.int n), (.int i)] μ (fun r' μ' => r' = some (.int (sRipe (qof r) w n i)) ∧ FX lQ fQ μ μ') := by
  refine Sat.of (L := [some (.ref 52), some (.int w), some (.int n), some (.int i)]) (by decide) (fun _ => rfl) (fun _ => rfl) ?_
  refine go_al0 dX12_ripe_0 (go_il1 dX12_ripe_1 ?_)
  refine go_V1 mcX12_isWheel mvX12_isWheel kX12_142 rfl dX12_ripe_2 rfl rfl (mIsWheel hA _) ?_
  rintro _ m2 ⟨rfl, hR2⟩
  refine go_ifeqB 38 dX12_ripe_5 (by decide) (fun h5 => ?_) (fun h5 => ?_)
  · refine go_bipush (v := -2) dX12_ripe_38 (by decide) ?_
    refine go_iret dX12_ripe_40 ?_
    exact ⟨by rw [sRipe_g, if_neg (gf h5)], hR2.2.2⟩
  · refine go_il2 dX12_ripe_8 (go_S1r mcX12_isNight mvX12_isNight kX12_148 dX12_ripe_9 rfl rfl (sX12_isNight _ _) ?_)
    refine go_ifeqB 38 dX12_ripe_12 (by decide) (fun h12 => ?_) (fun h12 => ?_)
    · refine go_bipush (v := -2) dX12_ripe_38 (by decide) ?_
      refine go_iret dX12_ripe_40 ?_
      exact ⟨by rw [sRipe_g, if_pos h5, if_neg (gf h12)], hR2.2.2⟩
    · refine go_il3 dX12_ripe_15 (go_icm1 dX12_ripe_16 (go_ic1 dX12_ripe_17 (go_S3r mcX12_in mvX12_in kX12_104 dX12_ripe_18 rfl rfl (sX12_in _ _ _ _) ?_)))
      refine go_ifeqB 38 dX12_ripe_21 (by decide) (fun h21 => ?_) (fun h21 => ?_)
      · refine go_bipush (v := -2) dX12_ripe_38 (by decide) ?_
        refine go_iret dX12_ripe_40 ?_
        exact ⟨by rw [sRipe_g, if_pos h5, if_pos h12, if_neg (gf h21)], hR2.2.2⟩
      · obtain ⟨k, hk, rfl⟩ := inW_of (rok_q hA.1) h5
        obtain ⟨x, hx, rfl⟩ := gnight_of (by rw [← gin_night]; exact h12)
        refine go_al0 dX12_ripe_24 (go_al0 dX12_ripe_25 (go_il1 dX12_ripe_26 (go_il2 dX12_ripe_27 ?_)))
        refine go_V2 mcX12_ripeBy mvX12_ripeBy kX12_222 rfl dX12_ripe_28 rfl rfl (mRipeBy (hR2.ma hA) hk hx) ?_
        rintro _ m28 ⟨rfl, hR28, hO28⟩
        refine go_il3 dX12_ripe_31 (go_V2r mcX12_ofRow mvX12_ofRow kX12_225 rfl dX12_ripe_32 rfl rfl (mOfRow hO28 (gin3 h21)) (go_goto 40 dX12_ripe_35 (by decide) ?_))
        refine go_iret dX12_ripe_40 ?_
        exact ⟨by rw [sRipe_g, if_pos h5, if_pos h12, if_pos h21, wN_nI (by have := hR2.1.1.1; omega), wN_nI (by omega)], (hR2.tr hR28).2.2⟩

