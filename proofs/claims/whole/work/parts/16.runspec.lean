/-! run() does as the numbers say -/
def RO (t : TR) (n : Nat) (μ : gm_M) : Prop := (∀ j, j < n → μ.1 28 j = nI (ta t (j + 1)).1 ∧ μ.1 29 j = oI (tm t j) ∧ μ.1 30 j = oI ((tm t j).map (tsn t)) ∧ μ.1 31 j = nI (tst t j)) ∧ (∀ j, j < 30 → bt (μ.1 25 13) j = (decide (j < n) && (tm t j).isSome))
def Fr25 (μ μ' : gm_M) : Prop := (∀ c, ¬ (25 ≤ c ∧ c ≤ 31) → μ'.1 c = μ.1 c) ∧ μ'.2 = μ.2
theorem Fr25.rf (μ : gm_M) : Fr25 μ μ := ⟨fun _ _ => rfl, rfl⟩
theorem Fr25.tr {μ μ' μ'' : gm_M} (h : Fr25 μ μ') (h' : Fr25 μ' μ'') : Fr25 μ μ'' := ⟨fun c hc => (h'.1 c hc).trans (h.1 c hc), h'.2.trans h.2⟩
theorem tm_lt {t : TR} {n k : Nat} (h : tm t n = some k) : k < tsz t := by
  unfold tm at h
  split at h
  · exact (tmo_lt h).1
  · cases h
theorem ta_before {t : TR} : ∀ n, n ≤ tfr t → ta t n = (0, false) := by
  intro n
  induction n with
  | zero => intro _; rfl
  | succ n ih =>
    intro hn
    simp only [ta]
    rw [if_neg (by omega), ih (by omega)]
theorem oI_m1 {o : Option Nat} (h : ∀ k, o = some k → k < 2 ^ 20) : oI o = -1 ↔ o = none := by
  cases o with
  | none => exact ⟨fun _ => rfl, fun _ => rfl⟩
  | some k =>
    refine ⟨fun q => ?_, fun q => by cases q⟩
    have hk := h k rfl
    exfalso
    have h1 : ¬ nI k < 0 := nI_pos (by omega)
    apply h1
    show nI k < 0
    rw [show nI k = -1 from q]
    decide
theorem cnote_c (m : gm_M) (j : Nat) (a mo s : Int32) {c : Nat} (h : c ≠ 25) (h1 : c ≠ 28) (h2 : c ≠ 29) (h3 : c ≠ 30) (h4 : c ≠ 31) : (cnote m j a mo s).1 c = m.1 c := by
  simp [cnote, gm_I, h, h1, h2, h3, h4]
theorem cnote_25 (m : gm_M) (j : Nat) (a mo s : Int32) {k : Nat} (h : k ≠ 13) : (cnote m j a mo s).1 25 k = m.1 25 k := by
  simp [cnote, gm_I1, h]
theorem cnote_13 (m : gm_M) (j : Nat) (a mo s : Int32) : (cnote m j a mo s).1 25 13 = m.1 25 13 ||| (if mo = -1 then 0 else (1 : Int32) <<< (nI j &&& 31)) := by
  simp [cnote, gm_I1]
theorem cnote_28 (m : gm_M) (j : Nat) (a mo s : Int32) (i : Nat) : (cnote m j a mo s).1 28 i = if i = j then a else m.1 28 i := by simp [cnote, gm_I1]
theorem cnote_29 (m : gm_M) (j : Nat) (a mo s : Int32) (i : Nat) : (cnote m j a mo s).1 29 i = if i = j then mo else m.1 29 i := by simp [cnote, gm_I1]
theorem cnote_30 (m : gm_M) (j : Nat) (a mo s : Int32) (i : Nat) : (cnote m j a mo s).1 30 i = if i = j then gi (m.1 26) 5 mo (-1) else m.1 30 i := by simp [cnote, gm_I1]
theorem cnote_31 (m : gm_M) (j : Nat) (a mo s : Int32) (i : Nat) : (cnote m j a mo s).1 31 i = if i = j then s else m.1 31 i := by simp [cnote, gm_I1]
theorem TI.cong {t : TR} {μ μ' : gm_M} (h : TI t μ) (h25 : ∀ k, 6 ≤ k → k ≤ 12 → μ'.1 25 k = μ.1 25 k) (h26 : μ'.1 26 = μ.1 26) (h27 : μ'.1 27 = μ.1 27) : TI t μ' := by
  obtain ⟨hk, h6, h7, h8, h11, h9, h10, h12, q26, q27⟩ := h
  refine ⟨hk, by rw [h25 6 (by decide) (by decide)]; exact h6, by rw [h25 7 (by decide) (by decide)]; exact h7, by rw [h25 8 (by decide) (by decide)]; exact h8, by rw [h25 11 (by decide) (by decide)]; exact h11, by rw [h25 9 (by decide) (by decide)]; exact h9, by rw [h25 10 (by decide) (by decide)]; exact h10, by rw [h25 12 (by decide) (by decide)]; exact h12, by rw [h26]; exact q26, by rw [h27]; exact q27⟩
theorem TI.note {t : TR} {m : gm_M} (h : TI t m) (j : Nat) (a mo s : Int32) : TI t (cnote m j a mo s) :=
  h.cong (fun k h1 h2 => cnote_25 m j a mo s (by omega)) (cnote_c m j a mo s (by decide) (by decide) (by decide) (by decide) (by decide)) (cnote_c m j a mo s (by decide) (by decide) (by decide) (by decide) (by decide))
theorem RO.note {t : TR} {m : gm_M} {n : Nat} (hn : n < 30) (hT : TI t m) (h : RO t n m) : RO t (n + 1) (cnote m n (nI (ta t (n + 1)).1) (oI (tm t n)) (nI (tst t n))) := by
  have hz := hT.1.2.2.2.1
  refine ⟨fun j hj => ?_, fun j hj => ?_⟩
  · rw [cnote_28, cnote_29, cnote_30, cnote_31]
    by_cases e : j = n
    · subst e
      simp only [if_true]
      refine ⟨trivial, trivial, ?_, trivial⟩
      cases ho : tm t j with
      | none => exact gi_neg (by decide) _
      | some k =>
        have hk := tm_lt ho
        show gi (m.1 26) 5 (nI k) (-1) = nI (tsn t k)
        rw [gi_nI (by omega) (by decide), hT.2.2.2.2.2.2.2.2.1 k hk]
    · simp only [if_neg e]
      exact h.1 j (by omega)
  · rw [cnote_13, b_or, h.2 j hj]
    cases ho : tm t n with
    | none =>
      rw [show oI none = -1 from rfl, if_pos rfl, b_0, Bool.or_false]
      by_cases e : j = n
      · subst e; rw [ho]; simp
      · have : (j < n + 1) = (j < n) := by apply propext; omega
        simp only [this]
    | some k =>
      have hk := tm_lt ho
      rw [if_neg (fun q => by rw [oI_m1 (fun k' e' => by cases e'; omega)] at q; cases q), b_one (by omega) (by omega)]
      by_cases e : j = n
      · subst e; rw [ho]; simp
      · have : (j < n + 1) = (j < n) := by apply propext; omega
        simp [this, e]
theorem gb_0 {b : Bool} (h : b = false) : gb b = 0 := by rw [h]; rfl
theorem crun_t {t : TR} {μ : gm_M} (h : TI t μ) : ∀ n, n ≤ 30 → (crun μ n).1 = nI (ta t n).1 ∧ TI t (crun μ n).2 ∧ RO t n (crun μ n).2 ∧ (crun μ n).2.1 25 14 = gb (ta t n).2 ∧ Fr25 μ (crun μ n).2 := by
  intro n
  induction n with
  | zero =>
    intro _
    refine ⟨rfl, ?_, ⟨fun j hj => absurd hj (Nat.not_lt_zero j), fun j _ => ?_⟩, ?_, ?_⟩
    · refine h.cong (fun k h1 h2 => ?_) rfl rfl
      show (gm_I (gm_I μ 25 13 0) 25 14 0).1 25 k = μ.1 25 k
      rw [gm_I1, if_pos rfl, if_neg (by omega), gm_I1, if_pos rfl, if_neg (by omega)]
    · show bt ((gm_I (gm_I μ 25 13 0) 25 14 0).1 25 13) j = _
      rw [gm_I1, if_pos rfl, if_neg (by decide), gm_I1, if_pos rfl, if_pos rfl, b_0]
      simp
    · show (gm_I (gm_I μ 25 13 0) 25 14 0).1 25 14 = gb false
      rw [gm_I1, if_pos rfl, if_pos rfl]; rfl
    · refine ⟨fun c hc => ?_, rfl⟩
      have : c ≠ 25 := by omega
      show (gm_I (gm_I μ 25 13 0) 25 14 0).1 c = μ.1 c
      simp [gm_I, this]
  | succ n ih =>
    intro hn
    obtain ⟨i1, i2, i3, i4, i5⟩ := ih (by omega)
    rw [show crun μ (n + 1) = crun_b n (crun μ n) from rfl]
    generalize crun μ n = p at i1 i2 i3 i4 i5 ⊢
    obtain ⟨age, m⟩ := p
    have i1 : age = nI (ta t n).1 := i1
    have i2 : TI t m := i2
    have i3 : RO t n m := i3
    have i4 : m.1 25 14 = gb (ta t n).2 := i4
    have i5 : Fr25 μ m := i5
    have hfr := i2.1.2.1
    have hwa := i2.1.2.2.2.2.2.2.2.2 n (by omega)
    have hle := ta_le i2.1 n (by omega)
    have hgr := tgr_le (t := t) (n := n) hwa
    have e7 := i2.2.2.1
    have note : ∀ (m' : gm_M) (g : Bool), TI t m' → RO t n m' → m'.1 25 14 = gb g → Fr25 μ m' → g = (ta t (n + 1)).2 →
        TI t (cnote m' n (nI (ta t (n + 1)).1) (oI (tm t n)) (nI (tst t n))) ∧ RO t (n + 1) (cnote m' n (nI (ta t (n + 1)).1) (oI (tm t n)) (nI (tst t n))) ∧ (cnote m' n (nI (ta t (n + 1)).1) (oI (tm t n)) (nI (tst t n))).1 25 14 = gb (ta t (n + 1)).2 ∧ Fr25 μ (cnote m' n (nI (ta t (n + 1)).1) (oI (tm t n)) (nI (tst t n))) := by
      intro m' g a1 a2 a3 a4 a5
      refine ⟨a1.note _ _ _ _, a2.note (by omega) a1, by rw [cnote_25 _ _ _ _ _ (by decide), a3, a5], ⟨fun c hc => ?_, a4.2⟩⟩
      rw [cnote_c _ _ _ _ _ (by omega) (by omega) (by omega) (by omega) (by omega)]
      exact a4.1 c hc
    unfold crun_b
    dsimp only
    by_cases c1 : n < tfr t
    · rw [if_pos (by rw [e7, nI_ltI (by omega) (by omega)]; exact c1)]
      have e0 := ta_before n (t := t) (by omega)
      have e1 := ta_before (n + 1) (t := t) (by omega)
      have hm : tm t n = none := by unfold tm; rw [if_neg (by omega)]
      have hs : tst t n = 0 := by unfold tst; rw [if_pos c1]
      have hz : m.1 25 14 = 0 := by rw [i4, e0]; rfl
      have := note m false i2 i3 (by rw [hz]; rfl) i5 (by rw [e1])
      rw [hm, hs, e1] at this
      rw [if_pos hz, i1, e0, e1]
      exact ⟨rfl, this⟩
    · rw [if_neg (by rw [e7, nI_ltI (by omega) (by omega)]; exact c1)]
      cases hg : (ta t n).2 with
      | true =>
        have hz : ¬ m.1 25 14 = 0 := by rw [i4, hg]; decide
        rw [if_neg hz]
        have e1 : ta t (n + 1) = ta t n := by simp only [ta]; rw [if_neg (by rw [hg]; simp)]
        have hm : tm t n = none := by unfold tm; rw [if_neg (by rw [hg]; simp)]
        have hs : tst t n = 4 := by unfold tst; rw [if_neg c1, if_pos hg]
        have := note m true i2 i3 (by rw [i4, hg]) i5 (by rw [e1, hg])
        rw [hm, hs, e1] at this
        rw [i1, e1]

        exact ⟨rfl, this⟩
      | false =>
        have hz : m.1 25 14 = 0 := by rw [i4, hg]; rfl
        rw [if_pos hz]
        have e1 : ta t (n + 1) = ((ta t n).1 + tgr t n (twa t n), tea t ((ta t n).1 + tgr t n (twa t n))) := by simp only [ta]; rw [if_pos ⟨by omega, hg⟩]
        have hw : gi (m.1 27) 30 (nI n) 5 = nI (twa t n) := by rw [gi_nI (by omega) (by decide), i2.2.2.2.2.2.2.2.2.2 n (by omega)]
        have ha : age + cgrow m (nI n) (gi (m.1 27) 30 (nI n) 5) = nI (ta t (n + 1)).1 := by rw [i1, hw, cgrow_t i2 (by omega) (by omega), nI_add, e1]
        have hb : (ta t (n + 1)).1 < 2 ^ 20 := by rw [e1]; show (ta t n).1 + _ < _; omega
        have hmo : cmom m (nI (ta t (n + 1)).1) = oI (tm t n) := by rw [cmom_t i2 hb]; unfold tm; rw [if_pos ⟨by omega, hg⟩]
        have htm : tm t n = tmo t (ta t (n + 1)).1 := by unfold tm; rw [if_pos ⟨by omega, hg⟩]
        have hea : ceat m (oI (tm t n)) = (ta t (n + 1)).2 := by rw [htm, ceat_t i2, e1]
        have hk : ∀ k, tm t n = some k → k < 2 ^ 20 := fun k q => by have := tm_lt q; have := i2.1.2.2.2.1; omega
        rw [ha, hmo, hea]
        have hz2 : (gm_I m 25 14 (gb (ta t (n + 1)).2)).1 25 14 = gb (ta t (n + 1)).2 := by rw [gm_I1, if_pos rfl, if_pos rfl]
        have hst : (if oI (tm t n) = -1 then (2 : Int32) else if (gm_I m 25 14 (gb (ta t (n + 1)).2)).1 25 14 = 0 then 1 else 3) = nI (tst t n) := by
          rw [hz2]
          have hs2 : tst t n = if tm t n = none then 2 else if (ta t (n + 1)).2 = true then 3 else 1 := by
            unfold tst
            rw [if_neg c1, hg]
            rfl
          rw [hs2]
          by_cases q : tm t n = none
          · rw [if_pos ((oI_m1 hk).mpr q), if_pos q]; rfl
          · rw [if_neg (fun z => q ((oI_m1 hk).mp z)), if_neg q]
            cases (ta t (n + 1)).2 <;> rfl
        rw [hst]
        have hT' : TI t (gm_I m 25 14 (gb (ta t (n + 1)).2)) := i2.cong (fun k h1 h2 => by rw [gm_I1, if_pos rfl, if_neg (by omega)]) rfl rfl
        have hR' : RO t n (gm_I m 25 14 (gb (ta t (n + 1)).2)) := ⟨i3.1, fun j hj => by rw [gm_I1, if_pos rfl, if_neg (by decide)]; exact i3.2 j hj⟩
        have hF' : Fr25 μ (gm_I m 25 14 (gb (ta t (n + 1)).2)) := ⟨fun c hc => by
          have : c ≠ 25 := by omega
          show (gm_I m 25 14 _).1 c = _
          rw [← i5.1 c hc]
          simp [gm_I, this], i5.2⟩
        exact ⟨rfl, note _ _ hT' hR' hz2 hF' rfl⟩
