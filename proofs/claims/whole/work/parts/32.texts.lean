/-! THE TEXTS, whole; ALL THAT IS TOLD as the calls tell it -/
def pz : PS := (0, 0, fun _ => 0, fun _ => 0, fun _ => 0, fun _ _ => 0)
def prd (f : Nat → Nat) : Nat → PS × Option Nat
  | 0 => (pz, none)
  | j + 1 => match (prd f j).2 with
    | some _ => prd f j
    | none => match ptake (prd f j).1 (f j) with
      | some p => (p, none)
      | none => ((prd f j).1, some j)
theorem crdw_t {μ : gm_M} {N : Nat} {f : Nat → Nat} (hN : N ≤ 71) (hf : ∀ j, j < N → μ.1 3 j = nI (f j) ∧ f j < 256) : ∀ j, j ≤ N → (crdw μ j).1 6 5 = oI (prd f j).2 ∧ FrR 6 10 μ (crdw μ j) ∧ pok (prd f j).1 ∧ ((prd f j).2 = none → PIm (prd f j).1 (crdw μ j)) ∧ (∀ x, (prd f j).2 = some x → x < j) := by
  intro j
  induction j with
  | zero =>
    intro _
    refine ⟨?_, ?_, ⟨Nat.zero_le _, Nat.zero_le _, fun z => absurd rfl z, fun k hk => absurd hk (Nat.not_lt_zero k)⟩, fun _ => ⟨?_, ?_, fun k hk => absurd hk (Nat.not_lt_zero k)⟩, fun x z => by cases z⟩
    · show (gm_I (gm_I (gm_I μ 6 4 0) 6 6 0) 6 5 (-1)).1 6 5 = _
      rw [gm_Is]; rfl
    · intro c hc
      show (gm_I (gm_I (gm_I μ 6 4 0) 6 6 0) 6 5 (-1)).1 c = _
      rw [gm_In _ _ _ (show c ≠ 6 by omega), gm_In _ _ _ (show c ≠ 6 by omega), gm_In _ _ _ (show c ≠ 6 by omega)]
    · show (gm_I (gm_I (gm_I μ 6 4 0) 6 6 0) 6 5 (-1)).1 6 4 = _
      rw [gm_Io _ _ _ (by decide), gm_Io _ _ _ (by decide), gm_Is]; rfl
    · show (gm_I (gm_I (gm_I μ 6 4 0) 6 6 0) 6 5 (-1)).1 6 6 = _
      rw [gm_Io _ _ _ (by decide), gm_Is]; rfl
  | succ j ih =>
    intro hj
    obtain ⟨i1, i2, i3, i4, i5⟩ := ih (by omega)
    obtain ⟨f1, f2⟩ := hf j (by omega)
    have e3 : (crdw μ j).1 3 = μ.1 3 := i2 3 (by decide)
    rw [crdw, prd]
    cases ho : (prd f j).2 with
    | some x =>
      have hx := i5 x ho
      rw [ho] at i1
      have hne : ¬ (crdw μ j).1 6 5 = -1 := by rw [i1]; exact nI_ne_m1 (by omega)
      rw [if_neg hne]
      dsimp only
      rw [ho]
      refine ⟨i1, i2, i3, (fun z => by cases z), fun y z => ?_⟩
      cases z
      omega
    | none =>
      rw [ho] at i1
      have hm1 : (crdw μ j).1 6 5 = -1 := i1
      have hb : gi ((crdw μ j).1 3) 71 (nI j) (-1) = nI (f j) := by rw [gi_nI (by omega) (by decide), e3, f1]
      rw [if_pos hm1, hb]
      have hk := ctakes_t i3 (i4 ho) f2
      dsimp only
      cases hp : ptake (prd f j).1 (f j) with
      | some p =>
        rw [hp] at hk
        obtain ⟨k1, k2, k3, k4, k5⟩ := hk
        rw [if_pos k1]
        exact ⟨k5.trans hm1, i2.tr k4, k3, fun _ => k2, fun x z => by cases z⟩
      | none =>
        rw [hp] at hk
        obtain ⟨k1, k2⟩ := hk
        rw [if_neg (gf k1), k2]
        refine ⟨by rw [gm_Is]; rfl, i2.I _ _ (by decide) (by decide), i3, (fun z => by cases z), fun x z => ?_⟩
        cases z
        omega
def pres (N : Nat) (f : Nat → Nat) : Option Nat × PS := match (prd f N).2 with
  | some x => (some x, pz)
  | none => if 0 < N ∧ pstg (prd f N).1 ≤ 3 then (some N, pz) else (none, (prd f N).1)
/-- the wheels of a text -/
def pgood (p : PS) : Prop := pnum p ≤ 8 ∧ ∀ k, k < pnum p → pso p k ≤ 2 ∧ pfr p k ≤ 19 ∧ 1 ≤ psz p k ∧ psz p k ≤ 5 ∧ ∀ j, j < psz p k → psn p k j < 8
def PIw (p : PS) (m : gm_M) : Prop := m.1 6 4 = nI (pnum p) ∧ ∀ k, k < pnum p → m.1 7 k = nI (pso p k) ∧ m.1 8 k = nI (pfr p k) ∧ m.1 9 k = nI (psz p k) ∧ ∀ j, j < psz p k → m.1 10 (5 * k + j) = nI (psn p k j)
theorem pz_good : pgood pz := ⟨Nat.zero_le _, fun k hk => absurd hk (Nat.not_lt_zero k)⟩
theorem prd_ok {N : Nat} {f : Nat → Nat} (hf : ∀ j, j < N → f j < 256) : ∀ j, j ≤ N → pok (prd f j).1 := by
  intro j hj
  -- the memory is of no account here: any that holds the text
  have := crdw_t (μ := (fun c k => if c = 3 then nI (f k) else 0, fun _ _ => 0)) (N := min j 71) (f := f) (by omega) (fun i hi => ⟨by simp, hf i (by omega)⟩)
  rcases Nat.lt_or_ge 71 j with z | z
  · -- beyond 71 by the automaton alone
    clear this
    induction j with
    | zero => omega
    | succ j ih =>
      have hb := hf j (by omega)
      have h0 : pok (prd f j).1 := by
        rcases Nat.lt_or_ge 71 j with y | y
        · exact ih (by omega) y
        · have := crdw_t (μ := (fun c k => if c = 3 then nI (f k) else 0, fun _ _ => 0)) (N := j) (f := f) (by omega) (fun i hi => ⟨by simp, hf i (by omega)⟩)
          exact (this j (Nat.le_refl _)).2.2.1
      rw [prd]
      cases ho : (prd f j).2 with
      | some x => exact h0
      | none =>
        dsimp only
        cases hp : ptake (prd f j).1 (f j) with
        | none => exact h0
        | some p =>
          let q := (prd f j).1
          have hk := ctakes_t (p := (prd f j).1) (m := (fun c k => if c = 6 then (if k = 4 then nI (pnum (prd f j).1) else nI (pstg (prd f j).1)) else if c = 7 then nI (pso (prd f j).1 k) else if c = 8 then nI (pfr (prd f j).1 k) else if c = 9 then nI (psz (prd f j).1 k) else nI (psn (prd f j).1 (k / 5) (k % 5)), fun _ _ => 0)) h0 ⟨rfl, rfl, fun k hk => ⟨rfl, rfl, rfl, fun i hi => by
            have h5 := (h0.2.2.2 k hk).2.2.1
            show nI (psn (prd f j).1 ((5 * k + i) / 5) ((5 * k + i) % 5)) = _
            rw [show (5 * k + i) / 5 = k by omega, show (5 * k + i) % 5 = i by omega]⟩⟩ hb
          rw [hp] at hk
          exact hk.2.2.1
  · have e : min j 71 = j := by omega
    rw [e] at this
    exact (this j (Nat.le_refl _)).2.2.1
theorem pres_good {N : Nat} {f : Nat → Nat} (hf : ∀ j, j < N → f j < 256) : pgood (pres N f).2 := by
  unfold pres
  cases ho : (prd f N).2 with
  | some x => exact pz_good
  | none =>
    dsimp only
    by_cases c : 0 < N ∧ pstg (prd f N).1 ≤ 3
    · rw [if_pos c]; exact pz_good
    · rw [if_neg c]
      rcases Nat.eq_zero_or_pos N with z | z
      · subst z; exact pz_good
      · obtain ⟨h1, h2, h3, h4⟩ := prd_ok hf N (Nat.le_refl _)
        refine ⟨h1, fun k hk => ?_⟩
        obtain ⟨b1, b2, b3, b4⟩ := h4 k hk
        have hs : ¬ pstg (prd f N).1 ≤ 3 := fun y => c ⟨z, y⟩
        by_cases e : k + 1 = pnum (prd f N).1 ∧ pstg (prd f N).1 ≠ 0
        · rw [if_pos e] at b2
          exact ⟨b1, b2.2.2.1, by rw [b2.2.2.2]; omega, b3, b4⟩
        · rw [if_neg e] at b2
          exact ⟨b1, b2.1, b2.2, b3, b4⟩
/-- readFrom, of the wheels -/
theorem crdwF_t {μ : gm_M} {N : Nat} {f : Nat → Nat} (hN : N ≤ 71) (h2 : μ.1 2 1 = nI N) (hf : ∀ j, j < N → μ.1 3 j = nI (f j) ∧ f j < 256) : (crdwF (crdwE (crdw μ N))).1 6 5 = oI (pres N f).1 ∧ PIw (pres N f).2 (crdwF (crdwE (crdw μ N))) ∧ FrR 6 10 μ (crdwF (crdwE (crdw μ N))) := by
  obtain ⟨i1, i2, i3, i4, i5⟩ := crdw_t hN hf N (Nat.le_refl _)
  have e2 : (crdw μ N).1 2 1 = nI N := by rw [i2 2 (by decide)]; exact h2
  generalize crdw μ N = m at i1 i2 i4 e2 ⊢
  unfold pres
  cases ho : (prd f N).2 with
  | some x =>
    have hx := i5 x ho
    rw [ho] at i1
    have hne : ¬ m.1 6 5 = -1 := by rw [i1]; exact nI_ne_m1 (by omega)
    rw [crdwE, if_neg hne, crdwF, if_neg hne]
    exact ⟨by rw [gm_Io _ _ _ (by decide)]; exact i1, ⟨by rw [gm_Is]; rfl, fun k hk => absurd hk (Nat.not_lt_zero k)⟩, i2.I _ _ (by decide) (by decide)⟩
  | none =>
    rw [ho] at i1
    have hm1 : m.1 6 5 = -1 := i1
    have hp := i4 ho
    have e0 : (m.1 2 1 ≤ 0) = (N ≤ 0) := by rw [e2]; exact propext (nI_leI (b := 0) (by omega) (by decide))
    have e3 : (m.1 6 6 ≤ 3) = (pstg (prd f N).1 ≤ 3) := by rw [hp.2.1]; exact propext (nI_leI (b := 3) (by have := i3.2.1; omega) (by decide))
    rw [crdwE, if_pos hm1]
    dsimp only
    by_cases c0 : N ≤ 0
    · rw [if_pos (show m.1 2 1 ≤ 0 from by rw [e0]; exact c0), if_neg (show ¬ (0 < N ∧ pstg (prd f N).1 ≤ 3) from fun z => by omega), crdwF, if_pos hm1]
      exact ⟨hm1, ⟨hp.1, hp.2.2⟩, i2⟩
    · rw [if_neg (show ¬ m.1 2 1 ≤ 0 from by rw [e0]; exact c0)]
      by_cases c3 : pstg (prd f N).1 ≤ 3
      · rw [if_neg (show ¬ decide (¬ m.1 6 6 ≤ 3) = true from by simp [e3]; exact c3), if_pos (show 0 < N ∧ pstg (prd f N).1 ≤ 3 from ⟨by omega, c3⟩), crdwF, e2, gm_Is, if_neg (nI_ne_m1 (by omega))]
        exact ⟨by rw [gm_Io _ _ _ (by decide), gm_Is]; rfl, ⟨by rw [gm_Is]; rfl, fun k hk => absurd hk (Nat.not_lt_zero k)⟩, (i2.I _ _ (by decide) (by decide)).I _ _ (by decide) (by decide)⟩
      · rw [if_pos (show decide (¬ m.1 6 6 ≤ 3) = true from by simp [e3]; omega), if_neg (show ¬ (0 < N ∧ pstg (prd f N).1 ≤ 3) from fun z => c3 z.2), crdwF, if_pos hm1]
        exact ⟨hm1, ⟨hp.1, hp.2.2⟩, i2⟩
/-! the cave -/
def cavp (f : Nat → Nat) (j : Nat) : Bool := decide (f j < 48) || decide (57 < f j)
def cavF (N : Nat) (f : Nat → Nat) : Option Nat := firstN (cavp f) N 0
def figs (N : Nat) (f : Nat → Nat) : Nat := if cavF N f = none then N else 0
def cwa (N : Nat) (f : Nat → Nat) (n : Nat) : Nat := if n < figs N f then f n - 48 else 5
theorem firstN_snoc (p : Nat → Bool) : ∀ k j, firstN p (k + 1) j = match firstN p k j with
    | some x => some x
    | none => if p (j + k) = true then some (j + k) else none := by
  intro k
  induction k with
  | zero => intro j; rfl
  | succ k ih =>
    intro j
    have e1 : firstN p (k + 1 + 1) j = if p j = true then some j else firstN p (k + 1) (j + 1) := rfl
    have e2 : firstN p (k + 1) j = if p j = true then some j else firstN p k (j + 1) := rfl
    rw [e1, e2]
    by_cases c : p j = true
    · rw [if_pos c, if_pos c]
    · rw [if_neg c, if_neg c, ih (j + 1), show j + 1 + k = j + (k + 1) by omega]
theorem firstN_none {p : Nat → Bool} : ∀ {k j : Nat}, firstN p k j = none → ∀ n, j ≤ n → n < j + k → p n = false := by
  intro k
  induction k with
  | zero => intro j _ n h1 h2; omega
  | succ k ih =>
    intro j h n h1 h2
    rw [firstN] at h
    by_cases c : p j = true
    · rw [if_pos c] at h; cases h
    · rw [if_neg c] at h
      by_cases e : n = j
      · subst e; exact Bool.eq_false_iff.mpr c
      · exact ih h n (by omega) (by omega)
theorem crdc_t {μ : gm_M} {N : Nat} {f : Nat → Nat} (hN : N ≤ 30) (hf : ∀ j, j < N → μ.1 5 j = nI (f j) ∧ f j < 256) : ∀ j, j ≤ N → (crdc μ j).1 11 2 = oI (firstN (cavp f) j 0) ∧ FrR 11 11 μ (crdc μ j) := by
  intro j
  induction j with
  | zero => intro _; exact ⟨by show (gm_I μ 11 2 (-1)).1 11 2 = _; rw [gm_Is]; rfl, (FrR.rf μ).I _ _ (by decide) (by decide)⟩
  | succ j ih =>
    intro hj
    obtain ⟨i1, i2⟩ := ih (by omega)
    obtain ⟨f1, f2⟩ := hf j (by omega)
    have hb : gi ((crdc μ j).1 5) 30 (nI j) (-1) = nI (f j) := by rw [gi_nI (by omega) (by decide), i2 5 (by decide), f1]
    have e1 : (nI (f j) < 48) = (f j < 48) := propext (nI_ltI (b := 48) (by omega) (by decide))
    have e2 : (nI (f j) ≤ 57) = (f j ≤ 57) := propext (nI_leI (b := 57) (by omega) (by decide))
    rw [crdc, firstN_snoc, hb]
    cases ho : firstN (cavp f) j 0 with
    | some x =>
      rw [ho] at i1
      have hx := (firstN_lt ho).2.1
      rw [if_neg (show ¬ (crdc μ j).1 11 2 = -1 from by rw [i1]; exact nI_ne_m1 (by omega))]
      exact ⟨i1, i2⟩
    | none =>
      rw [ho] at i1
      rw [if_pos (show (crdc μ j).1 11 2 = -1 from i1), show 0 + j = j by omega]
      dsimp only
      by_cases c1 : f j < 48
      · rw [if_pos (show nI (f j) < 48 from by rw [e1]; exact c1), if_pos (show cavp f j = true from by simp [cavp, c1])]
        exact ⟨by rw [gm_Is]; rfl, i2.I _ _ (by decide) (by decide)⟩
      · rw [if_neg (show ¬ nI (f j) < 48 from by rw [e1]; exact c1)]
        by_cases c2 : f j ≤ 57
        · rw [if_pos (show nI (f j) ≤ 57 from by rw [e2]; exact c2), if_neg (show ¬ cavp f j = true from by simp [cavp]; omega)]
          exact ⟨i1, i2⟩
        · rw [if_neg (show ¬ nI (f j) ≤ 57 from by rw [e2]; exact c2), if_pos (show cavp f j = true from by simp [cavp]; omega)]
          exact ⟨by rw [gm_Is]; rfl, i2.I _ _ (by decide) (by decide)⟩
theorem cwl_t {m : gm_M} {N : Nat} {f : Nat → Nat} (hN : N ≤ 30) (hf : ∀ j, j < N → m.1 5 j = nI (f j) ∧ f j < 256) (h1 : m.1 11 1 = nI (figs N f)) : ∀ j, j ≤ 30 → FrR 12 12 m (cwl m j) ∧ ∀ n, n < j → (cwl m j).1 12 n = nI (cwa N f n) := by
  have hfl : figs N f ≤ N := by unfold figs; split <;> omega
  intro j
  induction j with
  | zero => intro _; exact ⟨FrR.rf m, fun n hn => absurd hn (Nat.not_lt_zero n)⟩
  | succ j ih =>
    intro hj
    obtain ⟨i1, i2⟩ := ih (by omega)
    rw [show cwl m (j + 1) = cwl_b j (cwl m j) from rfl]
    generalize cwl m j = w at i1 i2 ⊢
    have e11 : w.1 11 1 = nI (figs N f) := by rw [i1 11 (by decide)]; exact h1
    have e : (w.1 11 1 ≤ nI j) = (figs N f ≤ j) := by rw [e11]; exact propext (nI_leI (by omega) (by omega))
    have key : cwl_b j w = gm_I w 12 j (nI (cwa N f j)) := by
      unfold cwl_b cwa
      by_cases c : figs N f ≤ j
      · rw [if_pos (show w.1 11 1 ≤ nI j from by rw [e]; exact c), if_neg (show ¬ j < figs N f by omega)]; rfl
      · have hjN : j < N := by omega
        have hcv : cavF N f = none := by
          unfold figs at c
          by_cases z : cavF N f = none
          · exact z
          · rw [if_neg z] at c; omega
        have hd : cavp f j = false := firstN_none hcv j (by omega) (by omega)
        have h48 : 48 ≤ f j := by simp [cavp] at hd; omega
        rw [if_neg (show ¬ w.1 11 1 ≤ nI j from by rw [e]; exact c), if_pos (show j < figs N f by omega), gi_nI (by omega) (by decide), i1 5 (by decide), (hf j hjN).1, show (48 : Int32) = nI 48 from by decide, pk_sub h48]
    rw [key]
    refine ⟨i1.I _ _ (by decide) (by decide), fun n hn => ?_⟩
    rw [gm_I1, if_pos rfl]
    by_cases z : n = j
    · rw [if_pos z, z]
    · rw [if_neg z]; exact i2 n (by omega)
theorem cave_t {μ : gm_M} {N : Nat} {f : Nat → Nat} (hN : N ≤ 30) (h4 : μ.1 4 1 = nI N) (hf : ∀ j, j < N → μ.1 5 j = nI (f j) ∧ f j < 256) : (cwl (cfig (crdc μ N)) 30).1 11 2 = oI (cavF N f) ∧ (cwl (cfig (crdc μ N)) 30).1 11 1 = nI (figs N f) ∧ (∀ n, n < 30 → (cwl (cfig (crdc μ N)) 30).1 12 n = nI (cwa N f n)) ∧ FrR 11 12 μ (cwl (cfig (crdc μ N)) 30) := by
  obtain ⟨i1, i2⟩ := crdc_t hN hf N (Nat.le_refl _)
  have e4 : (crdc μ N).1 4 1 = nI N := by rw [i2 4 (by decide)]; exact h4
  generalize crdc μ N = m at i1 i2 e4 ⊢
  have hm : (cfig m).1 11 1 = nI (figs N f) ∧ (cfig m).1 11 2 = oI (cavF N f) ∧ FrR 11 11 μ (cfig m) := by
    unfold cfig figs
    have hx : ∀ k, cavF N f = some k → k < 2 ^ 20 := fun k z => by have := (firstN_lt z).2.1; omega
    by_cases c : cavF N f = none
    · rw [if_pos (show m.1 11 2 = -1 from by rw [i1]; exact (oI_m1 hx).mpr c), if_pos c]
      exact ⟨by rw [gm_Is]; exact e4, by rw [gm_Io _ _ _ (by decide)]; exact i1, i2.I _ _ (by decide) (by decide)⟩
    · rw [if_neg (show ¬ m.1 11 2 = -1 from by rw [i1]; exact fun z => c ((oI_m1 hx).mp z)), if_neg c]
      exact ⟨by rw [gm_Is]; rfl, by rw [gm_Io _ _ _ (by decide)]; exact i1, i2.I _ _ (by decide) (by decide)⟩
  obtain ⟨g1, g2, g3⟩ := hm
  generalize cfig m = w at g1 g2 g3 ⊢
  obtain ⟨k1, k2⟩ := cwl_t (m := w) hN (fun j hj => by rw [g3 5 (by decide)]; exact hf j hj) g1 30 (Nat.le_refl _)
  generalize cwl w 30 = u at k1 k2 ⊢
  refine ⟨by rw [k1 11 (by decide)]; exact g2, by rw [k1 11 (by decide)]; exact g1, k2, fun c hc => by rw [k1 c (by omega)]; exact g3 c (by omega)⟩
theorem cwa_le {N : Nat} {f : Nat → Nat} (n : Nat) : cwa N f n ≤ 9 := by
  unfold cwa
  by_cases c : n < figs N f
  · rw [if_pos c]
    unfold figs at c
    by_cases z : cavF N f = none
    · rw [if_pos z] at c
      have := firstN_none z n (by omega) (by omega)
      simp [cavp] at this
      omega
    · rw [if_neg z] at c; omega
  · rw [if_neg c]; omega
