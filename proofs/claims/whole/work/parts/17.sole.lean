/-! what is over stays over; the searches without rows -/
theorem ta_mono {t : TR} (n : Nat) : (ta t n).1 ≤ (ta t (n + 1)).1 := by
  simp only [ta]
  split
  · exact Nat.le_add_right _ _
  · exact Nat.le_refl _
theorem ta_mono' {t : TR} {a b : Nat} (h : a ≤ b) : (ta t a).1 ≤ (ta t b).1 := by
  induction b with
  | zero => rw [Nat.le_zero.mp h]; exact Nat.le_refl _
  | succ b ih =>
    rcases Nat.lt_or_ge a (b + 1) with q | q
    · exact Nat.le_trans (ih (by omega)) (ta_mono b)
    · rw [show a = b + 1 by omega]; exact Nat.le_refl _
theorem ta_gone {t : TR} {a b : Nat} (h : a ≤ b) (hg : (ta t a).2 = true) : (ta t b).2 = true := by
  induction b with
  | zero => rw [Nat.le_zero.mp h] at hg; exact hg
  | succ b ih =>
    rcases Nat.lt_or_ge a (b + 1) with q | q
    · have h1 := ih (by omega)
      simp only [ta]
      rw [if_neg (by rw [h1]; simp)]
      exact h1
    · rw [show b + 1 = a by omega]; exact hg
theorem tm_over {t : TR} {n y : Nat} (h : tmo t (ta t (n + 1)).1 = none) (hy : n ≤ y) : tm t y = none := by
  unfold tm
  split
  · unfold tmo at h ⊢
    split at h
    · cases h
    · rename_i h2
      rw [if_neg]
      have := Nat.div_le_div_right (c := tti t) (ta_mono' (t := t) (show n + 1 ≤ y + 1 by omega))
      omega
  · rfl
theorem tm_gone {t : TR} {n y : Nat} (h : (ta t n).2 = true) (hy : n ≤ y) : tm t y = none := by
  unfold tm
  rw [if_neg (by rw [ta_gone hy h]; simp)]
theorem tm_before {t : TR} {y : Nat} (h : y < tfr t) : tm t y = none := by unfold tm; rw [if_neg (by omega)]
/-- one step of the numbers, as the searches take it -/
theorem step_t {t : TR} {μ : gm_M} (h : TI t μ) {n : Nat} (hn : n < 30) (hf : tfr t ≤ n) (hg : (ta t n).2 = false) : nI (ta t n).1 + cgrow μ (nI n) (gi (μ.1 27) 30 (nI n) 5) = nI (ta t (n + 1)).1 ∧ cmom μ (nI (ta t (n + 1)).1) = oI (tm t n) ∧ tm t n = tmo t (ta t (n + 1)).1 ∧ ceat μ (oI (tm t n)) = (ta t (n + 1)).2 := by
  have hwa := h.1.2.2.2.2.2.2.2.2 n hn
  have hle := ta_le h.1 n (by omega)
  have hgr := tgr_le (t := t) (n := n) hwa
  have e1 : ta t (n + 1) = ((ta t n).1 + tgr t n (twa t n), tea t ((ta t n).1 + tgr t n (twa t n))) := by simp only [ta]; rw [if_pos ⟨hf, hg⟩]
  have hw : gi (μ.1 27) 30 (nI n) 5 = nI (twa t n) := by rw [gi_nI hn (by decide), h.2.2.2.2.2.2.2.2.2 n hn]
  have hb : (ta t (n + 1)).1 < 2 ^ 20 := by rw [e1]; show (ta t n).1 + _ < _; omega
  have htm : tm t n = tmo t (ta t (n + 1)).1 := by unfold tm; rw [if_pos ⟨hf, hg⟩]
  refine ⟨by rw [hw, cgrow_t h hn (by omega), nI_add, e1], by rw [cmom_t h hb, htm], htm, by rw [htm, ceat_t h, e1]⟩
theorem tm_small {t : TR} {μ : gm_M} (h : TI t μ) (n : Nat) : ∀ k, tm t n = some k → k < 2 ^ 20 := fun k q => by have := tm_lt q; have := h.1.2.2.2.1; omega
theorem csoleL_t {t : TR} {μ : gm_M} (h : TI t μ) {x : Nat} (hx : x < 30) : ∀ k n, n + k = x → tfr t ≤ n → (ta t n).2 = false → csoleF μ (tfr t) x (csoleL μ k n (nI (ta t n).1)) = oI (tm t x) := by
  intro k
  induction k with
  | zero =>
    intro n hk hf hg
    have : n = x := by omega
    subst this
    obtain ⟨s1, s2, s3, s4⟩ := step_t h hx hf hg
    show (if n < tfr t then -1 else cmom μ (nI (ta t n).1 + cgrow μ (nI n) (gi (μ.1 27) 30 (nI n) 5))) = _
    rw [if_neg (by omega), s1, s2]
  | succ k ih =>
    intro n hk hf hg
    obtain ⟨s1, s2, s3, s4⟩ := step_t h (show n < 30 by omega) hf hg
    rw [csoleL, s1, s2, s4]
    by_cases c : tm t n = none
    · rw [if_pos (Or.inl ((oI_m1 (tm_small h n)).mpr c))]
      rw [tm_over (n := n) (y := x) (by rw [← s3]; exact c) (by omega)]
      rfl
    · cases hg2 : (ta t (n + 1)).2 with
      | true =>
        rw [if_pos (Or.inr rfl), tm_gone hg2 (by omega)]
        rfl
      | false =>
        rw [if_neg (by rintro (q | q); exact c ((oI_m1 (tm_small h n)).mp q); cases q)]
        exact ih (n + 1) (by omega) (by omega) hg2
theorem csole_t {t : TR} {μ : gm_M} (h : TI t μ) {x : Nat} (hx : x < 30) : csole μ (tfr t) x = oI (tm t x) := by
  unfold csole
  by_cases c : x < tfr t
  · rw [show x - tfr t = 0 by omega, csoleL, csoleF, if_pos c, tm_before c]
    rfl
  · have e := ta_before (t := t) (tfr t) (Nat.le_refl _)
    have := csoleL_t h hx (x - tfr t) (tfr t) (by omega) (Nat.le_refl _) (by rw [e])
    rw [e] at this
    exact this
/-- on how many of the first n nights it is heard -/
def tct (t : TR) : Nat → Nat
  | 0 => 0
  | n + 1 => tct t n + (if (tm t n).isSome = true then 1 else 0)
theorem tct_same {t : TR} {n m : Nat} (hnm : n ≤ m) (h : ∀ y, n ≤ y → y < m → tm t y = none) : tct t m = tct t n := by
  induction m with
  | zero => rw [Nat.le_zero.mp hnm]
  | succ m ih =>
    rcases Nat.lt_or_ge n (m + 1) with q | q
    · rw [tct, h m (by omega) (by omega), ih (by omega) (fun y a b => h y a (by omega))]
      rfl
    · rw [show n = m + 1 by omega]
theorem clongL_t {t : TR} {μ : gm_M} (h : TI t μ) : ∀ k n, n + k = 30 → tfr t ≤ n → (ta t n).2 = false → clongL μ k n (nI (ta t n).1) (nI (tct t n)) = nI (tct t 30) := by
  intro k
  induction k with
  | zero => intro n hk _ _; rw [clongL, show n = 30 by omega]
  | succ k ih =>
    intro n hk hf hg
    obtain ⟨s1, s2, s3, s4⟩ := step_t h (show n < 30 by omega) hf hg
    rw [clongL, s1, s2, s4]
    by_cases c : tm t n = none
    · rw [if_pos ((oI_m1 (tm_small h n)).mpr c)]
      rw [tct_same (n := n) (m := 30) (by omega) (fun y a b => tm_over (n := n) (by rw [← s3]; exact c) a)]
    · rw [if_neg (fun q => c ((oI_m1 (tm_small h n)).mp q))]
      have hs : (tm t n).isSome = true := by cases hq : tm t n with
        | none => exact absurd hq c
        | some _ => rfl
      have e1 : tct t (n + 1) = tct t n + 1 := by rw [tct, if_pos hs]
      cases hg2 : (ta t (n + 1)).2 with
      | true =>
        rw [if_pos rfl, nI_1, ← e1, tct_same (n := n + 1) (m := 30) (by omega) (fun y a b => tm_gone hg2 a)]
      | false =>
        rw [if_neg (by decide), nI_1, ← e1]
        exact ih (n + 1) (by omega) (by omega) hg2
theorem clong_t {t : TR} {μ : gm_M} (h : TI t μ) : clongL μ (30 - tfr t) (tfr t) 0 0 = nI (tct t 30) := by
  have e := ta_before (t := t) (tfr t) (Nat.le_refl _)
  have hf := h.1.2.1
  have := clongL_t h (30 - tfr t) (tfr t) (by omega) (Nat.le_refl _) (by rw [e])
  rw [e, tct_same (n := 0) (m := tfr t) (Nat.zero_le _) (fun y _ b => tm_before b)] at this
  exact this
/-- the first number from j on, among k, with p -/
def firstN (p : Nat → Bool) : Nat → Nat → Option Nat
  | 0, _ => none
  | k + 1, j => if p j = true then some j else firstN p k (j + 1)
def tscr (t : TR) (n : Nat) : Bool := match tm t n with
  | none => false
  | some m => tsc t m
theorem cscr_t {t : TR} {μ : gm_M} (h : TI t μ) (hR : RO t 30 μ) : ∀ k j, j + k = 30 → cscrL μ k j = oI (firstN (tscr t) k j) := by
  intro k
  induction k with
  | zero => intro j _; rfl
  | succ k ih =>
    intro j hk
    have e : gon (μ.1 25 12) (gi (μ.1 29) 30 (nI j) (-1)) = tscr t j := by
      rw [gi_nI (by omega) (by decide), (hR.1 j (by omega)).2.1]
      unfold tscr
      cases ho : tm t j with
      | none => exact gon_neg
      | some m =>
        have := tm_lt ho
        have := h.1.2.2.2.1
        show gon (μ.1 25 12) (nI m) = tsc t m
        rw [gon_bt (by omega), h.2.2.2.2.2.2.2.1 m (by omega)]
    rw [cscrL, firstN, e]
    by_cases c : tscr t j = true
    · rw [if_pos c, if_pos c]; rfl
    · rw [if_neg c, if_neg c]
      exact ih (j + 1) (by omega)
