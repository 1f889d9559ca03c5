/-! ONE WHEEL THROUGH THE NIGHTS, in numbers: sort, night, size, time, shrill, letters, turned, knocked, warmth -/
abbrev TR : Type := Nat × Nat × Nat × Nat × Nat × (Nat → Nat) × (Nat → Bool) × (Nat → Bool) × (Nat → Nat)
def tso (t : TR) : Nat := t.1
def tfr (t : TR) : Nat := t.2.1
def tsz (t : TR) : Nat := t.2.2.1
def tti (t : TR) : Nat := t.2.2.2.1
def tsh (t : TR) : Nat := t.2.2.2.2.1
def tsn (t : TR) : Nat → Nat := t.2.2.2.2.2.1
def ttu (t : TR) : Nat → Bool := t.2.2.2.2.2.2.1
def tkn (t : TR) : Nat → Bool := t.2.2.2.2.2.2.2.1
def twa (t : TR) : Nat → Nat := t.2.2.2.2.2.2.2.2
def tgr (t : TR) (n w : Nat) : Nat := (if tso t = 2 then w + 1 else if tso t = 1 then (if ttu t n = true then 0 else w + w / 2) else if ttu t n = true ∨ (0 < n ∧ ttu t (n - 1) = true) then w else w / 2) + (if tkn t n = true then 2 else 0)
def tmo (t : TR) (a : Nat) : Option Nat := if a / tti t < tsz t then some (a / tti t) else none
def tsc (t : TR) (m : Nat) : Bool := decide (m < tsz t) && decide (tsh t ≤ tsn t m)
def tea (t : TR) (a : Nat) : Bool := decide (tso t ≠ 2) && tsc t (a / tti t)
/-- the age, and whether it is eaten, before night n -/
def ta (t : TR) : Nat → Nat × Bool
  | 0 => (0, false)
  | n + 1 => if tfr t ≤ n ∧ (ta t n).2 = false then ((ta t n).1 + tgr t n (twa t n), tea t ((ta t n).1 + tgr t n (twa t n))) else ta t n
def tm (t : TR) (n : Nat) : Option Nat := if tfr t ≤ n ∧ (ta t n).2 = false then tmo t (ta t (n + 1)).1 else none
def tst (t : TR) (n : Nat) : Nat := if n < tfr t then 0 else if (ta t n).2 = true then 4 else if tm t n = none then 2 else if (ta t (n + 1)).2 = true then 3 else 1
def oI : Option Nat → Int32
  | none => -1
  | some m => nI m
def tok (t : TR) : Prop := tso t ≤ 2 ∧ tfr t ≤ 19 ∧ 1 ≤ tsz t ∧ tsz t ≤ 5 ∧ 1 ≤ tti t ∧ tti t ≤ 20 ∧ tsh t ≤ 8 ∧ (∀ j, j < tsz t → tsn t j < 8) ∧ (∀ n, n < 30 → twa t n ≤ 9)
/-- the trial's cells hold the wheel -/
def TI (t : TR) (μ : gm_M) : Prop := tok t ∧ μ.1 25 6 = nI (tso t) ∧ μ.1 25 7 = nI (tfr t) ∧ μ.1 25 8 = nI (tsz t) ∧ μ.1 25 11 = nI (tti t) ∧ (∀ n, n < 30 → bt (μ.1 25 9) n = ttu t n) ∧ (∀ n, n < 30 → bt (μ.1 25 10) n = tkn t n) ∧ (∀ m, m < 5 → bt (μ.1 25 12) m = tsc t m) ∧ (∀ m, m < tsz t → μ.1 26 m = nI (tsn t m)) ∧ (∀ n, n < 30 → μ.1 27 n = nI (twa t n))
theorem tgr_le {t : TR} {n w : Nat} (hw : w ≤ 9) : tgr t n w ≤ 16 := by
  unfold tgr
  repeat' split
  all_goals omega
theorem ta_le {t : TR} (ht : tok t) : ∀ n, n ≤ 30 → (ta t n).1 ≤ 16 * n := by
  intro n
  induction n with
  | zero => intro _; exact Nat.le_refl 0
  | succ n ih =>
    intro hn
    have h1 := ih (by omega)
    have h2 := tgr_le (t := t) (n := n) (ht.2.2.2.2.2.2.2.2 n (by omega))
    simp only [ta]
    split
    · show (ta t n).1 + _ ≤ _
      omega
    · omega
theorem tmo_lt {t : TR} {a m : Nat} (h : tmo t a = some m) : m < tsz t ∧ m = a / tti t := by
  unfold tmo at h
  split at h
  · rename_i h2
    have : a / tti t = m := by injection h
    subst this
    exact ⟨h2, rfl⟩
  · cases h
theorem nI_half {w : Nat} (hw : w < 2 ^ 20) : nI w / 2 = nI (w / 2) := by
  rw [show (2 : Int32) = nI 2 from by decide]
  exact pk_div (by omega) (by decide) (by decide)
theorem nI_lit2 : (2 : Int32) = nI 2 := by decide
theorem nI_lit1 : (1 : Int32) = nI 1 := by decide
/-- growth -/
theorem cgrow_t {t : TR} {μ : gm_M} (h : TI t μ) {n w : Nat} (hn : n < 30) (hw : w < 2 ^ 20) : cgrow μ (nI n) (nI w) = nI (tgr t n w) := by
  obtain ⟨hk, h6, h7, h8, h11, h9, h10, h12, h26, h27⟩ := h
  have e10 : gon (μ.1 25 10) (nI n) = tkn t n := by rw [gon_bt (by omega), h10 n hn]
  have e9 : gon (μ.1 25 9) (nI n) = ttu t n := by rw [gon_bt (by omega), h9 n hn]
  have e9p : gon (μ.1 25 9) (nI n - 1) = (decide (0 < n) && ttu t (n - 1)) := by
    cases n with
    | zero => rw [show nI 0 - 1 = -1 from by decide, gon_neg]; rfl
    | succ n => rw [nI_pred, gon_bt (by omega), h9 n (by omega)]; simp
  have kn : (if tkn t n = true then (2 : Int32) else 0) = nI (if tkn t n = true then 2 else 0) := by split <;> rfl
  unfold cgrow tgr
  rw [h6, e10, e9, e9p, kn, nI_half hw]
  by_cases c2 : tso t = 2
  · rw [if_pos (by rw [c2]; decide), if_pos c2, nI_1, nI_add]
  · rw [if_neg (fun q => c2 ((nI_eq (by have := hk.1; omega) (by decide)).mp (q.trans nI_lit2))), if_neg c2]
    by_cases c1 : tso t = 1
    · rw [if_pos (by rw [c1]; decide), if_pos c1]
      by_cases cu : ttu t n = true
      · rw [if_pos cu, if_pos cu, ← nI_0, nI_add]
      · rw [if_neg cu, if_neg cu, nI_add, nI_add]
    · rw [if_neg (fun q => c1 ((nI_eq (by have := hk.1; omega) (by decide)).mp (q.trans nI_lit1))), if_neg c1]
      by_cases cu : ttu t n = true ∨ (0 < n ∧ ttu t (n - 1) = true)
      · rw [if_pos cu, if_pos (by rcases cu with q | ⟨q1, q2⟩ <;> simp [*]), nI_add]
      · rw [if_neg cu, if_neg (by intro q; apply cu; simpa using q), nI_add]
/-- the moment at an age -/
theorem cmom_t {t : TR} {μ : gm_M} (h : TI t μ) {a : Nat} (ha : a < 2 ^ 20) : cmom μ (nI a) = oI (tmo t a) := by
  obtain ⟨hk, h6, h7, h8, h11, -⟩ := h
  have h5 := hk.2.2.2.2.1
  have h51 := hk.2.2.2.2.2.1
  have h4 := hk.2.2.2.1
  have e : cmo μ (nI a) = nI (a / tti t) := by
    unfold cmo
    rw [h11, if_neg, pk_div (by omega) (by omega) (by omega)]
    rintro (q | q)
    · rw [nI_lit1, nI_ltI (by omega) (by decide)] at q; omega
    · exact q (nI_pos' (by omega))
  have hd : a / tti t ≤ a := Nat.div_le_self _ _
  unfold cmom tmo
  rw [e, h8]
  by_cases c : a / tti t < tsz t
  · rw [if_neg (by rw [nI_leI (by omega) (by omega)]; omega), if_pos c]; rfl
  · rw [if_pos (by rw [nI_leI (by omega) (by omega)]; omega), if_neg c]; rfl
theorem ceat_t {t : TR} {μ : gm_M} (h : TI t μ) (a : Nat) : ceat μ (oI (tmo t a)) = tea t a := by
  obtain ⟨hk, h6, h7, h8, h11, h9, h10, h12, h26, h27⟩ := h
  have h4 := hk.2.2.2.1
  unfold ceat tea
  have e6 : decide (¬ μ.1 25 6 = 2) = decide (tso t ≠ 2) := by
    rw [h6, nI_lit2]
    have := hk.1
    by_cases c : tso t = 2
    · rw [c]; decide
    · have hq : ¬ nI (tso t) = nI 2 := fun q => c ((nI_eq (by omega) (by decide)).mp q)
      simp [c, hq]
  rw [e6]
  congr 1
  unfold tmo
  by_cases c : a / tti t < tsz t
  · rw [if_pos c]
    show gon (μ.1 25 12) (nI (a / tti t)) = _
    rw [gon_bt (by omega), h12 _ (by omega)]
  · rw [if_neg c]
    show gon (μ.1 25 12) (-1) = _
    rw [gon_neg]
    simp [tsc, c]
