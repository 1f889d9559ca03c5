/-! FROST: all sets of nights, or one age after another: one weight -/
def stp (t : TR) (v n : Nat) (st : Nat × Bool) : Nat × Bool := if tfr t ≤ n ∧ st.2 = false then (st.1 + tgr t n v, tea t (st.1 + tgr t n v)) else st
def hxt (t : TR) (v n : Nat) (st : Nat × Bool) : Bool := if tfr t ≤ n ∧ st.2 = false then (tmo t (st.1 + tgr t n v)).isSome else false
def hrun (t : TR) (w : Nat → Nat) : Nat → Nat → Nat × Bool → Bool
  | 0, n, st => hxt t (w n) n st
  | m + 1, n, st => hrun t w m (n + 1) (stp t (w n) n st)
theorem hrun_tm (t : TR) (w : Nat → Nat) : ∀ m n, hrun t w m n (ta (trwa t w) n) = (tm (trwa t w) (n + m)).isSome := by
  intro m
  induction m with
  | zero =>
    intro n
    show (if tfr t ≤ n ∧ (ta (trwa t w) n).2 = false then (tmo t ((ta (trwa t w) n).1 + tgr t n (w n))).isSome else false) = (if tfr t ≤ n ∧ (ta (trwa t w) n).2 = false then tmo t (ta (trwa t w) (n + 1)).1 else none).isSome
    by_cases z : tfr t ≤ n ∧ (ta (trwa t w) n).2 = false
    · rw [if_pos z, if_pos z]
      have e : ta (trwa t w) (n + 1) = stp t (w n) n (ta (trwa t w) n) := rfl
      rw [e, stp, if_pos z]
    · rw [if_neg z, if_neg z]; rfl
  | succ m ih =>
    intro n
    show hrun t w m (n + 1) (ta (trwa t w) (n + 1)) = _
    rw [ih (n + 1), show n + 1 + m = n + (m + 1) by omega]
theorem hrun_cong {t : TR} {w w2 : Nat → Nat} : ∀ m n st, (∀ y, n ≤ y → w y = w2 y) → hrun t w m n st = hrun t w2 m n st := by
  intro m
  induction m with
  | zero => intro n st h; show hxt t (w n) n st = hxt t (w2 n) n st; rw [h n (Nat.le_refl _)]
  | succ m ih =>
    intro n st h
    show hrun t w m (n + 1) (stp t (w n) n st) = hrun t w2 m (n + 1) (stp t (w2 n) n st)
    rw [h n (Nat.le_refl _)]
    exact ih (n + 1) _ (fun y hy => h y (by omega))
theorem hrun_gone {t : TR} {w : Nat → Nat} : ∀ m n a, hrun t w m n (a, true) = false := by
  intro m
  induction m with
  | zero => intro n a; show (if tfr t ≤ n ∧ true = false then _ else false) = false; rw [if_neg (by simp)]
  | succ m ih =>
    intro n a
    show hrun t w m (n + 1) (if tfr t ≤ n ∧ true = false then _ else (a, true)) = false
    rw [if_neg (by simp)]
    exact ih (n + 1) a
def pwN (c s : Nat) : Nat → Nat
  | 0 => 1
  | n + 1 => pwN c s n * (if s.testBit n = true then c else 16 - c)
theorem pwN_low (c s b : Nat) (hb : b < 2) : ∀ j, pwN c (2 * s + b) (j + 1) = (if b = 1 then c else 16 - c) * pwN c s j := by
  intro j
  induction j with
  | zero =>
    show 1 * (if (2 * s + b).testBit 0 = true then c else 16 - c) = (if b = 1 then c else 16 - c) * 1
    rw [Nat.one_mul, Nat.mul_one, Nat.testBit_zero]
    have : ((2 * s + b) % 2 = 1) = (b = 1) := propext (by omega)
    simp only [this, decide_eq_true_eq]
  | succ j ih =>
    show pwN c (2 * s + b) (j + 1) * (if (2 * s + b).testBit (j + 1) = true then c else 16 - c) = (if b = 1 then c else 16 - c) * (pwN c s j * (if s.testBit j = true then c else 16 - c))
    rw [ih, Nat.testBit_succ, show (2 * s + b) / 2 = s by omega, Nat.mul_assoc]
def wfr (g : Nat → Nat) (n j s : Nat) : Nat → Nat := fun y => if n ≤ y ∧ y < n + j ∧ s.testBit (y - n) = true then 0 else g y
theorem wfr_n (g : Nat → Nat) (n j s b : Nat) (hb : b < 2) : wfr g n (j + 1) (2 * s + b) n = if b = 1 then 0 else g n := by
  unfold wfr
  rw [Nat.sub_self, Nat.testBit_zero]
  by_cases z : b = 1
  · rw [if_pos z, if_pos ⟨Nat.le_refl _, by omega, decide_eq_true (by omega)⟩]
  · rw [if_neg z, if_neg (fun h => z (by have := decide_eq_true_eq.mp h.2.2; omega))]
theorem wfr_up (g : Nat → Nat) (n j s b : Nat) (hb : b < 2) {y : Nat} (hy : n + 1 ≤ y) : wfr g n (j + 1) (2 * s + b) y = wfr g (n + 1) j s y := by
  unfold wfr
  have e : (2 * s + b).testBit (y - n) = s.testBit (y - (n + 1)) := by
    rw [show y - n = (y - (n + 1)) + 1 by omega, Nat.testBit_succ, show (2 * s + b) / 2 = s by omega]
  rw [e]
  have : (n ≤ y ∧ y < n + (j + 1) ∧ s.testBit (y - (n + 1)) = true) = (n + 1 ≤ y ∧ y < n + 1 + j ∧ s.testBit (y - (n + 1)) = true) := propext (by
    constructor
    · rintro ⟨h1, h2, h3⟩; exact ⟨hy, by omega, h3⟩
    · rintro ⟨h1, h2, h3⟩; exact ⟨by omega, by omega, h3⟩)
  simp only [this]
def b2 (b : Bool) : Nat := if b = true then 1 else 0
theorem sumN_two (F : Nat → Nat) : ∀ N, sumN F (2 * N) = sumN (fun s => F (2 * s) + F (2 * s + 1)) N := by
  intro N
  induction N with
  | zero => rfl
  | succ N ih =>
    rw [show 2 * (N + 1) = 2 * N + 1 + 1 by omega, sumN, sumN, ih, sumN]
    omega
theorem sumN_cong {f g : Nat → Nat} : ∀ N, (∀ i, i < N → f i = g i) → sumN f N = sumN g N := by
  intro N
  induction N with
  | zero => intro _; rfl
  | succ N ih => intro h; rw [sumN, sumN, ih (fun i hi => h i (by omega)), h N (by omega)]
theorem sumN_mul (a : Nat) (f : Nat → Nat) : ∀ N, sumN (fun s => a * f s) N = a * sumN f N := by
  intro N
  induction N with
  | zero => rfl
  | succ N ih => rw [sumN, sumN, ih, Nat.mul_add]
def UF (t : TR) (c j n m : Nat) (st : Nat × Bool) : Nat := sumN (fun s => pwN c s j * b2 (hrun t (wfr (twa t) n j s) m n st)) (2 ^ j)
theorem pw2 (j : Nat) : 2 ^ (j + 1) = 2 * 2 ^ j := by rw [Nat.pow_succ, Nat.mul_comm]
theorem UF_s (t : TR) (c j n m : Nat) (st : Nat × Bool) : UF t c (j + 1) n (m + 1) st = (16 - c) * UF t c j (n + 1) m (stp t (twa t n) n st) + c * UF t c j (n + 1) m (stp t 0 n st) := by
  unfold UF
  rw [pw2, sumN_two, ← sumN_mul, ← sumN_mul, ← sumN_add]
  refine sumN_cong _ (fun s _ => ?_)
  have h0 : hrun t (wfr (twa t) n (j + 1) (2 * s)) (m + 1) n st = hrun t (wfr (twa t) (n + 1) j s) m (n + 1) (stp t (twa t n) n st) := by
    show hrun t (wfr (twa t) n (j + 1) (2 * s)) m (n + 1) (stp t (wfr (twa t) n (j + 1) (2 * s) n) n st) = _
    have e : wfr (twa t) n (j + 1) (2 * s) n = twa t n := (wfr_n (twa t) n j s 0 (by decide)).trans (if_neg (by decide))
    rw [e]
    exact hrun_cong _ _ _ (fun y hy => wfr_up (twa t) n j s 0 (by decide) hy)
  have h1 : hrun t (wfr (twa t) n (j + 1) (2 * s + 1)) (m + 1) n st = hrun t (wfr (twa t) (n + 1) j s) m (n + 1) (stp t 0 n st) := by
    show hrun t (wfr (twa t) n (j + 1) (2 * s + 1)) m (n + 1) (stp t (wfr (twa t) n (j + 1) (2 * s + 1) n) n st) = _
    rw [wfr_n (twa t) n j s 1 (by decide), if_pos rfl]
    exact hrun_cong _ _ _ (fun y hy => wfr_up (twa t) n j s 1 (by decide) hy)
  have p0 := pwN_low c s 0 (by decide) j
  rw [Nat.add_zero, if_neg (by decide)] at p0
  have p1 := pwN_low c s 1 (by decide) j
  rw [if_pos rfl] at p1
  show pwN c (2 * s) (j + 1) * b2 (hrun t (wfr (twa t) n (j + 1) (2 * s)) (m + 1) n st) + pwN c (2 * s + 1) (j + 1) * b2 (hrun t (wfr (twa t) n (j + 1) (2 * s + 1)) (m + 1) n st) = _
  rw [h0, h1, p0, p1, Nat.mul_assoc, Nat.mul_assoc]
theorem pw_sum {c : Nat} (hc : c ≤ 16) : ∀ j, sumN (fun s => pwN c s j) (2 ^ j) = 16 ^ j := by
  intro j
  induction j with
  | zero => rfl
  | succ j ih =>
    rw [pw2, sumN_two, Nat.pow_succ, ← ih, Nat.mul_comm, ← sumN_mul]
    refine sumN_cong _ (fun s _ => ?_)
    have p0 := pwN_low c s 0 (by decide) j
    rw [Nat.add_zero, if_neg (by decide)] at p0
    have p1 := pwN_low c s 1 (by decide) j
    rw [if_pos rfl] at p1
    show pwN c (2 * s) (j + 1) + pwN c (2 * s + 1) (j + 1) = 16 * pwN c s j
    rw [p0, p1, ← Nat.add_mul, show 16 - c + c = 16 by omega]
theorem UF_z (t : TR) {c : Nat} (hc : c ≤ 16) (j n : Nat) (st : Nat × Bool) : UF t c (j + 1) n 0 st = ((16 - c) * b2 (hxt t (twa t n) n st) + c * b2 (hxt t 0 n st)) * 16 ^ j := by
  unfold UF
  rw [pw2, sumN_two, ← pw_sum hc j, ← sumN_mul]
  refine sumN_cong _ (fun s _ => ?_)
  have p0 := pwN_low c s 0 (by decide) j
  rw [Nat.add_zero, if_neg (by decide)] at p0
  have p1 := pwN_low c s 1 (by decide) j
  rw [if_pos rfl] at p1
  have e : wfr (twa t) n (j + 1) (2 * s) n = twa t n := (wfr_n (twa t) n j s 0 (by decide)).trans (if_neg (by decide))
  show pwN c (2 * s) (j + 1) * b2 (hxt t (wfr (twa t) n (j + 1) (2 * s) n) n st) + pwN c (2 * s + 1) (j + 1) * b2 (hxt t (wfr (twa t) n (j + 1) (2 * s + 1) n) n st) = _
  rw [p0, p1, e, wfr_n (twa t) n j s 1 (by decide), if_pos rfl, Nat.add_mul, Nat.mul_right_comm, Nat.mul_right_comm c]
theorem UF_0 (t : TR) (c n m : Nat) (st : Nat × Bool) : UF t c 0 n m st = b2 (hrun t (twa t) m n st) := by
  unfold UF
  show 0 + 1 * b2 (hrun t (wfr (twa t) n 0 0) m n st) = _
  rw [Nat.zero_add, Nat.one_mul, hrun_cong m n st (w2 := twa t) (fun y hy => by unfold wfr; rw [if_neg (by omega)])]
theorem UF_gone (t : TR) (c j n m a : Nat) : UF t c j n m (a, true) = 0 := by
  unfold UF
  rw [sumN_cong (g := fun _ => 0) _ (fun s _ => by rw [hrun_gone]; exact Nat.mul_zero _)]
  exact sumN_zero (fun _ => rfl) _
def ccN (c last n : Nat) : Nat := if n ≤ last then c else 0
def ssN (last n : Nat) : Nat := if n ≤ last then 16 else 1
def Gb (t : TR) (c last : Nat) : Nat → Nat → Nat → Nat
  | 0, n, a => ccN c last n * b2 (tmo t (a + tgr t n 0)).isSome + (ssN last n - ccN c last n) * b2 (tmo t (a + tgr t n (twa t n))).isSome
  | m + 1, n, a => ccN c last n * (if tea t (a + tgr t n 0) = true then 0 else Gb t c last m (n + 1) (a + tgr t n 0)) + (ssN last n - ccN c last n) * (if tea t (a + tgr t n (twa t n)) = true then 0 else Gb t c last m (n + 1) (a + tgr t n (twa t n)))
theorem stp_in {t : TR} {v n a : Nat} (h : tfr t ≤ n) : stp t v n (a, false) = (a + tgr t n v, tea t (a + tgr t n v)) := by unfold stp; rw [if_pos ⟨h, rfl⟩]
theorem hxt_in {t : TR} {v n a : Nat} (h : tfr t ≤ n) : hxt t v n (a, false) = (tmo t (a + tgr t n v)).isSome := by unfold hxt; rw [if_pos ⟨h, rfl⟩]
theorem UF_Gb {t : TR} {c last : Nat} (hc : c ≤ 16) : ∀ m n a, tfr t ≤ n → UF t c (last + 1 - n) n m (a, false) = Gb t c last m n a * 16 ^ (last + 1 - n - (m + 1)) := by
  intro m
  induction m with
  | zero =>
    intro n a h
    by_cases z : n ≤ last
    · rw [show last + 1 - n = (last - n) + 1 by omega, UF_z t hc, hxt_in h, hxt_in h, show last - n + 1 - (0 + 1) = last - n by omega]
      unfold Gb ccN ssN
      rw [if_pos z, if_pos z, Nat.add_comm]
    · rw [show last + 1 - n = 0 by omega, UF_0]
      show b2 (hxt t (twa t n) n (a, false)) = _
      unfold Gb ccN ssN
      rw [if_neg z, if_neg z, hxt_in h, Nat.zero_mul, Nat.zero_add, Nat.sub_zero, Nat.one_mul, Nat.zero_sub, Nat.pow_zero, Nat.mul_one]
  | succ m ih =>
    intro n a h
    have key : ∀ z, UF t c (last + 1 - (n + 1)) (n + 1) m (z, tea t z) = (if tea t z = true then 0 else Gb t c last m (n + 1) z) * 16 ^ (last + 1 - (n + 1) - (m + 1)) := by
      intro z
      cases ht : tea t z with
      | true => rw [UF_gone, if_pos rfl, Nat.zero_mul]
      | false => rw [if_neg (by decide)]; exact ih (n + 1) z (by omega)
    by_cases z : n ≤ last
    · rw [show last + 1 - n = (last + 1 - (n + 1)) + 1 by omega, UF_s, stp_in h, stp_in h, key, key, show last + 1 - (n + 1) + 1 - (m + 1 + 1) = last + 1 - (n + 1) - (m + 1) by omega]
      show _ = (ccN c last n * _ + (ssN last n - ccN c last n) * _) * _
      unfold ccN ssN
      rw [if_pos z, if_pos z, Nat.add_mul, Nat.mul_assoc, Nat.mul_assoc, Nat.add_comm]
    · have e : UF t c (last + 1 - n) n (m + 1) (a, false) = UF t c (last + 1 - (n + 1)) (n + 1) m (a + tgr t n (twa t n), tea t (a + tgr t n (twa t n))) := by
        rw [show last + 1 - n = 0 by omega, show last + 1 - (n + 1) = 0 by omega, UF_0, UF_0, ← stp_in h]
        rfl
      rw [e, key, show last + 1 - n - (m + 1 + 1) = last + 1 - (n + 1) - (m + 1) by omega]
      show _ = (ccN c last n * _ + (ssN last n - ccN c last n) * _) * _
      unfold ccN ssN
      rw [if_neg z, if_neg z, Nat.zero_mul, Nat.zero_add, Nat.sub_zero, Nat.one_mul]
theorem UF_before {t : TR} {c last : Nat} (hc : c ≤ 16) : ∀ d n m, n + d = tfr t → UF t c (last + 1 - n) n (m + d) (0, false) = 16 ^ min (last + 1 - n) d * UF t c (last + 1 - tfr t) (tfr t) m (0, false) := by
  intro d
  induction d with
  | zero => intro n m h; rw [← h]; show UF t c (last + 1 - n) n m _ = 16 ^ min (last + 1 - n) 0 * UF t c (last + 1 - n) n m _; rw [Nat.min_zero, Nat.pow_zero, Nat.one_mul]
  | succ d ih =>
    intro n m h
    have hs : ∀ v, stp t v n (0, false) = (0, false) := fun v => by unfold stp; rw [if_neg (fun y => by omega)]
    by_cases z : n ≤ last
    · rw [show last + 1 - n = (last + 1 - (n + 1)) + 1 by omega, show m + (d + 1) = (m + d) + 1 by omega, UF_s, hs, hs, ← Nat.add_mul, show 16 - c + c = 16 by omega, ih (n + 1) m (by omega), show min (last + 1 - (n + 1) + 1) (d + 1) = min (last + 1 - (n + 1)) d + 1 by omega, Nat.pow_succ, ← Nat.mul_assoc, Nat.mul_comm 16]
    · have e : UF t c (last + 1 - n) n (m + (d + 1)) (0, false) = UF t c (last + 1 - (n + 1)) (n + 1) (m + d) (0, false) := by
        rw [show last + 1 - n = 0 by omega, show last + 1 - (n + 1) = 0 by omega, UF_0, UF_0, ← hs (twa t n)]
        show b2 (hrun t (twa t) (m + d) (n + 1) (stp t (twa t n) n (stp t (twa t n) n (0, false)))) = _
        rw [hs, hs]
      rw [e, ih (n + 1) m (by omega), show min (last + 1 - n) (d + 1) = min (last + 1 - (n + 1)) d by omega]
/-! the class's way: forward -/
theorem tmo_up {t : TR} {a b : Nat} (h : tmo t a = none) (hab : a ≤ b) : tmo t b = none := by
  unfold tmo at h ⊢
  split at h
  · cases h
  · rename_i h2
    rw [if_neg]
    have := Nat.div_le_div_right (c := tti t) hab
    omega
theorem Gb_over {t : TR} {c last : Nat} : ∀ m n a, tmo t a = none → Gb t c last m n a = 0 := by
  intro m
  induction m with
  | zero =>
    intro n a h
    show _ * b2 (tmo t _).isSome + _ * b2 (tmo t _).isSome = 0
    rw [tmo_up h (Nat.le_add_right _ _), tmo_up h (Nat.le_add_right _ _)]
    rfl
  | succ m ih =>
    intro n a h
    have k : ∀ z, a ≤ z → (if tea t z = true then 0 else Gb t c last m (n + 1) z) = 0 := fun z hz => by
      split
      · rfl
      · exact ih (n + 1) z (tmo_up h hz)
    show _ * (if tea t _ = true then 0 else _) + _ * (if tea t _ = true then 0 else _) = 0
    rw [k _ (Nat.le_add_right _ _), k _ (Nat.le_add_right _ _)]
    rfl
theorem okA_eq {t : TR} (ht : tok t) (a : Nat) : okA t a = (tmo t a).isSome := by
  unfold okA
  cases h : tmo t a with
  | none => rfl
  | some z =>
    have h1 := tmo_lt h
    have h5 := ht.2.2.2.1
    have h20 := ht.2.2.2.2.2.1
    have h01 := ht.2.2.2.2.1
    have h2 : a / tti t < 5 := by omega
    have h3 := (Nat.div_lt_iff_lt_mul h01).mp h2
    have : a < 100 := by omega
    simp [this]
theorem sumN_pt2 {Q : Nat → Bool} (Γ : Nat → Nat) (v p : Nat) : ∀ N, sumN (fun a => (if a = p ∧ Q a = true then v else 0) * Γ a) N = if p < N ∧ Q p = true then v * Γ p else 0 := by
  intro N
  induction N with
  | zero => rw [if_neg (by omega)]; rfl
  | succ N ih =>
    rw [sumN, ih]
    by_cases z : N = p
    · subst z
      rw [if_neg (by omega)]
      by_cases y : Q N = true
      · rw [if_pos ⟨rfl, y⟩, if_pos ⟨by omega, y⟩, Nat.zero_add]
      · rw [if_neg (fun h => y h.2), if_neg (fun h => y h.2), Nat.zero_mul]
    · rw [if_neg (fun h : N = p ∧ _ => z h.1), Nat.zero_mul, Nat.add_zero]
      have : (p < N ∧ Q p = true) = (p < N + 1 ∧ Q p = true) := propext ⟨fun h => ⟨by omega, h.2⟩, fun h => ⟨by omega, h.2⟩⟩
      simp only [this]
def ozN (t : TR) (Γ : Nat → Nat) (a : Nat) : Nat := if okA t a = true then Γ a else 0
theorem okA_lt {t : TR} {a : Nat} (h : okA t a = true) : a < 100 := by
  unfold okA at h
  rw [Bool.and_eq_true, decide_eq_true_eq] at h
  exact h.2
theorem fwst_dot (t : TR) (c s g0 g1 : Nat) (w Γ : Nat → Nat) : ∀ B, sumN (fun a => fwst t c s g0 g1 w B a * Γ a) 100 = sumN (fun b => w b * (c * ozN t Γ (b + g0) + (s - c) * ozN t Γ (b + g1))) B := by
  intro B
  induction B with
  | zero => exact sumN_zero (fun a => Nat.zero_mul _) 100
  | succ B ih =>
    rw [show sumN (fun b => w b * (c * ozN t Γ (b + g0) + (s - c) * ozN t Γ (b + g1))) (B + 1) = sumN (fun b => w b * (c * ozN t Γ (b + g0) + (s - c) * ozN t Γ (b + g1))) B + w B * (c * ozN t Γ (B + g0) + (s - c) * ozN t Γ (B + g1)) from rfl, ← ih]
    have pt : ∀ p v, sumN (fun a => (if a = p ∧ okA t a = true then v else 0) * Γ a) 100 = v * ozN t Γ p := by
      intro p v
      rw [sumN_pt2]
      unfold ozN
      by_cases z : okA t p = true
      · rw [if_pos ⟨okA_lt z, z⟩, if_pos z]
      · rw [if_neg (fun h => z h.2), if_neg z, Nat.mul_zero]
    rw [Nat.mul_add, ← Nat.mul_assoc, ← Nat.mul_assoc, ← pt, ← pt, ← sumN_add, ← sumN_add]
    refine sumN_cong _ (fun a _ => ?_)
    show (fwst t c s g0 g1 w B a + ((if a = B + g0 ∧ okA t a = true then w B * c else 0) + (if a = B + g1 ∧ okA t a = true then w B * (s - c) else 0))) * Γ a = _
    rw [Nat.add_mul, Nat.add_mul]
theorem sumN_one (Γ : Nat → Nat) : ∀ N, 0 < N → sumN (fun a => (if a = 0 then 1 else 0) * Γ a) N = Γ 0 := by
  intro N
  induction N with
  | zero => intro h; exact absurd h (Nat.lt_irrefl 0)
  | succ N ih =>
    intro _
    rw [sumN]
    rcases Nat.eq_zero_or_pos N with z | z
    · subst z; show 0 + (if 0 = 0 then 1 else 0) * Γ 0 = _; rw [if_pos rfl]; omega
    · rw [ih z, if_neg (by omega), Nat.zero_mul, Nat.add_zero]
theorem FW_dot {t : TR} (ht : tok t) {c last x : Nat} : ∀ k, tfr t + k ≤ x → sumN (fun a => FW t c last x k a * Gb t c last (x - (tfr t + k)) (tfr t + k) a) 100 = Gb t c last (x - tfr t) (tfr t) 0 := by
  intro k
  induction k with
  | zero => intro _; exact sumN_one (fun a => Gb t c last (x - tfr t) (tfr t) a) 100 (by decide)
  | succ k ih =>
    intro h
    rw [← ih (by omega)]
    have e : sumN (fun a => FW t c last x (k + 1) a * Gb t c last (x - (tfr t + (k + 1))) (tfr t + (k + 1)) a) 100 = sumN (fun a => fwst t (ccN c last (tfr t + k)) (ssN last (tfr t + k)) (tgr t (tfr t + k) 0) (tgr t (tfr t + k) (twa t (tfr t + k))) (FW t c last x k) 100 a * (if tea t a = true then 0 else Gb t c last (x - (tfr t + (k + 1))) (tfr t + (k + 1)) a)) 100 := by
      refine sumN_cong _ (fun a _ => ?_)
      show (if tfr t + k < x ∧ tea t a = true then 0 else _) * _ = _
      by_cases z : tea t a = true
      · rw [if_pos ⟨by omega, z⟩, if_pos z, Nat.zero_mul, Nat.mul_zero]
      · rw [if_neg (fun y => z y.2), if_neg z]
        rfl
    rw [e, fwst_dot]
    refine sumN_cong _ (fun b _ => ?_)
    congr 1
    rw [show x - (tfr t + k) = (x - (tfr t + (k + 1))) + 1 by omega]
    have oz : ∀ z, ozN t (fun a => if tea t a = true then 0 else Gb t c last (x - (tfr t + (k + 1))) (tfr t + (k + 1)) a) z = (if tea t z = true then 0 else Gb t c last (x - (tfr t + (k + 1))) (tfr t + (k + 1)) z) := by
      intro z
      unfold ozN
      rw [okA_eq ht]
      cases hz : tmo t z with
      | some y => rw [if_pos (show (some y).isSome = true from rfl)]
      | none => rw [if_neg (by decide), Gb_over _ _ _ hz]; split <;> rfl
    rw [oz, oz]
    rfl
theorem FW_all {t : TR} (ht : tok t) {c last x : Nat} (hx : tfr t ≤ x) : sumN (FW t c last x (x + 1 - tfr t)) 100 = Gb t c last (x - tfr t) (tfr t) 0 := by
  rw [← FW_dot ht (x - tfr t) (by omega), show x + 1 - tfr t = (x - tfr t) + 1 by omega]
  have ex : tfr t + (x - tfr t) = x := by omega
  have e : sumN (FW t c last x (x - tfr t + 1)) 100 = sumN (fun a => fwst t (ccN c last x) (ssN last x) (tgr t x 0) (tgr t x (twa t x)) (FW t c last x (x - tfr t)) 100 a * 1) 100 := by
    refine sumN_cong _ (fun a _ => ?_)
    show (if tfr t + (x - tfr t) < x ∧ tea t a = true then 0 else _) = _
    rw [if_neg (by omega), ex, Nat.mul_one]
    rfl
  rw [e, fwst_dot t _ _ _ _ _ (fun _ => 1)]
  refine sumN_cong _ (fun b _ => ?_)
  rw [ex, Nat.sub_self]
  have oz : ∀ z, ozN t (fun _ => 1) z = b2 (tmo t z).isSome := by
    intro z
    unfold ozN b2
    rw [okA_eq ht]
  rw [oz, oz]
  rfl
theorem FB_pow (t : TR) (last : Nat) : ∀ k, FB t last k = 16 ^ min (last + 1 - tfr t) k := by
  intro k
  induction k with
  | zero => rw [Nat.min_zero]; rfl
  | succ k ih =>
    rw [FB, ih]
    by_cases z : tfr t + k ≤ last
    · rw [if_pos z, show min (last + 1 - tfr t) (k + 1) = min (last + 1 - tfr t) k + 1 by omega, Nat.pow_succ]
    · rw [if_neg z, Nat.mul_one, show min (last + 1 - tfr t) (k + 1) = min (last + 1 - tfr t) k by omega]
theorem red_gcd : ∀ k A b, 0 < A → b ≤ k → red k A (2 ^ b) = (A / Nat.gcd A (2 ^ b), 2 ^ b / Nat.gcd A (2 ^ b)) := by
  intro k
  induction k with
  | zero =>
    intro A b _ hb
    rw [show b = 0 by omega]
    show (A, 1) = _
    rw [Nat.pow_zero, Nat.gcd_one_right, Nat.div_one, Nat.div_one]
  | succ k ih =>
    intro A b hA hb
    rw [red]
    cases b with
    | zero =>
      have e : (A, 2 ^ 0) = (A / Nat.gcd A (2 ^ 0), 2 ^ 0 / Nat.gcd A (2 ^ 0)) := by rw [Nat.pow_zero, Nat.gcd_one_right, Nat.div_one, Nat.div_one]
      split
      · rw [if_neg (by decide)]; exact e
      · exact e
    | succ b =>
      by_cases z : A % 2 = 0
      · obtain ⟨B, hB⟩ : ∃ B, A = 2 * B := ⟨A / 2, by omega⟩
        subst hB
        rw [if_pos z, if_pos (by rw [pw2]; omega), pw2, Nat.mul_div_cancel_left _ (by decide), Nat.mul_div_cancel_left _ (by decide), ih B b (by omega) (by omega), Nat.gcd_mul_left, Nat.mul_div_mul_left _ _ (by decide), Nat.mul_div_mul_left _ _ (by decide)]
      · rw [if_neg z]
        have c1 : Nat.gcd A 2 = 1 := by
          rw [Nat.gcd_comm, Nat.gcd_rec, show A % 2 = 1 by omega]; rfl
        have c2 : Nat.gcd A (2 ^ (b + 1)) = 1 := Nat.Coprime.pow_right (b + 1) c1
        rw [c2, Nat.div_one, Nat.div_one]
/-- what the model adds up -/
def frS (t : TR) (c last x : Nat) : Nat := sumN (fun s => pwN c s (last + 1) * b2 (tm (trwa t (wfr (twa t) 0 (last + 1) s)) x).isSome) (2 ^ (last + 1))
theorem frS_U (t : TR) (c last x : Nat) : frS t c last x = UF t c (last + 1) 0 x (0, false) := by
  unfold frS UF
  refine sumN_cong _ (fun s _ => ?_)
  have := hrun_tm t (wfr (twa t) 0 (last + 1) s) x 0
  rw [Nat.zero_add] at this
  rw [← this]
  rfl
theorem pow16 (n : Nat) : 16 ^ n = 2 ^ (4 * n) := by rw [Nat.pow_mul]
theorem frost_eq {t : TR} (ht : tok t) {c last x : Nat} (hc : c ≤ 16) (hl : last ≤ 9) : frostN t c last x = (frS t c last x / Nat.gcd (frS t c last x) (16 ^ (last + 1)), 16 ^ (last + 1) / Nat.gcd (frS t c last x) (16 ^ (last + 1))) := by
  have hp : 0 < 16 ^ (last + 1) := Nat.pow_pos (by decide)
  unfold frostN
  by_cases hx : x < tfr t
  · have h0 : frS t c last x = 0 := by
      unfold frS
      rw [sumN_cong (g := fun _ => 0) _ (fun s _ => by rw [tm_before (t := trwa t (wfr (twa t) 0 (last + 1) s)) (y := x) hx]; exact Nat.mul_zero _)]
      exact sumN_zero (fun _ => rfl) _
    rw [if_pos hx, h0, Nat.gcd_zero_left, Nat.zero_div, Nat.div_self hp]
  · rw [if_neg hx]
    have hS : frS t c last x = Gb t c last (x - tfr t) (tfr t) 0 * (16 ^ min (last + 1) (tfr t) * 16 ^ (last + 1 - tfr t - (x - tfr t + 1))) := by
      rw [frS_U]
      have h1 := UF_before (t := t) (c := c) (last := last) hc (tfr t) 0 (x - tfr t) (by omega)
      rw [Nat.sub_zero, show x - tfr t + tfr t = x by omega, UF_Gb hc _ _ _ (Nat.le_refl _)] at h1
      rw [h1, Nat.mul_left_comm]
    have hD : 16 ^ (last + 1) = FB t last (x + 1 - tfr t) * (16 ^ min (last + 1) (tfr t) * 16 ^ (last + 1 - tfr t - (x - tfr t + 1))) := by
      rw [FB_pow, ← Nat.pow_add, ← Nat.pow_add]
      congr 1
      omega
    have hM : 0 < 16 ^ min (last + 1) (tfr t) * 16 ^ (last + 1 - tfr t - (x - tfr t + 1)) := Nat.mul_pos (Nat.pow_pos (by decide)) (Nat.pow_pos (by decide))
    rw [FW_all ht (by omega)]
    generalize 16 ^ min (last + 1) (tfr t) * 16 ^ (last + 1 - tfr t - (x - tfr t + 1)) = Mx at hS hD hM
    generalize Gb t c last (x - tfr t) (tfr t) 0 = A at hS
    unfold redF
    by_cases z : A = 0
    · subst z
      rw [Nat.zero_mul] at hS
      rw [hS, Nat.gcd_zero_left, Nat.zero_div, Nat.div_self hp, if_pos rfl]
      rfl
    · rw [if_neg z, hS, hD, Nat.gcd_mul_right, Nat.mul_div_mul_right _ _ hM, Nat.mul_div_mul_right _ _ hM, FB_pow, pow16]
      exact red_gcd 63 A _ (by omega) (by omega)
