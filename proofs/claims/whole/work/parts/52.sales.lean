/-! SALE: the most that wheels bring, each on a night of its own -/
/-- a table of the most by nights and sets of wheels -/
def DPok (p : Nat → Nat → Nat) (W : Nat) (T : Nat → Nat → Nat) : Prop := (∀ s, T 0 s = 0) ∧ ∀ n s, s < 2 ^ W → T n s ≤ T (n + 1) s ∧ (∀ w, w < W → s.testBit w = true → ¬ p w n = 0 → T n (s - 2 ^ w) + p w n ≤ T (n + 1) s) ∧ (T (n + 1) s = T n s ∨ ∃ w, w < W ∧ s.testBit w = true ∧ T (n + 1) s = T n (s - 2 ^ w) + p w n)
/-- what the first W wheels bring that are sold ahead of night n -/
def mval (p : Nat → Nat → Nat) (f : Nat → Nat) (n : Nat) : Nat → Nat
  | 0 => 0
  | w + 1 => mval p f n w + (if f w < n then p w (f w) else 0)
def mok (f : Nat → Nat) (n s W : Nat) : Prop := (∀ w, w < W → f w < n → s.testBit w = true) ∧ ∀ v w, v < W → w < W → v ≠ w → f v < n → f v ≠ f w
theorem sub_tb {s w : Nat} (hs : s < 256) (hw : w < 8) (h : s.testBit w = true) (v : Nat) : (s - 2 ^ w).testBit v = (s.testBit v && decide (v ≠ w)) := by
  rw [← xor_pw s hs w hw h, Nat.testBit_xor, Nat.testBit_two_pow]
  by_cases z : v = w
  · subst z; simp [h]
  · have : ¬ w = v := fun y => z y.symm
    simp [z, this]
theorem mval_same {p : Nat → Nat → Nat} {f : Nat → Nat} {n : Nat} : ∀ {W : Nat}, (∀ w, w < W → f w ≠ n) → mval p f (n + 1) W = mval p f n W := by
  intro W
  induction W with
  | zero => intro _; rfl
  | succ W ih =>
    intro h
    rw [mval, mval, ih (fun w hw => h w (by omega))]
    have := h W (by omega)
    by_cases z : f W < n
    · rw [if_pos z, if_pos (by omega)]
    · rw [if_neg z, if_neg (by omega)]
theorem mval_one {p : Nat → Nat → Nat} {f : Nat → Nat} {n w0 : Nat} : ∀ {W : Nat}, w0 < W → f w0 = n → (∀ w, w < W → w ≠ w0 → f w ≠ n) → mval p f (n + 1) W = mval p f n W + p w0 n := by
  intro W
  induction W with
  | zero => intro h; exact absurd h (Nat.not_lt_zero _)
  | succ W ih =>
    intro h e h2
    rw [mval, mval]
    by_cases z : w0 = W
    · subst z
      rw [mval_same (fun w hw => h2 w (by omega) (by omega)), e, if_pos (Nat.lt_succ_self n), if_neg (Nat.lt_irrefl n)]
      omega
    · rw [ih (by omega) e (fun w hw => h2 w (by omega))]
      have := h2 W (by omega) (fun y => z y.symm)
      by_cases y : f W < n
      · rw [if_pos y, if_pos (by omega)]; omega
      · rw [if_neg y, if_neg (by omega)]; omega
theorem mval_le {p : Nat → Nat → Nat} {T : Nat → Nat → Nat} {W : Nat} (hW : W ≤ 8) (hT : DPok p W T) : ∀ n s f, s < 2 ^ W → mok f n s W → mval p f n W ≤ T n s := by
  have h256 := pw_le W hW
  intro n
  induction n with
  | zero =>
    intro s f hs _
    have : ∀ w, mval p f 0 w = 0 := by
      intro w
      induction w with
      | zero => rfl
      | succ w ih => rw [mval, ih, if_neg (Nat.not_lt_zero _)]
    rw [this]; exact Nat.zero_le _
  | succ n ih =>
    intro s f hs hm
    obtain ⟨u1, u2, -⟩ := hT.2 n s hs
    have base : mval p f n W ≤ T n s := ih s f hs ⟨fun w hw h => hm.1 w hw (by omega), fun v w hv hw hvw h => hm.2 v w hv hw hvw (by omega)⟩
    by_cases hex : ∃ w, w < W ∧ f w = n
    · obtain ⟨w0, hw0, e0⟩ := hex
      have hu : ∀ w, w < W → w ≠ w0 → f w ≠ n := fun w hw hne e => hm.2 w0 w hw0 hw (fun y => hne y.symm) (by omega) (by omega)
      rw [mval_one hw0 e0 hu]
      by_cases z : p w0 n = 0
      · rw [z, Nat.add_zero]; exact Nat.le_trans base u1
      · have hb := hm.1 w0 hw0 (by omega)
        refine Nat.le_trans (Nat.add_le_add_right (ih (s - 2 ^ w0) f (Nat.lt_of_le_of_lt (Nat.sub_le _ _) hs) ⟨fun w hw h => ?_, fun v w hv hw hvw h => hm.2 v w hv hw hvw (by omega)⟩) _) (u2 w0 hw0 hb z)
        rw [sub_tb (by omega) (by omega) hb, hm.1 w hw (by omega), Bool.true_and]
        exact decide_eq_true (fun y => by rw [y] at h; omega)
    · rw [mval_same (fun w hw e => hex ⟨w, hw, e⟩)]
      exact Nat.le_trans base u1
theorem mval_upd {p : Nat → Nat → Nat} {f : Nat → Nat} {n w0 v : Nat} : ∀ {W : Nat}, W ≤ w0 → mval p (updN f w0 v) n W = mval p f n W := by
  intro W
  induction W with
  | zero => intro _; rfl
  | succ W ih => intro h; rw [mval, mval, ih (by omega), updN_o _ _ (by omega)]
theorem mval_upd2 {p : Nat → Nat → Nat} {f : Nat → Nat} {n w0 v : Nat} : ∀ {W : Nat}, w0 < W → mval p (updN f w0 v) n W + (if f w0 < n then p w0 (f w0) else 0) = mval p f n W + (if v < n then p w0 v else 0) := by
  intro W
  induction W with
  | zero => intro h; exact absurd h (Nat.not_lt_zero _)
  | succ W ih =>
    intro h
    rw [mval, mval]
    by_cases z : w0 = W
    · subst z
      rw [mval_upd (Nat.le_refl _), updN_s]
      omega
    · have := ih (show w0 < W by omega)
      rw [updN_o _ _ (show W ≠ w0 by omega)]
      omega
theorem mval_get {p : Nat → Nat → Nat} {T : Nat → Nat → Nat} {W : Nat} (hW : W ≤ 8) (hT : DPok p W T) : ∀ n s, n ≤ 30 → s < 2 ^ W → ∃ f, mok f n s W ∧ (∀ w, f w < n ∨ f w = 30) ∧ mval p f n W = T n s := by
  have h256 := pw_le W hW
  intro n
  induction n with
  | zero =>
    intro s _ hs
    refine ⟨fun _ => 30, ⟨fun w _ h => absurd h (Nat.not_lt_zero _), fun v w _ _ _ h => absurd h (Nat.not_lt_zero _)⟩, fun w => Or.inr rfl, ?_⟩
    rw [hT.1]
    have : ∀ w, mval p (fun _ => 30) 0 w = 0 := by
      intro w
      induction w with
      | zero => rfl
      | succ w ih => rw [mval, ih, if_neg (Nat.not_lt_zero _)]
    exact this W
  | succ n ih =>
    intro s hn hs
    rcases (hT.2 n s hs).2.2 with e | ⟨w0, hw0, hb, e⟩
    · obtain ⟨f, h1, h2, h3⟩ := ih s (by omega) hs
      have hne : ∀ w, f w ≠ n := fun w => by have := h2 w; omega
      refine ⟨f, ⟨fun w hw h => h1.1 w hw (by have := hne w; omega), fun v w hv hw hvw h => h1.2 v w hv hw hvw (by have := hne v; omega)⟩, fun w => by have := h2 w; omega, ?_⟩
      rw [mval_same (fun w _ => hne w), h3, e]
    · obtain ⟨f, h1, h2, h3⟩ := ih (s - 2 ^ w0) (by omega) (Nat.lt_of_le_of_lt (Nat.sub_le _ _) hs)
      have hne : ∀ w, f w ≠ n := fun w => by have := h2 w; omega
      have hw30 : ¬ f w0 < n := fun h => by
        have := h1.1 w0 hw0 h
        rw [sub_tb (by omega) (by omega) hb] at this
        simp at this
      refine ⟨updN f w0 n, ⟨fun w hw h => ?_, fun v w hv hw hvw h => ?_⟩, fun w => ?_, ?_⟩
      · by_cases z : w = w0
        · rw [z]; exact hb
        · rw [updN_o _ _ z] at h
          have := h1.1 w hw (by have := hne w; omega)
          rw [sub_tb (by omega) (by omega) hb, Bool.and_eq_true] at this
          exact this.1
      · by_cases z : v = w0
        · rw [z, updN_s, updN_o _ _ (fun y => hvw (z.trans y.symm))]
          exact fun y => hne w y.symm
        · rw [updN_o _ _ z] at h ⊢
          by_cases y : w = w0
          · rw [y, updN_s]; exact hne v
          · rw [updN_o _ _ y]
            exact h1.2 v w hv hw hvw (by have := hne v; omega)
      · by_cases z : w = w0
        · rw [z, updN_s]; exact Or.inl (Nat.lt_succ_self n)
        · rw [updN_o _ _ z]; have := h2 w; omega
      · have u := mval_upd2 (p := p) (f := f) (n := n + 1) (w0 := w0) (v := n) hw0
        rw [if_pos (Nat.lt_succ_self n)] at u
        rw [if_neg (show ¬ f w0 < n + 1 by have := hne w0; omega), Nat.add_zero, mval_same (fun w _ => hne w), h3] at u
        rw [u, e]
/-! the class's table, the model's table -/
theorem slN_ge0 (p b : Nat → Nat) (s : Nat) : ∀ w, b s ≤ slN p b w s := by
  intro w
  induction w with
  | zero => exact Nat.le_refl _
  | succ w ih => rw [slN]; repeat' split
                 all_goals omega
theorem slN_ge (p b : Nat → Nat) (s : Nat) : ∀ W w, w < W → s.testBit w = true → ¬ p w = 0 → b (s - 2 ^ w) + p w ≤ slN p b W s := by
  intro W
  induction W with
  | zero => intro w h; exact absurd h (Nat.not_lt_zero _)
  | succ W ih =>
    intro w h hb hp
    rw [slN]
    by_cases z : w = W
    · subst z
      rw [if_neg hp, if_pos hb]
      split <;> omega
    · have := ih w (by omega) hb hp
      repeat' split
      all_goals omega
theorem slN_or (p b : Nat → Nat) (s : Nat) : ∀ W, slN p b W s = b s ∨ ∃ w, w < W ∧ s.testBit w = true ∧ slN p b W s = b (s - 2 ^ w) + p w := by
  intro W
  induction W with
  | zero => exact Or.inl rfl
  | succ W ih =>
    have old : slN p b (W + 1) s = slN p b W s → (slN p b (W + 1) s = b s ∨ ∃ w, w < W + 1 ∧ s.testBit w = true ∧ slN p b (W + 1) s = b (s - 2 ^ w) + p w) := by
      intro e
      rw [e]
      rcases ih with h | ⟨w, h1, h2, h3⟩
      · exact Or.inl h
      · exact Or.inr ⟨w, by omega, h2, h3⟩
    by_cases c1 : p W = 0
    · exact old (by rw [slN, if_pos c1])
    · by_cases c2 : s.testBit W = true
      · by_cases c3 : slN p b W s < b (s - 2 ^ W) + p W
        · exact Or.inr ⟨W, by omega, c2, by rw [slN, if_neg c1, if_pos c2, if_pos c3]⟩
        · exact old (by rw [slN, if_neg c1, if_pos c2, if_neg c3])
      · exact old (by rw [slN, if_neg c1, if_neg c2])
theorem tkN_dp (p : Nat → Nat → Nat) (W : Nat) : DPok p W (tkN p W) := by
  refine ⟨fun s => rfl, fun n s _ => ⟨slN_ge0 _ _ _ _, fun w hw hb hp => slN_ge (fun w => p w n) (tkN p W n) s W w hw hb hp, slN_or (fun w => p w n) (tkN p W n) s W⟩⟩
/-- the model's: a wheel that brings nothing is tried too -/
def smN (p : Nat → Nat) (b : Nat → Nat) (s : Nat) : Nat → Nat
  | 0 => b s
  | w + 1 => if s.testBit w = true then (if smN p b s w < b (s - 2 ^ w) + p w then b (s - 2 ^ w) + p w else smN p b s w) else smN p b s w
def tkM (p : Nat → Nat → Nat) (W : Nat) : Nat → Nat → Nat
  | 0, _ => 0
  | n + 1, s => smN (fun w => p w n) (tkM p W n) s W
theorem smN_ge0 (p b : Nat → Nat) (s : Nat) : ∀ w, b s ≤ smN p b s w := by
  intro w
  induction w with
  | zero => exact Nat.le_refl _
  | succ w ih => rw [smN]; repeat' split
                 all_goals omega
theorem smN_ge (p b : Nat → Nat) (s : Nat) : ∀ W w, w < W → s.testBit w = true → b (s - 2 ^ w) + p w ≤ smN p b s W := by
  intro W
  induction W with
  | zero => intro w h; exact absurd h (Nat.not_lt_zero _)
  | succ W ih =>
    intro w h hb
    rw [smN]
    by_cases z : w = W
    · subst z
      rw [if_pos hb]
      split <;> omega
    · have := ih w (by omega) hb
      repeat' split
      all_goals omega
theorem smN_or (p b : Nat → Nat) (s : Nat) : ∀ W, smN p b s W = b s ∨ ∃ w, w < W ∧ s.testBit w = true ∧ smN p b s W = b (s - 2 ^ w) + p w := by
  intro W
  induction W with
  | zero => exact Or.inl rfl
  | succ W ih =>
    have old : smN p b s (W + 1) = smN p b s W → (smN p b s (W + 1) = b s ∨ ∃ w, w < W + 1 ∧ s.testBit w = true ∧ smN p b s (W + 1) = b (s - 2 ^ w) + p w) := by
      intro e
      rw [e]
      rcases ih with h | ⟨w, h1, h2, h3⟩
      · exact Or.inl h
      · exact Or.inr ⟨w, by omega, h2, h3⟩
    by_cases c2 : s.testBit W = true
    · by_cases c3 : smN p b s W < b (s - 2 ^ W) + p W
      · exact Or.inr ⟨W, by omega, c2, by rw [smN, if_pos c2, if_pos c3]⟩
      · exact old (by rw [smN, if_pos c2, if_neg c3])
    · exact old (by rw [smN, if_neg c2])
theorem tkM_dp (p : Nat → Nat → Nat) (W : Nat) : DPok p W (tkM p W) := by
  refine ⟨fun s => rfl, fun n s _ => ⟨smN_ge0 _ _ _ _, fun w hw hb _ => smN_ge (fun w => p w n) (tkM p W n) s W w hw hb, smN_or (fun w => p w n) (tkM p W n) s W⟩⟩
theorem smN_le {p b : Nat → Nat} {B : Nat} (hp : ∀ w, p w ≤ 6) (hb : ∀ s, b s ≤ B) : ∀ w s, smN p b s w ≤ B + 6 := by
  intro w
  induction w with
  | zero => intro s; have := hb s; exact Nat.le_trans this (by omega)
  | succ w ih =>
    intro s
    rw [smN]
    have h1 := ih s
    have h2 := hb (s - 2 ^ w)
    have h3 := hp w
    repeat' split
    all_goals omega
theorem tkM_le {p : Nat → Nat → Nat} {W : Nat} (hp : ∀ w n, p w n ≤ 6) : ∀ n s, tkM p W n s ≤ 6 * n := by
  intro n
  induction n with
  | zero => intro s; exact Nat.le_refl 0
  | succ n ih => intro s; rw [tkM]; exact Nat.le_trans (smN_le (fun w => hp w n) ih W s) (by omega)
/-! the last eight nights are enough -/
def pfN (t : TR) (n : Nat) : Nat := match tm t n with
  | none => 0
  | some m => m + 1
theorem priceN_pf (t : TR) (n : Nat) : priceN t n ≤ pfN t n := by
  unfold priceN pfN
  cases tm t n with
  | none => exact Nat.le_refl _
  | some m => dsimp only; split <;> omega
theorem pfN_le {t : TR} (h : tok t) (n : Nat) : pfN t n ≤ 5 := by
  unfold pfN
  cases hm : tm t n with
  | none => exact Nat.zero_le _
  | some m => have := tm_lt hm; have := h.2.2.2.1; show m + 1 ≤ 5; omega
theorem tm_mono {t : TR} {n n' a b : Nat} (h : n ≤ n') (ha : tm t n = some a) (hb : tm t n' = some b) : a ≤ b := by
  have e : ∀ {n a}, tm t n = some a → a = (ta t (n + 1)).1 / tti t := by
    intro n a h
    unfold tm at h
    split at h
    · exact (tmo_lt h).2
    · cases h
  rw [e ha, e hb]
  exact Nat.div_le_div_right (ta_mono' (by omega))
def lastH (t : TR) (n : Nat) : Bool := (tm t n).isSome && decide (lastE t (n + 1) < 8)
theorem lastH_cnt {t : TR} (h8 : 8 ≤ tct t 30) : ∀ n, n ≤ 30 → cntB (lastH t) n = tct t n - (tct t 30 - 8) := by
  intro n
  induction n with
  | zero => intro _; show 0 = 0 - _; omega
  | succ n ih =>
    intro hn
    have hm := tct_mono t (show n + 1 ≤ 30 by omega)
    rw [cntB, ih (by omega)]
    unfold lastH lastE
    have e : tct t (n + 1) = tct t n + (if (tm t n).isSome = true then 1 else 0) := rfl
    cases hs : (tm t n).isSome with
    | false =>
      rw [hs, if_neg (by decide)] at e
      rw [Bool.false_and, if_neg (by decide), e, Nat.add_zero, Nat.add_zero]
    | true =>
      rw [hs, if_pos rfl] at e
      rw [Bool.true_and]
      by_cases z : tct t 30 - tct t (n + 1) < 8
      · rw [decide_eq_true z, if_pos rfl, e]; omega
      · rw [decide_eq_false z, if_neg (by decide), e]; omega
theorem cntB_or (p p' : Nat → Bool) : ∀ k, cntB (fun i => p i || p' i) k ≤ cntB p k + cntB p' k := by
  intro k
  induction k with
  | zero => exact Nat.le_refl _
  | succ k ih =>
    rw [cntB, cntB, cntB]
    have : (if (p k || p' k) = true then 1 else 0) ≤ (if p k = true then 1 else 0) + (if p' k = true then 1 else 0) := by
      cases p k <;> cases p' k <;> decide
    omega
theorem cntB_pt (a : Nat) : ∀ k, cntB (fun i => decide (a = i)) k ≤ 1 ∧ (k ≤ a → cntB (fun i => decide (a = i)) k = 0) := by
  intro k
  induction k with
  | zero => exact ⟨Nat.zero_le _, fun _ => rfl⟩
  | succ k ih =>
    rw [cntB]
    by_cases z : a = k
    · rw [decide_eq_true z, if_pos rfl, ih.2 (by omega)]
      exact ⟨Nat.le_refl _, fun h => by omega⟩
    · rw [decide_eq_false z, if_neg (by decide)]
      exact ⟨ih.1, fun h => ih.2 (by omega)⟩
theorem cntB_mono {p p' : Nat → Bool} : ∀ k, (∀ i, i < k → p i = true → p' i = true) → cntB p k ≤ cntB p' k := by
  intro k
  induction k with
  | zero => intro _; exact Nat.le_refl _
  | succ k ih =>
    intro h
    rw [cntB, cntB]
    have := ih (fun i hi => h i (by omega))
    by_cases z : p k = true
    · rw [if_pos z, if_pos (h k (by omega) z)]; omega
    · rw [if_neg z]; omega
def usedN (f : Nat → Nat) (w0 : Nat) (n : Nat) : Nat → Bool
  | 0 => false
  | v + 1 => usedN f w0 n v || (decide (v ≠ w0) && decide (f v = n))
theorem usedN_cnt (f : Nat → Nat) (w0 : Nat) : ∀ V, cntB (fun n => usedN f w0 n V) 30 + (if w0 < V then 1 else 0) ≤ V := by
  intro V
  induction V with
  | zero =>
    have : ∀ k, cntB (fun _ => false) k = 0 := by
      intro k
      induction k with
      | zero => rfl
      | succ k ih => rw [cntB, ih]; rfl
    have h := this 30
    show cntB (fun _ => false) 30 + _ ≤ 0
    rw [h, if_neg (Nat.not_lt_zero _)]
    exact Nat.le_refl _
  | succ V ih =>
    have h1 := cntB_or (fun n => usedN f w0 n V) (fun n => decide (V ≠ w0) && decide (f V = n)) 30
    have e : cntB (fun n => usedN f w0 n (V + 1)) 30 = cntB (fun n => usedN f w0 n V || (decide (V ≠ w0) && decide (f V = n))) 30 := rfl
    rw [e]
    by_cases z : V = w0
    · have h2 : cntB (fun n => decide (V ≠ w0) && decide (f V = n)) 30 = 0 := by
        rw [cntB_cong (p' := fun _ => false) 30 (fun i _ => by rw [decide_eq_false (not_not_intro z)]; rfl)]
        have : ∀ k, cntB (fun _ => false) k = 0 := by
          intro k
          induction k with
          | zero => rfl
          | succ k ih => rw [cntB, ih]; rfl
        exact this 30
      rw [if_neg (by omega)] at ih
      rw [if_pos (by omega)]
      omega
    · have h2 : cntB (fun n => decide (V ≠ w0) && decide (f V = n)) 30 ≤ 1 := by
        rw [cntB_cong (p' := fun n => decide (f V = n)) 30 (fun i _ => by rw [decide_eq_true z]; rfl)]
        exact (cntB_pt (f V) 30).1
      have : (if w0 < V + 1 then 1 else 0) = (if w0 < V then 1 else 0) := by
        by_cases y : w0 < V
        · rw [if_pos y, if_pos (by omega)]
        · rw [if_neg y, if_neg (by omega)]
      rw [this]
      omega
theorem usedN_no {f : Nat → Nat} {w0 n : Nat} : ∀ {V : Nat}, usedN f w0 n V = false → ∀ v, v < V → v ≠ w0 → f v ≠ n := by
  intro V
  induction V with
  | zero => intro _ v hv; exact absurd hv (Nat.not_lt_zero _)
  | succ V ih =>
    intro h v hv hne
    rw [usedN, Bool.or_eq_false_iff] at h
    by_cases z : v = V
    · subst z
      have := h.2
      rw [decide_eq_true hne, Bool.true_and, decide_eq_false_iff_not] at this
      exact this
    · exact ih h.1 v (by omega) hne
theorem free_night {t : TR} (h8 : 8 ≤ tct t 30) {f : Nat → Nat} {w0 W : Nat} (hW : W ≤ 8) (hw : w0 < W) : ∃ n, n < 30 ∧ lastH t n = true ∧ ∀ v, v < W → v ≠ w0 → f v ≠ n := by
  apply Classical.byContradiction
  intro hno
  have h1 : cntB (lastH t) 30 ≤ cntB (fun n => usedN f w0 n W) 30 := by
    refine cntB_mono 30 (fun i hi hl => ?_)
    cases hu : usedN f w0 i W with
    | true => rfl
    | false => exact absurd ⟨i, hi, hl, usedN_no hu⟩ hno
  have h2 := usedN_cnt f w0 W
  rw [if_pos hw] at h2
  rw [lastH_cnt h8 30 (Nat.le_refl _)] at h1
  omega
/-- wheel by wheel, each sale is put on one of its last eight nights -/
theorem exchange {P : Nat → TR} {W : Nat} (hW : W ≤ 8) : ∀ k, k ≤ W → ∀ f, mok f 30 (2 ^ W - 1) W → ∃ g, mok g 30 (2 ^ W - 1) W ∧ (∀ w, w < k → g w < 30 → priceN (P w) (g w) = pfN (P w) (g w)) ∧ mval (fun w n => pfN (P w) n) f 30 W ≤ mval (fun w n => pfN (P w) n) g 30 W := by
  have full : ∀ w, w < W → (2 ^ W - 1).testBit w = true := fun w hw => by rw [Nat.testBit_two_pow_sub_one]; exact decide_eq_true hw
  intro k
  induction k with
  | zero => intro _ f hf; exact ⟨f, hf, fun w hw => absurd hw (Nat.not_lt_zero _), Nat.le_refl _⟩
  | succ k ih =>
    intro hk f hf
    obtain ⟨g, h1, h2, h3⟩ := ih (by omega) f hf
    by_cases z : g k < 30 → priceN (P k) (g k) = pfN (P k) (g k)
    · refine ⟨g, h1, fun w hw => ?_, h3⟩
      by_cases y : w = k
      · rw [y]; exact z
      · exact h2 w (by omega)
    · have zl : g k < 30 := Classical.byContradiction (fun y => z (fun x => absurd x y))
      have zp : ¬ priceN (P k) (g k) = pfN (P k) (g k) := fun y => z (fun _ => y)
      obtain ⟨a, ha⟩ : ∃ a, tm (P k) (g k) = some a := by
        cases hm : tm (P k) (g k) with
        | none => exact absurd (by unfold priceN pfN; rw [hm]) zp
        | some a => exact ⟨a, rfl⟩
      have hl8 : 8 ≤ lastE (P k) (g k + 1) := by
        apply Classical.byContradiction
        intro y
        apply zp
        unfold priceN pfN
        rw [ha]
        dsimp only
        rw [if_pos (by omega)]
      have ht8 : 8 ≤ tct (P k) 30 := by unfold lastE at hl8; omega
      obtain ⟨n, n1, n2, n3⟩ := free_night (t := P k) ht8 (f := g) hW (show k < W by omega)
      unfold lastH at n2
      rw [Bool.and_eq_true, decide_eq_true_eq] at n2
      obtain ⟨b, hb⟩ := Option.isSome_iff_exists.mp n2.1
      have hgn : g k ≤ n := by
        rcases Nat.lt_or_ge n (g k) with y | y
        · have := lastE_mono (P k) (show n + 1 ≤ g k + 1 by omega)
          omega
        · exact y
      have hab := tm_mono hgn ha hb
      have u := mval_upd2 (p := fun w n => pfN (P w) n) (f := g) (n := 30) (w0 := k) (v := n) (show k < W by omega)
      rw [if_pos zl, if_pos n1] at u
      have e1 : pfN (P k) (g k) = a + 1 := by unfold pfN; rw [ha]
      have e2 : pfN (P k) n = b + 1 := by unfold pfN; rw [hb]
      refine ⟨updN g k n, ⟨fun w hw _ => full w hw, fun v w hv hw hvw h => ?_⟩, fun w hw h => ?_, ?_⟩
      · by_cases y : v = k
        · rw [y, updN_s, updN_o _ _ (fun x => hvw (y.trans x.symm))]
          exact fun x => n3 w hw (fun x2 => hvw (y.trans x2.symm)) x.symm
        · rw [updN_o _ _ y] at h ⊢
          by_cases x : w = k
          · rw [x, updN_s]; exact n3 v hv y
          · rw [updN_o _ _ x]; exact h1.2 v w hv hw hvw h
      · by_cases y : w = k
        · rw [y, updN_s]
          unfold priceN pfN
          rw [hb]
          dsimp only
          rw [if_pos n2.2]
        · rw [updN_o _ _ y] at h ⊢
          exact h2 w (by omega) h
      · have u : mval (fun w n => pfN (P w) n) (updN g k n) 30 W + pfN (P k) (g k) = mval (fun w n => pfN (P w) n) g 30 W + pfN (P k) n := u
        omega
theorem mval_mono {p p' : Nat → Nat → Nat} {f : Nat → Nat} {n : Nat} : ∀ {W : Nat}, (∀ w, w < W → f w < n → p w (f w) ≤ p' w (f w)) → mval p f n W ≤ mval p' f n W := by
  intro W
  induction W with
  | zero => intro _; exact Nat.le_refl _
  | succ W ih =>
    intro h
    rw [mval, mval]
    have h1 := ih (fun w hw => h w (by omega))
    by_cases z : f W < n
    · rw [if_pos z, if_pos z]; have := h W (by omega) z; omega
    · rw [if_neg z, if_neg z]; omega
theorem sale_eq {P : Nat → TR} {W : Nat} (hW : W ≤ 8) : tkN (fun w n => priceN (P w) n) W 30 (2 ^ W - 1) = maxN (fun s => tkM (fun w n => pfN (P w) n) W 30 s) (2 ^ W) := by
  have hp := Nat.two_pow_pos W
  have full : ∀ w, w < W → (2 ^ W - 1).testBit w = true := fun w hw => by rw [Nat.testBit_two_pow_sub_one]; exact decide_eq_true hw
  apply Nat.le_antisymm
  · obtain ⟨f, h1, -, h3⟩ := mval_get hW (tkN_dp (fun w n => priceN (P w) n) W) 30 (2 ^ W - 1) (Nat.le_refl _) (by omega)
    rw [← h3]
    refine Nat.le_trans (mval_mono (p' := fun w n => pfN (P w) n) (fun w _ _ => priceN_pf _ _)) ?_
    refine Nat.le_trans (mval_le hW (tkM_dp (fun w n => pfN (P w) n) W) 30 (2 ^ W - 1) f (by omega) h1) ?_
    exact maxN_ge (f := fun s => tkM (fun w n => pfN (P w) n) W 30 s) (by omega)
  · refine maxN_lub (fun s hs => ?_)
    obtain ⟨f, h1, -, h3⟩ := mval_get hW (tkM_dp (fun w n => pfN (P w) n) W) 30 s (Nat.le_refl _) hs
    show tkM _ W 30 s ≤ _
    rw [← h3]
    obtain ⟨g, g1, g2, g3⟩ := exchange (P := P) hW W (Nat.le_refl _) f ⟨fun w hw _ => full w hw, h1.2⟩
    refine Nat.le_trans g3 (Nat.le_trans (mval_mono (p' := fun w n => priceN (P w) n) (fun w hw h => Nat.le_of_eq (g2 w hw h).symm)) ?_)
    exact mval_le hW (tkN_dp (fun w n => priceN (P w) n) W) 30 (2 ^ W - 1) g (by omega) g1
