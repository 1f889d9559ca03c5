/-! ALL THAT IS TOLD, in numbers: wheels (number, sort, night, size, letters), warmth, time, shrill, turnings, knocks, listened -/
abbrev QS : Type := Nat × (Nat → Nat) × (Nat → Nat) × (Nat → Nat) × (Nat → Nat → Nat) × (Nat → Nat) × Nat × Nat × (Nat × (Nat → Nat) × (Nat → Nat)) × (Nat × (Nat → Nat) × (Nat → Nat)) × (Nat × (Nat → Nat) × (Nat → Nat) × (Nat → Nat))
def qnum (q : QS) : Nat := q.1
def qso (q : QS) : Nat → Nat := q.2.1
def qfr (q : QS) : Nat → Nat := q.2.2.1
def qsz (q : QS) : Nat → Nat := q.2.2.2.1
def qsn (q : QS) : Nat → Nat → Nat := q.2.2.2.2.1
def qwa (q : QS) : Nat → Nat := q.2.2.2.2.2.1
def qti (q : QS) : Nat := q.2.2.2.2.2.2.1
def qsh (q : QS) : Nat := q.2.2.2.2.2.2.2.1
def qtN (q : QS) : Nat := q.2.2.2.2.2.2.2.2.1.1
def qtn (q : QS) : Nat → Nat := q.2.2.2.2.2.2.2.2.1.2.1
def qtw (q : QS) : Nat → Nat := q.2.2.2.2.2.2.2.2.1.2.2
def qkN (q : QS) : Nat := q.2.2.2.2.2.2.2.2.2.1.1
def qkn (q : QS) : Nat → Nat := q.2.2.2.2.2.2.2.2.2.1.2.1
def qkw (q : QS) : Nat → Nat := q.2.2.2.2.2.2.2.2.2.1.2.2
def qlN (q : QS) : Nat := q.2.2.2.2.2.2.2.2.2.2.1
def qln (q : QS) : Nat → Nat := q.2.2.2.2.2.2.2.2.2.2.2.1
def qlw (q : QS) : Nat → Nat := q.2.2.2.2.2.2.2.2.2.2.2.2.1
def qll (q : QS) : Nat → Nat := q.2.2.2.2.2.2.2.2.2.2.2.2.2
def qok (q : QS) : Prop := qnum q ≤ 8 ∧ (∀ k, k < qnum q → qso q k ≤ 2 ∧ qfr q k ≤ 19 ∧ 1 ≤ qsz q k ∧ qsz q k ≤ 5 ∧ ∀ j, j < qsz q k → qsn q k j < 8) ∧ (∀ n, n < 30 → qwa q n ≤ 9) ∧ (1 ≤ qti q ∧ qti q ≤ 20) ∧ qsh q ≤ 8 ∧ (qtN q ≤ 8 ∧ ∀ i, i < qtN q → qtn q i < 30 ∧ qtw q i < 8) ∧ (qkN q ≤ 4 ∧ ∀ i, i < qkN q → qkn q i < 30 ∧ qkw q i < 8) ∧ (qlN q ≤ 8 ∧ ∀ i, i < qlN q → qln q i < 30 ∧ qlw q i < 8 ∧ qll q i ≤ 8)
def anyB (p : Nat → Bool) : Nat → Bool
  | 0 => false
  | i + 1 => anyB p i || p i
/-- the wheel w as told, but the turning with the number wo -/
def trof (q : QS) (wo w : Nat) : TR := (qso q w, qfr q w, qsz q w, qti q, qsh q, qsn q w, fun n => anyB (fun i => decide (i ≠ wo) && (decide (qtw q i = w) && decide (qtn q i = n))) (qtN q), fun n => anyB (fun i => decide (qkw q i = w) && decide (qkn q i = n)) (qkN q), qwa q)
theorem trof_ok {q : QS} (h : qok q) {wo w : Nat} (hw : w < qnum q) : tok (trof q wo w) := by
  obtain ⟨h1, h2, h3, h4, h5, -⟩ := h
  obtain ⟨a, b, c, d, e⟩ := h2 w hw
  exact ⟨a, b, c, d, h4.1, h4.2, h5, e, h3⟩
/-- the class's cells hold what is told -/
def CQ (q : QS) (μ : gm_M) : Prop := qok q ∧ μ.1 6 4 = nI (qnum q) ∧ (∀ k, k < qnum q → μ.1 7 k = nI (qso q k) ∧ μ.1 8 k = nI (qfr q k) ∧ μ.1 9 k = nI (qsz q k) ∧ ∀ j, j < qsz q k → μ.1 10 (5 * k + j) = nI (qsn q k j)) ∧ (∀ n, n < 30 → μ.1 12 n = nI (qwa q n)) ∧ μ.1 1 8 = nI (qti q) ∧ μ.1 1 9 = nI (qsh q) ∧ (μ.1 13 3 = nI (qtN q) ∧ ∀ i, i < qtN q → μ.1 14 i = nI (qtn q i) ∧ μ.1 15 i = nI (qtw q i)) ∧ (μ.1 17 3 = nI (qkN q) ∧ ∀ i, i < qkN q → μ.1 18 i = nI (qkn q i) ∧ μ.1 19 i = nI (qkw q i)) ∧ (μ.1 21 3 = nI (qlN q) ∧ ∀ i, i < qlN q → μ.1 22 i = nI (qln q i) ∧ μ.1 23 i = nI (qlw q i) ∧ μ.1 24 i = nI (qll q i))
theorem CQ.cong {q : QS} {μ μ' : gm_M} (h : CQ q μ) (hs : ∀ c, c < 25 → μ'.1 c = μ.1 c) : CQ q μ' := by
  obtain ⟨h1, h2, h3, h4, h5, h6, h7, h8, h9⟩ := h
  have e := fun c (hc : c < 25) => hs c hc
  refine ⟨h1, ?_, ?_, ?_, ?_, ?_, ?_, ?_, ?_⟩
  · rw [e 6 (by decide)]; exact h2
  · rw [e 7 (by decide), e 8 (by decide), e 9 (by decide), e 10 (by decide)]; exact h3
  · rw [e 12 (by decide)]; exact h4
  · rw [e 1 (by decide)]; exact h5
  · rw [e 1 (by decide)]; exact h6
  · rw [e 13 (by decide), e 14 (by decide), e 15 (by decide)]; exact h7
  · rw [e 17 (by decide), e 18 (by decide), e 19 (by decide)]; exact h8
  · rw [e 21 (by decide), e 22 (by decide), e 23 (by decide), e 24 (by decide)]; exact h9
theorem CQ.fr {q : QS} {μ μ' : gm_M} (h : CQ q μ) (hs : Fr25 μ μ') : CQ q μ' := h.cong (fun c hc => hs.1 c (by omega))
theorem gnight_nI {n : Nat} (h : n < 30) : gnight (nI n) = true := by
  unfold gnight
  have h1 : ¬ nI n < 0 := nI_pos (by omega)
  have h2 : ¬ (30 : Int32) ≤ nI n := by rw [show (30 : Int32) = nI 30 from by decide]; exact nI_ge h (by decide)
  simp [h1, h2]
/-- the nights of a wheel as bits -/
theorem cno_t {f g : Nat → Int32} {n N w wo' : Nat} {wo : Int32} {tn tw : Nat → Nat} (hN : N ≤ n) (hn : n < 2 ^ 20) (hw : w < 2 ^ 20) (hwo : ∀ i, i < N → (nI i = wo ↔ i = wo')) (hf : ∀ i, i < N → f i = nI (tn i) ∧ g i = nI (tw i)) (hb : ∀ i, i < N → tn i < 30 ∧ tw i < 8) : ∀ i, i ≤ N → ∀ j, j < 30 → bt (cno f g n (nI w) wo i) j = anyB (fun i => decide (i ≠ wo') && (decide (tw i = w) && decide (tn i = j))) i := by
  intro i
  induction i with
  | zero => intro _ j _; exact b_0 j
  | succ i ih =>
    intro hi j hj
    have h0 := ih (by omega) j hj
    obtain ⟨f1, f2⟩ := hf i (by omega)
    obtain ⟨b1, b2⟩ := hb i (by omega)
    have e1 : gi f n (nI i) (-1) = nI (tn i) := by rw [gi_nI (by omega) (by omega), f1]
    have e2 : gi g n (nI i) (-1) = nI (tw i) := by rw [gi_nI (by omega) (by omega), f2]
    rw [cno, anyB, e1, e2, gnight_nI b1, if_pos rfl]
    by_cases c1 : i = wo'
    · rw [if_pos ((hwo i (by omega)).mpr c1), h0]
      simp [c1]
    · rw [if_neg (fun q => c1 ((hwo i (by omega)).mp q))]
      by_cases c2 : tw i = w
      · rw [if_pos (by rw [c2]), b_or, h0, b_one (by omega) (by omega)]
        have : decide (j = tn i) = decide (tn i = j) := by by_cases q : j = tn i <;> simp [q, eq_comm]
        simp [c1, c2, this]
      · rw [if_neg (fun q => c2 ((nI_eq (by omega) (by omega)).mp q)), h0]
        simp [c2]
theorem nI_ne_m1 {i : Nat} (h : i < 2 ^ 20) : ¬ nI i = -1 := fun q => by
  have := (oI_m1 (o := some i) (fun k e => by cases e; exact h)).mp q
  cases this
/-- a letter of a wheel -/
theorem clet_t {q : QS} {μ : gm_M} (h : CQ q μ) {w j : Nat} (hw : w < qnum q) (hj : j < 5) : clet μ (nI w) (nI j) = if j < qsz q w then nI (qsn q w j) else -1 := by
  obtain ⟨h1, h2, h3, -⟩ := h
  obtain ⟨a1, a2, a3, a4⟩ := h3 w hw
  have hn := h1.1
  obtain ⟨-, -, b1, b2, -⟩ := h1.2.1 w hw
  unfold clet
  rw [if_neg (nI_pos (by omega)), gi_nI (by omega) (by decide), a3]
  by_cases c : j < qsz q w
  · rw [if_neg (by rw [nI_leI (by omega) (by omega)]; omega), if_pos c, show (5 : Int32) = nI 5 from by decide, pk_mul, nI_add, gi_nI (by omega) (by decide), show w * 5 + j = 5 * w + j by omega, a4 j c]
  · rw [if_pos (by rw [nI_leI (by omega) (by omega)]; omega), if_neg c]
theorem clet_cong {μ μ' : gm_M} (h9 : μ'.1 9 = μ.1 9) (h10 : μ'.1 10 = μ.1 10) (w s : Int32) : clet μ' w s = clet μ w s := by unfold clet; rw [h9, h10]
theorem clearn_26 (m : gm_M) (j : Nat) (le : Int32) (s : Bool) (i : Nat) : (clearn m j le s).1 26 i = if i = j then le else m.1 26 i := by simp [clearn, gm_I1]
theorem clearn_25 (m : gm_M) (j : Nat) (le : Int32) (s : Bool) {k : Nat} (h : k ≠ 12) : (clearn m j le s).1 25 k = m.1 25 k := by simp [clearn, gm_I1, h]
theorem clearn_12 (m : gm_M) (j : Nat) (le : Int32) (s : Bool) : (clearn m j le s).1 25 12 = if s = true then m.1 25 12 ||| (1 : Int32) <<< (nI j &&& 31) else m.1 25 12 &&& ((1 : Int32) <<< (nI j &&& 31) ^^^ -1) := by simp [clearn, gm_I1]
theorem clearn_bt (m : gm_M) {j : Nat} (hj : j < 5) (le : Int32) (s : Bool) {i : Nat} (hi : i < 5) : bt ((clearn m j le s).1 25 12) i = if i = j then s else bt (m.1 25 12) i := by
  rw [clearn_12]
  cases s with
  | true =>
    rw [if_pos rfl, b_or, b_one (by omega) (by omega)]
    by_cases c : i = j <;> simp [c]
  | false =>
    rw [if_neg (by decide), b_and, b_xor, b_one (by omega) (by omega), b_m1 i (by omega)]
    by_cases c : i = j <;> simp [c]
theorem cbgL_t (μ : gm_M) (w : Int32) : ∀ s, s ≤ 5 → (cbgL μ w s).1 25 6 = gi (μ.1 7) 8 w 0 ∧ (cbgL μ w s).1 25 7 = gi (μ.1 8) 8 w 0 ∧ (cbgL μ w s).1 25 8 = gi (μ.1 9) 8 w 0 ∧ (cbgL μ w s).2 = μ.2 ∧ ∀ j, j < s → (cbgL μ w s).1 26 j = clet μ w (nI j) ∧ bt ((cbgL μ w s).1 25 12) j = decide (¬ clet μ w (nI j) < μ.1 1 9) := by
  intro s
  induction s with
  | zero =>
    intro _
    refine ⟨?_, ?_, ?_, rfl, fun j hj => absurd hj (Nat.not_lt_zero j)⟩
    all_goals simp [cbgL, cbg0, gm_I1]
  | succ s ih =>
    intro hs
    obtain ⟨i1, i2, i3, i4, i5⟩ := ih (by omega)
    have e9 := cbgL_fr μ w s 9 (by decide) (by decide)
    have e10 := cbgL_fr μ w s 10 (by decide) (by decide)
    have e1 := cbgL_fr μ w s 1 (by decide) (by decide)
    rw [show cbgL μ w (s + 1) = clearn (cbgL μ w s) s (clet (cbgL μ w s) w (nI s)) (decide (¬ clet (cbgL μ w s) w (nI s) < (cbgL μ w s).1 1 9)) from rfl, clet_cong e9 e10, e1]
    generalize cbgL μ w s = m at i1 i2 i3 i4 i5 ⊢
    refine ⟨by rw [clearn_25 _ _ _ _ (by decide)]; exact i1, by rw [clearn_25 _ _ _ _ (by decide)]; exact i2, by rw [clearn_25 _ _ _ _ (by decide)]; exact i3, i4, fun j hj => ?_⟩
    rw [clearn_26, clearn_bt m (by omega) _ _ (by omega)]
    by_cases c : j = s
    · subst c
      rw [if_pos rfl, if_pos rfl]
      exact ⟨rfl, rfl⟩
    · rw [if_neg c, if_neg c]
      exact i5 j (by omega)
def cbgE (μ M : gm_M) (w : Int32) (N K : Nat) : gm_M := gm_I (cbg3 (cbg2 (cbg1 M) w N) w K) 25 11 (μ.1 1 8)
/-- begin(w) -/
theorem cbegin_t0 {q : QS} {μ M : gm_M} (h : CQ q μ) {w : Nat} (hw : w < qnum q) (b1 : M.1 25 6 = gi (μ.1 7) 8 (nI w) 0) (b2 : M.1 25 7 = gi (μ.1 8) 8 (nI w) 0) (b3 : M.1 25 8 = gi (μ.1 9) 8 (nI w) 0) (b4 : M.2 = μ.2) (b5 : ∀ j, j < 5 → M.1 26 j = clet μ (nI w) (nI j) ∧ bt (M.1 25 12) j = decide (¬ clet μ (nI w) (nI j) < μ.1 1 9)) (bf : ∀ c, c ≠ 25 → c ≠ 26 → M.1 c = μ.1 c) : TI (trof q 9 w) (cbgE μ M (nI w) (qtN q) (qkN q)) ∧ Fr25 μ (cbgE μ M (nI w) (qtN q) (qkN q)) := by
  unfold cbgE
  have hq := h
  obtain ⟨h1, h2, h3, h4, h5, h6, ⟨h7, h7'⟩, ⟨h8, h8'⟩, h9⟩ := h
  obtain ⟨a1, a2, a3, a4⟩ := h3 w hw
  have hn := h1.1
  have e14 := bf 14 (by decide) (by decide)
  have e15 := bf 15 (by decide) (by decide)
  have e18 := bf 18 (by decide) (by decide)
  have e19 := bf 19 (by decide) (by decide)
  have e12 := bf 12 (by decide) (by decide)
  have k25 : ∀ k, (gm_I (cbg3 (cbg2 (cbg1 M) (nI w) (qtN q)) (nI w) (qkN q)) 25 11 (μ.1 1 8)).1 25 k = if k = 11 then μ.1 1 8 else if k = 10 then cno (μ.1 18) (μ.1 19) 4 (nI w) (-1) (qkN q) else if k = 9 then cno (μ.1 14) (μ.1 15) 8 (nI w) (-1) (qtN q) else M.1 25 k := by
    intro k
    rw [gm_I1, if_pos rfl]
    congr 1
    rw [cbg3, gm_I1, if_pos rfl]
    have : cno ((cbg2 (cbg1 M) (nI w) (qtN q)).1 18) ((cbg2 (cbg1 M) (nI w) (qtN q)).1 19) 4 (nI w) (-1) (qkN q) = cno (μ.1 18) (μ.1 19) 4 (nI w) (-1) (qkN q) := by rw [← e18, ← e19]; rfl
    rw [this]
    congr 1
    rw [cbg2, gm_I1, if_pos rfl]
    have : cno ((cbg1 M).1 14) ((cbg1 M).1 15) 8 (nI w) (-1) (qtN q) = cno (μ.1 14) (μ.1 15) 8 (nI w) (-1) (qtN q) := by rw [← e14, ← e15]; rfl
    rw [this]
    congr 1
  refine ⟨⟨trof_ok h1 hw, ?_, ?_, ?_, ?_, ?_, ?_, ?_, ?_, ?_⟩, ⟨fun c hc => ?_, ?_⟩⟩
  · rw [k25, if_neg (by decide), if_neg (by decide), if_neg (by decide), b1, gi_nI (by omega) (by decide), a1]; rfl
  · rw [k25, if_neg (by decide), if_neg (by decide), if_neg (by decide), b2, gi_nI (by omega) (by decide), a2]; rfl
  · rw [k25, if_neg (by decide), if_neg (by decide), if_neg (by decide), b3, gi_nI (by omega) (by decide), a3]; rfl
  · rw [k25, if_pos rfl, h5]; rfl
  · intro n hn2
    rw [k25, if_neg (by decide), if_neg (by decide), if_pos rfl]
    exact cno_t (wo' := 9) h1.2.2.2.2.2.1.1 (by decide) (by omega) (fun i hi => ⟨fun z => absurd z (nI_ne_m1 (by have := h1.2.2.2.2.2.1.1; omega)), fun z => by have := h1.2.2.2.2.2.1.1; omega⟩) h7' h1.2.2.2.2.2.1.2 (qtN q) (Nat.le_refl _) n hn2
  · intro n hn2
    rw [k25, if_neg (by decide), if_pos rfl]
    have := cno_t (f := μ.1 18) (g := μ.1 19) (n := 4) (N := qkN q) (w := w) (wo' := 9) (wo := -1) h1.2.2.2.2.2.2.1.1 (by decide) (by omega) (fun i hi => ⟨fun z => absurd z (nI_ne_m1 (by have := h1.2.2.2.2.2.2.1.1; omega)), fun z => by have := h1.2.2.2.2.2.2.1.1; omega⟩) h8' h1.2.2.2.2.2.2.1.2 (qkN q) (Nat.le_refl _) n hn2
    rw [this]
    show _ = anyB _ (qkN q)
    have hk := h1.2.2.2.2.2.2.1.1
    have : ∀ N, N ≤ 4 → anyB (fun i => decide (i ≠ 9) && (decide (qkw q i = w) && decide (qkn q i = n))) N = anyB (fun i => decide (qkw q i = w) && decide (qkn q i = n)) N := by
      intro N
      induction N with
      | zero => intro _; rfl
      | succ N ih =>
        intro hN
        rw [anyB, anyB, ih (by omega), show decide (N ≠ 9) = true from decide_eq_true (by omega), Bool.true_and]
    exact this _ hk
  · intro m hm
    rw [k25, if_neg (by decide), if_neg (by decide), if_neg (by decide), (b5 m hm).2, clet_t hq hw hm]
    show _ = (decide (m < qsz q w) && decide (qsh q ≤ qsn q w m))
    have hs := h1.2.2.2.2.1
    by_cases c : m < qsz q w
    · have hl := (h1.2.1 w hw).2.2.2.2 m c
      rw [if_pos c, h6]
      have e : (nI (qsn q w m) < nI (qsh q)) = (qsn q w m < qsh q) := propext (nI_ltI (by omega) (by omega))
      simp [e, c]
    · rw [if_neg c, h6]
      have : (-1 : Int32) < nI (qsh q) := by
        rw [Int32.lt_iff_toInt_lt, nI_toInt (by omega)]
        have : (-1 : Int32).toInt = -1 := by decide
        omega
      simp [this, c]
  · intro m hm
    have hz := (h1.2.1 w hw).2.2.2.1
    have hm : m < qsz q w := hm
    have e26 : (gm_I (cbg3 (cbg2 (cbg1 M) (nI w) (qtN q)) (nI w) (qkN q)) 25 11 (μ.1 1 8)).1 26 = M.1 26 := rfl
    rw [e26, (b5 m (by omega)).1, clet_t hq hw (by omega), if_pos hm]
    rfl
  · intro n hn2
    have e27 : (gm_I (cbg3 (cbg2 (cbg1 M) (nI w) (qtN q)) (nI w) (qkN q)) 25 11 (μ.1 1 8)).1 27 = va_cpy (M.1 12) (M.1 27) 0 0 30 := rfl
    rw [e27, pk_cpy_in (by omega) (by omega), e12, show 0 + (n - 0) = n by omega, h4 n hn2]
    rfl
  · have n1 : c ≠ 25 := by omega
    have n2 : c ≠ 26 := by omega
    have n3 : c ≠ 27 := by omega
    rw [← bf c n1 n2]
    simp [gm_I, cbg3, cbg2, cbg1, gm_aI, n1, n3]
  · exact b4
theorem cbegin_t {q : QS} {μ : gm_M} (h : CQ q μ) {w : Nat} (hw : w < qnum q) : TI (trof q 9 w) (cbegin μ (nI w) (qtN q) (qkN q)) ∧ Fr25 μ (cbegin μ (nI w) (qtN q) (qkN q)) :=
  cbegin_t0 (M := cbgL μ (nI w) 5) h hw (cbgL_t μ (nI w) 5 (Nat.le_refl 5)).1 (cbgL_t μ (nI w) 5 (Nat.le_refl 5)).2.1 (cbgL_t μ (nI w) 5 (Nat.le_refl 5)).2.2.1 (cbgL_t μ (nI w) 5 (Nat.le_refl 5)).2.2.2.1 (cbgL_t μ (nI w) 5 (Nat.le_refl 5)).2.2.2.2 (cbgL_fr μ (nI w) 5)
