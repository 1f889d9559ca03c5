/-! THE MODEL (52..80): what it holds, and what a call leaves -/
def gin (v a b : Int32) : Bool := decide (¬ v < a) && decide (¬ b < v)
def FX (l f : List Nat) (m m' : gm_M) : Prop := (∀ c, c ≠ 52 → c ∉ l → m'.1 c = m.1 c) ∧ ∀ k, k ∉ f → m'.1 52 k = m.1 52 k
theorem FX.rf {l f : List Nat} (m : gm_M) : FX l f m m := ⟨fun _ _ _ => rfl, fun _ _ => rfl⟩
theorem FX.tr {l f : List Nat} {m m' m'' : gm_M} (h : FX l f m m') (h' : FX l f m' m'') : FX l f m m'' := ⟨fun c h1 h2 => (h'.1 c h1 h2).trans (h.1 c h1 h2), fun k h1 => (h'.2 k h1).trans (h.2 k h1)⟩
theorem FX.wide {l f l' f' : List Nat} {m m' : gm_M} (h : FX l f m m') (h1 : ∀ x ∈ l, x ∈ l') (h2 : ∀ x ∈ f, x ∈ f') : FX l' f' m m' := ⟨fun c a b => h.1 c a (fun z => b (h1 c z)), fun k a => h.2 k (fun z => a (h2 k z))⟩
theorem FX.I {l f : List Nat} {m m' : gm_M} (h : FX l f m m') {c : Nat} (k : Nat) (v : Int32) (h1 : c ∈ l) (h2 : c ≠ 52) : FX l f m (gm_I m' c k v) := ⟨fun a z1 z2 => by rw [gm_In m' k v (fun (e : a = c) => z2 (e.symm ▸ h1))]; exact h.1 a z1 z2, fun j z => by rw [gm_In m' k v (fun e => h2 e.symm)]; exact h.2 j z⟩
theorem FX.F {l f : List Nat} {m m' : gm_M} (h : FX l f m m') {k : Nat} (v : Int32) (h1 : k ∈ f) : FX l f m (gm_I m' 52 k v) := ⟨fun a z1 z2 => by rw [gm_In m' k v z1]; exact h.1 a z1 z2, fun j z => by rw [gm_Io m' 52 v (fun (e : j = k) => z (e.symm ▸ h1))]; exact h.2 j z⟩
theorem FX.A {l f : List Nat} {m m' : gm_M} (h : FX l f m m') {c : Nat} (g : Nat → Int32) (h1 : c ∈ l) (h2 : c ≠ 52) : FX l f m (gm_aI m' c g) := ⟨fun a z1 z2 => by have e : a ≠ c := fun e => z2 (e.symm ▸ h1); simp [gm_aI, e]; exact h.1 a z1 z2, fun j z => by have e : (52 : Nat) ≠ c := fun e => h2 e.symm; simp [gm_aI, e]; exact h.2 j z⟩
/-- what a run changes, what a question leaves of the wheels read, what a question may change -/
abbrev lR : List Nat := [65, 66, 67]
abbrev fR : List Nat := [18, 19]
abbrev lL : List Nat := [64, 65, 66, 67, 68, 69, 70, 71, 75]
abbrev lQ : List Nat := [55, 56, 57, 58, 59, 64, 65, 66, 67, 68, 69, 70, 71, 75, 80]
abbrev fQ : List Nat := [2, 7, 18, 19]
theorem FX.rl {m m' : gm_M} (h : FX lR fR m m') : FX lL fR m m' := h.wide (by decide) (by decide)
theorem FX.lq {m m' : gm_M} (h : FX lL fR m m') : FX lQ fQ m m' := h.wide (by decide) (by decide)
theorem FX.rq {m m' : gm_M} (h : FX lR fR m m') : FX lQ fQ m m' := h.wide (by decide) (by decide)
def MM (r : RS) (m : gm_M) : Prop := (m.1 52 9 = nI (rti r) ∧ m.1 52 10 = nI (rsr r)) ∧ (m.1 52 11 = nI (rtu r).1 ∧ ∀ i, i < (rtu r).1 → m.1 60 i = nI ((rtu r).2.1 i) ∧ m.1 61 i = nI ((rtu r).2.2 i)) ∧ (m.1 52 14 = nI (rkn r).1 ∧ ∀ i, i < (rkn r).1 → m.1 62 i = nI ((rkn r).2.1 i) ∧ m.1 63 i = nI ((rkn r).2.2 i)) ∧ (m.1 52 27 = nI (rli r).1 ∧ ∀ i, i < (rli r).1 → m.1 72 i = nI ((rli r).2.1 i) ∧ m.1 73 i = nI ((rli r).2.2.1 i) ∧ m.1 74 i = nI ((rli r).2.2.2 i))
def MT0 (r : RS) (m : gm_M) : Prop := m.1 53 0 = nI (ra0 r).1 ∧ ∀ j, j < (ra0 r).1 → m.1 54 j = nI ((ra0 r).2 j)
def MT1 (r : RS) (m : gm_M) : Prop := m.1 53 1 = nI (ra1 r).1 ∧ ∀ j, j < (ra1 r).1 → m.1 54 (71 + j) = nI ((ra1 r).2 j)
def MS (r : RS) (m : gm_M) : Prop := (∀ s, s < 4 → m.1 76 s = gb (!(rst r s).1) ∧ m.1 77 s = nI (rst r s).2.1 ∧ m.1 78 s = nI (rst r s).2.2.1 ∧ ∀ i, i < 60 → m.1 79 (60 * s + i) = (rst r s).2.2.2 i) ∧ m.1 52 37 = rfi r
def MA (r : RS) (m : gm_M) : Prop := rok r ∧ MT0 r m ∧ MT1 r m ∧ MM r m ∧ MS r m
theorem MM.cong {r : RS} {m m' : gm_M} (h : MM r m) (e : ∀ c, c = 60 ∨ c = 61 ∨ c = 62 ∨ c = 63 ∨ c = 72 ∨ c = 73 ∨ c = 74 → m'.1 c = m.1 c) (g : ∀ k, k = 9 ∨ k = 10 ∨ k = 11 ∨ k = 14 ∨ k = 27 → m'.1 52 k = m.1 52 k) : MM r m' := by
  unfold MM
  rw [e 60 (by omega), e 61 (by omega), e 62 (by omega), e 63 (by omega), e 72 (by omega), e 73 (by omega), e 74 (by omega), g 9 (by omega), g 10 (by omega), g 11 (by omega), g 14 (by omega), g 27 (by omega)]
  exact h
theorem MT0.cong {r : RS} {m m' : gm_M} (h : MT0 r m) (e : ∀ c, c = 53 ∨ c = 54 → m'.1 c = m.1 c) : MT0 r m' := by
  unfold MT0; rw [e 53 (by omega), e 54 (by omega)]; exact h
theorem MT1.cong {r : RS} {m m' : gm_M} (h : MT1 r m) (e : ∀ c, c = 53 ∨ c = 54 → m'.1 c = m.1 c) : MT1 r m' := by
  unfold MT1; rw [e 53 (by omega), e 54 (by omega)]; exact h
theorem MS.cong {r : RS} {m m' : gm_M} (h : MS r m) (e : ∀ c, c = 76 ∨ c = 77 ∨ c = 78 ∨ c = 79 → m'.1 c = m.1 c) (g : m'.1 52 37 = m.1 52 37) : MS r m' := by
  unfold MS; rw [e 76 (by omega), e 77 (by omega), e 78 (by omega), e 79 (by omega), g]; exact h
theorem ni_lQ {c : Nat} (h : c ≠ 55 ∧ c ≠ 56 ∧ c ≠ 57 ∧ c ≠ 58 ∧ c ≠ 59 ∧ c ≠ 64 ∧ c ≠ 65 ∧ c ≠ 66 ∧ c ≠ 67 ∧ c ≠ 68 ∧ c ≠ 69 ∧ c ≠ 70 ∧ c ≠ 71 ∧ c ≠ 75 ∧ c ≠ 80) : c ∉ lQ := by
  unfold lQ; simp only [List.mem_cons, List.not_mem_nil, or_false]; omega
theorem ni_fQ {c : Nat} (h : c ≠ 2 ∧ c ≠ 7 ∧ c ≠ 18 ∧ c ≠ 19) : c ∉ fQ := by
  unfold fQ; simp only [List.mem_cons, List.not_mem_nil, or_false]; omega
theorem ni_lL {c : Nat} (h : c ≠ 64 ∧ c ≠ 65 ∧ c ≠ 66 ∧ c ≠ 67 ∧ c ≠ 68 ∧ c ≠ 69 ∧ c ≠ 70 ∧ c ≠ 71 ∧ c ≠ 75) : c ∉ lL := by
  unfold lL; simp only [List.mem_cons, List.not_mem_nil, or_false]; omega
theorem ni_lR {c : Nat} (h : c ≠ 65 ∧ c ≠ 66 ∧ c ≠ 67) : c ∉ lR := by
  unfold lR; simp only [List.mem_cons, List.not_mem_nil, or_false]; omega
theorem ni_fR {c : Nat} (h : c ≠ 18 ∧ c ≠ 19) : c ∉ fR := by
  unfold fR; simp only [List.mem_cons, List.not_mem_nil, or_false]; omega
theorem MA.fx {r : RS} {m m' : gm_M} (h : MA r m) (e : FX lQ fQ m m') : MA r m' :=
  ⟨h.1, h.2.1.cong (fun c hc => e.1 c (by omega) (ni_lQ (by omega))), h.2.2.1.cong (fun c hc => e.1 c (by omega) (ni_lQ (by omega))), h.2.2.2.1.cong (fun c hc => e.1 c (by omega) (ni_lQ (by omega))) (fun k hk => e.2 k (ni_fQ (by omega))), h.2.2.2.2.cong (fun c hc => e.1 c (by omega) (ni_lQ (by omega))) (e.2 37 (ni_fQ (by omega)))⟩
/-- the wheels read, and all else that the questions use -/
def XQ (q : QS) (m : gm_M) : Prop := qok q ∧ m.1 52 2 = nI (qnum q) ∧ (∀ k, k < qnum q → m.1 55 k = nI (qso q k) ∧ m.1 56 k = nI (qfr q k) ∧ m.1 57 k = nI (qsz q k) ∧ ∀ j, j < qsz q k → m.1 58 (5 * k + j) = nI (qsn q k j)) ∧ (∀ n, n < 30 → m.1 59 n = nI (qwa q n)) ∧ (m.1 52 9 = nI (qti q) ∧ m.1 52 10 = nI (qsh q)) ∧ (m.1 52 11 = nI (qtN q) ∧ ∀ i, i < qtN q → m.1 60 i = nI (qtn q i) ∧ m.1 61 i = nI (qtw q i)) ∧ (m.1 52 14 = nI (qkN q) ∧ ∀ i, i < qkN q → m.1 62 i = nI (qkn q i) ∧ m.1 63 i = nI (qkw q i)) ∧ (m.1 52 27 = nI (qlN q) ∧ ∀ i, i < qlN q → m.1 72 i = nI (qln q i) ∧ m.1 73 i = nI (qlw q i) ∧ m.1 74 i = nI (qll q i))
theorem XQ.cong {q : QS} {m m' : gm_M} (h : XQ q m) (e : ∀ c, (55 ≤ c ∧ c ≤ 63) ∨ (72 ≤ c ∧ c ≤ 74) → m'.1 c = m.1 c) (g : ∀ k, k = 2 ∨ k = 9 ∨ k = 10 ∨ k = 11 ∨ k = 14 ∨ k = 27 → m'.1 52 k = m.1 52 k) : XQ q m' := by
  unfold XQ
  rw [e 55 (by omega), e 56 (by omega), e 57 (by omega), e 58 (by omega), e 59 (by omega), e 60 (by omega), e 61 (by omega), e 62 (by omega), e 63 (by omega), e 72 (by omega), e 73 (by omega), e 74 (by omega), g 2 (by omega), g 9 (by omega), g 10 (by omega), g 11 (by omega), g 14 (by omega), g 27 (by omega)]
  exact h
theorem XQ.fl {q : QS} {m m' : gm_M} (h : XQ q m) (e : FX lL fR m m') : XQ q m' := h.cong (fun c hc => e.1 c (by omega) (ni_lL (by omega))) (fun k hk => e.2 k (ni_fR (by omega)))
theorem gin_nI {a l h : Nat} (ha : a < 2 ^ 31) (hl : l < 2 ^ 31) (hh : h < 2 ^ 31) : gin (nI a) (nI l) (nI h) = (decide (l ≤ a) && decide (a ≤ h)) := by
  unfold gin
  have e1 : (nI a < nI l) = (a < l) := propext (nI_ltI ha hl)
  have e2 : (nI h < nI a) = (h < a) := propext (nI_ltI hh ha)
  simp [e1, e2]
theorem gin_of {v h : Int32} {N : Nat} (hh : h = nI N) (hN : N < 2 ^ 31) (g : gin v 0 h = true) : ∃ k, k ≤ N ∧ v = nI k := by
  unfold gin at g
  simp only [Bool.and_eq_true, decide_eq_true_eq] at g
  exact int_of hh hN g.1 (Int32.not_lt.mp g.2)
theorem gin_iff {v a b : Int32} : gin v a b = true ↔ ¬ v < a ∧ v ≤ b := by
  unfold gin
  simp only [Bool.and_eq_true, decide_eq_true_eq, Int32.not_lt]
theorem b_and1 (y : Int32) : y &&& 1 = if bt y 0 = true then 1 else 0 := by
  refine b_ext (fun i hi => ?_)
  rw [b_and, b_1 i hi]
  by_cases e : i = 0
  · subst e
    cases h : bt y 0 with
    | true => rw [if_pos rfl]; rfl
    | false => rw [if_neg (by decide), b_0]; rfl
  · rw [show decide (i = 0) = false from decide_eq_false e, Bool.and_false]
    split
    · rw [b_1 i hi, decide_eq_false e]
    · rw [b_0]
theorem gis_bt {x : Int32} {n : Nat} (hn : n < 32) : decide ((x >>> (nI n &&& 31)) &&& 1 = 1) = bt x n := by
  rw [b_and1, b_sshr n hn x (by decide), if_pos (show n + 0 < 32 by omega), Nat.add_zero]
  cases bt x n <;> decide
set_option maxRecDepth 100000 in
set_option maxHeartbeats 400000 in
theorem sX12_in (v a b : Int32) (μ : gm_M) : Ret yX12_in cX12_in 3 (some .boolean) 0 [(.int v), (.int a), (.int b)] μ (some (.int (gb (gin v a b)))) μ := by
  refine Sat.of (L := [some (.int v), some (.int a), some (.int b)]) (by decide) (fun _ => rfl) (fun _ => rfl) ?_
  refine go_il0 dX12_in_0 (go_il1 dX12_in_1 ?_)
  refine go_clt 14 dX12_in_2 (by decide) (fun h2 => ?_) (fun h2 => ?_)
  · refine go_ic0 dX12_in_14 ?_
    refine go_zret dX12_in_15 rfl ?_
    exact ⟨by rw [show gin v a b = false from by simp [gin, h2]]; rfl, rfl⟩
  · refine go_il0 dX12_in_5 (go_il2 dX12_in_6 ?_)
    refine go_cgt 14 dX12_in_7 (by decide) (fun h7 => ?_) (fun h7 => ?_)
    · refine go_ic0 dX12_in_14 ?_
      refine go_zret dX12_in_15 rfl ?_
      exact ⟨by rw [show gin v a b = false from by simp [gin, h2, h7]]; rfl, rfl⟩
    · refine go_ic1 dX12_in_10 (go_goto 15 dX12_in_11 (by decide) ?_)
      refine go_zret dX12_in_15 rfl ?_
      exact ⟨by rw [show gin v a b = true from by simp [gin, h2, h7]]; rfl, rfl⟩

set_option maxRecDepth 100000 in
set_option maxHeartbeats 400000 in
theorem sX12_isIn (x n : Int32) (μ : gm_M) : Ret yX12_isIn cX12_isIn 2 (some .boolean) 0 [(.int x), (.int n)] μ (some (.int (gb (decide ((x >>> (n &&& 31)) &&& 1 = 1))))) μ := by
  refine Sat.of (L := [some (.int x), some (.int n)]) (by decide) (fun _ => rfl) (fun _ => rfl) ?_
  refine go_il0 dX12_isIn_0 (go_il1 dX12_isIn_1 (go_ishr dX12_isIn_2 (go_ic1 dX12_isIn_3 (go_iand dX12_isIn_4 (go_ic1 dX12_isIn_5 ?_)))))
  refine go_cne 13 dX12_isIn_6 (by decide) (fun h6 => ?_) (fun h6 => ?_)
  · refine go_ic0 dX12_isIn_13 ?_
    refine go_zret dX12_isIn_14 rfl ?_
    exact ⟨by rw [decide_eq_false h6]; rfl, rfl⟩
  · refine go_ic1 dX12_isIn_9 (go_goto 14 dX12_isIn_10 (by decide) ?_)
    refine go_zret dX12_isIn_14 rfl ?_
    exact ⟨by rw [decide_eq_true h6]; rfl, rfl⟩

theorem aIsIn {x : Int32} {n : Nat} (hn : n < 32) (μ : gm_M) : Ret yX12_isIn cX12_isIn 2 (some .boolean) 0 [.int x, .int (nI n)] μ (some (.int (gb (bt x n)))) μ := by
  rw [← gis_bt hn]
  exact sX12_isIn _ _ μ
set_option maxRecDepth 100000 in
set_option maxHeartbeats 400000 in
theorem sX12_isText (v : Int32) (μ : gm_M) : Ret yX12_isText cX12_isText 1 (some .boolean) 1 [(.int v)] μ (some (.int (gb (gin v 0 1)))) μ := by
  refine Sat.of (L := [some (.int v)]) (by decide) (fun _ => rfl) (fun _ => rfl) ?_
  refine go_il0 dX12_isText_0 (go_ic0 dX12_isText_1 (go_ic1 dX12_isText_2 (go_S3r mcX12_in mvX12_in kX12_104 dX12_isText_3 rfl rfl (sX12_in _ _ _ _) ?_)))
  refine go_zret dX12_isText_6 (gb_nar _) ?_
  exact ⟨rfl, rfl⟩

set_option maxRecDepth 100000 in
set_option maxHeartbeats 400000 in
theorem sX12_isNight (v : Int32) (μ : gm_M) : Ret yX12_isNight cX12_isNight 1 (some .boolean) 1 [(.int v)] μ (some (.int (gb (gin v 0 29)))) μ := by
  refine Sat.of (L := [some (.int v)]) (by decide) (fun _ => rfl) (fun _ => rfl) ?_
  refine go_il0 dX12_isNight_0 (go_ic0 dX12_isNight_1 (go_bipush (v := 29) dX12_isNight_2 (by decide) (go_S3r mcX12_in mvX12_in kX12_104 dX12_isNight_4 rfl rfl (sX12_in _ _ _ _) ?_)))
  refine go_zret dX12_isNight_7 (gb_nar _) ?_
  exact ⟨rfl, rfl⟩

set_option maxRecDepth 100000 in
set_option maxHeartbeats 400000 in
theorem sX12_isSheet (v : Int32) (μ : gm_M) : Ret yX12_isSheet cX12_isSheet 1 (some .boolean) 1 [(.int v)] μ (some (.int (gb (gin v 0 3)))) μ := by
  refine Sat.of (L := [some (.int v)]) (by decide) (fun _ => rfl) (fun _ => rfl) ?_
  refine go_il0 dX12_isSheet_0 (go_ic0 dX12_isSheet_1 (go_ic3 dX12_isSheet_2 (go_S3r mcX12_in mvX12_in kX12_104 dX12_isSheet_3 rfl rfl (sX12_in _ _ _ _) ?_)))
  refine go_zret dX12_isSheet_6 (gb_nar _) ?_
  exact ⟨rfl, rfl⟩

set_option maxRecDepth 100000 in
set_option maxHeartbeats 400000 in
theorem sX12_meets (v : Int32) (μ : gm_M) : Ret yX12_meets cX12_meets 2 (some .int) 0 [(.ref 52), (.int v)] μ (some (.int (-10 - v))) (gm_I μ 52 37 v) := by
  refine Sat.of (L := [some (.ref 52), some (.int v)]) (by decide) (fun _ => rfl) (fun _ => rfl) ?_
  refine go_al0 dX12_meets_0 (go_il1 dX12_meets_1 (go_putI fX12_271 rfl rfl dX12_meets_2 (go_bipush (v := -10) dX12_meets_5 (by decide) (go_il1 dX12_meets_7 (go_isub dX12_meets_8 ?_)))))
  refine go_iret dX12_meets_9 ?_
  exact ⟨rfl, rfl⟩

set_option maxRecDepth 100000 in
set_option maxHeartbeats 400000 in
theorem sX12_no (v : Int32) (μ : gm_M) : Ret yX12_no cX12_no 1 (some .long) 0 [(.int v)] μ (some (.long (-9223372036854775808 - v.toInt64))) μ := by
  refine Sat.of (L := [some (.int v)]) (by decide) (fun _ => rfl) (fun _ => rfl) ?_
  refine go_ldc2 dX12_no_0 nX12_102 (go_il0 dX12_no_3 (go_i2l dX12_no_4 (go_lsub dX12_no_5 ?_)))
  refine go_lret dX12_no_6 ?_
  exact ⟨rfl, rfl⟩

