/-! THE TEXTS: the wheels' automaton in numbers (number, stage, sort, night, size, letters) -/
abbrev PS : Type := Nat × Nat × (Nat → Nat) × (Nat → Nat) × (Nat → Nat) × (Nat → Nat → Nat)
def pnum (p : PS) : Nat := p.1
def pstg (p : PS) : Nat := p.2.1
def pso (p : PS) : Nat → Nat := p.2.2.1
def pfr (p : PS) : Nat → Nat := p.2.2.2.1
def psz (p : PS) : Nat → Nat := p.2.2.2.2.1
def psn (p : PS) : Nat → Nat → Nat := p.2.2.2.2.2
def updN (f : Nat → Nat) (k v : Nat) : Nat → Nat := fun j => if j = k then v else f j
def psort (b : Nat) : Option Nat := if b = 104 then some 0 else if b = 115 then some 1 else if b = 98 then some 2 else none
def pT0 (p : PS) (s : Nat) : PS := (pnum p + 1, 1, updN (pso p) (pnum p) s, updN (pfr p) (pnum p) 0, updN (psz p) (pnum p) 0, psn p)
def pT1 (p : PS) (b : Nat) : PS := (pnum p, pstg p + 1, pso p, updN (pfr p) (pnum p - 1) (10 * pfr p (pnum p - 1) + (b - 48)), psz p, psn p)
def pT2 (p : PS) : PS := (pnum p, 0, pso p, pfr p, psz p, psn p)
def pT3 (p : PS) (b : Nat) : PS := (pnum p, pstg p + 1, pso p, pfr p, updN (psz p) (pnum p - 1) (pstg p - 2), fun k j => if k = pnum p - 1 ∧ j = pstg p - 3 then b - 97 else psn p k j)
def ptake (p : PS) (b : Nat) : Option PS :=
  if pstg p = 0 then (match psort b with
    | none => none
    | some s => if pnum p < 8 then some (pT0 p s) else none)
  else if pstg p < 3 then (if 48 ≤ b ∧ b ≤ (if pstg p = 1 then 49 else 57) then some (pT1 p b) else none)
  else if b = 59 then (if 3 < pstg p then some (pT2 p) else none)
  else if 97 ≤ b ∧ b ≤ 104 ∧ pstg p < 8 then some (pT3 p b) else none
def pokw (p : PS) (k : Nat) : Prop := pso p k ≤ 2 ∧ (if k + 1 = pnum p ∧ pstg p ≠ 0 then (pstg p = 1 → pfr p k = 0) ∧ (pstg p = 2 → pfr p k ≤ 1) ∧ pfr p k ≤ 19 ∧ psz p k = pstg p - 3 else pfr p k ≤ 19 ∧ 1 ≤ psz p k) ∧ psz p k ≤ 5 ∧ ∀ j, j < psz p k → psn p k j < 8
def pok (p : PS) : Prop := pnum p ≤ 8 ∧ pstg p ≤ 8 ∧ (pstg p ≠ 0 → 1 ≤ pnum p) ∧ ∀ k, k < pnum p → pokw p k
/-- the cells hold the automaton's state -/
def PIm (p : PS) (m : gm_M) : Prop := m.1 6 4 = nI (pnum p) ∧ m.1 6 6 = nI (pstg p) ∧ ∀ k, k < pnum p → m.1 7 k = nI (pso p k) ∧ m.1 8 k = nI (pfr p k) ∧ m.1 9 k = nI (psz p k) ∧ ∀ j, j < psz p k → m.1 10 (5 * k + j) = nI (psn p k j)
theorem psort_t {b : Nat} (hb : b < 256) : csof (nI b) = oI (psort b) := by
  unfold csof psort
  have h1 : (nI b = 104) = (b = 104) := propext (nI_eq (b := 104) (by omega) (by decide))
  have h2 : (nI b = 115) = (b = 115) := propext (nI_eq (b := 115) (by omega) (by decide))
  have h3 : (nI b = 98) = (b = 98) := propext (nI_eq (b := 98) (by omega) (by decide))
  simp only [h1, h2, h3]
  repeat' split
  all_goals rfl
theorem psort_le {b s : Nat} (h : psort b = some s) : s ≤ 2 := by
  unfold psort at h
  repeat' split at h
  all_goals first | (cases h; omega) | cases h
theorem sub_neg {a c : Nat} (h : a < c) (hc : c < 2 ^ 20) : nI a - nI c < 0 := pk_sneg (by omega) h
/-- one byte -/
theorem ctakes_t {p : PS} {m : gm_M} (hp : pok p) (hm : PIm p m) {b : Nat} (hb : b < 256) : match ptake p b with
    | some p' => (ctakes m (nI b)).1 = true ∧ PIm p' (ctakes m (nI b)).2 ∧ pok p' ∧ FrR 6 10 m (ctakes m (nI b)).2 ∧ (ctakes m (nI b)).2.1 6 5 = m.1 6 5
    | none => (ctakes m (nI b)).1 = false ∧ (ctakes m (nI b)).2 = m := by
  obtain ⟨h8, hs8, hn1, hw⟩ := hp
  obtain ⟨m4, m6, mk⟩ := hm
  unfold ptake ctakes
  by_cases c0 : pstg p = 0
  · rw [if_pos c0, if_pos (by rw [m6, c0]; rfl), psort_t hb]
    cases hs : psort b with
    | none => exact ⟨by unfold ctSort; rw [if_pos (show oI none = -1 from rfl)], by unfold ctSort; rw [if_pos (show oI none = -1 from rfl)]⟩
    | some s =>
      have hs2 := psort_le hs
      dsimp only
      have e1 : ¬ oI (some s) = -1 := nI_ne_m1 (by omega)
      have e2 : ¬ m.1 6 4 < 0 := by rw [m4]; exact nI_pos (by omega)
      have e3 : (m.1 6 4 < 8) = (pnum p < 8) := by rw [m4]; exact propext (nI_ltI (b := 8) (by omega) (by decide))
      unfold ctSort
      rw [if_neg e1, if_neg e2]
      by_cases c8 : pnum p < 8
      · rw [if_pos c8, if_pos (by rw [e3]; exact c8)]
        refine ⟨rfl, ⟨?_, ?_, fun k hk => ?_⟩, ⟨?_, ?_, ?_, fun k hk => ?_⟩, ?_, ?_⟩
        · rw [gm_Io _ _ _ (by decide), gm_Is, m4]; exact nI_1 _
        · rw [gm_Is]; rfl
        · have hk : k < pnum p + 1 := hk
          have ec : (m.1 6 4).toNatClampNeg = pnum p := by rw [m4]; exact nI_clamp (by omega)
          show (gm_I (gm_I (gm_I (gm_I (gm_I m 7 (m.1 6 4).toNatClampNeg (oI (some s))) 8 (m.1 6 4).toNatClampNeg 0) 9 (m.1 6 4).toNatClampNeg 0) 6 4 (m.1 6 4 + 1)) 6 6 1).1 7 k = nI (updN (pso p) (pnum p) s k) ∧ (gm_I (gm_I (gm_I (gm_I (gm_I m 7 (m.1 6 4).toNatClampNeg (oI (some s))) 8 (m.1 6 4).toNatClampNeg 0) 9 (m.1 6 4).toNatClampNeg 0) 6 4 (m.1 6 4 + 1)) 6 6 1).1 8 k = nI (updN (pfr p) (pnum p) 0 k) ∧ (gm_I (gm_I (gm_I (gm_I (gm_I m 7 (m.1 6 4).toNatClampNeg (oI (some s))) 8 (m.1 6 4).toNatClampNeg 0) 9 (m.1 6 4).toNatClampNeg 0) 6 4 (m.1 6 4 + 1)) 6 6 1).1 9 k = nI (updN (psz p) (pnum p) 0 k) ∧ ∀ j, j < updN (psz p) (pnum p) 0 k → (gm_I (gm_I (gm_I (gm_I (gm_I m 7 (m.1 6 4).toNatClampNeg (oI (some s))) 8 (m.1 6 4).toNatClampNeg 0) 9 (m.1 6 4).toNatClampNeg 0) 6 4 (m.1 6 4 + 1)) 6 6 1).1 10 (5 * k + j) = nI (psn p k j)
          rw [ec]
          unfold updN
          by_cases e : k = pnum p
          · subst e
            simp only [if_true]
            refine ⟨?_, ?_, ?_, fun j hj => by omega⟩
            · simp [gm_I1]; rfl
            · simp [gm_I1]; rfl
            · simp [gm_I1]; rfl
          · obtain ⟨a1, a2, a3, a4⟩ := mk k (by omega)
            simp only [if_neg e]
            refine ⟨?_, ?_, ?_, fun j hj => ?_⟩
            · simp [gm_I1, e]; exact a1
            · simp [gm_I1, e]; exact a2
            · simp [gm_I1, e]; exact a3
            · simp [gm_I1]; exact a4 j hj
        · show pnum p + 1 ≤ 8; omega
        · show 1 ≤ 8; omega
        · intro _; show 1 ≤ pnum p + 1; omega
        · have hk : k < pnum p + 1 := hk
          show updN (pso p) (pnum p) s k ≤ 2 ∧ (if k + 1 = pnum p + 1 ∧ 1 ≠ 0 then (1 = 1 → updN (pfr p) (pnum p) 0 k = 0) ∧ (1 = 2 → updN (pfr p) (pnum p) 0 k ≤ 1) ∧ updN (pfr p) (pnum p) 0 k ≤ 19 ∧ updN (psz p) (pnum p) 0 k = 1 - 3 else updN (pfr p) (pnum p) 0 k ≤ 19 ∧ 1 ≤ updN (psz p) (pnum p) 0 k) ∧ updN (psz p) (pnum p) 0 k ≤ 5 ∧ ∀ j, j < updN (psz p) (pnum p) 0 k → psn p k j < 8
          unfold updN
          by_cases e : k = pnum p
          · subst e
            simp [hs2]
          · obtain ⟨b1, b2, b3, b4⟩ := hw k (by omega)
            rw [if_neg (fun z => z.2 c0)] at b2
            simp only [if_neg e]
            rw [if_neg (by omega)]
            exact ⟨b1, b2, b3, b4⟩
        · intro c hc
          have n1 : c ≠ 6 := by omega
          have n2 : c ≠ 7 := by omega
          have n3 : c ≠ 8 := by omega
          have n4 : c ≠ 9 := by omega
          rw [gm_In _ _ _ n1, gm_In _ _ _ n1, gm_In _ _ _ n4, gm_In _ _ _ n3, gm_In _ _ _ n2]
        · rw [gm_Io _ _ _ (by decide), gm_Io _ _ _ (by decide)]; rfl
      · rw [if_neg c8, if_neg (by rw [e3]; exact c8)]
        exact ⟨rfl, rfl⟩
  · have hn := hn1 c0
    have e0 : ¬ m.1 6 6 = 0 := by rw [m6]; exact nI_ne0 (by omega) (by omega)
    have e3 : ((3 : Int32) ≤ m.1 6 6) = (3 ≤ pstg p) := by rw [m6]; exact propext (nI_leI (a := 3) (by decide) (by omega))
    have ew : m.1 6 4 - 1 = nI (pnum p - 1) := by rw [m4, nI_lit1, pk_sub hn]
    obtain ⟨w, hwn⟩ : ∃ w, pnum p = w + 1 := ⟨pnum p - 1, by omega⟩
    have hww := hw w (by omega)
    obtain ⟨a1, a2, a3, a4⟩ := mk w (by omega)
    rw [if_neg c0, if_neg e0]
    by_cases c3 : pstg p < 3
    · rw [if_pos c3, if_neg (show ¬ (3 : Int32) ≤ m.1 6 6 from by rw [e3]; omega), ew, show pnum p - 1 = w by omega]
      unfold ctFig
      have e48 : (48 : Int32) = nI 48 := by decide
      by_cases cb : 48 ≤ b
      · have ef : nI b - 48 = nI (b - 48) := by rw [e48, pk_sub cb]
        have e1 : (m.1 6 6 = 1) = (pstg p = 1) := by rw [m6]; exact propext (nI_eq (b := 1) (by omega) (by decide))
        have hw8 : nI w < nI 8 := nI_lt (by omega) (by decide)
        rw [ef, if_neg (nI_pos (by omega))]
        have good : ∀ (hle : b ≤ (if pstg p = 1 then 49 else 57)), PIm (pT1 p b) (gm_I (gm_I m 8 (nI w).toNatClampNeg (10 * m.1 8 (nI w).toNatClampNeg + nI (b - 48))) 6 6 (m.1 6 6 + 1)) ∧ pok (pT1 p b) ∧ FrR 6 10 m (gm_I (gm_I m 8 (nI w).toNatClampNeg (10 * m.1 8 (nI w).toNatClampNeg + nI (b - 48))) 6 6 (m.1 6 6 + 1)) ∧ (gm_I (gm_I m 8 (nI w).toNatClampNeg (10 * m.1 8 (nI w).toNatClampNeg + nI (b - 48))) 6 6 (m.1 6 6 + 1)).1 6 5 = m.1 6 5 := by
          intro hle
          rw [nI_clamp (by omega), a2, show (10 : Int32) = nI 10 from by decide, pk_mul, nI_add]
          refine ⟨⟨?_, ?_, fun k hk => ?_⟩, ⟨h8, ?_, fun _ => hn, fun k hk => ?_⟩, ?_, ?_⟩
          · rw [gm_Io _ _ _ (by decide)]; exact m4
          · rw [gm_Is, m6]; exact nI_1 _
          · have hk : k < pnum p := hk
            obtain ⟨k1, k2, k3, k4⟩ := mk k hk
            refine ⟨k1, ?_, k3, k4⟩
            show (gm_I (gm_I m 8 w _) 6 6 _).1 8 k = nI (updN (pfr p) (pnum p - 1) (10 * pfr p (pnum p - 1) + (b - 48)) k)
            rw [gm_In _ _ _ (by decide), gm_I1, if_pos rfl, show pnum p - 1 = w by omega]
            unfold updN
            by_cases e : k = w
            · rw [if_pos e, if_pos e]
            · rw [if_neg e, if_neg e]; exact k2
          · show pstg p + 1 ≤ 8; omega
          · have hk : k < pnum p := hk
            obtain ⟨b1, b2, b3, b4⟩ := hw k hk
            show pso p k ≤ 2 ∧ (if k + 1 = pnum p ∧ pstg p + 1 ≠ 0 then (pstg p + 1 = 1 → updN (pfr p) (pnum p - 1) (10 * pfr p (pnum p - 1) + (b - 48)) k = 0) ∧ (pstg p + 1 = 2 → updN (pfr p) (pnum p - 1) (10 * pfr p (pnum p - 1) + (b - 48)) k ≤ 1) ∧ updN (pfr p) (pnum p - 1) (10 * pfr p (pnum p - 1) + (b - 48)) k ≤ 19 ∧ psz p k = pstg p + 1 - 3 else updN (pfr p) (pnum p - 1) (10 * pfr p (pnum p - 1) + (b - 48)) k ≤ 19 ∧ 1 ≤ psz p k) ∧ psz p k ≤ 5 ∧ ∀ j, j < psz p k → psn p k j < 8
            rw [show pnum p - 1 = w by omega]
            unfold updN
            by_cases e : k = w
            · subst e
              rw [if_pos ⟨by omega, c0⟩] at b2
              rw [if_pos rfl, if_pos ⟨by omega, by omega⟩]
              obtain ⟨b21, b22, b23, b24⟩ := b2
              refine ⟨b1, ⟨fun z => by omega, fun z => ?_, ?_, by omega⟩, b3, b4⟩
              · have z1 : pstg p = 1 := by omega
                rw [if_pos z1] at hle
                have := b21 z1
                omega
              · by_cases z1 : pstg p = 1
                · rw [if_pos z1] at hle
                  have := b21 z1
                  omega
                · rw [if_neg z1] at hle
                  have := b22 (by omega)
                  omega
            · rw [if_neg (fun z => by omega)] at b2
              rw [if_neg e, if_neg (fun z => by omega)]
              exact ⟨b1, b2, b3, b4⟩
          · intro c hc
            rw [gm_In _ _ _ (show c ≠ 6 by omega), gm_In _ _ _ (show c ≠ 8 by omega)]
          · rw [gm_Io _ _ _ (by decide)]; rfl
        by_cases c1 : pstg p = 1
        · rw [if_pos (show m.1 6 6 = 1 from by rw [e1]; exact c1), if_pos c1]
          have e9 : ((1 : Int32) < nI (b - 48)) = (1 < b - 48) := propext (nI_ltI (a := 1) (by decide) (by omega))
          by_cases cc : b ≤ 49
          · rw [if_pos ⟨cb, cc⟩, if_neg (show ¬ (1 : Int32) < nI (b - 48) from by rw [e9]; omega), if_neg (nI_pos (by omega)), if_pos hw8]
            exact ⟨rfl, good (by rw [if_pos c1]; exact cc)⟩
          · rw [if_neg (fun z => cc z.2), if_pos (show (1 : Int32) < nI (b - 48) from by rw [e9]; omega)]
            exact ⟨rfl, rfl⟩
        · rw [if_neg (show ¬ m.1 6 6 = 1 from by rw [e1]; exact c1), if_neg c1]
          have e9 : ((9 : Int32) < nI (b - 48)) = (9 < b - 48) := propext (nI_ltI (a := 9) (by decide) (by omega))
          by_cases cc : b ≤ 57
          · rw [if_pos ⟨cb, cc⟩, if_neg (show ¬ (9 : Int32) < nI (b - 48) from by rw [e9]; omega), if_neg (nI_pos (by omega)), if_pos hw8]
            exact ⟨rfl, good (by rw [if_neg c1]; exact cc)⟩
          · rw [if_neg (fun z => cc z.2), if_pos (show (9 : Int32) < nI (b - 48) from by rw [e9]; omega)]
            exact ⟨rfl, rfl⟩
      · rw [if_neg (fun z => cb z.1), e48, if_pos (sub_neg (by omega) (by decide))]
        exact ⟨rfl, rfl⟩
    · rw [if_neg c3, if_pos (show (3 : Int32) ≤ m.1 6 6 from by rw [e3]; omega)]
      have e59 : (nI b = 59) = (b = 59) := propext (nI_eq (b := 59) (by omega) (by decide))
      by_cases cs : b = 59
      · rw [if_pos cs, if_pos (show nI b = 59 from by rw [e59]; exact cs)]
        unfold ctNext
        have e4 : (m.1 6 6 ≤ 3) = (pstg p ≤ 3) := by rw [m6]; exact propext (nI_leI (b := 3) (by omega) (by decide))
        by_cases c4 : 3 < pstg p
        · rw [if_pos c4, if_pos (show decide (¬ m.1 6 6 ≤ 3) = true from by simp [e4]; omega)]
          refine ⟨rfl, ⟨?_, ?_, fun k hk => ?_⟩, ⟨h8, ?_, ?_, fun k hk => ?_⟩, ?_, ?_⟩
          · rw [gm_Io _ _ _ (by decide)]; exact m4
          · rw [gm_Is]; rfl
          · exact mk k hk
          · show 0 ≤ 8; omega
          · intro z; exact absurd rfl z
          · have hk : k < pnum p := hk
            obtain ⟨b1, b2, b3, b4⟩ := hw k hk
            refine ⟨b1, ?_, b3, b4⟩
            rw [if_neg (fun z => z.2 rfl)]
            show pfr p k ≤ 19 ∧ 1 ≤ psz p k
            by_cases e : k + 1 = pnum p
            · rw [if_pos ⟨e, c0⟩] at b2
              exact ⟨b2.2.2.1, by rw [b2.2.2.2]; omega⟩
            · rw [if_neg (fun z => e z.1)] at b2
              exact b2
          · intro c hc
            rw [gm_In _ _ _ (show c ≠ 6 by omega)]
          · rw [gm_Io _ _ _ (by decide)]
        · rw [if_neg c4, if_neg (show ¬ decide (¬ m.1 6 6 ≤ 3) = true from by simp [e4]; omega)]
          exact ⟨rfl, rfl⟩
      · rw [if_neg cs, if_neg (show ¬ nI b = 59 from by rw [e59]; exact cs), ew, show pnum p - 1 = w by omega]
        unfold ctLet
        have e97 : (97 : Int32) = nI 97 := by decide
        by_cases cb : 97 ≤ b
        · have ef : nI b - 97 = nI (b - 97) := by rw [e97, pk_sub cb]
          have e8 : ((8 : Int32) ≤ nI (b - 97)) = (8 ≤ b - 97) := propext (nI_leI (a := 8) (by decide) (by omega))
          have es : m.1 6 6 - 3 = nI (pstg p - 3) := by rw [m6, show (3 : Int32) = nI 3 from by decide, pk_sub (by omega)]
          have e5 : (nI (pstg p - 3) < (5 : Int32)) = (pstg p - 3 < 5) := propext (nI_ltI (b := 5) (by omega) (by decide))
          rw [ef, if_neg (nI_pos (by omega)), es]
          by_cases cc : b ≤ 104
          · rw [if_neg (show ¬ (8 : Int32) ≤ nI (b - 97) from by rw [e8]; omega), if_neg (nI_pos (by omega))]
            by_cases c8 : pstg p < 8
            · have ei : nI w * 5 + nI (pstg p - 3) = nI (5 * w + (pstg p - 3)) := by rw [show (5 : Int32) = nI 5 from by decide, pk_mul, nI_add, Nat.mul_comm]
              rw [if_pos ⟨cb, cc, c8⟩, if_pos (show nI (pstg p - 3) < (5 : Int32) from by rw [e5]; omega), if_neg (nI_pos (by omega)), if_neg (nI_ge (by omega) (by decide)), ei, if_pos (nI_lt (by omega) (by decide)), nI_clamp (by omega), nI_clamp (by omega)]
              refine ⟨rfl, ⟨?_, ?_, fun k hk => ?_⟩, ⟨h8, ?_, fun _ => hn, fun k hk => ?_⟩, ?_, ?_⟩
              · rw [gm_Io _ _ _ (by decide)]; exact m4
              · rw [gm_Is, m6]; exact nI_1 _
              · have hk : k < pnum p := hk
                obtain ⟨k1, k2, k3, k4⟩ := mk k hk
                have hz := hw k hk
                refine ⟨k1, k2, ?_, fun j hj => ?_⟩
                · show (gm_I (gm_I (gm_I m 10 _ _) 9 w _) 6 6 _).1 9 k = nI (updN (psz p) (pnum p - 1) (pstg p - 2) k)
                  rw [gm_In _ _ _ (by decide), gm_I1, if_pos rfl, show pnum p - 1 = w by omega, nI_1]
                  unfold updN
                  by_cases e : k = w
                  · rw [if_pos e, if_pos e, show pstg p - 3 + 1 = pstg p - 2 by omega]
                  · rw [if_neg e, if_neg e]; exact k3
                · have hj : j < updN (psz p) (pnum p - 1) (pstg p - 2) k := hj
                  show (gm_I (gm_I (gm_I m 10 _ _) 9 w _) 6 6 _).1 10 (5 * k + j) = nI (if k = pnum p - 1 ∧ j = pstg p - 3 then b - 97 else psn p k j)
                  rw [gm_In _ _ _ (by decide), gm_In _ _ _ (by decide), gm_I1, if_pos rfl]
                  rw [show pnum p - 1 = w by omega] at hj ⊢
                  unfold updN at hj
                  have hzw := hww.2.1
                  rw [if_pos ⟨by omega, c0⟩] at hzw
                  by_cases e : k = w
                  · subst e
                    rw [if_pos rfl] at hj
                    by_cases e2 : j = pstg p - 3
                    · rw [if_pos (by omega), if_pos ⟨rfl, e2⟩]
                    · rw [if_neg (by omega), if_neg (fun z => e2 z.2)]
                      exact k4 j (by omega)
                  · rw [if_neg e] at hj
                    have := hz.2.2.1
                    rw [if_neg (by omega), if_neg (fun z => e z.1)]
                    exact k4 j hj
              · show pstg p + 1 ≤ 8; omega
              · have hk : k < pnum p := hk
                obtain ⟨b1, b2, b3, b4⟩ := hw k hk
                show pso p k ≤ 2 ∧ (if k + 1 = pnum p ∧ pstg p + 1 ≠ 0 then (pstg p + 1 = 1 → pfr p k = 0) ∧ (pstg p + 1 = 2 → pfr p k ≤ 1) ∧ pfr p k ≤ 19 ∧ updN (psz p) (pnum p - 1) (pstg p - 2) k = pstg p + 1 - 3 else pfr p k ≤ 19 ∧ 1 ≤ updN (psz p) (pnum p - 1) (pstg p - 2) k) ∧ updN (psz p) (pnum p - 1) (pstg p - 2) k ≤ 5 ∧ ∀ j, j < updN (psz p) (pnum p - 1) (pstg p - 2) k → (if k = pnum p - 1 ∧ j = pstg p - 3 then b - 97 else psn p k j) < 8
                rw [show pnum p - 1 = w by omega]
                unfold updN
                by_cases e : k = w
                · subst e
                  rw [if_pos ⟨by omega, c0⟩] at b2
                  rw [if_pos rfl, if_pos ⟨by omega, by omega⟩]
                  refine ⟨b1, ⟨fun z => by omega, fun z => by omega, b2.2.2.1, by omega⟩, by omega, fun j hj => ?_⟩
                  by_cases e2 : j = pstg p - 3
                  · rw [if_pos ⟨rfl, e2⟩]; omega
                  · rw [if_neg (fun z => e2 z.2)]
                    exact b4 j (by rw [b2.2.2.2]; omega)
                · rw [if_neg (fun z => by omega)] at b2
                  rw [if_neg e, if_neg (fun z => by omega)]
                  refine ⟨b1, b2, b3, fun j hj => ?_⟩
                  rw [if_neg (fun z => e z.1)]
                  exact b4 j hj
              · intro c hc
                rw [gm_In _ _ _ (show c ≠ 6 by omega), gm_In _ _ _ (show c ≠ 9 by omega), gm_In _ _ _ (show c ≠ 10 by omega)]
              · rw [gm_Io _ _ _ (by decide)]; rfl
            · rw [if_neg (fun z => c8 z.2.2), if_neg (show ¬ nI (pstg p - 3) < (5 : Int32) from by rw [e5]; omega)]
              exact ⟨rfl, rfl⟩
          · rw [if_neg (fun z => cc z.2.1), if_pos (show (8 : Int32) ≤ nI (b - 97) from by rw [e8]; omega)]
            exact ⟨rfl, rfl⟩
        · rw [if_neg (fun z => cb z.1), e97, if_pos (sub_neg (by omega) (by decide))]
          exact ⟨rfl, rfl⟩
