/-! CLUES: the night to listen next -/
/-- what kind is heard on night n if the wheel w is from night c: 0 for nothing -/
def qkd (q : QS) (w c n : Nat) : Nat := match tm (trf (trof q 9 w) c) n with
  | none => 0
  | some m => qsn q w m + 1
/-- how many of the first k nights with S make the kind x on night n -/
def qal (q : QS) (w : Nat) (S : Nat → Bool) (n x : Nat) : Nat → Nat
  | 0 => 0
  | k + 1 => qal q w S n x k + (if S k = true ∧ qkd q w k n = x then 1 else 0)
theorem qal_le (q : QS) (w : Nat) (S : Nat → Bool) (n x k : Nat) : qal q w S n x k ≤ k := by
  induction k with
  | zero => exact Nat.le_refl 0
  | succ k ih => rw [qal]; split <;> omega
def alk (q : QS) (w : Nat) (S : Nat → Bool) (c n i : Nat) : Nat := qal q w S (i / 9) (i % 9) c + (if i / 9 < n ∧ qkd q w c (i / 9) = i % 9 then 1 else 0)
theorem qkd_lt {q : QS} (h : qok q) {w : Nat} (hw : w < qnum q) (c n : Nat) : qkd q w c n < 9 := by
  unfold qkd
  cases ho : tm (trf (trof q 9 w) c) n with
  | none => show 0 < 9; omega
  | some m =>
    have hm : m < qsz q w := tm_lt ho
    have := (h.2.1 w hw).2.2.2.2 m hm
    show qsn q w m + 1 < 9
    omega
theorem qkd_I (q : QS) (w c n : Nat) : nI n * 9 + oI ((tm (trf (trof q 9 w) c) n).map (tsn (trf (trof q 9 w) c))) + 1 = nI (9 * n + qkd q w c n) := by
  rw [show (9 : Int32) = nI 9 from by decide, pk_mul]
  unfold qkd
  cases ho : tm (trf (trof q 9 w) c) n with
  | none =>
    show nI (n * 9) + (-1) + 1 = nI (9 * n + 0)
    rw [Int32.add_assoc, show (-1 : Int32) + 1 = nI 0 from by decide, nI_add, Nat.mul_comm]
  | some m =>
    show nI (n * 9) + nI (qsn q w m) + 1 = nI (9 * n + (qsn q w m + 1))
    rw [nI_add, nI_1, Nat.mul_comm]
    rfl
theorem alk_0 (q : QS) (w : Nat) (S : Nat → Bool) (c i : Nat) : alk q w S c 0 i = qal q w S (i / 9) (i % 9) c := by unfold alk; rw [if_neg (by omega)]; rfl
theorem alk_30 (q : QS) (w : Nat) {S : Nat → Bool} {c i : Nat} (hS : S c = true) (hi : i < 270) : alk q w S c 30 i = qal q w S (i / 9) (i % 9) (c + 1) := by
  unfold alk
  rw [qal]
  have : i / 9 < 30 := by omega
  by_cases k : qkd q w c (i / 9) = i % 9
  · rw [if_pos ⟨this, k⟩, if_pos ⟨hS, k⟩]
  · rw [if_neg (fun z => k z.2), if_neg (fun z => k z.2)]
theorem alk_s {q : QS} (h : qok q) {w : Nat} (hw : w < qnum q) (S : Nat → Bool) {c n : Nat} (i : Nat) : alk q w S c (n + 1) i = if i = 9 * n + qkd q w c n then alk q w S c n i + 1 else alk q w S c n i := by
  unfold alk
  have hk := qkd_lt h hw c n
  by_cases e : i = 9 * n + qkd q w c n
  · have e1 : i / 9 = n := by omega
    have e2 : i % 9 = qkd q w c n := by omega
    rw [if_pos e, e1, e2, if_pos ⟨by omega, rfl⟩, if_neg (by omega)]
  · rw [if_neg e]
    congr 1
    by_cases z : i / 9 < n ∧ qkd q w c (i / 9) = i % 9
    · rw [if_pos z, if_pos ⟨by omega, z.2⟩]
    · rw [if_neg z, if_neg]
      rintro ⟨z1, z2⟩
      apply z
      refine ⟨?_, z2⟩
      rcases Nat.lt_or_ge (i / 9) n with y | y
      · exact y
      · exfalso
        have e1 : i / 9 = n := by omega
        rw [e1] at z2
        apply e
        omega
def maxN (f : Nat → Nat) : Nat → Nat
  | 0 => 0
  | k + 1 => if maxN f k < f k then f k else maxN f k
theorem maxN_le {f : Nat → Nat} {B : Nat} (h : ∀ i, f i ≤ B) : ∀ k, maxN f k ≤ B := by
  intro k
  induction k with
  | zero => exact Nat.zero_le _
  | succ k ih => rw [maxN]; split; exact h k; exact ih
def aminF (f : Nat → Nat) : Nat → Nat × Nat
  | 0 => (0, f 0)
  | n + 1 => if f (n + 1) < (aminF f n).2 then (n + 1, f (n + 1)) else aminF f n
theorem aminF_eq (f : Nat → Nat) (n : Nat) : (aminF f n).2 = f (aminF f n).1 ∧ (aminF f n).1 ≤ n := by
  induction n with
  | zero => exact ⟨rfl, Nat.le_refl 0⟩
  | succ n ih => rw [aminF]; split; exact ⟨rfl, Nat.le_refl _⟩; exact ⟨ih.1, by omega⟩
def qmost (q : QS) (w : Nat) (S : Nat → Bool) (n : Nat) : Nat := maxN (fun x => qal q w S n x 20) 9
set_option maxRecDepth 100000 in
set_option maxHeartbeats 400000 in
theorem aX3_tallyOne {j : Nat} (hj : j < 270) (μ : gm_M) : Ret yX3_tallyOne cX3_tallyOne 2 none 0 [(.ref 38), (.int (nI j))] μ none (gm_I μ 39 j (μ.1 39 j + 1)) := by
  refine Sat.of (L := [some (.ref 38), some (.int (nI j))]) (by decide) (fun _ => rfl) (fun _ => rfl) ?_
  refine go_il1 dX3_tallyOne_0 ?_
  refine go_iflt 23 dX3_tallyOne_1 (by decide) (fun h1 => ?_) (fun h1 => ?_)
  · refine go_vret dX3_tallyOne_23 ?_
    first | exact absurd h1 (nI_pos (by omega)) | exact absurd h10 (nI_ge hj (by decide)) | (refine ⟨rfl, ?_⟩; rw [nI_clamp (by omega)])
  · refine go_il1 dX3_tallyOne_4 (go_al0 dX3_tallyOne_5 (go_getR (j := 39) fX3_11 rfl rfl dX3_tallyOne_6 (go_alenI rfl dX3_tallyOne_9 ?_)))
    refine go_cge 23 dX3_tallyOne_10 (by decide) (fun h10 => ?_) (fun h10 => ?_)
    · refine go_vret dX3_tallyOne_23 ?_
      first | exact absurd h1 (nI_pos (by omega)) | exact absurd h10 (nI_ge hj (by decide)) | (refine ⟨rfl, ?_⟩; rw [nI_clamp (by omega)])
    · refine go_al0 dX3_tallyOne_13 (go_getR (j := 39) fX3_11 rfl rfl dX3_tallyOne_14 (go_il1 dX3_tallyOne_17 (go_dup2 dX3_tallyOne_18 rfl rfl (go_iald rfl (vp_in_nI hj (by decide)) dX3_tallyOne_19 (go_ic1 dX3_tallyOne_20 (go_iadd dX3_tallyOne_21 (go_iast rfl (vp_in_nI hj (by decide)) dX3_tallyOne_22 ?_)))))))
      refine go_vret dX3_tallyOne_23 ?_
      first | exact absurd h1 (nI_pos (by omega)) | exact absurd h10 (nI_ge hj (by decide)) | (refine ⟨rfl, ?_⟩; rw [nI_clamp (by omega)])

set_option maxRecDepth 100000 in
set_option maxHeartbeats 400000 in
theorem aX3_al_in {q : QS} {μ mr : gm_M} {w c : Nat} {cm : Int32} {S : Nat → Bool} (hQ : CQ q μ) (hw : w < qnum q) (hR : RO (trf (trof q 9 w) c) 30 mr) {Post : Option Value → gm_M → Prop} (K : ∀ (d5 : Option Value) (m : gm_M), FrR 39 39 mr m → (∀ i, i < 270 → m.1 39 i = nI (alk q w S c 30 i)) → Go yX3_tallyAlike cX3_tallyAlike 6 none 3 80 [some (.ref 38), some (.int (nI w)), some (.int cm), some (.ref 25), some (.int (nI c)), d5] [] m Post) : ∀ (k n : Nat) (m : gm_M), 30 - n = k → n ≤ 30 → FrR 39 39 mr m → (∀ i, i < 270 → m.1 39 i = nI (alk q w S c n i)) → Go yX3_tallyAlike cX3_tallyAlike 6 none 3 49 [some (.ref 38), some (.int (nI w)), some (.int cm), some (.ref 25), some (.int (nI c)), some (.int (nI n))] [] m Post := by
  intro k
  induction k using Nat.strongRecOn with
  | ind k ih =>
    intro n m hk hj hF ht
    refine go_il5 dX3_tallyAlike_49 (go_bipush (v := 30) dX3_tallyAlike_51 (by decide) ?_)
    refine go_cge 80 dX3_tallyAlike_53 (by decide) (fun h53 => ?_) (fun h53 => ?_)
    · have he : n = 30 := Nat.le_antisymm hj ((gm_bdN (by decide) (by decide) (by omega)).mp h53)
      subst he
      exact K _ _ hF ht
    · have hlt : n < 30 := Nat.not_le.mp (fun z => h53 ((gm_bdN (by decide) (by decide) (by omega)).mpr z))
      have hkd := qkd_lt hQ.1 hw c n
      refine go_al0 dX3_tallyAlike_56 (go_il5 dX3_tallyAlike_57 (go_bipush (v := 9) dX3_tallyAlike_59 (by decide) (go_imul dX3_tallyAlike_61 (go_al3 dX3_tallyAlike_62 (go_il5 dX3_tallyAlike_63 (go_V1r mcX9_heardOn mvX9_heardOn kX3_71 rfl dX3_tallyAlike_65 rfl rfl (aHeard ((show RO (trf (trof q 9 w) c) 30 m from ⟨by rw [hF 28 (by decide), hF 29 (by decide), hF 30 (by decide), hF 31 (by decide)]; exact hR.1, by rw [hF 25 (by decide)]; exact hR.2⟩)) hlt) (go_iadd dX3_tallyAlike_68 (go_ic1 dX3_tallyAlike_69 (go_iadd dX3_tallyAlike_70 ?_)))))))))
      rw [qkd_I]
      refine go_V1v mcX3_tallyOne mvX3_tallyOne kX3_74 rfl dX3_tallyAlike_71 rfl rfl (aX3_tallyOne (j := 9 * n + qkd q w c n) (by omega) _) (go_inc5 (k := 1) dX3_tallyAlike_74 (by decide) rfl rfl (go_goto 49 dX3_tallyAlike_77 (by decide) ?_))
      rw [nI_1]
      refine ih (30 - (n + 1)) (by omega) (n + 1) _ rfl (by omega) (hF.I _ _ (by decide) (by decide)) (fun i hi => ?_)
      rw [alk_s hQ.1 hw S i, gm_I1, if_pos rfl]
      by_cases z : i = 9 * n + qkd q w c n
      · rw [if_pos z, if_pos z, ht _ (by omega), nI_1, z]
      · rw [if_neg z, if_neg z, ht i hi]
set_option maxRecDepth 100000 in
set_option maxHeartbeats 400000 in
theorem aX3_al_out {q : QS} {μ : gm_M} {w : Nat} {cm : Int32} (hQ : CQ q μ) (hw : w < qnum q) : ∀ (k c f0 : Nat) (d5 : Option Value) (m : gm_M), 20 - c = k → c ≤ 20 → FrR 25 39 μ m → TI (trf (trof q 9 w) f0) m → (∀ i, i < 270 → m.1 39 i = nI (qal q w (bt cm) (i / 9) (i % 9) c)) → Go yX3_tallyAlike cX3_tallyAlike 6 none 3 20 [some (.ref 38), some (.int (nI w)), some (.int cm), some (.ref 25), some (.int (nI c)), d5] [] m (fun r μ' => r = none ∧ FrR 25 39 μ μ' ∧ ∀ i, i < 270 → μ'.1 39 i = nI (qal q w (bt cm) (i / 9) (i % 9) 20)) := by
  intro k
  induction k using Nat.strongRecOn with
  | ind k ih =>
    intro c f0 d5 m hk hj hF hT ht
    refine go_il4 dX3_tallyAlike_20 (go_bipush (v := 20) dX3_tallyAlike_22 (by decide) ?_)
    refine go_cge 86 dX3_tallyAlike_24 (by decide) (fun h24 => ?_) (fun h24 => ?_)
    · refine go_vret dX3_tallyAlike_86 ?_
      have he : c = 20 := Nat.le_antisymm hj ((gm_bdN (by decide) (by decide) (by omega)).mp h24)
      subst he
      exact ⟨rfl, hF, ht⟩
    · have hlt : c < 20 := Nat.not_le.mp (fun z => h24 ((gm_bdN (by decide) (by decide) (by omega)).mpr z))
      refine go_il2 dX3_tallyAlike_27 (go_il4 dX3_tallyAlike_28 (go_SN2r mcX11_isOn mvX11_isOn kX3_68 dX3_tallyAlike_30 rfl rfl (sX11_isOn _ _ _) ?_))
      refine go_ifeqB 80 dX3_tallyAlike_33 (by decide) (fun h33 => ?_) (fun h33 => ?_)
      · refine go_inc4 (k := 1) dX3_tallyAlike_80 (by decide) rfl rfl (go_goto 20 dX3_tallyAlike_83 (by decide) ?_)
        have hoff : bt cm c = false := by rw [← gon_bt (by omega)]; exact h33
        rw [nI_1]
        refine ih (20 - (c + 1)) (by omega) (c + 1) f0 _ _ rfl (by omega) hF hT (fun i hi => ?_)
        rw [ht i hi, qal, hoff]
        simp
      · have hon : bt cm c = true := by rw [← gon_bt (by omega)]; exact h33
        have hT2 : TI (trf (trof q 9 w) c) (gm_I m 25 7 (nI c)) := hT.from (by omega)
        refine go_al3 dX3_tallyAlike_36 (go_il4 dX3_tallyAlike_37 (go_putI fX3_39 rfl rfl dX3_tallyAlike_39 (go_al3 dX3_tallyAlike_42 ?_)))
        refine go_V0 mcX9_run mvX9_run kX3_44 rfl dX3_tallyAlike_43 rfl rfl (aRun hT2) ?_
        rintro _ m43 ⟨rfl, hT43, hR43, hE43, hF43⟩
        have hS : FrR 25 39 μ m43 := (hF.I _ _ (by decide) (by decide)).f25 hF43 (by decide) (by decide)
        refine go_ic0 dX3_tallyAlike_46 (go_is5 dX3_tallyAlike_47 rfl rfl ?_)
        have ht0 : ∀ i, i < 270 → m43.1 39 i = nI (alk q w (bt cm) c 0 i) := fun i hi => by rw [alk_0, hF43.1 39 (by decide)]; exact ht i hi
        rw [← nI_0]
        refine aX3_al_in hQ hw hR43 ?_ _ 0 _ rfl (Nat.zero_le _) (FrR.rf _) ht0
        intro d5 m9 hF9 ht9
        refine go_inc4 (k := 1) dX3_tallyAlike_80 (by decide) rfl rfl (go_goto 20 dX3_tallyAlike_83 (by decide) ?_)
        rw [nI_1]
        refine ih (20 - (c + 1)) (by omega) (c + 1) c _ _ rfl (by omega) (fun a ha => ?_) (hT43.cong (fun k _ _ => by rw [hF9 25 (by decide)]) (hF9 26 (by decide)) (hF9 27 (by decide))) (fun i hi => ?_)
        · rw [hF9 a (by omega)]; exact hS a ha
        · rw [ht9 i hi, alk_30 q w hon hi]
set_option maxRecDepth 100000 in
set_option maxHeartbeats 400000 in
theorem aX3_tallyAlike {q : QS} {μ : gm_M} {w : Nat} {cm : Int32} (hQ : CQ q μ) (hw : w < qnum q) : Sat yX3_tallyAlike cX3_tallyAlike 6 none 3 [(.ref 38), (.int (nI w)), (.int cm)] μ (fun r μ' => r = none ∧ FrR 25 39 μ μ' ∧ ∀ i, i < 270 → μ'.1 39 i = nI (qal q w (bt cm) (i / 9) (i % 9) 20)) := by
  refine Sat.of (L := [some (.ref 38), some (.int (nI w)), some (.int cm), none, none, none]) (by decide) (fun _ => rfl) (fun _ => rfl) ?_
  refine go_al0 dX3_tallyAlike_0 (go_getR (j := 39) fX3_11 rfl rfl dX3_tallyAlike_1 (go_ic0 dX3_tallyAlike_4 (go_S2v mcJ7_fill_53178 mvJ7_fill_53178 kX3_62 dX3_tallyAlike_5 rfl rfl (sJ7_fillI rfl (by decide) _ _) ?_)))
  have hF0 : FrR 25 39 μ (gm_fill μ 39 270 0) := fun a ha => by
    have : a ≠ 39 := by omega
    simp [gm_fill, gm_aI, this]
  refine go_al0 dX3_tallyAlike_8 (go_getR (j := 1) fX3_15 rfl rfl dX3_tallyAlike_9 (go_il1 dX3_tallyAlike_12 ?_))
  refine go_V1 mcX1_begin mvX1_begin kX3_35 rfl dX3_tallyAlike_13 rfl rfl (aBegin (hQ.frR hF0) hw) ?_
  rintro _ m13 ⟨rfl, hT13, hF13⟩
  refine go_as3 dX3_tallyAlike_16 rfl rfl (go_ic0 dX3_tallyAlike_17 (go_is4 dX3_tallyAlike_18 rfl rfl ?_))
  refine aX3_al_out hQ hw _ 0 (tfr (trof q 9 w)) _ _ rfl (Nat.zero_le _) (hF0.f25 hF13 (by decide) (by decide)) hT13 (fun i hi => ?_)
  rw [hF13.1 39 (by decide)]
  simp [gm_fill, gm_aI, hi, qal]
  exact nI_0.symm

theorem aItemA {F : Nat → Nat} {μ : gm_M} {n x : Nat} (hn : n < 30) (hx : x < 9) (ht : ∀ i, i < 270 → μ.1 39 i = nI (F i)) : Ret yX11_itemOr cX11_itemOr 3 (some .int) 0 [.ref 39, .int (nI n * 9 + nI x), .int 0] μ (some (.int (nI (F (9 * n + x))))) μ := by
  have e : nI n * 9 + nI x = nI (9 * n + x) := by rw [show (9 : Int32) = nI 9 from by decide, pk_mul, nI_add, Nat.mul_comm]
  have := sX11_itemOr (c := 39) (n := 270) rfl (by decide) (nI n * 9 + nI x) 0 μ
  rw [e, gi_nI (by omega) (by decide), ht _ (by omega)] at this
  rw [e]
  exact this
set_option maxRecDepth 100000 in
set_option maxHeartbeats 400000 in
theorem aX3_most_loop {F : Nat → Nat} {μ : gm_M} {n : Nat} (hn : n < 30) (ht : ∀ i, i < 270 → μ.1 39 i = nI (F i)) (hFs : ∀ i, F i ≤ 2 ^ 20) : ∀ (k x : Nat), 9 - x = k → x ≤ 9 → Go yX3_mostAlike cX3_mostAlike 4 (some .int) 1 4 [some (.ref 38), some (.int (nI n)), some (.int (nI (maxN (fun x => F (9 * n + x)) x))), some (.int (nI x))] [] μ (fun r μ' => r = some (.int (nI (maxN (fun x => F (9 * n + x)) 9))) ∧ μ' = μ) := by
  intro k
  induction k using Nat.strongRecOn with
  | ind k ih =>
    intro x hk hj
    refine go_il3 dX3_mostAlike_4 (go_bipush (v := 9) dX3_mostAlike_5 (by decide) ?_)
    refine go_cge 35 dX3_mostAlike_7 (by decide) (fun h7 => ?_) (fun h7 => ?_)
    · refine go_il2 dX3_mostAlike_35 ?_
      refine go_iret dX3_mostAlike_36 ?_
      have he : x = 9 := Nat.le_antisymm hj ((gm_bdN (by decide) (by decide) (by omega)).mp h7)
      subst he
      exact ⟨rfl, rfl⟩
    · have hlt : x < 9 := Nat.not_le.mp (fun z => h7 ((gm_bdN (by decide) (by decide) (by omega)).mpr z))
      refine go_il2 dX3_mostAlike_10 (go_al0 dX3_mostAlike_11 (go_getR (j := 39) fX3_11 rfl rfl dX3_mostAlike_12 (go_il1 dX3_mostAlike_15 (go_bipush (v := 9) dX3_mostAlike_16 (by decide) (go_imul dX3_mostAlike_18 (go_il3 dX3_mostAlike_19 (go_iadd dX3_mostAlike_20 (go_ic0 dX3_mostAlike_21 (go_SN3r mcX11_itemOr mvX11_itemOr kX3_78 dX3_mostAlike_22 rfl rfl (aItemA hn hlt ht) (go_max kX3_82 dX3_mostAlike_25 rfl rfl (go_is2 dX3_mostAlike_28 rfl rfl (go_inc3 (k := 1) dX3_mostAlike_29 (by decide) rfl rfl (go_goto 4 dX3_mostAlike_32 (by decide) ?_)))))))))))))
      rw [nI_1]
      have e : (if nI (maxN (fun x => F (9 * n + x)) x) < nI (F (9 * n + x)) then nI (F (9 * n + x)) else nI (maxN (fun x => F (9 * n + x)) x)) = nI (maxN (fun x => F (9 * n + x)) (x + 1)) := by
        have h1 := maxN_le (f := fun x => F (9 * n + x)) (fun i => hFs _) x
        have h2 := hFs (9 * n + x)
        rw [maxN]
        by_cases z : maxN (fun x => F (9 * n + x)) x < F (9 * n + x)
        · rw [if_pos z, if_pos ((nI_ltI (by omega) (by omega)).mpr z)]
        · rw [if_neg z, if_neg (fun y => z ((nI_ltI (by omega) (by omega)).mp y))]
      rw [e]
      exact ih (9 - (x + 1)) (by omega) (x + 1) rfl (by omega)
set_option maxRecDepth 100000 in
set_option maxHeartbeats 400000 in
theorem aX3_mostAlike {F : Nat → Nat} {μ : gm_M} {n : Nat} (hn : n < 30) (ht : ∀ i, i < 270 → μ.1 39 i = nI (F i)) (hFs : ∀ i, F i ≤ 2 ^ 20) : Ret yX3_mostAlike cX3_mostAlike 4 (some .int) 1 [(.ref 38), (.int (nI n))] μ (some (.int (nI (maxN (fun x => F (9 * n + x)) 9)))) μ := by
  refine Sat.of (L := [some (.ref 38), some (.int (nI n)), none, none]) (by decide) (fun _ => rfl) (fun _ => rfl) ?_
  refine go_ic0 dX3_mostAlike_0 (go_is2 dX3_mostAlike_1 rfl rfl (go_ic0 dX3_mostAlike_2 (go_is3 dX3_mostAlike_3 rfl rfl ?_)))
  exact aX3_most_loop hn ht hFs _ 0 rfl (Nat.zero_le _)

set_option maxRecDepth 100000 in
set_option maxHeartbeats 400000 in
theorem aX3_next_loop {F : Nat → Nat} {μ : gm_M} {d1 : Option Value} {cm : Int32} (ht : ∀ i, i < 270 → μ.1 39 i = nI (F i)) (hFs : ∀ i, F i ≤ 2 ^ 20) : ∀ (k n : Nat) (d6 : Option Value), 29 - n = k → n ≤ 29 → Go yX3_nextNight cX3_nextNight 7 (some .int) 4 18 [some (.ref 38), d1, some (.int cm), some (.int (nI (aminF (fun n => maxN (fun x => F (9 * n + x)) 9) n).1)), some (.int (nI (aminF (fun n => maxN (fun x => F (9 * n + x)) 9) n).2)), some (.int (nI (n + 1))), d6] [] μ (fun r μ' => r = some (.int (nI (aminF (fun n => maxN (fun x => F (9 * n + x)) 9) 29).1)) ∧ μ' = μ) := by
  intro k
  induction k using Nat.strongRecOn with
  | ind k ih =>
    intro n d6 hk hj
    refine go_il5 dX3_nextNight_18 (go_bipush (v := 30) dX3_nextNight_20 (by decide) ?_)
    refine go_cge 53 dX3_nextNight_22 (by decide) (fun h22 => ?_) (fun h22 => ?_)
    · refine go_il3 dX3_nextNight_53 ?_
      refine go_iret dX3_nextNight_54 ?_
      have he : n = 29 := by
        have := (gm_bdN (x := 30) (N := 30) (by decide) (by decide) (by omega)).mp h22
        omega
      subst he
      exact ⟨rfl, rfl⟩
    · have hlt : n + 1 < 30 := Nat.not_le.mp (fun z => h22 ((gm_bdN (by decide) (by decide) (by omega)).mpr z))
      refine go_al0 dX3_nextNight_25 (go_il5 dX3_nextNight_26 (go_V1r mcX3_mostAlike mvX3_mostAlike kX3_58 rfl dX3_nextNight_28 rfl rfl (aX3_mostAlike (by omega) ht hFs) (go_is6 dX3_nextNight_31 rfl rfl (go_il6 dX3_nextNight_33 (go_il4 dX3_nextNight_35 ?_)))))
      refine go_cge 47 dX3_nextNight_37 (by decide) (fun h37 => ?_) (fun h37 => ?_)
      · refine go_inc5 (k := 1) dX3_nextNight_47 (by decide) rfl rfl (go_goto 18 dX3_nextNight_50 (by decide) ?_)
        rw [nI_1]
        have ha := (aminF_eq (fun n => maxN (fun x => F (9 * n + x)) 9) n)
        have hb := maxN_le (f := fun x => F (9 * (aminF (fun n => maxN (fun x => F (9 * n + x)) 9) n).1 + x)) (fun i => hFs _) 9
        have hb2 := maxN_le (f := fun x => F (9 * (n + 1) + x)) (fun i => hFs _) 9
        have e : aminF (fun n => maxN (fun x => F (9 * n + x)) 9) (n + 1) = aminF (fun n => maxN (fun x => F (9 * n + x)) 9) n := by
          have h9 := h37
          rw [nI_leI (by rw [ha.1]; omega) (by omega)] at h9
          rw [aminF, if_neg (by omega)]
        have h := fun d => ih (29 - (n + 1)) (by omega) (n + 1) d rfl (by omega)
        rw [e] at h
        exact h _
      · refine go_il5 dX3_nextNight_40 (go_is3 dX3_nextNight_42 rfl rfl (go_il6 dX3_nextNight_43 (go_is4 dX3_nextNight_45 rfl rfl (go_inc5 (k := 1) dX3_nextNight_47 (by decide) rfl rfl (go_goto 18 dX3_nextNight_50 (by decide) ?_)))))
        rw [nI_1]
        have ha := (aminF_eq (fun n => maxN (fun x => F (9 * n + x)) 9) n)
        have hb := maxN_le (f := fun x => F (9 * (aminF (fun n => maxN (fun x => F (9 * n + x)) 9) n).1 + x)) (fun i => hFs _) 9
        have hb2 := maxN_le (f := fun x => F (9 * (n + 1) + x)) (fun i => hFs _) 9
        have e : aminF (fun n => maxN (fun x => F (9 * n + x)) 9) (n + 1) = (n + 1, maxN (fun x => F (9 * (n + 1) + x)) 9) := by
          have h9 := h37
          rw [nI_leI (by rw [ha.1]; omega) (by omega)] at h9
          rw [aminF, if_pos (by omega)]
        have h := fun d => ih (29 - (n + 1)) (by omega) (n + 1) d rfl (by omega)
        rw [e] at h
        exact h _
theorem aX3_most0 {F : Nat → Nat} {μ : gm_M} (ht : ∀ i, i < 270 → μ.1 39 i = nI (F i)) (hFs : ∀ i, F i ≤ 2 ^ 20) : Ret yX3_mostAlike cX3_mostAlike 4 (some .int) 1 [.ref 38, .int 0] μ (some (.int (nI (maxN (fun x => F (9 * 0 + x)) 9)))) μ := aX3_mostAlike (n := 0) (by decide) ht hFs
set_option maxRecDepth 100000 in
set_option maxHeartbeats 400000 in
theorem aX3_nextNight {q : QS} {μ : gm_M} {w : Nat} {cm : Int32} (hQ : CQ q μ) (hw : w < qnum q) : Sat yX3_nextNight cX3_nextNight 7 (some .int) 4 [(.ref 38), (.int (nI w)), (.int cm)] μ (fun r μ' => r = some (.int (nI (aminF (qmost q w (bt cm)) 29).1)) ∧ FrR 25 39 μ μ') := by
  refine Sat.of (L := [some (.ref 38), some (.int (nI w)), some (.int cm), none, none, none, none]) (by decide) (fun _ => rfl) (fun _ => rfl) ?_
  refine go_al0 dX3_nextNight_0 (go_il1 dX3_nextNight_1 (go_il2 dX3_nextNight_2 ?_))
  refine go_V2 mcX3_tallyAlike mvX3_tallyAlike kX3_54 rfl dX3_nextNight_3 rfl rfl (aX3_tallyAlike hQ hw) ?_
  rintro _ m3 ⟨rfl, hF3, ht3⟩
  have hFs : ∀ i, qal q w (bt cm) (i / 9) (i % 9) 20 ≤ 2 ^ 20 := fun i => Nat.le_trans (qal_le _ _ _ _ _ _) (by decide)
  refine go_ic0 dX3_nextNight_6 (go_is3 dX3_nextNight_7 rfl rfl (go_al0 dX3_nextNight_8 (go_ic0 dX3_nextNight_9 (go_V1r mcX3_mostAlike mvX3_mostAlike kX3_58 rfl dX3_nextNight_10 rfl rfl (aX3_most0 ht3 hFs) (go_is4 dX3_nextNight_13 rfl rfl (go_ic1 dX3_nextNight_15 (go_is5 dX3_nextNight_16 rfl rfl ?_)))))))
  refine Go.post ?_ (aX3_next_loop ht3 hFs _ 0 _ rfl (Nat.zero_le _))
  rintro r m9 ⟨h1, h2⟩
  subst h2
  refine ⟨?_, hF3⟩
  rw [h1]
  have e : (fun n => maxN (fun x => qal q w (bt cm) ((9 * n + x) / 9) ((9 * n + x) % 9) 20) 9) = qmost q w (bt cm) := by
    funext n
    unfold qmost
    have key : ∀ k, k ≤ 9 → maxN (fun x => qal q w (bt cm) ((9 * n + x) / 9) ((9 * n + x) % 9) 20) k = maxN (fun x => qal q w (bt cm) n x 20) k := by
      intro k
      induction k with
      | zero => intro _; rfl
      | succ k ih =>
        intro hk
        rw [maxN, maxN, ih (by omega), show (9 * n + k) / 9 = n by omega, show (9 * n + k) % 9 = k by omega]
    exact key 9 (Nat.le_refl 9)
  rw [e]

