/-! PLANS: ripe -/
theorem oI_eq {o : Option Nat} {k : Nat} (ho : ∀ j, o = some j → j < 2 ^ 20) (hk : k < 2 ^ 20) : oI o = nI k ↔ o = some k := by
  cases o with
  | none => exact ⟨fun z => absurd z.symm (nI_ne_m1 hk), fun z => by cases z⟩
  | some j =>
    have := ho j rfl
    constructor
    · intro z
      rw [(nI_eq (by omega) (by omega)).mp z]
    · intro z; cases z; rfl
/-- ripe on night x, if also the nights with g are turned -/
def rip (t : TR) (x : Nat) (g : Nat → Bool) : Bool := decide (tm (trt t (fun n => ttu t n || g n)) x = some (tsz t - 1))
def ripO (t : TR) (x : Nat) : Option Nat := firstN (fun a => rip t x (fun n => decide (n = a))) (x + 1 - (tfr t - 1)) (tfr t - 1)
/-- the first pair a < b ≤ x, with a among k from a on -/
def pairN (p : Nat → Nat → Bool) (x : Nat) : Nat → Nat → Option (Nat × Nat)
  | 0, _ => none
  | k + 1, a => match firstN (p a) (x - a) (a + 1) with
    | some b => some (a, b)
    | none => pairN p x k (a + 1)
def ripT (t : TR) (x : Nat) : Option (Nat × Nat) := pairN (fun a b => rip t x (fun n => decide (n = a) || decide (n = b))) x (x + 1 - (tfr t - 1)) (tfr t - 1)
theorem TI.ripe {t : TR} {m : gm_M} {g0 g : Nat → Bool} {b : Int32} (h : TI (trt t g0) m) (hb : ∀ n, n < 30 → bt b n = (ttu t n || g n)) : TI (trt t (fun n => ttu t n || g n)) (gm_I m 25 9 b) := h.turn (g := fun n => ttu t n || g n) hb
theorem rip_iff {t : TR} {m : gm_M} {x : Nat} {g : Nat → Bool} (h : TI (trt t (fun n => ttu t n || g n)) m) : oI (tm (trt t (fun n => ttu t n || g n)) x) = m.1 25 8 - 1 ↔ rip t x g = true := by
  have e8 : m.1 25 8 = nI (tsz t) := h.2.2.2.1
  have z1 : 1 ≤ tsz t := h.1.2.2.1
  have z5 : tsz t ≤ 5 := h.1.2.2.2.1
  have e : m.1 25 8 - 1 = nI (tsz t - 1) := by
    rw [e8]
    obtain ⟨k, hk⟩ : ∃ k, tsz t = k + 1 := ⟨tsz t - 1, by omega⟩
    rw [hk, nI_pred]
    rfl
  rw [e, oI_eq (tm_small h x) (by omega)]
  unfold rip
  exact decide_eq_true_iff.symm
theorem nI_gtx {x a : Nat} (hx : x < 2 ^ 20) (ha : a < 2 ^ 20) : nI x < nI a ↔ x < a := nI_ltI (by omega) (by omega)
set_option maxRecDepth 100000 in
set_option maxHeartbeats 400000 in
theorem aX5_firstOfUse {t : TR} {μ : gm_M} (h : TI t μ) : Ret yX5_firstOfUse cX5_firstOfUse 1 (some .int) 1 [(.ref 25)] μ (some (.int (nI (tfr t - 1)))) μ := by
  refine Sat.of (L := [some (.ref 25)]) (by decide) (fun _ => rfl) (fun _ => rfl) ?_
  refine go_al0 dX5_firstOfUse_0 (go_getI fX5_61 rfl rfl dX5_firstOfUse_1 (go_ic1 dX5_firstOfUse_4 (go_isub dX5_firstOfUse_5 (go_ic0 dX5_firstOfUse_6 (go_max kX5_64 dX5_firstOfUse_7 rfl rfl ?_)))))
  refine go_iret dX5_firstOfUse_10 ?_
  refine ⟨?_, rfl⟩
  rw [h.2.2.1]
  have hf := h.1.2.1
  cases hq : tfr t with
  | zero => rfl
  | succ f => rw [nI_pred, if_neg (nI_pos (by omega))]; rfl

set_option maxRecDepth 100000 in
set_option maxHeartbeats 400000 in
theorem aX5_one_loop {t : TR} {μ : gm_M} {x : Nat} {b : Int32} (hx : x < 30) (hb : ∀ n, n < 30 → bt b n = ttu t n) : ∀ (k a : Nat) (g0 : Nat → Bool) (m : gm_M), x + 1 - a = k → a ≤ 31 → FrR 25 34 μ m → TI (trt t g0) m → m.1 34 = μ.1 34 → Go yX5_findRipeByOne cX5_findRipeByOne 5 (some .boolean) 3 11 [some (.ref 34), some (.ref 25), some (.int (nI x)), some (.int b), some (.int (nI a))] [] m (fun r μ' => r = some (.int (gb (firstN (fun a => rip t x (fun n => decide (n = a))) k a).isSome)) ∧ FrR 25 34 μ μ' ∧ (match (firstN (fun a => rip t x (fun n => decide (n = a))) k a) with | some a => μ'.1 34 4 = 1 ∧ μ'.1 34 5 = nI a ∧ μ'.1 34 6 = μ.1 34 6 | none => TI t μ' ∧ μ'.1 34 = μ.1 34)) := by
  intro k
  induction k using Nat.strongRecOn with
  | ind k ih =>
    intro a g0 m hk hj hF hT hm
    refine go_il4 dX5_findRipeByOne_11 (go_il2 dX5_findRipeByOne_13 ?_)
    refine go_cgt 60 dX5_findRipeByOne_14 (by decide) (fun h14 => ?_) (fun h14 => ?_)
    · refine go_al1 dX5_findRipeByOne_60 (go_il3 dX5_findRipeByOne_61 (go_putI fX5_70 rfl rfl dX5_findRipeByOne_62 (go_ic0 dX5_findRipeByOne_65 ?_)))
      refine go_zret dX5_findRipeByOne_66 rfl ?_
      obtain rfl : k = 0 := by
        have := (nI_gtx (by omega) (by omega)).mp h14
        omega
      rw [firstN]
      refine ⟨rfl, hF.I _ _ (by decide) (by decide), ?_, hm⟩
      exact (hT.turn (g := ttu t) hb : TI (trt t (ttu t)) _)
    · have hlt : a ≤ x := Nat.not_lt.mp (fun z => h14 ((nI_gtx (by omega) (by omega)).mpr z))
      have hT2 : TI (trt t (fun n => ttu t n || decide (n = a))) (gm_I m 25 9 (b ||| (1 : Int32) <<< (nI a &&& 31))) := hT.turn (g := fun n => ttu t n || decide (n = a)) (fun n hn => by rw [b_or, hb n hn, b_one (by omega) (by omega)])
      refine go_al1 dX5_findRipeByOne_17 (go_il3 dX5_findRipeByOne_18 (go_ic1 dX5_findRipeByOne_19 (go_il4 dX5_findRipeByOne_20 (go_ishl dX5_findRipeByOne_22 (go_ior dX5_findRipeByOne_23 (go_putI fX5_70 rfl rfl dX5_findRipeByOne_24 (go_al1 dX5_findRipeByOne_27 (go_il2 dX5_findRipeByOne_28 (go_V1r mcX9_soleMoment mvX9_soleMoment kX5_41 rfl dX5_findRipeByOne_29 rfl rfl (aSole hT2 hx) (go_al1 dX5_findRipeByOne_32 (go_getI fX5_47 rfl rfl dX5_findRipeByOne_33 (go_ic1 dX5_findRipeByOne_36 (go_isub dX5_findRipeByOne_37 ?_)))))))))))))
      refine go_cne 54 dX5_findRipeByOne_38 (by decide) (fun h38 => ?_) (fun h38 => ?_)
      · refine go_inc4 (k := 1) dX5_findRipeByOne_54 (by decide) rfl rfl (go_goto 11 dX5_findRipeByOne_57 (by decide) ?_)
        obtain ⟨k, rfl⟩ : ∃ z, k = z + 1 := ⟨k - 1, by omega⟩
        have hnr : rip t x (fun n => decide (n = a)) = false := by
          cases hc : rip t x (fun n => decide (n = a)) with
          | false => rfl
          | true => exact absurd ((rip_iff hT2).mpr hc) h38
        rw [nI_1]
        refine Go.post ?_ (ih k (by omega) (a + 1) _ _ (by omega) (by omega) (hF.I _ _ (by decide) (by decide)) hT2 hm)
        intro r m9 hp
        rw [firstN, if_neg (gf hnr)]
        exact hp
      · refine go_al0 dX5_findRipeByOne_41 (go_ic1 dX5_findRipeByOne_42 (go_putI fX5_31 rfl rfl dX5_findRipeByOne_43 (go_al0 dX5_findRipeByOne_46 (go_il4 dX5_findRipeByOne_47 (go_putI fX5_35 rfl rfl dX5_findRipeByOne_49 (go_ic1 dX5_findRipeByOne_52 ?_))))))
        refine go_zret dX5_findRipeByOne_53 rfl ?_
        obtain ⟨k, rfl⟩ : ∃ z, k = z + 1 := ⟨k - 1, by omega⟩
        have hr := (rip_iff hT2).mp h38
        rw [firstN, if_pos hr]
        refine ⟨rfl, ((hF.I _ _ (by decide) (by decide)).I _ _ (by decide) (by decide)).I _ _ (by decide) (by decide), ?_, ?_, ?_⟩
        · rw [gm_Io _ _ _ (by decide), gm_Is]
        · rw [gm_Is]
        · rw [gm_Io _ _ _ (by decide), gm_Io _ _ _ (by decide)]
          exact congrFun hm 6
set_option maxRecDepth 100000 in
set_option maxHeartbeats 400000 in
theorem aX5_findRipeByOne {t : TR} {μ : gm_M} {x : Nat} (hT : TI t μ) (hx : x < 30) : Sat yX5_findRipeByOne cX5_findRipeByOne 5 (some .boolean) 3 [(.ref 34), (.ref 25), (.int (nI x))] μ (fun r μ' => r = some (.int (gb (ripO t x).isSome)) ∧ FrR 25 34 μ μ' ∧ (match (ripO t x) with | some a => μ'.1 34 4 = 1 ∧ μ'.1 34 5 = nI a ∧ μ'.1 34 6 = μ.1 34 6 | none => TI t μ' ∧ μ'.1 34 = μ.1 34)) := by
  refine Sat.of (L := [some (.ref 34), some (.ref 25), some (.int (nI x)), none, none]) (by decide) (fun _ => rfl) (fun _ => rfl) ?_
  refine go_al1 dX5_findRipeByOne_0 (go_getI fX5_70 rfl rfl dX5_findRipeByOne_1 (go_is3 dX5_findRipeByOne_4 rfl rfl (go_al1 dX5_findRipeByOne_5 (go_S1r mcX5_firstOfUse mvX5_firstOfUse kX5_73 dX5_findRipeByOne_6 rfl rfl (aX5_firstOfUse hT) (go_is4 dX5_findRipeByOne_9 rfl rfl ?_)))))
  have hf := hT.1.2.1
  exact aX5_one_loop hx hT.2.2.2.2.2.1 _ (tfr t - 1) (ttu t) _ rfl (by omega) (FrR.rf μ) hT rfl

set_option maxRecDepth 100000 in
set_option maxHeartbeats 400000 in
theorem aX5_two_in {t : TR} {μ : gm_M} {x a : Nat} {b : Int32} (hx : x < 30) (ha : a < 30) (hb : ∀ n, n < 30 → bt b n = ttu t n) {Post : Option Value → gm_M → Prop} : ∀ (k c : Nat) (g0 : Nat → Bool) (m : gm_M), x + 1 - c = k → c ≤ 31 → FrR 25 34 μ m → TI (trt t g0) m → m.1 34 = μ.1 34 → (∀ c0, firstN ((fun a b => rip t x (fun n => decide (n = a) || decide (n = b))) a) k c = some c0 → ∀ m', FrR 25 34 μ m' → m'.1 34 4 = 2 → m'.1 34 5 = nI a → m'.1 34 6 = nI c0 → Post none m') → (firstN ((fun a b => rip t x (fun n => decide (n = a) || decide (n = b))) a) k c = none → ∀ (d5 : Option Value) (g1 : Nat → Bool) (m' : gm_M), FrR 25 34 μ m' → TI (trt t g1) m' → m'.1 34 = μ.1 34 → Go yX5_findRipeByTwo cX5_findRipeByTwo 6 none 3 82 [some (.ref 34), some (.ref 25), some (.int (nI x)), some (.int b), some (.int (nI a)), d5] [] m' Post) → Go yX5_findRipeByTwo cX5_findRipeByTwo 6 none 3 23 [some (.ref 34), some (.ref 25), some (.int (nI x)), some (.int b), some (.int (nI a)), some (.int (nI c))] [] m Post := by
  intro k
  induction k using Nat.strongRecOn with
  | ind k ih =>
    intro c g0 m hk hj hF hT hm K1 K2
    refine go_il5 dX5_findRipeByTwo_23 (go_il2 dX5_findRipeByTwo_25 ?_)
    refine go_cgt 82 dX5_findRipeByTwo_26 (by decide) (fun h26 => ?_) (fun h26 => ?_)
    · obtain rfl : k = 0 := by
        have := (nI_gtx (by omega) (by omega)).mp h26
        omega
      exact K2 rfl _ _ _ hF hT hm
    · have hlt : c ≤ x := Nat.not_lt.mp (fun z => h26 ((nI_gtx (by omega) (by omega)).mpr z))
      have hT2 : TI (trt t (fun n => ttu t n || (decide (n = a) || decide (n = c)))) (gm_I m 25 9 (b ||| (1 : Int32) <<< (nI a &&& 31) ||| (1 : Int32) <<< (nI c &&& 31))) := hT.turn (g := fun n => ttu t n || (decide (n = a) || decide (n = c))) (fun n hn => by rw [b_or, b_or, hb n hn, b_one (by omega) (by omega), b_one (by omega) (by omega), Bool.or_assoc])
      refine go_al1 dX5_findRipeByTwo_29 (go_il3 dX5_findRipeByTwo_30 (go_ic1 dX5_findRipeByTwo_31 (go_il4 dX5_findRipeByTwo_32 (go_ishl dX5_findRipeByTwo_34 (go_ior dX5_findRipeByTwo_35 (go_ic1 dX5_findRipeByTwo_36 (go_il5 dX5_findRipeByTwo_37 (go_ishl dX5_findRipeByTwo_39 (go_ior dX5_findRipeByTwo_40 (go_putI fX5_70 rfl rfl dX5_findRipeByTwo_41 (go_al1 dX5_findRipeByTwo_44 (go_il2 dX5_findRipeByTwo_45 (go_V1r mcX9_soleMoment mvX9_soleMoment kX5_41 rfl dX5_findRipeByTwo_46 rfl rfl (aSole hT2 hx) ?_)))))))))))))
      refine go_al1 dX5_findRipeByTwo_49 (go_getI fX5_47 rfl rfl dX5_findRipeByTwo_50 (go_ic1 dX5_findRipeByTwo_53 (go_isub dX5_findRipeByTwo_54 ?_)))
      refine go_cne 76 dX5_findRipeByTwo_55 (by decide) (fun h55 => ?_) (fun h55 => ?_)
      · refine go_inc5 (k := 1) dX5_findRipeByTwo_76 (by decide) rfl rfl (go_goto 23 dX5_findRipeByTwo_79 (by decide) ?_)
        obtain ⟨k, rfl⟩ : ∃ z, k = z + 1 := ⟨k - 1, by omega⟩
        have hnr : rip t x (fun n => decide (n = a) || decide (n = c)) = false := by
          cases hc : rip t x (fun n => decide (n = a) || decide (n = c)) with
          | false => rfl
          | true => exact absurd ((rip_iff hT2).mpr hc) h55
        rw [nI_1]
        refine ih k (by omega) (c + 1) _ _ (by omega) (by omega) (hF.I _ _ (by decide) (by decide)) hT2 hm ?_ ?_
        · intro b0 hb0
          exact K1 b0 (by rw [firstN, if_neg (gf hnr)]; exact hb0)
        · intro hb0
          exact K2 (by rw [firstN, if_neg (gf hnr)]; exact hb0)
      · refine go_al0 dX5_findRipeByTwo_58 (go_ic2 dX5_findRipeByTwo_59 (go_putI fX5_31 rfl rfl dX5_findRipeByTwo_60 (go_al0 dX5_findRipeByTwo_63 (go_il4 dX5_findRipeByTwo_64 (go_putI fX5_35 rfl rfl dX5_findRipeByTwo_66 (go_al0 dX5_findRipeByTwo_69 (go_il5 dX5_findRipeByTwo_70 (go_putI fX5_38 rfl rfl dX5_findRipeByTwo_72 ?_))))))))
        refine go_vret dX5_findRipeByTwo_75 ?_
        obtain ⟨k, rfl⟩ : ∃ z, k = z + 1 := ⟨k - 1, by omega⟩
        have hr := (rip_iff hT2).mp h55
        refine K1 c (by rw [firstN, if_pos hr]) _ ?_ ?_ ?_ ?_
        · exact (((hF.I _ _ (by decide) (by decide)).I _ _ (by decide) (by decide)).I _ _ (by decide) (by decide)).I _ _ (by decide) (by decide)
        · rw [gm_Io _ _ _ (by decide), gm_Io _ _ _ (by decide), gm_Is]
        · rw [gm_Io _ _ _ (by decide), gm_Is]
        · rw [gm_Is]
set_option maxRecDepth 100000 in
set_option maxHeartbeats 400000 in
theorem aX5_two_loop {t : TR} {μ : gm_M} {x : Nat} {b : Int32} (hx : x < 30) (hb : ∀ n, n < 30 → bt b n = ttu t n) : ∀ (k a : Nat) (g0 : Nat → Bool) (d5 : Option Value) (m : gm_M), x + 1 - a = k → a ≤ 31 → FrR 25 34 μ m → TI (trt t g0) m → m.1 34 = μ.1 34 → Go yX5_findRipeByTwo cX5_findRipeByTwo 6 none 3 11 [some (.ref 34), some (.ref 25), some (.int (nI x)), some (.int b), some (.int (nI a)), d5] [] m (fun r μ' => r = none ∧ FrR 25 34 μ μ' ∧ (match (pairN (fun a b => rip t x (fun n => decide (n = a) || decide (n = b))) x k a) with | some p => μ'.1 34 4 = 2 ∧ μ'.1 34 5 = nI p.1 ∧ μ'.1 34 6 = nI p.2 | none => μ'.1 34 = μ.1 34)) := by
  intro k
  induction k using Nat.strongRecOn with
  | ind k ih =>
    intro a g0 d5 m hk hj hF hT hm
    refine go_il4 dX5_findRipeByTwo_11 (go_il2 dX5_findRipeByTwo_13 ?_)
    refine go_cgt 88 dX5_findRipeByTwo_14 (by decide) (fun h14 => ?_) (fun h14 => ?_)
    · refine go_vret dX5_findRipeByTwo_88 ?_
      obtain rfl : k = 0 := by
        have := (nI_gtx (by omega) (by omega)).mp h14
        omega
      exact ⟨rfl, hF, hm⟩
    · have hlt : a ≤ x := Nat.not_lt.mp (fun z => h14 ((nI_gtx (by omega) (by omega)).mpr z))
      refine go_il4 dX5_findRipeByTwo_17 (go_ic1 dX5_findRipeByTwo_19 (go_iadd dX5_findRipeByTwo_20 (go_is5 dX5_findRipeByTwo_21 rfl rfl ?_)))
      obtain ⟨k, rfl⟩ : ∃ z, k = z + 1 := ⟨k - 1, by omega⟩
      rw [nI_1]
      refine aX5_two_in hx (by omega) hb (x - a) (a + 1) g0 _ (by omega) (by omega) hF hT hm ?_ ?_
      · intro c0 hc0 m9 q1 q2 q3 q4
        rw [pairN, hc0]
        exact ⟨rfl, q1, q2, q3, q4⟩
      · intro hc0 d5 g1 m9 q1 q2 q3
        refine go_inc4 (k := 1) dX5_findRipeByTwo_82 (by decide) rfl rfl (go_goto 11 dX5_findRipeByTwo_85 (by decide) ?_)
        rw [nI_1]
        refine Go.post ?_ (ih k (by omega) (a + 1) g1 _ _ (by omega) (by omega) q1 q2 q3)
        intro r m8 hp
        rw [pairN, hc0]
        exact hp
set_option maxRecDepth 100000 in
set_option maxHeartbeats 400000 in
theorem aX5_findRipeByTwo {t : TR} {μ : gm_M} {x : Nat} (hT : TI t μ) (hx : x < 30) : Sat yX5_findRipeByTwo cX5_findRipeByTwo 6 none 3 [(.ref 34), (.ref 25), (.int (nI x))] μ (fun r μ' => r = none ∧ FrR 25 34 μ μ' ∧ (match (ripT t x) with | some p => μ'.1 34 4 = 2 ∧ μ'.1 34 5 = nI p.1 ∧ μ'.1 34 6 = nI p.2 | none => μ'.1 34 = μ.1 34)) := by
  refine Sat.of (L := [some (.ref 34), some (.ref 25), some (.int (nI x)), none, none, none]) (by decide) (fun _ => rfl) (fun _ => rfl) ?_
  refine go_al1 dX5_findRipeByTwo_0 (go_getI fX5_70 rfl rfl dX5_findRipeByTwo_1 (go_is3 dX5_findRipeByTwo_4 rfl rfl (go_al1 dX5_findRipeByTwo_5 (go_S1r mcX5_firstOfUse mvX5_firstOfUse kX5_73 dX5_findRipeByTwo_6 rfl rfl (aX5_firstOfUse hT) (go_is4 dX5_findRipeByTwo_9 rfl rfl ?_)))))
  have hf := hT.1.2.1
  exact aX5_two_loop hx hT.2.2.2.2.2.1 _ (tfr t - 1) (ttu t) _ _ rfl (by omega) (FrR.rf μ) hT rfl

/-- how many turnings, the first, the second -/
def ripA (t : TR) (x : Nat) : Int32 × Int32 × Int32 :=
  if tm t x = some (tsz t - 1) then (0, -1, -1) else if tso t = 2 then (-1, -1, -1) else match ripO t x with
    | some a => (1, nI a, -1)
    | none => match ripT t x with
      | some p => (2, nI p.1, nI p.2)
      | none => (-1, -1, -1)
theorem rip0_iff {t : TR} {m : gm_M} {x : Nat} (h : TI t m) : oI (tm t x) = m.1 25 8 - 1 ↔ tm t x = some (tsz t - 1) := by
  have e8 : m.1 25 8 = nI (tsz t) := h.2.2.2.1
  have z1 : 1 ≤ tsz t := h.1.2.2.1
  have z5 : tsz t ≤ 5 := h.1.2.2.2.1
  have e : m.1 25 8 - 1 = nI (tsz t - 1) := by
    rw [e8]
    obtain ⟨k, hk⟩ : ∃ k, tsz t = k + 1 := ⟨tsz t - 1, by omega⟩
    rw [hk, nI_pred]
    rfl
  rw [e, oI_eq (tm_small h x) (by omega)]
set_option maxRecDepth 100000 in
set_option maxHeartbeats 400000 in
theorem aX5_findRipe {q : QS} {μ : gm_M} {w x : Nat} (hQ : CQ q μ) (hw : w < qnum q) (hx : x < 30) : Sat yX5_findRipe cX5_findRipe 4 none 4 [(.ref 34), (.int (nI w)), (.int (nI x))] μ (fun r μ' => r = none ∧ FrR 25 34 μ μ' ∧ μ'.1 34 4 = (ripA (trof q 9 w) x).1 ∧ μ'.1 34 5 = (ripA (trof q 9 w) x).2.1 ∧ μ'.1 34 6 = (ripA (trof q 9 w) x).2.2) := by
  refine Sat.of (L := [some (.ref 34), some (.int (nI w)), some (.int (nI x)), none]) (by decide) (fun _ => rfl) (fun _ => rfl) ?_
  refine go_al0 dX5_findRipe_0 (go_getR (j := 1) fX5_21 rfl rfl dX5_findRipe_1 (go_il1 dX5_findRipe_4 ?_))
  refine go_V1 mcX1_begin mvX1_begin kX5_25 rfl dX5_findRipe_5 rfl rfl (aBegin hQ hw) ?_
  rintro _ m5 ⟨rfl, hT5, hF5⟩
  have hT : TI (trof q 9 w) (gm_I (gm_I (gm_I m5 34 4 (-1)) 34 5 (-1)) 34 6 (-1)) := hT5.cong (fun k _ _ => rfl) rfl rfl
  have hS : FrR 25 34 μ (gm_I (gm_I (gm_I m5 34 4 (-1)) 34 5 (-1)) 34 6 (-1)) := ((((FrR.rf μ).f25 hF5 (by decide) (by decide)).I _ _ (by decide) (by decide)).I _ _ (by decide) (by decide)).I _ _ (by decide) (by decide)
  refine go_as3 dX5_findRipe_8 rfl rfl (go_al0 dX5_findRipe_9 (go_icm1 dX5_findRipe_10 (go_putI fX5_31 rfl rfl dX5_findRipe_11 (go_al0 dX5_findRipe_14 (go_icm1 dX5_findRipe_15 (go_putI fX5_35 rfl rfl dX5_findRipe_16 (go_al0 dX5_findRipe_19 (go_icm1 dX5_findRipe_20 (go_putI fX5_38 rfl rfl dX5_findRipe_21 (go_al3 dX5_findRipe_24 (go_il2 dX5_findRipe_25 (go_V1r mcX9_soleMoment mvX9_soleMoment kX5_41 rfl dX5_findRipe_26 rfl rfl (aSole hT hx) (go_al3 dX5_findRipe_29 ?_)))))))))))))
  refine go_getI fX5_47 rfl rfl dX5_findRipe_30 (go_ic1 dX5_findRipe_33 (go_isub dX5_findRipe_34 ?_))
  refine go_cne 46 dX5_findRipe_35 (by decide) (fun h35 => ?_) (fun h35 => ?_)
  · refine go_al3 dX5_findRipe_46 (go_getI fX5_50 rfl rfl dX5_findRipe_47 (go_ic2 dX5_findRipe_50 ?_))
    refine go_ceq 69 dX5_findRipe_51 (by decide) (fun h51 => ?_) (fun h51 => ?_)
    · refine go_vret dX5_findRipe_69 ?_
      have h35 := h35
      rw [rip0_iff hT] at h35
      have e51 : tso (trof q 9 w) = 2 := by
        have := h51
        rw [show (gm_I (gm_I (gm_I m5 34 4 (-1)) 34 5 (-1)) 34 6 (-1)).1 25 6 = _ from hT.2.1, nI_lit2] at this
        exact (nI_eq (by have := hT.1.1; omega) (by decide)).mp this
      refine ⟨rfl, hS, ?_⟩
      rw [ripA, if_neg h35, if_pos e51]
      exact ⟨rfl, rfl, rfl⟩
    · refine go_al0 dX5_findRipe_54 (go_al3 dX5_findRipe_55 (go_il2 dX5_findRipe_56 ?_))
      refine go_V2 mcX5_findRipeByOne mvX5_findRipeByOne kX5_53 rfl dX5_findRipe_57 rfl rfl (aX5_findRipeByOne hT hx) ?_
      rintro _ m57 ⟨rfl, hF57, hM57⟩
      refine go_ifneB 69 dX5_findRipe_60 (by decide) (fun h60 => ?_) (fun h60 => ?_)
      · refine go_vret dX5_findRipe_69 ?_
        have h35 := h35
        rw [rip0_iff hT] at h35
        have e51 : ¬ tso (trof q 9 w) = 2 := by
          intro z
          apply h51
          rw [show (gm_I (gm_I (gm_I m5 34 4 (-1)) 34 5 (-1)) 34 6 (-1)).1 25 6 = _ from hT.2.1, z]
          rfl
        refine ⟨rfl, hS.tr hF57, ?_⟩
        rw [ripA, if_neg h35, if_neg e51]
        cases ho : ripO (trof q 9 w) x with
        | none => rw [ho] at h60; cases h60
        | some a =>
          rw [ho] at hM57
          exact ⟨hM57.1, hM57.2.1, hM57.2.2⟩
      · have hT57 : TI (trof q 9 w) m57 := by
          cases ho : ripO (trof q 9 w) x with
          | some a => rw [ho] at h60; cases h60
          | none => rw [ho] at hM57; exact hM57.1
        refine go_al0 dX5_findRipe_63 (go_al3 dX5_findRipe_64 (go_il2 dX5_findRipe_65 ?_))
        refine go_V2 mcX5_findRipeByTwo mvX5_findRipeByTwo kX5_57 rfl dX5_findRipe_66 rfl rfl (aX5_findRipeByTwo hT57 hx) ?_
        rintro _ m66 ⟨rfl, hF66, hM66⟩
        refine go_vret dX5_findRipe_69 ?_
        have h35 := h35
        rw [rip0_iff hT] at h35
        have e51 : ¬ tso (trof q 9 w) = 2 := by
          intro z
          apply h51
          rw [show (gm_I (gm_I (gm_I m5 34 4 (-1)) 34 5 (-1)) 34 6 (-1)).1 25 6 = _ from hT.2.1, z]
          rfl
        refine ⟨rfl, (hS.tr hF57).tr hF66, ?_⟩
        rw [ripA, if_neg h35, if_neg e51]
        cases ho : ripO (trof q 9 w) x with
        | some a => rw [ho] at h60; cases h60
        | none =>
          rw [ho] at hM57
          cases hp : ripT (trof q 9 w) x with
          | some p => rw [hp] at hM66; exact ⟨hM66.1, hM66.2.1, hM66.2.2⟩
          | none =>
            rw [hp] at hM66
            have e : m66.1 34 = (gm_I (gm_I (gm_I m5 34 4 (-1)) 34 5 (-1)) 34 6 (-1)).1 34 := hM66.trans hM57.2
            rw [e]
            exact ⟨rfl, rfl, rfl⟩
  · refine go_al0 dX5_findRipe_38 (go_ic0 dX5_findRipe_39 (go_putI fX5_31 rfl rfl dX5_findRipe_40 (go_goto 69 dX5_findRipe_43 (by decide) ?_)))
    refine go_vret dX5_findRipe_69 ?_
    have h35 := h35
    rw [rip0_iff hT] at h35
    refine ⟨rfl, hS.I _ _ (by decide) (by decide), ?_⟩
    rw [ripA, if_pos h35]
    exact ⟨rfl, rfl, rfl⟩

