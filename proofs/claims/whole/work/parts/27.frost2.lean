/-! ===== lN n to 2^64: shifts, and, or, masks, one bit ===== -/
theorem wb_tb (n : Nat) : (lN n).toBitVec = BitVec.ofNat 64 n := rfl
theorem wb_inj {a b : Int64} (h : a.toBitVec = b.toBitVec) : a = b := Int64.toBitVec_inj.mp h
theorem wb_tn {n : Nat} (h : n < 2 ^ 64) : (lN n).toBitVec.toNat = n := by rw [wb_tb, BitVec.toNat_ofNat, Nat.mod_eq_of_lt h]
theorem wb_of (x : Int64) : ∃ n, n < 2 ^ 64 ∧ x = lN n := ⟨x.toBitVec.toNat, x.toBitVec.isLt, wb_inj (by rw [wb_tb]; simp)⟩
theorem wb_of32 (x : Int32) : ∃ n, n < 2 ^ 32 ∧ x = nI n := ⟨x.toBitVec.toNat, x.toBitVec.isLt, Int32.toBitVec_inj.mp (by show _ = BitVec.ofNat 32 _; simp)⟩
theorem wb_c : ∀ k, k < 64 → ((nI k).toInt64 &&& 63) = lN k := by decide +kernel
theorem wb_cu : ∀ k, k < 64 → ((nI k).toInt64.toUInt64 &&& Int64.toUInt64 63) = UInt64.ofNat k := by decide +kernel
theorem wb_sm : ∀ k, k < 64 → (BitVec.ofNat 64 k).smod 64 = BitVec.ofNat 64 k := by decide +kernel
theorem wb_pw {a b : Nat} (h : a ≤ b) : 2 ^ b = 2 ^ a * 2 ^ (b - a) := by rw [← Nat.pow_add]; congr 1; omega
theorem wb_lt2 {a b : Nat} (h : a < b) : 2 ^ a < 2 ^ b := Nat.pow_lt_pow_right (by decide) h
theorem wb_mod (n : Nat) : lN n = lN (n % 2 ^ 64) := wb_inj (by rw [wb_tb, wb_tb]; apply BitVec.eq_of_toNat_eq; rw [BitVec.toNat_ofNat, BitVec.toNat_ofNat, Nat.mod_mod])
theorem wb_shr {n k : Nat} (hn : n < 2 ^ 64) (hk : k < 64) : ((lN n).toUInt64 >>> ((nI k).toInt64.toUInt64 &&& Int64.toUInt64 63)).toInt64 = lN (n / 2 ^ k) := by
  rw [wb_cu k hk]
  apply wb_inj
  apply BitVec.eq_of_toNat_eq
  show ((lN n).toUInt64 >>> UInt64.ofNat k).toNat = (BitVec.ofNat 64 _).toNat
  have h1 : (UInt64.ofNat k).toNat = k := by
    show (BitVec.ofNat 64 k).toNat = k
    rw [BitVec.toNat_ofNat, Nat.mod_eq_of_lt (by omega)]
  have h2 : (lN n).toUInt64.toNat = n := wb_tn hn
  rw [UInt64.toNat_shiftRight, h1, h2, Nat.mod_eq_of_lt hk, Nat.shiftRight_eq_div_pow, BitVec.toNat_ofNat, Nat.mod_eq_of_lt (Nat.lt_of_le_of_lt (Nat.div_le_self _ _) hn)]
theorem wb_shl (n : Nat) {k : Nat} (hk : k < 64) : lN n <<< ((nI k).toInt64 &&& 63) = lN (n * 2 ^ k) := by
  rw [wb_c k hk]
  apply wb_inj
  rw [Int64.toBitVec_shiftLeft, wb_tb, wb_tb, wb_tb, wb_sm k hk]
  apply BitVec.eq_of_toNat_eq
  rw [BitVec.shiftLeft_eq', BitVec.toNat_shiftLeft, BitVec.toNat_ofNat, BitVec.toNat_ofNat, BitVec.toNat_ofNat, Nat.mod_eq_of_lt (show k < 2 ^ 64 by omega), Nat.shiftLeft_eq, Nat.mul_mod, Nat.mod_mod, ← Nat.mul_mod]
theorem wb_and {a b : Nat} (ha : a < 2 ^ 64) (hb : b < 2 ^ 64) : lN a &&& lN b = lN (a &&& b) := by
  apply wb_inj
  rw [Int64.toBitVec_and, wb_tb, wb_tb, wb_tb]
  apply BitVec.eq_of_toNat_eq
  rw [BitVec.toNat_and, BitVec.toNat_ofNat, BitVec.toNat_ofNat, BitVec.toNat_ofNat, Nat.mod_eq_of_lt ha, Nat.mod_eq_of_lt hb, Nat.mod_eq_of_lt (Nat.and_lt_two_pow _ hb)]
theorem wb_or {a b : Nat} (ha : a < 2 ^ 64) (hb : b < 2 ^ 64) : lN a ||| lN b = lN (a ||| b) := by
  apply wb_inj
  rw [Int64.toBitVec_or, wb_tb, wb_tb, wb_tb]
  apply BitVec.eq_of_toNat_eq
  rw [BitVec.toNat_or, BitVec.toNat_ofNat, BitVec.toNat_ofNat, BitVec.toNat_ofNat, Nat.mod_eq_of_lt ha, Nat.mod_eq_of_lt hb, Nat.mod_eq_of_lt (Nat.or_lt_two_pow ha hb)]
theorem wb_mask {n k : Nat} (hn : n < 2 ^ 64) (hk : k < 64) : lN n &&& lN (2 ^ k - 1) = lN (n % 2 ^ k) := by
  rw [wb_and hn (by have := wb_lt2 hk; omega), Nat.and_two_pow_sub_one_eq_mod]
theorem wb_a1 {n : Nat} (hn : n < 2 ^ 64) : lN n &&& 1 = lN (n % 2) := wb_mask (k := 1) hn (by decide)
theorem wb_bit {n k : Nat} (hn : n < 2 ^ 64) (hk : k < 64) : ((lN n).toUInt64 >>> ((nI k).toInt64.toUInt64 &&& Int64.toUInt64 63)).toInt64 &&& 1 = lN (n / 2 ^ k % 2) := by
  rw [wb_shr hn hk, wb_a1 (Nat.lt_of_le_of_lt (Nat.div_le_self _ _) hn)]
theorem wb_xor {q k : Nat} (hk : k < 63) (h : 2 ^ k ≤ q) (h2 : q < 2 ^ (k + 1)) : lN q ^^^ lN (2 ^ k) = lN (q - 2 ^ k) := by
  obtain ⟨r, rfl⟩ : ∃ r, q = 2 ^ k + r := ⟨q - 2 ^ k, by omega⟩
  have hr : r < 2 ^ k := by rw [Nat.pow_succ] at h2; omega
  have hx : (2 ^ k + r) ^^^ 2 ^ k = r := by
    apply Nat.eq_of_testBit_eq
    intro i
    rw [Nat.testBit_xor, Nat.testBit_two_pow]
    rcases Nat.lt_trichotomy i k with h | h | h
    · rw [Nat.testBit_two_pow_add_gt h]
      simp [show ¬ k = i by omega]
    · subst h
      rw [Nat.testBit_two_pow_add_eq]
      simp
    · have a1 : 2 ^ (k + 1) ≤ 2 ^ i := Nat.pow_le_pow_right (by decide) h
      rw [Nat.testBit_lt_two_pow (show 2 ^ k + r < 2 ^ i by omega), Nat.testBit_lt_two_pow (show r < 2 ^ i by omega)]
      simp [show ¬ k = i by omega]
  have b1 := wb_lt2 (show k + 1 < 64 by omega)
  have b2 := wb_lt2 (show k < 64 by omega)
  apply wb_inj
  rw [Int64.toBitVec_xor, wb_tb, wb_tb, wb_tb]
  apply BitVec.eq_of_toNat_eq
  rw [BitVec.toNat_xor, BitVec.toNat_ofNat, BitVec.toNat_ofNat, BitVec.toNat_ofNat, Nat.mod_eq_of_lt (by omega : 2 ^ k + r < 2 ^ 64), Nat.mod_eq_of_lt b2, hx, Nat.add_sub_cancel_left, Nat.mod_eq_of_lt (by omega)]
/-! CHANCES: frost -/
theorem lN_sh1 {n : Nat} (h : n < 2 ^ 63) : lN n >>> ((1 : Int32).toInt64 &&& 63) = lN (n / 2) := by
  apply Int64.toInt_inj.mp
  have h2 : n / 2 ≤ n := Nat.div_le_self _ _
  have e1 : (lN n >>> ((1 : Int32).toInt64 &&& 63)).toInt = (lN n).toInt >>> 1 := by
    show ((lN n).toBitVec.sshiftRight (((1 : Int32).toInt64 &&& 63).toBitVec.smod 64).toNat).toInt = _
    rw [show (((1 : Int32).toInt64 &&& 63).toBitVec.smod 64).toNat = 1 from by decide, BitVec.toInt_sshiftRight]
    rfl
  rw [e1, show (lN n).toInt = (n : Int) from lg_ofNat_toInt h, show (lN (n / 2)).toInt = ((n / 2 : Nat) : Int) from lg_ofNat_toInt (by omega), Int.shiftRight_eq_div_pow]
  rfl
theorem lN_inj {a b : Nat} (ha : a < 2 ^ 63) (hb : b < 2 ^ 63) (h : lN a = lN b) : a = b := by
  have h1 : (lN a).toInt = (lN b).toInt := by rw [h]
  rw [show (lN a).toInt = (a : Int) from lg_ofNat_toInt ha, show (lN b).toInt = (b : Int) from lg_ofNat_toInt hb] at h1
  omega
theorem lN_par {n : Nat} (h : n < 2 ^ 63) : lg_cmp (lN n &&& 1) 0 = 0 ↔ n % 2 = 0 := by
  rw [lg_cmp_0, wb_a1 (by omega)]
  constructor
  · intro z; exact lN_inj (by omega) (by decide) (z.trans (show (0 : Int64) = lN 0 from rfl))
  · intro z; rw [z]; rfl
theorem lN_z {n : Nat} (h : n < 2 ^ 63) : lg_cmp (lN n) 0 = 0 ↔ n = 0 := by
  rw [lg_cmp_0]
  constructor
  · intro z; exact lN_inj h (by decide) (z.trans (show (0 : Int64) = lN 0 from rfl))
  · intro z; rw [z]; rfl
def red : Nat → Nat → Nat → Nat × Nat
  | 0, A, B => (A, B)
  | k + 1, A, B => if A % 2 = 0 then (if B % 2 = 0 then red k (A / 2) (B / 2) else (A, B)) else (A, B)
def redF (A B : Nat) : Nat × Nat := red 63 A (if A = 0 then 1 else B)
def sumN (f : Nat → Nat) : Nat → Nat
  | 0 => 0
  | k + 1 => sumN f k + f k
theorem sumN_zero {f : Nat → Nat} (h : ∀ a, f a = 0) (N : Nat) : sumN f N = 0 := by
  induction N with
  | zero => rfl
  | succ N ih => rw [sumN, ih, h N]
theorem sumN_pt {Q : Nat → Bool} (v p : Nat) (N : Nat) : sumN (fun a => if a = p ∧ Q a = true then v else 0) N ≤ v ∧ (N ≤ p → sumN (fun a => if a = p ∧ Q a = true then v else 0) N = 0) := by
  induction N with
  | zero => exact ⟨Nat.zero_le _, fun _ => rfl⟩
  | succ N ih =>
    rw [sumN]
    by_cases e : N = p
    · have h1 := ih.2 (by omega)
      rw [h1]
      refine ⟨?_, fun z => by omega⟩
      split <;> omega
    · have h1 : (if N = p ∧ Q N = true then v else 0) = 0 := if_neg (fun z => e z.1)
      rw [h1]
      exact ⟨ih.1, fun z => ih.2 (by omega)⟩
theorem sumN_add (f g : Nat → Nat) (N : Nat) : sumN (fun a => f a + g a) N = sumN f N + sumN g N := by
  induction N with
  | zero => rfl
  | succ N ih => rw [sumN, sumN, sumN, ih]; omega
theorem sumN_le {f g : Nat → Nat} (h : ∀ a, f a ≤ g a) (N : Nat) : sumN f N ≤ sumN g N := by
  induction N with
  | zero => exact Nat.le_refl _
  | succ N ih => rw [sumN, sumN]; have := h N; omega
theorem fwst_sum (t : TR) {c s : Nat} (hcs : c ≤ s) (g0 g1 : Nat) (w : Nat → Nat) (b : Nat) : sumN (fwst t c s g0 g1 w b) 100 ≤ s * sumN w b := by
  induction b with
  | zero =>
    have : sumN (fwst t c s g0 g1 w 0) 100 = 0 := sumN_zero (fun _ => rfl) 100
    rw [this]; exact Nat.zero_le _
  | succ b ih =>
    have e : sumN (fwst t c s g0 g1 w (b + 1)) 100 = sumN (fwst t c s g0 g1 w b) 100 + (sumN (fun a => if a = b + g0 ∧ okA t a = true then w b * c else 0) 100 + sumN (fun a => if a = b + g1 ∧ okA t a = true then w b * (s - c) else 0) 100) := by
      rw [← sumN_add, ← sumN_add]
      rfl
    have h1 := (sumN_pt (Q := okA t) (w b * c) (b + g0) 100).1
    have h2 := (sumN_pt (Q := okA t) (w b * (s - c)) (b + g1) 100).1
    rw [e]
    show _ ≤ s * (sumN w b + w b)
    rw [Nat.mul_add]
    have h3 : w b * c + w b * (s - c) = s * w b := by rw [← Nat.mul_add, Nat.add_sub_cancel' hcs, Nat.mul_comm]
    omega
/-- the weights when k nights from the wheel's own on are weighed; what is eaten is dropped ahead of night x -/
def FW (t : TR) (c last x : Nat) : Nat → Nat → Nat
  | 0 => fun a => if a = 0 then 1 else 0
  | k + 1 => fun a => if tfr t + k < x ∧ tea t a = true then 0 else fwst t (if tfr t + k ≤ last then c else 0) (if tfr t + k ≤ last then 16 else 1) (tgr t (tfr t + k) 0) (tgr t (tfr t + k) (twa t (tfr t + k))) (FW t c last x k) 100 a
def FB (t : TR) (last : Nat) : Nat → Nat
  | 0 => 1
  | k + 1 => FB t last k * (if tfr t + k ≤ last then 16 else 1)
theorem FW_sum (t : TR) {c : Nat} (hc : c ≤ 16) (last x k : Nat) : sumN (FW t c last x k) 100 ≤ FB t last k := by
  induction k with
  | zero =>
    have : sumN (FW t c last x 0) 100 = 1 := by
      have e : FW t c last x 0 = fun a => if a = 0 then 1 else 0 := rfl
      rw [e]; decide
    rw [this]; exact Nat.le_refl _
  | succ k ih =>
    rw [FB]
    have h1 : ∀ a, FW t c last x (k + 1) a ≤ fwst t (if tfr t + k ≤ last then c else 0) (if tfr t + k ≤ last then 16 else 1) (tgr t (tfr t + k) 0) (tgr t (tfr t + k) (twa t (tfr t + k))) (FW t c last x k) 100 a := by
      intro a
      have e : FW t c last x (k + 1) a = if tfr t + k < x ∧ tea t a = true then 0 else fwst t (if tfr t + k ≤ last then c else 0) (if tfr t + k ≤ last then 16 else 1) (tgr t (tfr t + k) 0) (tgr t (tfr t + k) (twa t (tfr t + k))) (FW t c last x k) 100 a := rfl
      rw [e]
      by_cases h9 : tfr t + k < x ∧ tea t a = true
      · rw [if_pos h9]; exact Nat.zero_le _
      · rw [if_neg h9]; exact Nat.le_refl _
    refine Nat.le_trans (sumN_le h1 100) (Nat.le_trans (fwst_sum t (by split <;> omega) _ _ _ 100) ?_)
    rw [Nat.mul_comm]
    exact Nat.mul_le_mul_right _ ih
theorem FB_le (t : TR) {last : Nat} (hl : last ≤ 9) (k : Nat) : FB t last k ≤ 2 ^ 40 := by
  have key : FB t last k ≤ 16 ^ (min (tfr t + k) (last + 1)) := by
    induction k with
    | zero => exact Nat.one_le_pow _ _ (by decide)
    | succ k ih =>
      rw [FB]
      by_cases h : tfr t + k ≤ last
      · rw [if_pos h, show min (tfr t + (k + 1)) (last + 1) = min (tfr t + k) (last + 1) + 1 by omega, Nat.pow_succ]
        exact Nat.mul_le_mul_right _ ih
      · rw [if_neg h, Nat.mul_one, show min (tfr t + (k + 1)) (last + 1) = min (tfr t + k) (last + 1) by omega]
        exact ih
  refine Nat.le_trans key (Nat.le_trans (Nat.pow_le_pow_right (by decide) (show min (tfr t + k) (last + 1) ≤ 10 by omega)) (by decide))
/-- frost: above, below -/
def frostN (t : TR) (c last x : Nat) : Nat × Nat := if x < tfr t then (0, 1) else redF (sumN (FW t c last x (x + 1 - tfr t)) 100) (FB t last (x + 1 - tfr t))
set_option maxRecDepth 100000 in
set_option maxHeartbeats 400000 in
theorem aX2_red_loop {μ : gm_M} : ∀ (k i A B : Nat) (m : gm_M), 63 - i = k → i ≤ 63 → FrR 40 42 μ m → m.2 40 3 = lN A → m.2 40 4 = lN B → A < 2 ^ 63 → B < 2 ^ 63 → Go yX2_reduce cX2_reduce 2 none 0 16 [some (.ref 40), some (.int (nI i))] [] m (fun r μ' => r = none ∧ FrR 40 42 μ μ' ∧ μ'.2 40 3 = lN (red k A B).1 ∧ μ'.2 40 4 = lN (red k A B).2) := by
  intro k
  induction k using Nat.strongRecOn with
  | ind k ih =>
    intro i A B m hk hj hF hA hB hA2 hB2
    refine go_il1 dX2_reduce_16 (go_bipush (v := 63) dX2_reduce_17 (by decide) ?_)
    refine go_cge 70 dX2_reduce_19 (by decide) (fun h19 => ?_) (fun h19 => ?_)
    · refine go_vret dX2_reduce_70 ?_
      obtain rfl : k = 0 := by
        have := (gm_bdN (x := 63) (N := 63) (by decide) (by decide) (by omega)).mp h19
        omega
      exact ⟨rfl, hF, hA, hB⟩
    · have hlt : i < 63 := Nat.not_le.mp (fun z => h19 ((gm_bdN (by decide) (by decide) (by omega)).mpr z))
      refine go_al0 dX2_reduce_22 (go_getJ fX2_28 rfl rfl dX2_reduce_23 (go_lc1 dX2_reduce_26 (go_land dX2_reduce_27 (go_lc0 dX2_reduce_28 (go_lcmp dX2_reduce_29 ?_)))))
      refine go_ifne 70 dX2_reduce_30 (by decide) (fun h30 => ?_) (fun h30 => ?_)
      · refine go_vret dX2_reduce_70 ?_
        obtain ⟨k, rfl⟩ : ∃ z, k = z + 1 := ⟨k - 1, by omega⟩
        have h9 : ¬ A % 2 = 0 := fun z => h30 (by rw [hA]; exact (lN_par hA2).mpr z)
        rw [red, if_neg h9]
        exact ⟨rfl, hF, hA, hB⟩
      · refine go_al0 dX2_reduce_33 (go_getJ fX2_32 rfl rfl dX2_reduce_34 (go_lc1 dX2_reduce_37 (go_land dX2_reduce_38 (go_lc0 dX2_reduce_39 (go_lcmp dX2_reduce_40 ?_)))))
        refine go_ifne 70 dX2_reduce_41 (by decide) (fun h41 => ?_) (fun h41 => ?_)
        · refine go_vret dX2_reduce_70 ?_
          obtain ⟨k, rfl⟩ : ∃ z, k = z + 1 := ⟨k - 1, by omega⟩
          have h8 : A % 2 = 0 := (lN_par hA2).mp (by rw [← hA]; exact h30)
          have h9 : ¬ B % 2 = 0 := fun z => h41 (by rw [hB]; exact (lN_par hB2).mpr z)
          rw [red, if_pos h8, if_neg h9]
          exact ⟨rfl, hF, hA, hB⟩
        · refine go_al0 dX2_reduce_44 (go_dup dX2_reduce_45 rfl (go_getJ fX2_28 rfl rfl dX2_reduce_46 (go_ic1 dX2_reduce_49 (go_lshr dX2_reduce_50 (go_putJ fX2_28 rfl rfl dX2_reduce_51 (go_al0 dX2_reduce_54 (go_dup dX2_reduce_55 rfl (go_getJ fX2_32 rfl rfl dX2_reduce_56 (go_ic1 dX2_reduce_59 (go_lshr dX2_reduce_60 (go_putJ fX2_32 rfl rfl dX2_reduce_61 (go_inc1 (k := 1) dX2_reduce_64 (by decide) rfl rfl (go_goto 16 dX2_reduce_67 (by decide) ?_)))))))))))))
          obtain ⟨k, rfl⟩ : ∃ z, k = z + 1 := ⟨k - 1, by omega⟩
          have h8 : A % 2 = 0 := (lN_par hA2).mp (by rw [← hA]; exact h30)
          have h9 : B % 2 = 0 := (lN_par hB2).mp (by rw [← hB]; exact h41)
          rw [red, if_pos h8, if_pos h9, nI_1]
          refine ih k (by omega) (i + 1) (A / 2) (B / 2) _ (by omega) (by omega) hF ?_ ?_ (by omega) (by omega)
          · rw [gm_Jo _ _ _ (by decide), gm_Js, hA, lN_sh1 hA2]
          · rw [gm_Js, gm_Jo _ _ _ (by decide), hB, lN_sh1 hB2]
set_option maxRecDepth 100000 in
set_option maxHeartbeats 400000 in
theorem aX2_reduce {μ : gm_M} {A B : Nat} (hA : μ.2 40 3 = lN A) (hB : μ.2 40 4 = lN B) (hA2 : A < 2 ^ 63) (hB2 : B < 2 ^ 63) : Sat yX2_reduce cX2_reduce 2 none 0 [(.ref 40)] μ (fun r μ' => r = none ∧ FrR 40 42 μ μ' ∧ μ'.2 40 3 = lN (redF A B).1 ∧ μ'.2 40 4 = lN (redF A B).2) := by
  refine Sat.of (L := [some (.ref 40), none]) (by decide) (fun _ => rfl) (fun _ => rfl) ?_
  refine go_al0 dX2_reduce_0 (go_getJ fX2_28 rfl rfl dX2_reduce_1 (go_lc0 dX2_reduce_4 (go_lcmp dX2_reduce_5 ?_)))
  refine go_ifne 14 dX2_reduce_6 (by decide) (fun h6 => ?_) (fun h6 => ?_)
  · refine go_ic0 dX2_reduce_14 (go_is1 dX2_reduce_15 rfl rfl ?_)
    have hz : ¬ A = 0 := fun z => h6 (by rw [hA]; exact (lN_z hA2).mpr z)
    rw [redF, if_neg hz]
    exact aX2_red_loop _ 0 A B _ rfl (Nat.zero_le _) (FrR.rf μ) hA hB hA2 hB2
  · refine go_al0 dX2_reduce_9 (go_lc1 dX2_reduce_10 (go_putJ fX2_32 rfl rfl dX2_reduce_11 (go_ic0 dX2_reduce_14 (go_is1 dX2_reduce_15 rfl rfl ?_))))
    have hz : A = 0 := (lN_z hA2).mp (by rw [← hA]; exact h6)
    rw [redF, if_pos hz]
    exact aX2_red_loop _ 0 A 1 _ rfl (Nat.zero_le _) (FrR.rf μ) (by rw [gm_Jo _ _ _ (by decide)]; exact hA) (by rw [gm_Js]; rfl) hA2 (by decide)

set_option maxRecDepth 100000 in
set_option maxHeartbeats 400000 in
theorem aX2_fr_sum {μ : gm_M} {W : Nat → Nat} {B : Nat} {d1 d2 d3 d4 d7 : Option Value} (hW2 : sumN W 100 < 2 ^ 63) (hB2 : B < 2 ^ 63) : ∀ (k i : Nat) (m : gm_M), 100 - i = k → i ≤ 100 → FrR 25 42 μ m → m.2 40 3 = lN (sumN W i) → m.2 40 4 = lN B → (∀ a, a < 100 → m.2 41 a = lN (W a)) → Go yX2_findFrost cX2_findFrost 8 none 3 145 [some (.ref 40), d1, d2, d3, d4, some (.ref 25), some (.int (nI i)), d7] [] m (fun r μ' => r = none ∧ FrR 25 42 μ μ' ∧ μ'.2 40 3 = lN (redF (sumN W 100) B).1 ∧ μ'.2 40 4 = lN (redF (sumN W 100) B).2) := by
  intro k
  induction k using Nat.strongRecOn with
  | ind k ih =>
    intro i m hk hj hF hA hB h41
    refine go_il6 dX2_findFrost_145 (go_al0 dX2_findFrost_147 (go_getR (j := 41) fX2_9 rfl rfl dX2_findFrost_148 (go_alenJ rfl dX2_findFrost_151 ?_)))
    refine go_cge 177 dX2_findFrost_152 (by decide) (fun h152 => ?_) (fun h152 => ?_)
    · have he : i = 100 := Nat.le_antisymm hj ((gm_bdN (by decide) (by decide) (by omega)).mp h152)
      subst he
      refine go_al0 dX2_findFrost_177 ?_
      refine go_V0 mcX2_reduce mvX2_reduce kX2_57 rfl dX2_findFrost_178 rfl rfl (aX2_reduce hA hB hW2 hB2) ?_
      rintro _ m178 ⟨rfl, hF178, hA178, hB178⟩
      refine go_vret dX2_findFrost_181 ?_
      exact ⟨rfl, fun a ha => by rw [hF178 a (by omega)]; exact hF a ha, hA178, hB178⟩
    · have hlt : i < 100 := Nat.not_le.mp (fun z => h152 ((gm_bdN (by decide) (by decide) (by omega)).mpr z))
      refine go_al0 dX2_findFrost_155 (go_dup dX2_findFrost_156 rfl (go_getJ fX2_28 rfl rfl dX2_findFrost_157 (go_al0 dX2_findFrost_160 (go_getR (j := 41) fX2_9 rfl rfl dX2_findFrost_161 (go_il6 dX2_findFrost_164 (go_lald rfl (vp_in_nI hlt (by decide)) dX2_findFrost_166 (go_ladd dX2_findFrost_167 (go_putJ fX2_28 rfl rfl dX2_findFrost_168 (go_inc6 (k := 1) dX2_findFrost_171 (by decide) rfl rfl (go_goto 145 dX2_findFrost_174 (by decide) ?_))))))))))
      rw [nI_1, nI_clamp (by omega)]
      refine ih (100 - (i + 1)) (by omega) (i + 1) _ rfl (by omega) hF ?_ ?_ (fun a ha => ?_)
      · rw [gm_Js, hA, h41 i hlt, lN_add, sumN]
      · rw [gm_Jo _ _ _ (by decide)]; exact hB
      · rw [gm_Jn _ _ _ (by decide)]; exact h41 a ha
set_option maxRecDepth 100000 in
set_option maxHeartbeats 400000 in
theorem aX2_fr_loop {t : TR} {μ : gm_M} {c last x : Nat} {d3 : Option Value} (hc : c ≤ 16) (hl : last ≤ 9) (hx : x < 30) (hf : tfr t ≤ 19) (hfx : tfr t ≤ x) : ∀ (z k : Nat) (d7 : Option Value) (m : gm_M), x + 1 - (tfr t + k) = z → tfr t + k ≤ x + 1 → FrR 25 42 μ m → TI t m → m.2 40 3 = 0 → m.2 40 4 = lN (FB t last k) → (∀ a, a < 100 → m.2 41 a = lN (FW t c last x k a)) → Go yX2_findFrost cX2_findFrost 8 none 3 53 [some (.ref 40), some (.int (nI c)), some (.int (nI last)), d3, some (.int (nI x)), some (.ref 25), some (.int (nI (tfr t + k))), d7] [] m (fun r μ' => r = none ∧ FrR 25 42 μ μ' ∧ μ'.2 40 3 = lN (redF (sumN (FW t c last x (x + 1 - tfr t)) 100) (FB t last (x + 1 - tfr t))).1 ∧ μ'.2 40 4 = lN (redF (sumN (FW t c last x (x + 1 - tfr t)) 100) (FB t last (x + 1 - tfr t))).2) := by
  intro z
  induction z using Nat.strongRecOn with
  | ind z ih =>
    intro k d7 m hk hj hF hT hA hB h41
    refine go_il6 dX2_findFrost_53 (go_il4 dX2_findFrost_55 ?_)
    refine go_cgt 142 dX2_findFrost_57 (by decide) (fun h57 => ?_) (fun h57 => ?_)
    · have hx1 := (nI_ltI (by omega) (by omega)).mp h57
      have hk1 : k = x + 1 - tfr t := by omega
      subst hk1
      have hs1 := FW_sum t hc last x (x + 1 - tfr t)
      have hs2 := FB_le t hl (x + 1 - tfr t)
      refine go_ic0 dX2_findFrost_142 (go_is6 dX2_findFrost_143 rfl rfl ?_)
      exact aX2_fr_sum (by omega) (by omega) _ 0 _ rfl (Nat.zero_le _) hF hA hB h41
    · have hlt : tfr t + k ≤ x := Nat.not_lt.mp (fun z => h57 (nI_lt z (by omega)))
      refine go_il6 dX2_findFrost_60 (go_il2 dX2_findFrost_62 ?_)
      refine go_cgt 70 dX2_findFrost_63 (by decide) (fun h63 => ?_) (fun h63 => ?_)
      · refine go_ic0 dX2_findFrost_70 (go_is7 dX2_findFrost_71 rfl rfl (go_al0 dX2_findFrost_73 (go_al5 dX2_findFrost_74 (go_il6 dX2_findFrost_76 (go_il7 dX2_findFrost_78 ?_)))))
        refine go_ifeq 87 dX2_findFrost_80 (by decide) (fun _ => ?_) (fun h80 => absurd h80 (by decide))
        refine go_ic0 dX2_findFrost_87 (go_il7 dX2_findFrost_88 ?_)
        refine go_ifeq 98 dX2_findFrost_90 (by decide) (fun _ => ?_) (fun h90 => absurd h90 (by decide))
        refine go_ic1 dX2_findFrost_98 ?_
        refine go_V4 mcX2_weighNight mvX2_weighNight kX2_47 rfl dX2_findFrost_99 rfl rfl (aX2_weighNight (n := tfr t + k) (c := 0) (s := 1) (by omega) (by omega) hT (by omega) h41) ?_
        rintro _ m99 ⟨rfl, hF99, hJ99, hW99⟩
        have hA99 : m99.2 40 3 = 0 := (congrFun hJ99 3).trans hA
        have hB99 : m99.2 40 4 = lN (FB t last k) := (congrFun hJ99 4).trans hB
        refine go_al0 dX2_findFrost_102 (go_dup dX2_findFrost_103 rfl (go_getJ fX2_32 rfl rfl dX2_findFrost_104 (go_il7 dX2_findFrost_107 ?_)))
        refine go_ifeq 118 dX2_findFrost_109 (by decide) (fun _ => ?_) (fun h109 => absurd h109 (by decide))
        refine go_lc1 dX2_findFrost_118 (go_lmul dX2_findFrost_119 (go_putJ fX2_32 rfl rfl dX2_findFrost_120 (go_il6 dX2_findFrost_123 (go_il4 dX2_findFrost_125 ?_))))
        refine go_cge 136 dX2_findFrost_127 (by decide) (fun h127 => ?_) (fun h127 => ?_)
        · refine go_inc6 (k := 1) dX2_findFrost_136 (by decide) rfl rfl (go_goto 53 dX2_findFrost_139 (by decide) ?_)
          have hch : ¬ tfr t + k ≤ last := by
            have := (nI_ltI (by omega) (by omega)).mp h63
            omega
          have hB9 : (gm_J m99 40 4 (m99.2 40 4 * 1)).2 40 4 = lN (FB t last (k + 1)) := by rw [gm_Js, hB99, FB, if_neg hch, ← lN_mul]; rfl
          have hA9 : (gm_J m99 40 4 (m99.2 40 4 * 1)).2 40 3 = 0 := by rw [gm_Jo _ _ _ (by decide)]; exact hA99
          rw [nI_1, Nat.add_assoc]
          have hlt2 : ¬ tfr t + k < x := by
            have := (nI_leI (by omega) (by omega)).mp h127
            omega
          refine ih (x + 1 - (tfr t + (k + 1))) (by omega) (k + 1) _ _ rfl (by omega) (fun a ha => ?_) ?_ hA9 hB9 (fun a ha => ?_)
          · exact (hF99 a (by omega)).trans (hF a ha)
          · exact hT.cong (fun j _ _ => congrFun (hF99 25 (by decide)) j) (hF99 26 (by decide)) (hF99 27 (by decide))
          · rw [gm_Jn _ _ _ (by decide), hW99 a ha, FW]
            have e : (tfr t + k < x ∧ tea t a = true) = False := propext ⟨fun z => hlt2 z.1, fun z => z.elim⟩
            simp only [e, if_false, if_neg hch]
        · refine go_al0 dX2_findFrost_130 (go_al5 dX2_findFrost_131 ?_)
          refine go_V1 mcX2_dropEaten mvX2_dropEaten kX2_53 rfl dX2_findFrost_133 rfl rfl (aX2_dropEaten (hT.cong (fun j _ _ => congrFun (hF99 25 (by decide)) j) (hF99 26 (by decide)) (hF99 27 (by decide))) (show ∀ a, a < 100 → (gm_J m99 40 4 (m99.2 40 4 * 1)).2 41 a = _ from fun a ha => by rw [gm_Jn _ _ _ (by decide)]; exact hW99 a ha)) ?_
          rintro _ m133 ⟨rfl, hF133, hJ133, hW133⟩
          have hA133 := congrFun hJ133 3
          have hB133 := congrFun hJ133 4
          refine go_inc6 (k := 1) dX2_findFrost_136 (by decide) rfl rfl (go_goto 53 dX2_findFrost_139 (by decide) ?_)
          have hch : ¬ tfr t + k ≤ last := by
            have := (nI_ltI (by omega) (by omega)).mp h63
            omega
          have hB9 : (gm_J m99 40 4 (m99.2 40 4 * 1)).2 40 4 = lN (FB t last (k + 1)) := by rw [gm_Js, hB99, FB, if_neg hch, ← lN_mul]; rfl
          have hA9 : (gm_J m99 40 4 (m99.2 40 4 * 1)).2 40 3 = 0 := by rw [gm_Jo _ _ _ (by decide)]; exact hA99
          rw [nI_1, Nat.add_assoc]
          have hlt2 : tfr t + k < x := Nat.not_le.mp (fun z => h127 (nI_le z (by omega)))
          refine ih (x + 1 - (tfr t + (k + 1))) (by omega) (k + 1) _ _ rfl (by omega) (fun a ha => ?_) ?_ (hA133.trans hA9) (hB133.trans hB9) (fun a ha => ?_)
          · rw [hF133 a (by omega)]; exact (hF99 a (by omega)).trans (hF a ha)
          · exact hT.cong (fun j _ _ => by rw [hF133 25 (by decide)]; exact congrFun (hF99 25 (by decide)) j) (by rw [hF133 26 (by decide)]; exact hF99 26 (by decide)) (by rw [hF133 27 (by decide)]; exact hF99 27 (by decide))
          · rw [hW133 a ha, FW]
            have e : (tfr t + k < x ∧ tea t a = true) = (tea t a = true) := propext ⟨fun z => z.2, fun z => ⟨hlt2, z⟩⟩
            simp only [e, if_neg hch]
      · refine go_ic1 dX2_findFrost_66 (go_goto 71 dX2_findFrost_67 (by decide) (go_is7 dX2_findFrost_71 rfl rfl (go_al0 dX2_findFrost_73 (go_al5 dX2_findFrost_74 (go_il6 dX2_findFrost_76 (go_il7 dX2_findFrost_78 ?_))))))
        refine go_ifeq 87 dX2_findFrost_80 (by decide) (fun h80 => absurd h80 (by decide)) (fun _ => ?_)
        refine go_il1 dX2_findFrost_83 (go_goto 88 dX2_findFrost_84 (by decide) (go_il7 dX2_findFrost_88 ?_))
        refine go_ifeq 98 dX2_findFrost_90 (by decide) (fun h90 => absurd h90 (by decide)) (fun _ => ?_)
        refine go_bipush (v := 16) dX2_findFrost_93 (by decide) (go_goto 99 dX2_findFrost_95 (by decide) ?_)
        refine go_V4 mcX2_weighNight mvX2_weighNight kX2_47 rfl dX2_findFrost_99 rfl rfl (aX2_weighNight (n := tfr t + k) (c := c) (s := 16) (by omega) (by omega) hT (by omega) h41) ?_
        rintro _ m99 ⟨rfl, hF99, hJ99, hW99⟩
        have hA99 : m99.2 40 3 = 0 := (congrFun hJ99 3).trans hA
        have hB99 : m99.2 40 4 = lN (FB t last k) := (congrFun hJ99 4).trans hB
        refine go_al0 dX2_findFrost_102 (go_dup dX2_findFrost_103 rfl (go_getJ fX2_32 rfl rfl dX2_findFrost_104 (go_il7 dX2_findFrost_107 ?_)))
        refine go_ifeq 118 dX2_findFrost_109 (by decide) (fun h109 => absurd h109 (by decide)) (fun _ => ?_)
        refine go_ldc2 dX2_findFrost_112 nX2_51 (go_goto 119 dX2_findFrost_115 (by decide) (go_lmul dX2_findFrost_119 (go_putJ fX2_32 rfl rfl dX2_findFrost_120 (go_il6 dX2_findFrost_123 (go_il4 dX2_findFrost_125 ?_)))))
        refine go_cge 136 dX2_findFrost_127 (by decide) (fun h127 => ?_) (fun h127 => ?_)
        · refine go_inc6 (k := 1) dX2_findFrost_136 (by decide) rfl rfl (go_goto 53 dX2_findFrost_139 (by decide) ?_)
          have hch : tfr t + k ≤ last := Nat.not_lt.mp (fun z => h63 (nI_lt z (by omega)))
          have hB9 : (gm_J m99 40 4 (m99.2 40 4 * 16)).2 40 4 = lN (FB t last (k + 1)) := by rw [gm_Js, hB99, FB, if_pos hch, ← lN_mul]; rfl
          have hA9 : (gm_J m99 40 4 (m99.2 40 4 * 16)).2 40 3 = 0 := by rw [gm_Jo _ _ _ (by decide)]; exact hA99
          rw [nI_1, Nat.add_assoc]
          have hlt2 : ¬ tfr t + k < x := by
            have := (nI_leI (by omega) (by omega)).mp h127
            omega
          refine ih (x + 1 - (tfr t + (k + 1))) (by omega) (k + 1) _ _ rfl (by omega) (fun a ha => ?_) ?_ hA9 hB9 (fun a ha => ?_)
          · exact (hF99 a (by omega)).trans (hF a ha)
          · exact hT.cong (fun j _ _ => congrFun (hF99 25 (by decide)) j) (hF99 26 (by decide)) (hF99 27 (by decide))
          · rw [gm_Jn _ _ _ (by decide), hW99 a ha, FW]
            have e : (tfr t + k < x ∧ tea t a = true) = False := propext ⟨fun z => hlt2 z.1, fun z => z.elim⟩
            simp only [e, if_false, if_pos hch]
        · refine go_al0 dX2_findFrost_130 (go_al5 dX2_findFrost_131 ?_)
          refine go_V1 mcX2_dropEaten mvX2_dropEaten kX2_53 rfl dX2_findFrost_133 rfl rfl (aX2_dropEaten (hT.cong (fun j _ _ => congrFun (hF99 25 (by decide)) j) (hF99 26 (by decide)) (hF99 27 (by decide))) (show ∀ a, a < 100 → (gm_J m99 40 4 (m99.2 40 4 * 16)).2 41 a = _ from fun a ha => by rw [gm_Jn _ _ _ (by decide)]; exact hW99 a ha)) ?_
          rintro _ m133 ⟨rfl, hF133, hJ133, hW133⟩
          have hA133 := congrFun hJ133 3
          have hB133 := congrFun hJ133 4
          refine go_inc6 (k := 1) dX2_findFrost_136 (by decide) rfl rfl (go_goto 53 dX2_findFrost_139 (by decide) ?_)
          have hch : tfr t + k ≤ last := Nat.not_lt.mp (fun z => h63 (nI_lt z (by omega)))
          have hB9 : (gm_J m99 40 4 (m99.2 40 4 * 16)).2 40 4 = lN (FB t last (k + 1)) := by rw [gm_Js, hB99, FB, if_pos hch, ← lN_mul]; rfl
          have hA9 : (gm_J m99 40 4 (m99.2 40 4 * 16)).2 40 3 = 0 := by rw [gm_Jo _ _ _ (by decide)]; exact hA99
          rw [nI_1, Nat.add_assoc]
          have hlt2 : tfr t + k < x := Nat.not_le.mp (fun z => h127 (nI_le z (by omega)))
          refine ih (x + 1 - (tfr t + (k + 1))) (by omega) (k + 1) _ _ rfl (by omega) (fun a ha => ?_) ?_ (hA133.trans hA9) (hB133.trans hB9) (fun a ha => ?_)
          · rw [hF133 a (by omega)]; exact (hF99 a (by omega)).trans (hF a ha)
          · exact hT.cong (fun j _ _ => by rw [hF133 25 (by decide)]; exact congrFun (hF99 25 (by decide)) j) (by rw [hF133 26 (by decide)]; exact hF99 26 (by decide)) (by rw [hF133 27 (by decide)]; exact hF99 27 (by decide))
          · rw [hW133 a ha, FW]
            have e : (tfr t + k < x ∧ tea t a = true) = (tea t a = true) := propext ⟨fun z => z.2, fun z => ⟨hlt2, z⟩⟩
            simp only [e, if_pos hch]
set_option maxRecDepth 100000 in
set_option maxHeartbeats 400000 in
theorem aX2_findFrost {q : QS} {μ : gm_M} {c last w x : Nat} (hQ : CQ q μ) (hc : c ≤ 16) (hl : last ≤ 9) (hw : w < qnum q) (hx : x < 30) : Sat yX2_findFrost cX2_findFrost 8 none 3 [(.ref 40), (.int (nI c)), (.int (nI last)), (.int (nI w)), (.int (nI x))] μ (fun r μ' => r = none ∧ FrR 25 42 μ μ' ∧ μ'.2 40 3 = lN (frostN (trof q 9 w) c last x).1 ∧ μ'.2 40 4 = lN (frostN (trof q 9 w) c last x).2) := by
  refine Sat.of (L := [some (.ref 40), some (.int (nI c)), some (.int (nI last)), some (.int (nI w)), some (.int (nI x)), none, none, none]) (by decide) (fun _ => rfl) (fun _ => rfl) ?_
  refine go_al0 dX2_findFrost_0 (go_getR (j := 1) fX2_18 rfl rfl dX2_findFrost_1 (go_il3 dX2_findFrost_4 ?_))
  refine go_V1 mcX1_begin mvX1_begin kX2_22 rfl dX2_findFrost_5 rfl rfl (aBegin hQ hw) ?_
  rintro _ m5 ⟨rfl, hT5, hF5⟩
  refine go_as5 dX2_findFrost_8 rfl rfl (go_al0 dX2_findFrost_10 (go_lc0 dX2_findFrost_11 (go_putJ fX2_28 rfl rfl dX2_findFrost_12 (go_al0 dX2_findFrost_15 (go_lc1 dX2_findFrost_16 (go_putJ fX2_32 rfl rfl dX2_findFrost_17 (go_il4 dX2_findFrost_20 (go_al5 dX2_findFrost_22 (go_getI fX2_35 rfl rfl dX2_findFrost_24 ?_)))))))))
  refine go_cge 31 dX2_findFrost_27 (by decide) (fun h27 => ?_) (fun h27 => ?_)
  · refine go_al0 dX2_findFrost_31 (go_getR (j := 41) fX2_9 rfl rfl dX2_findFrost_32 (go_lc0 dX2_findFrost_35 (go_S2v mcJ7_fill_d0a16 mvJ7_fill_d0a16 kX2_41 dX2_findFrost_36 rfl rfl (sJ7_fillJ rfl (by decide) _ _) (go_al0 dX2_findFrost_39 (go_getR (j := 41) fX2_9 rfl rfl dX2_findFrost_40 (go_ic0 dX2_findFrost_43 (go_lc1 dX2_findFrost_44 (go_last rfl (vp_in_nI (n := 0) (by decide) (by decide)) dX2_findFrost_45 (go_al5 dX2_findFrost_46 (go_getI fX2_35 rfl rfl dX2_findFrost_48 (go_is6 dX2_findFrost_51 rfl rfl ?_)))))))))))
    have hge : tfr (trof q 9 w) ≤ x := by
      have := h27
      rw [show (gm_J (gm_J m5 40 3 0) 40 4 1).1 25 7 = _ from hT5.2.2.1, nI_leI (by have := hT5.1.2.1; omega) (by omega)] at this
      exact this
    rw [show (gm_J (gm_filJ (gm_J (gm_J m5 40 3 0) 40 4 1) 41 100 0) 41 (0 : Int32).toNatClampNeg 1).1 25 7 = nI (tfr (trof q 9 w) + 0) from hT5.2.2.1]
    rw [frostN, if_neg (by omega)]
    refine aX2_fr_loop hc hl hx hT5.1.2.1 hge _ 0 _ _ rfl (by omega) (fun a ha => hF5.1 a (by omega)) (hT5.cong (fun _ _ _ => rfl) rfl rfl) ?_ ?_ (fun a ha => ?_)
    · rw [gm_Jn _ _ _ (by decide)]
      simp [gm_filJ, gm_aJ, gm_J2]
    · rw [gm_Jn _ _ _ (by decide)]
      simp [gm_filJ, gm_aJ, gm_J2]
      rfl
    · rw [gm_J2, if_pos rfl, show (0 : Int32).toNatClampNeg = 0 from by decide]
      have e : FW (trof q 9 w) c last x 0 a = if a = 0 then 1 else 0 := rfl
      rw [e]
      by_cases z : a = 0
      · rw [if_pos z, if_pos z]; rfl
      · rw [if_neg z, if_neg z]
        simp [gm_filJ, gm_aJ, ha]
        rfl
  · refine go_vret dX2_findFrost_30 ?_
    have hlt : x < tfr (trof q 9 w) := by
      have := h27
      rw [show (gm_J (gm_J m5 40 3 0) 40 4 1).1 25 7 = _ from hT5.2.2.1, nI_leI (by have := hT5.1.2.1; omega) (by omega)] at this
      omega
    refine ⟨rfl, fun a ha => hF5.1 a (by omega), ?_, ?_⟩
    · rw [gm_Jo _ _ _ (by decide), gm_Js, frostN, if_pos hlt]; rfl
    · rw [gm_Js, frostN, if_pos hlt]; rfl

