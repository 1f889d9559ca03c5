/-! HOW MANY BITS ARE ON: Integer.bitCount in numbers -/
theorem bt_nI (n : Nat) {i : Nat} (hi : i < 32) : bt (nI n) i = n.testBit i := by
  show (BitVec.ofNat 32 n).getLsbD i = _
  rw [BitVec.getLsbD_ofNat]
  simp [hi]
theorem tb_big {n i : Nat} (hn : n < 2 ^ 32) (hi : 32 ≤ i) : n.testBit i = false := Nat.testBit_lt_two_pow (Nat.lt_of_lt_of_le hn (Nat.pow_le_pow_right (by decide) hi))
theorem gu_nI {n k : Nat} (hn : n < 2 ^ 32) (hk : k < 32) : gu (nI n) (nI k) = nI (n / 2 ^ k) := by
  refine b_ext (fun i hi => ?_)
  unfold gu
  rw [b_ushr k hk, bt_nI _ hi, Nat.testBit_div_two_pow, Nat.add_comm i k]
  rcases Nat.lt_or_ge (k + i) 32 with z | z
  · rw [bt_nI _ z]
  · rw [b_big z, tb_big hn z]
theorem and_cat {k a c : Nat} (ha : a < 2 ^ k) (hc : c < 2 ^ k) (n M : Nat) : (a + 2 ^ k * n) &&& (c + 2 ^ k * M) = (a &&& c) + 2 ^ k * (n &&& M) := by
  have hp : 0 < 2 ^ k := Nat.two_pow_pos k
  have e1 : ((a + 2 ^ k * n) &&& (c + 2 ^ k * M)) % 2 ^ k = a &&& c := by
    rw [Nat.and_mod_two_pow, Nat.add_mul_mod_self_left, Nat.add_mul_mod_self_left, Nat.mod_eq_of_lt ha, Nat.mod_eq_of_lt hc]
  have e2 : ((a + 2 ^ k * n) &&& (c + 2 ^ k * M)) / 2 ^ k = n &&& M := by
    rw [Nat.and_div_two_pow, Nat.add_mul_div_left _ _ hp, Nat.add_mul_div_left _ _ hp, Nat.div_eq_of_lt ha, Nat.div_eq_of_lt hc, Nat.zero_add, Nat.zero_add]
  rw [← e1, ← e2, Nat.mod_add_div]
theorem and_c16 {a c : Nat} (ha : a < 16) (hc : c < 16) (n M : Nat) : (a + 16 * n) &&& (c + 16 * M) = (a &&& c) + 16 * (n &&& M) := and_cat (k := 4) ha hc n M
theorem and_c256 {a c : Nat} (ha : a < 256) (hc : c < 256) (n M : Nat) : (a + 256 * n) &&& (c + 256 * M) = (a &&& c) + 256 * (n &&& M) := and_cat (k := 8) ha hc n M
def vN (d : Nat → Nat) : Nat → Nat
  | 0 => 0
  | j + 1 => d 0 + 16 * vN (fun i => d (i + 1)) j
def mkM (m : Nat) : Nat → Nat
  | 0 => 0
  | j + 1 => m + 16 * mkM m j
theorem vN_5 : ∀ j d, (∀ i, d i < 16) → vN d j / 2 &&& mkM 5 j = vN (fun i => d i / 2 &&& 5) j := by
  intro j
  induction j with
  | zero => intro d _; show 0 / 2 &&& 0 = 0; decide
  | succ j ih =>
    intro d h
    have k : ∀ a, a < 16 → ∀ e, e < 2 → (a / 2 + 8 * e) &&& 5 = a / 2 &&& 5 := by decide +kernel
    have h0 := h 0
    show (d 0 + 16 * vN (fun i => d (i + 1)) j) / 2 &&& (5 + 16 * mkM 5 j) = (d 0 / 2 &&& 5) + 16 * vN (fun i => d (i + 1) / 2 &&& 5) j
    rw [← ih (fun i => d (i + 1)) (fun i => h (i + 1))]
    generalize vN (fun i => d (i + 1)) j = R
    rw [show (d 0 + 16 * R) / 2 = (d 0 / 2 + 8 * (R % 2)) + 16 * (R / 2) by omega, and_c16 (by omega) (by decide), k _ h0 _ (by omega)]
theorem vN_3 : ∀ j d, (∀ i, d i < 16) → vN d j &&& mkM 3 j = vN (fun i => d i &&& 3) j := by
  intro j
  induction j with
  | zero => intro d _; show 0 &&& 0 = 0; decide
  | succ j ih =>
    intro d h
    show (d 0 + 16 * vN (fun i => d (i + 1)) j) &&& (3 + 16 * mkM 3 j) = (d 0 &&& 3) + 16 * vN (fun i => d (i + 1) &&& 3) j
    rw [← ih (fun i => d (i + 1)) (fun i => h (i + 1)), and_c16 (h 0) (by decide)]
theorem vN_3s : ∀ j d, (∀ i, d i < 16) → vN d j / 4 &&& mkM 3 j = vN (fun i => d i / 4 &&& 3) j := by
  intro j
  induction j with
  | zero => intro d _; show 0 / 4 &&& 0 = 0; decide
  | succ j ih =>
    intro d h
    have k : ∀ a, a < 16 → ∀ e, e < 4 → (a / 4 + 4 * e) &&& 3 = a / 4 &&& 3 := by decide +kernel
    have h0 := h 0
    show (d 0 + 16 * vN (fun i => d (i + 1)) j) / 4 &&& (3 + 16 * mkM 3 j) = (d 0 / 4 &&& 3) + 16 * vN (fun i => d (i + 1) / 4 &&& 3) j
    rw [← ih (fun i => d (i + 1)) (fun i => h (i + 1))]
    generalize vN (fun i => d (i + 1)) j = R
    rw [show (d 0 + 16 * R) / 4 = (d 0 / 4 + 4 * (R % 4)) + 16 * (R / 4) by omega, and_c16 (by omega) (by decide), k _ h0 _ (by omega)]
theorem vN_add : ∀ j d e, vN d j + vN e j = vN (fun i => d i + e i) j := by
  intro j
  induction j with
  | zero => intro d e; rfl
  | succ j ih =>
    intro d e
    show (d 0 + 16 * vN (fun i => d (i + 1)) j) + (e 0 + 16 * vN (fun i => e (i + 1)) j) = (d 0 + e 0) + 16 * vN (fun i => d (i + 1) + e (i + 1)) j
    rw [← ih (fun i => d (i + 1)) (fun i => e (i + 1))]
    omega
theorem vN_sub : ∀ j d e, (∀ i, e i ≤ d i) → vN e j ≤ vN d j ∧ vN d j - vN e j = vN (fun i => d i - e i) j := by
  intro j
  induction j with
  | zero => intro d e _; exact ⟨Nat.le_refl _, rfl⟩
  | succ j ih =>
    intro d e h
    obtain ⟨i1, i2⟩ := ih (fun i => d (i + 1)) (fun i => e (i + 1)) (fun i => h (i + 1))
    have h0 := h 0
    constructor
    · show e 0 + 16 * vN (fun i => e (i + 1)) j ≤ d 0 + 16 * vN (fun i => d (i + 1)) j
      omega
    · show (d 0 + 16 * vN (fun i => d (i + 1)) j) - (e 0 + 16 * vN (fun i => e (i + 1)) j) = (d 0 - e 0) + 16 * vN (fun i => d (i + 1) - e (i + 1)) j
      rw [← i2]; omega
def dgN (n i : Nat) : Nat := n / 16 ^ i % 16
theorem vN_dg : ∀ j n, vN (dgN n) j = n % 16 ^ j := by
  intro j
  induction j with
  | zero => intro n; show 0 = n % 1; omega
  | succ j ih =>
    intro n
    have e : (fun i => dgN n (i + 1)) = dgN (n / 16) := by
      funext i
      unfold dgN
      rw [Nat.div_div_eq_div_mul, Nat.pow_succ, Nat.mul_comm (16 ^ i) 16]
    show dgN n 0 + 16 * vN (fun i => dgN n (i + 1)) j = _
    rw [e, ih, Nat.pow_succ, Nat.mul_comm (16 ^ j) 16, Nat.mod_mul]
    unfold dgN
    rw [Nat.pow_zero, Nat.div_one]
theorem vN_le {B : Nat} : ∀ j d, (∀ i, d i ≤ B) → vN d j ≤ B * mkM 1 j := by
  intro j
  induction j with
  | zero => intro d _; exact Nat.zero_le _
  | succ j ih =>
    intro d h
    have := ih (fun i => d (i + 1)) (fun i => h (i + 1))
    have h0 := h 0
    show d 0 + 16 * vN (fun i => d (i + 1)) j ≤ B * (1 + 16 * mkM 1 j)
    rw [Nat.mul_add, Nat.mul_one, Nat.mul_left_comm]
    omega
def pcA (a : Nat) : Nat := a - (a / 2 &&& 5)
def pcB (a : Nat) : Nat := (a &&& 3) + (a / 4 &&& 3)
theorem pc_ok : ∀ a, a < 16 → (a / 2 &&& 5) ≤ a ∧ pcA a < 16 ∧ pcB (pcA a) = a % 2 + a / 2 % 2 + a / 4 % 2 + a / 8 % 2 := by decide +kernel
/-- the number of those below N for which p holds -/
def cntB (p : Nat → Bool) : Nat → Nat
  | 0 => 0
  | n + 1 => cntB p n + (if p n = true then 1 else 0)
def cnt4 (n j : Nat) : Nat := (n / 16 ^ j % 16) % 2 + (n / 16 ^ j % 16) / 2 % 2 + (n / 16 ^ j % 16) / 4 % 2 + (n / 16 ^ j % 16) / 8 % 2
theorem tb_if (n i : Nat) : (if n.testBit i = true then 1 else 0) = n / 2 ^ i % 2 := by
  rw [Nat.testBit_eq_decide_div_mod_eq]
  by_cases z : n / 2 ^ i % 2 = 1
  · rw [decide_eq_true z, if_pos rfl, z]
  · rw [decide_eq_false z, if_neg (by decide)]
    omega
theorem cnt_4 (n j : Nat) : cntB (fun i => n.testBit i) (4 * j + 4) = cntB (fun i => n.testBit i) (4 * j) + cnt4 n j := by
  have e : ∀ e, n / 2 ^ (4 * j + e) % 2 = n / 16 ^ j / 2 ^ e % 2 := by
    intro e
    rw [Nat.div_div_eq_div_mul, Nat.pow_add, Nat.pow_mul]
  have e0 := e 0
  rw [Nat.add_zero, Nat.pow_zero, Nat.div_one] at e0
  show cntB (fun i => n.testBit i) (4 * j) + (if n.testBit (4 * j) = true then 1 else 0) + (if n.testBit (4 * j + 1) = true then 1 else 0) + (if n.testBit (4 * j + 2) = true then 1 else 0) + (if n.testBit (4 * j + 3) = true then 1 else 0) = _
  rw [tb_if, tb_if, tb_if, tb_if, e0, e 1, e 2, e 3]
  unfold cnt4
  generalize n / 16 ^ j = m
  have : (2 : Nat) ^ 1 = 2 := rfl
  have : (2 : Nat) ^ 2 = 4 := rfl
  have : (2 : Nat) ^ 3 = 8 := rfl
  rw [‹(2 : Nat) ^ 1 = 2›, ‹(2 : Nat) ^ 2 = 4›, ‹(2 : Nat) ^ 3 = 8›]
  omega
theorem cnt4_le (n j : Nat) : cnt4 n j ≤ 4 := by unfold cnt4; omega
theorem cnt_32 (n : Nat) : cntB (fun i => n.testBit i) 32 = cnt4 n 0 + cnt4 n 1 + cnt4 n 2 + cnt4 n 3 + cnt4 n 4 + cnt4 n 5 + cnt4 n 6 + cnt4 n 7 := by
  have h0 : cntB (fun i => n.testBit i) 4 = cntB (fun i => n.testBit i) 0 + cnt4 n 0 := cnt_4 n 0
  have h1 : cntB (fun i => n.testBit i) 8 = cntB (fun i => n.testBit i) 4 + cnt4 n 1 := cnt_4 n 1
  have h2 : cntB (fun i => n.testBit i) 12 = cntB (fun i => n.testBit i) 8 + cnt4 n 2 := cnt_4 n 2
  have h3 : cntB (fun i => n.testBit i) 16 = cntB (fun i => n.testBit i) 12 + cnt4 n 3 := cnt_4 n 3
  have h4 : cntB (fun i => n.testBit i) 20 = cntB (fun i => n.testBit i) 16 + cnt4 n 4 := cnt_4 n 4
  have h5 : cntB (fun i => n.testBit i) 24 = cntB (fun i => n.testBit i) 20 + cnt4 n 5 := cnt_4 n 5
  have h6 : cntB (fun i => n.testBit i) 28 = cntB (fun i => n.testBit i) 24 + cnt4 n 6 := cnt_4 n 6
  have h7 : cntB (fun i => n.testBit i) 32 = cntB (fun i => n.testBit i) 28 + cnt4 n 7 := cnt_4 n 7
  have z : cntB (fun i => n.testBit i) 0 = 0 := rfl
  omega
theorem gbc_nI {n : Nat} (hn : n < 2 ^ 32) : gbc (nI n) = nI (cntB (fun i => n.testBit i) 32) := by
  have hd : ∀ i, dgN n i < 16 := fun i => Nat.mod_lt _ (by decide)
  have e0 : n = vN (dgN n) 8 := by rw [vN_dg]; exact (Nat.mod_eq_of_lt hn).symm
  -- a
  have s1 := vN_sub 8 (dgN n) (fun i => dgN n i / 2 &&& 5) (fun i => (pc_ok _ (hd i)).1)
  have ea : nI n - (gu (nI n) 1 &&& 1431655765) = nI (vN (fun i => pcA (dgN n i)) 8) := by
    rw [show (1 : Int32) = nI 1 from rfl, gu_nI hn (by decide), show (1431655765 : Int32) = nI (mkM 5 8) from by decide, nx_and]
    rw [show n / 2 ^ 1 &&& mkM 5 8 = vN (fun i => dgN n i / 2 &&& 5) 8 from by rw [← vN_5 8 _ hd, ← e0]]
    have h1 : vN (fun i => dgN n i / 2 &&& 5) 8 ≤ n := by have := s1.1; rw [← e0] at this; exact this
    rw [pk_sub h1]
    have h2 := s1.2
    rw [← e0] at h2
    rw [h2]
    rfl
  have hA : ∀ i, pcA (dgN n i) < 16 := fun i => (pc_ok _ (hd i)).2.1
  have la : vN (fun i => pcA (dgN n i)) 8 ≤ 15 * mkM 1 8 := vN_le 8 _ (fun i => by have := hA i; omega)
  have m1 : mkM 1 8 = 286331153 := by decide
  have eb : (nI (vN (fun i => pcA (dgN n i)) 8) &&& 858993459) + (gu (nI (vN (fun i => pcA (dgN n i)) 8)) 2 &&& 858993459) = nI (vN (cnt4 n) 8) := by
    rw [show (2 : Int32) = nI 2 from rfl, gu_nI (by rw [m1] at la; omega) (by decide), show (858993459 : Int32) = nI (mkM 3 8) from by decide, nx_and, nx_and, vN_3 8 _ hA, show (2 : Nat) ^ 2 = 4 from rfl, vN_3s 8 _ hA, nI_add, vN_add]
    congr 2
    funext i
    exact (pc_ok _ (hd i)).2.2
  have c0 := cnt4_le n 0
  have c1 := cnt4_le n 1
  have c2 := cnt4_le n 2
  have c3 := cnt4_le n 3
  have c4 := cnt4_le n 4
  have c5 := cnt4_le n 5
  have c6 := cnt4_le n 6
  have c7 := cnt4_le n 7
  have ev : vN (cnt4 n) 8 = cnt4 n 0 + 16 * (cnt4 n 1 + 16 * (cnt4 n 2 + 16 * (cnt4 n 3 + 16 * (cnt4 n 4 + 16 * (cnt4 n 5 + 16 * (cnt4 n 6 + 16 * (cnt4 n 7 + 16 * 0))))))) := rfl
  rw [cnt_32]
  unfold gbc
  dsimp only
  rw [ea, eb, ev]
  generalize cnt4 n 0 = a0 at *
  generalize cnt4 n 1 = a1 at *
  generalize cnt4 n 2 = a2 at *
  generalize cnt4 n 3 = a3 at *
  generalize cnt4 n 4 = a4 at *
  generalize cnt4 n 5 = a5 at *
  generalize cnt4 n 6 = a6 at *
  generalize cnt4 n 7 = a7 at *
  clear ea eb ev la s1
  have k15 : ∀ t, t &&& 15 = t % 16 := fun t => Nat.and_two_pow_sub_one_eq_mod t 4
  have ec : (nI (a0 + 16 * (a1 + 16 * (a2 + 16 * (a3 + 16 * (a4 + 16 * (a5 + 16 * (a6 + 16 * (a7 + 16 * 0)))))))) + gu (nI (a0 + 16 * (a1 + 16 * (a2 + 16 * (a3 + 16 * (a4 + 16 * (a5 + 16 * (a6 + 16 * (a7 + 16 * 0))))))))) 4) &&& 252645135 = nI ((a0 + a1) + 256 * ((a2 + a3) + 256 * ((a4 + a5) + 256 * (a6 + a7)))) := by
    rw [show (4 : Int32) = nI 4 from rfl, gu_nI (by omega) (by decide), nI_add, show (252645135 : Int32) = nI (15 + 256 * (15 + 256 * (15 + 256 * 15))) from by decide, nx_and]
    rw [show a0 + 16 * (a1 + 16 * (a2 + 16 * (a3 + 16 * (a4 + 16 * (a5 + 16 * (a6 + 16 * (a7 + 16 * 0))))))) + (a0 + 16 * (a1 + 16 * (a2 + 16 * (a3 + 16 * (a4 + 16 * (a5 + 16 * (a6 + 16 * (a7 + 16 * 0)))))))) / 2 ^ 4 = ((a0 + a1) + 16 * (a1 + a2)) + 256 * (((a2 + a3) + 16 * (a3 + a4)) + 256 * (((a4 + a5) + 16 * (a5 + a6)) + 256 * ((a6 + a7) + 16 * a7))) by omega]
    rw [and_c256 (by omega) (by decide), and_c256 (by omega) (by decide), and_c256 (by omega) (by decide), k15, k15, k15, k15]
    rw [show ((a0 + a1) + 16 * (a1 + a2)) % 16 = a0 + a1 by omega, show ((a2 + a3) + 16 * (a3 + a4)) % 16 = a2 + a3 by omega, show ((a4 + a5) + 16 * (a5 + a6)) % 16 = a4 + a5 by omega, show ((a6 + a7) + 16 * a7) % 16 = a6 + a7 by omega]
  rw [ec]
  have d1 : ((a0 + a1) + 256 * ((a2 + a3) + 256 * ((a4 + a5) + 256 * (a6 + a7)))) + ((a0 + a1) + 256 * ((a2 + a3) + 256 * ((a4 + a5) + 256 * (a6 + a7)))) / 2 ^ 8 = (a0 + a1 + a2 + a3) + 256 * ((a2 + a3 + a4 + a5) + 256 * ((a4 + a5 + a6 + a7) + 256 * (a6 + a7))) := by
    have : ((a0 + a1) + 256 * ((a2 + a3) + 256 * ((a4 + a5) + 256 * (a6 + a7)))) / 2 ^ 8 = (a2 + a3) + 256 * ((a4 + a5) + 256 * (a6 + a7)) := by omega
    rw [this]; omega
  have d2 : ((a0 + a1 + a2 + a3) + 256 * ((a2 + a3 + a4 + a5) + 256 * ((a4 + a5 + a6 + a7) + 256 * (a6 + a7)))) / 2 ^ 16 = (a4 + a5 + a6 + a7) + 256 * (a6 + a7) := by omega
  rw [show (8 : Int32) = nI 8 from rfl, gu_nI (by omega) (by decide), nI_add, d1, show (16 : Int32) = nI 16 from rfl, gu_nI (by omega) (by decide), nI_add, d2, show (63 : Int32) = nI (2 ^ 6 - 1) from by decide, nx_and, Nat.and_two_pow_sub_one_eq_mod]
  congr 1
  omega
theorem gbc_cnt (x : Int32) : gbc x = nI (cntB (bt x) 32) := by
  obtain ⟨n, hn, rfl⟩ := wb_of32 x
  rw [gbc_nI hn]
  congr 1
  have : ∀ k, k ≤ 32 → cntB (fun i => n.testBit i) k = cntB (bt (nI n)) k := by
    intro k
    induction k with
    | zero => intro _; rfl
    | succ k ih => intro hk; rw [cntB, cntB, ih (by omega), bt_nI n (by omega)]
  exact this 32 (Nat.le_refl _)
theorem cntB_cong {p p' : Nat → Bool} : ∀ k, (∀ i, i < k → p i = p' i) → cntB p k = cntB p' k := by
  intro k
  induction k with
  | zero => intro _; rfl
  | succ k ih => intro h; rw [cntB, cntB, ih (fun i hi => h i (by omega)), h k (by omega)]
