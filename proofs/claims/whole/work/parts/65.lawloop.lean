/-! THE LAW's loop -/
theorem lw_switch {Ln : Nat} {xs : Nat → Int32} {i : Nat} {r : RS} {μ : gm_M} {x : Int32} (hi : i + 6 ≤ Ln) (hL : Ln ≤ 3072) (hC : CA r μ) (hM : MA r μ) (K : ∀ r2 μ2, CA r2 μ2 → MA r2 μ2 → GoL Ln xs 1275 (lwL i) [] μ2) : GoL Ln xs 33 (lwL i) [.int x] μ := by
  by_cases hx : x.toInt < 0 ∨ 34 < x.toInt
  · exact gl_tsOut 1275 dL_law_33 hx (by decide) (K r μ hC hM)
  have h0 : x.toInt = ((x.toInt.toNat : Nat) : Int) := by omega
  have h1 : x.toInt.toNat ≤ 34 := by omega
  generalize x.toInt.toNat = k at h0 h1
  match k, h1, h0 with
  | 0, _, hk => exact gl_tsIn 188 dL_law_33 (by rw [hk]; decide) (by rw [hk]; decide) (off := 155) (by rw [hk]; rfl) (by decide) (lw_op_type hi hL hC hM K)
  | 1, _, hk => exact gl_tsIn 221 dL_law_33 (by rw [hk]; decide) (by rw [hk]; decide) (off := 188) (by rw [hk]; rfl) (by decide) (lw_op_wipe hi hL hC hM K)
  | 2, _, hk => exact gl_tsIn 244 dL_law_33 (by rw [hk]; decide) (by rw [hk]; decide) (off := 211) (by rw [hk]; rfl) (by decide) (lw_op_undo hi hL hC hM K)
  | 3, _, hk => exact gl_tsIn 267 dL_law_33 (by rw [hk]; decide) (by rw [hk]; decide) (off := 234) (by rw [hk]; rfl) (by decide) (lw_op_fault hi hL hC hM K)
  | 4, _, hk => exact gl_tsIn 290 dL_law_33 (by rw [hk]; decide) (by rw [hk]; decide) (off := 257) (by rw [hk]; rfl) (by decide) (lw_op_wheel hi hL hC hM K)
  | 5, _, hk => exact gl_tsIn 323 dL_law_33 (by rw [hk]; decide) (by rw [hk]; decide) (off := 290) (by rw [hk]; rfl) (by decide) (lw_op_warm hi hL hC hM K)
  | 6, _, hk => exact gl_tsIn 346 dL_law_33 (by rw [hk]; decide) (by rw [hk]; decide) (off := 313) (by rw [hk]; rfl) (by decide) (lw_op_set hi hL hC hM K)
  | 7, _, hk => exact gl_tsIn 379 dL_law_33 (by rw [hk]; decide) (by rw [hk]; decide) (off := 346) (by rw [hk]; rfl) (by decide) (lw_op_turning hi hL hC hM K)
  | 8, _, hk => exact gl_tsIn 412 dL_law_33 (by rw [hk]; decide) (by rw [hk]; decide) (off := 379) (by rw [hk]; rfl) (by decide) (lw_op_knock hi hL hC hM K)
  | 9, _, hk => exact gl_tsIn 445 dL_law_33 (by rw [hk]; decide) (by rw [hk]; decide) (off := 412) (by rw [hk]; rfl) (by decide) (lw_op_back hi hL hC hM K)
  | 10, _, hk => exact gl_tsIn 468 dL_law_33 (by rw [hk]; decide) (by rw [hk]; decide) (off := 435) (by rw [hk]; rfl) (by decide) (lw_op_read hi hL hC hM K)
  | 11, _, hk => exact gl_tsIn 491 dL_law_33 (by rw [hk]; decide) (by rw [hk]; decide) (off := 458) (by rw [hk]; rfl) (by decide) (lw_op_at hi hL hC hM K)
  | 12, _, hk => exact gl_tsIn 534 dL_law_33 (by rw [hk]; decide) (by rw [hk]; decide) (off := 501) (by rw [hk]; rfl) (by decide) (lw_op_longs hi hL hC hM K)
  | 13, _, hk => exact gl_tsIn 557 dL_law_33 (by rw [hk]; decide) (by rw [hk]; decide) (off := 524) (by rw [hk]; rfl) (by decide) (lw_op_scream hi hL hC hM K)
  | 14, _, hk => exact gl_tsIn 580 dL_law_33 (by rw [hk]; decide) (by rw [hk]; decide) (off := 547) (by rw [hk]; rfl) (by decide) (lw_op_chord hi hL hC hM K)
  | 15, _, hk => exact gl_tsIn 613 dL_law_33 (by rw [hk]; decide) (by rw [hk]; decide) (off := 580) (by rw [hk]; rfl) (by decide) (lw_op_hush hi hL hC hM K)
  | 16, _, hk => exact gl_tsIn 626 dL_law_33 (by rw [hk]; decide) (by rw [hk]; decide) (off := 593) (by rw [hk]; rfl) (by decide) (lw_op_ripe hi hL hC hM K)
  | 17, _, hk => exact gl_tsIn 669 dL_law_33 (by rw [hk]; decide) (by rw [hk]; decide) (off := 636) (by rw [hk]; rfl) (by decide) (lw_op_cold hi hL hC hM K)
  | 18, _, hk => exact gl_tsIn 702 dL_law_33 (by rw [hk]; decide) (by rw [hk]; decide) (off := 669) (by rw [hk]; rfl) (by decide) (lw_op_come hi hL hC hM K)
  | 19, _, hk => exact gl_tsIn 735 dL_law_33 (by rw [hk]; decide) (by rw [hk]; decide) (off := 702) (by rw [hk]; rfl) (by decide) (lw_op_sale hi hL hC hM K)
  | 20, _, hk => exact gl_tsIn 748 dL_law_33 (by rw [hk]; decide) (by rw [hk]; decide) (off := 715) (by rw [hk]; rfl) (by decide) (lw_op_listen hi hL hC hM K)
  | 21, _, hk => exact gl_tsIn 791 dL_law_33 (by rw [hk]; decide) (by rw [hk]; decide) (off := 758) (by rw [hk]; rfl) (by decide) (lw_op_forget hi hL hC hM K)
  | 22, _, hk => exact gl_tsIn 804 dL_law_33 (by rw [hk]; decide) (by rw [hk]; decide) (off := 771) (by rw [hk]; rfl) (by decide) (lw_op_never hi hL hC hM K)
  | 23, _, hk => exact gl_tsIn 817 dL_law_33 (by rw [hk]; decide) (by rw [hk]; decide) (off := 784) (by rw [hk]; rfl) (by decide) (lw_op_was hi hL hC hM K)
  | 24, _, hk => exact gl_tsIn 850 dL_law_33 (by rw [hk]; decide) (by rw [hk]; decide) (off := 817) (by rw [hk]; rfl) (by decide) (lw_op_ask hi hL hC hM K)
  | 25, _, hk => exact gl_tsIn 873 dL_law_33 (by rw [hk]; decide) (by rw [hk]; decide) (off := 840) (by rw [hk]; rfl) (by decide) (lw_op_frost hi hL hC hM K)
  | 26, _, hk => exact gl_tsIn 937 dL_law_33 (by rw [hk]; decide) (by rw [hk]; decide) (off := 904) (by rw [hk]; rfl) (by decide) (lw_op_summer hi hL hC hM K)
  | 27, _, hk => exact gl_tsIn 980 dL_law_33 (by rw [hk]; decide) (by rw [hk]; decide) (off := 947) (by rw [hk]; rfl) (by decide) (lw_op_sheet hi hL hC hM K)
  | 28, _, hk => exact gl_tsIn 1023 dL_law_33 (by rw [hk]; decide) (by rw [hk]; decide) (off := 990) (by rw [hk]; rfl) (by decide) (lw_op_lose hi hL hC hM K)
  | 29, _, hk => exact gl_tsIn 1046 dL_law_33 (by rw [hk]; decide) (by rw [hk]; decide) (off := 1013) (by rw [hk]; rfl) (by decide) (lw_op_put hi hL hC hM K)
  | 30, _, hk => exact gl_tsIn 1099 dL_law_33 (by rw [hk]; decide) (by rw [hk]; decide) (off := 1066) (by rw [hk]; rfl) (by decide) (lw_op_get hi hL hC hM K)
  | 31, _, hk => exact gl_tsIn 1142 dL_law_33 (by rw [hk]; decide) (by rw [hk]; decide) (off := 1109) (by rw [hk]; rfl) (by decide) (lw_op_copy hi hL hC hM K)
  | 32, _, hk => exact gl_tsIn 1205 dL_law_33 (by rw [hk]; decide) (by rw [hk]; decide) (off := 1172) (by rw [hk]; rfl) (by decide) (lw_op_write hi hL hC hM K)
  | 33, _, hk => exact gl_tsIn 1238 dL_law_33 (by rw [hk]; decide) (by rw [hk]; decide) (off := 1205) (by rw [hk]; rfl) (by decide) (lw_op_count hi hL hC hM K)
  | 34, _, hk => exact gl_tsIn 1261 dL_law_33 (by rw [hk]; decide) (by rw [hk]; decide) (off := 1228) (by rw [hk]; rfl) (by decide) (lw_op_digest hi hL hC hM K)
  | k + 35, h9, _ => exact absurd h9 (by omega)
theorem lw_cmp {Ln i : Nat} (hL : Ln ≤ 3072) (hi : i ≤ Ln) (h : ¬ nI Ln - 6 < nI i) : i + 6 ≤ Ln := by
  by_cases h6 : 6 ≤ Ln
  · have e : nI Ln - 6 = nI (Ln - 6) := by
      have e1 : nI (Ln - 6) + 6 = nI Ln := by
        have := nI_add (Ln - 6) 6
        rw [Nat.sub_add_cancel h6] at this
        exact this
      rw [← e1, Int32.add_sub_cancel]
    rw [e, nI_ltI (by omega) (by omega)] at h
    omega
  · have hb : Ln = 0 ∨ Ln = 1 ∨ Ln = 2 ∨ Ln = 3 ∨ Ln = 4 ∨ Ln = 5 := by omega
    have hn : nI Ln - 6 < 0 := by rcases hb with rfl | rfl | rfl | rfl | rfl | rfl <;> decide
    exact absurd (Int32.lt_of_lt_of_le hn (nI_pos' (by omega))) h
theorem lw_loop {Ln : Nat} {xs : Nat → Int32} (hL : Ln ≤ 3072) : ∀ (n i : Nat) (r : RS) (μ : gm_M), i ≤ Ln → Ln - i ≤ n → CA r μ → MA r μ → GoL Ln xs 18 (lwL i) [] μ := by
  intro n
  induction n with
  | zero =>
    intro i r μ hi hn hC hM
    refine gl_il3 dL_law_18 (gl_al0 dL_law_19 (gl_slen dL_law_20 (gl_bipush (v := 6) dL_law_21 (by decide) (gl_isub dL_law_23 (gl_cgt 1281 dL_law_24 rfl (fun _ => ?_) (fun h => ?_))))))
    · exact gl_ic1 dL_law_1281 (gl_ret dL_law_1282)
    · exact absurd (lw_cmp hL hi h) (by omega)
  | succ n ih =>
    intro i r μ hi hn hC hM
    refine gl_il3 dL_law_18 (gl_al0 dL_law_19 (gl_slen dL_law_20 (gl_bipush (v := 6) dL_law_21 (by decide) (gl_isub dL_law_23 (gl_cgt 1281 dL_law_24 rfl (fun _ => ?_) (fun h => ?_))))))
    · exact gl_ic1 dL_law_1281 (gl_ret dL_law_1282)
    · have h6 := lw_cmp hL hi h
      refine gl_al0 dL_law_27 (gl_il3 dL_law_28 (gl_sld (vp_in_nI (by omega) (by omega)) dL_law_29 (gl_bipush (v := 63) dL_law_30 (by decide) (gl_iand dL_law_32 ?_))))
      refine lw_switch h6 hL hC hM (fun r2 μ2 hC2 hM2 => ?_)
      refine gl_inc3 (v := nI (i + 6)) dL_law_1275 (nI_add i 6) rfl (gl_goto 18 dL_law_1278 rfl ?_)
      exact ih (i + 6) r2 μ2 (by omega) (by omega) hC2 hM2
