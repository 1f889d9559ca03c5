/-! THE START: the law from its entry to its loop -/
theorem start_K {s : State} {b : Nat} (hts : ∀ w ∈ lw_tbl, w.before #[Value.ref b] s = true) : ∃ (D : va_G) (kc : Nat → ClassId), va_K D vwCl (gm_tl kc) s := by
  obtain ⟨c0, i0, h0⟩ := u_known (C := RX0) (T := TX0) (N := 3) (n := 3) hts iiX0 (hts _ inX0)
  obtain ⟨c1, i1, h1⟩ := u_known (C := RX1) (T := TX1) (N := 10) (n := 10) hts iiX1 (hts _ inX1)
  obtain ⟨c2, i2, h2⟩ := u_known (C := RX2) (T := TX2) (N := 7) (n := 7) hts iiX2 (hts _ inX2)
  obtain ⟨c3, i3, h3⟩ := u_known (C := RX3) (T := TX3) (N := 2) (n := 2) hts iiX3 (hts _ inX3)
  obtain ⟨c4, i4, h4⟩ := u_known (C := RX4) (T := TX4) (N := 4) (n := 4) hts iiX4 (hts _ inX4)
  obtain ⟨c5, i5, h5⟩ := u_known (C := RX5) (T := TX5) (N := 11) (n := 11) hts iiX5 (hts _ inX5)
  obtain ⟨c6, i6, h6⟩ := u_known (C := RX6) (T := TX6) (N := 4) (n := 4) hts iiX6 (hts _ inX6)
  obtain ⟨c7, i7, h7⟩ := u_known (C := RX7) (T := TX7) (N := 6) (n := 6) hts iiX7 (hts _ inX7)
  obtain ⟨c8, i8, h8⟩ := u_known (C := RX8) (T := TX8) (N := 2) (n := 2) hts iiX8 (hts _ inX8)
  obtain ⟨c9, i9, h9⟩ := u_known (C := RX9) (T := TX9) (N := 15) (n := 15) hts iiX9 (hts _ inX9)
  obtain ⟨c10, i10, h10⟩ := u_known (C := RX10) (T := TX10) (N := 7) (n := 7) hts iiX10 (hts _ inX10)
  obtain ⟨c11, i11, h11⟩ := u_known (C := RX11) (T := TX11) (N := 7) (n := 7) hts iiX11 (hts _ inX11)
  obtain ⟨c12, i12, h12⟩ := u_known (C := RX12) (T := TX12) (N := 38) (n := 38) hts iiX12 (hts _ inX12)
  obtain ⟨cI, kI, pI, hI1, hI2, hI3⟩ := Cond.arrayClass_spec (hts _ gc_ac0)
  obtain ⟨cJ, kJ, pJ, hJ1, hJ2, hJ3⟩ := Cond.arrayClass_spec (hts _ gc_ac1)
  obtain ⟨cZ, kZ, pZ, hZ1, hZ2, hZ3⟩ := Cond.arrayClass_spec (hts _ gc_ac2)
  obtain ⟨pS, cS, kS, hS1, hS2, hS3, hS4, hS5⟩ := Cond.arrayOver_spec (hts _ gc_ao)
  refine ⟨(fun k => [c0, c1, c2, c3, c4, c5, c6, c7, c8, c9, c10, c11, c12].getD k 0, fun k => [i0, i1, i2, i3, i4, i5, i6, i7, i8, i9, i10, i11, i12].getD k (fun _ => 0)), fun k => [cI, cJ, cZ, cS].getD k 0, fun k q hq => ?_, fun k q hq => ?_⟩
  · match k, hq with
    | 0, hq => cases hq; exact h0
    | 1, hq => cases hq; exact h1
    | 2, hq => cases hq; exact h2
    | 3, hq => cases hq; exact h3
    | 4, hq => cases hq; exact h4
    | 5, hq => cases hq; exact h5
    | 6, hq => cases hq; exact h6
    | 7, hq => cases hq; exact h7
    | 8, hq => cases hq; exact h8
    | 9, hq => cases hq; exact h9
    | 10, hq => cases hq; exact h10
    | 11, hq => cases hq; exact h11
    | 12, hq => cases hq; exact h12
    | k + 13, hq => simp [vwCl] at hq
  · match k, hq with
    | 0, hq => cases hq; exact ⟨fun n z => ⟨fun k h => (by cases h), kI, hI2, pI, hI3⟩, hI1⟩
    | 1, hq => cases hq; exact ⟨fun n z => ⟨fun k h => (by cases h), kJ, hJ2, pJ, hJ3⟩, hJ1⟩
    | 2, hq => cases hq; exact ⟨fun n z => ⟨fun k h => (by cases h), kZ, hZ2, pZ, hZ3⟩, hZ1⟩
    | 3, hq => cases hq; exact ⟨fun n z => ⟨fun k h => (by cases h), kS, hS3, pS, hS4⟩, kS, pS, hS3, hS4, hS1, hS5⟩
    | k + 4, hq => simp [gm_tl] at hq
theorem start_N {s : State} {b : Nat} (hts : ∀ w ∈ lw_tbl, w.before #[Value.ref b] s = true) : gm_N s := by
  intro w hw hn
  have h := hts w hw
  cases w <;> first | exact va_Nw.of rfl h | (simp [gm_isN] at hn; done)
theorem start_l1 : Cond.laysStatic "CheeseEar" "DIGEST_WARM_NIGHTS" "[I" ∈ lw_tbl := List.mem_of_getElem? (i := 1013) (by decide +kernel : lw_tbl[1013]? = some (Cond.laysStatic "CheeseEar" "DIGEST_WARM_NIGHTS" "[I"))
theorem start_l2 : Cond.laysStatic "CheeseEar" "DIGEST_AT_NIGHTS" "[I" ∈ lw_tbl := List.mem_of_getElem? (i := 1021) (by decide +kernel : lw_tbl[1021]? = some (Cond.laysStatic "CheeseEar" "DIGEST_AT_NIGHTS" "[I"))
theorem start_S1 {s : State} {b : Nat} (hts : ∀ w ∈ lw_tbl, w.before #[Value.ref b] s = true) (hgv : (Jvm.Cond.and given_1 narrow_1).before #[Value.ref b] s = true) : ∃ t : Nat, va_Z "CheeseEar" "DIGEST_WARM_NIGHTS" "[I" (.ref t) (fun q => s.heap.size ≤ q) s s.heap ∧ va_T .int t 4 (fun j => .int (gm_W1 j)) (fun q => s.heap.size ≤ q) s s.heap := by
  have hs := flat_of_before _ hgv
  have hA : ∀ a : Nat, a < s.heap.size → ¬ (fun q => s.heap.size ≤ q) a := fun a h => Nat.not_le.mpr h
  obtain ⟨t, h1, h2⟩ := va_Tof (tm := (Term.static "CheeseEar" "DIGEST_WARM_NIGHTS" "[I")) (ty := .int) (N := 4) (f := fun j => .int (gm_W1 j)) (A := fun q => s.heap.size ≤ q) (by decide) (hs (Cond.arrayOf (Term.static "CheeseEar" "DIGEST_WARM_NIGHTS" "[I") .int) (by decide +kernel)) (va_eqt (hs (Cond.eq (.length (Term.static "CheeseEar" "DIGEST_WARM_NIGHTS" "[I")) (.int 4)) (by decide +kernel))) (fun j hj => by
    match j, hj with
    | 0, _ => exact va_eqt (hs (Cond.eq (.elem (Term.static "CheeseEar" "DIGEST_WARM_NIGHTS" "[I") (.int 0)) (.int 0)) (by decide +kernel))
    | 1, _ => exact va_eqt (hs (Cond.eq (.elem (Term.static "CheeseEar" "DIGEST_WARM_NIGHTS" "[I") (.int 1)) (.int 9)) (by decide +kernel))
    | 2, _ => exact va_eqt (hs (Cond.eq (.elem (Term.static "CheeseEar" "DIGEST_WARM_NIGHTS" "[I") (.int 2)) (.int 19)) (by decide +kernel))
    | 3, _ => exact va_eqt (hs (Cond.eq (.elem (Term.static "CheeseEar" "DIGEST_WARM_NIGHTS" "[I") (.int 3)) (.int 29)) (by decide +kernel))) hA
  exact ⟨t, va_Zref (hts _ start_l1) (hts _ itX11) h1 hA, h2⟩
theorem start_S2 {s : State} {b : Nat} (hts : ∀ w ∈ lw_tbl, w.before #[Value.ref b] s = true) (hgv : (Jvm.Cond.and given_1 narrow_1).before #[Value.ref b] s = true) : ∃ t : Nat, va_Z "CheeseEar" "DIGEST_AT_NIGHTS" "[I" (.ref t) (fun q => s.heap.size ≤ q) s s.heap ∧ va_T .int t 4 (fun j => .int (gm_W2 j)) (fun q => s.heap.size ≤ q) s s.heap := by
  have hs := flat_of_before _ hgv
  have hA : ∀ a : Nat, a < s.heap.size → ¬ (fun q => s.heap.size ≤ q) a := fun a h => Nat.not_le.mpr h
  obtain ⟨t, h1, h2⟩ := va_Tof (tm := (Term.static "CheeseEar" "DIGEST_AT_NIGHTS" "[I")) (ty := .int) (N := 4) (f := fun j => .int (gm_W2 j)) (A := fun q => s.heap.size ≤ q) (by decide) (hs (Cond.arrayOf (Term.static "CheeseEar" "DIGEST_AT_NIGHTS" "[I") .int) (by decide +kernel)) (va_eqt (hs (Cond.eq (.length (Term.static "CheeseEar" "DIGEST_AT_NIGHTS" "[I")) (.int 4)) (by decide +kernel))) (fun j hj => by
    match j, hj with
    | 0, _ => exact va_eqt (hs (Cond.eq (.elem (Term.static "CheeseEar" "DIGEST_AT_NIGHTS" "[I") (.int 0)) (.int 0)) (by decide +kernel))
    | 1, _ => exact va_eqt (hs (Cond.eq (.elem (Term.static "CheeseEar" "DIGEST_AT_NIGHTS" "[I") (.int 1)) (.int 5)) (by decide +kernel))
    | 2, _ => exact va_eqt (hs (Cond.eq (.elem (Term.static "CheeseEar" "DIGEST_AT_NIGHTS" "[I") (.int 2)) (.int 12)) (by decide +kernel))
    | 3, _ => exact va_eqt (hs (Cond.eq (.elem (Term.static "CheeseEar" "DIGEST_AT_NIGHTS" "[I") (.int 3)) (.int 29)) (by decide +kernel))) hA
  exact ⟨t, va_Zref (hts _ start_l2) (hts _ itX11) h1 hA, h2⟩
theorem whole_start {p : Program} {e : Env} {s : State} {m : MethodId} {below : List Frame} {meth : Method} {c : Code} (l : Launch) {b L : Nat} {xs : Nat → Int32} (hL : L ≤ 3072) (C0 : lw_At p s m meth c b L xs) : W p l e room_1 s m #[Value.ref b] below meth c s.heap [] 0 0 (lw_Z below #[Value.ref b] s) (entryFrame m ([Value.ref b] : List Value).toArray 4) := by
  obtain ⟨hx, hb, hr, hml, hown, hts, hX, hbl, hlocks, hgv⟩ := id C0
  have hg : ∀ w ∈ gm_tb, w.before #[Value.ref b] s = true := fun w hw => hts w (List.mem_filter.mp hw).1
  have hA : ∀ q : Nat, s.heap.size ≤ q → (fun q : Nat => s.heap.size ≤ q) q := fun _ h => h
  obtain ⟨D, kc, hK⟩ := start_K hts
  have hN := start_N hts
  have hO : va_AO "CheeseEar$Sheet" s := va_AO.of (hts _ gc_ao)
  obtain ⟨t1, hZ1, hT1⟩ := start_S1 hts hgv
  obtain ⟨t2v, hZ2, hT2⟩ := start_S2 hts hgv
  have hS : va_S (fun q : Nat => s.heap.size ≤ q) s.heap s.heap [] := va_S.rf
  have hP : va_P D vwCl [] s.heap := fun k q h => by simp at h
  have hD : va_D (fun q : Nat => s.heap.size ≤ q) [] := ⟨fun i j p q h => by simp at h, fun k q h => by simp at h⟩
  have hl := lv_entry ([.ref b]) (n := 4) (Nat.le_of_ble_eq_true rfl)
  rw [lg_entry_eq]
  generalize (lg_sl ([.ref b]) ++ List.replicate (4 - (lg_sl ([.ref b])).length) Slot.unset).toArray = ls at hl ⊢
  have hl : lv_has ls 4 [(0, .ref b)] := hl
  have hU : ∀ {ws : va_W} {H : Heap} {locs : List Loc}, va_P D vwCl ws H → va_D (fun q : Nat => s.heap.size ≤ q) ws → va_S (fun q : Nat => s.heap.size ≤ q) s.heap H locs → ∀ U : State, U.heap = H → s.WarmedH U.vm → gc_B kc D (fun q : Nat => s.heap.size ≤ q) ws U := by
    intro ws H locs hP hD hS U hU hW
    exact ⟨by rw [hU]; exact hP, va_K.moved hW.alike hK, hD, fun q h => Nat.le_trans hS.1 (by rw [← hU]; exact h), hN.warm hW, hO.moved hW.alike⟩
  refine va_new (ci := 11) (fs := fsX11) (C := RX11) (T := TX11) (N := 7) hx hb hts iiX11 tyX11 tyX11_ok hown (hts _ clL_7) (hts _ inX11) (hts _ itX11) hK hP hD hS hA rfl dfX11 (Nat.le_of_ble_eq_true rfl) (Nat.le_of_ble_eq_true rfl) dL_law_0 (fun a0 H hP hD hS => ?_)
  refine W.widen (k := 1) (n := 7) (by omega) (by omega) ?_
  refine lv_dup hx hb dL_law_3 rfl ?_
  refine va_callv (va_runI (As := []) (rest := [.ref a0]) ⟨hx, hb, hml, hown, hg⟩ (nX11 (kc := kc) (a0 := a0) l D (fun q : Nat => s.heap.size ≤ q)) ⟨callB_of 0 hg (gm_goodIn mcX11_init.2.1) rfl rfl rfl (gm_hw hg mcX11_init.1 rfl) (gm_hw hg kL_9 rfl) mcX11_init.2.2.1 ⟨Nat.le_of_ble_eq_true rfl, Nat.le_of_ble_eq_true rfl⟩, rfl, gm_hw hg miX11_init rfl⟩ ⟨gc_blind, fun U hU9 hW => ⟨rfl, hU hP hD hS U hU9 hW⟩⟩ rfl rfl hl.1 rfl (lv_room (Nat.le_of_ble_eq_true rfl)) dL_law_4 ⟨Nat.le_of_ble_eq_true rfl, Nat.le_of_ble_eq_true rfl⟩) hS (fun q _ h => h) (fun q h => h) (fun ws1 t H1 locs1 ht hvm hp hB _ _ hS => ?_)
  obtain ⟨a1, a2, a3, a4, a5, a6, a7, a8, a9, a10, a11, a12, a13, a14, a15, a16, a17, a18, a19, a20, a21, a22, a23, a24, a25, a26, a27, a28, a29, a30, a31, a32, a33, a34, a35, a36, a37, a38, a39, a40, a41, a42, a43, a44, a45, a46, a47, a48, a49, a50, a51, rfl⟩ := hp
  have hP := hB.1
  rw [ht] at hP
  have hD := hB.2.1
  refine W.widen (k := 52) (n := 2216) (by omega) (by omega) ?_
  refine lv_astore_n (lv' := [(1, .ref a0), (0, .ref b)]) hx hb dL_law_7 rfl hl (by decide) rfl (fun ls hl => ?_)
  refine va_new (ci := 12) (fs := fsX12) (C := RX12) (T := TX12) (N := 38) hx hb hts iiX12 tyX12 tyX12_ok hown (hts _ clL_10) (hts _ inX12) (hts _ itX12) hK hP hD hS hA rfl dfX12 (Nat.le_of_ble_eq_true rfl) (Nat.le_of_ble_eq_true rfl) dL_law_8 (fun b0 H hP hD hS => ?_)
  refine W.widen (k := 53) (n := 2254) (by omega) (by omega) ?_
  refine lv_dup hx hb dL_law_11 rfl ?_
  have he : (earW kc a0 a1 a2 a3 a4 a5 a6 a7 a8 a9 a10 a11 a12 a13 a14 a15 a16 a17 a18 a19 a20 a21 a22 a23 a24 a25 a26 a27 a28 a29 a30 a31 a32 a33 a34 a35 a36 a37 a38 a39 a40 a41 a42 a43 a44 a45 a46 a47 a48 a49 a50 a51 ++ [(b0, .inr (12, fsX12))])[52]? = some (b0, .inr (12, fsX12)) := rfl
  refine va_callv (va_runI (As := []) (rest := [.ref b0]) ⟨hx, hb, hml, hown, hg⟩ (nX12 (kc := kc) he l D (fun q : Nat => s.heap.size ≤ q)) ⟨callB_of 0 hg (gm_goodIn mcX12_init.2.1) rfl rfl rfl (gm_hw hg mcX12_init.1 rfl) (gm_hw hg kL_12 rfl) mcX12_init.2.2.1 ⟨Nat.le_of_ble_eq_true rfl, Nat.le_of_ble_eq_true rfl⟩, rfl, gm_hw hg miX12_init rfl⟩ ⟨gc_blind, fun U hU9 hW => ⟨rfl, hU hP hD hS U hU9 hW⟩⟩ rfl rfl hl.1 rfl (lv_room (Nat.le_of_ble_eq_true rfl)) dL_law_12 ⟨Nat.le_of_ble_eq_true rfl, Nat.le_of_ble_eq_true rfl⟩) hS (fun q _ h => h) (fun q h => h) (fun ws2 t2 H2 locs2 ht2 hvm2 hp2 hB2 _ _ hS => ?_)
  obtain ⟨b1, b2, b3, b4, b5, b6, b7, b8, b9, b10, b11, b12, b13, b14, b15, b16, b17, b18, b19, b20, b21, b22, b23, b24, b25, b26, b27, b28, rfl⟩ := hp2
  have hP := hB2.1
  rw [ht2] at hP
  have hP : va_P D vwCl (dawnW kc a0 a1 a2 a3 a4 a5 a6 a7 a8 a9 a10 a11 a12 a13 a14 a15 a16 a17 a18 a19 a20 a21 a22 a23 a24 a25 a26 a27 a28 a29 a30 a31 a32 a33 a34 a35 a36 a37 a38 a39 a40 a41 a42 a43 a44 a45 a46 a47 a48 a49 a50 a51 b0 b1 b2 b3 b4 b5 b6 b7 b8 b9 b10 b11 b12 b13 b14 b15 b16 b17 b18 b19 b20 b21 b22 b23 b24 b25 b26 b27 b28) H2 := hP
  have hD : va_D (fun q : Nat => s.heap.size ≤ q) (dawnW kc a0 a1 a2 a3 a4 a5 a6 a7 a8 a9 a10 a11 a12 a13 a14 a15 a16 a17 a18 a19 a20 a21 a22 a23 a24 a25 a26 a27 a28 a29 a30 a31 a32 a33 a34 a35 a36 a37 a38 a39 a40 a41 a42 a43 a44 a45 a46 a47 a48 a49 a50 a51 b0 b1 b2 b3 b4 b5 b6 b7 b8 b9 b10 b11 b12 b13 b14 b15 b16 b17 b18 b19 b20 b21 b22 b23 b24 b25 b26 b27 b28) := hB2.2.1
  refine W.widen (k := 600000) (n := 7302250) (by omega) (by omega) ?_
  refine lv_astore_n (lv' := [(2, .ref b0), (1, .ref a0), (0, .ref b)]) hx hb dL_law_15 rfl hl (by decide) rfl (fun ls hl => ?_)
  refine lv_iconst (v := 0) hx hb dL_law_16 (by decide) ?_
  refine lv_istore_n (lv' := [(3, .int 0), (2, .ref b0), (1, .ref a0), (0, .ref b)]) hx hb dL_law_17 rfl hl (by decide) rfl (fun ls hl => ?_)
  have hAd := dawn_B (t1 := t1) (t2 := t2v) (b := b) hD
  have hn : ∀ q, gm_A (dawnA a0 a1 a2 a3 a4 a5 a6 a7 a8 a9 a10 a11 a12 a13 a14 a15 a16 a17 a18 a19 a20 a21 a22 a23 a24 a25 a26 a27 a28 a29 a30 a31 a32 a33 a34 a35 a36 a37 a38 a39 a40 a41 a42 a43 a44 a45 a46 a47 a48 a49 a50 a51 b0 b1 b2 b3 b4 b5 b6 b7 b8 b9 b10 b11 b12 b13 b14 b15 b16 b17 b18 b19 b20 b21 b22 b23 b24 b25 b26 b27 b28 t1 t2v b) q → s.heap.size ≤ q := fun q ⟨k, h1, h2⟩ => h2 ▸ hAd k h1
  exact lw_loop hL L 0 dawnR dawnM (Nat.zero_le _) (by omega) dawn_C dawn_M l p e s m below meth c D (dawnA a0 a1 a2 a3 a4 a5 a6 a7 a8 a9 a10 a11 a12 a13 a14 a15 a16 a17 a18 a19 a20 a21 a22 a23 a24 a25 a26 a27 a28 a29 a30 a31 a32 a33 a34 a35 a36 a37 a38 a39 a40 a41 a42 a43 a44 a45 a46 a47 a48 a49 a50 a51 b0 b1 b2 b3 b4 b5 b6 b7 b8 b9 b10 b11 b12 b13 b14 b15 b16 b17 b18 b19 b20 b21 b22 b23 b24 b25 b26 b27 b28 t1 t2v b) kc H2 locs2 ls ⟨hx, hb, hr, hml, hown, hg, hlocks, hK, dawn_inj hD, ⟨hZ1.narrow hn, hT1.narrow hn, hZ2.narrow hn, hT2.narrow hn⟩, hN, hX, hbl, hAd⟩ (dawn_P hP) hS (lv_sub hl [3, 2, 1, 0] rfl)
