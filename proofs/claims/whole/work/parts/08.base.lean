/-! BASE: the class's own small statics, Math, Arrays, Integer -/
theorem go_putZ1 {y : MethodName} {cc : ByteArray} {nL : Nat} {ret : Option FieldType} {d pc : Nat} {L : List (Option Value)} {st : List Value} {μ : gm_M} {Post : Option Value → gm_M → Prop} {c0 k idx ci : Nat} {ks : List Nat} (hf : gm_fl y.cls idx ci k false .boolean) (hs : gm_sh c0 = some (.inr (ci, ks))) (hk : ks[k]? = some 0) (dd : decode cc pc = .ok (.putfield idx, 3)) (g : Go y cc nL ret d (pc + 3) L st (gm_I μ c0 k 1) Post) : Go y cc nL ret d pc L (.int 1 :: .ref c0 :: st) μ Post := go_putZ (b := true) hf hs hk dd g
theorem go_putZ0 {y : MethodName} {cc : ByteArray} {nL : Nat} {ret : Option FieldType} {d pc : Nat} {L : List (Option Value)} {st : List Value} {μ : gm_M} {Post : Option Value → gm_M → Prop} {c0 k idx ci : Nat} {ks : List Nat} (hf : gm_fl y.cls idx ci k false .boolean) (hs : gm_sh c0 = some (.inr (ci, ks))) (hk : ks[k]? = some 0) (dd : decode cc pc = .ok (.putfield idx, 3)) (g : Go y cc nL ret d (pc + 3) L st (gm_I μ c0 k 0) Post) : Go y cc nL ret d pc L (.int 0 :: .ref c0 :: st) μ Post := go_putZ (b := false) hf hs hk dd g
/-- the item of a row, or another number -/
def gi (f : Nat → Int32) (n : Nat) (i x : Int32) : Int32 := if ¬ i < 0 ∧ ¬ nI n ≤ i then f i.toNatClampNeg else x
theorem gi_nI {f : Nat → Int32} {n j : Nat} (h : j < n) (hn : n < 2 ^ 31) (x : Int32) : gi f n (nI j) x = f j := by
  unfold gi
  rw [if_pos ⟨nI_pos (by omega), nI_ge h hn⟩, nI_clamp (by omega)]
theorem gi_neg {f : Nat → Int32} {n : Nat} {i : Int32} (h : i < 0) (x : Int32) : gi f n i x = x := by
  unfold gi
  rw [if_neg (fun q => q.1 h)]
theorem gi_ge {f : Nat → Int32} {n : Nat} {i : Int32} (h : nI n ≤ i) (x : Int32) : gi f n i x = x := by
  unfold gi
  rw [if_neg (fun q => q.2 h)]
def gon (bits place : Int32) : Bool := decide (¬ place < 0) && (decide (¬ 31 ≤ place) && decide (¬ (bits >>> (place &&& 31)) &&& 1 = 0))
def gnight (n : Int32) : Bool := decide (¬ n < 0) && decide (¬ 30 ≤ n)
def gm_fill (μ : gm_M) (c n : Nat) (v : Int32) : gm_M := gm_aI μ c (fun j => if j < n then v else μ.1 c j)
def gm_filJ (μ : gm_M) (c n : Nat) (v : Int64) : gm_M := gm_aJ μ c (fun j => if j < n then v else μ.2 c j)
theorem gm_fill_0 (μ : gm_M) (c : Nat) (v : Int32) : gm_fill μ c 0 v = μ := by
  unfold gm_fill gm_aI
  refine Prod.ext ?_ rfl
  funext a
  by_cases h : a = c
  · subst h; simp
  · simp [h]
theorem gm_filJ_0 (μ : gm_M) (c : Nat) (v : Int64) : gm_filJ μ c 0 v = μ := by
  unfold gm_filJ gm_aJ
  refine Prod.ext rfl ?_
  funext a
  by_cases h : a = c
  · subst h; simp
  · simp [h]
theorem gm_fill_s (μ : gm_M) (c i : Nat) (v : Int32) : gm_I (gm_fill μ c i v) c i v = gm_fill μ c (i + 1) v := by
  unfold gm_fill gm_aI gm_I upd
  refine Prod.ext ?_ rfl
  funext a
  by_cases h : a = c
  · subst h
    funext j
    simp only [if_true]
    by_cases h1 : j = i
    · subst h1; simp
    · by_cases h2 : j < i
      · simp [h1, h2, Nat.lt_succ_of_lt h2]
      · have h3 : ¬ j < i + 1 := by omega
        simp [h1, h2, h3]
  · simp [h]
theorem gm_filJ_s (μ : gm_M) (c i : Nat) (v : Int64) : gm_J (gm_filJ μ c i v) c i v = gm_filJ μ c (i + 1) v := by
  unfold gm_filJ gm_aJ gm_J vp_updL
  refine Prod.ext rfl ?_
  funext a
  by_cases h : a = c
  · subst h
    funext j
    simp only [if_true]
    by_cases h1 : j = i
    · subst h1; simp
    · by_cases h2 : j < i
      · simp [h1, h2, Nat.lt_succ_of_lt h2]
      · have h3 : ¬ j < i + 1 := by omega
        simp [h1, h2, h3]
  · simp [h]
theorem gm_mx1 : Cond.static Lib.Math.max.name ∈ lw_tbl := by decide +kernel
theorem gm_mx2 : Cond.initialized "java/lang/Math" ∈ lw_tbl := by decide +kernel
theorem gm_mx3 : Cond.code Lib.Math.max.name Lib.Math.max.code 2 (some .int) ∈ lw_tbl := by decide +kernel
theorem gm_mn1 : Cond.static Lib.Math.min.name ∈ lw_tbl := by decide +kernel
theorem gm_mn3 : Cond.code Lib.Math.min.name Lib.Math.min.code 2 (some .int) ∈ lw_tbl := by decide +kernel
theorem go_max {y : MethodName} {cc : ByteArray} {nL : Nat} {ret : Option FieldType} {d pc : Nat} {L : List (Option Value)} {st : List Value} {μ : gm_M} {Post : Option Value → gm_M → Prop} {idx : Nat} {x z : Int32} (hk : Cond.methodLink y.cls idx Lib.Math.max.name ∈ lw_tbl) (dd : decode cc pc = .ok (.invokestatic idx, 3)) (hd : Nat.ble 1 d = true) (hr : Nat.ble ((st.map fun v => v.category).sum) 8 = true) (g : Go y cc nL ret d (pc + 3) L (.int (if x < z then z else x) :: st) μ Post) : Go y cc nL ret d pc L (.int z :: .int x :: st) μ Post := by
  intro l p e s m args below meth c D ad kc H locs ls X hP hS hl
  have hd1 : 1 ≤ d := Nat.le_of_ble_eq_true hd
  refine va_mmax X.1 X.2.1 (X.2.2.2.1.trans hl.1.symm) X.2.2.2.2.1 (gm_hw X.2.2.2.2.2.1 hk rfl) (gm_hw X.2.2.2.2.2.1 gm_mx1 rfl) (gm_hw X.2.2.2.2.2.1 gm_mx2 rfl) (gm_hw X.2.2.2.2.2.1 gm_mx3 rfl) hd1 ?_ (Nat.zero_le _) (Nat.zero_le _) dd (g l p e s m args below meth c D ad kc H locs ls X hP hS hl)
  rw [gm_sum]
  have hr := Nat.le_of_ble_eq_true hr
  show _ ≤ 40 * d
  omega
theorem go_min {y : MethodName} {cc : ByteArray} {nL : Nat} {ret : Option FieldType} {d pc : Nat} {L : List (Option Value)} {st : List Value} {μ : gm_M} {Post : Option Value → gm_M → Prop} {idx : Nat} {x z : Int32} (hk : Cond.methodLink y.cls idx Lib.Math.min.name ∈ lw_tbl) (dd : decode cc pc = .ok (.invokestatic idx, 3)) (hd : Nat.ble 1 d = true) (hr : Nat.ble ((st.map fun v => v.category).sum) 8 = true) (g : Go y cc nL ret d (pc + 3) L (.int (if z < x then z else x) :: st) μ Post) : Go y cc nL ret d pc L (.int z :: .int x :: st) μ Post := by
  intro l p e s m args below meth c D ad kc H locs ls X hP hS hl
  have hd1 : 1 ≤ d := Nat.le_of_ble_eq_true hd
  refine va_mmin X.1 X.2.1 (X.2.2.2.1.trans hl.1.symm) X.2.2.2.2.1 (gm_hw X.2.2.2.2.2.1 hk rfl) (gm_hw X.2.2.2.2.2.1 gm_mn1 rfl) (gm_hw X.2.2.2.2.2.1 gm_mx2 rfl) (gm_hw X.2.2.2.2.2.1 gm_mn3 rfl) hd1 ?_ (Nat.zero_le _) (Nat.zero_le _) dd ?_
  · rw [gm_sum]
    have hr := Nat.le_of_ble_eq_true hr
    show _ ≤ 40 * d
    omega
  · exact g l p e s m args below meth c D ad kc H locs ls X hP hS hl
set_option maxRecDepth 100000 in
set_option maxHeartbeats 400000 in
theorem sX11_itemOr {c n : Nat} (hs : gm_sh c = some (.inl (0, n))) (hn : n < 2 ^ 31) (i x : Int32) (μ : gm_M) : Ret yX11_itemOr cX11_itemOr 3 (some .int) 0 [(.ref c), (.int i), (.int x)] μ (some (.int (gi (μ.1 c) n i x))) μ := by
  refine Sat.of (L := [some (.ref c), some (.int i), some (.int x)]) (by decide) (fun _ => rfl) (fun _ => rfl) ?_
  refine go_il1 dX11_itemOr_0 ?_
  refine go_iflt 16 dX11_itemOr_1 (by decide) (fun h1 => ?_) (fun h1 => ?_)
  · refine go_il2 dX11_itemOr_16 ?_
    refine go_iret dX11_itemOr_17 ?_
    exact ⟨by simp [gi, h1], rfl⟩
  · refine go_il1 dX11_itemOr_4 (go_al0 dX11_itemOr_5 (go_alenI hs dX11_itemOr_6 ?_))
    refine go_cge 16 dX11_itemOr_7 (by decide) (fun h7 => ?_) (fun h7 => ?_)
    · refine go_il2 dX11_itemOr_16 ?_
      refine go_iret dX11_itemOr_17 ?_
      exact ⟨by simp [gi, h1, h7], rfl⟩
    · refine go_al0 dX11_itemOr_10 (go_il1 dX11_itemOr_11 (go_iald hs (gm_in h1 h7 hn) dX11_itemOr_12 (go_goto 17 dX11_itemOr_13 (by decide) ?_)))
      refine go_iret dX11_itemOr_17 ?_
      exact ⟨by simp [gi, h1, h7], rfl⟩

set_option maxRecDepth 100000 in
set_option maxHeartbeats 400000 in
theorem sX11_isOn (b p : Int32) (μ : gm_M) : Ret yX11_isOn cX11_isOn 2 (some .boolean) 0 [(.int b), (.int p)] μ (some (.int (gb (gon b p)))) μ := by
  refine Sat.of (L := [some (.int b), some (.int p)]) (by decide) (fun _ => rfl) (fun _ => rfl) ?_
  refine go_il1 dX11_isOn_0 ?_
  refine go_iflt 22 dX11_isOn_1 (by decide) (fun h1 => ?_) (fun h1 => ?_)
  · refine go_ic0 dX11_isOn_22 ?_
    refine go_zret dX11_isOn_23 rfl ?_
    exact ⟨by simp [gon, gb, h1], rfl⟩
  · refine go_il1 dX11_isOn_4 (go_bipush (v := 31) dX11_isOn_5 (by decide) ?_)
    refine go_cge 22 dX11_isOn_7 (by decide) (fun h7 => ?_) (fun h7 => ?_)
    · refine go_ic0 dX11_isOn_22 ?_
      refine go_zret dX11_isOn_23 rfl ?_
      exact ⟨by simp [gon, gb, h1, h7], rfl⟩
    · refine go_il0 dX11_isOn_10 (go_il1 dX11_isOn_11 (go_ishr dX11_isOn_12 (go_ic1 dX11_isOn_13 (go_iand dX11_isOn_14 ?_))))
      refine go_ifeq 22 dX11_isOn_15 (by decide) (fun h15 => ?_) (fun h15 => ?_)
      · refine go_ic0 dX11_isOn_22 ?_
        refine go_zret dX11_isOn_23 rfl ?_
        exact ⟨by simp [gon, gb, h1, h7, h15], rfl⟩
      · refine go_ic1 dX11_isOn_18 (go_goto 23 dX11_isOn_19 (by decide) ?_)
        refine go_zret dX11_isOn_23 rfl ?_
        exact ⟨by simp [gon, gb, h1, h7, h15], rfl⟩

set_option maxRecDepth 100000 in
set_option maxHeartbeats 400000 in
theorem sX11_isNight (n : Int32) (μ : gm_M) : Ret yX11_isNight cX11_isNight 1 (some .boolean) 0 [(.int n)] μ (some (.int (gb (gnight n)))) μ := by
  refine Sat.of (L := [some (.int n)]) (by decide) (fun _ => rfl) (fun _ => rfl) ?_
  refine go_il0 dX11_isNight_0 ?_
  refine go_iflt 14 dX11_isNight_1 (by decide) (fun h1 => ?_) (fun h1 => ?_)
  · refine go_ic0 dX11_isNight_14 ?_
    refine go_zret dX11_isNight_15 rfl ?_
    exact ⟨by simp [gnight, gb, h1], rfl⟩
  · refine go_il0 dX11_isNight_4 (go_bipush (v := 30) dX11_isNight_5 (by decide) ?_)
    refine go_cge 14 dX11_isNight_7 (by decide) (fun h7 => ?_) (fun h7 => ?_)
    · refine go_ic0 dX11_isNight_14 ?_
      refine go_zret dX11_isNight_15 rfl ?_
      exact ⟨by simp [gnight, gb, h1, h7], rfl⟩
    · refine go_ic1 dX11_isNight_10 (go_goto 15 dX11_isNight_11 (by decide) ?_)
      refine go_zret dX11_isNight_15 rfl ?_
      exact ⟨by simp [gnight, gb, h1, h7], rfl⟩

set_option maxRecDepth 100000 in
set_option maxHeartbeats 400000 in
theorem sX11_isText (n : Int32) (μ : gm_M) : Ret yX11_isText cX11_isText 1 (some .boolean) 0 [(.int n)] μ (some (.int (gb (decide (n = 0) || decide (n = 1))))) μ := by
  refine Sat.of (L := [some (.int n)]) (by decide) (fun _ => rfl) (fun _ => rfl) ?_
  refine go_il0 dX11_isText_0 ?_
  refine go_ifeq 9 dX11_isText_1 (by decide) (fun h1 => ?_) (fun h1 => ?_)
  · refine go_ic1 dX11_isText_9 (go_goto 14 dX11_isText_10 (by decide) ?_)
    refine go_zret dX11_isText_14 rfl ?_
    exact ⟨by simp [gb, h1], rfl⟩
  · refine go_il0 dX11_isText_4 (go_ic1 dX11_isText_5 ?_)
    refine go_cne 13 dX11_isText_6 (by decide) (fun h6 => ?_) (fun h6 => ?_)
    · refine go_ic0 dX11_isText_13 ?_
      refine go_zret dX11_isText_14 rfl ?_
      exact ⟨by simp [gb, h1, h6], rfl⟩
    · refine go_ic1 dX11_isText_9 (go_goto 14 dX11_isText_10 (by decide) ?_)
      refine go_zret dX11_isText_14 rfl ?_
      exact ⟨by simp [gb, h1, h6], rfl⟩

set_option maxRecDepth 100000 in
set_option maxHeartbeats 400000 in
theorem sX11_isForm (n : Int32) (μ : gm_M) : Ret yX11_isForm cX11_isForm 1 (some .boolean) 0 [(.int n)] μ (some (.int (gb (decide (¬ n < 0) && decide (¬ 3 ≤ n))))) μ := by
  refine Sat.of (L := [some (.int n)]) (by decide) (fun _ => rfl) (fun _ => rfl) ?_
  refine go_il0 dX11_isForm_0 ?_
  refine go_iflt 13 dX11_isForm_1 (by decide) (fun h1 => ?_) (fun h1 => ?_)
  · refine go_ic0 dX11_isForm_13 ?_
    refine go_zret dX11_isForm_14 rfl ?_
    exact ⟨by simp [gb, h1], rfl⟩
  · refine go_il0 dX11_isForm_4 (go_ic3 dX11_isForm_5 ?_)
    refine go_cge 13 dX11_isForm_6 (by decide) (fun h6 => ?_) (fun h6 => ?_)
    · refine go_ic0 dX11_isForm_13 ?_
      refine go_zret dX11_isForm_14 rfl ?_
      exact ⟨by simp [gb, h1, h6], rfl⟩
    · refine go_ic1 dX11_isForm_9 (go_goto 14 dX11_isForm_10 (by decide) ?_)
      refine go_zret dX11_isForm_14 rfl ?_
      exact ⟨by simp [gb, h1, h6], rfl⟩

set_option maxRecDepth 100000 in
set_option maxHeartbeats 400000 in
theorem sX11_isSheet (n : Int32) (μ : gm_M) : Ret yX11_isSheet cX11_isSheet 2 (some .boolean) 0 [(.ref 0), (.int n)] μ (some (.int (gb (decide (¬ n < 0) && decide (¬ 4 ≤ n))))) μ := by
  refine Sat.of (L := [some (.ref 0), some (.int n)]) (by decide) (fun _ => rfl) (fun _ => rfl) ?_
  refine go_il1 dX11_isSheet_0 ?_
  refine go_iflt 17 dX11_isSheet_1 (by decide) (fun h1 => ?_) (fun h1 => ?_)
  · refine go_ic0 dX11_isSheet_17 ?_
    refine go_zret dX11_isSheet_18 rfl ?_
    have h4 : nI 4 = 4 := by decide
    exact ⟨by simp_all [gb], rfl⟩
  · refine go_il1 dX11_isSheet_4 (go_al0 dX11_isSheet_5 (go_getR (j := 43) fX11_48 rfl rfl dX11_isSheet_6 (go_alenR rfl dX11_isSheet_9 ?_)))
    refine go_cge 17 dX11_isSheet_10 (by decide) (fun h10 => ?_) (fun h10 => ?_)
    · refine go_ic0 dX11_isSheet_17 ?_
      refine go_zret dX11_isSheet_18 rfl ?_
      have h4 : nI 4 = 4 := by decide
      exact ⟨by simp_all [gb], rfl⟩
    · refine go_ic1 dX11_isSheet_13 (go_goto 18 dX11_isSheet_14 (by decide) ?_)
      refine go_zret dX11_isSheet_18 rfl ?_
      have h4 : nI 4 = 4 := by decide
      exact ⟨by simp_all [gb], rfl⟩

set_option maxRecDepth 100000 in
set_option maxHeartbeats 400000 in
theorem sX11_found (n : Int32) (μ : gm_M) : Ret yX11_found cX11_found 2 (some .int) 0 [(.ref 0), (.int n)] μ (some (.int (-10 - n))) (gm_I μ 0 6 n) := by
  refine Sat.of (L := [some (.ref 0), some (.int n)]) (by decide) (fun _ => rfl) (fun _ => rfl) ?_
  refine go_al0 dX11_found_0 (go_il1 dX11_found_1 (go_putI fX11_322 rfl rfl dX11_found_2 (go_bipush (v := -10) dX11_found_5 (by decide) (go_il1 dX11_found_7 (go_isub dX11_found_8 ?_)))))
  refine go_iret dX11_found_9 ?_
  exact ⟨rfl, rfl⟩

def gu (x z : Int32) : Int32 := (x.toUInt32 >>> (z.toUInt32 &&& Int32.toUInt32 31)).toInt32
def gbc (x : Int32) : Int32 :=
  let a := x - (gu x 1 &&& 1431655765)
  let b := (a &&& 858993459) + (gu a 2 &&& 858993459)
  let c := (b + gu b 4) &&& 252645135
  let e := c + gu c 8
  let f := e + gu e 16
  f &&& 63
set_option maxRecDepth 100000 in
set_option maxHeartbeats 400000 in
theorem sJ6_bitCount (x : Int32) (μ : gm_M) : Ret yJ6_bitCount_0f7a4 cJ6_bitCount_0f7a4 1 (some .int) 0 [(.int x)] μ (some (.int (gbc x))) μ := by
  refine Sat.of (L := [some (.int x)]) (by decide) (fun _ => rfl) (fun _ => rfl) ?_
  refine go_il0 dJ6_bitCount_0f7a4_0 (go_il0 dJ6_bitCount_0f7a4_1 (go_ic1 dJ6_bitCount_0f7a4_2 (go_iushr dJ6_bitCount_0f7a4_3 (go_ldcw dJ6_bitCount_0f7a4_4 nJ6_265 (go_iand dJ6_bitCount_0f7a4_7 (go_isub dJ6_bitCount_0f7a4_8 (go_is0 dJ6_bitCount_0f7a4_9 rfl rfl (go_il0 dJ6_bitCount_0f7a4_10 (go_ldcw dJ6_bitCount_0f7a4_11 nJ6_266 (go_iand dJ6_bitCount_0f7a4_14 (go_il0 dJ6_bitCount_0f7a4_15 (go_ic2 dJ6_bitCount_0f7a4_16 (go_iushr dJ6_bitCount_0f7a4_17 ?_)))))))))))))
  refine go_ldcw dJ6_bitCount_0f7a4_18 nJ6_266 (go_iand dJ6_bitCount_0f7a4_21 (go_iadd dJ6_bitCount_0f7a4_22 (go_is0 dJ6_bitCount_0f7a4_23 rfl rfl (go_il0 dJ6_bitCount_0f7a4_24 (go_il0 dJ6_bitCount_0f7a4_25 (go_ic4 dJ6_bitCount_0f7a4_26 (go_iushr dJ6_bitCount_0f7a4_27 (go_iadd dJ6_bitCount_0f7a4_28 (go_ldcw dJ6_bitCount_0f7a4_29 nJ6_267 (go_iand dJ6_bitCount_0f7a4_32 (go_is0 dJ6_bitCount_0f7a4_33 rfl rfl (go_il0 dJ6_bitCount_0f7a4_34 (go_il0 dJ6_bitCount_0f7a4_35 ?_)))))))))))))
  refine go_bipush (v := 8) dJ6_bitCount_0f7a4_36 (by decide) (go_iushr dJ6_bitCount_0f7a4_38 (go_iadd dJ6_bitCount_0f7a4_39 (go_is0 dJ6_bitCount_0f7a4_40 rfl rfl (go_il0 dJ6_bitCount_0f7a4_41 (go_il0 dJ6_bitCount_0f7a4_42 (go_bipush (v := 16) dJ6_bitCount_0f7a4_43 (by decide) (go_iushr dJ6_bitCount_0f7a4_45 (go_iadd dJ6_bitCount_0f7a4_46 (go_is0 dJ6_bitCount_0f7a4_47 rfl rfl (go_il0 dJ6_bitCount_0f7a4_48 (go_bipush (v := 63) dJ6_bitCount_0f7a4_49 (by decide) (go_iand dJ6_bitCount_0f7a4_51 ?_))))))))))))
  refine go_iret dJ6_bitCount_0f7a4_52 ?_
  exact ⟨rfl, rfl⟩

set_option maxRecDepth 100000 in
set_option maxHeartbeats 4000000 in
theorem sJ7_fillI_loop {c n : Nat} (hs : gm_sh c = some (.inl (0, n))) (hn : n < 2 ^ 31) (v : Int32) (μ : gm_M) : ∀ k i : Nat, n - i = k → i ≤ n → Go yJ7_fill_53178 cJ7_fill_53178 4 none 0 5 [some (.ref c), some (.int v), some (.int (nI i)), some (.int (nI n))] [] (gm_fill μ c i v) (fun r μ' => r = none ∧ μ' = gm_fill μ c n v) := by
  intro k
  induction k using Nat.strongRecOn with
  | ind k ih =>
    intro i hk hi
    refine go_il2 dJ7_fill_53178_5 (go_il3 dJ7_fill_53178_6 ?_)
    refine go_cge 20 dJ7_fill_53178_7 (by decide) (fun h7 => ?_) (fun h7 => ?_)
    · refine go_vret dJ7_fill_53178_20 ?_
      have he : i = n := by
        have := (nI_leI hn (by omega)).mp h7
        omega
      subst he
      exact ⟨rfl, rfl⟩
    · have hlt : i < n := by
        rcases Nat.lt_or_ge i n with q | q
        · exact q
        · exact absurd (nI_le q (by omega)) h7
      refine go_al0 dJ7_fill_53178_10 (go_il2 dJ7_fill_53178_11 (go_il1 dJ7_fill_53178_12 (go_iast hs (vp_in_nI hlt hn) dJ7_fill_53178_13 (go_inc2 (k := 1) dJ7_fill_53178_14 (by decide) rfl rfl (go_goto 5 dJ7_fill_53178_17 (by decide) ?_)))))
      rw [nI_1, nI_clamp (by omega), gm_fill_s]
      exact ih (n - (i + 1)) (by omega) (i + 1) rfl (by omega)
set_option maxRecDepth 100000 in
set_option maxHeartbeats 400000 in
theorem sJ7_fillI {c n : Nat} (hs : gm_sh c = some (.inl (0, n))) (hn : n < 2 ^ 31) (v : Int32) (μ : gm_M) : Ret yJ7_fill_53178 cJ7_fill_53178 4 none 0 [(.ref c), (.int v)] μ none (gm_fill μ c n v) := by
  refine Sat.of (L := [some (.ref c), some (.int v), none, none]) (by decide) (fun _ => rfl) (fun _ => rfl) ?_
  refine go_ic0 dJ7_fill_53178_0 (go_is2 dJ7_fill_53178_1 rfl rfl (go_al0 dJ7_fill_53178_2 (go_alenI hs dJ7_fill_53178_3 (go_is3 dJ7_fill_53178_4 rfl rfl ?_))))
  have h0 := sJ7_fillI_loop hs hn v μ _ 0 rfl (Nat.zero_le _)
  rw [gm_fill_0, nI_0] at h0
  exact h0

set_option maxRecDepth 100000 in
set_option maxHeartbeats 4000000 in
theorem sJ7_fillJ_loop {c n : Nat} (hs : gm_sh c = some (.inl (1, n))) (hn : n < 2 ^ 31) (v : Int64) (μ : gm_M) : ∀ k i : Nat, n - i = k → i ≤ n → Go yJ7_fill_d0a16 cJ7_fill_d0a16 5 none 0 6 [some (.ref c), some (.long v), none, some (.int (nI i)), some (.int (nI n))] [] (gm_filJ μ c i v) (fun r μ' => r = none ∧ μ' = gm_filJ μ c n v) := by
  intro k
  induction k using Nat.strongRecOn with
  | ind k ih =>
    intro i hk hi
    refine go_il3 dJ7_fill_d0a16_6 (go_il4 dJ7_fill_d0a16_7 ?_)
    refine go_cge 22 dJ7_fill_d0a16_9 (by decide) (fun h9 => ?_) (fun h9 => ?_)
    · refine go_vret dJ7_fill_d0a16_22 ?_
      have he : i = n := by
        have := (nI_leI hn (by omega)).mp h9
        omega
      subst he
      exact ⟨rfl, rfl⟩
    · have hlt : i < n := by
        rcases Nat.lt_or_ge i n with q | q
        · exact q
        · exact absurd (nI_le q (by omega)) h9
      refine go_al0 dJ7_fill_d0a16_12 (go_il3 dJ7_fill_d0a16_13 (go_ll1 dJ7_fill_d0a16_14 (go_last hs (vp_in_nI hlt hn) dJ7_fill_d0a16_15 (go_inc3 (k := 1) dJ7_fill_d0a16_16 (by decide) rfl rfl (go_goto 6 dJ7_fill_d0a16_19 (by decide) ?_)))))
      rw [nI_1, nI_clamp (by omega), gm_filJ_s]
      exact ih (n - (i + 1)) (by omega) (i + 1) rfl (by omega)
set_option maxRecDepth 100000 in
set_option maxHeartbeats 400000 in
theorem sJ7_fillJ {c n : Nat} (hs : gm_sh c = some (.inl (1, n))) (hn : n < 2 ^ 31) (v : Int64) (μ : gm_M) : Ret yJ7_fill_d0a16 cJ7_fill_d0a16 5 none 0 [(.ref c), (.long v)] μ none (gm_filJ μ c n v) := by
  refine Sat.of (L := [some (.ref c), some (.long v), none, none, none]) (by decide) (fun _ => rfl) (fun _ => rfl) ?_
  refine go_ic0 dJ7_fill_d0a16_0 (go_is3 dJ7_fill_d0a16_1 rfl rfl (go_al0 dJ7_fill_d0a16_2 (go_alenJ hs dJ7_fill_d0a16_3 (go_is4 dJ7_fill_d0a16_4 rfl rfl ?_))))
  have h0 := sJ7_fillJ_loop hs hn v μ _ 0 rfl (Nat.zero_le _)
  rw [gm_filJ_0, nI_0] at h0
  exact h0

